theorem sim_put {kx : kSx} {kz : kSz} (op ac ea a : Int32) (v : Int64) (h : Rel kx kz) : (fx_put kx op ac ea a v).1 = (fz_put kz a v).1 ∧ Rel (fx_put kx op ac ea a v).2 (fz_put kz a v).2 := by
  sorry
theorem sim_get {kx : kSx} {kz : kSz} (op ac ea a : Int32) (h : Rel kx kz) : fx_get kx op ac ea a = fz_get kz a := by
  sorry
theorem sim_look {kx : kSx} {kz : kSz} (op ac ea a : Int32) (h : Rel kx kz) : fx_look kx op ac ea a = fz_look kz a := by
  sorry
theorem sim_go {kx : kSx} {kz : kSz} (op ac ea a n f : Int32) (h : Rel kx kz) : (fx_go kx op ac ea a n f).1 = (fz_go kz a n f).1 ∧ Rel (fx_go kx op ac ea a n f).2.1 (fz_go kz a n f).2 := by
  sorry
