theorem sim_put {kx : kSx} {kz : kSz} (op ac ea a : Int32) (v : Int64) (h : Rel kx kz) : (fx_put kx op ac ea a v).1 = (fz_put kz a v).1 ∧ Rel (fx_put kx op ac ea a v).2 (fz_put kz a v).2 := by
  sorry
theorem sim_get {kx : kSx} {kz : kSz} (op ac ea a : Int32) (h : Rel kx kz) : fx_get kx op ac ea a = fz_get kz a := by
  sorry
theorem sim_look {kx : kSx} {kz : kSz} (op ac ea a : Int32) (h : Rel kx kz) : fx_look kx op ac ea a = fz_look kz a := by
  sorry
theorem sim_go {kx : kSx} {kz : kSz} (op ac ea a n f : Int32) (h : Rel kx kz) : (fx_go kx op ac ea a n f).1 = (fz_go kz a n f).1 ∧ Rel (fx_go kx op ac ea a n f).2.1 (fz_go kz a n f).2 := by
  sorry
theorem sim_good {kx : kSx} {kz : kSz} (a : Int32) (h : Rel kx kz) : ¬ (fz_in a.toInt64 (0 : Int64) (4095 : Int64)) = 0 → zgood 501 (vz_dn (vz_ct kz a) (0 : Int32)) ∧ zgood 501 (vz_dn (vz_ov (vz_ct kz a) (0 : Int32)) (0 : Int32)) := by
  sorry
