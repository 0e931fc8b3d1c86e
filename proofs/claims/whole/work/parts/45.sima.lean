section SIMA
variable {c : Int32} {B : Int} {kx : kSx} {kz : kSz} {op ac ea : Int32}
theorem xv_fix (v : Int64) : xv (NN v) = v ↔ (-34359738368 ≤ v.toInt ∧ v.toInt < 34359738368) :=
  ⟨fun e => by rw [← e]; exact ⟨xv_lo _, xv_hi _⟩, fun h => (xv_of h.1 h.2).symm⟩
theorem low_int : (-34359738368 : Int64).toInt = -34359738368 := by decide +kernel
theorem neg_int (b : BitVec 36) : (-(xv b)).toInt = -((xv b).toInt) := by
  have h1 := xv_lo b; have h2 := xv_hi b
  rw [Int64.toInt_neg]; exact Int.bmod_eq_of_le (by omega) (by omega)
theorem neg_c (b : BitVec 36) : xv (NN (-(xv b))) = -(xv b) ↔ ¬ xv b = (-34359738368 : Int64) := by
  rw [xv_fix, neg_int]
  have h1 := xv_lo b; have h2 := xv_hi b
  constructor
  · intro h e
    have := congrArg Int64.toInt e
    rw [low_int] at this; omega
  · intro h
    have : ¬ (xv b).toInt = -34359738368 := fun e => h (Int64.toInt_inj.mp (by rw [e, low_int]))
    omega
theorem neg_ov (h : RP c B kx kz) (b : BitVec 36) : RP c B (if xv (NN (-(xv b))) = -(xv b) then kx else vx_ov kx (1 : Int32)) (if xv b = (-34359738368 : Int64) then vz_ov kz (1 : Int32) else kz) := by
  by_cases h1 : xv b = (-34359738368 : Int64)
  · rw [if_pos h1, if_neg (fun e => (neg_c b).mp e h1)]; exact h.ov 1
  · rw [if_neg h1, if_pos ((neg_c b).mpr h1)]; exact h
theorem t34_c (b : BitVec 36) : fz_turned_34 kz (xv b) = (zv (NN (-(xv b))), if xv b = (-34359738368 : Int64) then vz_ov kz (1 : Int32) else kz) := by
  unfold fz_turned_34
  rw [and_all]
  by_cases h1 : xv b = (-34359738368 : Int64)
  · rw [if_pos h1, if_pos h1]
  · rw [if_neg h1, if_neg h1]
theorem tu0 (b : BitVec 36) : fz_turned kz 0 (zv b) = (zv b, kz) := by
  unfold fz_turned; rw [if_neg (show ¬ (0 : Int32) = 1 by decide), if_pos rfl]
theorem tu1 (b : BitVec 36) : fz_turned kz 1 (zv b) = (zv (JJ (RR b) (LL b)), kz) := by
  unfold fz_turned; rw [if_pos rfl, sw_zv]
theorem tu2 (b : BitVec 36) : fz_turned kz 2 (zv b) = fz_turned_34 kz (xv b) := by
  unfold fz_turned; rw [if_neg (show ¬ (2 : Int32) = 1 by decide), if_neg (show ¬ (2 : Int32) = 0 by decide), if_neg (show ¬ (2 : Int32) = 3 by decide), zsgn_eq]
theorem tu3 (b : BitVec 36) : fz_turned kz 3 (zv b) = if xv b < (0 : Int64) then fz_turned_34 kz (xv b) else (zv b, kz) := by
  unfold fz_turned; rw [if_neg (show ¬ (3 : Int32) = 1 by decide), if_neg (show ¬ (3 : Int32) = 0 by decide), if_pos rfl, zsgn_eq]
/-- MOVE, MOVS, MOVN, MOVM with the word taken -/
theorem move33_c (hA : AC ac) (h : RP c B kx kz) (b : BitVec 36) {how : Int32} (f1 : (op &&& (508 : Int32)) = 132 ↔ how = 1) (f2 : (op &&& (508 : Int32)) = 136 ↔ how = 2) (f3 : (op &&& (508 : Int32)) = 140 ↔ how = 3) (f0 : how = 0 ∨ how = 1 ∨ how = 2 ∨ how = 3) :
    SM c B (fx_move_33 kx op ac ea (xv b)) (fz_move_49 kz (op &&& (3 : Int32)) ac ea how (zv b)) := by
  show SM c B _ (zss (fz_turned kz how (zv b)).2 (op &&& (3 : Int32)) ac ea (fz_turned kz how (zv b)).1)
  unfold fx_move_33 fx_move_106 fx_family
  rcases f0 with e | e | e | e
  · have n1 : ¬ (op &&& (508 : Int32)) = 132 := fun q => absurd (f1.mp q) (by rw [e]; decide)
    have n2 : ¬ (op &&& (508 : Int32)) = 136 := fun q => absurd (f2.mp q) (by rw [e]; decide)
    have n3 : ¬ (op &&& (508 : Int32)) = 140 := fun q => absurd (f3.mp q) (by rw [e]; decide)
    rw [if_neg n1, if_neg n2, if_neg n3, e, tu0]
    exact ss_c hA h b
  · rw [if_pos (f1.mpr e), e, sw_xv, tu1]
    exact ss_c hA h _
  · have n1 : ¬ (op &&& (508 : Int32)) = 132 := fun q => absurd (f1.mp q) (by rw [e]; decide)
    rw [if_neg n1, if_pos (f2.mpr e), e, res_c, tu2, t34_c]
    exact ss_c hA (neg_ov h b) _
  · have n1 : ¬ (op &&& (508 : Int32)) = 132 := fun q => absurd (f1.mp q) (by rw [e]; decide)
    have n2 : ¬ (op &&& (508 : Int32)) = 136 := fun q => absurd (f2.mp q) (by rw [e]; decide)
    rw [if_neg n1, if_neg n2, if_pos (f3.mpr e), e, tu3]
    by_cases hn : (0 : Int64) ≤ xv b
    · rw [if_pos hn, if_neg (by rw [Int64.lt_iff_toInt_lt]; rw [Int64.le_iff_toInt_le] at hn; omega), res_c, NN_xv, if_pos rfl]
      exact ss_c hA h b
    · rw [if_neg hn, if_pos (by rw [Int64.lt_iff_toInt_lt]; rw [Int64.le_iff_toInt_le] at hn; omega), res_c, t34_c]
      exact ss_c hA (neg_ov h b) _
theorem move_c (hA : AC ac) (hE : EA ea) (h : RP c B kx kz) {how : Int32} (f1 : (op &&& (508 : Int32)) = 132 ↔ how = 1) (f2 : (op &&& (508 : Int32)) = 136 ↔ how = 2) (f3 : (op &&& (508 : Int32)) = 140 ↔ how = 3) (f0 : how = 0 ∨ how = 1 ∨ how = 2 ∨ how = 3) :
    SM c B (fx_move kx op ac ea) (fz_move kz how (op &&& (3 : Int32)) ac ea) := by
  unfold fx_move fz_move
  refine gate hE h ?_
  unfold fz_move_15 fx_mode
  by_cases h1 : (op &&& (3 : Int32)) = (1 : Int32)
  · rw [if_pos h1, if_neg (show ¬ (op &&& (3 : Int32)) = (2 : Int32) by rw [h1]; decide)]
    obtain ⟨b, e1, e2⟩ := operand_c (op := op) (ac := ac) hE h
    rw [if_pos h1] at e2
    rw [e1, e2]
    exact move33_c hA h b f1 f2 f3 f0
  · rw [if_neg h1]
    by_cases h2 : (op &&& (3 : Int32)) = (2 : Int32)
    · rw [if_pos h2, if_pos h2]
      obtain ⟨b, e1, e2⟩ := h.ld ac
      rw [e1, e2]
      exact move33_c hA h b f1 f2 f3 f0
    · rw [if_neg h2, if_neg h2]
      obtain ⟨b, e1, e2⟩ := operand_c (op := op) (ac := ac) hE h
      rw [if_neg h1] at e2
      rw [e1, e2]
      exact move33_c hA h b f1 f2 f3 f0
/-- the reference's two operands -/
theorem reck15 (hE : EA ea) (h : RP c B kx kz) (w : Int32) : ∃ b1 b2, ldx kx ac = xv b1 ∧ fx_operand kx op ac ea = xv b2 ∧ fz_reckon_15 kz w (op &&& (3 : Int32)) ac ea = fz_reckon_47 kz w (op &&& (3 : Int32)) ac ea (xv b1) (xv b2) := by
  obtain ⟨b1, e1, e2⟩ := h.ld ac
  obtain ⟨b2, e3, e4⟩ := operand_c (op := op) (ac := ac) hE h
  refine ⟨b1, b2, e1, e3, ?_⟩
  unfold fz_reckon_15
  rw [e2, zsgn_eq]
  by_cases h1 : (op &&& (3 : Int32)) = (1 : Int32)
  · rw [if_pos h1]
    have : fx_operand kx op ac ea = ea.toInt64 := by unfold fx_operand fx_mode; rw [if_pos h1]
    rw [← this, e3]
  · rw [if_neg h1]
    rw [if_neg h1] at e4
    rw [e4, zsgn_eq]
theorem r206_c (h : RP c B kx kz) (v : Int64) : SM c B (fx_storeBoth kx op ac ea (xv (NN v))) (fz_reckon_206 kz (op &&& (3 : Int32)) ac ea v) := by
  obtain ⟨e1, e2⟩ := sb_c (op := op) (ac := ac) (ea := ea) h (NN v) (and_all v)
  exact ⟨e1, e2⟩
theorem r191_c (h : RP c B kx kz) (v : Int64) : SM c B (fx_storeBoth (fx_result kx op ac ea v).2 op ac ea (fx_result kx op ac ea v).1) (fz_reckon_191 kz (op &&& (3 : Int32)) ac ea v) := by
  rw [res_c]
  have e : fz_reckon_191 kz (op &&& (3 : Int32)) ac ea v = fz_reckon_206 (if fz_fits v = 0 then vz_ov kz (1 : Int32) else kz) (op &&& (3 : Int32)) ac ea v := by
    unfold fz_reckon_191
    by_cases h1 : fz_fits v = 0
    · rw [if_pos h1, if_pos h1]
    · rw [if_neg h1, if_neg h1]
  rw [e]
  exact r206_c (fit_ov h v) v
theorem div_int (b1 b2 : BitVec 36) : ((xv b1) / (xv b2)).toInt = (xv b1).toInt.tdiv (xv b2).toInt := by
  refine Int64.toInt_div_of_ne_left _ _ (fun e => ?_)
  have := congrArg Int64.toInt e
  have h1 := xv_lo b1
  rw [show Int64.minValue.toInt = -9223372036854775808 from by decide +kernel] at this
  omega
theorem tdiv_b {x y : Int} (hx1 : -34359738368 ≤ x) (hx2 : x < 34359738368) (hy : y ≠ 0) (hn : ¬ (x = -34359738368 ∧ y = -1)) : -34359738368 ≤ x.tdiv y ∧ x.tdiv y < 34359738368 := by
  have e : (x.tdiv y).natAbs = x.natAbs / y.natAbs := Int.natAbs_tdiv x y
  have hy1 : 1 ≤ y.natAbs := by omega
  by_cases h1 : y.natAbs = 1
  · rcases (show y = 1 ∨ y = -1 by omega) with q | q
    · rw [q, Int.tdiv_one]; exact ⟨hx1, hx2⟩
    · rw [q, Int.tdiv_neg, Int.tdiv_one]
      have : x ≠ -34359738368 := fun z => hn ⟨z, q⟩
      omega
  · have h2 : x.natAbs / y.natAbs ≤ x.natAbs / 2 := Nat.div_le_div_left (by omega) (by decide)
    omega
theorem rem_int (b1 b2 : BitVec 36) : ((xv b1) - (xv b1) / (xv b2) * (xv b2)).toInt = (xv b1).toInt.tmod (xv b2).toInt := by
  have e := div_int b1 b2
  have l1 := xv_lo b1; have l2 := xv_hi b1; have l3 := xv_lo b2; have l4 := xv_hi b2
  have k := Int.mul_tdiv_add_tmod (xv b1).toInt (xv b2).toInt
  have m1 : ((xv b1).toInt.tmod (xv b2).toInt).natAbs ≤ (xv b1).toInt.natAbs := by
    rw [Int.natAbs_tmod]; exact Nat.mod_le _ _
  have e2 : ((xv b1) / (xv b2) * (xv b2)).toInt = (xv b1).toInt.tdiv (xv b2).toInt * (xv b2).toInt := by
    rw [Int64.toInt_mul, e]
    refine Int.bmod_eq_of_le ?_ ?_
    · rw [Int.mul_comm]; omega
    · rw [Int.mul_comm]; omega
  rw [Int64.toInt_sub, e2, Int.mul_comm, Int.bmod_eq_of_le (by omega) (by omega)]
  omega
theorem tmod_b {x y : Int} (hy0 : y ≠ 0) (hy1 : -34359738368 ≤ y) (hy2 : y < 34359738368) : -34359738368 ≤ x.tmod y ∧ x.tmod y < 34359738368 := by
  have e : (x.tmod y).natAbs = x.natAbs % y.natAbs := Int.natAbs_tmod x y
  have : x.natAbs % y.natAbs < y.natAbs := Nat.mod_lt _ (by omega)
  omega
theorem div53_c (h : RP c B kx kz) (b1 b2 : BitVec 36) (h0 : ¬ xv b2 = 0) (hn : ¬ (xv b1 = (-34359738368 : Int64) ∧ xv b2 = -1)) : SM c B (fx_divide_53 kx op ac ea (xv b1) (xv b2)) (fz_reckon_87 kz (op &&& (3 : Int32)) ac ea (xv b1) (xv b2)) := by
  have y0 : (xv b2).toInt ≠ 0 := fun e => h0 (Int64.toInt_inj.mp (by rw [e]; rfl))
  have yn : ¬ ((xv b1).toInt = -34359738368 ∧ (xv b2).toInt = -1) := fun e => hn ⟨Int64.toInt_inj.mp (by rw [e.1, low_int]), Int64.toInt_inj.mp (by rw [e.2]; rfl)⟩
  have d := tdiv_b (xv_lo b1) (xv_hi b1) y0 yn
  have r := tmod_b (x := (xv b1).toInt) y0 (xv_lo b2) (xv_hi b2)
  have ed : xv b1 / xv b2 = xv (NN (xv b1 / xv b2)) := xv_of (by rw [div_int]; exact d.1) (by rw [div_int]; exact d.2)
  have er : xv b1 - xv b1 / xv b2 * xv b2 = xv (NN (xv b1 - xv b1 / xv b2 * xv b2)) := xv_of (by rw [rem_int]; exact r.1) (by rw [rem_int]; exact r.2)
  have s := sb_c (op := op) (ac := ac) (ea := ea) h (NN (xv b1 / xv b2)) (and_all (xv b1 / xv b2))
  rw [← ed] at s
  unfold fx_divide_53 fz_reckon_87 fx_mode fx_acAfter
  by_cases h2 : (op &&& (3 : Int32)) = (2 : Int32)
  · rw [if_pos h2, if_pos h2]; exact ⟨rfl, s.2⟩
  · rw [if_neg h2, if_neg h2, and_all]
    refine ⟨rfl, ?_⟩
    have q := s.2.st ((ac + (1 : Int32)) &&& (15 : Int32)) (NN (xv b1 - xv b1 / xv b2 * xv b2))
    rw [← er] at q
    exact q
theorem divide_c (hE : EA ea) (h : RP c B kx kz) : SM c B (fx_divide kx op ac ea) (fz_reckon kz 38 (op &&& (3 : Int32)) ac ea) := by
  unfold fx_divide fz_reckon
  refine gate hE h ?_
  obtain ⟨b1, b2, e1, e2, e3⟩ := reck15 (op := op) (ac := ac) hE h 38
  rw [e3, e1, e2]
  unfold fz_reckon_47 fz_reckon_80 fx_divide_46
  rw [if_pos rfl]
  by_cases h0 : xv b2 = 0
  · rw [if_pos h0, if_pos h0]; exact ⟨rfl, h.ov 1⟩
  · rw [if_neg h0, if_neg h0]
    by_cases h1 : xv b2 = -1
    · by_cases h2 : xv b1 = (-34359738368 : Int64)
      · rw [if_pos h1, if_pos h2, if_pos h2, if_pos h1]; exact ⟨rfl, h.ov 1⟩
      · rw [if_pos h1, if_neg h2, if_neg h2]; exact div53_c h b1 b2 h0 (fun q => h2 q.1)
    · rw [if_neg h1]
      by_cases h2 : xv b1 = (-34359738368 : Int64)
      · rw [if_pos h2, if_neg h1]; exact div53_c h b1 b2 h0 (fun q => h1 q.2)
      · rw [if_neg h2]; exact div53_c h b1 b2 h0 (fun q => h1 q.2)
theorem add_c (hE : EA ea) (h : RP c B kx kz) (hf : (op &&& (508 : Int32)) = 184) : SM c B (fx_calculate kx op ac ea) (fz_reckon kz 46 (op &&& (3 : Int32)) ac ea) := by
  unfold fx_calculate fz_reckon
  refine gate hE h ?_
  obtain ⟨b1, b2, e1, e2, e3⟩ := reck15 (op := op) (ac := ac) hE h 46
  rw [e3, e1, e2]
  unfold fz_reckon_47 fx_family
  rw [if_pos hf, if_neg (show ¬ (46 : Int32) = 38 by decide), if_neg (show ¬ (46 : Int32) = 36 by decide), if_pos rfl]
  exact r191_c h _
theorem sub_c (hE : EA ea) (h : RP c B kx kz) (hf : (op &&& (508 : Int32)) = 188) : SM c B (fx_calculate kx op ac ea) (fz_reckon kz 47 (op &&& (3 : Int32)) ac ea) := by
  unfold fx_calculate fz_reckon
  refine gate hE h ?_
  obtain ⟨b1, b2, e1, e2, e3⟩ := reck15 (op := op) (ac := ac) hE h 47
  rw [e3, e1, e2]
  unfold fz_reckon_47 fx_family
  rw [if_neg (show ¬ (op &&& (508 : Int32)) = 184 by rw [hf]; decide), if_pos hf, if_neg (show ¬ (47 : Int32) = 38 by decide), if_neg (show ¬ (47 : Int32) = 36 by decide), if_neg (show ¬ (47 : Int32) = 46 by decide)]
  exact r191_c h _
end SIMA
