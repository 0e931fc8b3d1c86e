section BLT
variable {c : Int32} {B : Int} {kx : kSx} {kz : kSz} {op ac ea : Int32}
theorem there_i (a : Int32) : fx_isThere a = 0 ↔ ¬ (0 ≤ a.toInt ∧ a.toInt < 4096) := by
  constructor
  · intro h q
    unfold fx_isThere at h
    rw [if_neg (by rw [i32_lt]; show ¬ a.toInt < 0; omega), if_neg (by rw [i32_le, show (4096 : Int32).toInt = 4096 from rfl]; omega)] at h
    exact absurd h (by decide)
  · intro h
    by_cases q : fx_isThere a = 0
    · exact q
    · exact absurd (vin_o (vin_there q)) h
theorem mx0_i {e t : Int32} (he : EA e) (ht : EA t) : (fjm_max (e - t) (0 : Int32)).toInt = if t.toInt ≤ e.toInt then e.toInt - t.toInt else 0 := by
  have s : (e - t).toInt = e.toInt - t.toInt := t32_sub (by have := he.1; have := ht.2; omega) (by have := he.2; have := ht.1; omega)
  unfold fjm_max
  by_cases h : (e - t) < (0 : Int32)
  · rw [if_pos h]
    rw [i32_lt, s, show (0 : Int32).toInt = 0 from rfl] at h
    rw [if_neg (by omega)]; rfl
  · rw [if_neg h, s]
    rw [i32_lt, s, show (0 : Int32).toInt = 0 from rfl] at h
    rw [if_pos (by omega)]
theorem mxt_i {e t : Int32} : (fjm_max t e).toInt = if t.toInt ≤ e.toInt then e.toInt else t.toInt := by
  unfold fjm_max
  by_cases h : t < e
  · rw [if_pos h]; rw [i32_lt] at h; rw [if_pos (by omega)]
  · rw [if_neg h]; rw [i32_lt] at h
    by_cases q : t.toInt ≤ e.toInt
    · rw [if_pos q]; omega
    · rw [if_neg q]
theorem i32_acs (a b d : Int32) : (a + (b + d)) - b = a + d := by
  rw [Int32.add_comm b d, ← Int32.add_assoc, Int32.add_sub_cancel]
theorem blt_loop : ∀ (n : Nat) (kx : kSx) (kz : kSz) (v1 v2 v3 v4 v8 : Int32), RP c B kx kz → xbl v1 v2 v3 v4 → v4.toInt ≤ v3.toInt + 1 → v8.toInt = v2.toInt + v3.toInt → SM c B (fx_transferBlock_60 n kx op ac ea v1 v2 v3 v4) (fz_odd_125 n kz v1 v2 v8 (v2 + v4)) := by
  intro n
  induction n with
  | zero => intro kx kz v1 v2 v3 v4 v8 h _ _ _; exact ⟨rfl, h⟩
  | succ n ih =>
    intro kx kz v1 v2 v3 v4 v8 h hb h4 h8
    have hb' := hb
    unfold xbl at hb'
    have e24 : (v2 + v4).toInt = v2.toInt + v4.toInt := t32_add (by omega) (by omega)
    rw [fx_transferBlock_60, fz_odd_125]
    by_cases hc : v3 < v4
    · have hc2 : v8 < v2 + v4 := by rw [i32_lt] at hc ⊢; omega
      rw [if_pos hc, if_pos hc2]; exact ⟨rfl, h⟩
    · have hc2 : ¬ v8 < v2 + v4 := by rw [i32_lt] at hc ⊢; omega
      rw [if_neg hc, if_neg hc2, i32_acs, show v2 + v4 + 1 = v2 + (v4 + 1) from Int32.add_assoc _ _ _]
      obtain ⟨b, e1, e2⟩ := h.ld (v1 + v4)
      rw [e1, e2]
      have e41 : (v4 + 1).toInt = v4.toInt + 1 := i32_inc (by rw [i32_lt] at hc; omega)
      exact ih _ _ v1 v2 v3 (v4 + 1) v8 (h.st (v2 + v4) b) (xbl_back hb hc) (by rw [i32_lt] at hc; omega) h8
theorem blt_c (hE : EA ea) (h : RP c B kx kz) (hB : B ≤ 300000) : SM c 300000 (fx_transferBlock kx op ac ea) (fz_odd kz 169 ac ea) := by
  obtain ⟨a, e1, e2⟩ := h.ld ac
  unfold fx_transferBlock fz_odd
  rw [if_neg (show ¬ (169 : Int32) = 168 by decide), if_pos rfl, e1, e2, lt_xv, lt_zv, rt_xv, rt_zv]
  have hF := hw_EA (LL a)
  have hT := hw_EA (RR a)
  have m0 := mx0_i hE hT
  have mt := mxt_i (e := ea) (t := hw (RR a))
  have f1 := hF.1; have f2 := hF.2; have t1 := hT.1; have t2 := hT.2; have q1 := hE.1; have q2 := hE.2
  have eL : (fjm_max (hw (RR a)) ea).toInt = (hw (RR a)).toInt + (fjm_max (ea - hw (RR a)) (0 : Int32)).toInt := by
    rw [m0, mt]; split <;> omega
  have m0b : 0 ≤ (fjm_max (ea - hw (RR a)) (0 : Int32)).toInt ∧ (fjm_max (ea - hw (RR a)) (0 : Int32)).toInt < 262144 := by rw [m0]; split <;> omega
  generalize hM : fjm_max (ea - hw (RR a)) (0 : Int32) = M at *
  generalize hLa : fjm_max (hw (RR a)) ea = La at *
  generalize hw (LL a) = F at *
  generalize hw (RR a) = T at *
  have sF : (F + M).toInt = F.toInt + M.toInt := t32_add (by omega) (by omega)
  have sT : (T + M).toInt = T.toInt + M.toInt := t32_add (by omega) (by omega)
  have sFL : (F + La).toInt = F.toInt + La.toInt := t32_add (by omega) (by omega)
  have sFLT : (F + La - T).toInt = F.toInt + La.toInt - T.toInt := by rw [t32_sub (by omega) (by omega), sFL]
  have cF : fx_isThere (F + M) = 0 ↔ ¬ F.toInt + M.toInt < 4096 := by rw [there_i, sF]; omega
  have cT : fx_isThere (T + M) = 0 ↔ ¬ T.toInt + M.toInt < 4096 := by rw [there_i, sT]; omega
  have cL : (4096 : Int32) ≤ La ↔ ¬ T.toInt + M.toInt < 4096 := by rw [i32_le, show (4096 : Int32).toInt = 4096 from rfl]; omega
  have cG : (F + La - T) < (4096 : Int32) ↔ F.toInt + M.toInt < 4096 := by rw [i32_lt, show (4096 : Int32).toInt = 4096 from rfl, sFLT]; omega
  by_cases hT2 : T.toInt + M.toInt < 4096
  · rw [if_neg (fun q => cL.mp q hT2)]
    by_cases hF2 : F.toInt + M.toInt < 4096
    · rw [if_neg (fun q => cF.mp q hF2), if_neg (fun q => cT.mp q hT2), if_pos (cG.mpr hF2)]
      have z := blt_loop (op := op) (ac := ac) (ea := ea) 4097 kx kz F T M 0 La h ⟨f1, t1, m0b.1, by decide, hF2, hT2⟩ (by rw [show (0 : Int32).toInt = 0 from rfl]; omega) eL
      rw [show T + (0 : Int32) = T from Int32.add_zero T] at z
      exact z.mono hB
    · rw [if_pos (cF.mpr hF2), if_neg (fun q => hF2 (cG.mp q))]; exact ⟨rfl, h.mono hB⟩
  · rw [if_pos (cL.mpr hT2)]
    by_cases hF2 : F.toInt + M.toInt < 4096
    · rw [if_neg (fun q => cF.mp q hF2), if_pos (cT.mpr hT2)]; exact ⟨rfl, h.mono hB⟩
    · rw [if_pos (cF.mpr hF2)]; exact ⟨rfl, h.mono hB⟩
end BLT
