def WR (kx : kSx) (kz : kSz) : Prop := ∀ i : Int32, ∃ b, ldx kx i = xv b ∧ ldz kz i = zv b
section ADDR
variable {c : Int32} {B : Int} {kx : kSx} {kz : kSz} {op ac ea : Int32}
theorem bit15 (i : Nat) (hi : i < 32) : (15 : Int32).toBitVec.getLsbD i = decide (i < 4) := by
  rw [show (15 : Int32).toBitVec = (BitVec.allOnes 4).setWidth 32 from by decide +kernel, BitVec.getLsbD_setWidth, BitVec.getLsbD_allOnes]
  simp [hi]
theorem bit511 (i : Nat) (hi : i < 32) : (511 : Int32).toBitVec.getLsbD i = decide (i < 9) := by
  rw [show (511 : Int32).toBitVec = (BitVec.allOnes 9).setWidth 32 from by decide +kernel, BitVec.getLsbD_setWidth, BitVec.getLsbD_allOnes]
  simp [hi]
theorem xsh_bit (b : BitVec 36) {s : Int64} {n : Nat} (h : s.toBitVec.smod 64 = BitVec.ofNat 64 n) (hn : n < 36) (i : Nat) (hi : i < 32) (hi2 : n + i < 36) : ((xv b) >>> s).toInt32.toBitVec.getLsbD i = b.getLsbD (n + i) := by
  rw [Int64.toBitVec_toInt32, BitVec.signExtend_eq_setWidth_of_le _ (by decide), l_shr _ _ n h (by omega), xv_bv, BitVec.getLsbD_setWidth, BitVec.getLsbD_sshiftRight, BitVec.getLsbD_signExtend]
  simp only [hi, show n + i < 64 by omega, hi2, show ¬ 64 ≤ i by omega, decide_true, decide_false, Bool.true_and, if_true, Bool.not_false]
theorem zsh_bit (b : BitVec 36) {s : Int64} {n : Nat} (h : s.toBitVec.smod 64 = BitVec.ofNat 64 n) (hn : n < 36) (i : Nat) (hi : i < 32) : ((zv b) >>> s).toInt32.toBitVec.getLsbD i = b.getLsbD (n + i) := by
  rw [Int64.toBitVec_toInt32, BitVec.signExtend_eq_setWidth_of_le _ (by decide), l_shr _ _ n h (by omega), zv_bv, BitVec.getLsbD_setWidth, BitVec.getLsbD_sshiftRight, BitVec.getLsbD_setWidth, BitVec.msb_setWidth]
  by_cases q : n + i < 64
  · simp [hi, q, show ¬ 64 ≤ i by omega]
  · simp [hi, q, BitVec.getLsbD_of_ge b (n + i) (by omega)]
theorem f15 (b : BitVec 36) {s : Int64} {n : Nat} (h : s.toBitVec.smod 64 = BitVec.ofNat 64 n) (hn : n + 4 ≤ 36) : ((((xv b) >>> s).toInt32) &&& (15 : Int32)) = ((((zv b) >>> s).toInt32) &&& (15 : Int32)) := by
  apply i_inj
  rw [Int32.toBitVec_and, Int32.toBitVec_and]
  apply BitVec.eq_of_getLsbD_eq; intro i hi
  rw [BitVec.getLsbD_and, BitVec.getLsbD_and, bit15 i hi]
  by_cases h4 : i < 4
  · rw [xsh_bit b h (by omega) i hi (by omega), zsh_bit b h (by omega) i hi]
  · simp [h4]
theorem f511 (b : BitVec 36) : ((((xv b) >>> ((27 : Int32).toInt64 &&& 63)).toInt32) &&& (511 : Int32)) = (((zv b) >>> ((27 : Int32).toInt64 &&& 63)).toInt32) := by
  apply i_inj
  rw [Int32.toBitVec_and]
  apply BitVec.eq_of_getLsbD_eq; intro i hi
  rw [BitVec.getLsbD_and, bit511 i hi, zsh_bit b (n := 27) (by decide) (by decide) i hi]
  by_cases h9 : i < 9
  · rw [xsh_bit b (n := 27) (by decide) (by decide) i hi (by omega)]; simp [h9]
  · rw [BitVec.getLsbD_of_ge b (27 + i) (by omega)]; simp [h9]
theorem rsum (a b : BitVec 36) : fx_right (xv a + xv b) = ((fz_right (zv a)) + (fz_right (zv b))) &&& (262143 : Int32) := by
  rw [rt_eq, rt_zv, rt_zv, and_half]
  congr 1
  rw [Int64.toBitVec_add, Int32.toBitVec_add, BitVec.setWidth_add _ _ (by decide), BitVec.setWidth_add _ _ (by decide), hw_18, hw_18]
  have e : ∀ b : BitVec 36, (xv b).toBitVec.setWidth 18 = RR b := by
    intro b
    have := rt_xv b
    rw [rt_eq] at this
    have q := congrArg (fun z : Int32 => z.toBitVec.setWidth 18) this
    simp only [hw_18] at q
    exact q
  rw [e, e]
theorem ind_c (b : BitVec 36) : (xv b &&& (4194304 : Int64)) = (0 : Int64) ↔ ((zv b >>> ((22 : Int32).toInt64 &&& 63)) &&& (1 : Int64)) = (0 : Int64) := by
  have e1 : (xv b &&& (4194304 : Int64)) = (0 : Int64) ↔ b.getLsbD 22 = false := by
    rw [show (4194304 : Int64) = xv (BitVec.twoPow 36 22) from by decide +kernel, xv_and, xv_eq0, BitVec.and_twoPow]
    cases b.getLsbD 22 with
    | false => simp
    | true => simp; decide
  have e2 : (zv b >>> ((22 : Int32).toInt64 &&& 63)) = zv (b >>> 22) := by
    apply l_inj
    rw [l_shr _ _ 22 (by decide) (by decide), zv_bv, zv_bv]
    apply BitVec.eq_of_getLsbD_eq; intro i hi
    rw [BitVec.getLsbD_sshiftRight, BitVec.getLsbD_setWidth, BitVec.getLsbD_setWidth, BitVec.getLsbD_ushiftRight, BitVec.msb_setWidth]
    by_cases q : 22 + i < 64
    · simp [hi, q, show ¬ 64 ≤ i by omega]
    · simp [hi, q, BitVec.getLsbD_of_ge b (22 + i) (by omega)]
  rw [e1, e2, show (1 : Int64) = zv (BitVec.twoPow 36 0) from by decide +kernel, zv_and, zv_eq0, BitVec.and_twoPow, BitVec.getLsbD_ushiftRight]
  cases b.getLsbD 22 with
  | false => simp
  | true => simp; decide
theorem x15_c (x : Int32) : ((x &&& (15 : Int32)) ≤ 0 ↔ (x &&& (15 : Int32)) = 0) := by
  obtain ⟨j, hj, e⟩ := pk_andE x (m := 15) 4 (by decide)
  rw [e, i32_le, show (0 : Int32).toInt = 0 from rfl, nI_toInt (by omega)]
  constructor
  · intro h
    rw [show j = 0 by omega]; rfl
  · intro h
    have := congrArg Int32.toInt h
    rw [nI_toInt (by omega), show (0 : Int32).toInt = 0 from rfl] at this
    omega
theorem half_EA (x : Int32) : EA (x &&& (262143 : Int32)) := by rw [and_half]; exact hw_EA _
theorem addr_c : ∀ (n : Nat) (b : BitVec 36) (v5 : Int32), WR kx kz → fx_address_5 n kx op ac ea (xv b) v5 = fz_address_5 n kz (zv b) v5 := by
  intro n
  induction n with
  | zero => intros; rfl
  | succ n ih =>
    intro b v5 h
    rw [fx_address_5, fz_address_5]
    by_cases h8 : (8 : Int32) < v5
    · rw [if_pos h8, if_pos h8]
    · rw [if_neg h8, if_neg h8, f15 b (n := 18) (by decide) (by decide)]
      have go : ∀ e : Int32, EA e → (if (xv b &&& (4194304 : Int64)) = (0 : Int64) then e else if (fx_isThere e) = 0 then (-1 : Int32) else fx_address_5 n kx op ac ea (ldx kx e) (v5 + 1)) = (if ((zv b >>> ((22 : Int32).toInt64 &&& 63)) &&& (1 : Int64)) = (0 : Int64) then e else if e < (4096 : Int32) then fz_address_5 n kz (ldz kz e) (v5 + 1) else (-1 : Int32)) := by
        intro e he
        by_cases hi : (xv b &&& (4194304 : Int64)) = (0 : Int64)
        · rw [if_pos hi, if_pos ((ind_c b).mp hi)]
        · rw [if_neg hi, if_neg (fun q => hi ((ind_c b).mpr q))]
          have ht : fx_isThere e = 0 ↔ ¬ e < (4096 : Int32) := by
            rw [there_i, i32_lt, show (4096 : Int32).toInt = 4096 from rfl]; have := he.1; omega
          by_cases hc : e < (4096 : Int32)
          · rw [if_neg (fun q => ht.mp q hc), if_pos hc]
            obtain ⟨b2, e1, e2⟩ := h e
            rw [e1, e2]; exact ih b2 _ h
          · rw [if_pos (ht.mpr hc), if_neg hc]
      by_cases hx : (((zv b >>> ((18 : Int32).toInt64 &&& 63)).toInt32) &&& (15 : Int32)) = 0
      · rw [if_pos hx, if_pos ((x15_c _).mpr hx), rt_xv, rt_zv]
        exact go _ (hw_EA _)
      · rw [if_neg hx, if_neg (fun q => hx ((x15_c _).mp q))]
        obtain ⟨b2, e1, e2⟩ := h (((zv b >>> ((18 : Int32).toInt64 &&& 63)).toInt32) &&& (15 : Int32))
        rw [e1, e2, rsum]
        exact go _ (half_EA _)
theorem addr_EA : ∀ (n : Nat) (v3 : Int64) (v5 : Int32), fx_address_5 n kx op ac ea v3 v5 = -1 ∨ EA (fx_address_5 n kx op ac ea v3 v5) := by
  intro n
  induction n with
  | zero => intro v3 v5; exact Or.inr (show EA 0 from ⟨by decide, by decide⟩)
  | succ n ih =>
    intro v3 v5
    rw [fx_address_5]
    by_cases h8 : (8 : Int32) < v5
    · rw [if_pos h8]; exact Or.inl rfl
    · rw [if_neg h8]
      have go : ∀ w : Int64, (if (v3 &&& (4194304 : Int64)) = (0 : Int64) then (fx_right w) else if (fx_isThere (fx_right w)) = 0 then (-1 : Int32) else fx_address_5 n kx op ac ea (ldx kx (fx_right w)) (v5 + 1)) = -1 ∨ EA (if (v3 &&& (4194304 : Int64)) = (0 : Int64) then (fx_right w) else if (fx_isThere (fx_right w)) = 0 then (-1 : Int32) else fx_address_5 n kx op ac ea (ldx kx (fx_right w)) (v5 + 1)) := by
        intro w
        by_cases hi : (v3 &&& (4194304 : Int64)) = (0 : Int64)
        · rw [if_pos hi]; exact Or.inr (half_EA _)
        · rw [if_neg hi]
          by_cases ht : (fx_isThere (fx_right w)) = 0
          · rw [if_pos ht]; exact Or.inl rfl
          · rw [if_neg ht]; exact ih _ _
      by_cases hx : (((v3 >>> ((18 : Int32).toInt64 &&& 63)).toInt32) &&& (15 : Int32)) = 0
      · rw [if_pos hx]; exact go _
      · rw [if_neg hx]; exact go _
end ADDR
