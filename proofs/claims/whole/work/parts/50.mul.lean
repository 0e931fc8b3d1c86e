section MUL
variable {c : Int32} {B : Int} {kx : kSx} {kz : kSz} {op ac ea : Int32}
theorem l_sar (v : Int64) {s : Int64} (n : Nat) (h : s.toBitVec.smod 64 = BitVec.ofNat 64 n) (hn : n < 64) : (v >>> s).toInt = v.toInt / (2 ^ n : Nat) := by
  show (v >>> s).toBitVec.toInt = _
  rw [l_shr _ _ n h hn, BitVec.toInt_sshiftRight]
  show v.toInt >>> n = _
  rw [Int.shiftRight_eq_div_pow]
theorem l_nat (v : Int64) : v.toInt = if v.toBitVec.toNat < 9223372036854775808 then (v.toBitVec.toNat : Int) else (v.toBitVec.toNat : Int) - 18446744073709551616 := by
  show v.toBitVec.toInt = _
  rw [BitVec.toInt_eq_toNat_cond]
  by_cases h : v.toBitVec.toNat < 9223372036854775808
  · rw [if_pos h, if_pos (by omega)]
  · rw [if_neg h, if_neg (by omega)]; rfl
theorem l_m32 (v : Int64) : (v &&& (4294967295 : Int64)).toInt = v.toInt % 4294967296 := by
  have e : (v &&& (4294967295 : Int64)).toBitVec.toNat = v.toBitVec.toNat % 4294967296 := by
    rw [Int64.toBitVec_and, BitVec.toNat_and, show (4294967295 : Int64).toBitVec.toNat = 2 ^ 32 - 1 from by decide +kernel, Nat.and_two_pow_sub_one_eq_mod]
  rw [l_nat (v &&& (4294967295 : Int64)), e, if_pos (by omega), l_nat v]
  have := v.toBitVec.isLt
  split <;> omega
theorem l_u32 (v : Int64) : ((v.toUInt64 >>> ((32 : Int32).toInt64.toUInt64 &&& Int64.toUInt64 63)).toInt64).toInt = ((v.toBitVec.toNat / 4294967296 : Nat) : Int) := by
  have e : ((v.toUInt64 >>> ((32 : Int32).toInt64.toUInt64 &&& Int64.toUInt64 63)).toInt64).toBitVec = v.toBitVec >>> 32 := by
    rw [UInt64.toBitVec_toInt64, UInt64.toBitVec_shiftRight]
    show v.toBitVec >>> (((32 : Int32).toInt64.toUInt64 &&& Int64.toUInt64 63).toBitVec % 64) = _
    rw [show (((32 : Int32).toInt64.toUInt64 &&& Int64.toUInt64 63).toBitVec % 64) = 32#64 from by decide +kernel, BitVec.ushiftRight_eq']
    rfl
  rw [l_nat, e, BitVec.toNat_ushiftRight, Nat.shiftRight_eq_div_pow]
  have := v.toBitVec.isLt
  rw [if_pos (by omega)]
theorem i64_add {x y : Int64} (h1 : -9223372036854775808 ≤ x.toInt + y.toInt) (h2 : x.toInt + y.toInt < 9223372036854775808) : (x + y).toInt = x.toInt + y.toInt := by
  rw [Int64.toInt_add]; exact Int.bmod_eq_of_le (by omega) (by omega)
theorem i64_mul {x y : Int64} {p : Int} (e : x.toInt * y.toInt = p) (h1 : -9223372036854775808 ≤ p) (h2 : p < 9223372036854775808) : (x * y).toInt = p := by
  rw [Int64.toInt_mul, e]; exact Int.bmod_eq_of_le (by omega) (by omega)
theorem mul_bd {a y : Int} (h1 : -8 ≤ a) (h2 : a ≤ 8) (h3 : 0 ≤ y) (h4 : y < 4294967296) : -34359738368 ≤ a * y ∧ a * y ≤ 34359738368 := by
  have p1 : a * y ≤ 8 * y := Int.mul_le_mul_of_nonneg_right h2 h3
  have p2 : -8 * y ≤ a * y := Int.mul_le_mul_of_nonneg_right h1 h3
  omega
theorem mul_bd8 {a y : Int} (h1 : -8 ≤ a) (h2 : a ≤ 8) (h3 : -8 ≤ y) (h4 : y ≤ 8) : -64 ≤ a * y ∧ a * y ≤ 64 := by
  rcases (show a = -8 ∨ a = -7 ∨ a = -6 ∨ a = -5 ∨ a = -4 ∨ a = -3 ∨ a = -2 ∨ a = -1 ∨ a = 0 ∨ a = 1 ∨ a = 2 ∨ a = 3 ∨ a = 4 ∨ a = 5 ∨ a = 6 ∨ a = 7 ∨ a = 8 by omega) with e | e | e | e | e | e | e | e | e | e | e | e | e | e | e | e | e <;> subst e <;> omega
theorem mh_eq (a b : BitVec 36) : (fjm_multiplyHigh (xv a) (xv b)).toInt = ((xv a).toInt * (xv b).toInt) / 18446744073709551616 := by
  have a1 := xv_lo a; have a2 := xv_hi a; have b1 := xv_lo b; have b2 := xv_hi b
  generalize hx : (xv a).toInt = x at *
  generalize hy : (xv b).toInt = y at *
  obtain ⟨x1, hx1⟩ : ∃ x1, x1 = x / 4294967296 := ⟨_, rfl⟩
  obtain ⟨x2, hx2⟩ : ∃ x2, x2 = x % 4294967296 := ⟨_, rfl⟩
  obtain ⟨y1, hy1⟩ : ∃ y1, y1 = y / 4294967296 := ⟨_, rfl⟩
  obtain ⟨y2, hy2⟩ : ∃ y2, y2 = y % 4294967296 := ⟨_, rfl⟩
  have X : x = x1 * 4294967296 + x2 := by omega
  have Y : y = y1 * 4294967296 + y2 := by omega
  have bx1 : -8 ≤ x1 ∧ x1 ≤ 8 := by omega
  have by1 : -8 ≤ y1 ∧ y1 ≤ 8 := by omega
  have bx2 : 0 ≤ x2 ∧ x2 < 4294967296 := by omega
  have by2 : 0 ≤ y2 ∧ y2 < 4294967296 := by omega
  have t1 : ((xv a) >>> ((32 : Int32).toInt64 &&& 63)).toInt = x1 := by rw [l_sar _ 32 (by decide) (by decide), hx, hx1]; rfl
  have t2 : ((xv b) >>> ((32 : Int32).toInt64 &&& 63)).toInt = y1 := by rw [l_sar _ 32 (by decide) (by decide), hy, hy1]; rfl
  have t3 : ((xv a) &&& (4294967295 : Int64)).toInt = x2 := by rw [l_m32, hx, hx2]
  have t4 : ((xv b) &&& (4294967295 : Int64)).toInt = y2 := by rw [l_m32, hy, hy2]
  have m1 := mul_bd bx1.1 bx1.2 by2.1 by2.2
  have m2 := mul_bd by1.1 by1.2 bx2.1 bx2.2
  have m3 := mul_bd8 bx1.1 bx1.2 by1.1 by1.2
  have m4 : 0 ≤ x2 * y2 := Int.mul_nonneg bx2.1 by2.1
  have m5 : x2 * y2 < 18446744073709551616 := by
    have q1 : x2 * y2 ≤ 4294967295 * y2 := Int.mul_le_mul_of_nonneg_right (by omega) by2.1
    omega
  have d1 : (((xv a) &&& (4294967295 : Int64)) * ((xv b) &&& (4294967295 : Int64))).toBitVec.toNat = (x2 * y2).toNat := by
    have e := l_nat (((xv a) &&& (4294967295 : Int64)) * ((xv b) &&& (4294967295 : Int64)))
    rw [Int64.toInt_mul, t3, t4, Int.bmod_def] at e
    have := (((xv a) &&& (4294967295 : Int64)) * ((xv b) &&& (4294967295 : Int64))).toBitVec.isLt
    generalize x2 * y2 = w at *
    split at e <;> split at e <;> omega
  have u1 := l_u32 (((xv a) &&& (4294967295 : Int64)) * ((xv b) &&& (4294967295 : Int64)))
  rw [d1] at u1
  have PP : x * y = x1 * y1 * 18446744073709551616 + x1 * y2 * 4294967296 + y1 * x2 * 4294967296 + x2 * y2 := by
    rw [X, Y]; grind
  generalize hd : x2 * y2 = d at *
  generalize h12 : x1 * y2 = e12 at *
  generalize h21 : y1 * x2 = e21 at *
  generalize h11 : x1 * y1 = e11 at *
  rw [PP]
  unfold fjm_multiplyHigh
  generalize hU : (((((xv a) &&& (4294967295 : Int64)) * ((xv b) &&& (4294967295 : Int64))).toUInt64 >>> ((32 : Int32).toInt64.toUInt64 &&& Int64.toUInt64 63)).toInt64) = U at *
  have k12 : (((xv a) >>> ((32 : Int32).toInt64 &&& 63)) * ((xv b) &&& (4294967295 : Int64))).toInt = e12 := i64_mul (by rw [t1, t4, h12]) (by omega) (by omega)
  have k21 : (((xv a) &&& (4294967295 : Int64)) * ((xv b) >>> ((32 : Int32).toInt64 &&& 63))).toInt = e21 := i64_mul (by rw [t3, t2, Int.mul_comm, h21]) (by omega) (by omega)
  have k11 : (((xv a) >>> ((32 : Int32).toInt64 &&& 63)) * ((xv b) >>> ((32 : Int32).toInt64 &&& 63))).toInt = e11 := i64_mul (by rw [t1, t2, h11]) (by omega) (by omega)
  have s1 : ((((xv a) >>> ((32 : Int32).toInt64 &&& 63)) * ((xv b) &&& (4294967295 : Int64))) + U).toInt = e12 + ((d.toNat / 4294967296 : Nat) : Int) := by
    rw [i64_add (by rw [k12, u1]; omega) (by rw [k12, u1]; omega), k12, u1]
  generalize ((((xv a) >>> ((32 : Int32).toInt64 &&& 63)) * ((xv b) &&& (4294967295 : Int64))) + U) = T at *
  have s2 : (T &&& (4294967295 : Int64)).toInt = T.toInt % 4294967296 := l_m32 T
  have s3 : (T >>> ((32 : Int32).toInt64 &&& 63)).toInt = T.toInt / 4294967296 := by rw [l_sar _ 32 (by decide) (by decide)]; rfl
  have s4 : ((T &&& (4294967295 : Int64)) + (((xv a) &&& (4294967295 : Int64)) * ((xv b) >>> ((32 : Int32).toInt64 &&& 63)))).toInt = T.toInt % 4294967296 + e21 := by
    rw [i64_add (by rw [s2, k21]; omega) (by rw [s2, k21]; omega), s2, k21]
  have s5 : (((T &&& (4294967295 : Int64)) + (((xv a) &&& (4294967295 : Int64)) * ((xv b) >>> ((32 : Int32).toInt64 &&& 63)))) >>> ((32 : Int32).toInt64 &&& 63)).toInt = (T.toInt % 4294967296 + e21) / 4294967296 := by rw [l_sar _ 32 (by decide) (by decide), s4]; rfl
  have s6 : ((((xv a) >>> ((32 : Int32).toInt64 &&& 63)) * ((xv b) >>> ((32 : Int32).toInt64 &&& 63))) + (T >>> ((32 : Int32).toInt64 &&& 63))).toInt = e11 + T.toInt / 4294967296 := by
    rw [i64_add (by rw [k11, s3]; omega) (by rw [k11, s3]; omega), k11, s3]
  rw [i64_add (by rw [s6, s5]; omega) (by rw [s6, s5]; omega), s6, s5, s1]
  omega
end MUL
