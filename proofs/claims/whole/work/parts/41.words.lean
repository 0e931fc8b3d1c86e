/-! words: N takes the 36 bits of a long -/
def NN (v : Int64) : BitVec 36 := v.toBitVec.setWidth 36
theorem l_inj {a b : Int64} (h : a.toBitVec = b.toBitVec) : a = b := Int64.toBitVec_inj.mp h
theorem i_inj {a b : Int32} (h : a.toBitVec = b.toBitVec) : a = b := Int32.toBitVec_inj.mp h
theorem xv_bv (b : BitVec 36) : (xv b).toBitVec = b.signExtend 64 := rfl
theorem zv_bv (b : BitVec 36) : (zv b).toBitVec = b.setWidth 64 := rfl
theorem NN_xv (b : BitVec 36) : NN (xv b) = b := by
  unfold NN; rw [xv_bv]
  apply BitVec.eq_of_getLsbD_eq; intro i hi
  simp [BitVec.getLsbD_signExtend, hi]; omega
theorem NN_zv (b : BitVec 36) : NN (zv b) = b := by
  unfold NN; rw [zv_bv]
  apply BitVec.eq_of_getLsbD_eq; intro i hi
  simp [hi]
theorem l_shl (x s : Int64) (n : Nat) (h : s.toBitVec.smod 64 = BitVec.ofNat 64 n) (hn : n < 64) : (x <<< s).toBitVec = x.toBitVec <<< n := by
  rw [Int64.toBitVec_shiftLeft]
  show x.toBitVec <<< (s.toBitVec.smod 64) = _
  rw [h, BitVec.shiftLeft_eq', BitVec.toNat_ofNat, Nat.mod_eq_of_lt (by omega)]
theorem l_shr (x s : Int64) (n : Nat) (h : s.toBitVec.smod 64 = BitVec.ofNat 64 n) (hn : n < 64) : (x >>> s).toBitVec = x.toBitVec.sshiftRight n := by
  rw [Int64.toBitVec_shiftRight]
  show x.toBitVec.sshiftRight' (s.toBitVec.smod 64) = _
  rw [h, BitVec.sshiftRight_eq', BitVec.toNat_ofNat, Nat.mod_eq_of_lt (by omega)]
theorem sgn_eq (v : Int64) : fx_signed v = xv (NN v) := by
  apply l_inj
  unfold fx_signed NN
  rw [l_shr _ _ 28 (by decide) (by decide), l_shl _ _ 28 (by decide) (by decide), xv_bv]
  apply BitVec.eq_of_getLsbD_eq; intro i hi
  rw [BitVec.getLsbD_sshiftRight, BitVec.getLsbD_signExtend]
  simp only [BitVec.getLsbD_shiftLeft, BitVec.getLsbD_setWidth, BitVec.msb_eq_getLsbD_last]
  by_cases h : i < 36
  · simp [h, hi, show 28 + i < 64 by omega, show ¬ 28 + i < 28 by omega, show 28 + i - 28 = i by omega]
  · simp [h, hi, show ¬ 28 + i < 64 by omega]
theorem and_all (v : Int64) : v &&& (68719476735 : Int64) = zv (NN v) := by
  apply l_inj
  rw [Int64.toBitVec_and, zv_bv]
  unfold NN
  apply BitVec.eq_of_getLsbD_eq; intro i hi
  rw [BitVec.getLsbD_and, show (68719476735 : Int64).toBitVec = (BitVec.allOnes 36).setWidth 64 from by decide +kernel]
  simp only [BitVec.getLsbD_setWidth, BitVec.getLsbD_allOnes]
  by_cases h : i < 36 <;> simp [h, hi]
theorem NN_and (a b : Int64) : NN (a &&& b) = NN a &&& NN b := by unfold NN; rw [Int64.toBitVec_and, BitVec.setWidth_and]
theorem NN_or (a b : Int64) : NN (a ||| b) = NN a ||| NN b := by unfold NN; rw [Int64.toBitVec_or, BitVec.setWidth_or]
theorem NN_xor (a b : Int64) : NN (a ^^^ b) = NN a ^^^ NN b := by unfold NN; rw [Int64.toBitVec_xor, BitVec.setWidth_xor]
theorem NN_m1 : NN (-1) = BitVec.allOnes 36 := by decide +kernel
theorem xv_and (a b : BitVec 36) : xv a &&& xv b = xv (a &&& b) := l_inj (by rw [Int64.toBitVec_and, xv_bv, xv_bv, xv_bv, BitVec.signExtend_and])
theorem xv_or (a b : BitVec 36) : xv a ||| xv b = xv (a ||| b) := l_inj (by rw [Int64.toBitVec_or, xv_bv, xv_bv, xv_bv, BitVec.signExtend_or])
theorem xv_xor (a b : BitVec 36) : xv a ^^^ xv b = xv (a ^^^ b) := l_inj (by rw [Int64.toBitVec_xor, xv_bv, xv_bv, xv_bv, BitVec.signExtend_xor])
theorem xv_m1 : (-1 : Int64) = xv (BitVec.allOnes 36) := by decide +kernel
theorem xv_not (a : BitVec 36) : xv a ^^^ (-1) = xv (a ^^^ BitVec.allOnes 36) := by rw [xv_m1, xv_xor]
theorem zv_and (a b : BitVec 36) : zv a &&& zv b = zv (a &&& b) := l_inj (by rw [Int64.toBitVec_and, zv_bv, zv_bv, zv_bv, BitVec.setWidth_and])
theorem zv_or (a b : BitVec 36) : zv a ||| zv b = zv (a ||| b) := l_inj (by rw [Int64.toBitVec_or, zv_bv, zv_bv, zv_bv, BitVec.setWidth_or])
theorem zv_xor (a b : BitVec 36) : zv a ^^^ zv b = zv (a ^^^ b) := l_inj (by rw [Int64.toBitVec_xor, zv_bv, zv_bv, zv_bv, BitVec.setWidth_xor])
theorem xv_int (b : BitVec 36) : (xv b).toInt = b.toInt := by
  show (xv b).toBitVec.toInt = _
  rw [xv_bv, BitVec.toInt_signExtend_of_le (by decide)]
theorem zv_int (b : BitVec 36) : (zv b).toInt = b.toNat := by
  show (zv b).toBitVec.toInt = _
  rw [zv_bv, BitVec.toInt_eq_toNat_cond, BitVec.toNat_setWidth]
  have := b.isLt
  rw [Nat.mod_eq_of_lt (by omega), if_pos (by omega)]
theorem xv_zero : (0 : Int64) = xv 0#36 := by decide +kernel
theorem zv_zero : (0 : Int64) = zv 0#36 := by decide +kernel
theorem b36_int (b : BitVec 36) : b.toInt = if b.toNat < 34359738368 then (b.toNat : Int) else (b.toNat : Int) - 68719476736 := by
  rw [BitVec.toInt_eq_toNat_cond]
  by_cases h : b.toNat < 34359738368
  · rw [if_pos h, if_pos (by omega)]
  · rw [if_neg h, if_neg (by omega)]; rfl
theorem b36_lt (b : BitVec 36) : b.toNat < 68719476736 := b.isLt
theorem xv_lo (b : BitVec 36) : -34359738368 ≤ (xv b).toInt := by rw [xv_int, b36_int]; have := b36_lt b; split <;> omega
theorem xv_hi (b : BitVec 36) : (xv b).toInt < 34359738368 := by rw [xv_int, b36_int]; have := b36_lt b; split <;> omega
theorem NN_int (v : Int64) : (NN v).toInt = v.toInt.bmod 68719476736 := by
  have e : v.toInt = (v.toBitVec.toNat : Int).bmod (2 ^ 64) := BitVec.toInt_eq_toNat_bmod v.toBitVec
  unfold NN
  rw [BitVec.toInt_setWidth, e, Int.bmod_bmod_of_dvd (by decide)]
theorem xv_of {v : Int64} (h1 : -34359738368 ≤ v.toInt) (h2 : v.toInt < 34359738368) : v = xv (NN v) := by
  apply Int64.toInt_inj.mp
  rw [xv_int, NN_int, Int.bmod_eq_of_le (by omega) (by omega)]
theorem zsgn_eq (b : BitVec 36) : fz_signed (zv b) = xv b := by
  apply Int64.toInt_inj.mp
  unfold fz_signed
  have hz := zv_int b
  have hb := b36_lt b
  have hs : ((zv b) >>> ((35 : Int32).toInt64 &&& 63)).toInt = (b.toNat : Int) / 34359738368 := by
    show ((zv b) >>> ((35 : Int32).toInt64 &&& 63)).toBitVec.toInt = _
    rw [l_shr _ _ 35 (by decide) (by decide), BitVec.toInt_sshiftRight]
    show (zv b).toInt >>> 35 = _
    rw [hz, Int.shiftRight_eq_div_pow]; rfl
  by_cases h : ((zv b) >>> ((35 : Int32).toInt64 &&& 63)) = (1 : Int64)
  · rw [if_pos h]
    rw [h, show (1 : Int64).toInt = 1 from rfl] at hs
    rw [Int64.toInt_sub, Int64.toInt_sub, hz, show (68719476735 : Int64).toInt = 68719476735 from rfl, show (1 : Int64).toInt = 1 from rfl, Int.bmod_eq_of_le (n := (b.toNat : Int) - 68719476735) (by omega) (by omega), Int.bmod_eq_of_le (by omega) (by omega), xv_int, b36_int, if_neg (by omega)]
    omega
  · rw [if_neg h, hz, xv_int, b36_int]
    have : ¬ (b.toNat : Int) / 34359738368 = 1 := fun e => h (Int64.toInt_inj.mp (by rw [hs, e]; rfl))
    rw [if_pos (by omega)]
