/-! halves -/
def hw (h : BitVec 18) : Int32 := Int32.ofBitVec (h.setWidth 32)
def LL (b : BitVec 36) : BitVec 18 := b.extractLsb' 18 18
def RR (b : BitVec 36) : BitVec 18 := b.setWidth 18
def JJ (p q : BitVec 18) : BitVec 36 := (p.setWidth 36 <<< 18) ||| q.setWidth 36
theorem hw_bv (h : BitVec 18) : (hw h).toBitVec = h.setWidth 32 := rfl
theorem and_half (x : Int32) : x &&& (262143 : Int32) = hw (x.toBitVec.setWidth 18) := by
  apply i_inj
  rw [Int32.toBitVec_and, hw_bv]
  apply BitVec.eq_of_getLsbD_eq; intro i hi
  rw [BitVec.getLsbD_and, show (262143 : Int32).toBitVec = (BitVec.allOnes 18).setWidth 32 from by decide +kernel]
  simp only [BitVec.getLsbD_setWidth, BitVec.getLsbD_allOnes]
  by_cases h : i < 18 <;> simp [h, hi]
theorem hw_18 (h : BitVec 18) : (hw h).toBitVec.setWidth 18 = h := by
  rw [hw_bv]; apply BitVec.eq_of_getLsbD_eq; intro i hi; simp [hi]
theorem rt_eq (v : Int64) : fx_right v = hw (v.toBitVec.setWidth 18) := by
  unfold fx_right
  rw [and_half, Int64.toBitVec_toInt32, BitVec.signExtend_eq_setWidth_of_le _ (by decide), BitVec.setWidth_setWidth_of_le _ (by decide)]
theorem lt_eq (v : Int64) : fx_left v = hw ((v.toBitVec.sshiftRight 18).setWidth 18) := by
  unfold fx_left
  rw [and_half, Int64.toBitVec_toInt32, BitVec.signExtend_eq_setWidth_of_le _ (by decide), BitVec.setWidth_setWidth_of_le _ (by decide), l_shr _ _ 18 (by decide) (by decide)]
theorem rtz_x (v : Int64) : fz_right v = fx_right v := rfl
theorem ltz_x (v : Int64) : fz_left v = fx_left v := rfl
theorem rt_xv (b : BitVec 36) : fx_right (xv b) = hw (RR b) := by
  rw [rt_eq, xv_bv]; congr 1; unfold RR
  apply BitVec.eq_of_getLsbD_eq; intro i hi
  rw [BitVec.getLsbD_setWidth, BitVec.getLsbD_setWidth, BitVec.getLsbD_signExtend]
  simp only [hi, show i < 64 by omega, show i < 36 by omega, decide_true, Bool.true_and, if_true]
theorem rt_zv (b : BitVec 36) : fz_right (zv b) = hw (RR b) := by
  rw [rtz_x, rt_eq, zv_bv]; congr 1
theorem lt_xv (b : BitVec 36) : fx_left (xv b) = hw (LL b) := by
  rw [lt_eq, xv_bv]; congr 1; unfold LL
  apply BitVec.eq_of_getLsbD_eq; intro i hi
  rw [BitVec.getLsbD_setWidth, BitVec.getLsbD_sshiftRight, BitVec.getLsbD_extractLsb']
  rw [BitVec.getLsbD_signExtend]
  simp only [hi, show 18 + i < 64 by omega, show 18 + i < 36 by omega, show ¬ 64 ≤ i by omega, decide_true, decide_false, Bool.true_and, if_true, Bool.not_false]
theorem lt_zv (b : BitVec 36) : fz_left (zv b) = hw (LL b) := by
  rw [ltz_x, lt_eq, zv_bv]; congr 1; unfold LL
  apply BitVec.eq_of_getLsbD_eq; intro i hi
  rw [BitVec.getLsbD_setWidth, BitVec.getLsbD_sshiftRight, BitVec.getLsbD_extractLsb']
  simp [hi, show 18 + i < 64 by omega, show ¬ 64 ≤ i by omega]
theorem hw_64 (h : BitVec 18) : (hw h).toInt64.toBitVec = h.setWidth 64 := by
  rw [Int32.toBitVec_toInt64, hw_bv]
  apply BitVec.eq_of_getLsbD_eq; intro i hi
  rw [BitVec.getLsbD_signExtend, BitVec.msb_setWidth]
  by_cases h1 : i < 32
  · simp [h1, hi]
  · simp [h1, hi, BitVec.getLsbD_of_ge h i (by omega)]
theorem JJ_bit (p q : BitVec 18) (i : Nat) : (JJ p q).getLsbD i = if i < 18 then q.getLsbD i else if i < 36 then p.getLsbD (i - 18) else false := by
  unfold JJ
  rw [BitVec.getLsbD_or, BitVec.getLsbD_shiftLeft, BitVec.getLsbD_setWidth, BitVec.getLsbD_setWidth]
  by_cases h1 : i < 18
  · simp only [h1, show i < 36 by omega, decide_true, Bool.not_true, Bool.and_false, Bool.false_and, Bool.false_or, Bool.true_and, if_true]
  · by_cases h2 : i < 36
    · simp only [h1, h2, show i - 18 < 36 by omega, BitVec.getLsbD_of_ge q i (by omega), decide_true, decide_false, Bool.true_and, Bool.and_false, Bool.or_false, Bool.not_false, if_true, if_false]
    · simp [h1, h2]
theorem jn_eq (x y : Int32) : fx_joined x y = xv (JJ (x.toBitVec.setWidth 18) (y.toBitVec.setWidth 18)) := by
  apply l_inj
  unfold fx_joined
  rw [Int64.toBitVec_or, l_shr _ _ 28 (by decide) (by decide), l_shl _ _ 46 (by decide) (by decide), and_half, hw_64, xv_bv]
  apply BitVec.eq_of_getLsbD_eq; intro i hi
  rw [BitVec.getLsbD_or, BitVec.getLsbD_sshiftRight, BitVec.getLsbD_signExtend, BitVec.msb_eq_getLsbD_last, BitVec.msb_eq_getLsbD_last, JJ_bit, JJ_bit, Int32.toBitVec_toInt64]
  simp only [BitVec.getLsbD_shiftLeft, BitVec.getLsbD_setWidth, BitVec.getLsbD_signExtend]
  by_cases h1 : i < 18
  · simp [h1, hi, show 28 + i < 64 by omega, show 28 + i < 46 by omega, show i < 36 by omega]
  · by_cases h2 : i < 36
    · simp [h1, h2, hi, show 28 + i < 64 by omega, show ¬ 28 + i < 46 by omega, show 28 + i - 46 = i - 18 by omega, show i - 18 < 64 by omega, show i - 18 < 32 by omega, show i - 18 < 18 by omega]
    · simp [h1, h2, hi, show ¬ 28 + i < 64 by omega]
theorem hv_eq (x y : Int32) : fz_halves x y = zv (JJ (x.toBitVec.setWidth 18) (y.toBitVec.setWidth 18)) := by
  apply l_inj
  unfold fz_halves
  rw [Int64.toBitVec_or, l_shl _ _ 18 (by decide) (by decide), and_half, and_half, hw_64, hw_64, zv_bv]
  apply BitVec.eq_of_getLsbD_eq; intro i hi
  rw [BitVec.getLsbD_or]
  simp only [BitVec.getLsbD_shiftLeft, BitVec.getLsbD_setWidth, JJ_bit]
  by_cases h1 : i < 18
  · simp [h1, hi]
  · by_cases h2 : i < 36
    · simp [h1, h2, hi, show i - 18 < 64 by omega, show i - 18 < 18 by omega]
    · simp [h1, h2, hi, show ¬ i - 18 < 18 by omega]
theorem sw_xv (b : BitVec 36) : fx_swapped (xv b) = xv (JJ (RR b) (LL b)) := by unfold fx_swapped; rw [rt_xv, lt_xv, jn_eq, hw_18, hw_18]
theorem sw_zv (b : BitVec 36) : fz_opposite (zv b) = zv (JJ (RR b) (LL b)) := by unfold fz_opposite; rw [rt_zv, lt_zv, hv_eq, hw_18, hw_18]
def BM (b : BitVec 36) (y : Int32) : BitVec 36 := JJ ((hw (LL b) + y).toBitVec.setWidth 18) ((hw (RR b) + y).toBitVec.setWidth 18)
theorem bm_xv (b : BitVec 36) (y : Int32) : fx_bothHalvesMore (xv b) y = xv (BM b y) := by unfold fx_bothHalvesMore BM; rw [rt_xv, lt_xv, jn_eq]
theorem bm_zv (b : BitVec 36) (y : Int32) : fz_both (zv b) y = zv (BM b y) := by unfold fz_both BM; rw [rt_zv, lt_zv, hv_eq]
/-- an int of at least 0 is its own word -/
def EE (x : Int32) : BitVec 36 := NN x.toInt64
theorem ee_xv {x : Int32} (h : 0 ≤ x) : x.toInt64 = xv (EE x) := by
  rw [i32_le, show (0 : Int32).toInt = 0 from rfl] at h
  have := x.toInt_lt
  exact xv_of (by rw [Int32.toInt_toInt64]; omega) (by rw [Int32.toInt_toInt64]; omega)
theorem ee_zv {x : Int32} (h : 0 ≤ x) : x.toInt64 = zv (EE x) := by
  apply Int64.toInt_inj.mp
  have h1 := ee_xv h
  rw [i32_le, show (0 : Int32).toInt = 0 from rfl] at h
  have e := congrArg Int64.toInt h1
  rw [xv_int, b36_int, Int32.toInt_toInt64] at e
  rw [zv_int, Int32.toInt_toInt64]
  have := b36_lt (EE x)
  split at e <;> omega
