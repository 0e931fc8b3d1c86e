section SHIFT
variable {c : Int32} {kx : kSx} {kz : kSz} {op ac ea : Int32}
theorem sm64 : ∀ k : Nat, k < 64 → ((nI k).toInt64 &&& 63).toBitVec.smod 64 = BitVec.ofNat 64 k := by decide +kernel
theorem z_shr (b : BitVec 36) {s : Int64} {n : Nat} (h : s.toBitVec.smod 64 = BitVec.ofNat 64 n) (hn : n < 64) : (zv b >>> s) = zv (b >>> n) := by
  apply l_inj
  rw [l_shr _ _ n h hn, zv_bv, zv_bv]
  apply BitVec.eq_of_getLsbD_eq; intro i hi
  rw [BitVec.getLsbD_sshiftRight, BitVec.getLsbD_setWidth, BitVec.getLsbD_setWidth, BitVec.getLsbD_ushiftRight, BitVec.msb_setWidth]
  by_cases q : n + i < 64
  · simp [hi, q, show ¬ 64 ≤ i by omega]
  · simp [hi, q, BitVec.getLsbD_of_ge b (n + i) (by omega)]
theorem NN_shl (b : BitVec 36) {s : Int64} {n : Nat} (h : s.toBitVec.smod 64 = BitVec.ofNat 64 n) (hn : n < 64) : NN (zv b <<< s) = b <<< n := by
  unfold NN
  rw [l_shl _ _ n h hn, zv_bv]
  apply BitVec.eq_of_getLsbD_eq; intro i hi
  rw [BitVec.getLsbD_setWidth, BitVec.getLsbD_shiftLeft, BitVec.getLsbD_setWidth, BitVec.getLsbD_shiftLeft]
  simp [hi, show i < 64 by omega, show i - n < 64 by omega]
theorem NN_shlx (b : BitVec 36) {s : Int64} {n : Nat} (h : s.toBitVec.smod 64 = BitVec.ofNat 64 n) (hn : n < 64) : NN (xv b <<< s) = b <<< n := by
  unfold NN
  rw [l_shl _ _ n h hn, xv_bv]
  apply BitVec.eq_of_getLsbD_eq; intro i hi
  rw [BitVec.getLsbD_setWidth, BitVec.getLsbD_shiftLeft, BitVec.getLsbD_signExtend, BitVec.getLsbD_shiftLeft]
  simp [hi, show i < 64 by omega, show i - n < 64 by omega, show i - n < 36 by omega]
theorem z_shlS (x : BitVec 36) {s : Int64} {n : Nat} (h : s.toBitVec.smod 64 = BitVec.ofNat 64 n) (hn : n < 36) (hx : ∀ i, 36 - n ≤ i → x.getLsbD i = false) : (zv x <<< s) = zv (x <<< n) := by
  apply l_inj
  rw [l_shl _ _ n h (by omega), zv_bv, zv_bv]
  apply BitVec.eq_of_getLsbD_eq; intro i hi
  rw [BitVec.getLsbD_shiftLeft, BitVec.getLsbD_setWidth, BitVec.getLsbD_setWidth, BitVec.getLsbD_shiftLeft]
  by_cases q : i < 36
  · simp [hi, q, show i - n < 64 by omega]
  · simp [hi, q, hx (i - n) (by omega)]
theorem and_35 (v : Int64) : v &&& (34359738367 : Int64) = zv (NN v &&& (BitVec.allOnes 35).setWidth 36) := by
  apply l_inj
  rw [Int64.toBitVec_and, zv_bv]
  unfold NN
  apply BitVec.eq_of_getLsbD_eq; intro i hi
  rw [BitVec.getLsbD_and, show (34359738367 : Int64).toBitVec = (BitVec.allOnes 35).setWidth 64 from by decide +kernel]
  simp only [BitVec.getLsbD_setWidth, BitVec.getLsbD_and, BitVec.getLsbD_allOnes]
  by_cases h : i < 36
  · simp [h, hi]
  · simp [h, hi, show ¬ i < 35 by omega]
theorem m35_bit (i : Nat) : ((BitVec.allOnes 35).setWidth 36).getLsbD i = decide (i < 35) := by
  rw [BitVec.getLsbD_setWidth, BitVec.getLsbD_allOnes]
  by_cases h : i < 35
  · simp [h, show i < 36 by omega]
  · simp [h]
/-! one place -/
def gAR (b : BitVec 36) : BitVec 36 := (b >>> 1) ||| ((b >>> 35) <<< 35)
def gRR (b : BitVec 36) : BitVec 36 := (b >>> 1) ||| ((b &&& BitVec.twoPow 36 0) <<< 35)
def gLR (b : BitVec 36) : BitVec 36 := (b >>> 1) ||| 0#36
def gAL (b : BitVec 36) : BitVec 36 := ((b >>> 35) <<< 35) ||| ((b <<< 1) &&& (BitVec.allOnes 35).setWidth 36)
def gRL (b : BitVec 36) : BitVec 36 := (b <<< 1) ||| (b >>> 35)
def gLL (b : BitVec 36) : BitVec 36 := (b <<< 1) ||| 0#36
theorem s35_top (b : BitVec 36) : ∀ i, 36 - 35 ≤ i → (b >>> 35).getLsbD i = false := by
  intro i hi
  rw [BitVec.getLsbD_ushiftRight]; exact BitVec.getLsbD_of_ge _ _ (by omega)
theorem s1_top (b : BitVec 36) : ∀ i, 36 - 35 ≤ i → (b &&& BitVec.twoPow 36 0).getLsbD i = false := by
  intro i hi
  rw [BitVec.getLsbD_and, BitVec.getLsbD_twoPow]; simp [show ¬ 0 = i by omega]
theorem e_AR (b : BitVec 36) : ((zv b >>> ((1 : Int32).toInt64 &&& 63)) ||| ((zv b >>> ((35 : Int32).toInt64 &&& 63)) <<< ((35 : Int32).toInt64 &&& 63))) = zv (gAR b) := by
  rw [z_shr b (n := 1) (by decide) (by decide), z_shr b (n := 35) (by decide) (by decide), z_shlS (b >>> 35) (n := 35) (by decide) (by decide) (s35_top b), zv_or]; rfl
theorem e_RR (b : BitVec 36) : ((zv b >>> ((1 : Int32).toInt64 &&& 63)) ||| ((zv b &&& (1 : Int64)) <<< ((35 : Int32).toInt64 &&& 63))) = zv (gRR b) := by
  rw [z_shr b (n := 1) (by decide) (by decide), show (1 : Int64) = zv (BitVec.twoPow 36 0) from by decide +kernel, zv_and, z_shlS (b &&& BitVec.twoPow 36 0) (n := 35) (by decide) (by decide) (s1_top b), zv_or]; rfl
theorem e_LR (b : BitVec 36) : ((zv b >>> ((1 : Int32).toInt64 &&& 63)) ||| (0 : Int64)) = zv (gLR b) := by
  rw [z_shr b (n := 1) (by decide) (by decide), zv_zero, zv_or]; rfl
theorem e_AL (b : BitVec 36) : (((zv b >>> ((35 : Int32).toInt64 &&& 63)) <<< ((35 : Int32).toInt64 &&& 63)) ||| ((zv b <<< ((1 : Int32).toInt64 &&& 63)) &&& (34359738367 : Int64))) = zv (gAL b) := by
  rw [z_shr b (n := 35) (by decide) (by decide), z_shlS (b >>> 35) (n := 35) (by decide) (by decide) (s35_top b), and_35, NN_shl b (n := 1) (by decide) (by decide), zv_or]; rfl
theorem e_RL (b : BitVec 36) : (((zv b <<< ((1 : Int32).toInt64 &&& 63)) &&& (68719476735 : Int64)) ||| (zv b >>> ((35 : Int32).toInt64 &&& 63))) = zv (gRL b) := by
  rw [z_shr b (n := 35) (by decide) (by decide), and_all, NN_shl b (n := 1) (by decide) (by decide), zv_or]; rfl
theorem e_LL (b : BitVec 36) : (((zv b <<< ((1 : Int32).toInt64 &&& 63)) &&& (68719476735 : Int64)) ||| (0 : Int64)) = zv (gLL b) := by
  rw [and_all, NN_shl b (n := 1) (by decide) (by decide), zv_zero, zv_or]; rfl
theorem b_AR (b : BitVec 36) (i : Nat) (hi : i < 36) : (gAR b).getLsbD i = b.getLsbD (min (i + 1) 35) := by
  unfold gAR
  rw [BitVec.getLsbD_or, BitVec.getLsbD_ushiftRight, BitVec.getLsbD_shiftLeft, BitVec.getLsbD_ushiftRight]
  by_cases q : i = 35
  · subst q; simp
  · rw [show min (i + 1) 35 = i + 1 by omega, Nat.add_comm 1 i]
    simp [show i < 35 by omega]
theorem b_RR (b : BitVec 36) (i : Nat) (hi : i < 36) : (gRR b).getLsbD i = b.getLsbD ((i + 1) % 36) := by
  unfold gRR
  rw [BitVec.getLsbD_or, BitVec.getLsbD_ushiftRight, BitVec.getLsbD_shiftLeft, BitVec.getLsbD_and, BitVec.getLsbD_twoPow]
  by_cases q : i = 35
  · subst q; simp
  · rw [show (i + 1) % 36 = i + 1 by omega, Nat.add_comm 1 i]
    simp [show i < 35 by omega]
theorem b_LR (b : BitVec 36) (i : Nat) : (gLR b).getLsbD i = b.getLsbD (i + 1) := by
  unfold gLR
  rw [BitVec.getLsbD_or, BitVec.getLsbD_ushiftRight, Nat.add_comm 1 i]; simp
theorem b_AL (b : BitVec 36) (i : Nat) (hi : i < 36) : (gAL b).getLsbD i = if i = 35 then b.getLsbD 35 else (decide (1 ≤ i) && b.getLsbD (i - 1)) := by
  unfold gAL
  rw [BitVec.getLsbD_or, BitVec.getLsbD_shiftLeft, BitVec.getLsbD_ushiftRight, BitVec.getLsbD_and, m35_bit, BitVec.getLsbD_shiftLeft]
  by_cases q : i = 35
  · subst q; simp
  · rw [if_neg q]
    by_cases z : i = 0
    · subst z; simp
    · simp [show i < 35 by omega, hi, show ¬ i < 1 by omega, show 1 ≤ i by omega]
theorem b_RL (b : BitVec 36) (i : Nat) (hi : i < 36) : (gRL b).getLsbD i = b.getLsbD ((i + 35) % 36) := by
  unfold gRL
  rw [BitVec.getLsbD_or, BitVec.getLsbD_ushiftRight, BitVec.getLsbD_shiftLeft]
  by_cases z : i = 0
  · subst z; simp
  · rw [show (i + 35) % 36 = i - 1 by omega, BitVec.getLsbD_of_ge b (35 + i) (by omega)]
    simp [hi, show ¬ i < 1 by omega]
theorem b_LL (b : BitVec 36) (i : Nat) (hi : i < 36) : (gLL b).getLsbD i = (decide (1 ≤ i) && b.getLsbD (i - 1)) := by
  unfold gLL
  rw [BitVec.getLsbD_or, BitVec.getLsbD_shiftLeft]
  by_cases z : i = 0
  · subst z; simp
  · simp [hi, show ¬ i < 1 by omega, show 1 ≤ i by omega]
/-! the loop -/
theorem n_pos : ∀ j : Nat, j < 256 → ¬ nI (j + 1) ≤ 0 := by decide +kernel
theorem n_dec : ∀ j : Nat, j < 256 → nI (j + 1) + (-1) = nI j := by decide +kernel
theorem lp {v1 v2 v4 : Int32} {F : Nat → BitVec 36 → Nat → Bool} {g : BitVec 36 → BitVec 36}
    (hs : ∀ (n : Nat) (k : kSz) (b : BitVec 36) (j : Nat), j < 256 → fz_shift_114 (n + 1) k v1 v2 v4 (zv b) (nI (j + 1)) = fz_shift_114 n k v1 v2 v4 (zv (g b)) (nI j))
    (h0 : ∀ (b : BitVec 36) (i : Nat), i < 36 → b.getLsbD i = F 0 b i) (hF : ∀ (b : BitVec 36) (m i : Nat), i < 36 → F m (g b) i = F (m + 1) b i) :
    ∀ (j n : Nat) (k : kSz) (b : BitVec 36), j < n → j < 256 → ∃ R : BitVec 36, fz_shift_114 n k v1 v2 v4 (zv b) (nI j) = ((0 : Int32), stz k v2 (zv R)) ∧ ∀ i, i < 36 → R.getLsbD i = F j b i := by
  intro j
  induction j with
  | zero =>
    intro n k b hn _
    cases n with
    | zero => exact absurd hn (Nat.lt_irrefl _)
    | succ n =>
      refine ⟨b, ?_, h0 b⟩
      rw [fz_shift_114, if_pos (show nI 0 ≤ 0 by decide)]
  | succ j ih =>
    intro n k b hn h2
    cases n with
    | zero => exact absurd hn (Nat.not_lt_zero _)
    | succ n =>
      obtain ⟨R, e, f⟩ := ih n k (g b) (by omega) (by omega)
      refine ⟨R, ?_, fun i hi => ?_⟩
      · rw [hs n k b j (by omega), e]
      · rw [f i hi, hF b j i hi]
theorem st_AR {v2 v4 : Int32} (h4 : v4 ≤ 0) (n : Nat) (k : kSz) (b : BitVec 36) (j : Nat) (hj : j < 256) : fz_shift_114 (n + 1) k 0 v2 v4 (zv b) (nI (j + 1)) = fz_shift_114 n k 0 v2 v4 (zv (gAR b)) (nI j) := by
  rw [fz_shift_114, if_neg (n_pos j hj), if_pos h4, if_pos rfl, e_AR, n_dec j hj]
theorem st_RR {v2 v4 : Int32} (h4 : v4 ≤ 0) (n : Nat) (k : kSz) (b : BitVec 36) (j : Nat) (hj : j < 256) : fz_shift_114 (n + 1) k 1 v2 v4 (zv b) (nI (j + 1)) = fz_shift_114 n k 1 v2 v4 (zv (gRR b)) (nI j) := by
  rw [fz_shift_114, if_neg (n_pos j hj), if_pos h4, if_neg (show ¬ (1 : Int32) = 0 by decide), if_pos rfl, e_RR, n_dec j hj]
theorem st_LR {v2 v4 : Int32} (h4 : v4 ≤ 0) (n : Nat) (k : kSz) (b : BitVec 36) (j : Nat) (hj : j < 256) : fz_shift_114 (n + 1) k 2 v2 v4 (zv b) (nI (j + 1)) = fz_shift_114 n k 2 v2 v4 (zv (gLR b)) (nI j) := by
  rw [fz_shift_114, if_neg (n_pos j hj), if_pos h4, if_neg (show ¬ (2 : Int32) = 0 by decide), if_neg (show ¬ (2 : Int32) = 1 by decide), e_LR, n_dec j hj]
theorem st_RL {v2 v4 : Int32} (h4 : ¬ v4 ≤ 0) (n : Nat) (k : kSz) (b : BitVec 36) (j : Nat) (hj : j < 256) : fz_shift_114 (n + 1) k 1 v2 v4 (zv b) (nI (j + 1)) = fz_shift_114 n k 1 v2 v4 (zv (gRL b)) (nI j) := by
  rw [fz_shift_114, if_neg (n_pos j hj), if_neg h4, if_neg (show ¬ (1 : Int32) = 0 by decide), if_neg (show ¬ (1 : Int32) = 0 by decide), if_pos rfl, e_RL, n_dec j hj]
theorem st_LL {v2 v4 : Int32} (h4 : ¬ v4 ≤ 0) (n : Nat) (k : kSz) (b : BitVec 36) (j : Nat) (hj : j < 256) : fz_shift_114 (n + 1) k 2 v2 v4 (zv b) (nI (j + 1)) = fz_shift_114 n k 2 v2 v4 (zv (gLL b)) (nI j) := by
  rw [fz_shift_114, if_neg (n_pos j hj), if_neg h4, if_neg (show ¬ (2 : Int32) = 0 by decide), if_neg (show ¬ (2 : Int32) = 0 by decide), if_neg (show ¬ (2 : Int32) = 1 by decide), e_LL, n_dec j hj]
theorem lp_AR {v2 v4 : Int32} (h4 : v4 ≤ 0) : ∀ (j n : Nat) (k : kSz) (b : BitVec 36), j < n → j < 256 → ∃ R : BitVec 36, fz_shift_114 n k 0 v2 v4 (zv b) (nI j) = ((0 : Int32), stz k v2 (zv R)) ∧ ∀ i, i < 36 → R.getLsbD i = b.getLsbD (min (i + j) 35) :=
  lp (F := fun j b i => b.getLsbD (min (i + j) 35)) (st_AR h4) (fun b i hi => by show b.getLsbD i = b.getLsbD (min (i + 0) 35); rw [show min (i + 0) 35 = i by omega])
    (fun b m i hi => by
      show (gAR b).getLsbD (min (i + m) 35) = b.getLsbD (min (i + (m + 1)) 35)
      rw [b_AR b _ (by omega), show min (min (i + m) 35 + 1) 35 = min (i + (m + 1)) 35 by omega])
theorem lp_RR {v2 v4 : Int32} (h4 : v4 ≤ 0) : ∀ (j n : Nat) (k : kSz) (b : BitVec 36), j < n → j < 256 → ∃ R : BitVec 36, fz_shift_114 n k 1 v2 v4 (zv b) (nI j) = ((0 : Int32), stz k v2 (zv R)) ∧ ∀ i, i < 36 → R.getLsbD i = b.getLsbD ((i + j) % 36) :=
  lp (F := fun j b i => b.getLsbD ((i + j) % 36)) (st_RR h4) (fun b i hi => by show b.getLsbD i = b.getLsbD ((i + 0) % 36); rw [show (i + 0) % 36 = i by omega])
    (fun b m i hi => by
      show (gRR b).getLsbD ((i + m) % 36) = b.getLsbD ((i + (m + 1)) % 36)
      rw [b_RR b _ (by omega), show ((i + m) % 36 + 1) % 36 = (i + (m + 1)) % 36 by omega])
theorem lp_LR {v2 v4 : Int32} (h4 : v4 ≤ 0) : ∀ (j n : Nat) (k : kSz) (b : BitVec 36), j < n → j < 256 → ∃ R : BitVec 36, fz_shift_114 n k 2 v2 v4 (zv b) (nI j) = ((0 : Int32), stz k v2 (zv R)) ∧ ∀ i, i < 36 → R.getLsbD i = b.getLsbD (i + j) :=
  lp (F := fun j b i => b.getLsbD (i + j)) (st_LR h4) (fun b i hi => rfl)
    (fun b m i hi => by
      show (gLR b).getLsbD (i + m) = b.getLsbD (i + (m + 1))
      rw [b_LR]; rfl)
theorem lp_RL {v2 v4 : Int32} (h4 : ¬ v4 ≤ 0) : ∀ (j n : Nat) (k : kSz) (b : BitVec 36), j < n → j < 256 → ∃ R : BitVec 36, fz_shift_114 n k 1 v2 v4 (zv b) (nI j) = ((0 : Int32), stz k v2 (zv R)) ∧ ∀ i, i < 36 → R.getLsbD i = b.getLsbD ((i + 35 * j) % 36) :=
  lp (F := fun j b i => b.getLsbD ((i + 35 * j) % 36)) (st_RL h4) (fun b i hi => by show b.getLsbD i = b.getLsbD ((i + 35 * 0) % 36); rw [show (i + 35 * 0) % 36 = i by omega])
    (fun b m i hi => by
      show (gRL b).getLsbD ((i + 35 * m) % 36) = b.getLsbD ((i + 35 * (m + 1)) % 36)
      rw [b_RL b _ (by omega), show ((i + 35 * m) % 36 + 35) % 36 = (i + 35 * (m + 1)) % 36 by omega])
theorem lp_LL {v2 v4 : Int32} (h4 : ¬ v4 ≤ 0) : ∀ (j n : Nat) (k : kSz) (b : BitVec 36), j < n → j < 256 → ∃ R : BitVec 36, fz_shift_114 n k 2 v2 v4 (zv b) (nI j) = ((0 : Int32), stz k v2 (zv R)) ∧ ∀ i, i < 36 → R.getLsbD i = (decide (j ≤ i) && b.getLsbD (i - j)) :=
  lp (F := fun j b i => (decide (j ≤ i) && b.getLsbD (i - j))) (st_LL h4) (fun b i hi => by show b.getLsbD i = (decide (0 ≤ i) && b.getLsbD (i - 0)); simp)
    (fun b m i hi => by
      show (decide (m ≤ i) && (gLL b).getLsbD (i - m)) = (decide (m + 1 ≤ i) && b.getLsbD (i - (m + 1)))
      rw [b_LL b _ (by omega)]
      by_cases q : m + 1 ≤ i
      · simp [q, show m ≤ i by omega, show 1 ≤ i - m by omega, show i - m - 1 = i - (m + 1) by omega]
      · simp [q, show ¬ 1 ≤ i - m by omega])
end SHIFT
section SHIFT2
variable {c : Int32} {kx : kSx} {kz : kSz} {op ac ea : Int32}
/-- still the word's value after j doublings -/
def inR (b : BitVec 36) (j : Nat) : Bool := decide (-34359738368 ≤ b.toInt * 2 ^ j ∧ b.toInt * 2 ^ j < 34359738368)
theorem inR_iff (b : BitVec 36) (j : Nat) : inR b j = true ↔ (-34359738368 ≤ b.toInt * 2 ^ j ∧ b.toInt * 2 ^ j < 34359738368) := decide_eq_true_iff
theorem t_AL (b : BitVec 36) : (((zv b >>> ((34 : Int32).toInt64 &&& 63)) &&& (1 : Int64)) = (zv b >>> ((35 : Int32).toInt64 &&& 63))) ↔ (-17179869184 ≤ b.toInt ∧ b.toInt < 17179869184) := by
  rw [z_shr b (n := 34) (by decide) (by decide), z_shr b (n := 35) (by decide) (by decide), show (1 : Int64) = zv 1#36 from by decide +kernel, zv_and, ← Int64.toInt_inj, zv_int, zv_int, BitVec.toNat_and, BitVec.toNat_ushiftRight, BitVec.toNat_ushiftRight, Nat.shiftRight_eq_div_pow, Nat.shiftRight_eq_div_pow, show (1#36).toNat = 1 from rfl, Nat.and_one_is_mod, b36_int]
  have := b36_lt b
  split <;> omega
theorem v_AL (b : BitVec 36) (h : -17179869184 ≤ b.toInt ∧ b.toInt < 17179869184) : (gAL b).toInt = 2 * b.toInt := by
  have hb := b36_lt b
  have hN : b.toNat < 17179869184 ∨ 51539607552 ≤ b.toNat := by
    rw [b36_int] at h
    split at h <;> omega
  have e34 : b.getLsbD 34 = b.getLsbD 35 := by
    show b.toNat.testBit 34 = b.toNat.testBit 35
    rw [Nat.testBit_eq_decide_div_mod_eq, Nat.testBit_eq_decide_div_mod_eq]
    congr 1
    apply propext
    constructor <;> intro q <;> omega
  have e : gAL b = b <<< 1 := by
    apply BitVec.eq_of_getLsbD_eq; intro i hi
    rw [b_AL b i hi, BitVec.getLsbD_shiftLeft]
    by_cases q : i = 35
    · subst q; simpa using e34.symm
    · rw [if_neg q]
      by_cases z : i = 0
      · subst z; simp
      · simp [hi, show ¬ i < 1 by omega, show 1 ≤ i by omega]
  have t : (b <<< 1).toNat = (b.toNat * 2) % 68719476736 := by
    rw [BitVec.toNat_shiftLeft, Nat.shiftLeft_eq]
  rw [e, b36_int, b36_int, t]
  rcases hN with q | q
  · rw [if_pos (by omega), if_pos (by omega)]; omega
  · rw [if_neg (by omega), if_neg (by omega)]; omega
theorem inR_up (b : BitVec 36) (j : Nat) (h : -17179869184 ≤ b.toInt ∧ b.toInt < 17179869184) : inR (gAL b) j = true ↔ inR b (j + 1) = true := by
  rw [inR_iff, inR_iff, v_AL b h, Int.pow_succ, show 2 * b.toInt * 2 ^ j = b.toInt * (2 ^ j * 2) by grind]
theorem inR_no (b : BitVec 36) (j : Nat) (h : ¬ (-17179869184 ≤ b.toInt ∧ b.toInt < 17179869184)) : ¬ inR b (j + 1) = true := by
  rw [inR_iff, Int.pow_succ]
  have hp : (1 : Int) ≤ 2 ^ j := by
    have := Int.pow_pos (n := 2) (m := j) (by decide)
    omega
  generalize (2 : Int) ^ j = p at *
  by_cases q : b.toInt < 17179869184
  · have q2 : b.toInt ≤ -17179869185 := by omega
    have := Int.mul_le_mul_of_nonneg_right (c := p * 2) q2 (by omega)
    generalize b.toInt * (p * 2) = w at *
    omega
  · have q2 : 17179869184 ≤ b.toInt := by omega
    have := Int.mul_le_mul_of_nonneg_right (c := p * 2) q2 (by omega)
    generalize b.toInt * (p * 2) = w at *
    omega
theorem inR_0 (b : BitVec 36) : inR b 0 = true := by
  rw [inR_iff, show b.toInt * 2 ^ 0 = b.toInt by omega, b36_int]
  have := b36_lt b
  split <;> omega
theorem ov_ov (k : kSz) : vz_ov (vz_ov k 1) 1 = vz_ov k 1 := rfl
theorem lp_AL {v2 v4 : Int32} : ∀ (j n : Nat) (k : kSz) (b : BitVec 36), (0 < j → ¬ v4 ≤ 0) → j < n → j < 256 → ∃ R : BitVec 36, fz_shift_114 n k 0 v2 v4 (zv b) (nI j) = ((0 : Int32), stz (if inR b j = true then k else vz_ov k 1) v2 (zv R)) ∧ ∀ i, i < 36 → R.getLsbD i = if i = 35 then b.getLsbD 35 else (decide (j ≤ i) && b.getLsbD (i - j)) := by
  intro j
  induction j with
  | zero =>
    intro n k b _ hn _
    cases n with
    | zero => exact absurd hn (Nat.lt_irrefl _)
    | succ n =>
      refine ⟨b, ?_, fun i hi => ?_⟩
      · rw [fz_shift_114, if_pos (show nI 0 ≤ 0 by decide), if_pos (inR_0 b)]
      · by_cases q : i = 35
        · rw [if_pos q, q]
        · rw [if_neg q]; simp
  | succ j ih =>
    intro n k b h4 hn h2
    have h4 := h4 (by omega)
    cases n with
    | zero => exact absurd hn (Nat.not_lt_zero _)
    | succ n =>
      have bits : ∀ i, i < 36 → (if i = 35 then (gAL b).getLsbD 35 else (decide (j ≤ i) && (gAL b).getLsbD (i - j))) = if i = 35 then b.getLsbD 35 else (decide (j + 1 ≤ i) && b.getLsbD (i - (j + 1))) := by
        intro i hi
        by_cases q : i = 35
        · rw [if_pos q, if_pos q, b_AL b 35 (by decide), if_pos rfl]
        · rw [if_neg q, if_neg q, b_AL b (i - j) (by omega), if_neg (by omega)]
          by_cases z : j + 1 ≤ i
          · simp [z, show j ≤ i by omega, show 1 ≤ i - j by omega, show i - j - 1 = i - (j + 1) by omega]
          · simp [z, show ¬ 1 ≤ i - j by omega]
      rw [fz_shift_114, if_neg (n_pos j (by omega)), if_neg h4, if_pos rfl]
      by_cases t : ((zv b >>> ((34 : Int32).toInt64 &&& 63)) &&& (1 : Int64)) = (zv b >>> ((35 : Int32).toInt64 &&& 63))
      · rw [if_pos t, if_pos rfl, e_AL, n_dec j (by omega)]
        obtain ⟨R, e, f⟩ := ih n k (gAL b) (fun _ => h4) (by omega) (by omega)
        refine ⟨R, ?_, fun i hi => by rw [f i hi, bits i hi]⟩
        rw [e]
        have u := inR_up b j ((t_AL b).mp t)
        by_cases w : inR (gAL b) j = true
        · rw [if_pos w, if_pos (u.mp w)]
        · rw [if_neg w, if_neg (fun z => w (u.mpr z))]
      · rw [if_neg t, if_pos rfl, e_AL, n_dec j (by omega)]
        obtain ⟨R, e, f⟩ := ih n (vz_ov k 1) (gAL b) (fun _ => h4) (by omega) (by omega)
        refine ⟨R, ?_, fun i hi => by rw [f i hi, bits i hi]⟩
        rw [e, if_neg (inR_no b j (fun z => t ((t_AL b).mpr z)))]
        by_cases w : inR (gAL b) j = true
        · rw [if_pos w]
        · rw [if_neg w, ov_ov]
/-! the class's shifts -/
theorem n_min : ∀ j : Nat, j < 256 → fjm_min (nI j) (63 : Int32) = nI (min j 63) := by decide +kernel
theorem n_neg : ∀ j : Nat, j < 256 → -(-(nI j)) = nI j := by decide +kernel
theorem n_ge : ∀ j : Nat, j < 256 → 0 ≤ nI j := by decide +kernel
theorem n_lt : ∀ j : Nat, j < 256 → 0 < j → ¬ 0 ≤ -(nI j) := by decide +kernel
theorem n_le0 : ∀ j : Nat, j < 256 → -(nI j) ≤ 0 := by decide +kernel
theorem n_gt0 : ∀ j : Nat, j < 256 → 0 < j → ¬ nI j ≤ 0 := by decide +kernel
theorem n_abs : ∀ j : Nat, j < 256 → fjm_abs (nI j) = nI j ∧ fjm_abs (-(nI j)) = nI j := by decide +kernel
theorem n_fm : ∀ j : Nat, j < 256 → fjm_floorMod (nI j) (36 : Int32) = nI (j % 36) ∧ fjm_floorMod (-(nI j)) (36 : Int32) = nI ((35 * j) % 36) := by decide +kernel
theorem n_36 : ∀ f : Nat, f < 37 → (36 : Int32) - nI f = nI (36 - f) := by decide +kernel
theorem big_in {s p : Int} (hp : 68719476736 ≤ p) : (-34359738368 ≤ s * p ∧ s * p < 34359738368) ↔ s = 0 := by
  constructor
  · intro h
    by_cases q : s < 0
    · have := Int.mul_le_mul_of_nonneg_right (a := s) (b := -1) (c := p) (by omega) (by omega)
      generalize s * p = w at *
      omega
    · by_cases r : s = 0
      · exact r
      · have := Int.mul_le_mul_of_nonneg_right (a := 1) (b := s) (c := p) (by omega) (by omega)
        generalize s * p = w at *
        omega
  · intro h
    rw [h, Int.zero_mul]; omega
theorem inR_min (b : BitVec 36) (j : Nat) : inR b (min j 63) = true ↔ inR b j = true := by
  by_cases q : j ≤ 63
  · rw [show min j 63 = j by omega]
  · rw [show min j 63 = 63 by omega]
    have h2 : (68719476736 : Int) ≤ 2 ^ j := by
      have : (2 : Nat) ^ 36 ≤ 2 ^ j := Nat.pow_le_pow_right (by decide) (by omega)
      have h3 : ((2 ^ j : Nat) : Int) = (2 : Int) ^ j := by norm_cast
      rw [← h3]; omega
    rw [inR_iff, inR_iff, big_in h2, big_in (show (68719476736 : Int) ≤ 2 ^ 63 by decide)]
theorem x_AL (k : kSx) (b : BitVec 36) (j : Nat) (hj : j < 256) : ∃ R : BitVec 36, fx_shiftedWithSign k op ac ea (xv b) (nI j) = (xv R, if inR b j = true then k else vx_ov k 1) ∧ ∀ i, i < 36 → R.getLsbD i = if i = 35 then b.getLsbD 35 else (decide (j ≤ i) && b.getLsbD (i - j)) := by
  have hm : min j 63 < 64 := by omega
  have hs := sm64 _ hm
  refine ⟨(b &&& BitVec.twoPow 36 35) ||| ((b <<< (min j 63)) &&& (BitVec.allOnes 35).setWidth 36), ?_, fun i hi => ?_⟩
  · unfold fx_shiftedWithSign fx_shiftedWithSign_45 fx_shiftedWithSign_50
    rw [if_pos (n_ge j hj), n_min j hj, sgn_eq, NN_or, NN_and, NN_and, NN_xv, NN_shlx b hs hm, show NN 34359738368 = BitVec.twoPow 36 35 from by decide +kernel, show NN 34359738367 = (BitVec.allOnes 35).setWidth 36 from by decide +kernel]
    have q1 : ((34359738368 : Int64) >>> ((nI (min j 63)).toInt64 &&& 63)).toInt = 34359738368 / (2 : Int) ^ (min j 63) := by
      rw [l_sar _ _ hs hm, Int.natCast_pow, show (34359738368 : Int64).toInt = 34359738368 from by decide +kernel]; rfl
    have q2 : ((34359738367 : Int64) >>> ((nI (min j 63)).toInt64 &&& 63)).toInt = 34359738367 / (2 : Int) ^ (min j 63) := by
      rw [l_sar _ _ hs hm, Int.natCast_pow, show (34359738367 : Int64).toInt = 34359738367 from by decide +kernel]; rfl
    have u := inR_min b j
    rw [inR_iff] at u
    have hp : (0 : Int) < 2 ^ (min j 63) := Int.pow_pos (by decide)
    generalize (2 : Int) ^ (min j 63) = p at *
    have d1 : 0 ≤ (34359738368 : Int) / p := Int.ediv_nonneg (by decide) (by omega)
    have d2 : (34359738368 : Int) / p ≤ 34359738368 := Int.ediv_le_self _ (by decide)
    have q3 : (-((34359738368 : Int64) >>> ((nI (min j 63)).toInt64 &&& 63))).toInt = -(34359738368 / p) := by
      rw [Int64.toInt_neg, q1]; exact Int.bmod_eq_of_le (by omega) (by omega)
    have l1 : (xv b < (-((34359738368 : Int64) >>> ((nI (min j 63)).toInt64 &&& 63)))) ↔ ¬ -34359738368 ≤ b.toInt * p := by
      rw [Int64.lt_iff_toInt_lt, q3, xv_int]
      have := Int.le_ediv_iff_mul_le (a := -b.toInt) (b := 34359738368) hp
      rw [Int.neg_mul] at this
      generalize b.toInt * p = w at *
      omega
    have l2 : (xv b ≤ ((34359738367 : Int64) >>> ((nI (min j 63)).toInt64 &&& 63))) ↔ b.toInt * p < 34359738368 := by
      rw [Int64.le_iff_toInt_le, q2, xv_int]
      have := Int.le_ediv_iff_mul_le (a := b.toInt) (b := 34359738367) hp
      generalize b.toInt * p = w at *
      omega
    by_cases h1 : xv b < (-((34359738368 : Int64) >>> ((nI (min j 63)).toInt64 &&& 63)))
    · rw [if_pos h1, if_neg (fun z => l1.mp h1 (u.mpr z).1)]
    · rw [if_neg h1]
      by_cases h2 : xv b ≤ ((34359738367 : Int64) >>> ((nI (min j 63)).toInt64 &&& 63))
      · rw [if_pos h2, if_pos (u.mp ⟨Decidable.of_not_not (fun z => h1 (l1.mpr z)), l2.mp h2⟩)]
      · rw [if_neg h2, if_neg (fun z => h2 (l2.mpr (u.mpr z).2))]
  · rw [BitVec.getLsbD_or, BitVec.getLsbD_and, BitVec.getLsbD_twoPow, BitVec.getLsbD_and, m35_bit, BitVec.getLsbD_shiftLeft]
    by_cases q : i = 35
    · subst q; simp
    · rw [if_neg q]
      by_cases z : j ≤ i
      · simp [hi, show i < 35 by omega, show min j 63 = j by omega, z, show ¬ i < j by omega, show ¬ 35 = i by omega]
      · simp [hi, show i < min j 63 by omega, z, show ¬ 35 = i by omega]
theorem x_AR (k : kSx) (b : BitVec 36) (j : Nat) (hj : j < 256) (h0 : 0 < j) : ∃ R : BitVec 36, fx_shiftedWithSign k op ac ea (xv b) (-(nI j)) = (xv R, k) ∧ ∀ i, i < 36 → R.getLsbD i = b.getLsbD (min (i + j) 35) := by
  have hm : min j 63 < 64 := by omega
  have hs := sm64 _ hm
  have bit : ∀ i, i < 36 → (b.sshiftRight (min j 63)).getLsbD i = b.getLsbD (min (i + j) 35) := by
    intro i hi
    rw [BitVec.getLsbD_sshiftRight, BitVec.msb_eq_getLsbD_last]
    by_cases q : min j 63 + i < 36
    · simp only [show ¬ 36 ≤ i by omega, q, decide_false, Bool.not_false, Bool.true_and, if_true]
      rw [show min j 63 + i = min (i + j) 35 by omega]
    · simp only [show ¬ 36 ≤ i by omega, q, decide_false, Bool.not_false, Bool.true_and, if_false]
      rw [show min (i + j) 35 = 35 by omega]
  refine ⟨b.sshiftRight (min j 63), ?_, bit⟩
  unfold fx_shiftedWithSign
  rw [if_neg (n_lt j hj h0), n_neg j hj, n_min j hj]
  congr 1
  apply l_inj
  rw [l_shr _ _ _ hs hm, xv_bv, xv_bv]
  apply BitVec.eq_of_getLsbD_eq; intro i hi
  rw [BitVec.getLsbD_sshiftRight, BitVec.getLsbD_signExtend, BitVec.msb_signExtend, BitVec.getLsbD_signExtend, BitVec.msb_eq_getLsbD_last (b.sshiftRight _), bit (36 - 1) (by decide), BitVec.msb_eq_getLsbD_last, show min (36 - 1 + j) 35 = 36 - 1 by omega]
  by_cases q : i < 36
  · rw [if_pos (t := (b.sshiftRight (min j 63)).getLsbD i) q, bit i q]
    by_cases r : min j 63 + i < 36
    · simp only [hi, show ¬ 64 ≤ i by omega, r, show min j 63 + i < 64 by omega, decide_true, decide_false, Bool.not_false, Bool.true_and, if_true]
      rw [show min j 63 + i = min (i + j) 35 by omega]
    · rw [show min (i + j) 35 = 36 - 1 by omega]
      by_cases t : min j 63 + i < 64
      · simp only [hi, show ¬ 64 ≤ i by omega, r, t, decide_true, decide_false, Bool.not_false, Bool.true_and, if_true, if_false]
      · simp [hi, show ¬ 64 ≤ i by omega, t]
  · by_cases t : min j 63 + i < 64
    · simp [hi, show ¬ 64 ≤ i by omega, q, t, show ¬ min j 63 + i < 36 by omega]
    · simp [hi, show ¬ 64 ≤ i by omega, q, t]
theorem x_LL (b : BitVec 36) (j : Nat) (hj : j < 256) : ∃ R : BitVec 36, fx_shiftedWithoutSign (xv b) (nI j) = xv R ∧ ∀ i, i < 36 → R.getLsbD i = (decide (j ≤ i) && b.getLsbD (i - j)) := by
  have hm : min j 63 < 64 := by omega
  have hs := sm64 _ hm
  refine ⟨b <<< (min j 63), ?_, fun i hi => ?_⟩
  · unfold fx_shiftedWithoutSign fx_shiftedWithoutSign_30
    rw [if_pos (n_ge j hj), n_min j hj, sgn_eq, and_all, NN_xv, NN_shl b hs hm]
  · rw [BitVec.getLsbD_shiftLeft]
    by_cases z : j ≤ i
    · simp [hi, show min j 63 = j by omega, z, show ¬ i < j by omega]
    · simp [hi, show i < min j 63 by omega, z]
theorem x_LR (b : BitVec 36) (j : Nat) (hj : j < 256) (h0 : 0 < j) : ∃ R : BitVec 36, fx_shiftedWithoutSign (xv b) (-(nI j)) = xv R ∧ ∀ i, i < 36 → R.getLsbD i = b.getLsbD (i + j) := by
  have hm : min j 63 < 64 := by omega
  have hs := sm64 _ hm
  refine ⟨b >>> (min j 63), ?_, fun i hi => ?_⟩
  · unfold fx_shiftedWithoutSign fx_shiftedWithoutSign_30
    rw [if_neg (n_lt j hj h0), n_neg j hj, n_min j hj, sgn_eq, and_all, NN_xv, z_shr b hs hm, NN_zv]
  · rw [BitVec.getLsbD_ushiftRight]
    by_cases z : j ≤ 63
    · rw [show min j 63 = j by omega, Nat.add_comm]
    · rw [BitVec.getLsbD_of_ge b _ (by omega), BitVec.getLsbD_of_ge b _ (by omega)]
theorem x_RO (b : BitVec 36) (P : Int32) (f : Nat) (hf : f < 36) (hP : fjm_floorMod P (36 : Int32) = nI f) : ∃ R : BitVec 36, fx_turnedRound (xv b) P = xv R ∧ ∀ i, i < 36 → R.getLsbD i = b.getLsbD ((i + (36 - f)) % 36) := by
  refine ⟨(b <<< f) ||| (b >>> (36 - f)), ?_, fun i hi => ?_⟩
  · unfold fx_turnedRound
    rw [hP, n_36 f (by omega), sgn_eq, NN_or, and_all, NN_xv, NN_shl b (sm64 f (by omega)) (by omega), z_shr b (sm64 (36 - f) (by omega)) (by omega), NN_zv]
  · rw [BitVec.getLsbD_or, BitVec.getLsbD_shiftLeft, BitVec.getLsbD_ushiftRight]
    by_cases z : i < f
    · rw [show (i + (36 - f)) % 36 = 36 - f + i by omega]; simp [z]
    · rw [show (i + (36 - f)) % 36 = i - f by omega, BitVec.getLsbD_of_ge b (36 - f + i) (by omega)]; simp [z, hi]
end SHIFT2
section SHIFT3
variable {c : Int32} {kx : kSx} {kz : kSz} {op ac ea : Int32}
/-! leading zeros: 2 ^ e is the highest power in v -/
theorem nl48 : ∀ v : Nat, v < 256 → ∀ e : Nat, e < 8 → v / 2 ^ e = 1 → fji_numberOfLeadingZeros_48 (nI v) (31 : Int32) = nI (31 - e) ∧ fji_numberOfLeadingZeros_48 (nI v) ((31 : Int32) + (-8)) = nI (23 - e) ∧ fji_numberOfLeadingZeros_48 (nI v) ((31 : Int32) + (-16)) = nI (15 - e) ∧ fji_numberOfLeadingZeros_48 (nI v) (((31 : Int32) + (-16)) + (-8)) = nI (7 - e) := by decide +kernel
theorem dv_lt {v e d : Nat} (h : v / 2 ^ e = 1) (hv : v < 2 ^ d) : e < d := by
  by_cases q : e < d
  · exact q
  · have h2 : (2 : Nat) ^ d ≤ 2 ^ e := Nat.pow_le_pow_right (by decide) (by omega)
    rw [Nat.div_eq_of_lt (by omega)] at h
    exact absurd h (by decide)
theorem dv_ge {v e d : Nat} (h : v / 2 ^ e = 1) (hv : ¬ v < 2 ^ d) : d ≤ e := by
  by_cases q : d ≤ e
  · exact q
  · have h2 : (2 : Nat) ^ (e + 1) ≤ 2 ^ d := Nat.pow_le_pow_right (by decide) (by omega)
    have h3 : v < 2 * 2 ^ e := (Nat.div_lt_iff_lt_mul (Nat.two_pow_pos e)).mp (by omega)
    rw [Nat.pow_succ] at h2
    omega
theorem dv_sub {v e d : Nat} (h : v / 2 ^ e = 1) (hd : d ≤ e) : v / 2 ^ d / 2 ^ (e - d) = 1 := by
  rw [Nat.div_div_eq_div_mul, ← Nat.pow_add, show d + (e - d) = e by omega, h]
theorem n_ltN {v d : Nat} {x : Int32} (hx : x.toInt = (d : Int)) (hv : v < 2 ^ 31) : nI v < x ↔ v < d := by
  rw [i32_lt, hx, nI_toInt hv]; omega
theorem nl33 (v e : Nat) (hv : v < 65536) (h : v / 2 ^ e = 1) : fji_numberOfLeadingZeros_33 (nI v) (31 : Int32) = nI (31 - e) ∧ fji_numberOfLeadingZeros_33 (nI v) ((31 : Int32) + (-16)) = nI (15 - e) := by
  have e16 : e < 16 := dv_lt h hv
  unfold fji_numberOfLeadingZeros_33
  have l := n_ltN (x := (256 : Int32)) (d := 256) rfl (show v < 2 ^ 31 by omega)
  by_cases q : v < 256
  · rw [if_pos (l.mpr q), if_pos (l.mpr q)]
    have e8 : e < 8 := dv_lt (d := 8) h q
    have r := nl48 v q e e8 h
    exact ⟨r.1, r.2.2.1⟩
  · rw [if_neg (fun z => q (l.mp z)), if_neg (fun z => q (l.mp z)), pk_ushrN (by omega) (8 : Int32) 8 (by decide)]
    have e8 : 8 ≤ e := dv_ge (d := 8) h q
    have r := nl48 (v / 2 ^ 8) (by omega) (e - 8) (by omega) (dv_sub h e8)
    rw [r.2.1, r.2.2.2, show 23 - (e - 8) = 31 - e by omega, show 7 - (e - 8) = 15 - e by omega]
    exact ⟨rfl, rfl⟩
theorem nl32 (v e : Nat) (hv : v < 2 ^ 31) (h : v / 2 ^ e = 1) : fji_numberOfLeadingZeros (nI v) = nI (31 - e) := by
  have e31 : e < 31 := dv_lt h hv
  have h0 : (0 : Int32) < nI v := by
    rw [i32_lt, nI_toInt hv, show (0 : Int32).toInt = 0 from rfl]
    have : v ≠ 0 := fun z => by rw [z, Nat.zero_div] at h; exact absurd h (by decide)
    omega
  unfold fji_numberOfLeadingZeros
  rw [if_pos h0]
  have l := n_ltN (x := (65536 : Int32)) (d := 65536) rfl hv
  by_cases q : v < 65536
  · rw [if_pos (l.mpr q)]; exact (nl33 v e q h).1
  · rw [if_neg (fun z => q (l.mp z)), pk_ushrN (by omega) (16 : Int32) 16 (by decide)]
    have e16 : 16 ≤ e := dv_ge (d := 16) h q
    rw [(nl33 (v / 2 ^ 16) (e - 16) (by omega) (dv_sub h e16)).2, show 15 - (e - 16) = 31 - e by omega]
theorem n_63 : ∀ e : Nat, e < 32 → (32 : Int32) + nI (31 - e) = nI (63 - e) := by decide +kernel
theorem nl64 (b : BitVec 36) (e : Nat) (h : b.toNat / 2 ^ e = 1) : fjl_numberOfLeadingZeros (zv b) = nI (63 - e) := by
  have hb := b36_lt b
  have e36 : e < 36 := dv_lt h hb
  have hN : (zv b).toBitVec.toNat = b.toNat := by rw [zv_bv, BitVec.toNat_setWidth]; exact Nat.mod_eq_of_lt (by omega)
  have hu : (((zv b).toUInt64 >>> ((32 : Int32).toInt64.toUInt64 &&& Int64.toUInt64 63)).toInt64).toInt32 = nI (b.toNat / 4294967296) := by
    apply Int32.toInt_inj.mp
    rw [Int64.toInt_toInt32, l_u32, hN, nI_toInt (by omega)]
    exact Int.bmod_eq_of_le (by omega) (by omega)
  unfold fjl_numberOfLeadingZeros
  rw [hu]
  by_cases q : b.toNat < 4294967296
  · rw [if_pos (by rw [Nat.div_eq_of_lt q]; rfl)]
    have e32 : e < 32 := dv_lt (d := 32) h q
    rw [← n_63 e e32]
    congr 1
    by_cases r : b.toNat < 2147483648
    · have hl : (zv b).toInt32 = nI b.toNat := by
        apply Int32.toInt_inj.mp
        rw [Int64.toInt_toInt32, zv_int, nI_toInt (by omega)]
        exact Int.bmod_eq_of_le (by omega) (by omega)
      rw [hl]; exact nl32 _ e (by omega) h
    · have e31 : 31 ≤ e := dv_ge (d := 31) h r
      have hl : (zv b).toInt32.toInt = (b.toNat : Int) - 4294967296 := by
        rw [Int64.toInt_toInt32, zv_int, Int.bmod_def]
        have : (b.toNat : Int) % ((2 ^ 32 : Nat) : Int) = b.toNat := Int.emod_eq_of_lt (by omega) (by omega)
        rw [this, if_neg (by omega)]; rfl
      unfold fji_numberOfLeadingZeros
      rw [if_neg (by rw [i32_lt, hl, show (0 : Int32).toInt = 0 from rfl]; omega), if_neg (fun z => by rw [z, show (0 : Int32).toInt = 0 from rfl] at hl; omega), show e = 31 by omega]
      rfl
  · have e32 : 32 ≤ e := dv_ge (d := 32) h q
    have hd := dv_sub h e32
    have hn : ¬ nI (b.toNat / 4294967296) = 0 := fun z => by
      have := congrArg Int32.toInt z
      rw [nI_toInt (by omega), show (0 : Int32).toInt = 0 from rfl] at this
      omega
    rw [if_neg hn, nl32 (b.toNat / 4294967296) (e - 32) (by omega) hd, show 31 - (e - 32) = 63 - e by omega]
theorem n_28 : ∀ m : Nat, m < 36 → nI (63 - (35 - m)) - (28 : Int32) = nI m := by decide +kernel
theorem n_inc : ∀ m : Nat, m < 36 → nI m + 1 = nI (m + 1) := by decide +kernel
theorem n_35 : ∀ m : Nat, m < 36 → (35 : Int32) - nI m = nI (35 - m) := by decide +kernel
theorem n_no36 : ∀ m : Nat, m < 36 → ¬ (36 : Int32) ≤ nI m ∧ ¬ nI m = (36 : Int32) ∧ 0 ≤ nI m := by decide +kernel
theorem ff_t (b : BitVec 36) (m : Nat) (hm : m < 36) : ((zv b >>> (((35 : Int32) - nI m).toInt64 &&& 63)) &&& (1 : Int64)) = (0 : Int64) ↔ b.toNat / 2 ^ (35 - m) % 2 = 0 := by
  rw [n_35 m hm, z_shr b (sm64 (35 - m) (by omega)) (by omega), show (1 : Int64) = zv 1#36 from by decide +kernel, zv_and, zv_zero, ← Int64.toInt_inj, zv_int, zv_int, BitVec.toNat_and, BitVec.toNat_ushiftRight, Nat.shiftRight_eq_div_pow, show (1#36).toNat = 1 from rfl, Nat.and_one_is_mod, show (0#36).toNat = 0 from rfl]
  omega
theorem two0 {w : Nat} (h : w < 2) (z : w % 2 = 0) : w = 0 := by omega
theorem two1 {w : Nat} (h : w < 2) (z : ¬ w % 2 = 0) : w = 1 := by omega
theorem ff (k : kSz) (b : BitVec 36) : ∀ (n m : Nat), m ≤ 36 → 36 - m < n → b.toNat / 2 ^ (36 - m) = 0 → (b = 0#36 ∧ fz_shift_40 n k ac ea (zv b) (nI m) = fz_shift_68 k ac ea (nI 36)) ∨ (∃ q, q < 36 ∧ b.toNat / 2 ^ (35 - q) = 1 ∧ fz_shift_40 n k ac ea (zv b) (nI m) = fz_shift_68 k ac ea (nI q)) := by
  intro n
  induction n with
  | zero => intro m _ h; exact absurd h (Nat.not_lt_zero _)
  | succ n ih =>
    intro m hm hn h
    rw [fz_shift_40]
    by_cases q : m = 36
    · subst q
      rw [if_pos (show (36 : Int32) ≤ nI 36 by decide)]
      refine Or.inl ⟨?_, rfl⟩
      apply BitVec.eq_of_toNat_eq
      rw [show 36 - 36 = 0 from rfl, Nat.pow_zero, Nat.div_one] at h
      exact h
    · have hm2 : m < 36 := by omega
      have f := n_no36 m hm2
      rw [if_neg f.1]
      have h2 : b.toNat / 2 ^ (35 - m) < 2 := by
        rw [show 36 - m = (35 - m) + 1 by omega, Nat.pow_succ] at h
        have p := Nat.two_pow_pos (35 - m)
        rw [Nat.div_lt_iff_lt_mul p]
        rw [Nat.div_eq_zero_iff] at h
        generalize 2 ^ (35 - m) = w at *
        omega
      have t := ff_t b m hm2
      by_cases z : ((zv b >>> (((35 : Int32) - nI m).toInt64 &&& 63)) &&& (1 : Int64)) = (0 : Int64)
      · rw [if_pos z, n_inc m hm2]
        have z2 := t.mp z
        exact ih (m + 1) (by omega) (by omega) (by rw [show 36 - (m + 1) = 35 - m by omega]; exact two0 h2 z2)
      · rw [if_neg z]
        have z2 : ¬ b.toNat / 2 ^ (35 - m) % 2 = 0 := fun y => z (t.mpr y)
        exact Or.inr ⟨m, hm2, two1 h2 z2, rfl⟩
theorem jffo_c (hE : EA ea) (h : RP c 4096 kx kz) : SM c 300000 (fx_findFirstOne kx op ac ea) (fz_shift_40 37 kz ac ea (ldz kz ac) (0 : Int32)) := by
  obtain ⟨b, e1, e2⟩ := h.ld ac
  unfold fx_findFirstOne fx_findFirstOne_40 fx_findFirstOne_53 fx_jumpIf fx_acAfter
  rw [e1, e2, and_all, NN_xv]
  have F := ff (ac := ac) (ea := ea) kz b 37 0 (by decide) (by decide) (Nat.div_eq_of_lt (b36_lt b))
  have F : (b = 0#36 ∧ fz_shift_40 37 kz ac ea (zv b) (0 : Int32) = fz_shift_68 kz ac ea (nI 36)) ∨ (∃ q, q < 36 ∧ b.toNat / 2 ^ (35 - q) = 1 ∧ fz_shift_40 37 kz ac ea (zv b) (0 : Int32) = fz_shift_68 kz ac ea (nI q)) := F
  rcases F with ⟨hb, f⟩ | ⟨m, hm, hd, f⟩
  · rw [f]
    have z : zv b = (0 : Int64) := by rw [hb]; decide +kernel
    rw [if_pos z, if_pos z, if_pos rfl]
    unfold fz_shift_68 fz_shift_92
    rw [if_pos (show nI 36 = (36 : Int32) from rfl), if_pos (show (36 : Int32) ≤ nI 36 by decide)]
    refine ⟨rfl, (RP.mono ?_ (show (4096 : Int) ≤ 300000 by decide))⟩
    have q := h.st ((ac + (1 : Int32)) &&& (15 : Int32)) 0#36
    rw [← xv_zero, ← zv_zero] at q
    exact q
  · rw [f]
    have z : ¬ zv b = (0 : Int64) := by
      intro z
      have q := congrArg Int64.toInt z
      rw [zv_int, show (0 : Int64).toInt = 0 from rfl] at q
      rw [show b.toNat = 0 by omega, Nat.zero_div] at hd
      exact absurd hd (by decide)
    have g := n_no36 m hm
    rw [if_neg z, if_neg z, if_neg (show ¬ (1 : Int32) = 0 by decide), nl64 b (35 - m) hd, n_28 m hm]
    unfold fz_shift_68 fz_shift_92
    rw [if_neg g.2.1, if_neg g.1]
    have q := h.st ((ac + (1 : Int32)) &&& (15 : Int32)) (EE (nI m))
    rw [← ee_xv g.2.2, ← ee_zv g.2.2] at q
    exact ⟨rfl, q.pc hE.1 (Int.le_trans (Int.le_of_lt hE.2) (by decide))⟩
theorem ea_hw (hE : EA ea) : ea = hw (ea.toBitVec.setWidth 18) := by
  apply i_inj
  rw [hw_bv]
  apply BitVec.eq_of_toNat_eq
  have h1 : ea.toInt = ea.toBitVec.toInt := rfl
  have h2 := hE.1
  have h3 := hE.2
  rw [h1, BitVec.toInt_eq_toNat_cond] at h2 h3
  have := ea.toBitVec.isLt
  rw [BitVec.toNat_setWidth, BitVec.toNat_setWidth]
  split at h2 <;> omega
theorem places_c (hE : EA ea) : ∃ t : Int32, fx_places kx op ac ea = t - t / (256 : Int32) * (256 : Int32) ∧ ∀ v1, fz_shift kz v1 ac ea = fz_shift_18 kz v1 ac ea t := by
  have q := h17 (ea.toBitVec.setWidth 18)
  rw [← ea_hw hE] at q
  unfold fx_places fz_shift
  by_cases z : (ea &&& (131072 : Int32)) = 0
  · refine ⟨ea, ?_, fun v1 => ?_⟩
    · rw [if_pos z]
    · rw [if_neg (q.mp z)]
  · refine ⟨(ea - (262143 : Int32)) - (1 : Int32), ?_, fun v1 => ?_⟩
    · rw [if_neg z]
    · rw [if_pos (Decidable.of_not_not (fun y => z (q.mpr y)))]
theorem rem_j (t : Int32) : (∃ j : Nat, j < 256 ∧ t - t / (256 : Int32) * (256 : Int32) = nI j) ∨ (∃ j : Nat, 0 < j ∧ j < 256 ∧ t - t / (256 : Int32) * (256 : Int32) = -(nI j)) := by
  have r := rem256 t
  generalize t - t / (256 : Int32) * (256 : Int32) = P at *
  by_cases q : 0 ≤ P.toInt
  · exact Or.inl ⟨P.toInt.toNat, by omega, i32_nI q⟩
  · refine Or.inr ⟨(-P.toInt).toNat, by omega, by omega, ?_⟩
    have e : (-P).toInt = -P.toInt := by rw [Int32.toInt_neg]; exact Int.bmod_eq_of_le (by omega) (by omega)
    have e2 : -P = nI (-P).toInt.toNat := i32_nI (by omega)
    rw [e] at e2
    rw [← e2, Int32.neg_neg]
theorem bits_eq {R R2 : BitVec 36} {f : Nat → Bool} (h : ∀ i, i < 36 → R.getLsbD i = f i) (h2 : ∀ i, i < 36 → R2.getLsbD i = f i) : R = R2 := BitVec.eq_of_getLsbD_eq (fun i hi => by rw [h i hi, h2 i hi])
theorem z18 (v1 t : Int32) (hv : ¬ v1 = (3 : Int32)) : fz_shift_18 kz v1 ac ea t = fz_shift_114 257 kz v1 ac (t - t / (256 : Int32) * (256 : Int32)) (ldz kz ac) (fjm_abs (t - t / (256 : Int32) * (256 : Int32))) := by
  unfold fz_shift_18; rw [if_neg hv]
theorem lp_0 (v1 v4 : Int32) (b : BitVec 36) : fz_shift_114 257 kz v1 ac v4 (zv b) (nI 0) = ((0 : Int32), stz kz ac (zv b)) := by
  rw [fz_shift_114, if_pos (show nI 0 ≤ 0 by decide)]
theorem shift_c (hA : AC ac) (hE : EA ea) (h : RP c 4096 kx kz) (ho : op = 160 ∨ op = 161 ∨ op = 162 ∨ op = 163) : SM c 300000 (fx_shiftOrFindFirstOne kx op ac ea) (fz_shift kz (op - (160 : Int32)) ac ea) := by
  obtain ⟨t, eP, eS⟩ := places_c (kx := kx) (kz := kz) (op := op) (ac := ac) hE
  obtain ⟨b, e1, e2⟩ := h.ld ac
  have hj := rem_j t
  unfold fx_shiftOrFindFirstOne fx_shiftOrFindFirstOne_118
  rw [eP, eS, e1]
  rcases ho with e | e | e | e
  · rw [if_pos e, show op - (160 : Int32) = 0 by rw [e]; decide, z18 0 t (by decide), e2]
    rcases hj with ⟨j, j2, eJ⟩ | ⟨j, j0, j2, eJ⟩
    · rw [eJ, (n_abs j j2).1]
      obtain ⟨R, r1, r2⟩ := x_AL (op := op) (ac := ac) (ea := ea) kx b j j2
      obtain ⟨S, s1, s2⟩ := lp_AL (v2 := ac) (v4 := nI j) j 257 kz b (fun z => n_gt0 j j2 z) (by omega) j2
      rw [r1, s1, bits_eq r2 s2]
      refine ⟨rfl, RP.mono (RP.st ?_ ac S) (show (4096 : Int) ≤ 300000 by decide)⟩
      show RP c 4096 (if inR b j = true then kx else vx_ov kx 1) (if inR b j = true then kz else vz_ov kz 1)
      by_cases w : inR b j = true
      · rw [if_pos w, if_pos w]; exact h
      · rw [if_neg w, if_neg w]; exact h.ov 1
    · rw [eJ, (n_abs j j2).2]
      obtain ⟨R, r1, r2⟩ := x_AR (op := op) (ac := ac) (ea := ea) kx b j j2 j0
      obtain ⟨S, s1, s2⟩ := lp_AR (v2 := ac) (v4 := -(nI j)) (n_le0 j j2) j 257 kz b (by omega) j2
      rw [r1, s1, bits_eq r2 s2]
      exact ⟨rfl, RP.mono (h.st ac S) (show (4096 : Int) ≤ 300000 by decide)⟩
  · rw [if_neg (show ¬ op = 160 by rw [e]; decide), if_pos e, show op - (160 : Int32) = 1 by rw [e]; decide, z18 1 t (by decide), e2]
    rcases hj with ⟨j, j2, eJ⟩ | ⟨j, j0, j2, eJ⟩
    · rw [eJ, (n_abs j j2).1]
      obtain ⟨R, r1, r2⟩ := x_RO b (nI j) (j % 36) (by omega) (n_fm j j2).1
      by_cases j0 : j = 0
      · subst j0
        rw [lp_0, r1]
        have e3 : R = b := BitVec.eq_of_getLsbD_eq (fun i hi => by rw [r2 i hi, show (i + (36 - 0 % 36)) % 36 = i by omega])
        rw [e3]
        exact ⟨rfl, RP.mono (h.st ac b) (show (4096 : Int) ≤ 300000 by decide)⟩
      · obtain ⟨S, s1, s2⟩ := lp_RL (v2 := ac) (v4 := nI j) (n_gt0 j j2 (by omega)) j 257 kz b (by omega) j2
        have e3 : R = S := BitVec.eq_of_getLsbD_eq (fun i hi => by rw [r2 i hi, s2 i hi, show (i + (36 - j % 36)) % 36 = (i + 35 * j) % 36 by omega])
        rw [r1, s1, e3]
        exact ⟨rfl, RP.mono (h.st ac S) (show (4096 : Int) ≤ 300000 by decide)⟩
    · rw [eJ, (n_abs j j2).2]
      obtain ⟨R, r1, r2⟩ := x_RO b (-(nI j)) ((35 * j) % 36) (by omega) (n_fm j j2).2
      obtain ⟨S, s1, s2⟩ := lp_RR (v2 := ac) (v4 := -(nI j)) (n_le0 j j2) j 257 kz b (by omega) j2
      have e3 : R = S := BitVec.eq_of_getLsbD_eq (fun i hi => by rw [r2 i hi, s2 i hi, show (i + (36 - (35 * j) % 36)) % 36 = (i + j) % 36 by omega])
      rw [r1, s1, e3]
      exact ⟨rfl, RP.mono (h.st ac S) (show (4096 : Int) ≤ 300000 by decide)⟩
  · rw [if_neg (show ¬ op = 160 by rw [e]; decide), if_neg (show ¬ op = 161 by rw [e]; decide), if_pos e, show op - (160 : Int32) = 2 by rw [e]; decide, z18 2 t (by decide), e2]
    rcases hj with ⟨j, j2, eJ⟩ | ⟨j, j0, j2, eJ⟩
    · rw [eJ, (n_abs j j2).1]
      obtain ⟨R, r1, r2⟩ := x_LL b j j2
      by_cases j0 : j = 0
      · subst j0
        rw [lp_0, r1]
        have e3 : R = b := BitVec.eq_of_getLsbD_eq (fun i hi => by rw [r2 i hi]; simp)
        rw [e3]
        exact ⟨rfl, RP.mono (h.st ac b) (show (4096 : Int) ≤ 300000 by decide)⟩
      · obtain ⟨S, s1, s2⟩ := lp_LL (v2 := ac) (v4 := nI j) (n_gt0 j j2 (by omega)) j 257 kz b (by omega) j2
        rw [r1, s1, bits_eq r2 s2]
        exact ⟨rfl, RP.mono (h.st ac S) (show (4096 : Int) ≤ 300000 by decide)⟩
    · rw [eJ, (n_abs j j2).2]
      obtain ⟨R, r1, r2⟩ := x_LR b j j2 j0
      obtain ⟨S, s1, s2⟩ := lp_LR (v2 := ac) (v4 := -(nI j)) (n_le0 j j2) j 257 kz b (by omega) j2
      rw [r1, s1, bits_eq r2 s2]
      exact ⟨rfl, RP.mono (h.st ac S) (show (4096 : Int) ≤ 300000 by decide)⟩
  · rw [if_neg (show ¬ op = 160 by rw [e]; decide), if_neg (show ¬ op = 161 by rw [e]; decide), if_neg (show ¬ op = 162 by rw [e]; decide), show op - (160 : Int32) = 3 by rw [e]; decide]
    have z : fz_shift_18 kz 3 ac ea t = fz_shift_40 37 kz ac ea (ldz kz ac) (0 : Int32) := by
      unfold fz_shift_18; rw [if_pos rfl]
    rw [z]
    exact jffo_c hE h
end SHIFT3
