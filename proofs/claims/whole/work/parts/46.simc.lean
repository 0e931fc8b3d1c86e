section SIMC
variable {c : Int32} {B : Int} {kx : kSx} {kz : kSz} {op ac ea : Int32}
theorem b36_ext {a b : BitVec 36} (h : ∀ i, i < 36 → a.getLsbD i = b.getLsbD i) : a = b := BitVec.eq_of_getLsbD_eq h
theorem dm11 (a b : BitVec 36) : (a &&& (b ^^^ BitVec.allOnes 36)) ^^^ BitVec.allOnes 36 = (a ^^^ BitVec.allOnes 36) ||| b := by
  apply b36_ext; intro i hi
  simp only [BitVec.getLsbD_and, BitVec.getLsbD_xor, BitVec.getLsbD_or, BitVec.getLsbD_allOnes, hi, decide_true]
  cases a.getLsbD i <;> cases b.getLsbD i <;> rfl
theorem dm13 (a b : BitVec 36) : ((a ^^^ BitVec.allOnes 36) &&& b) ^^^ BitVec.allOnes 36 = a ||| (b ^^^ BitVec.allOnes 36) := by
  apply b36_ext; intro i hi
  simp only [BitVec.getLsbD_and, BitVec.getLsbD_xor, BitVec.getLsbD_or, BitVec.getLsbD_allOnes, hi, decide_true]
  cases a.getLsbD i <;> cases b.getLsbD i <;> rfl
/-- the class's value, and the reference's, of the sixteen functions -/
def cval (kind : Int32) (x m : Int64) : Int64 := if (8 : Int32) ≤ kind then (fx_combined ((15 : Int32) - kind) x m) ^^^ (-1 : Int64) else fx_combined kind x m

theorem comb_0 (x m : Int64) : fx_combined 0 x m = 0 := by
  unfold fx_combined
  rw [if_neg (show ¬ (0 : Int32) = 1 by decide), if_neg (show ¬ (0 : Int32) = 2 by decide), if_neg (show ¬ (0 : Int32) = 3 by decide), if_neg (show ¬ (0 : Int32) = 4 by decide), if_neg (show ¬ (0 : Int32) = 5 by decide), if_neg (show ¬ (0 : Int32) = 6 by decide), if_neg (show ¬ (0 : Int32) = 7 by decide)]
theorem comb_1 (x m : Int64) : fx_combined 1 x m = x &&& m := by
  unfold fx_combined
  rw [if_pos rfl]
theorem comb_2 (x m : Int64) : fx_combined 2 x m = (x ^^^ (-1 : Int64)) &&& m := by
  unfold fx_combined
  rw [if_neg (show ¬ (2 : Int32) = 1 by decide), if_pos rfl]
theorem comb_3 (x m : Int64) : fx_combined 3 x m = m := by
  unfold fx_combined
  rw [if_neg (show ¬ (3 : Int32) = 1 by decide), if_neg (show ¬ (3 : Int32) = 2 by decide), if_pos rfl]
theorem comb_4 (x m : Int64) : fx_combined 4 x m = x &&& (m ^^^ (-1 : Int64)) := by
  unfold fx_combined
  rw [if_neg (show ¬ (4 : Int32) = 1 by decide), if_neg (show ¬ (4 : Int32) = 2 by decide), if_neg (show ¬ (4 : Int32) = 3 by decide), if_pos rfl]
theorem comb_5 (x m : Int64) : fx_combined 5 x m = x := by
  unfold fx_combined
  rw [if_neg (show ¬ (5 : Int32) = 1 by decide), if_neg (show ¬ (5 : Int32) = 2 by decide), if_neg (show ¬ (5 : Int32) = 3 by decide), if_neg (show ¬ (5 : Int32) = 4 by decide), if_pos rfl]
theorem comb_6 (x m : Int64) : fx_combined 6 x m = x ^^^ m := by
  unfold fx_combined
  rw [if_neg (show ¬ (6 : Int32) = 1 by decide), if_neg (show ¬ (6 : Int32) = 2 by decide), if_neg (show ¬ (6 : Int32) = 3 by decide), if_neg (show ¬ (6 : Int32) = 4 by decide), if_neg (show ¬ (6 : Int32) = 5 by decide), if_pos rfl]
theorem comb_7 (x m : Int64) : fx_combined 7 x m = x ||| m := by
  unfold fx_combined
  rw [if_neg (show ¬ (7 : Int32) = 1 by decide), if_neg (show ¬ (7 : Int32) = 2 by decide), if_neg (show ¬ (7 : Int32) = 3 by decide), if_neg (show ¬ (7 : Int32) = 4 by decide), if_neg (show ¬ (7 : Int32) = 5 by decide), if_neg (show ¬ (7 : Int32) = 6 by decide), if_pos rfl]
theorem bits_0 (m1 a1 e1 : Int32) (x m : Int64) : fz_bits_41 kz 0 m1 a1 e1 x m = ((0 : Int32), fz_give kz m1 a1 e1 (0 : Int64)) := by
  unfold fz_bits_41 fz_bits_295
  rw [if_pos rfl]
theorem cv_0 (a b : BitVec 36) : cval 0 (xv a) (xv b) = xv (NN (0 : Int64)) := by
  unfold cval; rw [if_neg (show ¬ (8 : Int32) ≤ 0 by decide), comb_0]; decide +kernel
theorem bits_1 (m1 a1 e1 : Int32) (x m : Int64) : fz_bits_41 kz 1 m1 a1 e1 x m = ((0 : Int32), fz_give kz m1 a1 e1 (x &&& m)) := by
  unfold fz_bits_41 fz_bits_295
  rw [if_neg (show ¬ (1 : Int32) = 0 by decide), if_pos rfl]
theorem cv_1 (a b : BitVec 36) : cval 1 (xv a) (xv b) = xv (NN ((zv a) &&& (zv b))) := by
  unfold cval; rw [if_neg (show ¬ (8 : Int32) ≤ 1 by decide), comb_1]; simp only [xv_m1, xv_and, xv_or, xv_xor, NN_and, NN_or, NN_xor, NN_zv, NN_xv, xv_zero]
theorem bits_2 (m1 a1 e1 : Int32) (x m : Int64) : fz_bits_41 kz 2 m1 a1 e1 x m = ((0 : Int32), fz_give kz m1 a1 e1 ((x ^^^ (-1 : Int64)) &&& m)) := by
  unfold fz_bits_41 fz_bits_295
  rw [if_neg (show ¬ (2 : Int32) = 0 by decide), if_neg (show ¬ (2 : Int32) = 1 by decide), if_pos rfl]
theorem cv_2 (a b : BitVec 36) : cval 2 (xv a) (xv b) = xv (NN (((zv a) ^^^ (-1 : Int64)) &&& (zv b))) := by
  unfold cval; rw [if_neg (show ¬ (8 : Int32) ≤ 2 by decide), comb_2]; simp only [xv_m1, xv_and, xv_or, xv_xor, NN_and, NN_or, NN_xor, NN_zv, NN_xv, xv_zero]
theorem bits_3 (m1 a1 e1 : Int32) (x m : Int64) : fz_bits_41 kz 3 m1 a1 e1 x m = ((0 : Int32), fz_give kz m1 a1 e1 m) := by
  unfold fz_bits_41 fz_bits_295
  rw [if_neg (show ¬ (3 : Int32) = 0 by decide), if_neg (show ¬ (3 : Int32) = 1 by decide), if_neg (show ¬ (3 : Int32) = 2 by decide), if_pos rfl]
theorem cv_3 (a b : BitVec 36) : cval 3 (xv a) (xv b) = xv (NN (zv b)) := by
  unfold cval; rw [if_neg (show ¬ (8 : Int32) ≤ 3 by decide), comb_3]; simp only [xv_m1, xv_and, xv_or, xv_xor, NN_and, NN_or, NN_xor, NN_zv, NN_xv, xv_zero]
theorem bits_4 (m1 a1 e1 : Int32) (x m : Int64) : fz_bits_41 kz 4 m1 a1 e1 x m = ((0 : Int32), fz_give kz m1 a1 e1 (x &&& (m ^^^ (-1 : Int64)))) := by
  unfold fz_bits_41 fz_bits_295
  rw [if_neg (show ¬ (4 : Int32) = 0 by decide), if_neg (show ¬ (4 : Int32) = 1 by decide), if_neg (show ¬ (4 : Int32) = 2 by decide), if_neg (show ¬ (4 : Int32) = 3 by decide), if_pos rfl]
theorem cv_4 (a b : BitVec 36) : cval 4 (xv a) (xv b) = xv (NN ((zv a) &&& ((zv b) ^^^ (-1 : Int64)))) := by
  unfold cval; rw [if_neg (show ¬ (8 : Int32) ≤ 4 by decide), comb_4]; simp only [xv_m1, xv_and, xv_or, xv_xor, NN_and, NN_or, NN_xor, NN_zv, NN_xv, xv_zero]
theorem bits_5 (m1 a1 e1 : Int32) (x m : Int64) : fz_bits_41 kz 5 m1 a1 e1 x m = ((0 : Int32), fz_give kz m1 a1 e1 x) := by
  unfold fz_bits_41 fz_bits_295
  rw [if_neg (show ¬ (5 : Int32) = 0 by decide), if_neg (show ¬ (5 : Int32) = 1 by decide), if_neg (show ¬ (5 : Int32) = 2 by decide), if_neg (show ¬ (5 : Int32) = 3 by decide), if_neg (show ¬ (5 : Int32) = 4 by decide), if_pos rfl]
theorem cv_5 (a b : BitVec 36) : cval 5 (xv a) (xv b) = xv (NN (zv a)) := by
  unfold cval; rw [if_neg (show ¬ (8 : Int32) ≤ 5 by decide), comb_5]; simp only [xv_m1, xv_and, xv_or, xv_xor, NN_and, NN_or, NN_xor, NN_zv, NN_xv, xv_zero]
theorem bits_6 (m1 a1 e1 : Int32) (x m : Int64) : fz_bits_41 kz 6 m1 a1 e1 x m = ((0 : Int32), fz_give kz m1 a1 e1 (x ^^^ m)) := by
  unfold fz_bits_41 fz_bits_295
  rw [if_neg (show ¬ (6 : Int32) = 0 by decide), if_neg (show ¬ (6 : Int32) = 1 by decide), if_neg (show ¬ (6 : Int32) = 2 by decide), if_neg (show ¬ (6 : Int32) = 3 by decide), if_neg (show ¬ (6 : Int32) = 4 by decide), if_neg (show ¬ (6 : Int32) = 5 by decide), if_pos rfl]
theorem cv_6 (a b : BitVec 36) : cval 6 (xv a) (xv b) = xv (NN ((zv a) ^^^ (zv b))) := by
  unfold cval; rw [if_neg (show ¬ (8 : Int32) ≤ 6 by decide), comb_6]; simp only [xv_m1, xv_and, xv_or, xv_xor, NN_and, NN_or, NN_xor, NN_zv, NN_xv, xv_zero]
theorem bits_7 (m1 a1 e1 : Int32) (x m : Int64) : fz_bits_41 kz 7 m1 a1 e1 x m = ((0 : Int32), fz_give kz m1 a1 e1 (x ||| m)) := by
  unfold fz_bits_41 fz_bits_295
  rw [if_neg (show ¬ (7 : Int32) = 0 by decide), if_neg (show ¬ (7 : Int32) = 1 by decide), if_neg (show ¬ (7 : Int32) = 2 by decide), if_neg (show ¬ (7 : Int32) = 3 by decide), if_neg (show ¬ (7 : Int32) = 4 by decide), if_neg (show ¬ (7 : Int32) = 5 by decide), if_neg (show ¬ (7 : Int32) = 6 by decide), if_pos rfl]
theorem cv_7 (a b : BitVec 36) : cval 7 (xv a) (xv b) = xv (NN ((zv a) ||| (zv b))) := by
  unfold cval; rw [if_neg (show ¬ (8 : Int32) ≤ 7 by decide), comb_7]; simp only [xv_m1, xv_and, xv_or, xv_xor, NN_and, NN_or, NN_xor, NN_zv, NN_xv, xv_zero]
theorem bits_8 (m1 a1 e1 : Int32) (x m : Int64) : fz_bits_41 kz 8 m1 a1 e1 x m = ((0 : Int32), fz_give kz m1 a1 e1 ((x ||| m) ^^^ (-1 : Int64))) := by
  unfold fz_bits_41 fz_bits_295
  rw [if_neg (show ¬ (8 : Int32) = 0 by decide), if_neg (show ¬ (8 : Int32) = 1 by decide), if_neg (show ¬ (8 : Int32) = 2 by decide), if_neg (show ¬ (8 : Int32) = 3 by decide), if_neg (show ¬ (8 : Int32) = 4 by decide), if_neg (show ¬ (8 : Int32) = 5 by decide), if_neg (show ¬ (8 : Int32) = 6 by decide), if_neg (show ¬ (8 : Int32) = 7 by decide), if_pos rfl]
theorem cv_8 (a b : BitVec 36) : cval 8 (xv a) (xv b) = xv (NN (((zv a) ||| (zv b)) ^^^ (-1 : Int64))) := by
  unfold cval; rw [if_pos (show (8 : Int32) ≤ 8 by decide), show ((15 : Int32) - 8) = 7 by decide, comb_7]; simp only [xv_m1, xv_and, xv_or, xv_xor, NN_and, NN_or, NN_xor, NN_zv, NN_xv, xv_zero]
theorem bits_9 (m1 a1 e1 : Int32) (x m : Int64) : fz_bits_41 kz 9 m1 a1 e1 x m = ((0 : Int32), fz_give kz m1 a1 e1 ((x ^^^ m) ^^^ (-1 : Int64))) := by
  unfold fz_bits_41 fz_bits_295
  rw [if_neg (show ¬ (9 : Int32) = 0 by decide), if_neg (show ¬ (9 : Int32) = 1 by decide), if_neg (show ¬ (9 : Int32) = 2 by decide), if_neg (show ¬ (9 : Int32) = 3 by decide), if_neg (show ¬ (9 : Int32) = 4 by decide), if_neg (show ¬ (9 : Int32) = 5 by decide), if_neg (show ¬ (9 : Int32) = 6 by decide), if_neg (show ¬ (9 : Int32) = 7 by decide), if_neg (show ¬ (9 : Int32) = 8 by decide), if_pos rfl]
theorem cv_9 (a b : BitVec 36) : cval 9 (xv a) (xv b) = xv (NN (((zv a) ^^^ (zv b)) ^^^ (-1 : Int64))) := by
  unfold cval; rw [if_pos (show (8 : Int32) ≤ 9 by decide), show ((15 : Int32) - 9) = 6 by decide, comb_6]; simp only [xv_m1, xv_and, xv_or, xv_xor, NN_and, NN_or, NN_xor, NN_zv, NN_xv, xv_zero]
theorem bits_10 (m1 a1 e1 : Int32) (x m : Int64) : fz_bits_41 kz 10 m1 a1 e1 x m = ((0 : Int32), fz_give kz m1 a1 e1 (x ^^^ (-1 : Int64))) := by
  unfold fz_bits_41 fz_bits_295
  rw [if_neg (show ¬ (10 : Int32) = 0 by decide), if_neg (show ¬ (10 : Int32) = 1 by decide), if_neg (show ¬ (10 : Int32) = 2 by decide), if_neg (show ¬ (10 : Int32) = 3 by decide), if_neg (show ¬ (10 : Int32) = 4 by decide), if_neg (show ¬ (10 : Int32) = 5 by decide), if_neg (show ¬ (10 : Int32) = 6 by decide), if_neg (show ¬ (10 : Int32) = 7 by decide), if_neg (show ¬ (10 : Int32) = 8 by decide), if_neg (show ¬ (10 : Int32) = 9 by decide), if_pos rfl]
theorem cv_10 (a b : BitVec 36) : cval 10 (xv a) (xv b) = xv (NN ((zv a) ^^^ (-1 : Int64))) := by
  unfold cval; rw [if_pos (show (8 : Int32) ≤ 10 by decide), show ((15 : Int32) - 10) = 5 by decide, comb_5]; simp only [xv_m1, xv_and, xv_or, xv_xor, NN_and, NN_or, NN_xor, NN_zv, NN_xv, xv_zero]
theorem bits_11 (m1 a1 e1 : Int32) (x m : Int64) : fz_bits_41 kz 11 m1 a1 e1 x m = ((0 : Int32), fz_give kz m1 a1 e1 ((x ^^^ (-1 : Int64)) ||| m)) := by
  unfold fz_bits_41 fz_bits_295
  rw [if_neg (show ¬ (11 : Int32) = 0 by decide), if_neg (show ¬ (11 : Int32) = 1 by decide), if_neg (show ¬ (11 : Int32) = 2 by decide), if_neg (show ¬ (11 : Int32) = 3 by decide), if_neg (show ¬ (11 : Int32) = 4 by decide), if_neg (show ¬ (11 : Int32) = 5 by decide), if_neg (show ¬ (11 : Int32) = 6 by decide), if_neg (show ¬ (11 : Int32) = 7 by decide), if_neg (show ¬ (11 : Int32) = 8 by decide), if_neg (show ¬ (11 : Int32) = 9 by decide), if_neg (show ¬ (11 : Int32) = 10 by decide), if_pos rfl]
theorem cv_11 (a b : BitVec 36) : cval 11 (xv a) (xv b) = xv (NN (((zv a) ^^^ (-1 : Int64)) ||| (zv b))) := by
  unfold cval; rw [if_pos (show (8 : Int32) ≤ 11 by decide), show ((15 : Int32) - 11) = 4 by decide, comb_4]; simp only [xv_m1, xv_and, xv_or, xv_xor, NN_and, NN_or, NN_xor, NN_zv, NN_xv, xv_zero, dm11]
theorem bits_12 (m1 a1 e1 : Int32) (x m : Int64) : fz_bits_41 kz 12 m1 a1 e1 x m = ((0 : Int32), fz_give kz m1 a1 e1 (m ^^^ (-1 : Int64))) := by
  unfold fz_bits_41 fz_bits_295
  rw [if_neg (show ¬ (12 : Int32) = 0 by decide), if_neg (show ¬ (12 : Int32) = 1 by decide), if_neg (show ¬ (12 : Int32) = 2 by decide), if_neg (show ¬ (12 : Int32) = 3 by decide), if_neg (show ¬ (12 : Int32) = 4 by decide), if_neg (show ¬ (12 : Int32) = 5 by decide), if_neg (show ¬ (12 : Int32) = 6 by decide), if_neg (show ¬ (12 : Int32) = 7 by decide), if_neg (show ¬ (12 : Int32) = 8 by decide), if_neg (show ¬ (12 : Int32) = 9 by decide), if_neg (show ¬ (12 : Int32) = 10 by decide), if_neg (show ¬ (12 : Int32) = 11 by decide), if_pos rfl]
theorem cv_12 (a b : BitVec 36) : cval 12 (xv a) (xv b) = xv (NN ((zv b) ^^^ (-1 : Int64))) := by
  unfold cval; rw [if_pos (show (8 : Int32) ≤ 12 by decide), show ((15 : Int32) - 12) = 3 by decide, comb_3]; simp only [xv_m1, xv_and, xv_or, xv_xor, NN_and, NN_or, NN_xor, NN_zv, NN_xv, xv_zero]
theorem bits_13 (m1 a1 e1 : Int32) (x m : Int64) : fz_bits_41 kz 13 m1 a1 e1 x m = ((0 : Int32), fz_give kz m1 a1 e1 (x ||| (m ^^^ (-1 : Int64)))) := by
  unfold fz_bits_41 fz_bits_295
  rw [if_neg (show ¬ (13 : Int32) = 0 by decide), if_neg (show ¬ (13 : Int32) = 1 by decide), if_neg (show ¬ (13 : Int32) = 2 by decide), if_neg (show ¬ (13 : Int32) = 3 by decide), if_neg (show ¬ (13 : Int32) = 4 by decide), if_neg (show ¬ (13 : Int32) = 5 by decide), if_neg (show ¬ (13 : Int32) = 6 by decide), if_neg (show ¬ (13 : Int32) = 7 by decide), if_neg (show ¬ (13 : Int32) = 8 by decide), if_neg (show ¬ (13 : Int32) = 9 by decide), if_neg (show ¬ (13 : Int32) = 10 by decide), if_neg (show ¬ (13 : Int32) = 11 by decide), if_neg (show ¬ (13 : Int32) = 12 by decide), if_pos rfl]
theorem cv_13 (a b : BitVec 36) : cval 13 (xv a) (xv b) = xv (NN ((zv a) ||| ((zv b) ^^^ (-1 : Int64)))) := by
  unfold cval; rw [if_pos (show (8 : Int32) ≤ 13 by decide), show ((15 : Int32) - 13) = 2 by decide, comb_2]; simp only [xv_m1, xv_and, xv_or, xv_xor, NN_and, NN_or, NN_xor, NN_zv, NN_xv, xv_zero, dm13]
theorem bits_14 (m1 a1 e1 : Int32) (x m : Int64) : fz_bits_41 kz 14 m1 a1 e1 x m = ((0 : Int32), fz_give kz m1 a1 e1 ((x &&& m) ^^^ (-1 : Int64))) := by
  unfold fz_bits_41 fz_bits_295
  rw [if_neg (show ¬ (14 : Int32) = 0 by decide), if_neg (show ¬ (14 : Int32) = 1 by decide), if_neg (show ¬ (14 : Int32) = 2 by decide), if_neg (show ¬ (14 : Int32) = 3 by decide), if_neg (show ¬ (14 : Int32) = 4 by decide), if_neg (show ¬ (14 : Int32) = 5 by decide), if_neg (show ¬ (14 : Int32) = 6 by decide), if_neg (show ¬ (14 : Int32) = 7 by decide), if_neg (show ¬ (14 : Int32) = 8 by decide), if_neg (show ¬ (14 : Int32) = 9 by decide), if_neg (show ¬ (14 : Int32) = 10 by decide), if_neg (show ¬ (14 : Int32) = 11 by decide), if_neg (show ¬ (14 : Int32) = 12 by decide), if_neg (show ¬ (14 : Int32) = 13 by decide), if_pos rfl]
theorem cv_14 (a b : BitVec 36) : cval 14 (xv a) (xv b) = xv (NN (((zv a) &&& (zv b)) ^^^ (-1 : Int64))) := by
  unfold cval; rw [if_pos (show (8 : Int32) ≤ 14 by decide), show ((15 : Int32) - 14) = 1 by decide, comb_1]; simp only [xv_m1, xv_and, xv_or, xv_xor, NN_and, NN_or, NN_xor, NN_zv, NN_xv, xv_zero]
theorem bits_15 (m1 a1 e1 : Int32) (x m : Int64) : fz_bits_41 kz 15 m1 a1 e1 x m = ((0 : Int32), fz_give kz m1 a1 e1 (-1 : Int64)) := by
  unfold fz_bits_41 fz_bits_295
  rw [if_neg (show ¬ (15 : Int32) = 0 by decide), if_neg (show ¬ (15 : Int32) = 1 by decide), if_neg (show ¬ (15 : Int32) = 2 by decide), if_neg (show ¬ (15 : Int32) = 3 by decide), if_neg (show ¬ (15 : Int32) = 4 by decide), if_neg (show ¬ (15 : Int32) = 5 by decide), if_neg (show ¬ (15 : Int32) = 6 by decide), if_neg (show ¬ (15 : Int32) = 7 by decide), if_neg (show ¬ (15 : Int32) = 8 by decide), if_neg (show ¬ (15 : Int32) = 9 by decide), if_neg (show ¬ (15 : Int32) = 10 by decide), if_neg (show ¬ (15 : Int32) = 11 by decide), if_neg (show ¬ (15 : Int32) = 12 by decide), if_neg (show ¬ (15 : Int32) = 13 by decide), if_neg (show ¬ (15 : Int32) = 14 by decide)]
theorem cv_15 (a b : BitVec 36) : cval 15 (xv a) (xv b) = xv (NN (-1 : Int64)) := by
  unfold cval; rw [if_pos (show (8 : Int32) ≤ 15 by decide), show ((15 : Int32) - 15) = 0 by decide, comb_0]; decide +kernel
theorem kind_c (h : RP c B kx kz) (a b : BitVec 36) (kind : Int32) (hk : ∃ j : Nat, j < 16 ∧ kind = nI j) : SM c B (fx_storeBoth kx op ac ea (cval kind (xv a) (xv b))) (fz_bits_41 kz kind (op &&& (3 : Int32)) ac ea (zv a) (zv b)) := by
  obtain ⟨j, hj, e⟩ := hk
  have go : ∀ (v r : Int64), v = xv (NN r) → ∀ f : Int32 × kSz, f = ((0 : Int32), fz_give kz (op &&& (3 : Int32)) ac ea r) → SM c B (fx_storeBoth kx op ac ea v) f := by
    intro v r hv f hf
    rw [hv, hf]
    exact ⟨(sb_c h (NN r) (and_all r)).1, (sb_c h (NN r) (and_all r)).2⟩
  rcases (show j = 0 ∨ j = 1 ∨ j = 2 ∨ j = 3 ∨ j = 4 ∨ j = 5 ∨ j = 6 ∨ j = 7 ∨ j = 8 ∨ j = 9 ∨ j = 10 ∨ j = 11 ∨ j = 12 ∨ j = 13 ∨ j = 14 ∨ j = 15 by omega) with q | q | q | q | q | q | q | q | q | q | q | q | q | q | q | q
  · rw [q] at e; rw [e]; exact go _ _ (cv_0 a b) _ (bits_0 _ _ _ _ _)
  · rw [q] at e; rw [e]; exact go _ _ (cv_1 a b) _ (bits_1 _ _ _ _ _)
  · rw [q] at e; rw [e]; exact go _ _ (cv_2 a b) _ (bits_2 _ _ _ _ _)
  · rw [q] at e; rw [e]; exact go _ _ (cv_3 a b) _ (bits_3 _ _ _ _ _)
  · rw [q] at e; rw [e]; exact go _ _ (cv_4 a b) _ (bits_4 _ _ _ _ _)
  · rw [q] at e; rw [e]; exact go _ _ (cv_5 a b) _ (bits_5 _ _ _ _ _)
  · rw [q] at e; rw [e]; exact go _ _ (cv_6 a b) _ (bits_6 _ _ _ _ _)
  · rw [q] at e; rw [e]; exact go _ _ (cv_7 a b) _ (bits_7 _ _ _ _ _)
  · rw [q] at e; rw [e]; exact go _ _ (cv_8 a b) _ (bits_8 _ _ _ _ _)
  · rw [q] at e; rw [e]; exact go _ _ (cv_9 a b) _ (bits_9 _ _ _ _ _)
  · rw [q] at e; rw [e]; exact go _ _ (cv_10 a b) _ (bits_10 _ _ _ _ _)
  · rw [q] at e; rw [e]; exact go _ _ (cv_11 a b) _ (bits_11 _ _ _ _ _)
  · rw [q] at e; rw [e]; exact go _ _ (cv_12 a b) _ (bits_12 _ _ _ _ _)
  · rw [q] at e; rw [e]; exact go _ _ (cv_13 a b) _ (bits_13 _ _ _ _ _)
  · rw [q] at e; rw [e]; exact go _ _ (cv_14 a b) _ (bits_14 _ _ _ _ _)
  · rw [q] at e; rw [e]; exact go _ _ (cv_15 a b) _ (bits_15 _ _ _ _ _)
theorem bits_c (hE : EA ea) (h : RP c B kx kz) : SM c B (fx_combineBits kx op ac ea) (fz_bits kz ((op >>> ((2 : Int32) &&& 31)) &&& (15 : Int32)) (op &&& (3 : Int32)) ac ea) := by
  unfold fx_combineBits fz_bits
  refine gate hE h ?_
  obtain ⟨b1, e1, e2⟩ := h.ld ac
  obtain ⟨b2, e3, e4⟩ := operand_c (op := op) (ac := ac) hE h
  have e5 : fz_bits_15 kz ((op >>> ((2 : Int32) &&& 31)) &&& (15 : Int32)) (op &&& (3 : Int32)) ac ea = fz_bits_41 kz ((op >>> ((2 : Int32) &&& 31)) &&& (15 : Int32)) (op &&& (3 : Int32)) ac ea (zv b1) (zv b2) := by
    unfold fz_bits_15
    rw [e2]
    by_cases h1 : (op &&& (3 : Int32)) = (1 : Int32)
    · rw [if_pos h1]; rw [if_pos h1] at e4; rw [e4]
    · rw [if_neg h1]; rw [if_neg h1] at e4; rw [e4]
  rw [e5, e1, e3]
  have hk := kind_c (op := op) (ac := ac) (ea := ea) h b1 b2 ((op >>> ((2 : Int32) &&& 31)) &&& (15 : Int32)) (pk_andE _ 4 (by decide))
  unfold cval at hk
  unfold fx_combineBits_70
  by_cases h8 : (8 : Int32) ≤ ((op >>> ((2 : Int32) &&& 31)) &&& (15 : Int32))
  · rw [if_pos h8]; rw [if_pos h8] at hk; exact hk
  · rw [if_neg h8]; rw [if_neg h8] at hk; exact hk
/-! halves -/
theorem h17 : ∀ (p : BitVec 18), ((hw p &&& (131072 : Int32)) = 0 ↔ ¬ (hw p >>> ((17 : Int32) &&& 31)) = (1 : Int32)) := by
  intro p
  have hb : (hw p).toInt = p.toNat := by
    show (hw p).toBitVec.toInt = _
    rw [hw_bv, BitVec.toInt_eq_toNat_cond, BitVec.toNat_setWidth]
    have := p.isLt
    rw [Nat.mod_eq_of_lt (by omega), if_pos (by omega)]
  have hs : (hw p >>> ((17 : Int32) &&& 31)).toInt = (p.toNat : Int) / 131072 := by
    rw [pk_shr _ _ 17 (by decide), hb, Int.shiftRight_eq_div_pow]; rfl
  have ha : (hw p &&& (131072 : Int32)) = 0 ↔ p.getLsbD 17 = false := by
    rw [← Int32.toBitVec_inj, Int32.toBitVec_and, hw_bv]
    constructor
    · intro h
      have := congrArg (fun z => BitVec.getLsbD z 17) h
      simpa [BitVec.getLsbD_and, show (131072 : Int32).toBitVec.getLsbD 17 = true from by decide +kernel] using this
    · intro h
      apply BitVec.eq_of_getLsbD_eq; intro i hi
      rw [BitVec.getLsbD_and, show (131072 : Int32).toBitVec = BitVec.twoPow 32 17 from by decide +kernel, BitVec.getLsbD_twoPow]
      by_cases q : i = 17
      · rw [q, BitVec.getLsbD_setWidth, h]; simp
      · simp [show ¬ 17 = i from fun z => q z.symm]
  rw [ha]
  have hp := p.isLt
  have hl : p.getLsbD 17 = decide (131072 ≤ p.toNat) := by
    show p.toNat.testBit 17 = _
    rw [Nat.testBit_eq_decide_div_mod_eq]
    congr 1
    apply propext
    constructor <;> intro q <;> omega
  rw [hl]
  constructor
  · intro q e
    have := congrArg Int32.toInt e
    rw [hs, show (1 : Int32).toInt = 1 from rfl] at this
    have : ¬ 131072 ≤ p.toNat := of_decide_eq_false q
    omega
  · intro q
    apply decide_eq_false
    intro z
    exact q (Int32.toInt_inj.mp (by rw [hs, show (1 : Int32).toInt = 1 from rfl]; omega))
theorem zss_half (k : kSz) (m a e : Int32) (v : Int64) : fz_half_214 k a e m v = zss k m a e v := rfl
/-- the other half -/
theorem oh_c {m1 a1 e1 v5 v6 : Int32} {v10 : Int64} (hr : v5 = ((op >>> ((3 : Int32) &&& 31)) &&& (3 : Int32))) (p : BitVec 18) :
    fz_half_131 kz a1 e1 m1 v5 v6 v10 (hw p) = fz_half_190 kz a1 e1 m1 v6 (hw p) (fx_otherHalf kx op ac ea (hw p) (if v6 = 0 then fz_right v10 else fz_left v10)) := by
  unfold fz_half_131 fz_half_184 fx_otherHalf
  rw [hr]
  by_cases h0 : ((op >>> ((3 : Int32) &&& 31)) &&& (3 : Int32)) = 0
  · rw [if_pos h0, if_pos h0]
    by_cases h6 : v6 = 0
    · rw [if_pos h6, if_pos h6]
    · rw [if_neg h6, if_neg h6]
  · rw [if_neg h0, if_neg h0]
    by_cases h1 : ((op >>> ((3 : Int32) &&& 31)) &&& (3 : Int32)) = 1
    · rw [if_pos h1, if_pos h1]
    · rw [if_neg h1, if_neg h1]
      by_cases h2 : ((op >>> ((3 : Int32) &&& 31)) &&& (3 : Int32)) = 2
      · rw [if_pos h2, if_pos h2]
      · rw [if_neg h2, if_neg h2]
        by_cases h3 : (hw p &&& (131072 : Int32)) = 0
        · rw [if_pos h3, if_neg ((h17 p).mp h3)]
        · rw [if_neg h3, if_pos (Decidable.of_not_not (fun z => h3 ((h17 p).mpr z)))]
theorem h190_c (hA : AC ac) (h : RP c B kx kz) (f p q : Int32) : SM c B (fx_storeSelf kx op ac ea (if f = 0 then fx_joined p q else fx_joined q p)) (fz_half_190 kz ac ea (op &&& (3 : Int32)) f p q) := by
  unfold fz_half_190
  by_cases h1 : f = 0
  · rw [if_pos h1, if_pos h1, jn_eq, hv_eq, zss_half]; exact ss_c hA h _
  · rw [if_neg h1, if_neg h1, jn_eq, hv_eq, zss_half]; exact ss_c hA h _
/-- both words known -/
theorem h109_c (hA : AC ac) (h : RP c B kx kz) (b1 b2 : BitVec 36) (f g v5 : Int32) (hr : v5 = ((op >>> ((3 : Int32) &&& 31)) &&& (3 : Int32))) :
    SM c B (fx_storeSelf kx op ac ea (fx_withHalfMoved_31 kx op ac ea (xv b1) (xv b2) f g)) (fz_half_109 kz ac ea (op &&& (3 : Int32)) v5 f g (zv b1) (zv b2)) := by
  have go : ∀ p : BitVec 18, SM c B (fx_storeSelf kx op ac ea (fx_withHalfMoved_51 kx op ac ea (xv b2) f (hw p))) (fz_half_131 kz ac ea (op &&& (3 : Int32)) v5 f (zv b2) (hw p)) := by
    intro p
    rw [oh_c (kx := kx) (ac := ac) (ea := ea) hr p]
    have e : fx_withHalfMoved_51 kx op ac ea (xv b2) f (hw p) = (if f = 0 then fx_joined (hw p) (fx_otherHalf kx op ac ea (hw p) (if f = 0 then fz_right (zv b2) else fz_left (zv b2))) else fx_joined (fx_otherHalf kx op ac ea (hw p) (if f = 0 then fz_right (zv b2) else fz_left (zv b2))) (hw p)) := by
      unfold fx_withHalfMoved_51 fx_withHalfMoved_72
      by_cases h1 : f = 0
      · rw [if_pos h1, if_pos h1, if_pos h1, if_pos h1, rt_xv, rt_zv]
      · rw [if_neg h1, if_neg h1, if_neg h1, if_neg h1, lt_xv, lt_zv]
    rw [e]
    exact h190_c hA h f _ _
  unfold fx_withHalfMoved_31 fz_half_109
  by_cases h1 : f = g
  · rw [if_pos h1, if_pos h1, lt_xv, lt_zv]; exact go _
  · rw [if_neg h1, if_neg h1, rt_xv, rt_zv]; exact go _
theorem half_c (hA : AC ac) (hE : EA ea) (h : RP c B kx kz) {v : Int32} (e3 : (v &&& (3 : Int32)) = (op &&& (3 : Int32))) (e5 : ((v >>> ((3 : Int32) &&& 31)) &&& (3 : Int32)) = ((op >>> ((3 : Int32) &&& 31)) &&& (3 : Int32))) (e32 : (v &&& (32 : Int32)) = (op &&& (32 : Int32))) (e4 : (v &&& (4 : Int32)) = (op &&& (4 : Int32))) :
    SM c B (fx_moveHalf kx op ac ea) (fz_half kz v ac ea) := by
  unfold fx_moveHalf fz_half
  rw [e3]
  refine gate hE h ?_
  obtain ⟨b1, hb1, e6⟩ : ∃ b1, (if (fx_mode kx op ac ea) = (2 : Int32) then fx_moveHalf_33 kx op ac ea (ldx kx ac) else fx_moveHalf_33 kx op ac ea (fx_operand kx op ac ea)) = fx_moveHalf_33 kx op ac ea (xv b1) ∧ ∀ v5 v6 t, fz_half_52 kz ac ea (op &&& (3 : Int32)) v5 v6 t = fz_half_86 kz ac ea (op &&& (3 : Int32)) v5 v6 t (zv b1) := by
    unfold fx_mode fz_half_52
    by_cases h1 : (op &&& (3 : Int32)) = (1 : Int32)
    · obtain ⟨b, q1, q2⟩ := operand_c (op := op) (ac := ac) hE h
      rw [if_pos h1] at q2
      refine ⟨b, ?_, fun v5 v6 t => ?_⟩
      · rw [if_neg (show ¬ (op &&& (3 : Int32)) = (2 : Int32) by rw [h1]; decide), q1]
      · rw [if_pos h1, q2]
    · by_cases h2 : (op &&& (3 : Int32)) = (2 : Int32)
      · obtain ⟨b, q1, q2⟩ := h.ld ac
        refine ⟨b, ?_, fun v5 v6 t => ?_⟩
        · rw [if_pos h2, q1]
        · rw [if_neg h1, if_pos h2, q2]
      · obtain ⟨b, q1, q2⟩ := operand_c (op := op) (ac := ac) hE h
        rw [if_neg h1] at q2
        refine ⟨b, ?_, fun v5 v6 t => ?_⟩
        · rw [if_neg h2, q1]
        · rw [if_neg h1, if_neg h2, q2]
  obtain ⟨b2, hb2, e7⟩ : ∃ b2, fx_moveHalf_33 kx op ac ea (xv b1) = fx_storeSelf kx op ac ea (fx_withHalfMoved kx op ac ea (xv b1) (xv b2)) ∧ ∀ v5 v6 t, fz_half_86 kz ac ea (op &&& (3 : Int32)) v5 v6 t (zv b1) = fz_half_109 kz ac ea (op &&& (3 : Int32)) v5 v6 t (zv b1) (zv b2) := by
    unfold fx_moveHalf_33 fx_moveHalf_63 fz_half_86 fx_mode
    by_cases h2 : (2 : Int32) ≤ (op &&& (3 : Int32))
    · obtain ⟨b, q1, q2⟩ := h.ld ea
      exact ⟨b, by rw [if_pos h2, q1], fun v5 v6 t => by rw [if_pos h2, q2]⟩
    · obtain ⟨b, q1, q2⟩ := h.ld ac
      exact ⟨b, by rw [if_neg h2, q1], fun v5 v6 t => by rw [if_neg h2, q2]⟩
  rw [hb1, hb2]
  unfold fx_withHalfMoved fx_withHalfMoved_15 fz_half_27 fz_half_39
  rw [e32, e4, e5]
  by_cases h32 : (op &&& (32 : Int32)) = 0
  · rw [if_pos h32, if_pos h32]
    by_cases h4 : (op &&& (4 : Int32)) = 0
    · rw [if_pos h4, if_pos h4, e6, e7]; exact h109_c hA h b1 b2 _ _ _ rfl
    · rw [if_neg h4, if_neg h4, e6, e7]; exact h109_c hA h b1 b2 _ _ _ rfl
  · rw [if_neg h32, if_neg h32]
    by_cases h4 : (op &&& (4 : Int32)) = 0
    · rw [if_pos h4, if_pos h4, e6, e7]; exact h109_c hA h b1 b2 _ _ _ rfl
    · rw [if_neg h4, if_neg h4, e6, e7]; exact h109_c hA h b1 b2 _ _ _ rfl
end SIMC
