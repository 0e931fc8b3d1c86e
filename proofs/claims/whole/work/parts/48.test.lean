section SIMT
variable {c : Int32} {B : Int} {kx : kSx} {kz : kSz} {op ac ea : Int32}
theorem xv_eq0 (a : BitVec 36) : xv a = (0 : Int64) ↔ a = 0#36 := by
  constructor
  · intro h
    have := congrArg NN h
    rw [NN_xv, xv_zero, NN_xv] at this
    exact this
  · intro h; rw [h]; exact xv_zero.symm
theorem zv_eq0 (a : BitVec 36) : zv a = (0 : Int64) ↔ a = 0#36 := by
  constructor
  · intro h
    have := congrArg NN h
    rw [NN_zv, zv_zero, NN_zv] at this
    exact this
  · intro h; rw [h]; exact zv_zero.symm
theorem and0_c (a b : BitVec 36) : (xv a &&& xv b) = (0 : Int64) ↔ (zv a &&& zv b) = (0 : Int64) := by
  rw [xv_and, zv_and, xv_eq0, zv_eq0]
/-- what the test changes -/
theorem ch_c (a b : BitVec 36) {how : Int32} (eH : how = ((op >>> ((4 : Int32) &&& 31)) &&& (3 : Int32))) : ∃ r : BitVec 36, (∀ k : kSx, fx_changed k op ac ea (xv a) (xv b) = xv r) ∧ ∀ k : kSz, ldz k ac = zv a → fz_test_139 k ac (zv b) (zv a) how = ((0 : Int32), stz k ac (zv r)) := by
  unfold fx_changed fz_test_139 fz_test_164 fz_test_181
  rw [← eH]
  by_cases h1 : how = 1
  · refine ⟨a &&& (b ^^^ BitVec.allOnes 36), fun k => ?_, fun k hk => ?_⟩
    · rw [if_pos h1, xv_not, xv_and]
    · rw [if_pos h1, if_neg (show ¬ how = (2 : Int32) by rw [h1]; decide), if_neg (show ¬ how = (3 : Int32) by rw [h1]; decide), and_all, NN_and, NN_xor, NN_zv, NN_zv, NN_m1]
  · by_cases h2 : how = 2
    · refine ⟨a ^^^ b, fun k => ?_, fun k hk => ?_⟩
      · rw [if_neg h1, if_pos h2, xv_xor]
      · rw [if_neg h1, if_pos h2, if_neg (show ¬ how = (3 : Int32) by rw [h2]; decide), zv_xor]
    · by_cases h3 : how = 3
      · refine ⟨a ||| b, fun k => ?_, fun k hk => ?_⟩
        · rw [if_neg h1, if_neg h2, if_pos h3, xv_or]
        · rw [if_neg h1, if_neg h2, if_pos h3, zv_or]
      · refine ⟨a, fun k => ?_, fun k hk => ?_⟩
        · rw [if_neg h1, if_neg h2, if_neg h3]
        · rw [if_neg h1, if_neg h2, if_neg h3, ← hk, stz_self]
theorem t71_c (h : RP c 4096 kx kz) (b : BitVec 36) {v : Int32} (eH : (v >>> ((4 : Int32) &&& 31)) = ((op >>> ((4 : Int32) &&& 31)) &&& (3 : Int32)))
    (hs : ((op &&& (2 : Int32)) = 0 ∧ (op &&& (4 : Int32)) = 0 ∧ ((v >>> ((1 : Int32) &&& 31)) &&& (3 : Int32)) = 0) ∨ (¬ (op &&& (2 : Int32)) = 0 ∧ (op &&& (4 : Int32)) = 0 ∧ ((v >>> ((1 : Int32) &&& 31)) &&& (3 : Int32)) = 1) ∨ ((op &&& (2 : Int32)) = 0 ∧ ¬ (op &&& (4 : Int32)) = 0 ∧ ((v >>> ((1 : Int32) &&& 31)) &&& (3 : Int32)) = 2) ∨ (¬ (op &&& (2 : Int32)) = 0 ∧ ¬ (op &&& (4 : Int32)) = 0 ∧ ((v >>> ((1 : Int32) &&& 31)) &&& (3 : Int32)) = 3)) :
    SM c 300000 (fx_testBits_71 kx op ac ea (xv b)) (fz_test_79 kz v ac (zv b) (ldz kz ac)) := by
  obtain ⟨a, e1, e2⟩ := h.ld ac
  obtain ⟨r, q1, q2⟩ := ch_c (op := op) (ac := ac) (ea := ea) a b eH
  have z0 : fz_test_139 kz ac (zv b) (zv a) (v >>> ((4 : Int32) &&& 31)) = ((0 : Int32), stz kz ac (zv r)) := q2 kz e2
  have z1 : fz_test_129 kz ac (zv b) (zv a) (v >>> ((4 : Int32) &&& 31)) = ((0 : Int32), stz (vz_bh kz (uz_bh kz + 1)) ac (zv r)) := q2 _ e2
  have no : SM c 300000 (fx_testBits_155 (stx kx ac (xv r)) op ac ea 0) ((0 : Int32), stz kz ac (zv r)) := ⟨rfl, (h.st ac r).mono (by decide)⟩
  have yes : SM c 300000 (fx_testBits_155 (stx kx ac (xv r)) op ac ea 1) ((0 : Int32), stz (vz_bh kz (uz_bh kz + 1)) ac (zv r)) := by
    unfold fx_testBits_155 fx_skipIf
    rw [if_neg (show ¬ (1 : Int32) = 0 by decide)]
    exact ⟨rfl, h.skip.st ac r⟩
  unfold fx_testBits_71 fx_testBits_103 fx_testBits_104 fx_testBits_147 fz_test_79 fz_test_113
  rw [e1, e2, q1]
  rcases hs with ⟨s1, s2, s3⟩ | ⟨s1, s2, s3⟩ | ⟨s1, s2, s3⟩ | ⟨s1, s2, s3⟩
  · rw [if_pos s1, if_pos s2, if_pos rfl, s3, if_neg (show ¬ (0 : Int32) = 2 by decide), if_neg (show ¬ (0 : Int32) = 1 by decide), if_neg (show ¬ (0 : Int32) = 3 by decide), z0]; exact no
  · rw [if_neg s1, if_pos s2, if_pos s2, s3, if_neg (show ¬ (1 : Int32) = 2 by decide), if_pos rfl, if_neg (show ¬ (1 : Int32) = 3 by decide)]
    by_cases hz : (xv a &&& xv b) = (0 : Int64)
    · rw [if_pos hz, if_pos ((and0_c a b).mp hz), if_neg (show ¬ (1 : Int32) = 0 by decide), z1]; exact yes
    · rw [if_neg hz, if_neg (fun q => hz ((and0_c a b).mpr q)), if_pos rfl, z0]; exact no
  · rw [if_pos s1, if_neg s2, if_neg (show ¬ (0 : Int32) = 1 by decide), s3, if_pos rfl, z1]; exact yes
  · rw [if_neg s1, if_neg s2, if_neg s2, s3, if_neg (show ¬ (3 : Int32) = 2 by decide), if_neg (show ¬ (3 : Int32) = 1 by decide), if_pos rfl]
    by_cases hz : (xv a &&& xv b) = (0 : Int64)
    · rw [if_pos hz, if_pos ((and0_c a b).mp hz), if_pos rfl, z0]; exact no
    · rw [if_neg hz, if_neg (fun q => hz ((and0_c a b).mpr q)), if_neg (show ¬ (0 : Int32) = 1 by decide), z1]; exact yes
theorem test_c (hE : EA ea) (h : RP c 4096 kx kz) {v : Int32} (e8 : (v &&& (8 : Int32)) = (op &&& (8 : Int32))) (e1 : (v &&& (1 : Int32)) = (op &&& (1 : Int32))) (eH : (v >>> ((4 : Int32) &&& 31)) = ((op >>> ((4 : Int32) &&& 31)) &&& (3 : Int32)))
    (hs : ((op &&& (2 : Int32)) = 0 ∧ (op &&& (4 : Int32)) = 0 ∧ ((v >>> ((1 : Int32) &&& 31)) &&& (3 : Int32)) = 0) ∨ (¬ (op &&& (2 : Int32)) = 0 ∧ (op &&& (4 : Int32)) = 0 ∧ ((v >>> ((1 : Int32) &&& 31)) &&& (3 : Int32)) = 1) ∨ ((op &&& (2 : Int32)) = 0 ∧ ¬ (op &&& (4 : Int32)) = 0 ∧ ((v >>> ((1 : Int32) &&& 31)) &&& (3 : Int32)) = 2) ∨ (¬ (op &&& (2 : Int32)) = 0 ∧ ¬ (op &&& (4 : Int32)) = 0 ∧ ((v >>> ((1 : Int32) &&& 31)) &&& (3 : Int32)) = 3)) :
    SM c 300000 (fx_testBits kx op ac ea) (fz_test kz v ac ea) := by
  have go : ∀ b : BitVec 36, ∀ t : Int32, (t = 0 ↔ (op &&& (1 : Int32)) = 0) → SM c 300000 (fx_testBits_53 kx op ac ea (xv b)) (fz_test_57 kz v ac t (zv b)) := by
    intro b t ht
    unfold fx_testBits_53 fz_test_57
    by_cases h1 : (op &&& (1 : Int32)) = 0
    · rw [if_pos h1, if_pos (ht.mpr h1)]; exact t71_c h b eH hs
    · rw [if_neg h1, if_neg (fun q => h1 (ht.mp q)), sw_xv, sw_zv]; exact t71_c h _ eH hs
  have sw : ∀ f : Int32, fz_test_12 kz v ac ea f = fz_test_25 kz v ac ea f (if (op &&& (1 : Int32)) = 0 then 0 else 1) := by
    intro f
    unfold fz_test_12
    rw [e1]
    by_cases h1 : (op &&& (1 : Int32)) = 0
    · rw [if_pos h1, if_pos h1]
    · rw [if_neg h1, if_neg h1]
  have ht : ((if (op &&& (1 : Int32)) = 0 then (0 : Int32) else 1) = 0 ↔ (op &&& (1 : Int32)) = 0) := by
    by_cases h1 : (op &&& (1 : Int32)) = 0
    · rw [if_pos h1]; exact ⟨fun _ => h1, fun _ => rfl⟩
    · rw [if_neg h1]; exact ⟨fun q => absurd q (by decide), fun q => absurd q h1⟩
  unfold fx_testBits fz_test
  rw [e8]
  by_cases h8 : (op &&& (8 : Int32)) = 0
  · rw [if_pos h8, if_pos h8, sw]
    unfold fx_testBits_15 fx_testBits_32 fz_test_25 fz_test_41
    rw [if_pos rfl, if_pos rfl, if_pos rfl, if_pos rfl, ee_xv hE.le]
    have := go (EE ea) _ ht
    rw [← ee_xv hE.le, ee_zv hE.le] at this ⊢
    exact this
  · rw [if_neg h8, if_neg h8, sw]
    unfold fx_testBits_15 fx_testBits_32 fz_test_25 fz_test_41
    rw [if_neg (show ¬ (1 : Int32) = 0 by decide), if_neg (show ¬ (1 : Int32) = 0 by decide), if_neg (show ¬ (1 : Int32) = 0 by decide), if_neg (show ¬ (1 : Int32) = 0 by decide)]
    obtain ⟨b, q1, q2⟩ := h.ld ea
    rw [q1, q2]
    by_cases h2 : fz_isGone ea = 0
    · rw [if_pos h2, if_neg (fun q => (there_c hE).mp q h2)]; exact go b _ ht
    · rw [if_neg h2, if_pos ((there_c hE).mpr h2)]; exact ⟨rfl, h.mono (by decide)⟩
end SIMT
