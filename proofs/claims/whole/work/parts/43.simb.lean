/-! while an instruction is done: the same words, overflow, count; the class's pc is the reference's 'behind' -/
def RP (c : Int32) (B : Int) (kx : kSx) (kz : kSz) : Prop := ∃ M : Nat → BitVec 36, (∀ i, ux_w kx i = xv (M i)) ∧ (∀ i, uz_w kz i = zv (M i)) ∧ ux_ov kx = uz_ov kz ∧ ux_dn kx = uz_dn kz ∧ uz_ct kz = c ∧ ux_pc kx = uz_bh kz ∧ 0 ≤ (uz_bh kz).toInt ∧ (uz_bh kz).toInt ≤ B
def SM (c : Int32) (B : Int) (rx : Int32 × kSx) (rz : Int32 × kSz) : Prop := rx.1 = rz.1 ∧ RP c B rx.2 rz.2
def EA (e : Int32) : Prop := 0 ≤ e.toInt ∧ e.toInt < 262144
def AC (a : Int32) : Prop := 0 ≤ a.toInt ∧ a.toInt < 16
section SIMB
variable {c : Int32} {B : Int} {kx : kSx} {kz : kSz} {op ac ea : Int32}
theorem RP.ld (h : RP c B kx kz) (i : Int32) : ∃ b, ldx kx i = xv b ∧ ldz kz i = zv b := by
  obtain ⟨M, h1, h2, -⟩ := h
  exact ⟨M i.toNatClampNeg, h1 _, h2 _⟩
theorem RP.st (h : RP c B kx kz) (i : Int32) (b : BitVec 36) : RP c B (stx kx i (xv b)) (stz kz i (zv b)) := by
  obtain ⟨M, h1, h2, h3⟩ := h
  refine ⟨fun j => if j = i.toNatClampNeg then b else M j, fun j => ?_, fun j => ?_, h3⟩
  · show (if j = i.toNatClampNeg then xv b else ux_w kx j) = xv (if j = i.toNatClampNeg then b else M j)
    by_cases e : j = i.toNatClampNeg
    · rw [if_pos e, if_pos e]
    · rw [if_neg e, if_neg e]; exact h1 j
  · show (if j = i.toNatClampNeg then zv b else uz_w kz j) = zv (if j = i.toNatClampNeg then b else M j)
    by_cases e : j = i.toNatClampNeg
    · rw [if_pos e, if_pos e]
    · rw [if_neg e, if_neg e]; exact h2 j
theorem RP.ov (h : RP c B kx kz) (a : Int32) : RP c B (vx_ov kx a) (vz_ov kz a) := by
  obtain ⟨M, h1, h2, _, h4⟩ := h
  exact ⟨M, h1, h2, rfl, h4⟩
theorem RP.ovEq (h : RP c B kx kz) : ux_ov kx = uz_ov kz := by
  obtain ⟨M, h1, h2, h3, h4⟩ := h
  exact h3
theorem RP.pcEq (h : RP c B kx kz) : ux_pc kx = uz_bh kz := by
  obtain ⟨M, h1, h2, h3, h4, h5, h6, h7⟩ := h
  exact h6
theorem RP.bnd (h : RP c B kx kz) : 0 ≤ (uz_bh kz).toInt ∧ (uz_bh kz).toInt ≤ B := by
  obtain ⟨M, h1, h2, h3, h4, h5, h6, h7⟩ := h
  exact h7
theorem RP.pc {B2 : Int} (h : RP c B kx kz) {e : Int32} (h0 : 0 ≤ e.toInt) (hB : e.toInt ≤ B2) : RP c B2 (vx_pc kx e) (vz_bh kz e) := by
  obtain ⟨M, h1, h2, h3, h4, h5, h6, h7⟩ := h
  exact ⟨M, h1, h2, h3, h4, h5, rfl, h0, hB⟩
theorem RP.mono {B2 : Int} (h : RP c B kx kz) (hB : B ≤ B2) : RP c B2 kx kz := by
  obtain ⟨M, h1, h2, h3, h4, h5, h6, h7, h8⟩ := h
  exact ⟨M, h1, h2, h3, h4, h5, h6, h7, Int.le_trans h8 hB⟩
theorem RP.skip (h : RP c 4096 kx kz) : RP c 300000 (vx_pc kx (ux_pc kx + 1)) (vz_bh kz (uz_bh kz + 1)) := by
  have hb := h.bnd
  rw [h.pcEq]
  have e : (uz_bh kz + 1).toInt = (uz_bh kz).toInt + 1 := i32_inc (by omega)
  exact h.pc (by omega) (by omega)
theorem SM.mono {B2 : Int} {rx : Int32 × kSx} {rz : Int32 × kSz} (h : SM c B rx rz) (hB : B ≤ B2) : SM c B2 rx rz := ⟨h.1, h.2.mono hB⟩
theorem EA.le (h : EA ea) : 0 ≤ ea := by rw [i32_le]; exact h.1
/-- what is there -/
theorem there_c (h : EA ea) : (fx_isThere ea = 0 ↔ ¬ fz_isGone ea = 0) := by
  unfold fx_isThere fz_isGone
  have h0 : ¬ ea < 0 := by rw [i32_lt]; have := h.1; show ¬ ea.toInt < 0; omega
  rw [if_neg h0]
  by_cases h1 : ea < (4096 : Int32)
  · rw [if_pos h1, if_neg (by rw [i32_le]; rw [i32_lt] at h1; omega)]; decide
  · rw [if_neg h1, if_pos (by rw [i32_le]; rw [i32_lt] at h1; omega)]; decide
theorem lacks_c (h : EA ea) : (fx_lacksOperand kx op ac ea = 0 ↔ ((op &&& (3 : Int32)) = 1 ∨ fz_isGone ea = 0)) := by
  unfold fx_lacksOperand fx_mode
  by_cases h1 : (op &&& (3 : Int32)) = (1 : Int32)
  · rw [if_pos h1]; exact ⟨fun _ => Or.inl h1, fun _ => rfl⟩
  · rw [if_neg h1]
    by_cases h2 : fx_isThere ea = 0
    · rw [if_pos h2]
      exact ⟨fun e => absurd e (by decide), fun e => absurd (e.resolve_left h1) ((there_c h).mp h2)⟩
    · rw [if_neg h2]
      exact ⟨fun _ => Or.inr (Decidable.of_not_not (fun e => h2 ((there_c h).mpr e))), fun _ => rfl⟩
/-- the shape 'mode is not 1 and the word isn't there: fault' -/
theorem gate {rx : Int32 × kSx} {f : Int32 × kSz} (hE : EA ea) (h : RP c B kx kz) (hs : SM c B rx f) :
    SM c B (if (fx_lacksOperand kx op ac ea) = 0 then rx else ((2 : Int32), kx)) (if (op &&& (3 : Int32)) = (1 : Int32) then f else if (fz_isGone ea) = 0 then f else ((2 : Int32), kz)) := by
  by_cases h1 : (op &&& (3 : Int32)) = (1 : Int32)
  · rw [if_pos ((lacks_c hE).mpr (Or.inl h1)), if_pos h1]; exact hs
  · rw [if_neg h1]
    by_cases h2 : fz_isGone ea = 0
    · rw [if_pos ((lacks_c hE).mpr (Or.inr h2)), if_pos h2]; exact hs
    · rw [if_neg (fun e => ((lacks_c hE).mp e).elim h1 h2), if_neg h2]; exact ⟨rfl, h⟩
theorem operand_c (hE : EA ea) (h : RP c B kx kz) : ∃ b, fx_operand kx op ac ea = xv b ∧ (if (op &&& (3 : Int32)) = (1 : Int32) then ea.toInt64 else ldz kz ea) = zv b := by
  unfold fx_operand fx_mode
  by_cases h1 : (op &&& (3 : Int32)) = (1 : Int32)
  · rw [if_pos h1, if_pos h1]; exact ⟨EE ea, ee_xv hE.le, ee_zv hE.le⟩
  · rw [if_neg h1, if_neg h1]; exact h.ld ea
theorem sb_c (h : RP c B kx kz) (b : BitVec 36) {v : Int64} (hv : v &&& (68719476735 : Int64) = zv b) : (fx_storeBoth kx op ac ea (xv b)).1 = 0 ∧ RP c B (fx_storeBoth kx op ac ea (xv b)).2 (fz_give kz (op &&& (3 : Int32)) ac ea v) := by
  unfold fx_storeBoth fx_storeBoth_18 fz_give fz_give_17 fx_mode
  rw [hv]
  by_cases h1 : (op &&& (3 : Int32)) < (2 : Int32)
  · rw [if_pos h1, if_pos h1]
    by_cases h2 : (op &&& (3 : Int32)) = (2 : Int32)
    · rw [if_pos h2, if_pos h2]; exact ⟨rfl, h⟩
    · rw [if_neg h2, if_neg h2]; exact ⟨rfl, h.st ac b⟩
  · rw [if_neg h1, if_neg h1]
    by_cases h2 : (op &&& (3 : Int32)) = (2 : Int32)
    · rw [if_pos h2, if_pos h2]; exact ⟨rfl, h.st ea b⟩
    · rw [if_neg h2, if_neg h2]; exact ⟨rfl, (h.st ea b).st ac b⟩
def zss (k : kSz) (m a e : Int32) (v : Int64) : Int32 × kSz := if m < (2 : Int32) then fz_move_68 k m a v else fz_move_68 (stz k e v) m a v
theorem ss1_c (hA : AC ac) (h : RP c B kx kz) (b : BitVec 36) : SM c B (fx_storeSelf_18 kx op ac ea (xv b)) (fz_move_68 kz (op &&& (3 : Int32)) ac (zv b)) := by
  unfold fx_storeSelf_18 fx_storeSelf_41 fz_move_68 fz_move_82 fx_mode
  by_cases h1 : (op &&& (3 : Int32)) < (2 : Int32)
  · rw [if_pos h1, if_pos h1]; exact ⟨rfl, h.st ac b⟩
  · rw [if_neg h1, if_neg h1]
    by_cases h2 : (op &&& (3 : Int32)) = (3 : Int32)
    · rw [if_pos h2, if_pos h2]
      by_cases h3 : ac = 0
      · rw [if_pos h3, if_pos (by rw [h3]; decide)]; exact ⟨rfl, h⟩
      · rw [if_neg h3, if_neg (fun e => h3 (Int32.toInt_inj.mp (by rw [i32_le] at e; have := hA.1; have e0 : (0 : Int32).toInt = 0 := rfl; omega)))]; exact ⟨rfl, h.st ac b⟩
    · rw [if_neg h2, if_neg h2]; exact ⟨rfl, h⟩
theorem ss_c (hA : AC ac) (h : RP c B kx kz) (b : BitVec 36) : SM c B (fx_storeSelf kx op ac ea (xv b)) (zss kz (op &&& (3 : Int32)) ac ea (zv b)) := by
  unfold fx_storeSelf zss fx_mode
  by_cases h1 : (op &&& (3 : Int32)) < (2 : Int32)
  · rw [if_pos h1, if_pos h1]; exact ss1_c hA h b
  · rw [if_neg h1, if_neg h1]; exact ss1_c hA (h.st ea b) b
theorem res_c (k : kSx) (v : Int64) : fx_result k op ac ea v = (xv (NN v), if xv (NN v) = v then k else vx_ov k (1 : Int32)) := by
  unfold fx_result
  rw [sgn_eq]
  by_cases h : xv (NN v) = v
  · rw [if_pos h, if_pos h]
  · rw [if_neg h, if_neg h]
theorem fit_c (v : Int64) : (fz_fits v = 0 ↔ ¬ xv (NN v) = v) := by
  have key : fz_fits v = 0 ↔ ¬ (-34359738368 ≤ v.toInt ∧ v.toInt < 34359738368) := by
    unfold fz_fits
    by_cases h1 : v < (-34359738368 : Int64)
    · rw [if_pos h1]
      rw [Int64.lt_iff_toInt_lt, show (-34359738368 : Int64).toInt = -34359738368 from by decide +kernel] at h1
      exact ⟨fun _ => by omega, fun _ => rfl⟩
    · rw [if_neg h1]
      rw [Int64.lt_iff_toInt_lt, show (-34359738368 : Int64).toInt = -34359738368 from by decide +kernel] at h1
      by_cases h2 : (34359738367 : Int64) < v
      · rw [if_pos h2]
        rw [Int64.lt_iff_toInt_lt, show (34359738367 : Int64).toInt = 34359738367 from by decide +kernel] at h2
        exact ⟨fun _ => by omega, fun _ => rfl⟩
      · rw [if_neg h2]
        rw [Int64.lt_iff_toInt_lt, show (34359738367 : Int64).toInt = 34359738367 from by decide +kernel] at h2
        exact ⟨fun e => absurd e (by decide), fun e => absurd ⟨by omega, by omega⟩ e⟩
  rw [key]
  refine ⟨fun h e => h ?_, fun h e => h (xv_of e.1 e.2).symm⟩
  rw [← e]; exact ⟨xv_lo _, xv_hi _⟩
theorem fit_ov (h : RP c B kx kz) (v : Int64) : RP c B (if xv (NN v) = v then kx else vx_ov kx (1 : Int32)) (if fz_fits v = 0 then vz_ov kz (1 : Int32) else kz) := by
  by_cases h1 : xv (NN v) = v
  · rw [if_pos h1, if_neg (fun e => (fit_c v).mp e h1)]; exact h
  · rw [if_neg h1, if_pos ((fit_c v).mpr h1)]; exact h.ov 1
end SIMB
