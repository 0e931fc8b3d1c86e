section SIME
variable {c : Int32} {B : Int} {kx : kSx} {kz : kSz} {op ac ea : Int32}
theorem hw_int (p : BitVec 18) : (hw p).toInt = p.toNat := by
  show (hw p).toBitVec.toInt = _
  rw [hw_bv, BitVec.toInt_eq_toNat_cond, BitVec.toNat_setWidth]
  have := p.isLt
  rw [Nat.mod_eq_of_lt (by omega), if_pos (by omega)]
theorem hw_EA (p : BitVec 18) : EA (hw p) := by
  unfold EA
  rw [hw_int]
  have := p.isLt
  omega
theorem RP.pcle (h : RP c B kx kz) : 0 ≤ uz_bh kz := by
  rw [i32_le]; exact h.bnd.1
/-- the pc as a word -/
theorem RP.pcw (h : RP c B kx kz) : (ux_pc kx).toInt64 = xv (EE (uz_bh kz)) ∧ (uz_bh kz).toInt64 = zv (EE (uz_bh kz)) := by
  rw [h.pcEq]
  exact ⟨ee_xv h.pcle, ee_zv h.pcle⟩
theorem upd_comm (f : Nat → Int64) (i j : Nat) : vp_updL (vp_updL f i (f j)) j (f i) = vp_updL (vp_updL f j (f i)) i (f j) := by
  funext t
  show (if t = j then f i else (if t = i then f j else f t)) = (if t = i then f j else (if t = j then f i else f t))
  by_cases h1 : t = j
  · by_cases h2 : t = i
    · rw [if_pos h1, if_pos h2, ← h1, ← h2]
    · rw [if_pos h1, if_neg h2, if_pos h1]
  · rw [if_neg h1]
    by_cases h2 : t = i
    · rw [if_pos h2, if_pos h2]
    · rw [if_neg h2, if_neg h2, if_neg h1]
theorem stx_comm (k : kSx) (i j : Int32) : stx (stx k i (ldx k j)) j (ldx k i) = stx (stx k j (ldx k i)) i (ldx k j) :=
  congrArg (fun f => ((f, k.2) : kSx)) (upd_comm (ux_w k) i.toNatClampNeg j.toNatClampNeg)
theorem exch_c (hE : EA ea) (h : RP c B kx kz) (hB : B ≤ 300000) : SM c 300000 (fx_exchange kx op ac ea) (fz_odd kz 168 ac ea) := by
  unfold fx_exchange fz_odd
  rw [if_pos rfl]
  by_cases h2 : fz_isGone ea = 0
  · rw [if_pos h2, if_neg (fun q => (there_c hE).mp q h2), stx_comm]
    obtain ⟨a, e1, e2⟩ := h.ld ac
    obtain ⟨b, e3, e4⟩ := h.ld ea
    rw [e1, e2, e3, e4]
    exact ⟨rfl, ((h.st ac b).st ea a).mono hB⟩
  · rw [if_neg h2, if_pos ((there_c hE).mpr h2)]; exact ⟨rfl, h.mono hB⟩
theorem xv_sgn (b : BitVec 36) : ((0 : Int64) ≤ xv b ↔ ¬ xv b < (0 : Int64)) := by
  rw [Int64.lt_iff_toInt_lt, Int64.le_iff_toInt_le]; omega
theorem aobj_c (hE : EA ea) (h : RP c B kx kz) (hB : B ≤ 300000) (v w : Int32) (hv : (v = 0 ∧ w = 170) ∨ (v = 1 ∧ w = 171)) : SM c 300000 (fx_countBothHalves kx op ac ea v) (fz_odd_160 kz w ac ea (ldz kz ac)) := by
  obtain ⟨a, e1, e2⟩ := h.ld ac
  have h2 := h.st ac (BM a 1)
  have yes := jump_c (op := op) (ac := ac) hE h2 hB 1 1 rfl
  have no := jump_c (op := op) (ac := ac) hE h2 hB 0 0 rfl
  rw [if_neg (show ¬ (1 : Int32) = 0 by decide)] at yes
  rw [if_pos rfl] at no
  unfold fx_countBothHalves fx_countBothHalves_42 fx_countBothHalves_51 fz_odd_160 fz_odd_191 fz_odd_203
  rw [e1, e2, bm_xv, bm_zv, ldx_st, ldz_st, zsgn_eq]
  by_cases hn : xv (BM a 1) < (0 : Int64)
  · rw [if_pos hn, if_neg (fun q => (xv_sgn _).mp q hn)]
    rcases hv with ⟨q1, q2⟩ | ⟨q1, q2⟩
    · rw [q1, q2, if_neg (show ¬ (1 : Int32) = 0 by decide), if_pos rfl, if_neg (show ¬ (0 : Int32) = 1 by decide)]; exact no
    · rw [q1, q2, if_pos rfl, if_neg (show ¬ (171 : Int32) = 170 by decide), if_pos rfl]; exact yes
  · rw [if_neg hn, if_pos ((xv_sgn _).mpr hn)]
    rcases hv with ⟨q1, q2⟩ | ⟨q1, q2⟩
    · rw [q1, q2, if_pos rfl, if_pos rfl, if_pos rfl]; exact yes
    · rw [q1, q2, if_neg (show ¬ (0 : Int32) = 1 by decide), if_neg (show ¬ (171 : Int32) = 170 by decide), if_neg (show ¬ (1 : Int32) = 0 by decide)]; exact no
theorem aobjp_c (hE : EA ea) (h : RP c B kx kz) (hB : B ≤ 300000) : SM c 300000 (fx_countBothHalves kx op ac ea 0) (fz_odd kz 170 ac ea) := by
  have := aobj_c (op := op) (ac := ac) hE h hB 0 170 (Or.inl ⟨rfl, rfl⟩)
  unfold fz_odd
  rw [if_neg (show ¬ (170 : Int32) = 168 by decide), if_neg (show ¬ (170 : Int32) = 169 by decide), if_pos rfl]
  exact this
theorem aobjn_c (hE : EA ea) (h : RP c B kx kz) (hB : B ≤ 300000) : SM c 300000 (fx_countBothHalves kx op ac ea 1) (fz_odd kz 171 ac ea) := by
  have := aobj_c (op := op) (ac := ac) hE h hB 1 171 (Or.inr ⟨rfl, rfl⟩)
  unfold fz_odd
  rw [if_neg (show ¬ (171 : Int32) = 168 by decide), if_neg (show ¬ (171 : Int32) = 169 by decide), if_neg (show ¬ (171 : Int32) = 170 by decide), if_pos rfl]
  exact this
theorem jrst_c (hE : EA ea) (h : RP c B kx kz) (hB : B ≤ 300000) : SM c 300000 (fx_jumpIf kx op ac ea 1) (fz_odd kz 172 ac ea) := by
  have yes := jump_c (op := op) (ac := ac) hE h hB 1 1 rfl
  rw [if_neg (show ¬ (1 : Int32) = 0 by decide)] at yes
  unfold fz_odd
  rw [if_neg (show ¬ (172 : Int32) = 168 by decide), if_neg (show ¬ (172 : Int32) = 169 by decide), if_neg (show ¬ (172 : Int32) = 170 by decide), if_neg (show ¬ (172 : Int32) = 171 by decide), if_pos rfl]
  exact yes
theorem jfcl_c (hE : EA ea) (h : RP c B kx kz) (hB : B ≤ 300000) : SM c 300000 (fx_jumpOnOverflow kx op ac ea) (fz_odd kz 173 ac ea) := by
  have no := jump_c (op := op) (ac := ac) hE h hB 0 0 rfl
  rw [if_pos rfl] at no
  have yes := jump_c (op := op) (ac := ac) hE (h.ov 0) hB 1 1 rfl
  rw [if_neg (show ¬ (1 : Int32) = 0 by decide)] at yes
  unfold fz_odd
  rw [if_neg (show ¬ (173 : Int32) = 168 by decide), if_neg (show ¬ (173 : Int32) = 169 by decide), if_neg (show ¬ (173 : Int32) = 170 by decide), if_neg (show ¬ (173 : Int32) = 171 by decide), if_neg (show ¬ (173 : Int32) = 172 by decide)]
  unfold fx_jumpOnOverflow fx_jumpOnOverflow_21 fx_jumpOnOverflow_22 fx_jumpOnOverflow_32
  rw [h.ovEq]
  by_cases h1 : (ac &&& (8 : Int32)) = 0
  · rw [if_pos h1, if_pos h1, if_pos rfl]; exact no
  · rw [if_neg h1, if_neg h1]
    by_cases h2 : uz_ov kz = 0
    · rw [if_pos h2, if_pos h2, if_pos rfl]; exact no
    · rw [if_neg h2, if_neg h2, if_neg (show ¬ (1 : Int32) = 0 by decide)]; exact yes
/-! calls and stacks -/
theorem jsr_c (hE : EA ea) (h : RP c B kx kz) (hB : B ≤ 300000) : SM c 300000 (fx_callStoringAtE kx op ac ea) (fz_calls kz 180 ac ea) := by
  unfold fx_callStoringAtE fz_calls
  rw [if_neg (show ¬ (180 : Int32) = 176 by decide), if_neg (show ¬ (180 : Int32) = 177 by decide), if_neg (show ¬ (180 : Int32) = 178 by decide), if_neg (show ¬ (180 : Int32) = 179 by decide), if_pos rfl]
  by_cases h2 : fz_isGone ea = 0
  · rw [if_pos h2, if_neg (fun q => (there_c hE).mp q h2), h.pcw.1, h.pcw.2]
    have e : (ea + 1).toInt = ea.toInt + 1 := i32_inc (by have := hE.2; omega)
    exact ⟨rfl, (h.st ea _).pc (by have := hE.1; omega) (by have := hE.2; omega)⟩
  · rw [if_neg h2, if_pos ((there_c hE).mpr h2)]; exact ⟨rfl, h.mono hB⟩
theorem jsp_c (hE : EA ea) (h : RP c B kx kz) (hB : B ≤ 300000) : SM c 300000 (fx_jumpIf (stx kx ac ((ux_pc kx).toInt64)) op ac ea 1) (fz_calls kz 181 ac ea) := by
  unfold fz_calls
  rw [if_neg (show ¬ (181 : Int32) = 176 by decide), if_neg (show ¬ (181 : Int32) = 177 by decide), if_neg (show ¬ (181 : Int32) = 178 by decide), if_neg (show ¬ (181 : Int32) = 179 by decide), if_neg (show ¬ (181 : Int32) = 180 by decide), h.pcw.1, h.pcw.2]
  have yes := jump_c (op := op) (ac := ac) hE (h.st ac (EE (uz_bh kz))) hB 1 1 rfl
  rw [if_neg (show ¬ (1 : Int32) = 0 by decide)] at yes
  exact yes
theorem pushj_c (hE : EA ea) (h : RP c B kx kz) (hB : B ≤ 300000) (ho : op = 176) : SM c 300000 (fx_useStack kx op ac ea) (fz_calls kz 176 ac ea) := by
  obtain ⟨a, e1, e2⟩ := h.ld ac
  unfold fx_useStack fx_push fz_calls
  rw [if_pos ho, if_pos rfl, e1, e2, bm_xv, bm_zv, rt_xv, rt_zv, h.pcw.1]
  by_cases h2 : fz_isGone (hw (RR (BM a 1))) = 0
  · rw [if_pos h2, if_neg (fun q => (there_c (hw_EA _)).mp q h2), if_neg (show ¬ (1 : Int32) = 0 by decide)]
    have yes := jump_c (op := op) (ac := ac) hE ((h.st ac (BM a 1)).st (hw (RR (BM a 1))) (EE (uz_bh kz))) hB 1 1 rfl
    rw [if_neg (show ¬ (1 : Int32) = 0 by decide), ← h.pcw.2] at yes
    exact yes
  · rw [if_neg h2, if_pos ((there_c (hw_EA _)).mpr h2), if_pos rfl]; exact ⟨rfl, h.mono hB⟩
theorem push_c (hE : EA ea) (h : RP c B kx kz) (hB : B ≤ 300000) (ho : op = 177) : SM c 300000 (fx_useStack kx op ac ea) (fz_calls kz 177 ac ea) := by
  obtain ⟨a, e1, e2⟩ := h.ld ac
  obtain ⟨b, e3, e4⟩ := h.ld ea
  unfold fx_useStack fx_push fz_calls
  rw [if_neg (show ¬ op = 176 by rw [ho]; decide), if_pos ho, if_neg (show ¬ (177 : Int32) = 176 by decide), if_pos rfl, e1, e2, e3, e4, bm_xv, bm_zv, rt_xv, rt_zv]
  by_cases h3 : fz_isGone ea = 0
  · rw [if_pos h3, if_neg (fun q => (there_c hE).mp q h3)]
    by_cases h2 : fz_isGone (hw (RR (BM a 1))) = 0
    · rw [if_pos h2, if_neg (fun q => (there_c (hw_EA _)).mp q h2), if_neg (show ¬ (1 : Int32) = 0 by decide)]
      exact ⟨rfl, ((h.st ac (BM a 1)).st _ b).mono hB⟩
    · rw [if_neg h2, if_pos ((there_c (hw_EA _)).mpr h2), if_pos rfl]; exact ⟨rfl, h.mono hB⟩
  · rw [if_neg h3, if_pos ((there_c hE).mpr h3)]
    by_cases h2 : fz_isGone (hw (RR (BM a 1))) = 0
    · rw [if_pos h2]; exact ⟨rfl, h.mono hB⟩
    · rw [if_neg h2]; exact ⟨rfl, h.mono hB⟩
theorem pop_c (hE : EA ea) (h : RP c B kx kz) (hB : B ≤ 300000) (ho : op = 178) : SM c 300000 (fx_useStack kx op ac ea) (fz_calls kz 178 ac ea) := by
  obtain ⟨a, e1, e2⟩ := h.ld ac
  unfold fx_useStack fx_pop fz_calls
  rw [if_neg (show ¬ op = 176 by rw [ho]; decide), if_neg (show ¬ op = 177 by rw [ho]; decide), if_pos ho, if_neg (show ¬ (178 : Int32) = 176 by decide), if_neg (show ¬ (178 : Int32) = 177 by decide), if_pos rfl, e1, e2, bm_xv, bm_zv, rt_xv, rt_zv]
  obtain ⟨b, e3, e4⟩ := h.ld (hw (RR a))
  rw [e3, e4]
  by_cases h3 : fz_isGone ea = 0
  · rw [if_pos h3, if_neg (fun q => (there_c hE).mp q h3)]
    by_cases h2 : fz_isGone (hw (RR a)) = 0
    · rw [if_pos h2, if_neg (fun q => (there_c (hw_EA _)).mp q h2)]
      exact ⟨rfl, ((h.st ac (BM a (-1))).st ea b).mono hB⟩
    · rw [if_neg h2, if_pos ((there_c (hw_EA _)).mpr h2)]; exact ⟨rfl, h.mono hB⟩
  · rw [if_neg h3, if_pos ((there_c hE).mpr h3)]
    by_cases h2 : fz_isGone (hw (RR a)) = 0
    · rw [if_pos h2]; exact ⟨rfl, h.mono hB⟩
    · rw [if_neg h2]; exact ⟨rfl, h.mono hB⟩
theorem popj_c (h : RP c B kx kz) (hB : B ≤ 300000) (ho : op = 179) : SM c 300000 (fx_useStack kx op ac ea) (fz_calls kz 179 ac ea) := by
  obtain ⟨a, e1, e2⟩ := h.ld ac
  have e1' : ∀ x : Int32, ldx (vx_pc kx x) ac = xv a := fun x => e1
  unfold fx_useStack fx_useStack_95 fx_popToPc fz_calls
  rw [if_neg (show ¬ op = 176 by rw [ho]; decide), if_neg (show ¬ op = 177 by rw [ho]; decide), if_neg (show ¬ op = 178 by rw [ho]; decide), if_neg (show ¬ (179 : Int32) = 176 by decide), if_neg (show ¬ (179 : Int32) = 177 by decide), if_neg (show ¬ (179 : Int32) = 178 by decide), if_pos rfl, e1', e1, e2, bm_xv, bm_zv, rt_xv, rt_zv]
  obtain ⟨b, e3, e4⟩ := h.ld (hw (RR a))
  rw [e3, e4, rt_xv, rt_zv]
  by_cases h2 : fz_isGone (hw (RR a)) = 0
  · rw [if_pos h2, if_neg (fun q => (there_c (hw_EA _)).mp q h2)]
    have hb := hw_EA (RR b)
    exact ⟨rfl, (h.pc (B2 := 300000) hb.1 (by have := hb.2; omega)).st ac _⟩
  · rw [if_neg h2, if_pos ((there_c (hw_EA _)).mpr h2)]; exact ⟨rfl, h.mono hB⟩
end SIME
