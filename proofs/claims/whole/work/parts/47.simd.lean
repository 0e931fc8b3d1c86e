section SIMD
variable {c : Int32} {B : Int} {kx : kSx} {kz : kSz} {op ac ea : Int32}
theorem ldx_st (k : kSx) (i : Int32) (v : Int64) : ldx (stx k i v) i = v := by
  show (if i.toNatClampNeg = i.toNatClampNeg then v else _) = v
  rw [if_pos rfl]
theorem ldz_st (k : kSz) (i : Int32) (v : Int64) : ldz (stz k i v) i = v := by
  show (if i.toNatClampNeg = i.toNatClampNeg then v else _) = v
  rw [if_pos rfl]
theorem upd_self (f : Nat → Int64) (i : Nat) : vp_updL f i (f i) = f := by
  funext j
  show (if j = i then f i else f j) = f j
  by_cases h : j = i
  · rw [if_pos h, h]
  · rw [if_neg h]
theorem stz_twice (k : kSz) (i : Int32) (v : Int64) : stz (stz k i v) i v = stz k i v := by
  show vz_w (vz_w k (vp_updL (uz_w k) i.toNatClampNeg v)) (vp_updL (vp_updL (uz_w k) i.toNatClampNeg v) i.toNatClampNeg v) = _
  have : vp_updL (vp_updL (uz_w k) i.toNatClampNeg v) i.toNatClampNeg v = vp_updL (uz_w k) i.toNatClampNeg v := by
    funext j
    show (if j = i.toNatClampNeg then v else (if j = i.toNatClampNeg then v else uz_w k j)) = (if j = i.toNatClampNeg then v else uz_w k j)
    by_cases h : j = i.toNatClampNeg
    · rw [if_pos h, if_pos h]
    · rw [if_neg h, if_neg h]
  rw [this]; rfl
theorem stz_self (k : kSz) (i : Int32) : stz k i (ldz k i) = k := by
  show vz_w k (vp_updL (uz_w k) i.toNatClampNeg (uz_w k i.toNatClampNeg)) = k
  rw [upd_self]; rfl
theorem stx_self (k : kSx) (i : Int32) : stx k i (ldx k i) = k := by
  show vx_w k (vp_updL (ux_w k) i.toNatClampNeg (ux_w k i.toNatClampNeg)) = k
  rw [upd_self]; rfl
theorem skip_c (h : RP c 4096 kx kz) (v w : Int32) (e : v = w) : SM c 300000 (fx_skipIf kx op ac ea v) (if w = 0 then ((0 : Int32), kz) else ((0 : Int32), vz_bh kz ((uz_bh kz) + (1 : Int32)))) := by
  unfold fx_skipIf
  rw [e]
  by_cases h1 : w = 0
  · rw [if_pos h1, if_pos h1]; exact ⟨rfl, h.mono (by decide)⟩
  · rw [if_neg h1, if_neg h1]; exact ⟨rfl, h.skip⟩
theorem jump_c (hE : EA ea) (h : RP c B kx kz) (hB : B ≤ 300000) (v w : Int32) (e : v = w) : SM c 300000 (fx_jumpIf kx op ac ea v) (if w = 0 then ((0 : Int32), kz) else ((0 : Int32), vz_bh kz ea)) := by
  unfold fx_jumpIf
  rw [e]
  by_cases h1 : w = 0
  · rw [if_pos h1, if_pos h1]; exact ⟨rfl, h.mono hB⟩
  · rw [if_neg h1, if_neg h1]; exact ⟨rfl, h.pc hE.1 (by have := hE.2; omega)⟩
theorem sub7_1 (x : Int32) : (x &&& (1 : Int32)) = (x &&& (7 : Int32)) &&& (1 : Int32) := by rw [Int32.and_assoc]; rfl
theorem sub7_2 (x : Int32) : (x &&& (2 : Int32)) = (x &&& (7 : Int32)) &&& (2 : Int32) := by rw [Int32.and_assoc]; rfl
theorem sub7_4 (x : Int32) : (x &&& (4 : Int32)) = (x &&& (7 : Int32)) &&& (4 : Int32) := by rw [Int32.and_assoc]; rfl
def hcls (a b d : Bool) (x y : Int64) : Int32 := if ((a && decide (x < y)) || (b && decide (x = y))) = d then 0 else 1

theorem holds_x (k : kSx) (a b d : Bool) (h1 : (op &&& (1 : Int32)) = (if a then 1 else 0)) (h2 : (op &&& (2 : Int32)) = (if b then 2 else 0)) (h4 : (op &&& (4 : Int32)) = (if d then 4 else 0)) (x y : Int64) : fx_holds k op ac ea x y = hcls a b d x y := by
  have lt : x < y ↔ ¬ y ≤ x := by rw [Int64.lt_iff_toInt_lt, Int64.le_iff_toInt_le]; omega
  unfold fx_holds fx_holds_19 fx_holds_20 fx_holds_41 fx_holds_42 fx_holds_54 fx_holds_59 fx_holds_73 hcls
  rw [h1, h2, h4]
  by_cases c1 : y ≤ x <;> by_cases c2 : x = y <;> cases a <;> cases b <;> cases d <;> simp [c1, c2, lt] <;> (try rfl) <;> (try decide)
theorem holds_z (x y : Int64) : ∀ j : Nat, j < 8 → fz_holds (nI j) x y = hcls (decide (j % 2 = 1)) (decide (j / 2 % 2 = 1)) (decide (j / 4 % 2 = 1)) x y := by
  intro j hj
  have lt : x < y ↔ ¬ y ≤ x := by rw [Int64.lt_iff_toInt_lt, Int64.le_iff_toInt_le]; omega
  have lt2 : y < x ↔ ¬ x ≤ y := by rw [Int64.lt_iff_toInt_lt, Int64.le_iff_toInt_le]; omega
  have le2 : x ≤ y ↔ (x = y ∨ ¬ y ≤ x) := by
    rw [Int64.le_iff_toInt_le, Int64.le_iff_toInt_le, ← Int64.toInt_inj]; omega
  have rf : x = y → y ≤ x := fun e => by rw [e, Int64.le_iff_toInt_le]; omega
  unfold fz_holds hcls
  rcases (show j = 0 ∨ j = 1 ∨ j = 2 ∨ j = 3 ∨ j = 4 ∨ j = 5 ∨ j = 6 ∨ j = 7 by omega) with e | e | e | e | e | e | e | e <;> subst e
  · rw [if_pos (show nI 0 = 0 by decide)]
    by_cases c1 : y ≤ x <;> by_cases c2 : x = y <;> simp [c1, c2, lt, lt2, le2] <;> (try exact absurd (rf c2) c1)
  · rw [if_neg (show ¬ nI 1 = 0 by decide), if_pos (show nI 1 = 1 by decide)]
    by_cases c1 : y ≤ x <;> by_cases c2 : x = y <;> simp [c1, c2, lt, lt2, le2] <;> (try exact absurd (rf c2) c1)
  · rw [if_neg (show ¬ nI 2 = 0 by decide), if_neg (show ¬ nI 2 = 1 by decide), if_pos (show nI 2 = 2 by decide)]
    by_cases c1 : y ≤ x <;> by_cases c2 : x = y <;> simp [c1, c2, lt, lt2, le2] <;> (try exact absurd (rf c2) c1)
  · rw [if_neg (show ¬ nI 3 = 0 by decide), if_neg (show ¬ nI 3 = 1 by decide), if_neg (show ¬ nI 3 = 2 by decide), if_pos (show nI 3 = 3 by decide)]
    by_cases c1 : y ≤ x <;> by_cases c2 : x = y <;> simp [c1, c2, lt, lt2, le2] <;> (try exact absurd (rf c2) c1)
  · rw [if_neg (show ¬ nI 4 = 0 by decide), if_neg (show ¬ nI 4 = 1 by decide), if_neg (show ¬ nI 4 = 2 by decide), if_neg (show ¬ nI 4 = 3 by decide), if_pos (show nI 4 = 4 by decide)]
    by_cases c1 : y ≤ x <;> by_cases c2 : x = y <;> simp [c1, c2, lt, lt2, le2] <;> (try exact absurd (rf c2) c1)
  · rw [if_neg (show ¬ nI 5 = 0 by decide), if_neg (show ¬ nI 5 = 1 by decide), if_neg (show ¬ nI 5 = 2 by decide), if_neg (show ¬ nI 5 = 3 by decide), if_neg (show ¬ nI 5 = 4 by decide), if_pos (show nI 5 = 5 by decide)]
    by_cases c1 : y ≤ x <;> by_cases c2 : x = y <;> simp [c1, c2, lt, lt2, le2] <;> (try exact absurd (rf c2) c1)
  · rw [if_neg (show ¬ nI 6 = 0 by decide), if_neg (show ¬ nI 6 = 1 by decide), if_neg (show ¬ nI 6 = 2 by decide), if_neg (show ¬ nI 6 = 3 by decide), if_neg (show ¬ nI 6 = 4 by decide), if_neg (show ¬ nI 6 = 5 by decide), if_pos (show nI 6 = 6 by decide)]
    by_cases c1 : y ≤ x <;> by_cases c2 : x = y <;> simp [c1, c2, lt, lt2, le2] <;> (try exact absurd (rf c2) c1)
  · rw [if_neg (show ¬ nI 7 = 0 by decide), if_neg (show ¬ nI 7 = 1 by decide), if_neg (show ¬ nI 7 = 2 by decide), if_neg (show ¬ nI 7 = 3 by decide), if_neg (show ¬ nI 7 = 4 by decide), if_neg (show ¬ nI 7 = 5 by decide), if_neg (show ¬ nI 7 = 6 by decide)]
    by_cases c1 : y ≤ x <;> by_cases c2 : x = y <;> simp [c1, c2, lt, lt2, le2] <;> (try exact absurd (rf c2) c1)
theorem holds_c (k : kSx) (x y : Int64) : fx_holds k op ac ea x y = fz_holds (op &&& (7 : Int32)) x y := by
  obtain ⟨j, hj, e⟩ := pk_andE op (m := 7) 3 (by decide)
  have hj : j < 8 := hj
  rw [e, holds_z x y j hj]
  refine holds_x k _ _ _ ?_ ?_ ?_ x y
  · rw [sub7_1, e]
    rcases (show j = 0 ∨ j = 1 ∨ j = 2 ∨ j = 3 ∨ j = 4 ∨ j = 5 ∨ j = 6 ∨ j = 7 by omega) with e | e | e | e | e | e | e | e <;> subst e <;> decide
  · rw [sub7_2, e]
    rcases (show j = 0 ∨ j = 1 ∨ j = 2 ∨ j = 3 ∨ j = 4 ∨ j = 5 ∨ j = 6 ∨ j = 7 by omega) with e | e | e | e | e | e | e | e <;> subst e <;> decide
  · rw [sub7_4, e]
    rcases (show j = 0 ∨ j = 1 ∨ j = 2 ∨ j = 3 ∨ j = 4 ∨ j = 5 ∨ j = 6 ∨ j = 7 by omega) with e | e | e | e | e | e | e | e <;> subst e <;> decide
theorem next_c (b : BitVec 36) (by1 : Int32) : fz_next kz (zv b) by1 = (zv (NN (xv b + by1.toInt64)), if fz_fits (xv b + by1.toInt64) = 0 then vz_ov kz (1 : Int32) else kz) := by
  unfold fz_next
  rw [zsgn_eq, and_all]
  by_cases h : fz_fits (xv b + by1.toInt64) = 0
  · rw [if_pos h, if_pos h]
  · rw [if_neg h, if_neg h]
theorem sow_c (hA : AC ac) (h : RP c 4096 kx kz) (b : BitVec 36) (ez : stz kz ea (zv b) = kz) : SM c 300000 (fx_skipOnWord kx op ac ea (xv b)) (fz_compare_224 kz (op &&& (7 : Int32)) ac ea (zv b)) := by
  unfold fx_skipOnWord fx_skipOnWord_17 fz_compare_224 fz_compare_247
  rw [ez, zsgn_eq]
  by_cases h1 : ac = 0
  · rw [if_pos h1, if_pos (by rw [h1]; decide)]
    exact skip_c h _ _ (holds_c _ _ _)
  · rw [if_neg h1, if_neg (fun e => h1 (Int32.toInt_inj.mp (by rw [i32_le] at e; have := hA.1; have e0 : (0 : Int32).toInt = 0 := rfl; omega)))]
    exact skip_c (h.st ac b) _ _ (holds_c _ _ _)
theorem cac_c (hE : EA ea) (h : RP c 4096 kx kz) (by1 : Int32) : SM c 300000 (fx_countAc kx op ac ea by1) (fz_compare_171 (stz ((fz_next kz (ldz kz ac) by1).2) ac ((fz_next kz (ldz kz ac) by1).1)) (op &&& (7 : Int32)) ac ea) := by
  obtain ⟨b, e1, e2⟩ := h.ld ac
  unfold fx_countAc fz_compare_171
  rw [e1, e2, next_c, res_c]
  have h2 := (fit_ov h (xv b + by1.toInt64)).st ac (NN (xv b + by1.toInt64))
  show SM c 300000 (fx_jumpIf (stx (if xv (NN (xv b + by1.toInt64)) = xv b + by1.toInt64 then kx else vx_ov kx 1) ac (xv (NN (xv b + by1.toInt64)))) op ac ea (fx_holds _ op ac ea (ldx (stx (if xv (NN (xv b + by1.toInt64)) = xv b + by1.toInt64 then kx else vx_ov kx 1) ac (xv (NN (xv b + by1.toInt64)))) ac) 0)) (if (fz_holds (op &&& 7) (fz_signed (ldz (stz (if fz_fits (xv b + by1.toInt64) = 0 then vz_ov kz 1 else kz) ac (zv (NN (xv b + by1.toInt64)))) ac)) 0) = 0 then _ else _)
  rw [ldx_st, ldz_st, zsgn_eq]
  exact jump_c hE h2 (by decide) _ _ (holds_c _ _ _)
theorem cwd_c (hA : AC ac) (h : RP c 4096 kx kz) (by1 : Int32) : SM c 300000 (fx_countWord kx op ac ea by1) (fz_compare_224 ((fz_next kz (ldz kz ea) by1).2) (op &&& (7 : Int32)) ac ea ((fz_next kz (ldz kz ea) by1).1)) := by
  obtain ⟨b, e1, e2⟩ := h.ld ea
  unfold fx_countWord
  rw [e1, e2, next_c, res_c]
  have h2 := (fit_ov h (xv b + by1.toInt64)).st ea (NN (xv b + by1.toInt64))
  have e3 : fz_compare_224 (if fz_fits (xv b + by1.toInt64) = 0 then vz_ov kz (1 : Int32) else kz) (op &&& (7 : Int32)) ac ea (zv (NN (xv b + by1.toInt64))) = fz_compare_224 (stz (if fz_fits (xv b + by1.toInt64) = 0 then vz_ov kz (1 : Int32) else kz) ea (zv (NN (xv b + by1.toInt64)))) (op &&& (7 : Int32)) ac ea (zv (NN (xv b + by1.toInt64))) := by
    unfold fz_compare_224
    rw [stz_twice]
  show SM c 300000 _ (fz_compare_224 (if fz_fits (xv b + by1.toInt64) = 0 then vz_ov kz (1 : Int32) else kz) (op &&& (7 : Int32)) ac ea (zv (NN (xv b + by1.toInt64))))
  rw [e3]
  exact sow_c hA h2 _ (stz_twice _ _ _)
/-- the word that must be there -/
theorem gate8 {rx : Int32 × kSx} {f : Int32 × kSz} {c8 : Prop} (hE : EA ea) (h : RP c B kx kz) (hB : B ≤ 300000) (hs : SM c 300000 rx f) (h8 : ¬ (op &&& (8 : Int32)) = 0) : SM c 300000 (if (op &&& (8 : Int32)) = 0 then rx else if (fx_isThere ea) = 0 then ((2 : Int32), kx) else rx) (if (fz_isGone ea) = 0 then f else ((2 : Int32), kz)) := by
  rw [if_neg h8]
  by_cases h2 : fz_isGone ea = 0
  · rw [if_pos h2, if_neg (fun q => (there_c hE).mp q h2)]; exact hs
  · rw [if_neg h2, if_pos ((there_c hE).mpr h2)]; exact ⟨rfl, h.mono hB⟩
theorem cmp43_0 (m : Int32) : fz_compare_43 kz 0 m ac ea = fz_compare_100 kz 0 m ac ea := by
  unfold fz_compare_43 fz_compare_54
  rw [if_neg (show ¬ (6 : Int32) ≤ 0 by decide), if_pos (show (0 : Int32) = 0 by decide)]
theorem c32_0 (hA : AC ac) (hE : EA ea) (h : RP c 4096 kx kz) (h5 : (op &&& (504 : Int32)) = 192) : SM c 300000 (fx_compare_32 kx op ac ea) (fz_compare_43 kz 0 (op &&& (7 : Int32)) ac ea) := by
  rw [cmp43_0]
  unfold fx_compare_32
  rw [if_pos h5]
  obtain ⟨b, e1, e2⟩ := h.ld ac
  unfold fz_compare_100 fz_compare_130
  rw [if_pos rfl, e1, e2, zsgn_eq]
  exact skip_c h _ _ (holds_c _ _ _)
theorem cmp_0 (hA : AC ac) (hE : EA ea) (h : RP c 4096 kx kz) (h5 : (op &&& (504 : Int32)) = 192) : SM c 300000 (fx_compare kx op ac ea) (fz_compare kz 0 (op &&& (7 : Int32)) ac ea) := by
  unfold fx_compare fz_compare
  rw [if_neg (show ¬ (0 : Int32) = 1 by decide), if_neg (show ¬ (0 : Int32) = 3 by decide), if_neg (show ¬ (0 : Int32) = 5 by decide), if_neg (show ¬ (0 : Int32) = 7 by decide), if_pos (show (op &&& (8 : Int32)) = 0 by rw [b8_eq, h5]; decide)]
  exact c32_0 hA hE h h5
theorem cmp43_1 (m : Int32) : fz_compare_43 kz 1 m ac ea = fz_compare_100 kz 1 m ac ea := by
  unfold fz_compare_43 fz_compare_54
  rw [if_neg (show ¬ (6 : Int32) ≤ 1 by decide), if_neg (show ¬ (1 : Int32) = 0 by decide), if_pos (show (1 : Int32) = 1 by decide)]
theorem c32_1 (hA : AC ac) (hE : EA ea) (h : RP c 4096 kx kz) (h5 : (op &&& (504 : Int32)) = 200) : SM c 300000 (fx_compare_32 kx op ac ea) (fz_compare_43 kz 1 (op &&& (7 : Int32)) ac ea) := by
  rw [cmp43_1]
  unfold fx_compare_32
  rw [if_neg (show ¬ (op &&& (504 : Int32)) = 192 by rw [h5]; decide), if_pos h5]
  obtain ⟨b, e1, e2⟩ := h.ld ac
  obtain ⟨b2, e3, e4⟩ := h.ld ea
  unfold fz_compare_100 fz_compare_130
  rw [if_neg (show ¬ (1 : Int32) = 0 by decide), e1, e2, e3, e4, zsgn_eq, zsgn_eq]
  exact skip_c h _ _ (holds_c _ _ _)
theorem cmp_1 (hA : AC ac) (hE : EA ea) (h : RP c 4096 kx kz) (h5 : (op &&& (504 : Int32)) = 200) : SM c 300000 (fx_compare kx op ac ea) (fz_compare kz 1 (op &&& (7 : Int32)) ac ea) := by
  unfold fx_compare fz_compare
  rw [if_pos (show (1 : Int32) = 1 by decide)]
  exact gate8 (c8 := True) hE h (by decide) (c32_1 hA hE h h5) (by rw [b8_eq, h5]; decide)
theorem cmp43_2 (m : Int32) : fz_compare_43 kz 2 m ac ea = fz_compare_148 kz 2 m ac ea (1 : Int32) := by
  unfold fz_compare_43 fz_compare_54
  rw [if_neg (show ¬ (6 : Int32) ≤ 2 by decide), if_neg (show ¬ (2 : Int32) = 0 by decide), if_neg (show ¬ (2 : Int32) = 1 by decide), if_pos (show (2 : Int32) = 2 by decide)]
theorem c32_2 (hA : AC ac) (hE : EA ea) (h : RP c 4096 kx kz) (h5 : (op &&& (504 : Int32)) = 208) : SM c 300000 (fx_compare_32 kx op ac ea) (fz_compare_43 kz 2 (op &&& (7 : Int32)) ac ea) := by
  rw [cmp43_2]
  unfold fx_compare_32
  rw [if_neg (show ¬ (op &&& (504 : Int32)) = 192 by rw [h5]; decide), if_neg (show ¬ (op &&& (504 : Int32)) = 200 by rw [h5]; decide), if_pos h5]
  obtain ⟨b, e1, e2⟩ := h.ld ac
  unfold fz_compare_148 fz_compare_171
  rw [if_pos (show (2 : Int32) ≤ 2 by decide), e1, e2, zsgn_eq]
  exact jump_c hE h (by decide) _ _ (holds_c _ _ _)
theorem cmp_2 (hA : AC ac) (hE : EA ea) (h : RP c 4096 kx kz) (h5 : (op &&& (504 : Int32)) = 208) : SM c 300000 (fx_compare kx op ac ea) (fz_compare kz 2 (op &&& (7 : Int32)) ac ea) := by
  unfold fx_compare fz_compare
  rw [if_neg (show ¬ (2 : Int32) = 1 by decide), if_neg (show ¬ (2 : Int32) = 3 by decide), if_neg (show ¬ (2 : Int32) = 5 by decide), if_neg (show ¬ (2 : Int32) = 7 by decide), if_pos (show (op &&& (8 : Int32)) = 0 by rw [b8_eq, h5]; decide)]
  exact c32_2 hA hE h h5
theorem cmp43_3 (m : Int32) : fz_compare_43 kz 3 m ac ea = fz_compare_196 kz 3 m ac ea (1 : Int32) := by
  unfold fz_compare_43 fz_compare_54
  rw [if_neg (show ¬ (6 : Int32) ≤ 3 by decide), if_neg (show ¬ (3 : Int32) = 0 by decide), if_neg (show ¬ (3 : Int32) = 1 by decide), if_neg (show ¬ (3 : Int32) = 2 by decide), if_neg (show ¬ (3 : Int32) = 4 by decide), if_neg (show ¬ (3 : Int32) = 6 by decide)]
theorem c32_3 (hA : AC ac) (hE : EA ea) (h : RP c 4096 kx kz) (h5 : (op &&& (504 : Int32)) = 216) : SM c 300000 (fx_compare_32 kx op ac ea) (fz_compare_43 kz 3 (op &&& (7 : Int32)) ac ea) := by
  rw [cmp43_3]
  unfold fx_compare_32
  rw [if_neg (show ¬ (op &&& (504 : Int32)) = 192 by rw [h5]; decide), if_neg (show ¬ (op &&& (504 : Int32)) = 200 by rw [h5]; decide), if_neg (show ¬ (op &&& (504 : Int32)) = 208 by rw [h5]; decide), if_pos h5]
  obtain ⟨b, e1, e2⟩ := h.ld ea
  unfold fz_compare_196
  rw [if_pos (show (3 : Int32) ≤ 3 by decide), e1, e2]
  exact sow_c hA h b (by rw [← e2]; exact stz_self _ _)
theorem cmp_3 (hA : AC ac) (hE : EA ea) (h : RP c 4096 kx kz) (h5 : (op &&& (504 : Int32)) = 216) : SM c 300000 (fx_compare kx op ac ea) (fz_compare kz 3 (op &&& (7 : Int32)) ac ea) := by
  unfold fx_compare fz_compare
  rw [if_neg (show ¬ (3 : Int32) = 1 by decide), if_pos (show (3 : Int32) = 3 by decide)]
  exact gate8 (c8 := True) hE h (by decide) (c32_3 hA hE h h5) (by rw [b8_eq, h5]; decide)
theorem cmp43_4 (m : Int32) : fz_compare_43 kz 4 m ac ea = fz_compare_148 kz 4 m ac ea (1 : Int32) := by
  unfold fz_compare_43 fz_compare_54
  rw [if_neg (show ¬ (6 : Int32) ≤ 4 by decide), if_neg (show ¬ (4 : Int32) = 0 by decide), if_neg (show ¬ (4 : Int32) = 1 by decide), if_neg (show ¬ (4 : Int32) = 2 by decide), if_pos (show (4 : Int32) = 4 by decide)]
theorem c32_4 (hA : AC ac) (hE : EA ea) (h : RP c 4096 kx kz) (h5 : (op &&& (504 : Int32)) = 224) : SM c 300000 (fx_compare_32 kx op ac ea) (fz_compare_43 kz 4 (op &&& (7 : Int32)) ac ea) := by
  rw [cmp43_4]
  unfold fx_compare_32
  rw [if_neg (show ¬ (op &&& (504 : Int32)) = 192 by rw [h5]; decide), if_neg (show ¬ (op &&& (504 : Int32)) = 200 by rw [h5]; decide), if_neg (show ¬ (op &&& (504 : Int32)) = 208 by rw [h5]; decide), if_neg (show ¬ (op &&& (504 : Int32)) = 216 by rw [h5]; decide), if_pos h5]
  unfold fz_compare_148
  rw [if_neg (show ¬ (4 : Int32) ≤ 2 by decide)]
  exact cac_c hE h _
theorem cmp_4 (hA : AC ac) (hE : EA ea) (h : RP c 4096 kx kz) (h5 : (op &&& (504 : Int32)) = 224) : SM c 300000 (fx_compare kx op ac ea) (fz_compare kz 4 (op &&& (7 : Int32)) ac ea) := by
  unfold fx_compare fz_compare
  rw [if_neg (show ¬ (4 : Int32) = 1 by decide), if_neg (show ¬ (4 : Int32) = 3 by decide), if_neg (show ¬ (4 : Int32) = 5 by decide), if_neg (show ¬ (4 : Int32) = 7 by decide), if_pos (show (op &&& (8 : Int32)) = 0 by rw [b8_eq, h5]; decide)]
  exact c32_4 hA hE h h5
theorem cmp43_5 (m : Int32) : fz_compare_43 kz 5 m ac ea = fz_compare_196 kz 5 m ac ea (1 : Int32) := by
  unfold fz_compare_43 fz_compare_54
  rw [if_neg (show ¬ (6 : Int32) ≤ 5 by decide), if_neg (show ¬ (5 : Int32) = 0 by decide), if_neg (show ¬ (5 : Int32) = 1 by decide), if_neg (show ¬ (5 : Int32) = 2 by decide), if_neg (show ¬ (5 : Int32) = 4 by decide), if_neg (show ¬ (5 : Int32) = 6 by decide)]
theorem c32_5 (hA : AC ac) (hE : EA ea) (h : RP c 4096 kx kz) (h5 : (op &&& (504 : Int32)) = 232) : SM c 300000 (fx_compare_32 kx op ac ea) (fz_compare_43 kz 5 (op &&& (7 : Int32)) ac ea) := by
  rw [cmp43_5]
  unfold fx_compare_32
  rw [if_neg (show ¬ (op &&& (504 : Int32)) = 192 by rw [h5]; decide), if_neg (show ¬ (op &&& (504 : Int32)) = 200 by rw [h5]; decide), if_neg (show ¬ (op &&& (504 : Int32)) = 208 by rw [h5]; decide), if_neg (show ¬ (op &&& (504 : Int32)) = 216 by rw [h5]; decide), if_neg (show ¬ (op &&& (504 : Int32)) = 224 by rw [h5]; decide), if_pos h5]
  unfold fz_compare_196
  rw [if_neg (show ¬ (5 : Int32) ≤ 3 by decide)]
  exact cwd_c hA h _
theorem cmp_5 (hA : AC ac) (hE : EA ea) (h : RP c 4096 kx kz) (h5 : (op &&& (504 : Int32)) = 232) : SM c 300000 (fx_compare kx op ac ea) (fz_compare kz 5 (op &&& (7 : Int32)) ac ea) := by
  unfold fx_compare fz_compare
  rw [if_neg (show ¬ (5 : Int32) = 1 by decide), if_neg (show ¬ (5 : Int32) = 3 by decide), if_pos (show (5 : Int32) = 5 by decide)]
  exact gate8 (c8 := True) hE h (by decide) (c32_5 hA hE h h5) (by rw [b8_eq, h5]; decide)
theorem cmp43_6 (m : Int32) : fz_compare_43 kz 6 m ac ea = fz_compare_148 kz 6 m ac ea (-1 : Int32) := by
  unfold fz_compare_43 fz_compare_54
  rw [if_pos (show (6 : Int32) ≤ 6 by decide), if_neg (show ¬ (6 : Int32) = 0 by decide), if_neg (show ¬ (6 : Int32) = 1 by decide), if_neg (show ¬ (6 : Int32) = 2 by decide), if_neg (show ¬ (6 : Int32) = 4 by decide), if_pos (show (6 : Int32) = 6 by decide)]
theorem c32_6 (hA : AC ac) (hE : EA ea) (h : RP c 4096 kx kz) (h5 : (op &&& (504 : Int32)) = 240) : SM c 300000 (fx_compare_32 kx op ac ea) (fz_compare_43 kz 6 (op &&& (7 : Int32)) ac ea) := by
  rw [cmp43_6]
  unfold fx_compare_32
  rw [if_neg (show ¬ (op &&& (504 : Int32)) = 192 by rw [h5]; decide), if_neg (show ¬ (op &&& (504 : Int32)) = 200 by rw [h5]; decide), if_neg (show ¬ (op &&& (504 : Int32)) = 208 by rw [h5]; decide), if_neg (show ¬ (op &&& (504 : Int32)) = 216 by rw [h5]; decide), if_neg (show ¬ (op &&& (504 : Int32)) = 224 by rw [h5]; decide), if_neg (show ¬ (op &&& (504 : Int32)) = 232 by rw [h5]; decide), if_pos h5]
  unfold fz_compare_148
  rw [if_neg (show ¬ (6 : Int32) ≤ 2 by decide)]
  exact cac_c hE h _
theorem cmp_6 (hA : AC ac) (hE : EA ea) (h : RP c 4096 kx kz) (h5 : (op &&& (504 : Int32)) = 240) : SM c 300000 (fx_compare kx op ac ea) (fz_compare kz 6 (op &&& (7 : Int32)) ac ea) := by
  unfold fx_compare fz_compare
  rw [if_neg (show ¬ (6 : Int32) = 1 by decide), if_neg (show ¬ (6 : Int32) = 3 by decide), if_neg (show ¬ (6 : Int32) = 5 by decide), if_neg (show ¬ (6 : Int32) = 7 by decide), if_pos (show (op &&& (8 : Int32)) = 0 by rw [b8_eq, h5]; decide)]
  exact c32_6 hA hE h h5
theorem cmp43_7 (m : Int32) : fz_compare_43 kz 7 m ac ea = fz_compare_196 kz 7 m ac ea (-1 : Int32) := by
  unfold fz_compare_43 fz_compare_54
  rw [if_pos (show (6 : Int32) ≤ 7 by decide), if_neg (show ¬ (7 : Int32) = 0 by decide), if_neg (show ¬ (7 : Int32) = 1 by decide), if_neg (show ¬ (7 : Int32) = 2 by decide), if_neg (show ¬ (7 : Int32) = 4 by decide), if_neg (show ¬ (7 : Int32) = 6 by decide)]
theorem c32_7 (hA : AC ac) (hE : EA ea) (h : RP c 4096 kx kz) (h5 : (op &&& (504 : Int32)) = 248) : SM c 300000 (fx_compare_32 kx op ac ea) (fz_compare_43 kz 7 (op &&& (7 : Int32)) ac ea) := by
  rw [cmp43_7]
  unfold fx_compare_32
  rw [if_neg (show ¬ (op &&& (504 : Int32)) = 192 by rw [h5]; decide), if_neg (show ¬ (op &&& (504 : Int32)) = 200 by rw [h5]; decide), if_neg (show ¬ (op &&& (504 : Int32)) = 208 by rw [h5]; decide), if_neg (show ¬ (op &&& (504 : Int32)) = 216 by rw [h5]; decide), if_neg (show ¬ (op &&& (504 : Int32)) = 224 by rw [h5]; decide), if_neg (show ¬ (op &&& (504 : Int32)) = 232 by rw [h5]; decide), if_neg (show ¬ (op &&& (504 : Int32)) = 240 by rw [h5]; decide)]
  unfold fz_compare_196
  rw [if_neg (show ¬ (7 : Int32) ≤ 3 by decide)]
  exact cwd_c hA h _
theorem cmp_7 (hA : AC ac) (hE : EA ea) (h : RP c 4096 kx kz) (h5 : (op &&& (504 : Int32)) = 248) : SM c 300000 (fx_compare kx op ac ea) (fz_compare kz 7 (op &&& (7 : Int32)) ac ea) := by
  unfold fx_compare fz_compare
  rw [if_neg (show ¬ (7 : Int32) = 1 by decide), if_neg (show ¬ (7 : Int32) = 3 by decide), if_neg (show ¬ (7 : Int32) = 5 by decide), if_pos (show (7 : Int32) = 7 by decide)]
  exact gate8 (c8 := True) hE h (by decide) (c32_7 hA hE h h5) (by rw [b8_eq, h5]; decide)
end SIMD
