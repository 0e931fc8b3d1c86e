def r3 {α : Type} (r : Int32 × α) : Prop := r.1 = 0 ∨ r.1 = 1 ∨ r.1 = 2
theorem r3_ite {α : Type} {c : Prop} [Decidable c] {a b : Int32 × α} (ha : r3 a) (hb : r3 b) : r3 (if c then a else b) := by
  by_cases h : c
  · rw [if_pos h]; exact ha
  · rw [if_neg h]; exact hb
theorem r3_0 {α : Type} (x : α) : r3 ((0 : Int32), x) := Or.inl rfl
theorem r3_1 {α : Type} (x : α) : r3 ((1 : Int32), x) := Or.inr (Or.inl rfl)
theorem r3_2 {α : Type} (x : α) : r3 ((2 : Int32), x) := Or.inr (Or.inr rfl)
theorem r3_skipIf (k : kSx) (op ac ea : Int32) (v1 : Int32) : r3 (fx_skipIf k op ac ea v1) := by
  unfold fx_skipIf
  exact r3_ite (r3_0 _) (r3_0 _)
theorem r3_jumpIf (k : kSx) (op ac ea : Int32) (v1 : Int32) : r3 (fx_jumpIf k op ac ea v1) := by
  unfold fx_jumpIf
  exact r3_ite (r3_0 _) (r3_0 _)
theorem r3_storeBoth_18 (k : kSx) (op ac ea : Int32) (v1 : Int64) : r3 (fx_storeBoth_18 k op ac ea v1) := by
  unfold fx_storeBoth_18
  exact r3_ite (r3_0 _) (r3_0 _)
theorem r3_storeBoth (k : kSx) (op ac ea : Int32) (v1 : Int64) : r3 (fx_storeBoth k op ac ea v1) := by
  unfold fx_storeBoth
  exact r3_ite (r3_storeBoth_18 _ _ _ _ _) (r3_storeBoth_18 _ _ _ _ _)
theorem r3_storeSelf_41 (k : kSx) (op ac ea : Int32) (v1 : Int64) : r3 (fx_storeSelf_41 k op ac ea v1) := by
  unfold fx_storeSelf_41
  exact r3_0 _
theorem r3_storeSelf_18 (k : kSx) (op ac ea : Int32) (v1 : Int64) : r3 (fx_storeSelf_18 k op ac ea v1) := by
  unfold fx_storeSelf_18
  exact r3_ite (r3_storeSelf_41 _ _ _ _ _) (r3_ite (r3_ite (r3_0 _) (r3_storeSelf_41 _ _ _ _ _)) (r3_0 _))
theorem r3_storeSelf (k : kSx) (op ac ea : Int32) (v1 : Int64) : r3 (fx_storeSelf k op ac ea v1) := by
  unfold fx_storeSelf
  exact r3_ite (r3_storeSelf_18 _ _ _ _ _) (r3_storeSelf_18 _ _ _ _ _)
theorem r3_exchange (k : kSx) (op ac ea : Int32) : r3 (fx_exchange k op ac ea) := by
  unfold fx_exchange
  exact r3_ite (r3_2 _) (r3_0 _)
theorem r3_transferBlock_60 : ∀ (n : Nat) (k : kSx) (op ac ea v1 v2 v3 v4 : Int32), r3 (fx_transferBlock_60 n k op ac ea v1 v2 v3 v4) := by
  intro n
  induction n with
  | zero => intros; exact r3_0 _
  | succ n ih =>
    intro k op ac ea v1 v2 v3 v4
    rw [fx_transferBlock_60]
    exact r3_ite (r3_0 _) (ih _ _ _ _ _ _ _ _)
theorem r3_transferBlock (k : kSx) (op ac ea : Int32) : r3 (fx_transferBlock k op ac ea) := by
  unfold fx_transferBlock
  exact r3_ite (r3_2 _) (r3_ite (r3_2 _) (r3_transferBlock_60 _ _ _ _ _ _ _ _ _))
theorem r3_jumpOnOverflow_32 (k : kSx) (op ac ea : Int32) (v1 : Int32) : r3 (fx_jumpOnOverflow_32 k op ac ea v1) := by
  unfold fx_jumpOnOverflow_32
  exact r3_jumpIf _ _ _ _ _
theorem r3_jumpOnOverflow_22 (k : kSx) (op ac ea : Int32) (t0 : Int32) : r3 (fx_jumpOnOverflow_22 k op ac ea t0) := by
  unfold fx_jumpOnOverflow_22
  exact r3_ite (r3_jumpOnOverflow_32 _ _ _ _ _) (r3_jumpOnOverflow_32 _ _ _ _ _)
theorem r3_jumpOnOverflow_21 (k : kSx) (op ac ea : Int32) : r3 (fx_jumpOnOverflow_21 k op ac ea) := by
  unfold fx_jumpOnOverflow_21
  exact r3_jumpOnOverflow_22 _ _ _ _ _
theorem r3_jumpOnOverflow (k : kSx) (op ac ea : Int32) : r3 (fx_jumpOnOverflow k op ac ea) := by
  unfold fx_jumpOnOverflow
  exact r3_ite (r3_jumpOnOverflow_21 _ _ _ _) (r3_ite (r3_jumpOnOverflow_21 _ _ _ _) (r3_jumpOnOverflow_22 _ _ _ _ _))
theorem r3_callStoringAtE (k : kSx) (op ac ea : Int32) : r3 (fx_callStoringAtE k op ac ea) := by
  unfold fx_callStoringAtE
  exact r3_ite (r3_2 _) (r3_0 _)
theorem r3_skipOnWord_17 (k : kSx) (op ac ea : Int32) (v1 : Int64) : r3 (fx_skipOnWord_17 k op ac ea v1) := by
  unfold fx_skipOnWord_17
  exact r3_skipIf _ _ _ _ _
theorem r3_skipOnWord (k : kSx) (op ac ea : Int32) (v1 : Int64) : r3 (fx_skipOnWord k op ac ea v1) := by
  unfold fx_skipOnWord
  exact r3_ite (r3_skipOnWord_17 _ _ _ _ _) (r3_skipOnWord_17 _ _ _ _ _)
theorem r3_move_106 (k : kSx) (op ac ea : Int32) (t2 : Int64) : r3 (fx_move_106 k op ac ea t2) := by
  unfold fx_move_106
  exact r3_storeSelf _ _ _ _ _
theorem r3_move_33 (k : kSx) (op ac ea : Int32) (t0 : Int64) : r3 (fx_move_33 k op ac ea t0) := by
  unfold fx_move_33
  exact r3_ite (r3_storeSelf _ _ _ _ _) (r3_ite (r3_storeSelf _ _ _ _ _) (r3_ite (r3_ite (r3_move_106 _ _ _ _ _) (r3_move_106 _ _ _ _ _)) (r3_storeSelf _ _ _ _ _)))
theorem r3_move (k : kSx) (op ac ea : Int32) : r3 (fx_move k op ac ea) := by
  unfold fx_move
  exact r3_ite (r3_ite (r3_move_33 _ _ _ _ _) (r3_move_33 _ _ _ _ _)) (r3_2 _)
theorem r3_divide_46 (k : kSx) (op ac ea : Int32) : r3 (fx_divide_46 k op ac ea) := by
  unfold fx_divide_46
  exact r3_0 _
theorem r3_divide_53 (k : kSx) (op ac ea : Int32) (v1 : Int64) (v3 : Int64) : r3 (fx_divide_53 k op ac ea v1 v3) := by
  unfold fx_divide_53
  exact r3_ite (r3_0 _) (r3_0 _)
theorem r3_divide (k : kSx) (op ac ea : Int32) : r3 (fx_divide k op ac ea) := by
  unfold fx_divide
  exact r3_ite (r3_ite (r3_divide_46 _ _ _ _) (r3_ite (r3_ite (r3_divide_46 _ _ _ _) (r3_divide_53 _ _ _ _ _ _)) (r3_divide_53 _ _ _ _ _ _))) (r3_2 _)
theorem r3_findFirstOne_53 (k : kSx) (op ac ea : Int32) (t1 : Int32) : r3 (fx_findFirstOne_53 k op ac ea t1) := by
  unfold fx_findFirstOne_53
  exact r3_jumpIf _ _ _ _ _
theorem r3_findFirstOne_40 (k : kSx) (op ac ea : Int32) (v1 : Int64) (t1 : Int32) (t2 : Int64) : r3 (fx_findFirstOne_40 k op ac ea v1 t1 t2) := by
  unfold fx_findFirstOne_40
  exact r3_ite (r3_findFirstOne_53 _ _ _ _ _) (r3_findFirstOne_53 _ _ _ _ _)
theorem r3_findFirstOne (k : kSx) (op ac ea : Int32) : r3 (fx_findFirstOne k op ac ea) := by
  unfold fx_findFirstOne
  exact r3_ite (r3_findFirstOne_40 _ _ _ _ _ _ _) (r3_findFirstOne_40 _ _ _ _ _ _ _)
theorem r3_countBothHalves_51 (k : kSx) (op ac ea : Int32) (t1 : Int32) : r3 (fx_countBothHalves_51 k op ac ea t1) := by
  unfold fx_countBothHalves_51
  exact r3_jumpIf _ _ _ _ _
theorem r3_countBothHalves_42 (k : kSx) (op ac ea : Int32) (v1 : Int32) (t1 : Int32) : r3 (fx_countBothHalves_42 k op ac ea v1 t1) := by
  unfold fx_countBothHalves_42
  exact r3_ite (r3_countBothHalves_51 _ _ _ _ _) (r3_countBothHalves_51 _ _ _ _ _)
theorem r3_countBothHalves (k : kSx) (op ac ea : Int32) (v1 : Int32) : r3 (fx_countBothHalves k op ac ea v1) := by
  unfold fx_countBothHalves
  exact r3_ite (r3_countBothHalves_42 _ _ _ _ _ _) (r3_countBothHalves_42 _ _ _ _ _ _)
theorem r3_push (k : kSx) (op ac ea : Int32) (v1 : Int64) : r3 (fx_push k op ac ea v1) := by
  unfold fx_push
  exact r3_ite (r3_0 _) (r3_1 _)
theorem r3_pop (k : kSx) (op ac ea : Int32) : r3 (fx_pop k op ac ea) := by
  unfold fx_pop
  exact r3_ite (r3_2 _) (r3_ite (r3_2 _) (r3_0 _))
theorem r3_popToPc (k : kSx) (op ac ea : Int32) : r3 (fx_popToPc k op ac ea) := by
  unfold fx_popToPc
  exact r3_ite (r3_2 _) (r3_0 _)
theorem r3_countAc (k : kSx) (op ac ea : Int32) (v1 : Int32) : r3 (fx_countAc k op ac ea v1) := by
  unfold fx_countAc
  exact r3_jumpIf _ _ _ _ _
theorem r3_countWord (k : kSx) (op ac ea : Int32) (v1 : Int32) : r3 (fx_countWord k op ac ea v1) := by
  unfold fx_countWord
  exact r3_skipOnWord _ _ _ _ _
theorem r3_combineBits_70 (k : kSx) (op ac ea : Int32) (t1 : Int64) : r3 (fx_combineBits_70 k op ac ea t1) := by
  unfold fx_combineBits_70
  exact r3_storeBoth _ _ _ _ _
theorem r3_combineBits (k : kSx) (op ac ea : Int32) : r3 (fx_combineBits k op ac ea) := by
  unfold fx_combineBits
  exact r3_ite (r3_ite (r3_combineBits_70 _ _ _ _ _) (r3_combineBits_70 _ _ _ _ _)) (r3_2 _)
theorem r3_testBits_155 (k : kSx) (op ac ea : Int32) (t1 : Int32) : r3 (fx_testBits_155 k op ac ea t1) := by
  unfold fx_testBits_155
  exact r3_skipIf _ _ _ _ _
theorem r3_testBits_147 (k : kSx) (op ac ea : Int32) (t1 : Int32) (t2 : Int32) : r3 (fx_testBits_147 k op ac ea t1 t2) := by
  unfold fx_testBits_147
  exact r3_ite (r3_testBits_155 _ _ _ _ _) (r3_testBits_155 _ _ _ _ _)
theorem r3_testBits_104 (k : kSx) (op ac ea : Int32) (v4 : Int64) (t0 : Int32) : r3 (fx_testBits_104 k op ac ea v4 t0) := by
  unfold fx_testBits_104
  exact r3_ite (r3_testBits_147 _ _ _ _ _ _) (r3_testBits_147 _ _ _ _ _ _)
theorem r3_testBits_103 (k : kSx) (op ac ea : Int32) (v4 : Int64) : r3 (fx_testBits_103 k op ac ea v4) := by
  unfold fx_testBits_103
  exact r3_testBits_104 _ _ _ _ _ _
theorem r3_testBits_71 (k : kSx) (op ac ea : Int32) (t0 : Int64) : r3 (fx_testBits_71 k op ac ea t0) := by
  unfold fx_testBits_71
  exact r3_ite (r3_testBits_103 _ _ _ _ _) (r3_ite (r3_testBits_104 _ _ _ _ _ _) (r3_testBits_103 _ _ _ _ _))
theorem r3_testBits_53 (k : kSx) (op ac ea : Int32) (t0 : Int64) : r3 (fx_testBits_53 k op ac ea t0) := by
  unfold fx_testBits_53
  exact r3_ite (r3_testBits_71 _ _ _ _ _) (r3_testBits_71 _ _ _ _ _)
theorem r3_testBits_32 (k : kSx) (op ac ea : Int32) (v1 : Int32) : r3 (fx_testBits_32 k op ac ea v1) := by
  unfold fx_testBits_32
  exact r3_ite (r3_testBits_53 _ _ _ _ _) (r3_testBits_53 _ _ _ _ _)
theorem r3_testBits_15 (k : kSx) (op ac ea : Int32) (t0 : Int32) : r3 (fx_testBits_15 k op ac ea t0) := by
  unfold fx_testBits_15
  exact r3_ite (r3_testBits_32 _ _ _ _ _) (r3_ite (r3_2 _) (r3_testBits_32 _ _ _ _ _))
theorem r3_testBits (k : kSx) (op ac ea : Int32) : r3 (fx_testBits k op ac ea) := by
  unfold fx_testBits
  exact r3_ite (r3_testBits_15 _ _ _ _ _) (r3_testBits_15 _ _ _ _ _)
theorem r3_moveHalf_63 (k : kSx) (op ac ea : Int32) (v1 : Int64) (t0 : Int64) : r3 (fx_moveHalf_63 k op ac ea v1 t0) := by
  unfold fx_moveHalf_63
  exact r3_storeSelf _ _ _ _ _
theorem r3_moveHalf_33 (k : kSx) (op ac ea : Int32) (t0 : Int64) : r3 (fx_moveHalf_33 k op ac ea t0) := by
  unfold fx_moveHalf_33
  exact r3_ite (r3_moveHalf_63 _ _ _ _ _ _) (r3_moveHalf_63 _ _ _ _ _ _)
theorem r3_moveHalf (k : kSx) (op ac ea : Int32) : r3 (fx_moveHalf k op ac ea) := by
  unfold fx_moveHalf
  exact r3_ite (r3_ite (r3_moveHalf_33 _ _ _ _ _) (r3_moveHalf_33 _ _ _ _ _)) (r3_2 _)
theorem r3_performSingle (k : kSx) (op ac ea : Int32) : r3 (fx_performSingle k op ac ea) := by
  unfold fx_performSingle
  exact r3_ite (r3_exchange _ _ _ _) (r3_ite (r3_transferBlock _ _ _ _) (r3_ite (r3_countBothHalves _ _ _ _ _) (r3_ite (r3_countBothHalves _ _ _ _ _) (r3_ite (r3_jumpIf _ _ _ _ _) (r3_ite (r3_jumpOnOverflow _ _ _ _) (r3_ite (r3_callStoringAtE _ _ _ _) (r3_ite (r3_jumpIf _ _ _ _ _) (r3_1 _))))))))
theorem r3_calculate (k : kSx) (op ac ea : Int32) : r3 (fx_calculate k op ac ea) := by
  unfold fx_calculate
  exact r3_ite (r3_ite (r3_storeBoth _ _ _ _ _) (r3_ite (r3_storeBoth _ _ _ _ _) (r3_storeBoth _ _ _ _ _))) (r3_2 _)
theorem r3_shiftOrFindFirstOne_118 (k : kSx) (op ac ea : Int32) : r3 (fx_shiftOrFindFirstOne_118 k op ac ea) := by
  unfold fx_shiftOrFindFirstOne_118
  exact r3_findFirstOne _ _ _ _
theorem r3_shiftOrFindFirstOne (k : kSx) (op ac ea : Int32) : r3 (fx_shiftOrFindFirstOne k op ac ea) := by
  unfold fx_shiftOrFindFirstOne
  exact r3_ite (r3_0 _) (r3_ite (r3_0 _) (r3_ite (r3_0 _) (r3_shiftOrFindFirstOne_118 _ _ _ _)))
theorem r3_useStack_95 (k : kSx) (op ac ea : Int32) : r3 (fx_useStack_95 k op ac ea) := by
  unfold fx_useStack_95
  exact r3_popToPc _ _ _ _
theorem r3_useStack (k : kSx) (op ac ea : Int32) : r3 (fx_useStack k op ac ea) := by
  unfold fx_useStack
  exact r3_ite (r3_ite (r3_2 _) (r3_jumpIf _ _ _ _ _)) (r3_ite (r3_ite (r3_2 _) (r3_ite (r3_2 _) (r3_0 _))) (r3_ite (r3_pop _ _ _ _) (r3_useStack_95 _ _ _ _)))
theorem r3_compare_32 (k : kSx) (op ac ea : Int32) : r3 (fx_compare_32 k op ac ea) := by
  unfold fx_compare_32
  exact r3_ite (r3_skipIf _ _ _ _ _) (r3_ite (r3_skipIf _ _ _ _ _) (r3_ite (r3_jumpIf _ _ _ _ _) (r3_ite (r3_skipOnWord _ _ _ _ _) (r3_ite (r3_countAc _ _ _ _ _) (r3_ite (r3_countWord _ _ _ _ _) (r3_ite (r3_countAc _ _ _ _ _) (r3_countWord _ _ _ _ _)))))))
theorem r3_compare (k : kSx) (op ac ea : Int32) : r3 (fx_compare k op ac ea) := by
  unfold fx_compare
  exact r3_ite (r3_compare_32 _ _ _ _) (r3_ite (r3_2 _) (r3_compare_32 _ _ _ _))
theorem r3_performTwoHundreds_96 (k : kSx) (op ac ea : Int32) : r3 (fx_performTwoHundreds_96 k op ac ea) := by
  unfold fx_performTwoHundreds_96
  exact r3_move _ _ _ _
theorem r3_performTwoHundreds_101 (k : kSx) (op ac ea : Int32) : r3 (fx_performTwoHundreds_101 k op ac ea) := by
  unfold fx_performTwoHundreds_101
  exact r3_calculate _ _ _ _
theorem r3_performTwoHundreds (k : kSx) (op ac ea : Int32) : r3 (fx_performTwoHundreds k op ac ea) := by
  unfold fx_performTwoHundreds
  exact r3_ite (r3_performTwoHundreds_96 _ _ _ _) (r3_ite (r3_performTwoHundreds_96 _ _ _ _) (r3_ite (r3_performTwoHundreds_96 _ _ _ _) (r3_ite (r3_performTwoHundreds_96 _ _ _ _) (r3_ite (r3_performTwoHundreds_101 _ _ _ _) (r3_ite (r3_divide _ _ _ _) (r3_ite (r3_shiftOrFindFirstOne _ _ _ _) (r3_ite (r3_useStack _ _ _ _) (r3_ite (r3_performTwoHundreds_101 _ _ _ _) (r3_ite (r3_performTwoHundreds_101 _ _ _ _) (r3_performSingle _ _ _ _))))))))))
theorem r3_perform (k : kSx) (op ac ea : Int32) : r3 (fx_perform k op ac ea) := by
  unfold fx_perform
  exact r3_ite (r3_performTwoHundreds _ _ _ _) (r3_ite (r3_compare _ _ _ _) (r3_ite (r3_combineBits _ _ _ _) (r3_ite (r3_moveHalf _ _ _ _) (r3_ite (r3_testBits _ _ _ _) (r3_1 _)))))
theorem step_012 (k : kSx) (op ac ea : Int32) : r3 (fx_step k op ac ea) := by
  unfold fx_step fx_step_10
  exact r3_ite (r3_2 _) (r3_ite (r3_perform _ _ _ _) (r3_perform _ _ _ _))
