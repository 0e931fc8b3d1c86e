section PERF
variable {c : Int32} {B : Int} {kx : kSx} {kz : kSz} {op ac ea : Int32}
def dsel (op : Int32) {α : Type} (mv ca dv sh st sg cm bt hf ts sp : α) : α := if (op >>> ((6 : Int32) &&& 31)) = 2 then (if (op &&& (508 : Int32)) = 128 then mv else (if (op &&& (508 : Int32)) = 132 then mv else (if (op &&& (508 : Int32)) = 136 then mv else (if (op &&& (508 : Int32)) = 140 then mv else (if (op &&& (508 : Int32)) = 144 then ca else (if (op &&& (508 : Int32)) = 152 then dv else (if (op &&& (508 : Int32)) = 160 then sh else (if (op &&& (508 : Int32)) = 176 then st else (if (op &&& (508 : Int32)) = 184 then ca else (if (op &&& (508 : Int32)) = 188 then ca else (sg))))))))))) else (if (op >>> ((6 : Int32) &&& 31)) = 3 then (cm) else (if (op >>> ((6 : Int32) &&& 31)) = 4 then (bt) else (if (op >>> ((6 : Int32) &&& 31)) = 5 then (hf) else (if (op >>> ((6 : Int32) &&& 31)) = 6 then (ts) else (sp)))))
def dselN (op : Int32) : Nat := dsel op 0 1 2 3 4 5 6 7 8 9 10
theorem dsel_x (k : kSx) : fx_perform k op ac ea = dsel op (fx_move k op ac ea) (fx_calculate k op ac ea) (fx_divide k op ac ea) (fx_shiftOrFindFirstOne k op ac ea) (fx_useStack k op ac ea) (fx_performSingle k op ac ea) (fx_compare k op ac ea) (fx_combineBits k op ac ea) (fx_moveHalf k op ac ea) (fx_testBits k op ac ea) ((1 : Int32), k) := rfl
theorem dsel_0 {α : Type} {mv ca dv sh st sg cm bt hf ts sp : α} (h : dselN op = 0) : dsel op mv ca dv sh st sg cm bt hf ts sp = mv := by
  unfold dselN at h
  unfold dsel at h ⊢
  by_cases q1 : (op >>> ((6 : Int32) &&& 31)) = 2
  · rw [if_pos q1] at h ⊢
    by_cases q2 : (op &&& (508 : Int32)) = 128
    · rw [if_pos q2] at h ⊢
    · rw [if_neg q2] at h ⊢
      by_cases q3 : (op &&& (508 : Int32)) = 132
      · rw [if_pos q3] at h ⊢
      · rw [if_neg q3] at h ⊢
        by_cases q4 : (op &&& (508 : Int32)) = 136
        · rw [if_pos q4] at h ⊢
        · rw [if_neg q4] at h ⊢
          by_cases q5 : (op &&& (508 : Int32)) = 140
          · rw [if_pos q5] at h ⊢
          · rw [if_neg q5] at h ⊢
            by_cases q6 : (op &&& (508 : Int32)) = 144
            · rw [if_pos q6] at h ⊢
              exact absurd h (by decide)
            · rw [if_neg q6] at h ⊢
              by_cases q7 : (op &&& (508 : Int32)) = 152
              · rw [if_pos q7] at h ⊢
                exact absurd h (by decide)
              · rw [if_neg q7] at h ⊢
                by_cases q8 : (op &&& (508 : Int32)) = 160
                · rw [if_pos q8] at h ⊢
                  exact absurd h (by decide)
                · rw [if_neg q8] at h ⊢
                  by_cases q9 : (op &&& (508 : Int32)) = 176
                  · rw [if_pos q9] at h ⊢
                    exact absurd h (by decide)
                  · rw [if_neg q9] at h ⊢
                    by_cases q10 : (op &&& (508 : Int32)) = 184
                    · rw [if_pos q10] at h ⊢
                      exact absurd h (by decide)
                    · rw [if_neg q10] at h ⊢
                      by_cases q11 : (op &&& (508 : Int32)) = 188
                      · rw [if_pos q11] at h ⊢
                        exact absurd h (by decide)
                      · rw [if_neg q11] at h ⊢
                        exact absurd h (by decide)
  · rw [if_neg q1] at h ⊢
    by_cases q12 : (op >>> ((6 : Int32) &&& 31)) = 3
    · rw [if_pos q12] at h ⊢
      exact absurd h (by decide)
    · rw [if_neg q12] at h ⊢
      by_cases q13 : (op >>> ((6 : Int32) &&& 31)) = 4
      · rw [if_pos q13] at h ⊢
        exact absurd h (by decide)
      · rw [if_neg q13] at h ⊢
        by_cases q14 : (op >>> ((6 : Int32) &&& 31)) = 5
        · rw [if_pos q14] at h ⊢
          exact absurd h (by decide)
        · rw [if_neg q14] at h ⊢
          by_cases q15 : (op >>> ((6 : Int32) &&& 31)) = 6
          · rw [if_pos q15] at h ⊢
            exact absurd h (by decide)
          · rw [if_neg q15] at h ⊢
            exact absurd h (by decide)
theorem dsel_1 {α : Type} {mv ca dv sh st sg cm bt hf ts sp : α} (h : dselN op = 1) : dsel op mv ca dv sh st sg cm bt hf ts sp = ca := by
  unfold dselN at h
  unfold dsel at h ⊢
  by_cases q1 : (op >>> ((6 : Int32) &&& 31)) = 2
  · rw [if_pos q1] at h ⊢
    by_cases q2 : (op &&& (508 : Int32)) = 128
    · rw [if_pos q2] at h ⊢
      exact absurd h (by decide)
    · rw [if_neg q2] at h ⊢
      by_cases q3 : (op &&& (508 : Int32)) = 132
      · rw [if_pos q3] at h ⊢
        exact absurd h (by decide)
      · rw [if_neg q3] at h ⊢
        by_cases q4 : (op &&& (508 : Int32)) = 136
        · rw [if_pos q4] at h ⊢
          exact absurd h (by decide)
        · rw [if_neg q4] at h ⊢
          by_cases q5 : (op &&& (508 : Int32)) = 140
          · rw [if_pos q5] at h ⊢
            exact absurd h (by decide)
          · rw [if_neg q5] at h ⊢
            by_cases q6 : (op &&& (508 : Int32)) = 144
            · rw [if_pos q6] at h ⊢
            · rw [if_neg q6] at h ⊢
              by_cases q7 : (op &&& (508 : Int32)) = 152
              · rw [if_pos q7] at h ⊢
                exact absurd h (by decide)
              · rw [if_neg q7] at h ⊢
                by_cases q8 : (op &&& (508 : Int32)) = 160
                · rw [if_pos q8] at h ⊢
                  exact absurd h (by decide)
                · rw [if_neg q8] at h ⊢
                  by_cases q9 : (op &&& (508 : Int32)) = 176
                  · rw [if_pos q9] at h ⊢
                    exact absurd h (by decide)
                  · rw [if_neg q9] at h ⊢
                    by_cases q10 : (op &&& (508 : Int32)) = 184
                    · rw [if_pos q10] at h ⊢
                    · rw [if_neg q10] at h ⊢
                      by_cases q11 : (op &&& (508 : Int32)) = 188
                      · rw [if_pos q11] at h ⊢
                      · rw [if_neg q11] at h ⊢
                        exact absurd h (by decide)
  · rw [if_neg q1] at h ⊢
    by_cases q12 : (op >>> ((6 : Int32) &&& 31)) = 3
    · rw [if_pos q12] at h ⊢
      exact absurd h (by decide)
    · rw [if_neg q12] at h ⊢
      by_cases q13 : (op >>> ((6 : Int32) &&& 31)) = 4
      · rw [if_pos q13] at h ⊢
        exact absurd h (by decide)
      · rw [if_neg q13] at h ⊢
        by_cases q14 : (op >>> ((6 : Int32) &&& 31)) = 5
        · rw [if_pos q14] at h ⊢
          exact absurd h (by decide)
        · rw [if_neg q14] at h ⊢
          by_cases q15 : (op >>> ((6 : Int32) &&& 31)) = 6
          · rw [if_pos q15] at h ⊢
            exact absurd h (by decide)
          · rw [if_neg q15] at h ⊢
            exact absurd h (by decide)
theorem dsel_2 {α : Type} {mv ca dv sh st sg cm bt hf ts sp : α} (h : dselN op = 2) : dsel op mv ca dv sh st sg cm bt hf ts sp = dv := by
  unfold dselN at h
  unfold dsel at h ⊢
  by_cases q1 : (op >>> ((6 : Int32) &&& 31)) = 2
  · rw [if_pos q1] at h ⊢
    by_cases q2 : (op &&& (508 : Int32)) = 128
    · rw [if_pos q2] at h ⊢
      exact absurd h (by decide)
    · rw [if_neg q2] at h ⊢
      by_cases q3 : (op &&& (508 : Int32)) = 132
      · rw [if_pos q3] at h ⊢
        exact absurd h (by decide)
      · rw [if_neg q3] at h ⊢
        by_cases q4 : (op &&& (508 : Int32)) = 136
        · rw [if_pos q4] at h ⊢
          exact absurd h (by decide)
        · rw [if_neg q4] at h ⊢
          by_cases q5 : (op &&& (508 : Int32)) = 140
          · rw [if_pos q5] at h ⊢
            exact absurd h (by decide)
          · rw [if_neg q5] at h ⊢
            by_cases q6 : (op &&& (508 : Int32)) = 144
            · rw [if_pos q6] at h ⊢
              exact absurd h (by decide)
            · rw [if_neg q6] at h ⊢
              by_cases q7 : (op &&& (508 : Int32)) = 152
              · rw [if_pos q7] at h ⊢
              · rw [if_neg q7] at h ⊢
                by_cases q8 : (op &&& (508 : Int32)) = 160
                · rw [if_pos q8] at h ⊢
                  exact absurd h (by decide)
                · rw [if_neg q8] at h ⊢
                  by_cases q9 : (op &&& (508 : Int32)) = 176
                  · rw [if_pos q9] at h ⊢
                    exact absurd h (by decide)
                  · rw [if_neg q9] at h ⊢
                    by_cases q10 : (op &&& (508 : Int32)) = 184
                    · rw [if_pos q10] at h ⊢
                      exact absurd h (by decide)
                    · rw [if_neg q10] at h ⊢
                      by_cases q11 : (op &&& (508 : Int32)) = 188
                      · rw [if_pos q11] at h ⊢
                        exact absurd h (by decide)
                      · rw [if_neg q11] at h ⊢
                        exact absurd h (by decide)
  · rw [if_neg q1] at h ⊢
    by_cases q12 : (op >>> ((6 : Int32) &&& 31)) = 3
    · rw [if_pos q12] at h ⊢
      exact absurd h (by decide)
    · rw [if_neg q12] at h ⊢
      by_cases q13 : (op >>> ((6 : Int32) &&& 31)) = 4
      · rw [if_pos q13] at h ⊢
        exact absurd h (by decide)
      · rw [if_neg q13] at h ⊢
        by_cases q14 : (op >>> ((6 : Int32) &&& 31)) = 5
        · rw [if_pos q14] at h ⊢
          exact absurd h (by decide)
        · rw [if_neg q14] at h ⊢
          by_cases q15 : (op >>> ((6 : Int32) &&& 31)) = 6
          · rw [if_pos q15] at h ⊢
            exact absurd h (by decide)
          · rw [if_neg q15] at h ⊢
            exact absurd h (by decide)
theorem dsel_3 {α : Type} {mv ca dv sh st sg cm bt hf ts sp : α} (h : dselN op = 3) : dsel op mv ca dv sh st sg cm bt hf ts sp = sh := by
  unfold dselN at h
  unfold dsel at h ⊢
  by_cases q1 : (op >>> ((6 : Int32) &&& 31)) = 2
  · rw [if_pos q1] at h ⊢
    by_cases q2 : (op &&& (508 : Int32)) = 128
    · rw [if_pos q2] at h ⊢
      exact absurd h (by decide)
    · rw [if_neg q2] at h ⊢
      by_cases q3 : (op &&& (508 : Int32)) = 132
      · rw [if_pos q3] at h ⊢
        exact absurd h (by decide)
      · rw [if_neg q3] at h ⊢
        by_cases q4 : (op &&& (508 : Int32)) = 136
        · rw [if_pos q4] at h ⊢
          exact absurd h (by decide)
        · rw [if_neg q4] at h ⊢
          by_cases q5 : (op &&& (508 : Int32)) = 140
          · rw [if_pos q5] at h ⊢
            exact absurd h (by decide)
          · rw [if_neg q5] at h ⊢
            by_cases q6 : (op &&& (508 : Int32)) = 144
            · rw [if_pos q6] at h ⊢
              exact absurd h (by decide)
            · rw [if_neg q6] at h ⊢
              by_cases q7 : (op &&& (508 : Int32)) = 152
              · rw [if_pos q7] at h ⊢
                exact absurd h (by decide)
              · rw [if_neg q7] at h ⊢
                by_cases q8 : (op &&& (508 : Int32)) = 160
                · rw [if_pos q8] at h ⊢
                · rw [if_neg q8] at h ⊢
                  by_cases q9 : (op &&& (508 : Int32)) = 176
                  · rw [if_pos q9] at h ⊢
                    exact absurd h (by decide)
                  · rw [if_neg q9] at h ⊢
                    by_cases q10 : (op &&& (508 : Int32)) = 184
                    · rw [if_pos q10] at h ⊢
                      exact absurd h (by decide)
                    · rw [if_neg q10] at h ⊢
                      by_cases q11 : (op &&& (508 : Int32)) = 188
                      · rw [if_pos q11] at h ⊢
                        exact absurd h (by decide)
                      · rw [if_neg q11] at h ⊢
                        exact absurd h (by decide)
  · rw [if_neg q1] at h ⊢
    by_cases q12 : (op >>> ((6 : Int32) &&& 31)) = 3
    · rw [if_pos q12] at h ⊢
      exact absurd h (by decide)
    · rw [if_neg q12] at h ⊢
      by_cases q13 : (op >>> ((6 : Int32) &&& 31)) = 4
      · rw [if_pos q13] at h ⊢
        exact absurd h (by decide)
      · rw [if_neg q13] at h ⊢
        by_cases q14 : (op >>> ((6 : Int32) &&& 31)) = 5
        · rw [if_pos q14] at h ⊢
          exact absurd h (by decide)
        · rw [if_neg q14] at h ⊢
          by_cases q15 : (op >>> ((6 : Int32) &&& 31)) = 6
          · rw [if_pos q15] at h ⊢
            exact absurd h (by decide)
          · rw [if_neg q15] at h ⊢
            exact absurd h (by decide)
theorem dsel_4 {α : Type} {mv ca dv sh st sg cm bt hf ts sp : α} (h : dselN op = 4) : dsel op mv ca dv sh st sg cm bt hf ts sp = st := by
  unfold dselN at h
  unfold dsel at h ⊢
  by_cases q1 : (op >>> ((6 : Int32) &&& 31)) = 2
  · rw [if_pos q1] at h ⊢
    by_cases q2 : (op &&& (508 : Int32)) = 128
    · rw [if_pos q2] at h ⊢
      exact absurd h (by decide)
    · rw [if_neg q2] at h ⊢
      by_cases q3 : (op &&& (508 : Int32)) = 132
      · rw [if_pos q3] at h ⊢
        exact absurd h (by decide)
      · rw [if_neg q3] at h ⊢
        by_cases q4 : (op &&& (508 : Int32)) = 136
        · rw [if_pos q4] at h ⊢
          exact absurd h (by decide)
        · rw [if_neg q4] at h ⊢
          by_cases q5 : (op &&& (508 : Int32)) = 140
          · rw [if_pos q5] at h ⊢
            exact absurd h (by decide)
          · rw [if_neg q5] at h ⊢
            by_cases q6 : (op &&& (508 : Int32)) = 144
            · rw [if_pos q6] at h ⊢
              exact absurd h (by decide)
            · rw [if_neg q6] at h ⊢
              by_cases q7 : (op &&& (508 : Int32)) = 152
              · rw [if_pos q7] at h ⊢
                exact absurd h (by decide)
              · rw [if_neg q7] at h ⊢
                by_cases q8 : (op &&& (508 : Int32)) = 160
                · rw [if_pos q8] at h ⊢
                  exact absurd h (by decide)
                · rw [if_neg q8] at h ⊢
                  by_cases q9 : (op &&& (508 : Int32)) = 176
                  · rw [if_pos q9] at h ⊢
                  · rw [if_neg q9] at h ⊢
                    by_cases q10 : (op &&& (508 : Int32)) = 184
                    · rw [if_pos q10] at h ⊢
                      exact absurd h (by decide)
                    · rw [if_neg q10] at h ⊢
                      by_cases q11 : (op &&& (508 : Int32)) = 188
                      · rw [if_pos q11] at h ⊢
                        exact absurd h (by decide)
                      · rw [if_neg q11] at h ⊢
                        exact absurd h (by decide)
  · rw [if_neg q1] at h ⊢
    by_cases q12 : (op >>> ((6 : Int32) &&& 31)) = 3
    · rw [if_pos q12] at h ⊢
      exact absurd h (by decide)
    · rw [if_neg q12] at h ⊢
      by_cases q13 : (op >>> ((6 : Int32) &&& 31)) = 4
      · rw [if_pos q13] at h ⊢
        exact absurd h (by decide)
      · rw [if_neg q13] at h ⊢
        by_cases q14 : (op >>> ((6 : Int32) &&& 31)) = 5
        · rw [if_pos q14] at h ⊢
          exact absurd h (by decide)
        · rw [if_neg q14] at h ⊢
          by_cases q15 : (op >>> ((6 : Int32) &&& 31)) = 6
          · rw [if_pos q15] at h ⊢
            exact absurd h (by decide)
          · rw [if_neg q15] at h ⊢
            exact absurd h (by decide)
theorem dsel_5 {α : Type} {mv ca dv sh st sg cm bt hf ts sp : α} (h : dselN op = 5) : dsel op mv ca dv sh st sg cm bt hf ts sp = sg := by
  unfold dselN at h
  unfold dsel at h ⊢
  by_cases q1 : (op >>> ((6 : Int32) &&& 31)) = 2
  · rw [if_pos q1] at h ⊢
    by_cases q2 : (op &&& (508 : Int32)) = 128
    · rw [if_pos q2] at h ⊢
      exact absurd h (by decide)
    · rw [if_neg q2] at h ⊢
      by_cases q3 : (op &&& (508 : Int32)) = 132
      · rw [if_pos q3] at h ⊢
        exact absurd h (by decide)
      · rw [if_neg q3] at h ⊢
        by_cases q4 : (op &&& (508 : Int32)) = 136
        · rw [if_pos q4] at h ⊢
          exact absurd h (by decide)
        · rw [if_neg q4] at h ⊢
          by_cases q5 : (op &&& (508 : Int32)) = 140
          · rw [if_pos q5] at h ⊢
            exact absurd h (by decide)
          · rw [if_neg q5] at h ⊢
            by_cases q6 : (op &&& (508 : Int32)) = 144
            · rw [if_pos q6] at h ⊢
              exact absurd h (by decide)
            · rw [if_neg q6] at h ⊢
              by_cases q7 : (op &&& (508 : Int32)) = 152
              · rw [if_pos q7] at h ⊢
                exact absurd h (by decide)
              · rw [if_neg q7] at h ⊢
                by_cases q8 : (op &&& (508 : Int32)) = 160
                · rw [if_pos q8] at h ⊢
                  exact absurd h (by decide)
                · rw [if_neg q8] at h ⊢
                  by_cases q9 : (op &&& (508 : Int32)) = 176
                  · rw [if_pos q9] at h ⊢
                    exact absurd h (by decide)
                  · rw [if_neg q9] at h ⊢
                    by_cases q10 : (op &&& (508 : Int32)) = 184
                    · rw [if_pos q10] at h ⊢
                      exact absurd h (by decide)
                    · rw [if_neg q10] at h ⊢
                      by_cases q11 : (op &&& (508 : Int32)) = 188
                      · rw [if_pos q11] at h ⊢
                        exact absurd h (by decide)
                      · rw [if_neg q11] at h ⊢
  · rw [if_neg q1] at h ⊢
    by_cases q12 : (op >>> ((6 : Int32) &&& 31)) = 3
    · rw [if_pos q12] at h ⊢
      exact absurd h (by decide)
    · rw [if_neg q12] at h ⊢
      by_cases q13 : (op >>> ((6 : Int32) &&& 31)) = 4
      · rw [if_pos q13] at h ⊢
        exact absurd h (by decide)
      · rw [if_neg q13] at h ⊢
        by_cases q14 : (op >>> ((6 : Int32) &&& 31)) = 5
        · rw [if_pos q14] at h ⊢
          exact absurd h (by decide)
        · rw [if_neg q14] at h ⊢
          by_cases q15 : (op >>> ((6 : Int32) &&& 31)) = 6
          · rw [if_pos q15] at h ⊢
            exact absurd h (by decide)
          · rw [if_neg q15] at h ⊢
            exact absurd h (by decide)
theorem dsel_6 {α : Type} {mv ca dv sh st sg cm bt hf ts sp : α} (h : dselN op = 6) : dsel op mv ca dv sh st sg cm bt hf ts sp = cm := by
  unfold dselN at h
  unfold dsel at h ⊢
  by_cases q1 : (op >>> ((6 : Int32) &&& 31)) = 2
  · rw [if_pos q1] at h ⊢
    by_cases q2 : (op &&& (508 : Int32)) = 128
    · rw [if_pos q2] at h ⊢
      exact absurd h (by decide)
    · rw [if_neg q2] at h ⊢
      by_cases q3 : (op &&& (508 : Int32)) = 132
      · rw [if_pos q3] at h ⊢
        exact absurd h (by decide)
      · rw [if_neg q3] at h ⊢
        by_cases q4 : (op &&& (508 : Int32)) = 136
        · rw [if_pos q4] at h ⊢
          exact absurd h (by decide)
        · rw [if_neg q4] at h ⊢
          by_cases q5 : (op &&& (508 : Int32)) = 140
          · rw [if_pos q5] at h ⊢
            exact absurd h (by decide)
          · rw [if_neg q5] at h ⊢
            by_cases q6 : (op &&& (508 : Int32)) = 144
            · rw [if_pos q6] at h ⊢
              exact absurd h (by decide)
            · rw [if_neg q6] at h ⊢
              by_cases q7 : (op &&& (508 : Int32)) = 152
              · rw [if_pos q7] at h ⊢
                exact absurd h (by decide)
              · rw [if_neg q7] at h ⊢
                by_cases q8 : (op &&& (508 : Int32)) = 160
                · rw [if_pos q8] at h ⊢
                  exact absurd h (by decide)
                · rw [if_neg q8] at h ⊢
                  by_cases q9 : (op &&& (508 : Int32)) = 176
                  · rw [if_pos q9] at h ⊢
                    exact absurd h (by decide)
                  · rw [if_neg q9] at h ⊢
                    by_cases q10 : (op &&& (508 : Int32)) = 184
                    · rw [if_pos q10] at h ⊢
                      exact absurd h (by decide)
                    · rw [if_neg q10] at h ⊢
                      by_cases q11 : (op &&& (508 : Int32)) = 188
                      · rw [if_pos q11] at h ⊢
                        exact absurd h (by decide)
                      · rw [if_neg q11] at h ⊢
                        exact absurd h (by decide)
  · rw [if_neg q1] at h ⊢
    by_cases q12 : (op >>> ((6 : Int32) &&& 31)) = 3
    · rw [if_pos q12] at h ⊢
    · rw [if_neg q12] at h ⊢
      by_cases q13 : (op >>> ((6 : Int32) &&& 31)) = 4
      · rw [if_pos q13] at h ⊢
        exact absurd h (by decide)
      · rw [if_neg q13] at h ⊢
        by_cases q14 : (op >>> ((6 : Int32) &&& 31)) = 5
        · rw [if_pos q14] at h ⊢
          exact absurd h (by decide)
        · rw [if_neg q14] at h ⊢
          by_cases q15 : (op >>> ((6 : Int32) &&& 31)) = 6
          · rw [if_pos q15] at h ⊢
            exact absurd h (by decide)
          · rw [if_neg q15] at h ⊢
            exact absurd h (by decide)
theorem dsel_7 {α : Type} {mv ca dv sh st sg cm bt hf ts sp : α} (h : dselN op = 7) : dsel op mv ca dv sh st sg cm bt hf ts sp = bt := by
  unfold dselN at h
  unfold dsel at h ⊢
  by_cases q1 : (op >>> ((6 : Int32) &&& 31)) = 2
  · rw [if_pos q1] at h ⊢
    by_cases q2 : (op &&& (508 : Int32)) = 128
    · rw [if_pos q2] at h ⊢
      exact absurd h (by decide)
    · rw [if_neg q2] at h ⊢
      by_cases q3 : (op &&& (508 : Int32)) = 132
      · rw [if_pos q3] at h ⊢
        exact absurd h (by decide)
      · rw [if_neg q3] at h ⊢
        by_cases q4 : (op &&& (508 : Int32)) = 136
        · rw [if_pos q4] at h ⊢
          exact absurd h (by decide)
        · rw [if_neg q4] at h ⊢
          by_cases q5 : (op &&& (508 : Int32)) = 140
          · rw [if_pos q5] at h ⊢
            exact absurd h (by decide)
          · rw [if_neg q5] at h ⊢
            by_cases q6 : (op &&& (508 : Int32)) = 144
            · rw [if_pos q6] at h ⊢
              exact absurd h (by decide)
            · rw [if_neg q6] at h ⊢
              by_cases q7 : (op &&& (508 : Int32)) = 152
              · rw [if_pos q7] at h ⊢
                exact absurd h (by decide)
              · rw [if_neg q7] at h ⊢
                by_cases q8 : (op &&& (508 : Int32)) = 160
                · rw [if_pos q8] at h ⊢
                  exact absurd h (by decide)
                · rw [if_neg q8] at h ⊢
                  by_cases q9 : (op &&& (508 : Int32)) = 176
                  · rw [if_pos q9] at h ⊢
                    exact absurd h (by decide)
                  · rw [if_neg q9] at h ⊢
                    by_cases q10 : (op &&& (508 : Int32)) = 184
                    · rw [if_pos q10] at h ⊢
                      exact absurd h (by decide)
                    · rw [if_neg q10] at h ⊢
                      by_cases q11 : (op &&& (508 : Int32)) = 188
                      · rw [if_pos q11] at h ⊢
                        exact absurd h (by decide)
                      · rw [if_neg q11] at h ⊢
                        exact absurd h (by decide)
  · rw [if_neg q1] at h ⊢
    by_cases q12 : (op >>> ((6 : Int32) &&& 31)) = 3
    · rw [if_pos q12] at h ⊢
      exact absurd h (by decide)
    · rw [if_neg q12] at h ⊢
      by_cases q13 : (op >>> ((6 : Int32) &&& 31)) = 4
      · rw [if_pos q13] at h ⊢
      · rw [if_neg q13] at h ⊢
        by_cases q14 : (op >>> ((6 : Int32) &&& 31)) = 5
        · rw [if_pos q14] at h ⊢
          exact absurd h (by decide)
        · rw [if_neg q14] at h ⊢
          by_cases q15 : (op >>> ((6 : Int32) &&& 31)) = 6
          · rw [if_pos q15] at h ⊢
            exact absurd h (by decide)
          · rw [if_neg q15] at h ⊢
            exact absurd h (by decide)
theorem dsel_8 {α : Type} {mv ca dv sh st sg cm bt hf ts sp : α} (h : dselN op = 8) : dsel op mv ca dv sh st sg cm bt hf ts sp = hf := by
  unfold dselN at h
  unfold dsel at h ⊢
  by_cases q1 : (op >>> ((6 : Int32) &&& 31)) = 2
  · rw [if_pos q1] at h ⊢
    by_cases q2 : (op &&& (508 : Int32)) = 128
    · rw [if_pos q2] at h ⊢
      exact absurd h (by decide)
    · rw [if_neg q2] at h ⊢
      by_cases q3 : (op &&& (508 : Int32)) = 132
      · rw [if_pos q3] at h ⊢
        exact absurd h (by decide)
      · rw [if_neg q3] at h ⊢
        by_cases q4 : (op &&& (508 : Int32)) = 136
        · rw [if_pos q4] at h ⊢
          exact absurd h (by decide)
        · rw [if_neg q4] at h ⊢
          by_cases q5 : (op &&& (508 : Int32)) = 140
          · rw [if_pos q5] at h ⊢
            exact absurd h (by decide)
          · rw [if_neg q5] at h ⊢
            by_cases q6 : (op &&& (508 : Int32)) = 144
            · rw [if_pos q6] at h ⊢
              exact absurd h (by decide)
            · rw [if_neg q6] at h ⊢
              by_cases q7 : (op &&& (508 : Int32)) = 152
              · rw [if_pos q7] at h ⊢
                exact absurd h (by decide)
              · rw [if_neg q7] at h ⊢
                by_cases q8 : (op &&& (508 : Int32)) = 160
                · rw [if_pos q8] at h ⊢
                  exact absurd h (by decide)
                · rw [if_neg q8] at h ⊢
                  by_cases q9 : (op &&& (508 : Int32)) = 176
                  · rw [if_pos q9] at h ⊢
                    exact absurd h (by decide)
                  · rw [if_neg q9] at h ⊢
                    by_cases q10 : (op &&& (508 : Int32)) = 184
                    · rw [if_pos q10] at h ⊢
                      exact absurd h (by decide)
                    · rw [if_neg q10] at h ⊢
                      by_cases q11 : (op &&& (508 : Int32)) = 188
                      · rw [if_pos q11] at h ⊢
                        exact absurd h (by decide)
                      · rw [if_neg q11] at h ⊢
                        exact absurd h (by decide)
  · rw [if_neg q1] at h ⊢
    by_cases q12 : (op >>> ((6 : Int32) &&& 31)) = 3
    · rw [if_pos q12] at h ⊢
      exact absurd h (by decide)
    · rw [if_neg q12] at h ⊢
      by_cases q13 : (op >>> ((6 : Int32) &&& 31)) = 4
      · rw [if_pos q13] at h ⊢
        exact absurd h (by decide)
      · rw [if_neg q13] at h ⊢
        by_cases q14 : (op >>> ((6 : Int32) &&& 31)) = 5
        · rw [if_pos q14] at h ⊢
        · rw [if_neg q14] at h ⊢
          by_cases q15 : (op >>> ((6 : Int32) &&& 31)) = 6
          · rw [if_pos q15] at h ⊢
            exact absurd h (by decide)
          · rw [if_neg q15] at h ⊢
            exact absurd h (by decide)
theorem dsel_9 {α : Type} {mv ca dv sh st sg cm bt hf ts sp : α} (h : dselN op = 9) : dsel op mv ca dv sh st sg cm bt hf ts sp = ts := by
  unfold dselN at h
  unfold dsel at h ⊢
  by_cases q1 : (op >>> ((6 : Int32) &&& 31)) = 2
  · rw [if_pos q1] at h ⊢
    by_cases q2 : (op &&& (508 : Int32)) = 128
    · rw [if_pos q2] at h ⊢
      exact absurd h (by decide)
    · rw [if_neg q2] at h ⊢
      by_cases q3 : (op &&& (508 : Int32)) = 132
      · rw [if_pos q3] at h ⊢
        exact absurd h (by decide)
      · rw [if_neg q3] at h ⊢
        by_cases q4 : (op &&& (508 : Int32)) = 136
        · rw [if_pos q4] at h ⊢
          exact absurd h (by decide)
        · rw [if_neg q4] at h ⊢
          by_cases q5 : (op &&& (508 : Int32)) = 140
          · rw [if_pos q5] at h ⊢
            exact absurd h (by decide)
          · rw [if_neg q5] at h ⊢
            by_cases q6 : (op &&& (508 : Int32)) = 144
            · rw [if_pos q6] at h ⊢
              exact absurd h (by decide)
            · rw [if_neg q6] at h ⊢
              by_cases q7 : (op &&& (508 : Int32)) = 152
              · rw [if_pos q7] at h ⊢
                exact absurd h (by decide)
              · rw [if_neg q7] at h ⊢
                by_cases q8 : (op &&& (508 : Int32)) = 160
                · rw [if_pos q8] at h ⊢
                  exact absurd h (by decide)
                · rw [if_neg q8] at h ⊢
                  by_cases q9 : (op &&& (508 : Int32)) = 176
                  · rw [if_pos q9] at h ⊢
                    exact absurd h (by decide)
                  · rw [if_neg q9] at h ⊢
                    by_cases q10 : (op &&& (508 : Int32)) = 184
                    · rw [if_pos q10] at h ⊢
                      exact absurd h (by decide)
                    · rw [if_neg q10] at h ⊢
                      by_cases q11 : (op &&& (508 : Int32)) = 188
                      · rw [if_pos q11] at h ⊢
                        exact absurd h (by decide)
                      · rw [if_neg q11] at h ⊢
                        exact absurd h (by decide)
  · rw [if_neg q1] at h ⊢
    by_cases q12 : (op >>> ((6 : Int32) &&& 31)) = 3
    · rw [if_pos q12] at h ⊢
      exact absurd h (by decide)
    · rw [if_neg q12] at h ⊢
      by_cases q13 : (op >>> ((6 : Int32) &&& 31)) = 4
      · rw [if_pos q13] at h ⊢
        exact absurd h (by decide)
      · rw [if_neg q13] at h ⊢
        by_cases q14 : (op >>> ((6 : Int32) &&& 31)) = 5
        · rw [if_pos q14] at h ⊢
          exact absurd h (by decide)
        · rw [if_neg q14] at h ⊢
          by_cases q15 : (op >>> ((6 : Int32) &&& 31)) = 6
          · rw [if_pos q15] at h ⊢
          · rw [if_neg q15] at h ⊢
            exact absurd h (by decide)
theorem dsel_10 {α : Type} {mv ca dv sh st sg cm bt hf ts sp : α} (h : dselN op = 10) : dsel op mv ca dv sh st sg cm bt hf ts sp = sp := by
  unfold dselN at h
  unfold dsel at h ⊢
  by_cases q1 : (op >>> ((6 : Int32) &&& 31)) = 2
  · rw [if_pos q1] at h ⊢
    by_cases q2 : (op &&& (508 : Int32)) = 128
    · rw [if_pos q2] at h ⊢
      exact absurd h (by decide)
    · rw [if_neg q2] at h ⊢
      by_cases q3 : (op &&& (508 : Int32)) = 132
      · rw [if_pos q3] at h ⊢
        exact absurd h (by decide)
      · rw [if_neg q3] at h ⊢
        by_cases q4 : (op &&& (508 : Int32)) = 136
        · rw [if_pos q4] at h ⊢
          exact absurd h (by decide)
        · rw [if_neg q4] at h ⊢
          by_cases q5 : (op &&& (508 : Int32)) = 140
          · rw [if_pos q5] at h ⊢
            exact absurd h (by decide)
          · rw [if_neg q5] at h ⊢
            by_cases q6 : (op &&& (508 : Int32)) = 144
            · rw [if_pos q6] at h ⊢
              exact absurd h (by decide)
            · rw [if_neg q6] at h ⊢
              by_cases q7 : (op &&& (508 : Int32)) = 152
              · rw [if_pos q7] at h ⊢
                exact absurd h (by decide)
              · rw [if_neg q7] at h ⊢
                by_cases q8 : (op &&& (508 : Int32)) = 160
                · rw [if_pos q8] at h ⊢
                  exact absurd h (by decide)
                · rw [if_neg q8] at h ⊢
                  by_cases q9 : (op &&& (508 : Int32)) = 176
                  · rw [if_pos q9] at h ⊢
                    exact absurd h (by decide)
                  · rw [if_neg q9] at h ⊢
                    by_cases q10 : (op &&& (508 : Int32)) = 184
                    · rw [if_pos q10] at h ⊢
                      exact absurd h (by decide)
                    · rw [if_neg q10] at h ⊢
                      by_cases q11 : (op &&& (508 : Int32)) = 188
                      · rw [if_pos q11] at h ⊢
                        exact absurd h (by decide)
                      · rw [if_neg q11] at h ⊢
                        exact absurd h (by decide)
  · rw [if_neg q1] at h ⊢
    by_cases q12 : (op >>> ((6 : Int32) &&& 31)) = 3
    · rw [if_pos q12] at h ⊢
      exact absurd h (by decide)
    · rw [if_neg q12] at h ⊢
      by_cases q13 : (op >>> ((6 : Int32) &&& 31)) = 4
      · rw [if_pos q13] at h ⊢
        exact absurd h (by decide)
      · rw [if_neg q13] at h ⊢
        by_cases q14 : (op >>> ((6 : Int32) &&& 31)) = 5
        · rw [if_pos q14] at h ⊢
          exact absurd h (by decide)
        · rw [if_neg q14] at h ⊢
          by_cases q15 : (op >>> ((6 : Int32) &&& 31)) = 6
          · rw [if_pos q15] at h ⊢
            exact absurd h (by decide)
          · rw [if_neg q15] at h ⊢
def zsel (op : Int32) {α : Type} (mv re bt hf ts cm sh od cl sp : α) : α := if (fz_in op.toInt64 (128 : Int64) (143 : Int64)) = 0 then (if (fz_in op.toInt64 (144 : Int64) (147 : Int64)) = 0 then (if (fz_in op.toInt64 (152 : Int64) (155 : Int64)) = 0 then (if (fz_in op.toInt64 (184 : Int64) (191 : Int64)) = 0 then (if (fz_in op.toInt64 (256 : Int64) (319 : Int64)) = 0 then (if (fz_in op.toInt64 (320 : Int64) (383 : Int64)) = 0 then (if (fz_in op.toInt64 (384 : Int64) (447 : Int64)) = 0 then (if (fz_in op.toInt64 (192 : Int64) (255 : Int64)) = 0 then (if (fz_in op.toInt64 (160 : Int64) (163 : Int64)) = 0 then (if (fz_in op.toInt64 (168 : Int64) (173 : Int64)) = 0 then (if (fz_in op.toInt64 (176 : Int64) (181 : Int64)) = 0 then (sp) else cl) else od) else sh) else cm) else ts) else hf) else bt) else re) else re) else re) else mv
def zselN (op : Int32) : Nat := zsel op 0 1 2 3 4 5 6 7 8 9
theorem zsel_z (k : kSz) : fz_perform k op ac ea = zsel op (fz_move k ((op >>> ((2 : Int32) &&& 31)) &&& (3 : Int32)) (op &&& (3 : Int32)) ac ea) (fz_reckon k (op >>> ((2 : Int32) &&& 31)) (op &&& (3 : Int32)) ac ea) (fz_bits k ((op >>> ((2 : Int32) &&& 31)) &&& (15 : Int32)) (op &&& (3 : Int32)) ac ea) (fz_half k (op - (320 : Int32)) ac ea) (fz_test k (op - (384 : Int32)) ac ea) (fz_compare k ((op - (192 : Int32)) >>> ((3 : Int32) &&& 31)) (op &&& (7 : Int32)) ac ea) (fz_shift k (op - (160 : Int32)) ac ea) (fz_odd k op ac ea) (fz_calls k op ac ea) ((1 : Int32), k) := rfl
theorem zsel_0 {α : Type} {mv re bt hf ts cm sh od cl sp : α} (h : zselN op = 0) : zsel op mv re bt hf ts cm sh od cl sp = mv := by
  unfold zselN at h
  unfold zsel at h ⊢
  by_cases q1 : (fz_in op.toInt64 (128 : Int64) (143 : Int64)) = 0
  · rw [if_pos q1] at h ⊢
    by_cases q2 : (fz_in op.toInt64 (144 : Int64) (147 : Int64)) = 0
    · rw [if_pos q2] at h ⊢
      by_cases q3 : (fz_in op.toInt64 (152 : Int64) (155 : Int64)) = 0
      · rw [if_pos q3] at h ⊢
        by_cases q4 : (fz_in op.toInt64 (184 : Int64) (191 : Int64)) = 0
        · rw [if_pos q4] at h ⊢
          by_cases q5 : (fz_in op.toInt64 (256 : Int64) (319 : Int64)) = 0
          · rw [if_pos q5] at h ⊢
            by_cases q6 : (fz_in op.toInt64 (320 : Int64) (383 : Int64)) = 0
            · rw [if_pos q6] at h ⊢
              by_cases q7 : (fz_in op.toInt64 (384 : Int64) (447 : Int64)) = 0
              · rw [if_pos q7] at h ⊢
                by_cases q8 : (fz_in op.toInt64 (192 : Int64) (255 : Int64)) = 0
                · rw [if_pos q8] at h ⊢
                  by_cases q9 : (fz_in op.toInt64 (160 : Int64) (163 : Int64)) = 0
                  · rw [if_pos q9] at h ⊢
                    by_cases q10 : (fz_in op.toInt64 (168 : Int64) (173 : Int64)) = 0
                    · rw [if_pos q10] at h ⊢
                      by_cases q11 : (fz_in op.toInt64 (176 : Int64) (181 : Int64)) = 0
                      · rw [if_pos q11] at h ⊢
                        exact absurd h (by decide)
                      · rw [if_neg q11] at h ⊢
                        exact absurd h (by decide)
                    · rw [if_neg q10] at h ⊢
                      exact absurd h (by decide)
                  · rw [if_neg q9] at h ⊢
                    exact absurd h (by decide)
                · rw [if_neg q8] at h ⊢
                  exact absurd h (by decide)
              · rw [if_neg q7] at h ⊢
                exact absurd h (by decide)
            · rw [if_neg q6] at h ⊢
              exact absurd h (by decide)
          · rw [if_neg q5] at h ⊢
            exact absurd h (by decide)
        · rw [if_neg q4] at h ⊢
          exact absurd h (by decide)
      · rw [if_neg q3] at h ⊢
        exact absurd h (by decide)
    · rw [if_neg q2] at h ⊢
      exact absurd h (by decide)
  · rw [if_neg q1] at h ⊢
theorem zsel_1 {α : Type} {mv re bt hf ts cm sh od cl sp : α} (h : zselN op = 1) : zsel op mv re bt hf ts cm sh od cl sp = re := by
  unfold zselN at h
  unfold zsel at h ⊢
  by_cases q1 : (fz_in op.toInt64 (128 : Int64) (143 : Int64)) = 0
  · rw [if_pos q1] at h ⊢
    by_cases q2 : (fz_in op.toInt64 (144 : Int64) (147 : Int64)) = 0
    · rw [if_pos q2] at h ⊢
      by_cases q3 : (fz_in op.toInt64 (152 : Int64) (155 : Int64)) = 0
      · rw [if_pos q3] at h ⊢
        by_cases q4 : (fz_in op.toInt64 (184 : Int64) (191 : Int64)) = 0
        · rw [if_pos q4] at h ⊢
          by_cases q5 : (fz_in op.toInt64 (256 : Int64) (319 : Int64)) = 0
          · rw [if_pos q5] at h ⊢
            by_cases q6 : (fz_in op.toInt64 (320 : Int64) (383 : Int64)) = 0
            · rw [if_pos q6] at h ⊢
              by_cases q7 : (fz_in op.toInt64 (384 : Int64) (447 : Int64)) = 0
              · rw [if_pos q7] at h ⊢
                by_cases q8 : (fz_in op.toInt64 (192 : Int64) (255 : Int64)) = 0
                · rw [if_pos q8] at h ⊢
                  by_cases q9 : (fz_in op.toInt64 (160 : Int64) (163 : Int64)) = 0
                  · rw [if_pos q9] at h ⊢
                    by_cases q10 : (fz_in op.toInt64 (168 : Int64) (173 : Int64)) = 0
                    · rw [if_pos q10] at h ⊢
                      by_cases q11 : (fz_in op.toInt64 (176 : Int64) (181 : Int64)) = 0
                      · rw [if_pos q11] at h ⊢
                        exact absurd h (by decide)
                      · rw [if_neg q11] at h ⊢
                        exact absurd h (by decide)
                    · rw [if_neg q10] at h ⊢
                      exact absurd h (by decide)
                  · rw [if_neg q9] at h ⊢
                    exact absurd h (by decide)
                · rw [if_neg q8] at h ⊢
                  exact absurd h (by decide)
              · rw [if_neg q7] at h ⊢
                exact absurd h (by decide)
            · rw [if_neg q6] at h ⊢
              exact absurd h (by decide)
          · rw [if_neg q5] at h ⊢
            exact absurd h (by decide)
        · rw [if_neg q4] at h ⊢
      · rw [if_neg q3] at h ⊢
    · rw [if_neg q2] at h ⊢
  · rw [if_neg q1] at h ⊢
    exact absurd h (by decide)
theorem zsel_2 {α : Type} {mv re bt hf ts cm sh od cl sp : α} (h : zselN op = 2) : zsel op mv re bt hf ts cm sh od cl sp = bt := by
  unfold zselN at h
  unfold zsel at h ⊢
  by_cases q1 : (fz_in op.toInt64 (128 : Int64) (143 : Int64)) = 0
  · rw [if_pos q1] at h ⊢
    by_cases q2 : (fz_in op.toInt64 (144 : Int64) (147 : Int64)) = 0
    · rw [if_pos q2] at h ⊢
      by_cases q3 : (fz_in op.toInt64 (152 : Int64) (155 : Int64)) = 0
      · rw [if_pos q3] at h ⊢
        by_cases q4 : (fz_in op.toInt64 (184 : Int64) (191 : Int64)) = 0
        · rw [if_pos q4] at h ⊢
          by_cases q5 : (fz_in op.toInt64 (256 : Int64) (319 : Int64)) = 0
          · rw [if_pos q5] at h ⊢
            by_cases q6 : (fz_in op.toInt64 (320 : Int64) (383 : Int64)) = 0
            · rw [if_pos q6] at h ⊢
              by_cases q7 : (fz_in op.toInt64 (384 : Int64) (447 : Int64)) = 0
              · rw [if_pos q7] at h ⊢
                by_cases q8 : (fz_in op.toInt64 (192 : Int64) (255 : Int64)) = 0
                · rw [if_pos q8] at h ⊢
                  by_cases q9 : (fz_in op.toInt64 (160 : Int64) (163 : Int64)) = 0
                  · rw [if_pos q9] at h ⊢
                    by_cases q10 : (fz_in op.toInt64 (168 : Int64) (173 : Int64)) = 0
                    · rw [if_pos q10] at h ⊢
                      by_cases q11 : (fz_in op.toInt64 (176 : Int64) (181 : Int64)) = 0
                      · rw [if_pos q11] at h ⊢
                        exact absurd h (by decide)
                      · rw [if_neg q11] at h ⊢
                        exact absurd h (by decide)
                    · rw [if_neg q10] at h ⊢
                      exact absurd h (by decide)
                  · rw [if_neg q9] at h ⊢
                    exact absurd h (by decide)
                · rw [if_neg q8] at h ⊢
                  exact absurd h (by decide)
              · rw [if_neg q7] at h ⊢
                exact absurd h (by decide)
            · rw [if_neg q6] at h ⊢
              exact absurd h (by decide)
          · rw [if_neg q5] at h ⊢
        · rw [if_neg q4] at h ⊢
          exact absurd h (by decide)
      · rw [if_neg q3] at h ⊢
        exact absurd h (by decide)
    · rw [if_neg q2] at h ⊢
      exact absurd h (by decide)
  · rw [if_neg q1] at h ⊢
    exact absurd h (by decide)
theorem zsel_3 {α : Type} {mv re bt hf ts cm sh od cl sp : α} (h : zselN op = 3) : zsel op mv re bt hf ts cm sh od cl sp = hf := by
  unfold zselN at h
  unfold zsel at h ⊢
  by_cases q1 : (fz_in op.toInt64 (128 : Int64) (143 : Int64)) = 0
  · rw [if_pos q1] at h ⊢
    by_cases q2 : (fz_in op.toInt64 (144 : Int64) (147 : Int64)) = 0
    · rw [if_pos q2] at h ⊢
      by_cases q3 : (fz_in op.toInt64 (152 : Int64) (155 : Int64)) = 0
      · rw [if_pos q3] at h ⊢
        by_cases q4 : (fz_in op.toInt64 (184 : Int64) (191 : Int64)) = 0
        · rw [if_pos q4] at h ⊢
          by_cases q5 : (fz_in op.toInt64 (256 : Int64) (319 : Int64)) = 0
          · rw [if_pos q5] at h ⊢
            by_cases q6 : (fz_in op.toInt64 (320 : Int64) (383 : Int64)) = 0
            · rw [if_pos q6] at h ⊢
              by_cases q7 : (fz_in op.toInt64 (384 : Int64) (447 : Int64)) = 0
              · rw [if_pos q7] at h ⊢
                by_cases q8 : (fz_in op.toInt64 (192 : Int64) (255 : Int64)) = 0
                · rw [if_pos q8] at h ⊢
                  by_cases q9 : (fz_in op.toInt64 (160 : Int64) (163 : Int64)) = 0
                  · rw [if_pos q9] at h ⊢
                    by_cases q10 : (fz_in op.toInt64 (168 : Int64) (173 : Int64)) = 0
                    · rw [if_pos q10] at h ⊢
                      by_cases q11 : (fz_in op.toInt64 (176 : Int64) (181 : Int64)) = 0
                      · rw [if_pos q11] at h ⊢
                        exact absurd h (by decide)
                      · rw [if_neg q11] at h ⊢
                        exact absurd h (by decide)
                    · rw [if_neg q10] at h ⊢
                      exact absurd h (by decide)
                  · rw [if_neg q9] at h ⊢
                    exact absurd h (by decide)
                · rw [if_neg q8] at h ⊢
                  exact absurd h (by decide)
              · rw [if_neg q7] at h ⊢
                exact absurd h (by decide)
            · rw [if_neg q6] at h ⊢
          · rw [if_neg q5] at h ⊢
            exact absurd h (by decide)
        · rw [if_neg q4] at h ⊢
          exact absurd h (by decide)
      · rw [if_neg q3] at h ⊢
        exact absurd h (by decide)
    · rw [if_neg q2] at h ⊢
      exact absurd h (by decide)
  · rw [if_neg q1] at h ⊢
    exact absurd h (by decide)
theorem zsel_4 {α : Type} {mv re bt hf ts cm sh od cl sp : α} (h : zselN op = 4) : zsel op mv re bt hf ts cm sh od cl sp = ts := by
  unfold zselN at h
  unfold zsel at h ⊢
  by_cases q1 : (fz_in op.toInt64 (128 : Int64) (143 : Int64)) = 0
  · rw [if_pos q1] at h ⊢
    by_cases q2 : (fz_in op.toInt64 (144 : Int64) (147 : Int64)) = 0
    · rw [if_pos q2] at h ⊢
      by_cases q3 : (fz_in op.toInt64 (152 : Int64) (155 : Int64)) = 0
      · rw [if_pos q3] at h ⊢
        by_cases q4 : (fz_in op.toInt64 (184 : Int64) (191 : Int64)) = 0
        · rw [if_pos q4] at h ⊢
          by_cases q5 : (fz_in op.toInt64 (256 : Int64) (319 : Int64)) = 0
          · rw [if_pos q5] at h ⊢
            by_cases q6 : (fz_in op.toInt64 (320 : Int64) (383 : Int64)) = 0
            · rw [if_pos q6] at h ⊢
              by_cases q7 : (fz_in op.toInt64 (384 : Int64) (447 : Int64)) = 0
              · rw [if_pos q7] at h ⊢
                by_cases q8 : (fz_in op.toInt64 (192 : Int64) (255 : Int64)) = 0
                · rw [if_pos q8] at h ⊢
                  by_cases q9 : (fz_in op.toInt64 (160 : Int64) (163 : Int64)) = 0
                  · rw [if_pos q9] at h ⊢
                    by_cases q10 : (fz_in op.toInt64 (168 : Int64) (173 : Int64)) = 0
                    · rw [if_pos q10] at h ⊢
                      by_cases q11 : (fz_in op.toInt64 (176 : Int64) (181 : Int64)) = 0
                      · rw [if_pos q11] at h ⊢
                        exact absurd h (by decide)
                      · rw [if_neg q11] at h ⊢
                        exact absurd h (by decide)
                    · rw [if_neg q10] at h ⊢
                      exact absurd h (by decide)
                  · rw [if_neg q9] at h ⊢
                    exact absurd h (by decide)
                · rw [if_neg q8] at h ⊢
                  exact absurd h (by decide)
              · rw [if_neg q7] at h ⊢
            · rw [if_neg q6] at h ⊢
              exact absurd h (by decide)
          · rw [if_neg q5] at h ⊢
            exact absurd h (by decide)
        · rw [if_neg q4] at h ⊢
          exact absurd h (by decide)
      · rw [if_neg q3] at h ⊢
        exact absurd h (by decide)
    · rw [if_neg q2] at h ⊢
      exact absurd h (by decide)
  · rw [if_neg q1] at h ⊢
    exact absurd h (by decide)
theorem zsel_5 {α : Type} {mv re bt hf ts cm sh od cl sp : α} (h : zselN op = 5) : zsel op mv re bt hf ts cm sh od cl sp = cm := by
  unfold zselN at h
  unfold zsel at h ⊢
  by_cases q1 : (fz_in op.toInt64 (128 : Int64) (143 : Int64)) = 0
  · rw [if_pos q1] at h ⊢
    by_cases q2 : (fz_in op.toInt64 (144 : Int64) (147 : Int64)) = 0
    · rw [if_pos q2] at h ⊢
      by_cases q3 : (fz_in op.toInt64 (152 : Int64) (155 : Int64)) = 0
      · rw [if_pos q3] at h ⊢
        by_cases q4 : (fz_in op.toInt64 (184 : Int64) (191 : Int64)) = 0
        · rw [if_pos q4] at h ⊢
          by_cases q5 : (fz_in op.toInt64 (256 : Int64) (319 : Int64)) = 0
          · rw [if_pos q5] at h ⊢
            by_cases q6 : (fz_in op.toInt64 (320 : Int64) (383 : Int64)) = 0
            · rw [if_pos q6] at h ⊢
              by_cases q7 : (fz_in op.toInt64 (384 : Int64) (447 : Int64)) = 0
              · rw [if_pos q7] at h ⊢
                by_cases q8 : (fz_in op.toInt64 (192 : Int64) (255 : Int64)) = 0
                · rw [if_pos q8] at h ⊢
                  by_cases q9 : (fz_in op.toInt64 (160 : Int64) (163 : Int64)) = 0
                  · rw [if_pos q9] at h ⊢
                    by_cases q10 : (fz_in op.toInt64 (168 : Int64) (173 : Int64)) = 0
                    · rw [if_pos q10] at h ⊢
                      by_cases q11 : (fz_in op.toInt64 (176 : Int64) (181 : Int64)) = 0
                      · rw [if_pos q11] at h ⊢
                        exact absurd h (by decide)
                      · rw [if_neg q11] at h ⊢
                        exact absurd h (by decide)
                    · rw [if_neg q10] at h ⊢
                      exact absurd h (by decide)
                  · rw [if_neg q9] at h ⊢
                    exact absurd h (by decide)
                · rw [if_neg q8] at h ⊢
              · rw [if_neg q7] at h ⊢
                exact absurd h (by decide)
            · rw [if_neg q6] at h ⊢
              exact absurd h (by decide)
          · rw [if_neg q5] at h ⊢
            exact absurd h (by decide)
        · rw [if_neg q4] at h ⊢
          exact absurd h (by decide)
      · rw [if_neg q3] at h ⊢
        exact absurd h (by decide)
    · rw [if_neg q2] at h ⊢
      exact absurd h (by decide)
  · rw [if_neg q1] at h ⊢
    exact absurd h (by decide)
theorem zsel_6 {α : Type} {mv re bt hf ts cm sh od cl sp : α} (h : zselN op = 6) : zsel op mv re bt hf ts cm sh od cl sp = sh := by
  unfold zselN at h
  unfold zsel at h ⊢
  by_cases q1 : (fz_in op.toInt64 (128 : Int64) (143 : Int64)) = 0
  · rw [if_pos q1] at h ⊢
    by_cases q2 : (fz_in op.toInt64 (144 : Int64) (147 : Int64)) = 0
    · rw [if_pos q2] at h ⊢
      by_cases q3 : (fz_in op.toInt64 (152 : Int64) (155 : Int64)) = 0
      · rw [if_pos q3] at h ⊢
        by_cases q4 : (fz_in op.toInt64 (184 : Int64) (191 : Int64)) = 0
        · rw [if_pos q4] at h ⊢
          by_cases q5 : (fz_in op.toInt64 (256 : Int64) (319 : Int64)) = 0
          · rw [if_pos q5] at h ⊢
            by_cases q6 : (fz_in op.toInt64 (320 : Int64) (383 : Int64)) = 0
            · rw [if_pos q6] at h ⊢
              by_cases q7 : (fz_in op.toInt64 (384 : Int64) (447 : Int64)) = 0
              · rw [if_pos q7] at h ⊢
                by_cases q8 : (fz_in op.toInt64 (192 : Int64) (255 : Int64)) = 0
                · rw [if_pos q8] at h ⊢
                  by_cases q9 : (fz_in op.toInt64 (160 : Int64) (163 : Int64)) = 0
                  · rw [if_pos q9] at h ⊢
                    by_cases q10 : (fz_in op.toInt64 (168 : Int64) (173 : Int64)) = 0
                    · rw [if_pos q10] at h ⊢
                      by_cases q11 : (fz_in op.toInt64 (176 : Int64) (181 : Int64)) = 0
                      · rw [if_pos q11] at h ⊢
                        exact absurd h (by decide)
                      · rw [if_neg q11] at h ⊢
                        exact absurd h (by decide)
                    · rw [if_neg q10] at h ⊢
                      exact absurd h (by decide)
                  · rw [if_neg q9] at h ⊢
                · rw [if_neg q8] at h ⊢
                  exact absurd h (by decide)
              · rw [if_neg q7] at h ⊢
                exact absurd h (by decide)
            · rw [if_neg q6] at h ⊢
              exact absurd h (by decide)
          · rw [if_neg q5] at h ⊢
            exact absurd h (by decide)
        · rw [if_neg q4] at h ⊢
          exact absurd h (by decide)
      · rw [if_neg q3] at h ⊢
        exact absurd h (by decide)
    · rw [if_neg q2] at h ⊢
      exact absurd h (by decide)
  · rw [if_neg q1] at h ⊢
    exact absurd h (by decide)
theorem zsel_7 {α : Type} {mv re bt hf ts cm sh od cl sp : α} (h : zselN op = 7) : zsel op mv re bt hf ts cm sh od cl sp = od := by
  unfold zselN at h
  unfold zsel at h ⊢
  by_cases q1 : (fz_in op.toInt64 (128 : Int64) (143 : Int64)) = 0
  · rw [if_pos q1] at h ⊢
    by_cases q2 : (fz_in op.toInt64 (144 : Int64) (147 : Int64)) = 0
    · rw [if_pos q2] at h ⊢
      by_cases q3 : (fz_in op.toInt64 (152 : Int64) (155 : Int64)) = 0
      · rw [if_pos q3] at h ⊢
        by_cases q4 : (fz_in op.toInt64 (184 : Int64) (191 : Int64)) = 0
        · rw [if_pos q4] at h ⊢
          by_cases q5 : (fz_in op.toInt64 (256 : Int64) (319 : Int64)) = 0
          · rw [if_pos q5] at h ⊢
            by_cases q6 : (fz_in op.toInt64 (320 : Int64) (383 : Int64)) = 0
            · rw [if_pos q6] at h ⊢
              by_cases q7 : (fz_in op.toInt64 (384 : Int64) (447 : Int64)) = 0
              · rw [if_pos q7] at h ⊢
                by_cases q8 : (fz_in op.toInt64 (192 : Int64) (255 : Int64)) = 0
                · rw [if_pos q8] at h ⊢
                  by_cases q9 : (fz_in op.toInt64 (160 : Int64) (163 : Int64)) = 0
                  · rw [if_pos q9] at h ⊢
                    by_cases q10 : (fz_in op.toInt64 (168 : Int64) (173 : Int64)) = 0
                    · rw [if_pos q10] at h ⊢
                      by_cases q11 : (fz_in op.toInt64 (176 : Int64) (181 : Int64)) = 0
                      · rw [if_pos q11] at h ⊢
                        exact absurd h (by decide)
                      · rw [if_neg q11] at h ⊢
                        exact absurd h (by decide)
                    · rw [if_neg q10] at h ⊢
                  · rw [if_neg q9] at h ⊢
                    exact absurd h (by decide)
                · rw [if_neg q8] at h ⊢
                  exact absurd h (by decide)
              · rw [if_neg q7] at h ⊢
                exact absurd h (by decide)
            · rw [if_neg q6] at h ⊢
              exact absurd h (by decide)
          · rw [if_neg q5] at h ⊢
            exact absurd h (by decide)
        · rw [if_neg q4] at h ⊢
          exact absurd h (by decide)
      · rw [if_neg q3] at h ⊢
        exact absurd h (by decide)
    · rw [if_neg q2] at h ⊢
      exact absurd h (by decide)
  · rw [if_neg q1] at h ⊢
    exact absurd h (by decide)
theorem zsel_8 {α : Type} {mv re bt hf ts cm sh od cl sp : α} (h : zselN op = 8) : zsel op mv re bt hf ts cm sh od cl sp = cl := by
  unfold zselN at h
  unfold zsel at h ⊢
  by_cases q1 : (fz_in op.toInt64 (128 : Int64) (143 : Int64)) = 0
  · rw [if_pos q1] at h ⊢
    by_cases q2 : (fz_in op.toInt64 (144 : Int64) (147 : Int64)) = 0
    · rw [if_pos q2] at h ⊢
      by_cases q3 : (fz_in op.toInt64 (152 : Int64) (155 : Int64)) = 0
      · rw [if_pos q3] at h ⊢
        by_cases q4 : (fz_in op.toInt64 (184 : Int64) (191 : Int64)) = 0
        · rw [if_pos q4] at h ⊢
          by_cases q5 : (fz_in op.toInt64 (256 : Int64) (319 : Int64)) = 0
          · rw [if_pos q5] at h ⊢
            by_cases q6 : (fz_in op.toInt64 (320 : Int64) (383 : Int64)) = 0
            · rw [if_pos q6] at h ⊢
              by_cases q7 : (fz_in op.toInt64 (384 : Int64) (447 : Int64)) = 0
              · rw [if_pos q7] at h ⊢
                by_cases q8 : (fz_in op.toInt64 (192 : Int64) (255 : Int64)) = 0
                · rw [if_pos q8] at h ⊢
                  by_cases q9 : (fz_in op.toInt64 (160 : Int64) (163 : Int64)) = 0
                  · rw [if_pos q9] at h ⊢
                    by_cases q10 : (fz_in op.toInt64 (168 : Int64) (173 : Int64)) = 0
                    · rw [if_pos q10] at h ⊢
                      by_cases q11 : (fz_in op.toInt64 (176 : Int64) (181 : Int64)) = 0
                      · rw [if_pos q11] at h ⊢
                        exact absurd h (by decide)
                      · rw [if_neg q11] at h ⊢
                    · rw [if_neg q10] at h ⊢
                      exact absurd h (by decide)
                  · rw [if_neg q9] at h ⊢
                    exact absurd h (by decide)
                · rw [if_neg q8] at h ⊢
                  exact absurd h (by decide)
              · rw [if_neg q7] at h ⊢
                exact absurd h (by decide)
            · rw [if_neg q6] at h ⊢
              exact absurd h (by decide)
          · rw [if_neg q5] at h ⊢
            exact absurd h (by decide)
        · rw [if_neg q4] at h ⊢
          exact absurd h (by decide)
      · rw [if_neg q3] at h ⊢
        exact absurd h (by decide)
    · rw [if_neg q2] at h ⊢
      exact absurd h (by decide)
  · rw [if_neg q1] at h ⊢
    exact absurd h (by decide)
theorem zsel_9 {α : Type} {mv re bt hf ts cm sh od cl sp : α} (h : zselN op = 9) : zsel op mv re bt hf ts cm sh od cl sp = sp := by
  unfold zselN at h
  unfold zsel at h ⊢
  by_cases q1 : (fz_in op.toInt64 (128 : Int64) (143 : Int64)) = 0
  · rw [if_pos q1] at h ⊢
    by_cases q2 : (fz_in op.toInt64 (144 : Int64) (147 : Int64)) = 0
    · rw [if_pos q2] at h ⊢
      by_cases q3 : (fz_in op.toInt64 (152 : Int64) (155 : Int64)) = 0
      · rw [if_pos q3] at h ⊢
        by_cases q4 : (fz_in op.toInt64 (184 : Int64) (191 : Int64)) = 0
        · rw [if_pos q4] at h ⊢
          by_cases q5 : (fz_in op.toInt64 (256 : Int64) (319 : Int64)) = 0
          · rw [if_pos q5] at h ⊢
            by_cases q6 : (fz_in op.toInt64 (320 : Int64) (383 : Int64)) = 0
            · rw [if_pos q6] at h ⊢
              by_cases q7 : (fz_in op.toInt64 (384 : Int64) (447 : Int64)) = 0
              · rw [if_pos q7] at h ⊢
                by_cases q8 : (fz_in op.toInt64 (192 : Int64) (255 : Int64)) = 0
                · rw [if_pos q8] at h ⊢
                  by_cases q9 : (fz_in op.toInt64 (160 : Int64) (163 : Int64)) = 0
                  · rw [if_pos q9] at h ⊢
                    by_cases q10 : (fz_in op.toInt64 (168 : Int64) (173 : Int64)) = 0
                    · rw [if_pos q10] at h ⊢
                      by_cases q11 : (fz_in op.toInt64 (176 : Int64) (181 : Int64)) = 0
                      · rw [if_pos q11] at h ⊢
                      · rw [if_neg q11] at h ⊢
                        exact absurd h (by decide)
                    · rw [if_neg q10] at h ⊢
                      exact absurd h (by decide)
                  · rw [if_neg q9] at h ⊢
                    exact absurd h (by decide)
                · rw [if_neg q8] at h ⊢
                  exact absurd h (by decide)
              · rw [if_neg q7] at h ⊢
                exact absurd h (by decide)
            · rw [if_neg q6] at h ⊢
              exact absurd h (by decide)
          · rw [if_neg q5] at h ⊢
            exact absurd h (by decide)
        · rw [if_neg q4] at h ⊢
          exact absurd h (by decide)
      · rw [if_neg q3] at h ⊢
        exact absurd h (by decide)
    · rw [if_neg q2] at h ⊢
      exact absurd h (by decide)
  · rw [if_neg q1] at h ⊢
    exact absurd h (by decide)
theorem tb_mv : ∀ o : Nat, o < 512 → dselN (nI o) = 0 → (zselN (nI o) = 0 ∧ (((nI o) &&& (508 : Int32)) = 132 ↔ (((nI o) >>> ((2 : Int32) &&& 31)) &&& (3 : Int32)) = 1) ∧ (((nI o) &&& (508 : Int32)) = 136 ↔ (((nI o) >>> ((2 : Int32) &&& 31)) &&& (3 : Int32)) = 2) ∧ (((nI o) &&& (508 : Int32)) = 140 ↔ (((nI o) >>> ((2 : Int32) &&& 31)) &&& (3 : Int32)) = 3) ∧ ((((nI o) >>> ((2 : Int32) &&& 31)) &&& (3 : Int32)) = 0 ∨ (((nI o) >>> ((2 : Int32) &&& 31)) &&& (3 : Int32)) = 1 ∨ (((nI o) >>> ((2 : Int32) &&& 31)) &&& (3 : Int32)) = 2 ∨ (((nI o) >>> ((2 : Int32) &&& 31)) &&& (3 : Int32)) = 3)) := by decide +kernel
theorem tb_ca : ∀ o : Nat, o < 512 → dselN (nI o) = 1 → (zselN (nI o) = 1 ∧ ((((nI o) >>> ((2 : Int32) &&& 31)) = 36 ∧ ((nI o) &&& (508 : Int32)) = 144) ∨ (((nI o) >>> ((2 : Int32) &&& 31)) = 46 ∧ ((nI o) &&& (508 : Int32)) = 184) ∨ (((nI o) >>> ((2 : Int32) &&& 31)) = 47 ∧ ((nI o) &&& (508 : Int32)) = 188))) := by decide +kernel
theorem tb_dv : ∀ o : Nat, o < 512 → dselN (nI o) = 2 → (zselN (nI o) = 1 ∧ ((nI o) >>> ((2 : Int32) &&& 31)) = 38) := by decide +kernel
theorem tb_sh : ∀ o : Nat, o < 512 → dselN (nI o) = 3 → (zselN (nI o) = 6 ∧ ((nI o) = 160 ∨ (nI o) = 161 ∨ (nI o) = 162 ∨ (nI o) = 163)) := by decide +kernel
theorem tb_st : ∀ o : Nat, o < 512 → dselN (nI o) = 4 → (zselN (nI o) = 8 ∧ ((nI o) = 176 ∨ (nI o) = 177 ∨ (nI o) = 178 ∨ (nI o) = 179)) := by decide +kernel
theorem tb_sg0 : ∀ o : Nat, o < 512 → dselN (nI o) = 5 → (zselN (nI o) = 7 ∨ zselN (nI o) = 8 ∨ zselN (nI o) = 9) := by decide +kernel
theorem tb_sg7 : ∀ o : Nat, o < 512 → dselN (nI o) = 5 → (¬ zselN (nI o) = 7 ∨ (nI o) = 168 ∨ (nI o) = 169 ∨ (nI o) = 170 ∨ (nI o) = 171 ∨ (nI o) = 172 ∨ (nI o) = 173) := by decide +kernel
theorem tb_sg8 : ∀ o : Nat, o < 512 → dselN (nI o) = 5 → (¬ zselN (nI o) = 8 ∨ (nI o) = 180 ∨ (nI o) = 181) := by decide +kernel
theorem tb_sg9 : ∀ o : Nat, o < 512 → dselN (nI o) = 5 → (¬ zselN (nI o) = 9 ∨ (¬ (nI o) = 168 ∧ ¬ (nI o) = 169 ∧ ¬ (nI o) = 170 ∧ ¬ (nI o) = 171)) := by decide +kernel
theorem tb_sg9b : ∀ o : Nat, o < 512 → dselN (nI o) = 5 → (¬ zselN (nI o) = 9 ∨ (¬ (nI o) = 172 ∧ ¬ (nI o) = 173 ∧ ¬ (nI o) = 180 ∧ ¬ (nI o) = 181)) := by decide +kernel
theorem tb_cm : ∀ o : Nat, o < 512 → dselN (nI o) = 6 → (zselN (nI o) = 5 ∧ ((nI o) &&& (504 : Int32)) = 192 + 8 * (((nI o) - (192 : Int32)) >>> ((3 : Int32) &&& 31))) := by decide +kernel
theorem tb_cm2 : ∀ o : Nat, o < 512 → dselN (nI o) = 6 → ((((nI o) - (192 : Int32)) >>> ((3 : Int32) &&& 31)) = 0 ∨ (((nI o) - (192 : Int32)) >>> ((3 : Int32) &&& 31)) = 1 ∨ (((nI o) - (192 : Int32)) >>> ((3 : Int32) &&& 31)) = 2 ∨ (((nI o) - (192 : Int32)) >>> ((3 : Int32) &&& 31)) = 3 ∨ (((nI o) - (192 : Int32)) >>> ((3 : Int32) &&& 31)) = 4 ∨ (((nI o) - (192 : Int32)) >>> ((3 : Int32) &&& 31)) = 5 ∨ (((nI o) - (192 : Int32)) >>> ((3 : Int32) &&& 31)) = 6 ∨ (((nI o) - (192 : Int32)) >>> ((3 : Int32) &&& 31)) = 7) := by decide +kernel
theorem tb_bt : ∀ o : Nat, o < 512 → dselN (nI o) = 7 → (zselN (nI o) = 2) := by decide +kernel
theorem tb_hf : ∀ o : Nat, o < 512 → dselN (nI o) = 8 → (zselN (nI o) = 3 ∧ (((nI o) - (320 : Int32)) &&& (3 : Int32)) = ((nI o) &&& (3 : Int32)) ∧ ((((nI o) - (320 : Int32)) >>> ((3 : Int32) &&& 31)) &&& (3 : Int32)) = (((nI o) >>> ((3 : Int32) &&& 31)) &&& (3 : Int32)) ∧ (((nI o) - (320 : Int32)) &&& (32 : Int32)) = ((nI o) &&& (32 : Int32)) ∧ (((nI o) - (320 : Int32)) &&& (4 : Int32)) = ((nI o) &&& (4 : Int32))) := by decide +kernel
theorem tb_ts : ∀ o : Nat, o < 512 → dselN (nI o) = 9 → (zselN (nI o) = 4 ∧ (((nI o) - (384 : Int32)) &&& (8 : Int32)) = ((nI o) &&& (8 : Int32)) ∧ (((nI o) - (384 : Int32)) &&& (1 : Int32)) = ((nI o) &&& (1 : Int32)) ∧ (((nI o) - (384 : Int32)) >>> ((4 : Int32) &&& 31)) = (((nI o) >>> ((4 : Int32) &&& 31)) &&& (3 : Int32))) := by decide +kernel
theorem tb_ts2 : ∀ o : Nat, o < 512 → dselN (nI o) = 9 → (((((nI o) - (384 : Int32)) >>> ((1 : Int32) &&& 31)) &&& (3 : Int32)) = (if ((nI o) &&& (2 : Int32)) = 0 then 0 else 1) + (if ((nI o) &&& (4 : Int32)) = 0 then 0 else 2)) := by decide +kernel
theorem tb_sp : ∀ o : Nat, o < 512 → dselN (nI o) = 10 → (zselN (nI o) = 9) := by decide +kernel
theorem tb_all : ∀ o : Nat, o < 512 → dselN (nI o) < 11 := by decide +kernel
theorem single_c (hE : EA ea) (h : RP c 4096 kx kz) (ho : op = 168 ∨ op = 169 ∨ op = 170 ∨ op = 171 ∨ op = 172 ∨ op = 173) : SM c 300000 (fx_performSingle kx op ac ea) (fz_odd kz op ac ea) := by
  unfold fx_performSingle
  rcases ho with e | e | e | e | e | e
  · rw [if_pos e]
    have q := exch_c (op := op) (ac := ac) hE h (by decide)
    rw [e] at q ⊢
    exact q
  · rw [if_neg (show ¬ op = 168 by rw [e]; decide), if_pos e]
    have q := blt_c (op := op) (ac := ac) hE h (by decide)
    rw [e] at q ⊢
    exact q
  · rw [if_neg (show ¬ op = 168 by rw [e]; decide), if_neg (show ¬ op = 169 by rw [e]; decide), if_pos e]
    have q := aobjp_c (op := op) (ac := ac) hE h (by decide)
    rw [e] at q ⊢
    exact q
  · rw [if_neg (show ¬ op = 168 by rw [e]; decide), if_neg (show ¬ op = 169 by rw [e]; decide), if_neg (show ¬ op = 170 by rw [e]; decide), if_pos e]
    have q := aobjn_c (op := op) (ac := ac) hE h (by decide)
    rw [e] at q ⊢
    exact q
  · rw [if_neg (show ¬ op = 168 by rw [e]; decide), if_neg (show ¬ op = 169 by rw [e]; decide), if_neg (show ¬ op = 170 by rw [e]; decide), if_neg (show ¬ op = 171 by rw [e]; decide), if_pos e]
    have q := jrst_c (op := op) (ac := ac) hE h (by decide)
    rw [e] at q ⊢
    exact q
  · rw [if_neg (show ¬ op = 168 by rw [e]; decide), if_neg (show ¬ op = 169 by rw [e]; decide), if_neg (show ¬ op = 170 by rw [e]; decide), if_neg (show ¬ op = 171 by rw [e]; decide), if_neg (show ¬ op = 172 by rw [e]; decide), if_pos e]
    have q := jfcl_c (op := op) (ac := ac) hE h (by decide)
    rw [e] at q ⊢
    exact q
theorem single2_c (hE : EA ea) (h : RP c 4096 kx kz) (ho : op = 180 ∨ op = 181) : SM c 300000 (fx_performSingle kx op ac ea) (fz_calls kz op ac ea) := by
  unfold fx_performSingle
  rcases ho with e | e
  · rw [if_neg (show ¬ op = 168 by rw [e]; decide), if_neg (show ¬ op = 169 by rw [e]; decide), if_neg (show ¬ op = 170 by rw [e]; decide), if_neg (show ¬ op = 171 by rw [e]; decide), if_neg (show ¬ op = 172 by rw [e]; decide), if_neg (show ¬ op = 173 by rw [e]; decide), if_pos e]
    have q := jsr_c (op := op) (ac := ac) hE h (by decide)
    rw [e] at q ⊢
    exact q
  · rw [if_neg (show ¬ op = 168 by rw [e]; decide), if_neg (show ¬ op = 169 by rw [e]; decide), if_neg (show ¬ op = 170 by rw [e]; decide), if_neg (show ¬ op = 171 by rw [e]; decide), if_neg (show ¬ op = 172 by rw [e]; decide), if_neg (show ¬ op = 173 by rw [e]; decide), if_neg (show ¬ op = 180 by rw [e]; decide), if_pos e]
    have q := jsp_c (op := op) (ac := ac) hE h (by decide)
    rw [e] at q ⊢
    exact q
theorem perf_c (hA : AC ac) (hE : EA ea) (h : RP c 4096 kx kz) {o : Nat} (ho : o < 512) (eo : op = nI o) : SM c 300000 (fx_perform kx op ac ea) (fz_perform kz op ac ea) := by
  rw [dsel_x, zsel_z]
  have hd := tb_all o ho
  rcases (show dselN (nI o) = 0 ∨ dselN (nI o) = 1 ∨ dselN (nI o) = 2 ∨ dselN (nI o) = 3 ∨ dselN (nI o) = 4 ∨ dselN (nI o) = 5 ∨ dselN (nI o) = 6 ∨ dselN (nI o) = 7 ∨ dselN (nI o) = 8 ∨ dselN (nI o) = 9 ∨ dselN (nI o) = 10 by omega) with d | d | d | d | d | d | d | d | d | d | d
  · obtain ⟨z, f1, f2, f3, f0⟩ := tb_mv o ho d
    rw [← eo] at d z f1 f2 f3 f0
    rw [dsel_0 d, zsel_0 z]; exact (move_c hA hE h f1 f2 f3 f0).mono (by decide)
  · obtain ⟨z, f⟩ := tb_ca o ho d
    rw [← eo] at d z f
    rw [dsel_1 d, zsel_1 z]
    rcases f with ⟨f, g⟩ | ⟨f, g⟩ | ⟨f, g⟩
    · rw [f]; exact (mul_c hE h g).mono (by decide)
    · rw [f]; exact (add_c hE h g).mono (by decide)
    · rw [f]; exact (sub_c hE h g).mono (by decide)
  · obtain ⟨z, f⟩ := tb_dv o ho d
    rw [← eo] at d z f
    rw [dsel_2 d, zsel_1 z, f]; exact (divide_c hE h).mono (by decide)
  · obtain ⟨z, f⟩ := tb_sh o ho d
    rw [← eo] at d z f
    rw [dsel_3 d, zsel_6 z]; exact shift_c hA hE h f
  · obtain ⟨z, f⟩ := tb_st o ho d
    rw [← eo] at d z f
    rw [dsel_4 d, zsel_8 z]
    rcases f with e | e | e | e
    · have q := pushj_c (op := op) (ac := ac) hE h (by decide) e
      rw [e] at q ⊢; exact q
    · have q := push_c (op := op) (ac := ac) hE h (by decide) e
      rw [e] at q ⊢; exact q
    · have q := pop_c (op := op) (ac := ac) hE h (by decide) e
      rw [e] at q ⊢; exact q
    · have q := popj_c (op := op) (ac := ac) (ea := ea) h (by decide) e
      rw [e] at q ⊢; exact q
  · have f := tb_sg0 o ho d
    have f7 := tb_sg7 o ho d
    have f8 := tb_sg8 o ho d
    have f9 := tb_sg9 o ho d
    have f9b := tb_sg9b o ho d
    rw [← eo] at d f f7 f8 f9 f9b
    rw [dsel_5 d]
    rcases f with z | z | z
    · rw [zsel_7 z]; exact single_c hE h (f7.resolve_left (fun q => q z))
    · rw [zsel_8 z]; exact single2_c hE h (f8.resolve_left (fun q => q z))
    · rw [zsel_9 z]
      obtain ⟨n1, n2, n3, n4⟩ := f9.resolve_left (fun q => q z)
      obtain ⟨n5, n6, n7, n8⟩ := f9b.resolve_left (fun q => q z)
      unfold fx_performSingle
      rw [if_neg n1, if_neg n2, if_neg n3, if_neg n4, if_neg n5, if_neg n6, if_neg n7, if_neg n8]
      exact ⟨rfl, h.mono (by decide)⟩
  · obtain ⟨z, g⟩ := tb_cm o ho d
    have f := tb_cm2 o ho d
    rw [← eo] at d z f g
    rw [dsel_6 d, zsel_5 z]
    rcases f with f | f | f | f | f | f | f | f
    · rw [f]; exact cmp_0 hA hE h (by rw [g, f]; decide)
    · rw [f]; exact cmp_1 hA hE h (by rw [g, f]; decide)
    · rw [f]; exact cmp_2 hA hE h (by rw [g, f]; decide)
    · rw [f]; exact cmp_3 hA hE h (by rw [g, f]; decide)
    · rw [f]; exact cmp_4 hA hE h (by rw [g, f]; decide)
    · rw [f]; exact cmp_5 hA hE h (by rw [g, f]; decide)
    · rw [f]; exact cmp_6 hA hE h (by rw [g, f]; decide)
    · rw [f]; exact cmp_7 hA hE h (by rw [g, f]; decide)
  · have z := tb_bt o ho d
    rw [← eo] at d z
    rw [dsel_7 d, zsel_2 z]; exact (bits_c hE h).mono (by decide)
  · obtain ⟨z, f1, f2, f3, f4⟩ := tb_hf o ho d
    rw [← eo] at d z f1 f2 f3 f4
    rw [dsel_8 d, zsel_3 z]; exact (half_c hA hE h f1 f2 f3 f4).mono (by decide)
  · obtain ⟨z, f1, f2, f3⟩ := tb_ts o ho d
    have f4 := tb_ts2 o ho d
    rw [← eo] at d z f1 f2 f3 f4
    rw [dsel_9 d, zsel_4 z]
    refine test_c hE h f1 f2 f3 ?_
    by_cases c2 : (op &&& (2 : Int32)) = 0
    · by_cases c4 : (op &&& (4 : Int32)) = 0
      · rw [if_pos c2, if_pos c4] at f4; exact Or.inl ⟨c2, c4, f4⟩
      · rw [if_pos c2, if_neg c4] at f4; exact Or.inr (Or.inr (Or.inl ⟨c2, c4, f4⟩))
    · by_cases c4 : (op &&& (4 : Int32)) = 0
      · rw [if_neg c2, if_pos c4] at f4; exact Or.inr (Or.inl ⟨c2, c4, f4⟩)
      · rw [if_neg c2, if_neg c4] at f4; exact Or.inr (Or.inr (Or.inr ⟨c2, c4, f4⟩))
  · have z := tb_sp o ho d
    rw [← eo] at d z
    rw [dsel_10 d, zsel_9 z]; exact ⟨rfl, h.mono (by decide)⟩
end PERF
