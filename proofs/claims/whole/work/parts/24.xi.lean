section TTV
variable {p : Program} {l : Launch} {env : Env} {s : State} {m : MethodId} {args : Array Value} {below : List Frame} {meth : Method} {c : Code} {Q : State → Prop} {D : va_G} {cA : ClassId} {h0 q : Nat}
/-! TenMachine.moveHalf ()I -/
def fx_moveHalf_63 (k : kSx) (op ac ea : Int32) (v1 : Int64) (t0 : Int64) : Int32 × kSx :=
  (fx_storeSelf k op ac ea (fx_withHalfMoved k op ac ea v1 t0))
set_option maxRecDepth 100000 in
set_option maxHeartbeats 4000000 in
theorem wx_moveHalf_63 {k : kSx} {op : Int32} {ac : Int32} {ea : Int32} {v1 : Int64} {t0 : Int64} {H : Heap} {locs : List Loc} {ls : Array Slot} (E : xE p s m args c cx_moveHalf 5 D cA h0 q) (hC : xC D cA h0 q s.heap k op ac ea H locs) (hl : lv_has ls 5 [(0, .ref h0), (1, .long v1)]) (hac : vp_in ac 4096) (he : ¬ (op &&& (3 : Int32)) = 1 → vp_in ea 4096) (hret : xwi p l env (rmD 2) s m args below meth c cx_moveHalf D cA h0 q .int op ac ea Q (fx_moveHalf_63 k op ac ea v1 t0)) : W p l env (rmD 2) s m args below meth c H locs 0 0 Q (F0 m 63 ls [.long t0]) := by
  have hx := E.1.1; have hb := E.1.2.1
  unfold fx_moveHalf_63 at hret
  refine lv_lstore_n (lv' := [(3, .long t0), (0, .ref h0), (1, .long v1)]) hx hb dx_moveHalf_63 rfl hl (by decide) rfl (fun ls hl => ?_)
  refine lv_aload_n hx hb dx_moveHalf_64 rfl (lv_at hl 1 rfl) ?_
  refine lv_aload_n hx hb dx_moveHalf_65 rfl (lv_at hl 1 rfl) ?_
  refine lv_lload_n hx hb dx_moveHalf_66 rfl (lv_at hl 2 rfl) ?_
  refine lv_lload_n hx hb dx_moveHalf_67 rfl (lv_at hl 0 rfl) ?_
  refine kx_withHalfMoved E hl.1 hC (hac) (by decide) (Nat.le_of_ble_eq_true rfl) dx_moveHalf_68 (fun H locs hC => ?_)
  refine kx_storeSelf E hl.1 hC (hac) (he) (by decide) (Nat.le_of_ble_eq_true rfl) dx_moveHalf_71 (fun H locs hC => ?_)
  exact hret _ _ _ _ dx_moveHalf_74 hC  (nw_i _)
def fx_moveHalf_33 (k : kSx) (op ac ea : Int32) (t0 : Int64) : Int32 × kSx :=
  if (2 : Int32) ≤ (fx_mode k op ac ea) then
    fx_moveHalf_63 k op ac ea t0 (ldx k ea)
  else
    fx_moveHalf_63 k op ac ea t0 (ldx k ac)
set_option maxRecDepth 100000 in
set_option maxHeartbeats 4000000 in
theorem wx_moveHalf_33 {k : kSx} {op : Int32} {ac : Int32} {ea : Int32} {t0 : Int64} {H : Heap} {locs : List Loc} {ls : Array Slot} (E : xE p s m args c cx_moveHalf 5 D cA h0 q) (hC : xC D cA h0 q s.heap k op ac ea H locs) (hl : lv_has ls 5 [(0, .ref h0)]) (hac : vp_in ac 4096) (he : ¬ (op &&& (3 : Int32)) = 1 → vp_in ea 4096) (hret : xwi p l env (rmD 2) s m args below meth c cx_moveHalf D cA h0 q .int op ac ea Q (fx_moveHalf_33 k op ac ea t0)) : W p l env (rmD 2) s m args below meth c H locs 0 0 Q (F0 m 33 ls [.long t0]) := by
  have hx := E.1.1; have hb := E.1.2.1
  unfold fx_moveHalf_33 at hret
  refine lv_lstore_n (lv' := [(1, .long t0), (0, .ref h0)]) hx hb dx_moveHalf_33 rfl hl (by decide) rfl (fun ls hl => ?_)
  refine lv_aload_n hx hb dx_moveHalf_34 rfl (lv_at hl 1 rfl) ?_
  refine kx_mode E hl.1 hC (hac) (by decide) (Nat.le_of_ble_eq_true rfl) dx_moveHalf_35 (fun H locs hC => ?_)
  refine lv_iconst (v := (2 : Int32)) hx hb dx_moveHalf_38 (by decide) ?_
  refine lv_icmp_ge (tgt := 54) hx hb dx_moveHalf_39 (by decide) (fun h1 => ?_) (fun h1 => ?_)
  · rw [if_pos h1] at hret
    refine lv_aload_n hx hb dx_moveHalf_54 rfl (lv_at hl 1 rfl) ?_
    refine xg_word E hC dx_moveHalf_55 ?_
    refine lv_aload_n hx hb dx_moveHalf_58 rfl (lv_at hl 1 rfl) ?_
    refine xg_e E hC dx_moveHalf_59 ?_
    refine xld E hC (he (ne1_le2 h1)) dx_moveHalf_62 ?_
    exact wx_moveHalf_63 E hC (lv_sub hl [1, 0] rfl) (hac) (he) hret
  · rw [if_neg h1] at hret
    refine lv_aload_n hx hb dx_moveHalf_42 rfl (lv_at hl 1 rfl) ?_
    refine xg_word E hC dx_moveHalf_43 ?_
    refine lv_aload_n hx hb dx_moveHalf_46 rfl (lv_at hl 1 rfl) ?_
    refine xg_ac E hC dx_moveHalf_47 ?_
    refine xld E hC (hac) dx_moveHalf_50 ?_
    refine lv_goto (tgt := 63) hx hb dx_moveHalf_51 (by decide) ?_
    exact wx_moveHalf_63 E hC (lv_sub hl [1, 0] rfl) (hac) (he) hret
def fx_moveHalf (k : kSx) (op ac ea : Int32)  : Int32 × kSx :=
  if (fx_lacksOperand k op ac ea) = 0 then
    if (fx_mode k op ac ea) = (2 : Int32) then
      fx_moveHalf_33 k op ac ea (ldx k ac)
    else
      fx_moveHalf_33 k op ac ea (fx_operand k op ac ea)
  else
    ((2 : Int32), k)
set_option maxRecDepth 100000 in
set_option maxHeartbeats 4000000 in
theorem wx_moveHalf_0 {k : kSx} {op : Int32} {ac : Int32} {ea : Int32} {H : Heap} {locs : List Loc} {ls : Array Slot} (E : xE p s m args c cx_moveHalf 5 D cA h0 q) (hC : xC D cA h0 q s.heap k op ac ea H locs) (hl : lv_has ls 5 [(0, .ref h0)]) (hac : vp_in ac 4096) (hret : xwi p l env (rmD 2) s m args below meth c cx_moveHalf D cA h0 q .int op ac ea Q (fx_moveHalf k op ac ea)) : W p l env (rmD 2) s m args below meth c H locs 0 0 Q (F0 m 0 ls []) := by
  have hx := E.1.1; have hb := E.1.2.1
  unfold fx_moveHalf at hret
  refine lv_aload_n hx hb dx_moveHalf_0 rfl (lv_at hl 0 rfl) ?_
  refine kx_lacksOperand E hl.1 hC (hac) (by decide) (Nat.le_of_ble_eq_true rfl) dx_moveHalf_1 (fun H locs hC => ?_)
  refine lv_if_eq (tgt := 9) hx hb dx_moveHalf_4 (by decide) (fun h1 => ?_) (fun h1 => ?_)
  · rw [if_pos h1] at hret
    refine lv_aload_n hx hb dx_moveHalf_9 rfl (lv_at hl 0 rfl) ?_
    refine kx_mode E hl.1 hC (hac) (by decide) (Nat.le_of_ble_eq_true rfl) dx_moveHalf_10 (fun H locs hC => ?_)
    refine lv_iconst (v := (2 : Int32)) hx hb dx_moveHalf_13 (by decide) ?_
    refine lv_icmp_ne (tgt := 29) hx hb dx_moveHalf_14 (by decide) (fun h2 => ?_) (fun h2 => ?_)
    · rw [if_neg h2] at hret
      refine lv_aload_n hx hb dx_moveHalf_29 rfl (lv_at hl 0 rfl) ?_
      refine kx_operand E hl.1 hC (hac) (lacks_he h1) (by decide) (Nat.le_of_ble_eq_true rfl) dx_moveHalf_30 (fun H locs hC => ?_)
      exact wx_moveHalf_33 E hC (lv_sub hl [0] rfl) (hac) (lacks_he h1) hret
    · rw [if_pos h2] at hret
      refine lv_aload_n hx hb dx_moveHalf_17 rfl (lv_at hl 0 rfl) ?_
      refine xg_word E hC dx_moveHalf_18 ?_
      refine lv_aload_n hx hb dx_moveHalf_21 rfl (lv_at hl 0 rfl) ?_
      refine xg_ac E hC dx_moveHalf_22 ?_
      refine xld E hC (hac) dx_moveHalf_25 ?_
      refine lv_goto (tgt := 33) hx hb dx_moveHalf_26 (by decide) ?_
      exact wx_moveHalf_33 E hC (lv_sub hl [0] rfl) (hac) (lacks_he h1) hret
  · rw [if_neg h1] at hret
    refine lv_iconst (v := (2 : Int32)) hx hb dx_moveHalf_7 (by decide) ?_
    exact (xwi_out hret) _ _ _ _ dx_moveHalf_8 hC  (nw_i _)
set_option maxRecDepth 100000 in
set_option maxHeartbeats 4000000 in
theorem mx_moveHalf (l : Launch) (k : kSx) (op ac ea : Int32) (hac : vp_in ac 4096) : xMet l yx_moveHalf cx_moveHalf 5 (some .int) 2 [] k op ac ea (some (.int (fx_moveHalf k op ac ea).1)) (fx_moveHalf k op ac ea).2 op ac ea :=
  xMet.ofi (by decide) rfl (fun _ => Nat.le_of_ble_eq_true rfl) (fun D cA h0 q p env s m args below meth c ls Q E hC hl hret => wx_moveHalf_0 E hC (lv_sub hl [0] rfl) hac hret)
theorem gkx_moveHalf : xYw R_x 71 yx_moveHalf cx_moveHalf 5 (some .int) 0 := ⟨wc_x_moveHalf, wl_x_71, wi_x_moveHalf, ws_x_moveHalf, wn_x, ⟨by decide, by decide, by decide +kernel⟩, by decide⟩
theorem kx_moveHalf {p : Program} {l : Launch} {env : Env} {s : State} {m : MethodId} {args : Array Value} {below : List Frame} {meth : Method} {c : Code} {H : Heap} {locs : List Loc} {Q : State → Prop} {cc : ByteArray} {pc nL d : Nat} {ls : Array Slot} {rest : List Value} {D : va_G} {cA : ClassId} {h0 q : Nat} {k : kSx} {op ac ea : Int32} (E : xE p s m args c cc nL D cA h0 q) (hls : ls.size = nL) (hC : xC D cA h0 q s.heap k op ac ea H locs) (hac : vp_in ac 4096) (hd : 2 + 1 ≤ d) (hr : (rest.map fun v => v.category).sum ≤ 8) (hdg : decode cc pc = .ok (.invokevirtual 71, 3)) (kk : ∀ (H1 : Heap) (locs1 : List Loc), xC D cA h0 q s.heap (fx_moveHalf k op ac ea).2 op ac ea H1 locs1 → W p l env (rmD d) s m args below meth c H1 locs1 0 0 Q (F0 m (pc + 3) ls (.int (fx_moveHalf k op ac ea).1 :: rest))) : W p l env (rmD d) s m args below meth c H locs 0 0 Q (F0 m pc ls (.ref h0 :: rest)) :=
  xcall (av := []) E (mx_moveHalf l k op ac ea  hac) gkx_moveHalf rfl hls hC hd hr hdg kk
/-! TenMachine.performSingle ()I -/
def fx_performSingle (k : kSx) (op ac ea : Int32)  : Int32 × kSx :=
  if op = 168 then
    (fx_exchange k op ac ea)
  else
    if op = 169 then
      (fx_transferBlock k op ac ea)
    else
      if op = 170 then
        (fx_countBothHalves k op ac ea (0 : Int32))
      else
        if op = 171 then
          (fx_countBothHalves k op ac ea (1 : Int32))
        else
          if op = 172 then
            (fx_jumpIf k op ac ea (1 : Int32))
          else
            if op = 173 then
              (fx_jumpOnOverflow k op ac ea)
            else
              if op = 180 then
                (fx_callStoringAtE k op ac ea)
              else
                if op = 181 then
                  (fx_jumpIf (stx k ac ((ux_pc k).toInt64)) op ac ea (1 : Int32))
                else
                  ((1 : Int32), k)
set_option maxRecDepth 100000 in
set_option maxHeartbeats 4000000 in
theorem wx_performSingle_0 {k : kSx} {op : Int32} {ac : Int32} {ea : Int32} {H : Heap} {locs : List Loc} {ls : Array Slot} (E : xE p s m args c cx_performSingle 1 D cA h0 q) (hC : xC D cA h0 q s.heap k op ac ea H locs) (hl : lv_has ls 1 [(0, .ref h0)]) (hac : vp_in ac 4096) (hret : xwi p l env (rmD 3) s m args below meth c cx_performSingle D cA h0 q .int op ac ea Q (fx_performSingle k op ac ea)) : W p l env (rmD 3) s m args below meth c H locs 0 0 Q (F0 m 0 ls []) := by
  have hx := E.1.1; have hb := E.1.2.1
  unfold fx_performSingle at hret
  refine lv_aload_n hx hb dx_performSingle_0 rfl (lv_at hl 0 rfl) ?_
  refine xg_op E hC dx_performSingle_1 ?_
  by_cases h1 : op = 168
  · rw [if_pos h1] at hret
    refine lv_tableIn (off := 72) (tgt := 76) hx hb dx_performSingle_4 (by rw [h1]; decide) (by rw [h1]; decide) (by rw [h1]; rfl) (by decide) ?_
    refine lv_aload_n hx hb dx_performSingle_76 rfl (lv_at hl 0 rfl) ?_
    refine kx_exchange E hl.1 hC (hac) (by decide) (Nat.le_of_ble_eq_true rfl) dx_performSingle_77 (fun H locs hC => ?_)
    exact hret _ _ _ _ dx_performSingle_80 hC  (nw_i _)
  · rw [if_neg h1] at hret
    by_cases h2 : op = 169
    · rw [if_pos h2] at hret
      refine lv_tableIn (off := 77) (tgt := 81) hx hb dx_performSingle_4 (by rw [h2]; decide) (by rw [h2]; decide) (by rw [h2]; rfl) (by decide) ?_
      refine lv_aload_n hx hb dx_performSingle_81 rfl (lv_at hl 0 rfl) ?_
      refine kx_transferBlock E hl.1 hC (hac) (by decide) (Nat.le_of_ble_eq_true rfl) dx_performSingle_82 (fun H locs hC => ?_)
      exact hret _ _ _ _ dx_performSingle_85 hC  (nw_i _)
    · rw [if_neg h2] at hret
      by_cases h3 : op = 170
      · rw [if_pos h3] at hret
        refine lv_tableIn (off := 82) (tgt := 86) hx hb dx_performSingle_4 (by rw [h3]; decide) (by rw [h3]; decide) (by rw [h3]; rfl) (by decide) ?_
        refine lv_aload_n hx hb dx_performSingle_86 rfl (lv_at hl 0 rfl) ?_
        refine lv_iconst (v := (0 : Int32)) hx hb dx_performSingle_87 (by decide) ?_
        refine kx_countBothHalves E hl.1 hC (hac) (by decide) (Nat.le_of_ble_eq_true rfl) dx_performSingle_88 (fun H locs hC => ?_)
        exact hret _ _ _ _ dx_performSingle_91 hC  (nw_i _)
      · rw [if_neg h3] at hret
        by_cases h4 : op = 171
        · rw [if_pos h4] at hret
          refine lv_tableIn (off := 88) (tgt := 92) hx hb dx_performSingle_4 (by rw [h4]; decide) (by rw [h4]; decide) (by rw [h4]; rfl) (by decide) ?_
          refine lv_aload_n hx hb dx_performSingle_92 rfl (lv_at hl 0 rfl) ?_
          refine lv_iconst (v := (1 : Int32)) hx hb dx_performSingle_93 (by decide) ?_
          refine kx_countBothHalves E hl.1 hC (hac) (by decide) (Nat.le_of_ble_eq_true rfl) dx_performSingle_94 (fun H locs hC => ?_)
          exact hret _ _ _ _ dx_performSingle_97 hC  (nw_i _)
        · rw [if_neg h4] at hret
          by_cases h5 : op = 172
          · rw [if_pos h5] at hret
            refine lv_tableIn (off := 94) (tgt := 98) hx hb dx_performSingle_4 (by rw [h5]; decide) (by rw [h5]; decide) (by rw [h5]; rfl) (by decide) ?_
            refine lv_aload_n hx hb dx_performSingle_98 rfl (lv_at hl 0 rfl) ?_
            refine lv_iconst (v := (1 : Int32)) hx hb dx_performSingle_99 (by decide) ?_
            refine kx_jumpIf E hl.1 hC (hac) (by decide) (Nat.le_of_ble_eq_true rfl) dx_performSingle_100 (fun H locs hC => ?_)
            exact hret _ _ _ _ dx_performSingle_103 hC  (nw_i _)
          · rw [if_neg h5] at hret
            by_cases h6 : op = 173
            · rw [if_pos h6] at hret
              refine lv_tableIn (off := 100) (tgt := 104) hx hb dx_performSingle_4 (by rw [h6]; decide) (by rw [h6]; decide) (by rw [h6]; rfl) (by decide) ?_
              refine lv_aload_n hx hb dx_performSingle_104 rfl (lv_at hl 0 rfl) ?_
              refine kx_jumpOnOverflow E hl.1 hC (hac) (by decide) (Nat.le_of_ble_eq_true rfl) dx_performSingle_105 (fun H locs hC => ?_)
              exact hret _ _ _ _ dx_performSingle_108 hC  (nw_i _)
            · rw [if_neg h6] at hret
              by_cases h7 : op = 180
              · rw [if_pos h7] at hret
                refine lv_tableIn (off := 105) (tgt := 109) hx hb dx_performSingle_4 (by rw [h7]; decide) (by rw [h7]; decide) (by rw [h7]; rfl) (by decide) ?_
                refine lv_aload_n hx hb dx_performSingle_109 rfl (lv_at hl 0 rfl) ?_
                refine kx_callStoringAtE E hl.1 hC (hac) (by decide) (Nat.le_of_ble_eq_true rfl) dx_performSingle_110 (fun H locs hC => ?_)
                exact hret _ _ _ _ dx_performSingle_113 hC  (nw_i _)
              · rw [if_neg h7] at hret
                by_cases h8 : op = 181
                · rw [if_pos h8] at hret
                  refine lv_tableIn (off := 110) (tgt := 114) hx hb dx_performSingle_4 (by rw [h8]; decide) (by rw [h8]; decide) (by rw [h8]; rfl) (by decide) ?_
                  refine lv_aload_n hx hb dx_performSingle_114 rfl (lv_at hl 0 rfl) ?_
                  refine xg_word E hC dx_performSingle_115 ?_
                  refine lv_aload_n hx hb dx_performSingle_118 rfl (lv_at hl 0 rfl) ?_
                  refine xg_ac E hC dx_performSingle_119 ?_
                  refine lv_aload_n hx hb dx_performSingle_122 rfl (lv_at hl 0 rfl) ?_
                  refine xg_pc E hC dx_performSingle_123 ?_
                  refine lv_i2l hx hb dx_performSingle_126 rfl ?_
                  refine xst E hC (hac) dx_performSingle_127 (fun H locs hC => ?_)
                  refine lv_aload_n hx hb dx_performSingle_128 rfl (lv_at hl 0 rfl) ?_
                  refine lv_iconst (v := (1 : Int32)) hx hb dx_performSingle_129 (by decide) ?_
                  refine kx_jumpIf E hl.1 hC (hac) (by decide) (Nat.le_of_ble_eq_true rfl) dx_performSingle_130 (fun H locs hC => ?_)
                  exact hret _ _ _ _ dx_performSingle_133 hC  (nw_i _)
                · rw [if_neg h8] at hret
                  by_cases hin : op.toInt < 168 ∨ 181 < op.toInt
                  · refine lv_tableOut (tgt := 134) hx hb dx_performSingle_4 hin (by decide) ?_
                    refine lv_iconst (v := (1 : Int32)) hx hb dx_performSingle_134 (by decide) ?_
                    exact (xwi_out hret) _ _ _ _ dx_performSingle_135 hC  (nw_i _)
                  · have hh : op.toInt = 174 ∨ op.toInt = 175 ∨ op.toInt = 176 ∨ op.toInt = 177 ∨ op.toInt = 178 ∨ op.toInt = 179 := by have := lv_neT h1 (show (168 : Int32).toInt = 168 from rfl); have := lv_neT h2 (show (169 : Int32).toInt = 169 from rfl); have := lv_neT h3 (show (170 : Int32).toInt = 170 from rfl); have := lv_neT h4 (show (171 : Int32).toInt = 171 from rfl); have := lv_neT h5 (show (172 : Int32).toInt = 172 from rfl); have := lv_neT h6 (show (173 : Int32).toInt = 173 from rfl); have := lv_neT h7 (show (180 : Int32).toInt = 180 from rfl); have := lv_neT h8 (show (181 : Int32).toInt = 181 from rfl); omega
                    refine lv_tableIn (off := 130) (tgt := 134) hx hb dx_performSingle_4 (by omega) (by omega) (by rcases hh with hh | hh | hh | hh | hh | hh <;> (rw [hh]; rfl)) (by decide) ?_
                    refine lv_iconst (v := (1 : Int32)) hx hb dx_performSingle_134 (by decide) ?_
                    exact (xwi_out hret) _ _ _ _ dx_performSingle_135 hC  (nw_i _)
set_option maxRecDepth 100000 in
set_option maxHeartbeats 4000000 in
theorem mx_performSingle (l : Launch) (k : kSx) (op ac ea : Int32) (hac : vp_in ac 4096) : xMet l yx_performSingle cx_performSingle 1 (some .int) 3 [] k op ac ea (some (.int (fx_performSingle k op ac ea).1)) (fx_performSingle k op ac ea).2 op ac ea :=
  xMet.ofi (by decide) rfl (fun _ => Nat.le_of_ble_eq_true rfl) (fun D cA h0 q p env s m args below meth c ls Q E hC hl hret => wx_performSingle_0 E hC (lv_sub hl [0] rfl) hac hret)
theorem gkx_performSingle : xYw R_x 95 yx_performSingle cx_performSingle 1 (some .int) 0 := ⟨wc_x_performSingle, wl_x_95, wi_x_performSingle, ws_x_performSingle, wn_x, ⟨by decide, by decide, by decide +kernel⟩, by decide⟩
theorem kx_performSingle {p : Program} {l : Launch} {env : Env} {s : State} {m : MethodId} {args : Array Value} {below : List Frame} {meth : Method} {c : Code} {H : Heap} {locs : List Loc} {Q : State → Prop} {cc : ByteArray} {pc nL d : Nat} {ls : Array Slot} {rest : List Value} {D : va_G} {cA : ClassId} {h0 q : Nat} {k : kSx} {op ac ea : Int32} (E : xE p s m args c cc nL D cA h0 q) (hls : ls.size = nL) (hC : xC D cA h0 q s.heap k op ac ea H locs) (hac : vp_in ac 4096) (hd : 3 + 1 ≤ d) (hr : (rest.map fun v => v.category).sum ≤ 8) (hdg : decode cc pc = .ok (.invokevirtual 95, 3)) (kk : ∀ (H1 : Heap) (locs1 : List Loc), xC D cA h0 q s.heap (fx_performSingle k op ac ea).2 op ac ea H1 locs1 → W p l env (rmD d) s m args below meth c H1 locs1 0 0 Q (F0 m (pc + 3) ls (.int (fx_performSingle k op ac ea).1 :: rest))) : W p l env (rmD d) s m args below meth c H locs 0 0 Q (F0 m pc ls (.ref h0 :: rest)) :=
  xcall (av := []) E (mx_performSingle l k op ac ea  hac) gkx_performSingle rfl hls hC hd hr hdg kk
/-! TenMachine.calculate ()I -/
def fx_calculate (k : kSx) (op ac ea : Int32)  : Int32 × kSx :=
  if (fx_lacksOperand k op ac ea) = 0 then
    if (fx_family k op ac ea) = 184 then
      (fx_storeBoth ((fx_result k op ac ea ((ldx k ac) + (fx_operand k op ac ea))).2) op ac ea ((fx_result k op ac ea ((ldx k ac) + (fx_operand k op ac ea))).1))
    else
      if (fx_family k op ac ea) = 188 then
        (fx_storeBoth ((fx_result k op ac ea ((ldx k ac) - (fx_operand k op ac ea))).2) op ac ea ((fx_result k op ac ea ((ldx k ac) - (fx_operand k op ac ea))).1))
      else
        (fx_storeBoth ((fx_product k op ac ea (ldx k ac) (fx_operand k op ac ea)).2) op ac ea ((fx_product k op ac ea (ldx k ac) (fx_operand k op ac ea)).1))
  else
    ((2 : Int32), k)
set_option maxRecDepth 100000 in
set_option maxHeartbeats 4000000 in
theorem wx_calculate_0 {k : kSx} {op : Int32} {ac : Int32} {ea : Int32} {H : Heap} {locs : List Loc} {ls : Array Slot} (E : xE p s m args c cx_calculate 5 D cA h0 q) (hC : xC D cA h0 q s.heap k op ac ea H locs) (hl : lv_has ls 5 [(0, .ref h0)]) (hac : vp_in ac 4096) (hret : xwi p l env (rmD 3) s m args below meth c cx_calculate D cA h0 q .int op ac ea Q (fx_calculate k op ac ea)) : W p l env (rmD 3) s m args below meth c H locs 0 0 Q (F0 m 0 ls []) := by
  have hx := E.1.1; have hb := E.1.2.1
  unfold fx_calculate at hret
  refine lv_aload_n hx hb dx_calculate_0 rfl (lv_at hl 0 rfl) ?_
  refine kx_lacksOperand E hl.1 hC (hac) (by decide) (Nat.le_of_ble_eq_true rfl) dx_calculate_1 (fun H locs hC => ?_)
  refine lv_if_eq (tgt := 9) hx hb dx_calculate_4 (by decide) (fun h1 => ?_) (fun h1 => ?_)
  · rw [if_pos h1] at hret
    refine lv_aload_n hx hb dx_calculate_9 rfl (lv_at hl 0 rfl) ?_
    refine xg_word E hC dx_calculate_10 ?_
    refine lv_aload_n hx hb dx_calculate_13 rfl (lv_at hl 0 rfl) ?_
    refine xg_ac E hC dx_calculate_14 ?_
    refine xld E hC (hac) dx_calculate_17 ?_
    refine lv_lstore_n (lv' := [(1, .long (ldx k ac)), (0, .ref h0)]) hx hb dx_calculate_18 rfl hl (by decide) rfl (fun ls hl => ?_)
    refine lv_aload_n hx hb dx_calculate_19 rfl (lv_at hl 1 rfl) ?_
    refine kx_operand E hl.1 hC (hac) (lacks_he h1) (by decide) (Nat.le_of_ble_eq_true rfl) dx_calculate_20 (fun H locs hC => ?_)
    refine lv_lstore_n (lv' := [(3, .long (fx_operand k op ac ea)), (1, .long (ldx k ac)), (0, .ref h0)]) hx hb dx_calculate_23 rfl hl (by decide) rfl (fun ls hl => ?_)
    refine lv_aload_n hx hb dx_calculate_24 rfl (lv_at hl 2 rfl) ?_
    refine kx_family E hl.1 hC (hac) (by decide) (Nat.le_of_ble_eq_true rfl) dx_calculate_25 (fun H locs hC => ?_)
    by_cases h2 : (fx_family k op ac ea) = 184
    · rw [if_pos h2] at hret
      refine lv_lookup (off := 28) (tgt := 56) hx hb dx_calculate_28 (by decide) (by rw [h2]; rfl) (by decide) ?_
      refine lv_aload_n hx hb dx_calculate_56 rfl (lv_at hl 2 rfl) ?_
      refine lv_aload_n hx hb dx_calculate_57 rfl (lv_at hl 2 rfl) ?_
      refine lv_lload_n hx hb dx_calculate_58 rfl (lv_at hl 1 rfl) ?_
      refine lv_lload_n hx hb dx_calculate_59 rfl (lv_at hl 0 rfl) ?_
      refine lv_ladd hx hb dx_calculate_60 ?_
      refine kx_result E hl.1 hC (hac) (by decide) (Nat.le_of_ble_eq_true rfl) dx_calculate_61 (fun H locs hC => ?_)
      refine kx_storeBoth E hl.1 hC (hac) (lacks_he h1) (by decide) (Nat.le_of_ble_eq_true rfl) dx_calculate_64 (fun H locs hC => ?_)
      exact hret _ _ _ _ dx_calculate_67 hC  (nw_i _)
    · rw [if_neg h2] at hret
      by_cases h3 : (fx_family k op ac ea) = 188
      · rw [if_pos h3] at hret
        refine lv_lookup (off := 40) (tgt := 68) hx hb dx_calculate_28 (by decide) (by rw [h3]; rfl) (by decide) ?_
        refine lv_aload_n hx hb dx_calculate_68 rfl (lv_at hl 2 rfl) ?_
        refine lv_aload_n hx hb dx_calculate_69 rfl (lv_at hl 2 rfl) ?_
        refine lv_lload_n hx hb dx_calculate_70 rfl (lv_at hl 1 rfl) ?_
        refine lv_lload_n hx hb dx_calculate_71 rfl (lv_at hl 0 rfl) ?_
        refine lv_lsub hx hb dx_calculate_72 ?_
        refine kx_result E hl.1 hC (hac) (by decide) (Nat.le_of_ble_eq_true rfl) dx_calculate_73 (fun H locs hC => ?_)
        refine kx_storeBoth E hl.1 hC (hac) (lacks_he h1) (by decide) (Nat.le_of_ble_eq_true rfl) dx_calculate_76 (fun H locs hC => ?_)
        exact hret _ _ _ _ dx_calculate_79 hC  (nw_i _)
      · rw [if_neg h3] at hret
        refine lv_lookup (off := 52) (tgt := 80) hx hb dx_calculate_28 (by decide) (by rw [show (#[(184, 28), (188, 40)] : Array (Int × Int)).toList = [(184, 28), (188, 40)] from rfl, lv_osw h2 (show (184 : Int32).toInt = 184 from rfl), lv_osw h3 (show (188 : Int32).toInt = 188 from rfl)]; rfl) (by decide) ?_
        refine lv_aload_n hx hb dx_calculate_80 rfl (lv_at hl 2 rfl) ?_
        refine lv_aload_n hx hb dx_calculate_81 rfl (lv_at hl 2 rfl) ?_
        refine lv_lload_n hx hb dx_calculate_82 rfl (lv_at hl 1 rfl) ?_
        refine lv_lload_n hx hb dx_calculate_83 rfl (lv_at hl 0 rfl) ?_
        refine kx_product E hl.1 hC (hac) (by decide) (Nat.le_of_ble_eq_true rfl) dx_calculate_84 (fun H locs hC => ?_)
        refine kx_storeBoth E hl.1 hC (hac) (lacks_he h1) (by decide) (Nat.le_of_ble_eq_true rfl) dx_calculate_87 (fun H locs hC => ?_)
        exact hret _ _ _ _ dx_calculate_90 hC  (nw_i _)
  · rw [if_neg h1] at hret
    refine lv_iconst (v := (2 : Int32)) hx hb dx_calculate_7 (by decide) ?_
    exact (xwi_out hret) _ _ _ _ dx_calculate_8 hC  (nw_i _)
set_option maxRecDepth 100000 in
set_option maxHeartbeats 4000000 in
theorem mx_calculate (l : Launch) (k : kSx) (op ac ea : Int32) (hac : vp_in ac 4096) : xMet l yx_calculate cx_calculate 5 (some .int) 3 [] k op ac ea (some (.int (fx_calculate k op ac ea).1)) (fx_calculate k op ac ea).2 op ac ea :=
  xMet.ofi (by decide) rfl (fun _ => Nat.le_of_ble_eq_true rfl) (fun D cA h0 q p env s m args below meth c ls Q E hC hl hret => wx_calculate_0 E hC (lv_sub hl [0] rfl) hac hret)
theorem gkx_calculate : xYw R_x 83 yx_calculate cx_calculate 5 (some .int) 0 := ⟨wc_x_calculate, wl_x_83, wi_x_calculate, ws_x_calculate, wn_x, ⟨by decide, by decide, by decide +kernel⟩, by decide⟩
theorem kx_calculate {p : Program} {l : Launch} {env : Env} {s : State} {m : MethodId} {args : Array Value} {below : List Frame} {meth : Method} {c : Code} {H : Heap} {locs : List Loc} {Q : State → Prop} {cc : ByteArray} {pc nL d : Nat} {ls : Array Slot} {rest : List Value} {D : va_G} {cA : ClassId} {h0 q : Nat} {k : kSx} {op ac ea : Int32} (E : xE p s m args c cc nL D cA h0 q) (hls : ls.size = nL) (hC : xC D cA h0 q s.heap k op ac ea H locs) (hac : vp_in ac 4096) (hd : 3 + 1 ≤ d) (hr : (rest.map fun v => v.category).sum ≤ 8) (hdg : decode cc pc = .ok (.invokevirtual 83, 3)) (kk : ∀ (H1 : Heap) (locs1 : List Loc), xC D cA h0 q s.heap (fx_calculate k op ac ea).2 op ac ea H1 locs1 → W p l env (rmD d) s m args below meth c H1 locs1 0 0 Q (F0 m (pc + 3) ls (.int (fx_calculate k op ac ea).1 :: rest))) : W p l env (rmD d) s m args below meth c H locs 0 0 Q (F0 m pc ls (.ref h0 :: rest)) :=
  xcall (av := []) E (mx_calculate l k op ac ea  hac) gkx_calculate rfl hls hC hd hr hdg kk
/-! TenMachine.shiftOrFindFirstOne ()I -/
def fx_shiftOrFindFirstOne_118 (k : kSx) (op ac ea : Int32)  : Int32 × kSx :=
  (fx_findFirstOne k op ac ea)
set_option maxRecDepth 100000 in
set_option maxHeartbeats 4000000 in
theorem wx_shiftOrFindFirstOne_118 {k : kSx} {op : Int32} {ac : Int32} {ea : Int32} {H : Heap} {locs : List Loc} {ls : Array Slot} (E : xE p s m args c cx_shiftOrFindFirstOne 1 D cA h0 q) (hC : xC D cA h0 q s.heap k op ac ea H locs) (hl : lv_has ls 1 [(0, .ref h0)]) (hac : vp_in ac 4096) (hret : xwi p l env (rmD 3) s m args below meth c cx_shiftOrFindFirstOne D cA h0 q .int op ac ea Q (fx_shiftOrFindFirstOne_118 k op ac ea)) : W p l env (rmD 3) s m args below meth c H locs 0 0 Q (F0 m 118 ls []) := by
  have hx := E.1.1; have hb := E.1.2.1
  unfold fx_shiftOrFindFirstOne_118 at hret
  refine lv_aload_n hx hb dx_shiftOrFindFirstOne_118 rfl (lv_at hl 0 rfl) ?_
  refine kx_findFirstOne E hl.1 hC (hac) (by decide) (Nat.le_of_ble_eq_true rfl) dx_shiftOrFindFirstOne_119 (fun H locs hC => ?_)
  exact hret _ _ _ _ dx_shiftOrFindFirstOne_122 hC  (nw_i _)
def fx_shiftOrFindFirstOne (k : kSx) (op ac ea : Int32)  : Int32 × kSx :=
  if op = 160 then
    ((0 : Int32), stx ((fx_shiftedWithSign k op ac ea (ldx k ac) (fx_places k op ac ea)).2) ac ((fx_shiftedWithSign k op ac ea (ldx k ac) (fx_places k op ac ea)).1))
  else
    if op = 161 then
      ((0 : Int32), stx k ac (fx_turnedRound (ldx k ac) (fx_places k op ac ea)))
    else
      if op = 162 then
        ((0 : Int32), stx k ac (fx_shiftedWithoutSign (ldx k ac) (fx_places k op ac ea)))
      else
        fx_shiftOrFindFirstOne_118 k op ac ea
set_option maxRecDepth 100000 in
set_option maxHeartbeats 4000000 in
theorem wx_shiftOrFindFirstOne_0 {k : kSx} {op : Int32} {ac : Int32} {ea : Int32} {H : Heap} {locs : List Loc} {ls : Array Slot} (E : xE p s m args c cx_shiftOrFindFirstOne 1 D cA h0 q) (hC : xC D cA h0 q s.heap k op ac ea H locs) (hl : lv_has ls 1 [(0, .ref h0)]) (hac : vp_in ac 4096) (hret : xwi p l env (rmD 3) s m args below meth c cx_shiftOrFindFirstOne D cA h0 q .int op ac ea Q (fx_shiftOrFindFirstOne k op ac ea)) : W p l env (rmD 3) s m args below meth c H locs 0 0 Q (F0 m 0 ls []) := by
  have hx := E.1.1; have hb := E.1.2.1
  unfold fx_shiftOrFindFirstOne at hret
  refine lv_aload_n hx hb dx_shiftOrFindFirstOne_0 rfl (lv_at hl 0 rfl) ?_
  refine xg_op E hC dx_shiftOrFindFirstOne_1 ?_
  by_cases h1 : op = 160
  · rw [if_pos h1] at hret
    refine lv_tableIn (off := 32) (tgt := 36) hx hb dx_shiftOrFindFirstOne_4 (by rw [h1]; decide) (by rw [h1]; decide) (by rw [h1]; rfl) (by decide) ?_
    refine lv_aload_n hx hb dx_shiftOrFindFirstOne_36 rfl (lv_at hl 0 rfl) ?_
    refine xg_word E hC dx_shiftOrFindFirstOne_37 ?_
    refine lv_aload_n hx hb dx_shiftOrFindFirstOne_40 rfl (lv_at hl 0 rfl) ?_
    refine xg_ac E hC dx_shiftOrFindFirstOne_41 ?_
    refine lv_aload_n hx hb dx_shiftOrFindFirstOne_44 rfl (lv_at hl 0 rfl) ?_
    refine lv_aload_n hx hb dx_shiftOrFindFirstOne_45 rfl (lv_at hl 0 rfl) ?_
    refine xg_word E hC dx_shiftOrFindFirstOne_46 ?_
    refine lv_aload_n hx hb dx_shiftOrFindFirstOne_49 rfl (lv_at hl 0 rfl) ?_
    refine xg_ac E hC dx_shiftOrFindFirstOne_50 ?_
    refine xld E hC (hac) dx_shiftOrFindFirstOne_53 ?_
    refine lv_aload_n hx hb dx_shiftOrFindFirstOne_54 rfl (lv_at hl 0 rfl) ?_
    refine kx_places E hl.1 hC (hac) (by decide) (Nat.le_of_ble_eq_true rfl) dx_shiftOrFindFirstOne_55 (fun H locs hC => ?_)
    refine kx_shiftedWithSign E hl.1 hC (hac) (by decide) (Nat.le_of_ble_eq_true rfl) dx_shiftOrFindFirstOne_58 (fun H locs hC => ?_)
    refine xst E hC (hac) dx_shiftOrFindFirstOne_61 (fun H locs hC => ?_)
    refine lv_iconst (v := (0 : Int32)) hx hb dx_shiftOrFindFirstOne_62 (by decide) ?_
    exact (xwi_out hret) _ _ _ _ dx_shiftOrFindFirstOne_63 hC  (nw_i _)
  · rw [if_neg h1] at hret
    by_cases h2 : op = 161
    · rw [if_pos h2] at hret
      refine lv_tableIn (off := 60) (tgt := 64) hx hb dx_shiftOrFindFirstOne_4 (by rw [h2]; decide) (by rw [h2]; decide) (by rw [h2]; rfl) (by decide) ?_
      refine lv_aload_n hx hb dx_shiftOrFindFirstOne_64 rfl (lv_at hl 0 rfl) ?_
      refine xg_word E hC dx_shiftOrFindFirstOne_65 ?_
      refine lv_aload_n hx hb dx_shiftOrFindFirstOne_68 rfl (lv_at hl 0 rfl) ?_
      refine xg_ac E hC dx_shiftOrFindFirstOne_69 ?_
      refine lv_aload_n hx hb dx_shiftOrFindFirstOne_72 rfl (lv_at hl 0 rfl) ?_
      refine xg_word E hC dx_shiftOrFindFirstOne_73 ?_
      refine lv_aload_n hx hb dx_shiftOrFindFirstOne_76 rfl (lv_at hl 0 rfl) ?_
      refine xg_ac E hC dx_shiftOrFindFirstOne_77 ?_
      refine xld E hC (hac) dx_shiftOrFindFirstOne_80 ?_
      refine lv_aload_n hx hb dx_shiftOrFindFirstOne_81 rfl (lv_at hl 0 rfl) ?_
      refine kx_places E hl.1 hC (hac) (by decide) (Nat.le_of_ble_eq_true rfl) dx_shiftOrFindFirstOne_82 (fun H locs hC => ?_)
      refine kx_turnedRound_in_x E.1 hl.1 (by decide) (Nat.le_of_ble_eq_true rfl) dx_shiftOrFindFirstOne_85 ?_
      refine xst E hC (hac) dx_shiftOrFindFirstOne_88 (fun H locs hC => ?_)
      refine lv_iconst (v := (0 : Int32)) hx hb dx_shiftOrFindFirstOne_89 (by decide) ?_
      exact (xwi_out hret) _ _ _ _ dx_shiftOrFindFirstOne_90 hC  (nw_i _)
    · rw [if_neg h2] at hret
      by_cases h3 : op = 162
      · rw [if_pos h3] at hret
        refine lv_tableIn (off := 87) (tgt := 91) hx hb dx_shiftOrFindFirstOne_4 (by rw [h3]; decide) (by rw [h3]; decide) (by rw [h3]; rfl) (by decide) ?_
        refine lv_aload_n hx hb dx_shiftOrFindFirstOne_91 rfl (lv_at hl 0 rfl) ?_
        refine xg_word E hC dx_shiftOrFindFirstOne_92 ?_
        refine lv_aload_n hx hb dx_shiftOrFindFirstOne_95 rfl (lv_at hl 0 rfl) ?_
        refine xg_ac E hC dx_shiftOrFindFirstOne_96 ?_
        refine lv_aload_n hx hb dx_shiftOrFindFirstOne_99 rfl (lv_at hl 0 rfl) ?_
        refine xg_word E hC dx_shiftOrFindFirstOne_100 ?_
        refine lv_aload_n hx hb dx_shiftOrFindFirstOne_103 rfl (lv_at hl 0 rfl) ?_
        refine xg_ac E hC dx_shiftOrFindFirstOne_104 ?_
        refine xld E hC (hac) dx_shiftOrFindFirstOne_107 ?_
        refine lv_aload_n hx hb dx_shiftOrFindFirstOne_108 rfl (lv_at hl 0 rfl) ?_
        refine kx_places E hl.1 hC (hac) (by decide) (Nat.le_of_ble_eq_true rfl) dx_shiftOrFindFirstOne_109 (fun H locs hC => ?_)
        refine kx_shiftedWithoutSign_in_x E.1 hl.1 (by decide) (Nat.le_of_ble_eq_true rfl) dx_shiftOrFindFirstOne_112 ?_
        refine xst E hC (hac) dx_shiftOrFindFirstOne_115 (fun H locs hC => ?_)
        refine lv_iconst (v := (0 : Int32)) hx hb dx_shiftOrFindFirstOne_116 (by decide) ?_
        exact (xwi_out hret) _ _ _ _ dx_shiftOrFindFirstOne_117 hC  (nw_i _)
      · rw [if_neg h3] at hret
        by_cases hin : op.toInt < 160 ∨ 163 < op.toInt
        · refine lv_tableOut (tgt := 118) hx hb dx_shiftOrFindFirstOne_4 hin (by decide) ?_
          exact wx_shiftOrFindFirstOne_118 E hC (lv_sub hl [0] rfl) (hac) hret
        · have hh : op.toInt = 163 := by have := lv_neT h1 (show (160 : Int32).toInt = 160 from rfl); have := lv_neT h2 (show (161 : Int32).toInt = 161 from rfl); have := lv_neT h3 (show (162 : Int32).toInt = 162 from rfl); omega
          refine lv_tableIn (off := 114) (tgt := 118) hx hb dx_shiftOrFindFirstOne_4 (by omega) (by omega) (by rcases hh with hh <;> (rw [hh]; rfl)) (by decide) ?_
          exact wx_shiftOrFindFirstOne_118 E hC (lv_sub hl [0] rfl) (hac) hret
set_option maxRecDepth 100000 in
set_option maxHeartbeats 4000000 in
theorem mx_shiftOrFindFirstOne (l : Launch) (k : kSx) (op ac ea : Int32) (hac : vp_in ac 4096) : xMet l yx_shiftOrFindFirstOne cx_shiftOrFindFirstOne 1 (some .int) 3 [] k op ac ea (some (.int (fx_shiftOrFindFirstOne k op ac ea).1)) (fx_shiftOrFindFirstOne k op ac ea).2 op ac ea :=
  xMet.ofi (by decide) rfl (fun _ => Nat.le_of_ble_eq_true rfl) (fun D cA h0 q p env s m args below meth c ls Q E hC hl hret => wx_shiftOrFindFirstOne_0 E hC (lv_sub hl [0] rfl) hac hret)
theorem gkx_shiftOrFindFirstOne : xYw R_x 89 yx_shiftOrFindFirstOne cx_shiftOrFindFirstOne 1 (some .int) 0 := ⟨wc_x_shiftOrFindFirstOne, wl_x_89, wi_x_shiftOrFindFirstOne, ws_x_shiftOrFindFirstOne, wn_x, ⟨by decide, by decide, by decide +kernel⟩, by decide⟩
theorem kx_shiftOrFindFirstOne {p : Program} {l : Launch} {env : Env} {s : State} {m : MethodId} {args : Array Value} {below : List Frame} {meth : Method} {c : Code} {H : Heap} {locs : List Loc} {Q : State → Prop} {cc : ByteArray} {pc nL d : Nat} {ls : Array Slot} {rest : List Value} {D : va_G} {cA : ClassId} {h0 q : Nat} {k : kSx} {op ac ea : Int32} (E : xE p s m args c cc nL D cA h0 q) (hls : ls.size = nL) (hC : xC D cA h0 q s.heap k op ac ea H locs) (hac : vp_in ac 4096) (hd : 3 + 1 ≤ d) (hr : (rest.map fun v => v.category).sum ≤ 8) (hdg : decode cc pc = .ok (.invokevirtual 89, 3)) (kk : ∀ (H1 : Heap) (locs1 : List Loc), xC D cA h0 q s.heap (fx_shiftOrFindFirstOne k op ac ea).2 op ac ea H1 locs1 → W p l env (rmD d) s m args below meth c H1 locs1 0 0 Q (F0 m (pc + 3) ls (.int (fx_shiftOrFindFirstOne k op ac ea).1 :: rest))) : W p l env (rmD d) s m args below meth c H locs 0 0 Q (F0 m pc ls (.ref h0 :: rest)) :=
  xcall (av := []) E (mx_shiftOrFindFirstOne l k op ac ea  hac) gkx_shiftOrFindFirstOne rfl hls hC hd hr hdg kk
/-! TenMachine.useStack ()I -/
def fx_useStack_95 (k : kSx) (op ac ea : Int32)  : Int32 × kSx :=
  (fx_popToPc k op ac ea)
set_option maxRecDepth 100000 in
set_option maxHeartbeats 4000000 in
theorem wx_useStack_95 {k : kSx} {op : Int32} {ac : Int32} {ea : Int32} {H : Heap} {locs : List Loc} {ls : Array Slot} (E : xE p s m args c cx_useStack 1 D cA h0 q) (hC : xC D cA h0 q s.heap k op ac ea H locs) (hl : lv_has ls 1 [(0, .ref h0)]) (hac : vp_in ac 4096) (hret : xwi p l env (rmD 3) s m args below meth c cx_useStack D cA h0 q .int op ac ea Q (fx_useStack_95 k op ac ea)) : W p l env (rmD 3) s m args below meth c H locs 0 0 Q (F0 m 95 ls []) := by
  have hx := E.1.1; have hb := E.1.2.1
  unfold fx_useStack_95 at hret
  refine lv_aload_n hx hb dx_useStack_95 rfl (lv_at hl 0 rfl) ?_
  refine kx_popToPc E hl.1 hC (hac) (by decide) (Nat.le_of_ble_eq_true rfl) dx_useStack_96 (fun H locs hC => ?_)
  exact hret _ _ _ _ dx_useStack_99 hC  (nw_i _)
def fx_useStack (k : kSx) (op ac ea : Int32)  : Int32 × kSx :=
  if op = 176 then
    if ((fx_push k op ac ea ((ux_pc k).toInt64)).1) = 0 then
      ((2 : Int32), (fx_push k op ac ea ((ux_pc k).toInt64)).2)
    else
      (fx_jumpIf ((fx_push k op ac ea ((ux_pc k).toInt64)).2) op ac ea (1 : Int32))
  else
    if op = 177 then
      if (fx_isThere ea) = 0 then
        ((2 : Int32), k)
      else
        if ((fx_push k op ac ea (ldx k ea)).1) = 0 then
          ((2 : Int32), (fx_push k op ac ea (ldx k ea)).2)
        else
          ((0 : Int32), (fx_push k op ac ea (ldx k ea)).2)
    else
      if op = 178 then
        (fx_pop k op ac ea)
      else
        fx_useStack_95 k op ac ea
set_option maxRecDepth 100000 in
set_option maxHeartbeats 4000000 in
theorem wx_useStack_0 {k : kSx} {op : Int32} {ac : Int32} {ea : Int32} {H : Heap} {locs : List Loc} {ls : Array Slot} (E : xE p s m args c cx_useStack 1 D cA h0 q) (hC : xC D cA h0 q s.heap k op ac ea H locs) (hl : lv_has ls 1 [(0, .ref h0)]) (hac : vp_in ac 4096) (hret : xwi p l env (rmD 3) s m args below meth c cx_useStack D cA h0 q .int op ac ea Q (fx_useStack k op ac ea)) : W p l env (rmD 3) s m args below meth c H locs 0 0 Q (F0 m 0 ls []) := by
  have hx := E.1.1; have hb := E.1.2.1
  unfold fx_useStack at hret
  refine lv_aload_n hx hb dx_useStack_0 rfl (lv_at hl 0 rfl) ?_
  refine xg_op E hC dx_useStack_1 ?_
  by_cases h1 : op = 176
  · rw [if_pos h1] at hret
    refine lv_tableIn (off := 32) (tgt := 36) hx hb dx_useStack_4 (by rw [h1]; decide) (by rw [h1]; decide) (by rw [h1]; rfl) (by decide) ?_
    refine lv_aload_n hx hb dx_useStack_36 rfl (lv_at hl 0 rfl) ?_
    refine lv_aload_n hx hb dx_useStack_37 rfl (lv_at hl 0 rfl) ?_
    refine xg_pc E hC dx_useStack_38 ?_
    refine lv_i2l hx hb dx_useStack_41 rfl ?_
    refine kx_push E hl.1 hC (hac) (by decide) (Nat.le_of_ble_eq_true rfl) dx_useStack_42 (fun H locs hC => ?_)
    refine lv_if_eq (tgt := 56) hx hb dx_useStack_45 (by decide) (fun h2 => ?_) (fun h2 => ?_)
    · rw [if_pos h2] at hret
      refine lv_iconst (v := (2 : Int32)) hx hb dx_useStack_56 (by decide) ?_
      exact (xwi_out hret) _ _ _ _ dx_useStack_57 hC  (nw_i _)
    · rw [if_neg h2] at hret
      refine lv_aload_n hx hb dx_useStack_48 rfl (lv_at hl 0 rfl) ?_
      refine lv_iconst (v := (1 : Int32)) hx hb dx_useStack_49 (by decide) ?_
      refine kx_jumpIf E hl.1 hC (hac) (by decide) (Nat.le_of_ble_eq_true rfl) dx_useStack_50 (fun H locs hC => ?_)
      refine lv_goto (tgt := 57) hx hb dx_useStack_53 (by decide) ?_
      exact hret _ _ _ _ dx_useStack_57 hC  (nw_i _)
  · rw [if_neg h1] at hret
    by_cases h3 : op = 177
    · rw [if_pos h3] at hret
      refine lv_tableIn (off := 54) (tgt := 58) hx hb dx_useStack_4 (by rw [h3]; decide) (by rw [h3]; decide) (by rw [h3]; rfl) (by decide) ?_
      refine lv_aload_n hx hb dx_useStack_58 rfl (lv_at hl 0 rfl) ?_
      refine xg_e E hC dx_useStack_59 ?_
      refine kx_isThere_in_x E.1 hl.1 (by decide) (Nat.le_of_ble_eq_true rfl) dx_useStack_62 ?_
      refine lv_if_eq (tgt := 88) hx hb dx_useStack_65 (by decide) (fun h4 => ?_) (fun h4 => ?_)
      · rw [if_pos h4] at hret
        refine lv_iconst (v := (2 : Int32)) hx hb dx_useStack_88 (by decide) ?_
        exact (xwi_out hret) _ _ _ _ dx_useStack_89 hC  (nw_i _)
      · rw [if_neg h4] at hret
        refine lv_aload_n hx hb dx_useStack_68 rfl (lv_at hl 0 rfl) ?_
        refine lv_aload_n hx hb dx_useStack_69 rfl (lv_at hl 0 rfl) ?_
        refine xg_word E hC dx_useStack_70 ?_
        refine lv_aload_n hx hb dx_useStack_73 rfl (lv_at hl 0 rfl) ?_
        refine xg_e E hC dx_useStack_74 ?_
        refine xld E hC (vin_there h4) dx_useStack_77 ?_
        refine kx_push E hl.1 hC (hac) (by decide) (Nat.le_of_ble_eq_true rfl) dx_useStack_78 (fun H locs hC => ?_)
        refine lv_if_eq (tgt := 88) hx hb dx_useStack_81 (by decide) (fun h5 => ?_) (fun h5 => ?_)
        · rw [if_pos h5] at hret
          refine lv_iconst (v := (2 : Int32)) hx hb dx_useStack_88 (by decide) ?_
          exact (xwi_out hret) _ _ _ _ dx_useStack_89 hC  (nw_i _)
        · rw [if_neg h5] at hret
          refine lv_iconst (v := (0 : Int32)) hx hb dx_useStack_84 (by decide) ?_
          refine lv_goto (tgt := 89) hx hb dx_useStack_85 (by decide) ?_
          exact (xwi_out hret) _ _ _ _ dx_useStack_89 hC  (nw_i _)
    · rw [if_neg h3] at hret
      by_cases h6 : op = 178
      · rw [if_pos h6] at hret
        refine lv_tableIn (off := 86) (tgt := 90) hx hb dx_useStack_4 (by rw [h6]; decide) (by rw [h6]; decide) (by rw [h6]; rfl) (by decide) ?_
        refine lv_aload_n hx hb dx_useStack_90 rfl (lv_at hl 0 rfl) ?_
        refine kx_pop E hl.1 hC (hac) (by decide) (Nat.le_of_ble_eq_true rfl) dx_useStack_91 (fun H locs hC => ?_)
        exact hret _ _ _ _ dx_useStack_94 hC  (nw_i _)
      · rw [if_neg h6] at hret
        by_cases hin : op.toInt < 176 ∨ 179 < op.toInt
        · refine lv_tableOut (tgt := 95) hx hb dx_useStack_4 hin (by decide) ?_
          exact wx_useStack_95 E hC (lv_sub hl [0] rfl) (hac) hret
        · have hh : op.toInt = 179 := by have := lv_neT h1 (show (176 : Int32).toInt = 176 from rfl); have := lv_neT h3 (show (177 : Int32).toInt = 177 from rfl); have := lv_neT h6 (show (178 : Int32).toInt = 178 from rfl); omega
          refine lv_tableIn (off := 91) (tgt := 95) hx hb dx_useStack_4 (by omega) (by omega) (by rcases hh with hh <;> (rw [hh]; rfl)) (by decide) ?_
          exact wx_useStack_95 E hC (lv_sub hl [0] rfl) (hac) hret
set_option maxRecDepth 100000 in
set_option maxHeartbeats 4000000 in
theorem mx_useStack (l : Launch) (k : kSx) (op ac ea : Int32) (hac : vp_in ac 4096) : xMet l yx_useStack cx_useStack 1 (some .int) 3 [] k op ac ea (some (.int (fx_useStack k op ac ea).1)) (fx_useStack k op ac ea).2 op ac ea :=
  xMet.ofi (by decide) rfl (fun _ => Nat.le_of_ble_eq_true rfl) (fun D cA h0 q p env s m args below meth c ls Q E hC hl hret => wx_useStack_0 E hC (lv_sub hl [0] rfl) hac hret)
theorem gkx_useStack : xYw R_x 92 yx_useStack cx_useStack 1 (some .int) 0 := ⟨wc_x_useStack, wl_x_92, wi_x_useStack, ws_x_useStack, wn_x, ⟨by decide, by decide, by decide +kernel⟩, by decide⟩
theorem kx_useStack {p : Program} {l : Launch} {env : Env} {s : State} {m : MethodId} {args : Array Value} {below : List Frame} {meth : Method} {c : Code} {H : Heap} {locs : List Loc} {Q : State → Prop} {cc : ByteArray} {pc nL d : Nat} {ls : Array Slot} {rest : List Value} {D : va_G} {cA : ClassId} {h0 q : Nat} {k : kSx} {op ac ea : Int32} (E : xE p s m args c cc nL D cA h0 q) (hls : ls.size = nL) (hC : xC D cA h0 q s.heap k op ac ea H locs) (hac : vp_in ac 4096) (hd : 3 + 1 ≤ d) (hr : (rest.map fun v => v.category).sum ≤ 8) (hdg : decode cc pc = .ok (.invokevirtual 92, 3)) (kk : ∀ (H1 : Heap) (locs1 : List Loc), xC D cA h0 q s.heap (fx_useStack k op ac ea).2 op ac ea H1 locs1 → W p l env (rmD d) s m args below meth c H1 locs1 0 0 Q (F0 m (pc + 3) ls (.int (fx_useStack k op ac ea).1 :: rest))) : W p l env (rmD d) s m args below meth c H locs 0 0 Q (F0 m pc ls (.ref h0 :: rest)) :=
  xcall (av := []) E (mx_useStack l k op ac ea  hac) gkx_useStack rfl hls hC hd hr hdg kk
/-! TenMachine.compare ()I -/
def fx_compare_32 (k : kSx) (op ac ea : Int32)  : Int32 × kSx :=
  if (op &&& (504 : Int32)) = 192 then
    (fx_skipIf k op ac ea (fx_holds k op ac ea (ldx k ac) ea.toInt64))
  else
    if (op &&& (504 : Int32)) = 200 then
      (fx_skipIf k op ac ea (fx_holds k op ac ea (ldx k ac) (ldx k ea)))
    else
      if (op &&& (504 : Int32)) = 208 then
        (fx_jumpIf k op ac ea (fx_holds k op ac ea (ldx k ac) (0 : Int64)))
      else
        if (op &&& (504 : Int32)) = 216 then
          (fx_skipOnWord k op ac ea (ldx k ea))
        else
          if (op &&& (504 : Int32)) = 224 then
            (fx_countAc k op ac ea (1 : Int32))
          else
            if (op &&& (504 : Int32)) = 232 then
              (fx_countWord k op ac ea (1 : Int32))
            else
              if (op &&& (504 : Int32)) = 240 then
                (fx_countAc k op ac ea (-1 : Int32))
              else
                (fx_countWord k op ac ea (-1 : Int32))
set_option maxRecDepth 100000 in
set_option maxHeartbeats 4000000 in
theorem wx_compare_32 {k : kSx} {op : Int32} {ac : Int32} {ea : Int32} {H : Heap} {locs : List Loc} {ls : Array Slot} (E : xE p s m args c cx_compare 2 D cA h0 q) (hC : xC D cA h0 q s.heap k op ac ea H locs) (hl : lv_has ls 2 [(0, .ref h0)]) (hac : vp_in ac 4096) (hop : (op >>> ((6 : Int32) &&& 31)) = 3) (hw : ¬ (op &&& (8 : Int32)) = 0 → vp_in ea 4096) (hret : xwi p l env (rmD 3) s m args below meth c cx_compare D cA h0 q .int op ac ea Q (fx_compare_32 k op ac ea)) : W p l env (rmD 3) s m args below meth c H locs 0 0 Q (F0 m 32 ls []) := by
  have hx := E.1.1; have hb := E.1.2.1
  unfold fx_compare_32 at hret
  refine lv_aload_n hx hb dx_compare_32 rfl (lv_at hl 0 rfl) ?_
  refine xg_op E hC dx_compare_33 ?_
  refine lv_sipush (v := (504 : Int32)) hx hb dx_compare_36 (by decide) ?_
  refine lv_iand hx hb dx_compare_39 ?_
  by_cases h1 : (op &&& (504 : Int32)) = 192
  · rw [if_pos h1] at hret
    refine lv_lookup (off := 68) (tgt := 108) hx hb dx_compare_40 (by decide) (by rw [h1]; rfl) (by decide) ?_
    refine lv_aload_n hx hb dx_compare_108 rfl (lv_at hl 0 rfl) ?_
    refine lv_aload_n hx hb dx_compare_109 rfl (lv_at hl 0 rfl) ?_
    refine lv_aload_n hx hb dx_compare_110 rfl (lv_at hl 0 rfl) ?_
    refine xg_word E hC dx_compare_111 ?_
    refine lv_aload_n hx hb dx_compare_114 rfl (lv_at hl 0 rfl) ?_
    refine xg_ac E hC dx_compare_115 ?_
    refine xld E hC (hac) dx_compare_118 ?_
    refine lv_aload_n hx hb dx_compare_119 rfl (lv_at hl 0 rfl) ?_
    refine xg_e E hC dx_compare_120 ?_
    refine lv_i2l hx hb dx_compare_123 rfl ?_
    refine kx_holds E hl.1 hC (hac) (by decide) (Nat.le_of_ble_eq_true rfl) dx_compare_124 (fun H locs hC => ?_)
    refine kx_skipIf E hl.1 hC (hac) (by decide) (Nat.le_of_ble_eq_true rfl) dx_compare_127 (fun H locs hC => ?_)
    exact hret _ _ _ _ dx_compare_130 hC  (nw_i _)
  · rw [if_neg h1] at hret
    by_cases h2 : (op &&& (504 : Int32)) = 200
    · rw [if_pos h2] at hret
      refine lv_lookup (off := 91) (tgt := 131) hx hb dx_compare_40 (by decide) (by rw [h2]; rfl) (by decide) ?_
      refine lv_aload_n hx hb dx_compare_131 rfl (lv_at hl 0 rfl) ?_
      refine lv_aload_n hx hb dx_compare_132 rfl (lv_at hl 0 rfl) ?_
      refine lv_aload_n hx hb dx_compare_133 rfl (lv_at hl 0 rfl) ?_
      refine xg_word E hC dx_compare_134 ?_
      refine lv_aload_n hx hb dx_compare_137 rfl (lv_at hl 0 rfl) ?_
      refine xg_ac E hC dx_compare_138 ?_
      refine xld E hC (hac) dx_compare_141 ?_
      refine lv_aload_n hx hb dx_compare_142 rfl (lv_at hl 0 rfl) ?_
      refine xg_word E hC dx_compare_143 ?_
      refine lv_aload_n hx hb dx_compare_146 rfl (lv_at hl 0 rfl) ?_
      refine xg_e E hC dx_compare_147 ?_
      refine xld E hC (by first | exact hac | exact hw (b8_200 (by assumption)) | exact hw (b8_216 (by assumption))) dx_compare_150 ?_
      refine kx_holds E hl.1 hC (hac) (by decide) (Nat.le_of_ble_eq_true rfl) dx_compare_151 (fun H locs hC => ?_)
      refine kx_skipIf E hl.1 hC (hac) (by decide) (Nat.le_of_ble_eq_true rfl) dx_compare_154 (fun H locs hC => ?_)
      exact hret _ _ _ _ dx_compare_157 hC  (nw_i _)
    · rw [if_neg h2] at hret
      by_cases h3 : (op &&& (504 : Int32)) = 208
      · rw [if_pos h3] at hret
        refine lv_lookup (off := 118) (tgt := 158) hx hb dx_compare_40 (by decide) (by rw [h3]; rfl) (by decide) ?_
        refine lv_aload_n hx hb dx_compare_158 rfl (lv_at hl 0 rfl) ?_
        refine lv_aload_n hx hb dx_compare_159 rfl (lv_at hl 0 rfl) ?_
        refine lv_aload_n hx hb dx_compare_160 rfl (lv_at hl 0 rfl) ?_
        refine xg_word E hC dx_compare_161 ?_
        refine lv_aload_n hx hb dx_compare_164 rfl (lv_at hl 0 rfl) ?_
        refine xg_ac E hC dx_compare_165 ?_
        refine xld E hC (hac) dx_compare_168 ?_
        refine lv_lconst (v := (0 : Int64)) hx hb dx_compare_169 (by decide) ?_
        refine kx_holds E hl.1 hC (hac) (by decide) (Nat.le_of_ble_eq_true rfl) dx_compare_170 (fun H locs hC => ?_)
        refine kx_jumpIf E hl.1 hC (hac) (by decide) (Nat.le_of_ble_eq_true rfl) dx_compare_173 (fun H locs hC => ?_)
        exact hret _ _ _ _ dx_compare_176 hC  (nw_i _)
      · rw [if_neg h3] at hret
        by_cases h4 : (op &&& (504 : Int32)) = 216
        · rw [if_pos h4] at hret
          refine lv_lookup (off := 137) (tgt := 177) hx hb dx_compare_40 (by decide) (by rw [h4]; rfl) (by decide) ?_
          refine lv_aload_n hx hb dx_compare_177 rfl (lv_at hl 0 rfl) ?_
          refine lv_aload_n hx hb dx_compare_178 rfl (lv_at hl 0 rfl) ?_
          refine xg_word E hC dx_compare_179 ?_
          refine lv_aload_n hx hb dx_compare_182 rfl (lv_at hl 0 rfl) ?_
          refine xg_e E hC dx_compare_183 ?_
          refine xld E hC (by first | exact hac | exact hw (b8_200 (by assumption)) | exact hw (b8_216 (by assumption))) dx_compare_186 ?_
          refine kx_skipOnWord E hl.1 hC (hac) (by decide) (Nat.le_of_ble_eq_true rfl) dx_compare_187 (fun H locs hC => ?_)
          exact hret _ _ _ _ dx_compare_190 hC  (nw_i _)
        · rw [if_neg h4] at hret
          by_cases h5 : (op &&& (504 : Int32)) = 224
          · rw [if_pos h5] at hret
            refine lv_lookup (off := 151) (tgt := 191) hx hb dx_compare_40 (by decide) (by rw [h5]; rfl) (by decide) ?_
            refine lv_aload_n hx hb dx_compare_191 rfl (lv_at hl 0 rfl) ?_
            refine lv_iconst (v := (1 : Int32)) hx hb dx_compare_192 (by decide) ?_
            refine kx_countAc E hl.1 hC (hac) (by decide) (Nat.le_of_ble_eq_true rfl) dx_compare_193 (fun H locs hC => ?_)
            exact hret _ _ _ _ dx_compare_196 hC  (nw_i _)
          · rw [if_neg h5] at hret
            by_cases h6 : (op &&& (504 : Int32)) = 232
            · rw [if_pos h6] at hret
              refine lv_lookup (off := 157) (tgt := 197) hx hb dx_compare_40 (by decide) (by rw [h6]; rfl) (by decide) ?_
              refine lv_aload_n hx hb dx_compare_197 rfl (lv_at hl 0 rfl) ?_
              refine lv_iconst (v := (1 : Int32)) hx hb dx_compare_198 (by decide) ?_
              refine kx_countWord E hl.1 hC (hac) (by first | exact hw (b8_232 (by assumption)) | exact hw (b8_dfl hop (by assumption) (by assumption) (by assumption) (by assumption))) (by decide) (Nat.le_of_ble_eq_true rfl) dx_compare_199 (fun H locs hC => ?_)
              exact hret _ _ _ _ dx_compare_202 hC  (nw_i _)
            · rw [if_neg h6] at hret
              by_cases h7 : (op &&& (504 : Int32)) = 240
              · rw [if_pos h7] at hret
                refine lv_lookup (off := 163) (tgt := 203) hx hb dx_compare_40 (by decide) (by rw [h7]; rfl) (by decide) ?_
                refine lv_aload_n hx hb dx_compare_203 rfl (lv_at hl 0 rfl) ?_
                refine lv_iconst (v := (-1 : Int32)) hx hb dx_compare_204 (by decide) ?_
                refine kx_countAc E hl.1 hC (hac) (by decide) (Nat.le_of_ble_eq_true rfl) dx_compare_205 (fun H locs hC => ?_)
                exact hret _ _ _ _ dx_compare_208 hC  (nw_i _)
              · rw [if_neg h7] at hret
                refine lv_lookup (off := 169) (tgt := 209) hx hb dx_compare_40 (by decide) (by rw [show (#[(192, 68), (200, 91), (208, 118), (216, 137), (224, 151), (232, 157), (240, 163)] : Array (Int × Int)).toList = [(192, 68), (200, 91), (208, 118), (216, 137), (224, 151), (232, 157), (240, 163)] from rfl, lv_osw h1 (show (192 : Int32).toInt = 192 from rfl), lv_osw h2 (show (200 : Int32).toInt = 200 from rfl), lv_osw h3 (show (208 : Int32).toInt = 208 from rfl), lv_osw h4 (show (216 : Int32).toInt = 216 from rfl), lv_osw h5 (show (224 : Int32).toInt = 224 from rfl), lv_osw h6 (show (232 : Int32).toInt = 232 from rfl), lv_osw h7 (show (240 : Int32).toInt = 240 from rfl)]; rfl) (by decide) ?_
                refine lv_aload_n hx hb dx_compare_209 rfl (lv_at hl 0 rfl) ?_
                refine lv_iconst (v := (-1 : Int32)) hx hb dx_compare_210 (by decide) ?_
                refine kx_countWord E hl.1 hC (hac) (by first | exact hw (b8_232 (by assumption)) | exact hw (b8_dfl hop (by assumption) (by assumption) (by assumption) (by assumption))) (by decide) (Nat.le_of_ble_eq_true rfl) dx_compare_211 (fun H locs hC => ?_)
                exact hret _ _ _ _ dx_compare_214 hC  (nw_i _)
def fx_compare (k : kSx) (op ac ea : Int32)  : Int32 × kSx :=
  if (op &&& (8 : Int32)) = 0 then
    fx_compare_32 k op ac ea
  else
    if (fx_isThere ea) = 0 then
      ((2 : Int32), k)
    else
      fx_compare_32 k op ac ea
set_option maxRecDepth 100000 in
set_option maxHeartbeats 4000000 in
theorem wx_compare_0 {k : kSx} {op : Int32} {ac : Int32} {ea : Int32} {H : Heap} {locs : List Loc} {ls : Array Slot} (E : xE p s m args c cx_compare 2 D cA h0 q) (hC : xC D cA h0 q s.heap k op ac ea H locs) (hl : lv_has ls 2 [(0, .ref h0)]) (hac : vp_in ac 4096) (hop : (op >>> ((6 : Int32) &&& 31)) = 3) (hret : xwi p l env (rmD 3) s m args below meth c cx_compare D cA h0 q .int op ac ea Q (fx_compare k op ac ea)) : W p l env (rmD 3) s m args below meth c H locs 0 0 Q (F0 m 0 ls []) := by
  have hx := E.1.1; have hb := E.1.2.1
  unfold fx_compare at hret
  refine lv_aload_n hx hb dx_compare_0 rfl (lv_at hl 0 rfl) ?_
  refine xg_op E hC dx_compare_1 ?_
  refine lv_bipush (v := (8 : Int32)) hx hb dx_compare_4 (by decide) ?_
  refine lv_iand hx hb dx_compare_6 ?_
  refine lv_if_eq (tgt := 14) hx hb dx_compare_7 (by decide) (fun h1 => ?_) (fun h1 => ?_)
  · rw [if_pos h1] at hret
    refine lv_iconst (v := (0 : Int32)) hx hb dx_compare_14 (by decide) ?_
    refine lv_istore_n (lv' := [(1, .int (0 : Int32)), (0, .ref h0)]) hx hb dx_compare_15 rfl hl (by decide) rfl (fun ls hl => ?_)
    refine lv_iload_n hx hb dx_compare_16 rfl (lv_at hl 0 rfl) ?_
    refine lv_if_eq (tgt := 32) hx hb dx_compare_17 (by decide) (fun _ => ?_) (fun h => absurd h (by decide))
    exact wx_compare_32 E hC (lv_sub hl [1] rfl) (hac) (hop) (fun hh => absurd h1 hh) hret
  · rw [if_neg h1] at hret
    refine lv_iconst (v := (1 : Int32)) hx hb dx_compare_10 (by decide) ?_
    refine lv_goto (tgt := 15) hx hb dx_compare_11 (by decide) ?_
    refine lv_istore_n (lv' := [(1, .int (1 : Int32)), (0, .ref h0)]) hx hb dx_compare_15 rfl hl (by decide) rfl (fun ls hl => ?_)
    refine lv_iload_n hx hb dx_compare_16 rfl (lv_at hl 0 rfl) ?_
    refine lv_if_eq (tgt := 32) hx hb dx_compare_17 (by decide) (fun h => absurd h (by decide)) (fun _ => ?_)
    refine lv_aload_n hx hb dx_compare_20 rfl (lv_at hl 1 rfl) ?_
    refine xg_e E hC dx_compare_21 ?_
    refine kx_isThere_in_x E.1 hl.1 (by decide) (Nat.le_of_ble_eq_true rfl) dx_compare_24 ?_
    refine lv_if_ne (tgt := 32) hx hb dx_compare_27 (by decide) (fun h2 => ?_) (fun h2 => ?_)
    · rw [if_neg h2] at hret
      exact wx_compare_32 E hC (lv_sub hl [1] rfl) (hac) (hop) (fun _ => vin_there h2) hret
    · rw [if_pos h2] at hret
      refine lv_iconst (v := (2 : Int32)) hx hb dx_compare_30 (by decide) ?_
      exact (xwi_out hret) _ _ _ _ dx_compare_31 hC  (nw_i _)
set_option maxRecDepth 100000 in
set_option maxHeartbeats 4000000 in
theorem mx_compare (l : Launch) (k : kSx) (op ac ea : Int32) (hac : vp_in ac 4096) (hop : (op >>> ((6 : Int32) &&& 31)) = 3) : xMet l yx_compare cx_compare 2 (some .int) 3 [] k op ac ea (some (.int (fx_compare k op ac ea).1)) (fx_compare k op ac ea).2 op ac ea :=
  xMet.ofi (by decide) rfl (fun _ => Nat.le_of_ble_eq_true rfl) (fun D cA h0 q p env s m args below meth c ls Q E hC hl hret => wx_compare_0 E hC (lv_sub hl [0] rfl) hac hop hret)
theorem gkx_compare : xYw R_x 65 yx_compare cx_compare 2 (some .int) 0 := ⟨wc_x_compare, wl_x_65, wi_x_compare, ws_x_compare, wn_x, ⟨by decide, by decide, by decide +kernel⟩, by decide⟩
theorem kx_compare {p : Program} {l : Launch} {env : Env} {s : State} {m : MethodId} {args : Array Value} {below : List Frame} {meth : Method} {c : Code} {H : Heap} {locs : List Loc} {Q : State → Prop} {cc : ByteArray} {pc nL d : Nat} {ls : Array Slot} {rest : List Value} {D : va_G} {cA : ClassId} {h0 q : Nat} {k : kSx} {op ac ea : Int32} (E : xE p s m args c cc nL D cA h0 q) (hls : ls.size = nL) (hC : xC D cA h0 q s.heap k op ac ea H locs) (hac : vp_in ac 4096) (hop : (op >>> ((6 : Int32) &&& 31)) = 3) (hd : 3 + 1 ≤ d) (hr : (rest.map fun v => v.category).sum ≤ 8) (hdg : decode cc pc = .ok (.invokevirtual 65, 3)) (kk : ∀ (H1 : Heap) (locs1 : List Loc), xC D cA h0 q s.heap (fx_compare k op ac ea).2 op ac ea H1 locs1 → W p l env (rmD d) s m args below meth c H1 locs1 0 0 Q (F0 m (pc + 3) ls (.int (fx_compare k op ac ea).1 :: rest))) : W p l env (rmD d) s m args below meth c H locs 0 0 Q (F0 m pc ls (.ref h0 :: rest)) :=
  xcall (av := []) E (mx_compare l k op ac ea  hac hop) gkx_compare rfl hls hC hd hr hdg kk
end TTV
