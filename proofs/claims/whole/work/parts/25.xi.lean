section TTV
variable {p : Program} {l : Launch} {env : Env} {s : State} {m : MethodId} {args : Array Value} {below : List Frame} {meth : Method} {c : Code} {Q : State → Prop} {D : va_G} {cA : ClassId} {h0 q : Nat}
/-! TenMachine.performTwoHundreds ()I -/
def fx_performTwoHundreds_96 (k : kSx) (op ac ea : Int32)  : Int32 × kSx :=
  (fx_move k op ac ea)
set_option maxRecDepth 100000 in
set_option maxHeartbeats 4000000 in
theorem wx_performTwoHundreds_96 {k : kSx} {op : Int32} {ac : Int32} {ea : Int32} {H : Heap} {locs : List Loc} {ls : Array Slot} (E : xE p s m args c cx_performTwoHundreds 1 D cA h0 q) (hC : xC D cA h0 q s.heap k op ac ea H locs) (hl : lv_has ls 1 [(0, .ref h0)]) (hac : vp_in ac 4096) (hret : xwi p l env (rmD 4) s m args below meth c cx_performTwoHundreds D cA h0 q .int op ac ea Q (fx_performTwoHundreds_96 k op ac ea)) : W p l env (rmD 4) s m args below meth c H locs 0 0 Q (F0 m 96 ls []) := by
  have hx := E.1.1; have hb := E.1.2.1
  unfold fx_performTwoHundreds_96 at hret
  refine lv_aload_n hx hb dx_performTwoHundreds_96 rfl (lv_at hl 0 rfl) ?_
  refine kx_move E hl.1 hC (hac) (by decide) (Nat.le_of_ble_eq_true rfl) dx_performTwoHundreds_97 (fun H locs hC => ?_)
  exact hret _ _ _ _ dx_performTwoHundreds_100 hC  (nw_i _)
def fx_performTwoHundreds_101 (k : kSx) (op ac ea : Int32)  : Int32 × kSx :=
  (fx_calculate k op ac ea)
set_option maxRecDepth 100000 in
set_option maxHeartbeats 4000000 in
theorem wx_performTwoHundreds_101 {k : kSx} {op : Int32} {ac : Int32} {ea : Int32} {H : Heap} {locs : List Loc} {ls : Array Slot} (E : xE p s m args c cx_performTwoHundreds 1 D cA h0 q) (hC : xC D cA h0 q s.heap k op ac ea H locs) (hl : lv_has ls 1 [(0, .ref h0)]) (hac : vp_in ac 4096) (hret : xwi p l env (rmD 4) s m args below meth c cx_performTwoHundreds D cA h0 q .int op ac ea Q (fx_performTwoHundreds_101 k op ac ea)) : W p l env (rmD 4) s m args below meth c H locs 0 0 Q (F0 m 101 ls []) := by
  have hx := E.1.1; have hb := E.1.2.1
  unfold fx_performTwoHundreds_101 at hret
  refine lv_aload_n hx hb dx_performTwoHundreds_101 rfl (lv_at hl 0 rfl) ?_
  refine kx_calculate E hl.1 hC (hac) (by decide) (Nat.le_of_ble_eq_true rfl) dx_performTwoHundreds_102 (fun H locs hC => ?_)
  exact hret _ _ _ _ dx_performTwoHundreds_105 hC  (nw_i _)
def fx_performTwoHundreds (k : kSx) (op ac ea : Int32)  : Int32 × kSx :=
  if (fx_family k op ac ea) = 128 then
    fx_performTwoHundreds_96 k op ac ea
  else
    if (fx_family k op ac ea) = 132 then
      fx_performTwoHundreds_96 k op ac ea
    else
      if (fx_family k op ac ea) = 136 then
        fx_performTwoHundreds_96 k op ac ea
      else
        if (fx_family k op ac ea) = 140 then
          fx_performTwoHundreds_96 k op ac ea
        else
          if (fx_family k op ac ea) = 144 then
            fx_performTwoHundreds_101 k op ac ea
          else
            if (fx_family k op ac ea) = 152 then
              (fx_divide k op ac ea)
            else
              if (fx_family k op ac ea) = 160 then
                (fx_shiftOrFindFirstOne k op ac ea)
              else
                if (fx_family k op ac ea) = 176 then
                  (fx_useStack k op ac ea)
                else
                  if (fx_family k op ac ea) = 184 then
                    fx_performTwoHundreds_101 k op ac ea
                  else
                    if (fx_family k op ac ea) = 188 then
                      fx_performTwoHundreds_101 k op ac ea
                    else
                      (fx_performSingle k op ac ea)
set_option maxRecDepth 100000 in
set_option maxHeartbeats 4000000 in
theorem wx_performTwoHundreds_0 {k : kSx} {op : Int32} {ac : Int32} {ea : Int32} {H : Heap} {locs : List Loc} {ls : Array Slot} (E : xE p s m args c cx_performTwoHundreds 1 D cA h0 q) (hC : xC D cA h0 q s.heap k op ac ea H locs) (hl : lv_has ls 1 [(0, .ref h0)]) (hac : vp_in ac 4096) (hret : xwi p l env (rmD 4) s m args below meth c cx_performTwoHundreds D cA h0 q .int op ac ea Q (fx_performTwoHundreds k op ac ea)) : W p l env (rmD 4) s m args below meth c H locs 0 0 Q (F0 m 0 ls []) := by
  have hx := E.1.1; have hb := E.1.2.1
  unfold fx_performTwoHundreds at hret
  refine lv_aload_n hx hb dx_performTwoHundreds_0 rfl (lv_at hl 0 rfl) ?_
  refine kx_family E hl.1 hC (hac) (by decide) (Nat.le_of_ble_eq_true rfl) dx_performTwoHundreds_1 (fun H locs hC => ?_)
  by_cases h1 : (fx_family k op ac ea) = 128
  · rw [if_pos h1] at hret
    refine lv_lookup (off := 92) (tgt := 96) hx hb dx_performTwoHundreds_4 (by decide) (by rw [h1]; rfl) (by decide) ?_
    exact wx_performTwoHundreds_96 E hC (lv_sub hl [0] rfl) (hac) hret
  · rw [if_neg h1] at hret
    by_cases h2 : (fx_family k op ac ea) = 132
    · rw [if_pos h2] at hret
      refine lv_lookup (off := 92) (tgt := 96) hx hb dx_performTwoHundreds_4 (by decide) (by rw [h2]; rfl) (by decide) ?_
      exact wx_performTwoHundreds_96 E hC (lv_sub hl [0] rfl) (hac) hret
    · rw [if_neg h2] at hret
      by_cases h3 : (fx_family k op ac ea) = 136
      · rw [if_pos h3] at hret
        refine lv_lookup (off := 92) (tgt := 96) hx hb dx_performTwoHundreds_4 (by decide) (by rw [h3]; rfl) (by decide) ?_
        exact wx_performTwoHundreds_96 E hC (lv_sub hl [0] rfl) (hac) hret
      · rw [if_neg h3] at hret
        by_cases h4 : (fx_family k op ac ea) = 140
        · rw [if_pos h4] at hret
          refine lv_lookup (off := 92) (tgt := 96) hx hb dx_performTwoHundreds_4 (by decide) (by rw [h4]; rfl) (by decide) ?_
          exact wx_performTwoHundreds_96 E hC (lv_sub hl [0] rfl) (hac) hret
        · rw [if_neg h4] at hret
          by_cases h5 : (fx_family k op ac ea) = 144
          · rw [if_pos h5] at hret
            refine lv_lookup (off := 97) (tgt := 101) hx hb dx_performTwoHundreds_4 (by decide) (by rw [h5]; rfl) (by decide) ?_
            exact wx_performTwoHundreds_101 E hC (lv_sub hl [0] rfl) (hac) hret
          · rw [if_neg h5] at hret
            by_cases h6 : (fx_family k op ac ea) = 152
            · rw [if_pos h6] at hret
              refine lv_lookup (off := 102) (tgt := 106) hx hb dx_performTwoHundreds_4 (by decide) (by rw [h6]; rfl) (by decide) ?_
              refine lv_aload_n hx hb dx_performTwoHundreds_106 rfl (lv_at hl 0 rfl) ?_
              refine kx_divide E hl.1 hC (hac) (by decide) (Nat.le_of_ble_eq_true rfl) dx_performTwoHundreds_107 (fun H locs hC => ?_)
              exact hret _ _ _ _ dx_performTwoHundreds_110 hC  (nw_i _)
            · rw [if_neg h6] at hret
              by_cases h7 : (fx_family k op ac ea) = 160
              · rw [if_pos h7] at hret
                refine lv_lookup (off := 107) (tgt := 111) hx hb dx_performTwoHundreds_4 (by decide) (by rw [h7]; rfl) (by decide) ?_
                refine lv_aload_n hx hb dx_performTwoHundreds_111 rfl (lv_at hl 0 rfl) ?_
                refine kx_shiftOrFindFirstOne E hl.1 hC (hac) (by decide) (Nat.le_of_ble_eq_true rfl) dx_performTwoHundreds_112 (fun H locs hC => ?_)
                exact hret _ _ _ _ dx_performTwoHundreds_115 hC  (nw_i _)
              · rw [if_neg h7] at hret
                by_cases h8 : (fx_family k op ac ea) = 176
                · rw [if_pos h8] at hret
                  refine lv_lookup (off := 112) (tgt := 116) hx hb dx_performTwoHundreds_4 (by decide) (by rw [h8]; rfl) (by decide) ?_
                  refine lv_aload_n hx hb dx_performTwoHundreds_116 rfl (lv_at hl 0 rfl) ?_
                  refine kx_useStack E hl.1 hC (hac) (by decide) (Nat.le_of_ble_eq_true rfl) dx_performTwoHundreds_117 (fun H locs hC => ?_)
                  exact hret _ _ _ _ dx_performTwoHundreds_120 hC  (nw_i _)
                · rw [if_neg h8] at hret
                  by_cases h9 : (fx_family k op ac ea) = 184
                  · rw [if_pos h9] at hret
                    refine lv_lookup (off := 97) (tgt := 101) hx hb dx_performTwoHundreds_4 (by decide) (by rw [h9]; rfl) (by decide) ?_
                    exact wx_performTwoHundreds_101 E hC (lv_sub hl [0] rfl) (hac) hret
                  · rw [if_neg h9] at hret
                    by_cases h10 : (fx_family k op ac ea) = 188
                    · rw [if_pos h10] at hret
                      refine lv_lookup (off := 97) (tgt := 101) hx hb dx_performTwoHundreds_4 (by decide) (by rw [h10]; rfl) (by decide) ?_
                      exact wx_performTwoHundreds_101 E hC (lv_sub hl [0] rfl) (hac) hret
                    · rw [if_neg h10] at hret
                      refine lv_lookup (off := 117) (tgt := 121) hx hb dx_performTwoHundreds_4 (by decide) (by rw [show (#[(128, 92), (132, 92), (136, 92), (140, 92), (144, 97), (152, 102), (160, 107), (176, 112), (184, 97), (188, 97)] : Array (Int × Int)).toList = [(128, 92), (132, 92), (136, 92), (140, 92), (144, 97), (152, 102), (160, 107), (176, 112), (184, 97), (188, 97)] from rfl, lv_osw h1 (show (128 : Int32).toInt = 128 from rfl), lv_osw h2 (show (132 : Int32).toInt = 132 from rfl), lv_osw h3 (show (136 : Int32).toInt = 136 from rfl), lv_osw h4 (show (140 : Int32).toInt = 140 from rfl), lv_osw h5 (show (144 : Int32).toInt = 144 from rfl), lv_osw h6 (show (152 : Int32).toInt = 152 from rfl), lv_osw h7 (show (160 : Int32).toInt = 160 from rfl), lv_osw h8 (show (176 : Int32).toInt = 176 from rfl), lv_osw h9 (show (184 : Int32).toInt = 184 from rfl), lv_osw h10 (show (188 : Int32).toInt = 188 from rfl)]; rfl) (by decide) ?_
                      refine lv_aload_n hx hb dx_performTwoHundreds_121 rfl (lv_at hl 0 rfl) ?_
                      refine kx_performSingle E hl.1 hC (hac) (by decide) (Nat.le_of_ble_eq_true rfl) dx_performTwoHundreds_122 (fun H locs hC => ?_)
                      exact hret _ _ _ _ dx_performTwoHundreds_125 hC  (nw_i _)
set_option maxRecDepth 100000 in
set_option maxHeartbeats 4000000 in
theorem mx_performTwoHundreds (l : Launch) (k : kSx) (op ac ea : Int32) (hac : vp_in ac 4096) : xMet l yx_performTwoHundreds cx_performTwoHundreds 1 (some .int) 4 [] k op ac ea (some (.int (fx_performTwoHundreds k op ac ea).1)) (fx_performTwoHundreds k op ac ea).2 op ac ea :=
  xMet.ofi (by decide) rfl (fun _ => Nat.le_of_ble_eq_true rfl) (fun D cA h0 q p env s m args below meth c ls Q E hC hl hret => wx_performTwoHundreds_0 E hC (lv_sub hl [0] rfl) hac hret)
theorem gkx_performTwoHundreds : xYw R_x 62 yx_performTwoHundreds cx_performTwoHundreds 1 (some .int) 0 := ⟨wc_x_performTwoHundreds, wl_x_62, wi_x_performTwoHundreds, ws_x_performTwoHundreds, wn_x, ⟨by decide, by decide, by decide +kernel⟩, by decide⟩
theorem kx_performTwoHundreds {p : Program} {l : Launch} {env : Env} {s : State} {m : MethodId} {args : Array Value} {below : List Frame} {meth : Method} {c : Code} {H : Heap} {locs : List Loc} {Q : State → Prop} {cc : ByteArray} {pc nL d : Nat} {ls : Array Slot} {rest : List Value} {D : va_G} {cA : ClassId} {h0 q : Nat} {k : kSx} {op ac ea : Int32} (E : xE p s m args c cc nL D cA h0 q) (hls : ls.size = nL) (hC : xC D cA h0 q s.heap k op ac ea H locs) (hac : vp_in ac 4096) (hd : 4 + 1 ≤ d) (hr : (rest.map fun v => v.category).sum ≤ 8) (hdg : decode cc pc = .ok (.invokevirtual 62, 3)) (kk : ∀ (H1 : Heap) (locs1 : List Loc), xC D cA h0 q s.heap (fx_performTwoHundreds k op ac ea).2 op ac ea H1 locs1 → W p l env (rmD d) s m args below meth c H1 locs1 0 0 Q (F0 m (pc + 3) ls (.int (fx_performTwoHundreds k op ac ea).1 :: rest))) : W p l env (rmD d) s m args below meth c H locs 0 0 Q (F0 m pc ls (.ref h0 :: rest)) :=
  xcall (av := []) E (mx_performTwoHundreds l k op ac ea  hac) gkx_performTwoHundreds rfl hls hC hd hr hdg kk
/-! TenMachine.perform ()I -/
def fx_perform (k : kSx) (op ac ea : Int32)  : Int32 × kSx :=
  if (op >>> ((6 : Int32) &&& 31)) = 2 then
    (fx_performTwoHundreds k op ac ea)
  else
    if (op >>> ((6 : Int32) &&& 31)) = 3 then
      (fx_compare k op ac ea)
    else
      if (op >>> ((6 : Int32) &&& 31)) = 4 then
        (fx_combineBits k op ac ea)
      else
        if (op >>> ((6 : Int32) &&& 31)) = 5 then
          (fx_moveHalf k op ac ea)
        else
          if (op >>> ((6 : Int32) &&& 31)) = 6 then
            (fx_testBits k op ac ea)
          else
            ((1 : Int32), k)
set_option maxRecDepth 100000 in
set_option maxHeartbeats 4000000 in
theorem wx_perform_0 {k : kSx} {op : Int32} {ac : Int32} {ea : Int32} {H : Heap} {locs : List Loc} {ls : Array Slot} (E : xE p s m args c cx_perform 1 D cA h0 q) (hC : xC D cA h0 q s.heap k op ac ea H locs) (hl : lv_has ls 1 [(0, .ref h0)]) (hac : vp_in ac 4096) (hret : xwi p l env (rmD 5) s m args below meth c cx_perform D cA h0 q .int op ac ea Q (fx_perform k op ac ea)) : W p l env (rmD 5) s m args below meth c H locs 0 0 Q (F0 m 0 ls []) := by
  have hx := E.1.1; have hb := E.1.2.1
  unfold fx_perform at hret
  refine lv_aload_n hx hb dx_perform_0 rfl (lv_at hl 0 rfl) ?_
  refine xg_op E hC dx_perform_1 ?_
  refine lv_bipush (v := (6 : Int32)) hx hb dx_perform_4 (by decide) ?_
  refine lv_ishr hx hb dx_perform_6 ?_
  by_cases h1 : (op >>> ((6 : Int32) &&& 31)) = 2
  · rw [if_pos h1] at hret
    refine lv_tableIn (off := 33) (tgt := 40) hx hb dx_perform_7 (by rw [h1]; decide) (by rw [h1]; decide) (by rw [h1]; rfl) (by decide) ?_
    refine lv_aload_n hx hb dx_perform_40 rfl (lv_at hl 0 rfl) ?_
    refine kx_performTwoHundreds E hl.1 hC (hac) (by decide) (Nat.le_of_ble_eq_true rfl) dx_perform_41 (fun H locs hC => ?_)
    exact hret _ _ _ _ dx_perform_44 hC  (nw_i _)
  · rw [if_neg h1] at hret
    by_cases h2 : (op >>> ((6 : Int32) &&& 31)) = 3
    · rw [if_pos h2] at hret
      refine lv_tableIn (off := 38) (tgt := 45) hx hb dx_perform_7 (by rw [h2]; decide) (by rw [h2]; decide) (by rw [h2]; rfl) (by decide) ?_
      refine lv_aload_n hx hb dx_perform_45 rfl (lv_at hl 0 rfl) ?_
      refine kx_compare E hl.1 hC (hac) (by assumption) (by decide) (Nat.le_of_ble_eq_true rfl) dx_perform_46 (fun H locs hC => ?_)
      exact hret _ _ _ _ dx_perform_49 hC  (nw_i _)
    · rw [if_neg h2] at hret
      by_cases h3 : (op >>> ((6 : Int32) &&& 31)) = 4
      · rw [if_pos h3] at hret
        refine lv_tableIn (off := 43) (tgt := 50) hx hb dx_perform_7 (by rw [h3]; decide) (by rw [h3]; decide) (by rw [h3]; rfl) (by decide) ?_
        refine lv_aload_n hx hb dx_perform_50 rfl (lv_at hl 0 rfl) ?_
        refine kx_combineBits E hl.1 hC (hac) (by decide) (Nat.le_of_ble_eq_true rfl) dx_perform_51 (fun H locs hC => ?_)
        exact hret _ _ _ _ dx_perform_54 hC  (nw_i _)
      · rw [if_neg h3] at hret
        by_cases h4 : (op >>> ((6 : Int32) &&& 31)) = 5
        · rw [if_pos h4] at hret
          refine lv_tableIn (off := 48) (tgt := 55) hx hb dx_perform_7 (by rw [h4]; decide) (by rw [h4]; decide) (by rw [h4]; rfl) (by decide) ?_
          refine lv_aload_n hx hb dx_perform_55 rfl (lv_at hl 0 rfl) ?_
          refine kx_moveHalf E hl.1 hC (hac) (by decide) (Nat.le_of_ble_eq_true rfl) dx_perform_56 (fun H locs hC => ?_)
          exact hret _ _ _ _ dx_perform_59 hC  (nw_i _)
        · rw [if_neg h4] at hret
          by_cases h5 : (op >>> ((6 : Int32) &&& 31)) = 6
          · rw [if_pos h5] at hret
            refine lv_tableIn (off := 53) (tgt := 60) hx hb dx_perform_7 (by rw [h5]; decide) (by rw [h5]; decide) (by rw [h5]; rfl) (by decide) ?_
            refine lv_aload_n hx hb dx_perform_60 rfl (lv_at hl 0 rfl) ?_
            refine kx_testBits E hl.1 hC (hac) (by decide) (Nat.le_of_ble_eq_true rfl) dx_perform_61 (fun H locs hC => ?_)
            exact hret _ _ _ _ dx_perform_64 hC  (nw_i _)
          · rw [if_neg h5] at hret
            refine lv_tableOut (tgt := 65) hx hb dx_perform_7 (by have := lv_neT h1 (show (2 : Int32).toInt = 2 from rfl); have := lv_neT h2 (show (3 : Int32).toInt = 3 from rfl); have := lv_neT h3 (show (4 : Int32).toInt = 4 from rfl); have := lv_neT h4 (show (5 : Int32).toInt = 5 from rfl); have := lv_neT h5 (show (6 : Int32).toInt = 6 from rfl); omega) (by decide) ?_
            refine lv_iconst (v := (1 : Int32)) hx hb dx_perform_65 (by decide) ?_
            exact (xwi_out hret) _ _ _ _ dx_perform_66 hC  (nw_i _)
set_option maxRecDepth 100000 in
set_option maxHeartbeats 4000000 in
theorem mx_perform (l : Launch) (k : kSx) (op ac ea : Int32) (hac : vp_in ac 4096) : xMet l yx_perform cx_perform 1 (some .int) 5 [] k op ac ea (some (.int (fx_perform k op ac ea).1)) (fx_perform k op ac ea).2 op ac ea :=
  xMet.ofi (by decide) rfl (fun _ => Nat.le_of_ble_eq_true rfl) (fun D cA h0 q p env s m args below meth c ls Q E hC hl hret => wx_perform_0 E hC (lv_sub hl [0] rfl) hac hret)
theorem gkx_perform : xYw R_x 41 yx_perform cx_perform 1 (some .int) 0 := ⟨wc_x_perform, wl_x_41, wi_x_perform, ws_x_perform, wn_x, ⟨by decide, by decide, by decide +kernel⟩, by decide⟩
theorem kx_perform {p : Program} {l : Launch} {env : Env} {s : State} {m : MethodId} {args : Array Value} {below : List Frame} {meth : Method} {c : Code} {H : Heap} {locs : List Loc} {Q : State → Prop} {cc : ByteArray} {pc nL d : Nat} {ls : Array Slot} {rest : List Value} {D : va_G} {cA : ClassId} {h0 q : Nat} {k : kSx} {op ac ea : Int32} (E : xE p s m args c cc nL D cA h0 q) (hls : ls.size = nL) (hC : xC D cA h0 q s.heap k op ac ea H locs) (hac : vp_in ac 4096) (hd : 5 + 1 ≤ d) (hr : (rest.map fun v => v.category).sum ≤ 8) (hdg : decode cc pc = .ok (.invokevirtual 41, 3)) (kk : ∀ (H1 : Heap) (locs1 : List Loc), xC D cA h0 q s.heap (fx_perform k op ac ea).2 op ac ea H1 locs1 → W p l env (rmD d) s m args below meth c H1 locs1 0 0 Q (F0 m (pc + 3) ls (.int (fx_perform k op ac ea).1 :: rest))) : W p l env (rmD d) s m args below meth c H locs 0 0 Q (F0 m pc ls (.ref h0 :: rest)) :=
  xcall (av := []) E (mx_perform l k op ac ea  hac) gkx_perform rfl hls hC hd hr hdg kk
/-! TenMachine.step ()I -/
def fx_step_10 (k : kSx) (op ac ea : Int32) (v1 : Int32) (t0 : Int32) : Int32 × zS :=
  if t0 = 0 then
    ((2 : Int32), (k, op, ac, ea))
  else
    if ((fx_perform (vx_pc k (v1 + (1 : Int32))) op ac ea).1) = (2 : Int32) then
      ((fx_perform (vx_pc k (v1 + (1 : Int32))) op ac ea).1, (vx_pc ((fx_perform (vx_pc k (v1 + (1 : Int32))) op ac ea).2) v1, op, ac, ea))
    else
      ((fx_perform (vx_pc k (v1 + (1 : Int32))) op ac ea).1, ((fx_perform (vx_pc k (v1 + (1 : Int32))) op ac ea).2, op, ac, ea))
set_option maxRecDepth 100000 in
set_option maxHeartbeats 4000000 in
theorem wx_step_10 {k : kSx} {op : Int32} {ac : Int32} {ea : Int32} {v1 : Int32} {t0 : Int32} {H : Heap} {locs : List Loc} {ls : Array Slot} (E : xE p s m args c cx_step 3 D cA h0 q) (hC : xC D cA h0 q s.heap k op ac ea H locs) (hl : lv_has ls 3 [(0, .ref h0), (1, .int v1)]) (hfa : ¬ t0 = 0 → vp_in ac 4096) (hret : xfi p l env (rmD 6) s m args below meth c cx_step D cA h0 q .int Q (fx_step_10 k op ac ea v1 t0)) : W p l env (rmD 6) s m args below meth c H locs 0 0 Q (F0 m 10 ls [.int t0]) := by
  have hx := E.1.1; have hb := E.1.2.1
  unfold fx_step_10 at hret
  refine lv_if_ne (tgt := 15) hx hb dx_step_10 (by decide) (fun h1 => ?_) (fun h1 => ?_)
  · rw [if_neg h1] at hret
    refine lv_aload_n hx hb dx_step_15 rfl (lv_at hl 0 rfl) ?_
    refine lv_iload_n hx hb dx_step_16 rfl (lv_at hl 1 rfl) ?_
    refine lv_iconst (v := (1 : Int32)) hx hb dx_step_17 (by decide) ?_
    refine lv_iadd hx hb dx_step_18 ?_
    refine xp_pc E hC dx_step_19 (fun H locs hC => ?_)
    refine lv_aload_n hx hb dx_step_22 rfl (lv_at hl 0 rfl) ?_
    refine kx_perform E hl.1 hC (hfa (by assumption)) (by decide) (Nat.le_of_ble_eq_true rfl) dx_step_23 (fun H locs hC => ?_)
    refine lv_istore_n (lv' := [(2, .int ((fx_perform (vx_pc k (v1 + (1 : Int32))) op ac ea).1)), (0, .ref h0), (1, .int v1)]) hx hb dx_step_26 rfl hl (by decide) rfl (fun ls hl => ?_)
    refine lv_iload_n hx hb dx_step_27 rfl (lv_at hl 0 rfl) ?_
    refine lv_iconst (v := (2 : Int32)) hx hb dx_step_28 (by decide) ?_
    refine lv_icmp_ne (tgt := 37) hx hb dx_step_29 (by decide) (fun h2 => ?_) (fun h2 => ?_)
    · rw [if_neg h2] at hret
      refine lv_iload_n hx hb dx_step_37 rfl (lv_at hl 0 rfl) ?_
      exact (xfi_out hret) _ _ _ _ dx_step_38 hC  (nw_i _)
    · rw [if_pos h2] at hret
      refine lv_aload_n hx hb dx_step_32 rfl (lv_at hl 1 rfl) ?_
      refine lv_iload_n hx hb dx_step_33 rfl (lv_at hl 2 rfl) ?_
      refine xp_pc E hC dx_step_34 (fun H locs hC => ?_)
      refine lv_iload_n hx hb dx_step_37 rfl (lv_at hl 0 rfl) ?_
      exact (xfi_out hret) _ _ _ _ dx_step_38 hC  (nw_i _)
  · rw [if_pos h1] at hret
    refine lv_iconst (v := (2 : Int32)) hx hb dx_step_13 (by decide) ?_
    exact (xfi_out hret) _ _ _ _ dx_step_14 hC  (nw_i _)
def fx_step (k : kSx) (op ac ea : Int32)  : Int32 × zS :=
  fx_step_10 ((fx_fetch k op ac ea (ux_pc k)).2.1) ((fx_fetch k op ac ea (ux_pc k)).2.2.1) ((fx_fetch k op ac ea (ux_pc k)).2.2.2.1) ((fx_fetch k op ac ea (ux_pc k)).2.2.2.2) (ux_pc k) ((fx_fetch k op ac ea (ux_pc k)).1)
set_option maxRecDepth 100000 in
set_option maxHeartbeats 4000000 in
theorem wx_step_0 {k : kSx} {op : Int32} {ac : Int32} {ea : Int32} {H : Heap} {locs : List Loc} {ls : Array Slot} (E : xE p s m args c cx_step 3 D cA h0 q) (hC : xC D cA h0 q s.heap k op ac ea H locs) (hl : lv_has ls 3 [(0, .ref h0)]) (hret : xfi p l env (rmD 6) s m args below meth c cx_step D cA h0 q .int Q (fx_step k op ac ea)) : W p l env (rmD 6) s m args below meth c H locs 0 0 Q (F0 m 0 ls []) := by
  have hx := E.1.1; have hb := E.1.2.1
  unfold fx_step at hret
  refine lv_aload_n hx hb dx_step_0 rfl (lv_at hl 0 rfl) ?_
  refine xg_pc E hC dx_step_1 ?_
  refine lv_istore_n (lv' := [(1, .int (ux_pc k)), (0, .ref h0)]) hx hb dx_step_4 rfl hl (by decide) rfl (fun ls hl => ?_)
  refine lv_aload_n hx hb dx_step_5 rfl (lv_at hl 1 rfl) ?_
  refine lv_iload_n hx hb dx_step_6 rfl (lv_at hl 0 rfl) ?_
  refine kx_fetch E hl.1 hC (by decide) (Nat.le_of_ble_eq_true rfl) dx_step_7 (fun H locs hC => ?_)
  exact wx_step_10 E hC (lv_sub hl [1, 0] rfl) (fetch_ac) hret
set_option maxRecDepth 100000 in
set_option maxHeartbeats 4000000 in
theorem mx_step (l : Launch) (k : kSx) (op ac ea : Int32) : xMet l yx_step cx_step 3 (some .int) 6 [] k op ac ea (some (.int (fx_step k op ac ea).1)) (fx_step k op ac ea).2.1 (fx_step k op ac ea).2.2.1 (fx_step k op ac ea).2.2.2.1 (fx_step k op ac ea).2.2.2.2 :=
  xMet.ofi (by decide) rfl (fun _ => Nat.le_of_ble_eq_true rfl) (fun D cA h0 q p env s m args below meth c ls Q E hC hl hret => wx_step_0 E hC (lv_sub hl [0] rfl) hret)
theorem gkx_step : xYw R_x 34 yx_step cx_step 3 (some .int) 0 := ⟨wc_x_step, wl_x_34, wi_x_step, ws_x_step, wn_x, ⟨by decide, by decide, by decide +kernel⟩, by decide⟩
theorem kx_step {p : Program} {l : Launch} {env : Env} {s : State} {m : MethodId} {args : Array Value} {below : List Frame} {meth : Method} {c : Code} {H : Heap} {locs : List Loc} {Q : State → Prop} {cc : ByteArray} {pc nL d : Nat} {ls : Array Slot} {rest : List Value} {D : va_G} {cA : ClassId} {h0 q : Nat} {k : kSx} {op ac ea : Int32} (E : xE p s m args c cc nL D cA h0 q) (hls : ls.size = nL) (hC : xC D cA h0 q s.heap k op ac ea H locs) (hd : 6 + 1 ≤ d) (hr : (rest.map fun v => v.category).sum ≤ 8) (hdg : decode cc pc = .ok (.invokevirtual 34, 3)) (kk : ∀ (H1 : Heap) (locs1 : List Loc), xC D cA h0 q s.heap (fx_step k op ac ea).2.1 (fx_step k op ac ea).2.2.1 (fx_step k op ac ea).2.2.2.1 (fx_step k op ac ea).2.2.2.2 H1 locs1 → W p l env (rmD d) s m args below meth c H1 locs1 0 0 Q (F0 m (pc + 3) ls (.int (fx_step k op ac ea).1 :: rest))) : W p l env (rmD d) s m args below meth c H locs 0 0 Q (F0 m pc ls (.ref h0 :: rest)) :=
  xcall (av := []) E (mx_step l k op ac ea ) gkx_step rfl hls hC hd hr hdg kk
/-! TenMachine.go (IIZ)I -/
def fx_go_45 : Nat → kSx → Int32 → Int32 → Int32 → Int32 → Int32 → Int32 → Int32 × zS
  | 0, k, op, ac, ea, v2, v4, v5 => (0, (k, op, ac, ea))
  | n + 1, k, op, ac, ea, v2, v4, v5 =>
    if v2 ≤ v5 then
      (v4, (k, op, ac, ea))
    else
      if v4 = 0 then
        if ((fx_step k op ac ea).1) = (2 : Int32) then
          fx_go_45 n ((fx_step k op ac ea).2.1) ((fx_step k op ac ea).2.2.1) ((fx_step k op ac ea).2.2.2.1) ((fx_step k op ac ea).2.2.2.2) v2 ((fx_step k op ac ea).1) (v5 + 1)
        else
          fx_go_45 n (vx_dn ((fx_step k op ac ea).2.1) ((ux_dn ((fx_step k op ac ea).2.1)) + (1 : Int32))) ((fx_step k op ac ea).2.2.1) ((fx_step k op ac ea).2.2.2.1) ((fx_step k op ac ea).2.2.2.2) v2 ((fx_step k op ac ea).1) (v5 + 1)
      else
        (v4, (k, op, ac, ea))
set_option maxRecDepth 100000 in
set_option maxHeartbeats 4000000 in
theorem wx_go_45 (E : xE p s m args c cx_go 6 D cA h0 q) : ∀ (n : Nat) (k : kSx) (op : Int32) (ac : Int32) (ea : Int32) (v2 : Int32) (v4 : Int32) (v5 : Int32) (H : Heap) (locs : List Loc) (ls : Array Slot), xC D cA h0 q s.heap k op ac ea H locs → lv_has ls 6 [(0, .ref h0), (2, .int v2), (4, .int v4), (5, .int v5)] → (v2.toInt - v5.toInt).toNat < n → xfi p l env (rmD 7) s m args below meth c cx_go D cA h0 q .int Q (fx_go_45 n k op ac ea v2 v4 v5) → W p l env (rmD 7) s m args below meth c H locs 0 0 Q (F0 m 45 ls []) := by
  have hx := E.1.1; have hb := E.1.2.1
  intro n
  induction n with
  | zero => intro k op ac ea v2 v4 v5 H locs ls hC hl  hmu hret; exact absurd hmu (Nat.not_lt_zero _)
  | succ n ih =>
    intro k op ac ea v2 v4 v5 H locs ls hC hl  hmu hret
    rw [fx_go_45] at hret
    refine lv_iload hx hb dx_go_45 (lv_at hl 3 rfl) ?_
    refine lv_iload_n hx hb dx_go_47 rfl (lv_at hl 1 rfl) ?_
    refine lv_icmp_ge (tgt := 84) hx hb dx_go_48 (by decide) (fun h1 => ?_) (fun h1 => ?_)
    · rw [if_pos h1] at hret
      refine lv_iload hx hb dx_go_84 (lv_at hl 2 rfl) ?_
      exact (xfi_out hret) _ _ _ _ dx_go_86 hC  (nw_i _)
    · rw [if_neg h1] at hret
      refine lv_iload hx hb dx_go_51 (lv_at hl 2 rfl) ?_
      refine lv_if_ne (tgt := 84) hx hb dx_go_53 (by decide) (fun h2 => ?_) (fun h2 => ?_)
      · rw [if_neg h2] at hret
        refine lv_iload hx hb dx_go_84 (lv_at hl 2 rfl) ?_
        exact (xfi_out hret) _ _ _ _ dx_go_86 hC  (nw_i _)
      · rw [if_pos h2] at hret
        refine lv_aload_n hx hb dx_go_56 rfl (lv_at hl 0 rfl) ?_
        refine kx_step E hl.1 hC (by decide) (Nat.le_of_ble_eq_true rfl) dx_go_57 (fun H locs hC => ?_)
        refine lv_istore (lv' := [(4, .int ((fx_step k op ac ea).1)), (0, .ref h0), (2, .int v2), (5, .int v5)]) hx hb dx_go_60 hl (by decide) rfl (fun ls hl => ?_)
        refine lv_iload hx hb dx_go_62 (lv_at hl 0 rfl) ?_
        refine lv_iconst (v := (2 : Int32)) hx hb dx_go_64 (by decide) ?_
        refine lv_icmp_eq (tgt := 78) hx hb dx_go_65 (by decide) (fun h3 => ?_) (fun h3 => ?_)
        · rw [if_pos h3] at hret
          refine lv_iinc (v := (v5 + 1)) (lv' := [(5, .int (v5 + 1)), (4, .int ((fx_step k op ac ea).1)), (0, .ref h0), (2, .int v2)]) hx hb dx_go_78 hl (k := 3) rfl (by rfl) (by decide) rfl (fun ls hl => ?_)
          refine lv_goto (tgt := 45) hx hb dx_go_81 (by decide) ?_
          exact ih _ _ _ _ _ _ _ _ _ _ hC (lv_sub hl [2, 3, 1, 0] rfl) (mu_up (by assumption) hmu) hret
        · rw [if_neg h3] at hret
          refine lv_aload_n hx hb dx_go_68 rfl (lv_at hl 1 rfl) ?_
          refine lv_dup hx hb dx_go_69 rfl ?_
          refine xg_doneByLatestGo E hC dx_go_70 ?_
          refine lv_iconst (v := (1 : Int32)) hx hb dx_go_73 (by decide) ?_
          refine lv_iadd hx hb dx_go_74 ?_
          refine xp_doneByLatestGo E hC dx_go_75 (fun H locs hC => ?_)
          refine lv_iinc (v := (v5 + 1)) (lv' := [(5, .int (v5 + 1)), (4, .int ((fx_step k op ac ea).1)), (0, .ref h0), (2, .int v2)]) hx hb dx_go_78 hl (k := 3) rfl (by rfl) (by decide) rfl (fun ls hl => ?_)
          refine lv_goto (tgt := 45) hx hb dx_go_81 (by decide) ?_
          exact ih _ _ _ _ _ _ _ _ _ _ hC (lv_sub hl [2, 3, 1, 0] rfl) (mu_up (by assumption) hmu) hret
def fx_go_34 (k : kSx) (op ac ea : Int32) (v2 : Int32) : Int32 × zS :=
  fx_go_45 501 (vx_dn k (0 : Int32)) op ac ea v2 (0 : Int32) (0 : Int32)
set_option maxRecDepth 100000 in
set_option maxHeartbeats 4000000 in
theorem wx_go_34 {k : kSx} {op : Int32} {ac : Int32} {ea : Int32} {v2 : Int32} {H : Heap} {locs : List Loc} {ls : Array Slot} (E : xE p s m args c cx_go 6 D cA h0 q) (hC : xC D cA h0 q s.heap k op ac ea H locs) (hl : lv_has ls 6 [(0, .ref h0), (2, .int v2)]) (hn5 : v2 ≤ 500) (hret : xfi p l env (rmD 7) s m args below meth c cx_go D cA h0 q .int Q (fx_go_34 k op ac ea v2)) : W p l env (rmD 7) s m args below meth c H locs 0 0 Q (F0 m 34 ls []) := by
  have hx := E.1.1; have hb := E.1.2.1
  unfold fx_go_34 at hret
  refine lv_aload_n hx hb dx_go_34 rfl (lv_at hl 0 rfl) ?_
  refine lv_iconst (v := (0 : Int32)) hx hb dx_go_35 (by decide) ?_
  refine xp_doneByLatestGo E hC dx_go_36 (fun H locs hC => ?_)
  refine lv_iconst (v := (0 : Int32)) hx hb dx_go_39 (by decide) ?_
  refine lv_istore (lv' := [(4, .int (0 : Int32)), (0, .ref h0), (2, .int v2)]) hx hb dx_go_40 hl (by decide) rfl (fun ls hl => ?_)
  refine lv_iconst (v := (0 : Int32)) hx hb dx_go_42 (by decide) ?_
  refine lv_istore (lv' := [(5, .int (0 : Int32)), (4, .int (0 : Int32)), (0, .ref h0), (2, .int v2)]) hx hb dx_go_43 hl (by decide) rfl (fun ls hl => ?_)
  exact wx_go_45 E 501 _ _ _ _ _ _ _ _ _ _ hC (lv_sub hl [2, 3, 1, 0] rfl) (mu_go (by assumption)) hret
def fx_go (k : kSx) (op ac ea : Int32) (v1 : Int32) (v2 : Int32) (v3 : Int32) : Int32 × zS :=
  if (fx_isThere v1) = 0 then
    ((-1 : Int32), (k, op, ac, ea))
  else
    if v2 < 0 then
      ((-1 : Int32), (k, op, ac, ea))
    else
      if v2 ≤ (500 : Int32) then
        if v3 = 0 then
          fx_go_34 (vx_pc k v1) op ac ea v2
        else
          fx_go_34 (vx_ov (vx_pc k v1) (0 : Int32)) op ac ea v2
      else
        ((-1 : Int32), (k, op, ac, ea))
set_option maxRecDepth 100000 in
set_option maxHeartbeats 4000000 in
theorem wx_go_0 {k : kSx} {op : Int32} {ac : Int32} {ea : Int32} {v1 : Int32} {v2 : Int32} {v3 : Int32} {H : Heap} {locs : List Loc} {ls : Array Slot} (E : xE p s m args c cx_go 6 D cA h0 q) (hC : xC D cA h0 q s.heap k op ac ea H locs) (hl : lv_has ls 6 [(0, .ref h0), (1, .int v1), (2, .int v2), (3, .int v3)]) (hret : xfi p l env (rmD 7) s m args below meth c cx_go D cA h0 q .int Q (fx_go k op ac ea v1 v2 v3)) : W p l env (rmD 7) s m args below meth c H locs 0 0 Q (F0 m 0 ls []) := by
  have hx := E.1.1; have hb := E.1.2.1
  unfold fx_go at hret
  refine lv_iload_n hx hb dx_go_0 rfl (lv_at hl 1 rfl) ?_
  refine kx_isThere_in_x E.1 hl.1 (by decide) (Nat.le_of_ble_eq_true rfl) dx_go_1 ?_
  refine lv_if_eq (tgt := 18) hx hb dx_go_4 (by decide) (fun h1 => ?_) (fun h1 => ?_)
  · rw [if_pos h1] at hret
    refine lv_iconst (v := (-1 : Int32)) hx hb dx_go_18 (by decide) ?_
    exact (xfi_out hret) _ _ _ _ dx_go_19 hC  (nw_i _)
  · rw [if_neg h1] at hret
    refine lv_iload_n hx hb dx_go_7 rfl (lv_at hl 2 rfl) ?_
    refine lv_if_lt (tgt := 18) hx hb dx_go_8 (by decide) (fun h2 => ?_) (fun h2 => ?_)
    · rw [if_pos h2] at hret
      refine lv_iconst (v := (-1 : Int32)) hx hb dx_go_18 (by decide) ?_
      exact (xfi_out hret) _ _ _ _ dx_go_19 hC  (nw_i _)
    · rw [if_neg h2] at hret
      refine lv_iload_n hx hb dx_go_11 rfl (lv_at hl 2 rfl) ?_
      refine lv_sipush (v := (500 : Int32)) hx hb dx_go_12 (by decide) ?_
      refine lv_icmp_le (tgt := 20) hx hb dx_go_15 (by decide) (fun h3 => ?_) (fun h3 => ?_)
      · rw [if_pos h3] at hret
        refine lv_aload_n hx hb dx_go_20 rfl (lv_at hl 0 rfl) ?_
        refine lv_iload_n hx hb dx_go_21 rfl (lv_at hl 1 rfl) ?_
        refine xp_pc E hC dx_go_22 (fun H locs hC => ?_)
        refine lv_iload_n hx hb dx_go_25 rfl (lv_at hl 3 rfl) ?_
        refine lv_if_eq (tgt := 34) hx hb dx_go_26 (by decide) (fun h4 => ?_) (fun h4 => ?_)
        · rw [if_pos h4] at hret
          exact wx_go_34 E hC (lv_sub hl [0, 2] rfl) (by assumption) hret
        · rw [if_neg h4] at hret
          refine lv_aload_n hx hb dx_go_29 rfl (lv_at hl 0 rfl) ?_
          refine lv_iconst (v := (0 : Int32)) hx hb dx_go_30 (by decide) ?_
          refine xp_overflow E hC rfl rfl dx_go_31 (fun H locs hC => ?_)
          exact wx_go_34 E hC (lv_sub hl [0, 2] rfl) (by assumption) hret
      · rw [if_neg h3] at hret
        refine lv_iconst (v := (-1 : Int32)) hx hb dx_go_18 (by decide) ?_
        exact (xfi_out hret) _ _ _ _ dx_go_19 hC  (nw_i _)
set_option maxRecDepth 100000 in
set_option maxHeartbeats 4000000 in
theorem mx_go (l : Launch) (k : kSx) (op ac ea : Int32) (v1 : Int32) (v2 : Int32) (v3 : Int32) : xMet l yx_go cx_go 6 (some .int) 7 [.int v1, .int v2, .int v3] k op ac ea (some (.int (fx_go k op ac ea v1 v2 v3).1)) (fx_go k op ac ea v1 v2 v3).2.1 (fx_go k op ac ea v1 v2 v3).2.2.1 (fx_go k op ac ea v1 v2 v3).2.2.2.1 (fx_go k op ac ea v1 v2 v3).2.2.2.2 :=
  xMet.ofi (by decide) rfl (fun _ => Nat.le_of_ble_eq_true rfl) (fun D cA h0 q p env s m args below meth c ls Q E hC hl hret => wx_go_0 E hC (lv_sub hl [0, 1, 2, 3] rfl) hret)
end TTV
