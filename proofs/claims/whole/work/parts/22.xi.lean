section TTV
variable {p : Program} {l : Launch} {env : Env} {s : State} {m : MethodId} {args : Array Value} {below : List Frame} {meth : Method} {c : Code} {Q : State → Prop} {D : va_G} {cA : ClassId} {h0 q : Nat}
/-! TenMachine.callStoringAtE ()I -/
def fx_callStoringAtE (k : kSx) (op ac ea : Int32)  : Int32 × kSx :=
  if (fx_isThere ea) = 0 then
    ((2 : Int32), k)
  else
    ((0 : Int32), vx_pc (stx k ea ((ux_pc k).toInt64)) (ea + (1 : Int32)))
set_option maxRecDepth 100000 in
set_option maxHeartbeats 4000000 in
theorem wx_callStoringAtE_0 {k : kSx} {op : Int32} {ac : Int32} {ea : Int32} {H : Heap} {locs : List Loc} {ls : Array Slot} (E : xE p s m args c cx_callStoringAtE 1 D cA h0 q) (hC : xC D cA h0 q s.heap k op ac ea H locs) (hl : lv_has ls 1 [(0, .ref h0)]) (hac : vp_in ac 4096) (hret : xwi p l env (rmD 1) s m args below meth c cx_callStoringAtE D cA h0 q .int op ac ea Q (fx_callStoringAtE k op ac ea)) : W p l env (rmD 1) s m args below meth c H locs 0 0 Q (F0 m 0 ls []) := by
  have hx := E.1.1; have hb := E.1.2.1
  unfold fx_callStoringAtE at hret
  refine lv_aload_n hx hb dx_callStoringAtE_0 rfl (lv_at hl 0 rfl) ?_
  refine xg_e E hC dx_callStoringAtE_1 ?_
  refine kx_isThere_in_x E.1 hl.1 (by decide) (Nat.le_of_ble_eq_true rfl) dx_callStoringAtE_4 ?_
  refine lv_if_ne (tgt := 12) hx hb dx_callStoringAtE_7 (by decide) (fun h1 => ?_) (fun h1 => ?_)
  · rw [if_neg h1] at hret
    refine lv_aload_n hx hb dx_callStoringAtE_12 rfl (lv_at hl 0 rfl) ?_
    refine xg_word E hC dx_callStoringAtE_13 ?_
    refine lv_aload_n hx hb dx_callStoringAtE_16 rfl (lv_at hl 0 rfl) ?_
    refine xg_e E hC dx_callStoringAtE_17 ?_
    refine lv_aload_n hx hb dx_callStoringAtE_20 rfl (lv_at hl 0 rfl) ?_
    refine xg_pc E hC dx_callStoringAtE_21 ?_
    refine lv_i2l hx hb dx_callStoringAtE_24 rfl ?_
    refine xst E hC (vin_there h1) dx_callStoringAtE_25 (fun H locs hC => ?_)
    refine lv_aload_n hx hb dx_callStoringAtE_26 rfl (lv_at hl 0 rfl) ?_
    refine lv_aload_n hx hb dx_callStoringAtE_27 rfl (lv_at hl 0 rfl) ?_
    refine xg_e E hC dx_callStoringAtE_28 ?_
    refine lv_iconst (v := (1 : Int32)) hx hb dx_callStoringAtE_31 (by decide) ?_
    refine lv_iadd hx hb dx_callStoringAtE_32 ?_
    refine xp_pc E hC dx_callStoringAtE_33 (fun H locs hC => ?_)
    refine lv_iconst (v := (0 : Int32)) hx hb dx_callStoringAtE_36 (by decide) ?_
    exact (xwi_out hret) _ _ _ _ dx_callStoringAtE_37 hC  (nw_i _)
  · rw [if_pos h1] at hret
    refine lv_iconst (v := (2 : Int32)) hx hb dx_callStoringAtE_10 (by decide) ?_
    exact (xwi_out hret) _ _ _ _ dx_callStoringAtE_11 hC  (nw_i _)
set_option maxRecDepth 100000 in
set_option maxHeartbeats 4000000 in
theorem mx_callStoringAtE (l : Launch) (k : kSx) (op ac ea : Int32) (hac : vp_in ac 4096) : xMet l yx_callStoringAtE cx_callStoringAtE 1 (some .int) 1 [] k op ac ea (some (.int (fx_callStoringAtE k op ac ea).1)) (fx_callStoringAtE k op ac ea).2 op ac ea :=
  xMet.ofi (by decide) rfl (fun _ => Nat.le_of_ble_eq_true rfl) (fun D cA h0 q p env s m args below meth c ls Q E hC hl hret => wx_callStoringAtE_0 E hC (lv_sub hl [0] rfl) hac hret)
theorem gkx_callStoringAtE : xYw R_x 114 yx_callStoringAtE cx_callStoringAtE 1 (some .int) 0 := ⟨wc_x_callStoringAtE, wl_x_114, wi_x_callStoringAtE, ws_x_callStoringAtE, wn_x, ⟨by decide, by decide, by decide +kernel⟩, by decide⟩
theorem kx_callStoringAtE {p : Program} {l : Launch} {env : Env} {s : State} {m : MethodId} {args : Array Value} {below : List Frame} {meth : Method} {c : Code} {H : Heap} {locs : List Loc} {Q : State → Prop} {cc : ByteArray} {pc nL d : Nat} {ls : Array Slot} {rest : List Value} {D : va_G} {cA : ClassId} {h0 q : Nat} {k : kSx} {op ac ea : Int32} (E : xE p s m args c cc nL D cA h0 q) (hls : ls.size = nL) (hC : xC D cA h0 q s.heap k op ac ea H locs) (hac : vp_in ac 4096) (hd : 1 + 1 ≤ d) (hr : (rest.map fun v => v.category).sum ≤ 8) (hdg : decode cc pc = .ok (.invokevirtual 114, 3)) (kk : ∀ (H1 : Heap) (locs1 : List Loc), xC D cA h0 q s.heap (fx_callStoringAtE k op ac ea).2 op ac ea H1 locs1 → W p l env (rmD d) s m args below meth c H1 locs1 0 0 Q (F0 m (pc + 3) ls (.int (fx_callStoringAtE k op ac ea).1 :: rest))) : W p l env (rmD d) s m args below meth c H locs 0 0 Q (F0 m pc ls (.ref h0 :: rest)) :=
  xcall (av := []) E (mx_callStoringAtE l k op ac ea  hac) gkx_callStoringAtE rfl hls hC hd hr hdg kk
/-! TenMachine.skipOnWord (J)I -/
def fx_skipOnWord_17 (k : kSx) (op ac ea : Int32) (v1 : Int64) : Int32 × kSx :=
  (fx_skipIf k op ac ea (fx_holds k op ac ea v1 (0 : Int64)))
set_option maxRecDepth 100000 in
set_option maxHeartbeats 4000000 in
theorem wx_skipOnWord_17 {k : kSx} {op : Int32} {ac : Int32} {ea : Int32} {v1 : Int64} {H : Heap} {locs : List Loc} {ls : Array Slot} (E : xE p s m args c cx_skipOnWord 3 D cA h0 q) (hC : xC D cA h0 q s.heap k op ac ea H locs) (hl : lv_has ls 3 [(0, .ref h0), (1, .long v1)]) (hac : vp_in ac 4096) (hret : xwi p l env (rmD 1) s m args below meth c cx_skipOnWord D cA h0 q .int op ac ea Q (fx_skipOnWord_17 k op ac ea v1)) : W p l env (rmD 1) s m args below meth c H locs 0 0 Q (F0 m 17 ls []) := by
  have hx := E.1.1; have hb := E.1.2.1
  unfold fx_skipOnWord_17 at hret
  refine lv_aload_n hx hb dx_skipOnWord_17 rfl (lv_at hl 0 rfl) ?_
  refine lv_aload_n hx hb dx_skipOnWord_18 rfl (lv_at hl 0 rfl) ?_
  refine lv_lload_n hx hb dx_skipOnWord_19 rfl (lv_at hl 1 rfl) ?_
  refine lv_lconst (v := (0 : Int64)) hx hb dx_skipOnWord_20 (by decide) ?_
  refine kx_holds E hl.1 hC (hac) (by decide) (Nat.le_of_ble_eq_true rfl) dx_skipOnWord_21 (fun H locs hC => ?_)
  refine kx_skipIf E hl.1 hC (hac) (by decide) (Nat.le_of_ble_eq_true rfl) dx_skipOnWord_24 (fun H locs hC => ?_)
  exact hret _ _ _ _ dx_skipOnWord_27 hC  (nw_i _)
def fx_skipOnWord (k : kSx) (op ac ea : Int32) (v1 : Int64) : Int32 × kSx :=
  if ac = 0 then
    fx_skipOnWord_17 k op ac ea v1
  else
    fx_skipOnWord_17 (stx k ac v1) op ac ea v1
set_option maxRecDepth 100000 in
set_option maxHeartbeats 4000000 in
theorem wx_skipOnWord_0 {k : kSx} {op : Int32} {ac : Int32} {ea : Int32} {v1 : Int64} {H : Heap} {locs : List Loc} {ls : Array Slot} (E : xE p s m args c cx_skipOnWord 3 D cA h0 q) (hC : xC D cA h0 q s.heap k op ac ea H locs) (hl : lv_has ls 3 [(0, .ref h0), (1, .long v1)]) (hac : vp_in ac 4096) (hret : xwi p l env (rmD 1) s m args below meth c cx_skipOnWord D cA h0 q .int op ac ea Q (fx_skipOnWord k op ac ea v1)) : W p l env (rmD 1) s m args below meth c H locs 0 0 Q (F0 m 0 ls []) := by
  have hx := E.1.1; have hb := E.1.2.1
  unfold fx_skipOnWord at hret
  refine lv_aload_n hx hb dx_skipOnWord_0 rfl (lv_at hl 0 rfl) ?_
  refine xg_ac E hC dx_skipOnWord_1 ?_
  refine lv_if_eq (tgt := 17) hx hb dx_skipOnWord_4 (by decide) (fun h1 => ?_) (fun h1 => ?_)
  · rw [if_pos h1] at hret
    exact wx_skipOnWord_17 E hC (lv_sub hl [0, 1] rfl) (hac) hret
  · rw [if_neg h1] at hret
    refine lv_aload_n hx hb dx_skipOnWord_7 rfl (lv_at hl 0 rfl) ?_
    refine xg_word E hC dx_skipOnWord_8 ?_
    refine lv_aload_n hx hb dx_skipOnWord_11 rfl (lv_at hl 0 rfl) ?_
    refine xg_ac E hC dx_skipOnWord_12 ?_
    refine lv_lload_n hx hb dx_skipOnWord_15 rfl (lv_at hl 1 rfl) ?_
    refine xst E hC (hac) dx_skipOnWord_16 (fun H locs hC => ?_)
    exact wx_skipOnWord_17 E hC (lv_sub hl [0, 1] rfl) (hac) hret
set_option maxRecDepth 100000 in
set_option maxHeartbeats 4000000 in
theorem mx_skipOnWord (l : Launch) (k : kSx) (op ac ea : Int32) (v1 : Int64) (hac : vp_in ac 4096) : xMet l yx_skipOnWord cx_skipOnWord 3 (some .int) 1 [.long v1] k op ac ea (some (.int (fx_skipOnWord k op ac ea v1).1)) (fx_skipOnWord k op ac ea v1).2 op ac ea :=
  xMet.ofi (by decide) rfl (fun _ => Nat.le_of_ble_eq_true rfl) (fun D cA h0 q p env s m args below meth c ls Q E hC hl hret => wx_skipOnWord_0 E hC (lv_sub hl [0, 1] rfl) hac hret)
theorem gkx_skipOnWord : xYw R_x 218 yx_skipOnWord cx_skipOnWord 3 (some .int) 1 := ⟨wc_x_skipOnWord, wl_x_218, wi_x_skipOnWord, ws_x_skipOnWord, wn_x, ⟨by decide, by decide, by decide +kernel⟩, by decide⟩
theorem kx_skipOnWord {p : Program} {l : Launch} {env : Env} {s : State} {m : MethodId} {args : Array Value} {below : List Frame} {meth : Method} {c : Code} {H : Heap} {locs : List Loc} {Q : State → Prop} {cc : ByteArray} {pc nL d : Nat} {ls : Array Slot} {rest : List Value} {D : va_G} {cA : ClassId} {h0 q : Nat} {k : kSx} {op ac ea : Int32} {v1 : Int64} (E : xE p s m args c cc nL D cA h0 q) (hls : ls.size = nL) (hC : xC D cA h0 q s.heap k op ac ea H locs) (hac : vp_in ac 4096) (hd : 1 + 1 ≤ d) (hr : (rest.map fun v => v.category).sum ≤ 8) (hdg : decode cc pc = .ok (.invokevirtual 218, 3)) (kk : ∀ (H1 : Heap) (locs1 : List Loc), xC D cA h0 q s.heap (fx_skipOnWord k op ac ea v1).2 op ac ea H1 locs1 → W p l env (rmD d) s m args below meth c H1 locs1 0 0 Q (F0 m (pc + 3) ls (.int (fx_skipOnWord k op ac ea v1).1 :: rest))) : W p l env (rmD d) s m args below meth c H locs 0 0 Q (F0 m pc ls (.long v1 :: .ref h0 :: rest)) :=
  xcall (av := [.long v1]) E (mx_skipOnWord l k op ac ea v1 hac) gkx_skipOnWord rfl hls hC hd hr hdg kk
/-! TenMachine.withHalfMoved (JJ)J -/
def fx_withHalfMoved_72 (k : kSx) (op ac ea : Int32) (v5 : Int32) (v7 : Int32) (t1 : Int32) (t2 : Int32) : Int64 :=
  if v5 = 0 then
    (fx_joined v7 (fx_otherHalf k op ac ea t1 t2))
  else
    (fx_joined (fx_otherHalf k op ac ea t1 t2) v7)
set_option maxRecDepth 100000 in
set_option maxHeartbeats 4000000 in
theorem wx_withHalfMoved_72 {k : kSx} {op : Int32} {ac : Int32} {ea : Int32} {v5 : Int32} {v7 : Int32} {t1 : Int32} {t2 : Int32} {H : Heap} {locs : List Loc} {ls : Array Slot} (E : xE p s m args c cx_withHalfMoved 9 D cA h0 q) (hC : xC D cA h0 q s.heap k op ac ea H locs) (hl : lv_has ls 9 [(5, .int v5), (7, .int v7)]) (hac : vp_in ac 4096) (hret : xrl p l env (rmD 1) s m args below meth c cx_withHalfMoved D cA h0 q .long k op ac ea Q (fx_withHalfMoved_72 k op ac ea v5 v7 t1 t2)) : W p l env (rmD 1) s m args below meth c H locs 0 0 Q (F0 m 72 ls [.int t2, .int t1, .ref h0]) := by
  have hx := E.1.1; have hb := E.1.2.1
  unfold fx_withHalfMoved_72 at hret
  refine kx_otherHalf E hl.1 hC (hac) (by decide) (Nat.le_of_ble_eq_true rfl) dx_withHalfMoved_72 (fun H locs hC => ?_)
  refine lv_istore (lv' := [(8, .int (fx_otherHalf k op ac ea t1 t2)), (5, .int v5), (7, .int v7)]) hx hb dx_withHalfMoved_75 hl (by decide) rfl (fun ls hl => ?_)
  refine lv_iload hx hb dx_withHalfMoved_77 (lv_at hl 1 rfl) ?_
  refine lv_if_eq (tgt := 92) hx hb dx_withHalfMoved_79 (by decide) (fun h1 => ?_) (fun h1 => ?_)
  · rw [if_pos h1] at hret
    refine lv_iload hx hb dx_withHalfMoved_92 (lv_at hl 2 rfl) ?_
    refine lv_iload hx hb dx_withHalfMoved_94 (lv_at hl 0 rfl) ?_
    refine kx_joined_in_x E.1 hl.1 (by decide) (Nat.le_of_ble_eq_true rfl) dx_withHalfMoved_96 ?_
    exact hret _ _ _ _ dx_withHalfMoved_99 hC  (nw_l _)
  · rw [if_neg h1] at hret
    refine lv_iload hx hb dx_withHalfMoved_82 (lv_at hl 0 rfl) ?_
    refine lv_iload hx hb dx_withHalfMoved_84 (lv_at hl 2 rfl) ?_
    refine kx_joined_in_x E.1 hl.1 (by decide) (Nat.le_of_ble_eq_true rfl) dx_withHalfMoved_86 ?_
    refine lv_goto (tgt := 99) hx hb dx_withHalfMoved_89 (by decide) ?_
    exact hret _ _ _ _ dx_withHalfMoved_99 hC  (nw_l _)
def fx_withHalfMoved_51 (k : kSx) (op ac ea : Int32) (v3 : Int64) (v5 : Int32) (t0 : Int32) : Int64 :=
  if v5 = 0 then
    fx_withHalfMoved_72 k op ac ea v5 t0 t0 (fx_right v3)
  else
    fx_withHalfMoved_72 k op ac ea v5 t0 t0 (fx_left v3)
set_option maxRecDepth 100000 in
set_option maxHeartbeats 4000000 in
theorem wx_withHalfMoved_51 {k : kSx} {op : Int32} {ac : Int32} {ea : Int32} {v3 : Int64} {v5 : Int32} {t0 : Int32} {H : Heap} {locs : List Loc} {ls : Array Slot} (E : xE p s m args c cx_withHalfMoved 9 D cA h0 q) (hC : xC D cA h0 q s.heap k op ac ea H locs) (hl : lv_has ls 9 [(0, .ref h0), (3, .long v3), (5, .int v5)]) (hac : vp_in ac 4096) (hret : xrl p l env (rmD 1) s m args below meth c cx_withHalfMoved D cA h0 q .long k op ac ea Q (fx_withHalfMoved_51 k op ac ea v3 v5 t0)) : W p l env (rmD 1) s m args below meth c H locs 0 0 Q (F0 m 51 ls [.int t0]) := by
  have hx := E.1.1; have hb := E.1.2.1
  unfold fx_withHalfMoved_51 at hret
  refine lv_istore (lv' := [(7, .int t0), (0, .ref h0), (3, .long v3), (5, .int v5)]) hx hb dx_withHalfMoved_51 hl (by decide) rfl (fun ls hl => ?_)
  refine lv_aload_n hx hb dx_withHalfMoved_53 rfl (lv_at hl 1 rfl) ?_
  refine lv_iload hx hb dx_withHalfMoved_54 (lv_at hl 0 rfl) ?_
  refine lv_iload hx hb dx_withHalfMoved_56 (lv_at hl 3 rfl) ?_
  refine lv_if_eq (tgt := 68) hx hb dx_withHalfMoved_58 (by decide) (fun h1 => ?_) (fun h1 => ?_)
  · rw [if_pos h1] at hret
    refine lv_lload_n hx hb dx_withHalfMoved_68 rfl (lv_at hl 2 rfl) ?_
    refine kx_right_in_x E.1 hl.1 (by decide) (Nat.le_of_ble_eq_true rfl) dx_withHalfMoved_69 ?_
    exact wx_withHalfMoved_72 E hC (lv_sub hl [3, 0] rfl) (hac) hret
  · rw [if_neg h1] at hret
    refine lv_lload_n hx hb dx_withHalfMoved_61 rfl (lv_at hl 2 rfl) ?_
    refine kx_left_in_x E.1 hl.1 (by decide) (Nat.le_of_ble_eq_true rfl) dx_withHalfMoved_62 ?_
    refine lv_goto (tgt := 72) hx hb dx_withHalfMoved_65 (by decide) ?_
    exact wx_withHalfMoved_72 E hC (lv_sub hl [3, 0] rfl) (hac) hret
def fx_withHalfMoved_31 (k : kSx) (op ac ea : Int32) (v1 : Int64) (v3 : Int64) (v5 : Int32) (t0 : Int32) : Int64 :=
  if v5 = t0 then
    fx_withHalfMoved_51 k op ac ea v3 v5 (fx_left v1)
  else
    fx_withHalfMoved_51 k op ac ea v3 v5 (fx_right v1)
set_option maxRecDepth 100000 in
set_option maxHeartbeats 4000000 in
theorem wx_withHalfMoved_31 {k : kSx} {op : Int32} {ac : Int32} {ea : Int32} {v1 : Int64} {v3 : Int64} {v5 : Int32} {t0 : Int32} {H : Heap} {locs : List Loc} {ls : Array Slot} (E : xE p s m args c cx_withHalfMoved 9 D cA h0 q) (hC : xC D cA h0 q s.heap k op ac ea H locs) (hl : lv_has ls 9 [(0, .ref h0), (1, .long v1), (3, .long v3), (5, .int v5)]) (hac : vp_in ac 4096) (hret : xrl p l env (rmD 1) s m args below meth c cx_withHalfMoved D cA h0 q .long k op ac ea Q (fx_withHalfMoved_31 k op ac ea v1 v3 v5 t0)) : W p l env (rmD 1) s m args below meth c H locs 0 0 Q (F0 m 31 ls [.int t0]) := by
  have hx := E.1.1; have hb := E.1.2.1
  unfold fx_withHalfMoved_31 at hret
  refine lv_istore (lv' := [(6, .int t0), (0, .ref h0), (1, .long v1), (3, .long v3), (5, .int v5)]) hx hb dx_withHalfMoved_31 hl (by decide) rfl (fun ls hl => ?_)
  refine lv_iload hx hb dx_withHalfMoved_33 (lv_at hl 4 rfl) ?_
  refine lv_iload hx hb dx_withHalfMoved_35 (lv_at hl 0 rfl) ?_
  refine lv_icmp_eq (tgt := 47) hx hb dx_withHalfMoved_37 (by decide) (fun h1 => ?_) (fun h1 => ?_)
  · rw [if_pos h1] at hret
    refine lv_lload_n hx hb dx_withHalfMoved_47 rfl (lv_at hl 2 rfl) ?_
    refine kx_left_in_x E.1 hl.1 (by decide) (Nat.le_of_ble_eq_true rfl) dx_withHalfMoved_48 ?_
    exact wx_withHalfMoved_51 E hC (lv_sub hl [1, 3, 4] rfl) (hac) hret
  · rw [if_neg h1] at hret
    refine lv_lload_n hx hb dx_withHalfMoved_40 rfl (lv_at hl 2 rfl) ?_
    refine kx_right_in_x E.1 hl.1 (by decide) (Nat.le_of_ble_eq_true rfl) dx_withHalfMoved_41 ?_
    refine lv_goto (tgt := 51) hx hb dx_withHalfMoved_44 (by decide) ?_
    exact wx_withHalfMoved_51 E hC (lv_sub hl [1, 3, 4] rfl) (hac) hret
def fx_withHalfMoved_15 (k : kSx) (op ac ea : Int32) (v1 : Int64) (v3 : Int64) (t0 : Int32) : Int64 :=
  if (op &&& (4 : Int32)) = 0 then
    fx_withHalfMoved_31 k op ac ea v1 v3 t0 (0 : Int32)
  else
    fx_withHalfMoved_31 k op ac ea v1 v3 t0 (1 : Int32)
set_option maxRecDepth 100000 in
set_option maxHeartbeats 4000000 in
theorem wx_withHalfMoved_15 {k : kSx} {op : Int32} {ac : Int32} {ea : Int32} {v1 : Int64} {v3 : Int64} {t0 : Int32} {H : Heap} {locs : List Loc} {ls : Array Slot} (E : xE p s m args c cx_withHalfMoved 9 D cA h0 q) (hC : xC D cA h0 q s.heap k op ac ea H locs) (hl : lv_has ls 9 [(0, .ref h0), (1, .long v1), (3, .long v3)]) (hac : vp_in ac 4096) (hret : xrl p l env (rmD 1) s m args below meth c cx_withHalfMoved D cA h0 q .long k op ac ea Q (fx_withHalfMoved_15 k op ac ea v1 v3 t0)) : W p l env (rmD 1) s m args below meth c H locs 0 0 Q (F0 m 15 ls [.int t0]) := by
  have hx := E.1.1; have hb := E.1.2.1
  unfold fx_withHalfMoved_15 at hret
  refine lv_istore (lv' := [(5, .int t0), (0, .ref h0), (1, .long v1), (3, .long v3)]) hx hb dx_withHalfMoved_15 hl (by decide) rfl (fun ls hl => ?_)
  refine lv_aload_n hx hb dx_withHalfMoved_17 rfl (lv_at hl 1 rfl) ?_
  refine xg_op E hC dx_withHalfMoved_18 ?_
  refine lv_iconst (v := (4 : Int32)) hx hb dx_withHalfMoved_21 (by decide) ?_
  refine lv_iand hx hb dx_withHalfMoved_22 ?_
  refine lv_if_eq (tgt := 30) hx hb dx_withHalfMoved_23 (by decide) (fun h1 => ?_) (fun h1 => ?_)
  · rw [if_pos h1] at hret
    refine lv_iconst (v := (0 : Int32)) hx hb dx_withHalfMoved_30 (by decide) ?_
    exact wx_withHalfMoved_31 E hC (lv_sub hl [1, 2, 3, 0] rfl) (hac) hret
  · rw [if_neg h1] at hret
    refine lv_iconst (v := (1 : Int32)) hx hb dx_withHalfMoved_26 (by decide) ?_
    refine lv_goto (tgt := 31) hx hb dx_withHalfMoved_27 (by decide) ?_
    exact wx_withHalfMoved_31 E hC (lv_sub hl [1, 2, 3, 0] rfl) (hac) hret
def fx_withHalfMoved (k : kSx) (op ac ea : Int32) (v1 : Int64) (v3 : Int64) : Int64 :=
  if (op &&& (32 : Int32)) = 0 then
    fx_withHalfMoved_15 k op ac ea v1 v3 (0 : Int32)
  else
    fx_withHalfMoved_15 k op ac ea v1 v3 (1 : Int32)
set_option maxRecDepth 100000 in
set_option maxHeartbeats 4000000 in
theorem wx_withHalfMoved_0 {k : kSx} {op : Int32} {ac : Int32} {ea : Int32} {v1 : Int64} {v3 : Int64} {H : Heap} {locs : List Loc} {ls : Array Slot} (E : xE p s m args c cx_withHalfMoved 9 D cA h0 q) (hC : xC D cA h0 q s.heap k op ac ea H locs) (hl : lv_has ls 9 [(0, .ref h0), (1, .long v1), (3, .long v3)]) (hac : vp_in ac 4096) (hret : xrl p l env (rmD 1) s m args below meth c cx_withHalfMoved D cA h0 q .long k op ac ea Q (fx_withHalfMoved k op ac ea v1 v3)) : W p l env (rmD 1) s m args below meth c H locs 0 0 Q (F0 m 0 ls []) := by
  have hx := E.1.1; have hb := E.1.2.1
  unfold fx_withHalfMoved at hret
  refine lv_aload_n hx hb dx_withHalfMoved_0 rfl (lv_at hl 0 rfl) ?_
  refine xg_op E hC dx_withHalfMoved_1 ?_
  refine lv_bipush (v := (32 : Int32)) hx hb dx_withHalfMoved_4 (by decide) ?_
  refine lv_iand hx hb dx_withHalfMoved_6 ?_
  refine lv_if_eq (tgt := 14) hx hb dx_withHalfMoved_7 (by decide) (fun h1 => ?_) (fun h1 => ?_)
  · rw [if_pos h1] at hret
    refine lv_iconst (v := (0 : Int32)) hx hb dx_withHalfMoved_14 (by decide) ?_
    exact wx_withHalfMoved_15 E hC (lv_sub hl [0, 1, 2] rfl) (hac) hret
  · rw [if_neg h1] at hret
    refine lv_iconst (v := (1 : Int32)) hx hb dx_withHalfMoved_10 (by decide) ?_
    refine lv_goto (tgt := 15) hx hb dx_withHalfMoved_11 (by decide) ?_
    exact wx_withHalfMoved_15 E hC (lv_sub hl [0, 1, 2] rfl) (hac) hret
set_option maxRecDepth 100000 in
set_option maxHeartbeats 4000000 in
theorem mx_withHalfMoved (l : Launch) (k : kSx) (op ac ea : Int32) (v1 : Int64) (v3 : Int64) (hac : vp_in ac 4096) : xMet l yx_withHalfMoved cx_withHalfMoved 9 (some .long) 1 [.long v1, .long v3] k op ac ea (some (.long (fx_withHalfMoved k op ac ea v1 v3))) k op ac ea :=
  xMet.ofl (by decide) rfl (fun _ => Nat.le_of_ble_eq_true rfl) (fun D cA h0 q p env s m args below meth c ls Q E hC hl hret => wx_withHalfMoved_0 E hC (lv_sub hl [0, 1, 2] rfl) hac hret)
theorem gkx_withHalfMoved : xYw R_x 235 yx_withHalfMoved cx_withHalfMoved 9 (some .long) 2 := ⟨wc_x_withHalfMoved, wl_x_235, wi_x_withHalfMoved, ws_x_withHalfMoved, wn_x, ⟨by decide, by decide, by decide +kernel⟩, by decide⟩
theorem kx_withHalfMoved {p : Program} {l : Launch} {env : Env} {s : State} {m : MethodId} {args : Array Value} {below : List Frame} {meth : Method} {c : Code} {H : Heap} {locs : List Loc} {Q : State → Prop} {cc : ByteArray} {pc nL d : Nat} {ls : Array Slot} {rest : List Value} {D : va_G} {cA : ClassId} {h0 q : Nat} {k : kSx} {op ac ea : Int32} {v1 : Int64} {v3 : Int64} (E : xE p s m args c cc nL D cA h0 q) (hls : ls.size = nL) (hC : xC D cA h0 q s.heap k op ac ea H locs) (hac : vp_in ac 4096) (hd : 1 + 1 ≤ d) (hr : (rest.map fun v => v.category).sum ≤ 8) (hdg : decode cc pc = .ok (.invokevirtual 235, 3)) (kk : ∀ (H1 : Heap) (locs1 : List Loc), xC D cA h0 q s.heap k op ac ea H1 locs1 → W p l env (rmD d) s m args below meth c H1 locs1 0 0 Q (F0 m (pc + 3) ls (.long (fx_withHalfMoved k op ac ea v1 v3) :: rest))) : W p l env (rmD d) s m args below meth c H locs 0 0 Q (F0 m pc ls (.long v3 :: .long v1 :: .ref h0 :: rest)) :=
  xcall (av := [.long v1, .long v3]) E (mx_withHalfMoved l k op ac ea v1 v3 hac) gkx_withHalfMoved rfl hls hC hd hr hdg kk
/-! TenMachine.fetch (I)Z -/
def fx_fetch_4 : Nat → kSx → Int32 → Int32 → Int32 → Int32 → Int32 → Int32 × zS
  | 0, k, op, ac, ea, v2, v3 => (0, (k, op, ac, ea))
  | n + 1, k, op, ac, ea, v2, v3 =>
    if (8 : Int32) < v3 then
      ((0 : Int32), (k, op, ac, ea))
    else
      if (fx_isThere v2) = 0 then
        ((0 : Int32), (k, op, ac, ea))
      else
        if (fx_address k ((((ldx k v2) >>> ((27 : Int32).toInt64 &&& 63)).toInt32) &&& (511 : Int32)) ((((ldx k v2) >>> ((23 : Int32).toInt64 &&& 63)).toInt32) &&& (15 : Int32)) ea (ldx k v2)) = (-1 : Int32) then
          ((0 : Int32), (k, ((((ldx k v2) >>> ((27 : Int32).toInt64 &&& 63)).toInt32) &&& (511 : Int32)), ((((ldx k v2) >>> ((23 : Int32).toInt64 &&& 63)).toInt32) &&& (15 : Int32)), (fx_address k ((((ldx k v2) >>> ((27 : Int32).toInt64 &&& 63)).toInt32) &&& (511 : Int32)) ((((ldx k v2) >>> ((23 : Int32).toInt64 &&& 63)).toInt32) &&& (15 : Int32)) ea (ldx k v2))))
        else
          if ((((ldx k v2) >>> ((27 : Int32).toInt64 &&& 63)).toInt32) &&& (511 : Int32)) = (174 : Int32) then
            fx_fetch_4 n k ((((ldx k v2) >>> ((27 : Int32).toInt64 &&& 63)).toInt32) &&& (511 : Int32)) ((((ldx k v2) >>> ((23 : Int32).toInt64 &&& 63)).toInt32) &&& (15 : Int32)) (fx_address k ((((ldx k v2) >>> ((27 : Int32).toInt64 &&& 63)).toInt32) &&& (511 : Int32)) ((((ldx k v2) >>> ((23 : Int32).toInt64 &&& 63)).toInt32) &&& (15 : Int32)) ea (ldx k v2)) (fx_address k ((((ldx k v2) >>> ((27 : Int32).toInt64 &&& 63)).toInt32) &&& (511 : Int32)) ((((ldx k v2) >>> ((23 : Int32).toInt64 &&& 63)).toInt32) &&& (15 : Int32)) ea (ldx k v2)) (v3 + 1)
          else
            ((1 : Int32), (k, ((((ldx k v2) >>> ((27 : Int32).toInt64 &&& 63)).toInt32) &&& (511 : Int32)), ((((ldx k v2) >>> ((23 : Int32).toInt64 &&& 63)).toInt32) &&& (15 : Int32)), (fx_address k ((((ldx k v2) >>> ((27 : Int32).toInt64 &&& 63)).toInt32) &&& (511 : Int32)) ((((ldx k v2) >>> ((23 : Int32).toInt64 &&& 63)).toInt32) &&& (15 : Int32)) ea (ldx k v2))))
set_option maxRecDepth 100000 in
set_option maxHeartbeats 4000000 in
theorem wx_fetch_4 (E : xE p s m args c cx_fetch 6 D cA h0 q) : ∀ (n : Nat) (k : kSx) (op : Int32) (ac : Int32) (ea : Int32) (v2 : Int32) (v3 : Int32) (H : Heap) (locs : List Loc) (ls : Array Slot), xC D cA h0 q s.heap k op ac ea H locs → lv_has ls 6 [(0, .ref h0), (2, .int v2), (3, .int v3)] → (9 - v3.toInt).toNat < n → xfi p l env (rmD 2) s m args below meth c cx_fetch D cA h0 q .boolean Q (fx_fetch_4 n k op ac ea v2 v3) → W p l env (rmD 2) s m args below meth c H locs 0 0 Q (F0 m 4 ls []) := by
  have hx := E.1.1; have hb := E.1.2.1
  intro n
  induction n with
  | zero => intro k op ac ea v2 v3 H locs ls hC hl  hmu hret; exact absurd hmu (Nat.not_lt_zero _)
  | succ n ih =>
    intro k op ac ea v2 v3 H locs ls hC hl  hmu hret
    rw [fx_fetch_4] at hret
    refine lv_iload_n hx hb dx_fetch_4 rfl (lv_at hl 2 rfl) ?_
    refine lv_bipush (v := (8 : Int32)) hx hb dx_fetch_5 (by decide) ?_
    refine lv_icmp_gt (tgt := 97) hx hb dx_fetch_7 (by decide) (fun h1 => ?_) (fun h1 => ?_)
    · rw [if_pos h1] at hret
      refine lv_iconst (v := (0 : Int32)) hx hb dx_fetch_97 (by decide) ?_
      exact (xfi_out hret) _ _ _ _ dx_fetch_98 hC  (narrow_b0)
    · rw [if_neg h1] at hret
      refine lv_iload_n hx hb dx_fetch_10 rfl (lv_at hl 1 rfl) ?_
      refine kx_isThere_in_x E.1 hl.1 (by decide) (Nat.le_of_ble_eq_true rfl) dx_fetch_11 ?_
      refine lv_if_ne (tgt := 19) hx hb dx_fetch_14 (by decide) (fun h2 => ?_) (fun h2 => ?_)
      · rw [if_neg h2] at hret
        refine lv_aload_n hx hb dx_fetch_19 rfl (lv_at hl 0 rfl) ?_
        refine xg_word E hC dx_fetch_20 ?_
        refine lv_iload_n hx hb dx_fetch_23 rfl (lv_at hl 1 rfl) ?_
        refine xld E hC (vin_there h2) dx_fetch_24 ?_
        refine lv_lstore (lv' := [(4, .long (ldx k v2)), (0, .ref h0), (2, .int v2), (3, .int v3)]) hx hb dx_fetch_25 hl (by decide) rfl (fun ls hl => ?_)
        refine lv_aload_n hx hb dx_fetch_27 rfl (lv_at hl 1 rfl) ?_
        refine lv_lload hx hb dx_fetch_28 (lv_at hl 0 rfl) ?_
        refine lv_bipush (v := (27 : Int32)) hx hb dx_fetch_30 (by decide) ?_
        refine lv_lshr hx hb dx_fetch_32 rfl ?_
        refine lv_l2i hx hb dx_fetch_33 rfl ?_
        refine lv_sipush (v := (511 : Int32)) hx hb dx_fetch_34 (by decide) ?_
        refine lv_iand hx hb dx_fetch_37 ?_
        refine xp_op E hC dx_fetch_38 (fun H locs hC => ?_)
        refine lv_aload_n hx hb dx_fetch_41 rfl (lv_at hl 1 rfl) ?_
        refine lv_lload hx hb dx_fetch_42 (lv_at hl 0 rfl) ?_
        refine lv_bipush (v := (23 : Int32)) hx hb dx_fetch_44 (by decide) ?_
        refine lv_lshr hx hb dx_fetch_46 rfl ?_
        refine lv_l2i hx hb dx_fetch_47 rfl ?_
        refine lv_bipush (v := (15 : Int32)) hx hb dx_fetch_48 (by decide) ?_
        refine lv_iand hx hb dx_fetch_50 ?_
        refine xp_ac E hC dx_fetch_51 (fun H locs hC => ?_)
        refine lv_aload_n hx hb dx_fetch_54 rfl (lv_at hl 1 rfl) ?_
        refine lv_aload_n hx hb dx_fetch_55 rfl (lv_at hl 1 rfl) ?_
        refine lv_lload hx hb dx_fetch_56 (lv_at hl 0 rfl) ?_
        refine kx_address E hl.1 hC (by decide) (Nat.le_of_ble_eq_true rfl) dx_fetch_58 (fun H locs hC => ?_)
        refine xp_e E hC dx_fetch_61 (fun H locs hC => ?_)
        refine lv_aload_n hx hb dx_fetch_64 rfl (lv_at hl 1 rfl) ?_
        refine xg_e E hC dx_fetch_65 ?_
        refine lv_iconst (v := (-1 : Int32)) hx hb dx_fetch_68 (by decide) ?_
        refine lv_icmp_ne (tgt := 74) hx hb dx_fetch_69 (by decide) (fun h3 => ?_) (fun h3 => ?_)
        · rw [if_neg h3] at hret
          refine lv_aload_n hx hb dx_fetch_74 rfl (lv_at hl 1 rfl) ?_
          refine xg_op E hC dx_fetch_75 ?_
          refine lv_sipush (v := (174 : Int32)) hx hb dx_fetch_78 (by decide) ?_
          refine lv_icmp_eq (tgt := 86) hx hb dx_fetch_81 (by decide) (fun h4 => ?_) (fun h4 => ?_)
          · rw [if_pos h4] at hret
            refine lv_aload_n hx hb dx_fetch_86 rfl (lv_at hl 1 rfl) ?_
            refine xg_e E hC dx_fetch_87 ?_
            refine lv_istore_n (lv' := [(2, .int (fx_address k ((((ldx k v2) >>> ((27 : Int32).toInt64 &&& 63)).toInt32) &&& (511 : Int32)) ((((ldx k v2) >>> ((23 : Int32).toInt64 &&& 63)).toInt32) &&& (15 : Int32)) ea (ldx k v2))), (4, .long (ldx k v2)), (0, .ref h0), (3, .int v3)]) hx hb dx_fetch_90 rfl hl (by decide) rfl (fun ls hl => ?_)
            refine lv_iinc (v := (v3 + 1)) (lv' := [(3, .int (v3 + 1)), (2, .int (fx_address k ((((ldx k v2) >>> ((27 : Int32).toInt64 &&& 63)).toInt32) &&& (511 : Int32)) ((((ldx k v2) >>> ((23 : Int32).toInt64 &&& 63)).toInt32) &&& (15 : Int32)) ea (ldx k v2))), (4, .long (ldx k v2)), (0, .ref h0)]) hx hb dx_fetch_91 hl (k := 3) rfl (by rfl) (by decide) rfl (fun ls hl => ?_)
            refine lv_goto (tgt := 4) hx hb dx_fetch_94 (by decide) ?_
            exact ih _ _ _ _ _ _ _ _ _ hC (lv_sub hl [3, 1, 0] rfl) (mu_up9 (by assumption) hmu) hret
          · rw [if_neg h4] at hret
            refine lv_iconst (v := (1 : Int32)) hx hb dx_fetch_84 (by decide) ?_
            exact (xfi_out hret) _ _ _ _ dx_fetch_85 hC  (narrow_b1)
        · rw [if_pos h3] at hret
          refine lv_iconst (v := (0 : Int32)) hx hb dx_fetch_72 (by decide) ?_
          exact (xfi_out hret) _ _ _ _ dx_fetch_73 hC  (narrow_b0)
      · rw [if_pos h2] at hret
        refine lv_iconst (v := (0 : Int32)) hx hb dx_fetch_17 (by decide) ?_
        exact (xfi_out hret) _ _ _ _ dx_fetch_18 hC  (narrow_b0)
def fx_fetch (k : kSx) (op ac ea : Int32) (v1 : Int32) : Int32 × zS :=
  fx_fetch_4 10 k op ac ea v1 (0 : Int32)
set_option maxRecDepth 100000 in
set_option maxHeartbeats 4000000 in
theorem wx_fetch_0 {k : kSx} {op : Int32} {ac : Int32} {ea : Int32} {v1 : Int32} {H : Heap} {locs : List Loc} {ls : Array Slot} (E : xE p s m args c cx_fetch 6 D cA h0 q) (hC : xC D cA h0 q s.heap k op ac ea H locs) (hl : lv_has ls 6 [(0, .ref h0), (1, .int v1)]) (hret : xfi p l env (rmD 2) s m args below meth c cx_fetch D cA h0 q .boolean Q (fx_fetch k op ac ea v1)) : W p l env (rmD 2) s m args below meth c H locs 0 0 Q (F0 m 0 ls []) := by
  have hx := E.1.1; have hb := E.1.2.1
  unfold fx_fetch at hret
  refine lv_iload_n hx hb dx_fetch_0 rfl (lv_at hl 1 rfl) ?_
  refine lv_istore_n (lv' := [(2, .int v1), (0, .ref h0), (1, .int v1)]) hx hb dx_fetch_1 rfl hl (by decide) rfl (fun ls hl => ?_)
  refine lv_iconst (v := (0 : Int32)) hx hb dx_fetch_2 (by decide) ?_
  refine lv_istore_n (lv' := [(3, .int (0 : Int32)), (2, .int v1), (0, .ref h0), (1, .int v1)]) hx hb dx_fetch_3 rfl hl (by decide) rfl (fun ls hl => ?_)
  exact wx_fetch_4 E 10 _ _ _ _ _ _ _ _ _ hC (lv_sub hl [2, 1, 0] rfl) (by decide) hret
set_option maxRecDepth 100000 in
set_option maxHeartbeats 4000000 in
theorem mx_fetch (l : Launch) (k : kSx) (op ac ea : Int32) (v1 : Int32) : xMet l yx_fetch cx_fetch 6 (some .boolean) 2 [.int v1] k op ac ea (some (.int (fx_fetch k op ac ea v1).1)) (fx_fetch k op ac ea v1).2.1 (fx_fetch k op ac ea v1).2.2.1 (fx_fetch k op ac ea v1).2.2.2.1 (fx_fetch k op ac ea v1).2.2.2.2 :=
  xMet.ofi (by decide) rfl (fun _ => Nat.le_of_ble_eq_true rfl) (fun D cA h0 q p env s m args below meth c ls Q E hC hl hret => wx_fetch_0 E hC (lv_sub hl [0, 1] rfl) hret)
theorem gkx_fetch : xYw R_x 38 yx_fetch cx_fetch 6 (some .boolean) 1 := ⟨wc_x_fetch, wl_x_38, wi_x_fetch, ws_x_fetch, wn_x, ⟨by decide, by decide, by decide +kernel⟩, by decide⟩
theorem kx_fetch {p : Program} {l : Launch} {env : Env} {s : State} {m : MethodId} {args : Array Value} {below : List Frame} {meth : Method} {c : Code} {H : Heap} {locs : List Loc} {Q : State → Prop} {cc : ByteArray} {pc nL d : Nat} {ls : Array Slot} {rest : List Value} {D : va_G} {cA : ClassId} {h0 q : Nat} {k : kSx} {op ac ea : Int32} {v1 : Int32} (E : xE p s m args c cc nL D cA h0 q) (hls : ls.size = nL) (hC : xC D cA h0 q s.heap k op ac ea H locs) (hd : 2 + 1 ≤ d) (hr : (rest.map fun v => v.category).sum ≤ 8) (hdg : decode cc pc = .ok (.invokevirtual 38, 3)) (kk : ∀ (H1 : Heap) (locs1 : List Loc), xC D cA h0 q s.heap (fx_fetch k op ac ea v1).2.1 (fx_fetch k op ac ea v1).2.2.1 (fx_fetch k op ac ea v1).2.2.2.1 (fx_fetch k op ac ea v1).2.2.2.2 H1 locs1 → W p l env (rmD d) s m args below meth c H1 locs1 0 0 Q (F0 m (pc + 3) ls (.int (fx_fetch k op ac ea v1).1 :: rest))) : W p l env (rmD d) s m args below meth c H locs 0 0 Q (F0 m pc ls (.int v1 :: .ref h0 :: rest)) :=
  xcall (av := [.int v1]) E (mx_fetch l k op ac ea v1) gkx_fetch rfl hls hC hd hr hdg kk
theorem fetch_ac4 : ∀ (n : Nat) (k : kSx) (op ac ea v2 v3 : Int32), ¬ (fx_fetch_4 n k op ac ea v2 v3).1 = 0 → vp_in (fx_fetch_4 n k op ac ea v2 v3).2.2.2.1 4096 := by
  intro n
  induction n with
  | zero => intro k op ac ea v2 v3 h; exact absurd rfl h
  | succ n ih =>
    intro k op ac ea v2 v3 h
    rw [fx_fetch_4] at h ⊢
    by_cases h1 : (8 : Int32) < v3
    · rw [if_pos h1] at h; exact absurd rfl h
    · rw [if_neg h1] at h ⊢
      by_cases h2 : (fx_isThere v2) = 0
      · rw [if_pos h2] at h; exact absurd rfl h
      · rw [if_neg h2] at h ⊢
        split at h
        · exact absurd rfl h
        · next h3 =>
          rw [if_neg h3]
          split at h
          · next h4 => rw [if_pos h4]; exact ih _ _ _ _ _ _ h
          · next h4 => rw [if_neg h4]; exact vin15 _
theorem fetch_ac {k : kSx} {op ac ea v : Int32} : ¬ (fx_fetch k op ac ea v).1 = 0 → vp_in (fx_fetch k op ac ea v).2.2.2.1 4096 := fetch_ac4 10 k op ac ea v 0
/-! TenMachine.move ()I -/
def fx_move_106 (k : kSx) (op ac ea : Int32) (t2 : Int64) : Int32 × kSx :=
  (fx_storeSelf ((fx_result k op ac ea t2).2) op ac ea ((fx_result k op ac ea t2).1))
set_option maxRecDepth 100000 in
set_option maxHeartbeats 4000000 in
theorem wx_move_106 {k : kSx} {op : Int32} {ac : Int32} {ea : Int32} {t2 : Int64} {H : Heap} {locs : List Loc} {ls : Array Slot} (E : xE p s m args c cx_move 3 D cA h0 q) (hC : xC D cA h0 q s.heap k op ac ea H locs) (hl : lv_has ls 3 []) (hac : vp_in ac 4096) (he : ¬ (op &&& (3 : Int32)) = 1 → vp_in ea 4096) (hret : xwi p l env (rmD 2) s m args below meth c cx_move D cA h0 q .int op ac ea Q (fx_move_106 k op ac ea t2)) : W p l env (rmD 2) s m args below meth c H locs 0 0 Q (F0 m 106 ls [.long t2, .ref h0, .ref h0]) := by
  have hx := E.1.1; have hb := E.1.2.1
  unfold fx_move_106 at hret
  refine kx_result E hl.1 hC (hac) (by decide) (Nat.le_of_ble_eq_true rfl) dx_move_106 (fun H locs hC => ?_)
  refine kx_storeSelf E hl.1 hC (hac) (he) (by decide) (Nat.le_of_ble_eq_true rfl) dx_move_109 (fun H locs hC => ?_)
  exact hret _ _ _ _ dx_move_112 hC  (nw_i _)
def fx_move_33 (k : kSx) (op ac ea : Int32) (t0 : Int64) : Int32 × kSx :=
  if (fx_family k op ac ea) = 132 then
    (fx_storeSelf k op ac ea (fx_swapped t0))
  else
    if (fx_family k op ac ea) = 136 then
      (fx_storeSelf ((fx_result k op ac ea (-t0)).2) op ac ea ((fx_result k op ac ea (-t0)).1))
    else
      if (fx_family k op ac ea) = 140 then
        if (0 : Int64) ≤ t0 then
          fx_move_106 k op ac ea t0
        else
          fx_move_106 k op ac ea (-t0)
      else
        (fx_storeSelf k op ac ea t0)
set_option maxRecDepth 100000 in
set_option maxHeartbeats 4000000 in
theorem wx_move_33 {k : kSx} {op : Int32} {ac : Int32} {ea : Int32} {t0 : Int64} {H : Heap} {locs : List Loc} {ls : Array Slot} (E : xE p s m args c cx_move 3 D cA h0 q) (hC : xC D cA h0 q s.heap k op ac ea H locs) (hl : lv_has ls 3 [(0, .ref h0)]) (hac : vp_in ac 4096) (he : ¬ (op &&& (3 : Int32)) = 1 → vp_in ea 4096) (hret : xwi p l env (rmD 2) s m args below meth c cx_move D cA h0 q .int op ac ea Q (fx_move_33 k op ac ea t0)) : W p l env (rmD 2) s m args below meth c H locs 0 0 Q (F0 m 33 ls [.long t0]) := by
  have hx := E.1.1; have hb := E.1.2.1
  unfold fx_move_33 at hret
  refine lv_lstore_n (lv' := [(1, .long t0), (0, .ref h0)]) hx hb dx_move_33 rfl hl (by decide) rfl (fun ls hl => ?_)
  refine lv_aload_n hx hb dx_move_34 rfl (lv_at hl 1 rfl) ?_
  refine kx_family E hl.1 hC (hac) (by decide) (Nat.le_of_ble_eq_true rfl) dx_move_35 (fun H locs hC => ?_)
  by_cases h1 : (fx_family k op ac ea) = 132
  · rw [if_pos h1] at hret
    refine lv_lookup (off := 34) (tgt := 72) hx hb dx_move_38 (by decide) (by rw [h1]; rfl) (by decide) ?_
    refine lv_aload_n hx hb dx_move_72 rfl (lv_at hl 1 rfl) ?_
    refine lv_lload_n hx hb dx_move_73 rfl (lv_at hl 0 rfl) ?_
    refine kx_swapped_in_x E.1 hl.1 (by decide) (Nat.le_of_ble_eq_true rfl) dx_move_74 ?_
    refine kx_storeSelf E hl.1 hC (hac) (he) (by decide) (Nat.le_of_ble_eq_true rfl) dx_move_77 (fun H locs hC => ?_)
    exact hret _ _ _ _ dx_move_80 hC  (nw_i _)
  · rw [if_neg h1] at hret
    by_cases h2 : (fx_family k op ac ea) = 136
    · rw [if_pos h2] at hret
      refine lv_lookup (off := 43) (tgt := 81) hx hb dx_move_38 (by decide) (by rw [h2]; rfl) (by decide) ?_
      refine lv_aload_n hx hb dx_move_81 rfl (lv_at hl 1 rfl) ?_
      refine lv_aload_n hx hb dx_move_82 rfl (lv_at hl 1 rfl) ?_
      refine lv_lload_n hx hb dx_move_83 rfl (lv_at hl 0 rfl) ?_
      refine lv_lneg hx hb dx_move_84 ?_
      refine kx_result E hl.1 hC (hac) (by decide) (Nat.le_of_ble_eq_true rfl) dx_move_85 (fun H locs hC => ?_)
      refine kx_storeSelf E hl.1 hC (hac) (he) (by decide) (Nat.le_of_ble_eq_true rfl) dx_move_88 (fun H locs hC => ?_)
      exact hret _ _ _ _ dx_move_91 hC  (nw_i _)
    · rw [if_neg h2] at hret
      by_cases h3 : (fx_family k op ac ea) = 140
      · rw [if_pos h3] at hret
        refine lv_lookup (off := 54) (tgt := 92) hx hb dx_move_38 (by decide) (by rw [h3]; rfl) (by decide) ?_
        refine lv_aload_n hx hb dx_move_92 rfl (lv_at hl 1 rfl) ?_
        refine lv_aload_n hx hb dx_move_93 rfl (lv_at hl 1 rfl) ?_
        refine lv_lload_n hx hb dx_move_94 rfl (lv_at hl 0 rfl) ?_
        refine lv_lconst (v := (0 : Int64)) hx hb dx_move_95 (by decide) ?_
        refine tt_lcmp_ge (tgt := 105) hx hb dx_move_96 dx_move_97 (by decide) (fun h4 => ?_) (fun h4 => ?_)
        · rw [if_pos h4] at hret
          refine lv_lload_n hx hb dx_move_105 rfl (lv_at hl 0 rfl) ?_
          exact wx_move_106 E hC (lv_sub hl [] rfl) (hac) (he) hret
        · rw [if_neg h4] at hret
          refine lv_lload_n hx hb dx_move_100 rfl (lv_at hl 0 rfl) ?_
          refine lv_lneg hx hb dx_move_101 ?_
          refine lv_goto (tgt := 106) hx hb dx_move_102 (by decide) ?_
          exact wx_move_106 E hC (lv_sub hl [] rfl) (hac) (he) hret
      · rw [if_neg h3] at hret
        refine lv_lookup (off := 75) (tgt := 113) hx hb dx_move_38 (by decide) (by rw [show (#[(132, 34), (136, 43), (140, 54)] : Array (Int × Int)).toList = [(132, 34), (136, 43), (140, 54)] from rfl, lv_osw h1 (show (132 : Int32).toInt = 132 from rfl), lv_osw h2 (show (136 : Int32).toInt = 136 from rfl), lv_osw h3 (show (140 : Int32).toInt = 140 from rfl)]; rfl) (by decide) ?_
        refine lv_aload_n hx hb dx_move_113 rfl (lv_at hl 1 rfl) ?_
        refine lv_lload_n hx hb dx_move_114 rfl (lv_at hl 0 rfl) ?_
        refine kx_storeSelf E hl.1 hC (hac) (he) (by decide) (Nat.le_of_ble_eq_true rfl) dx_move_115 (fun H locs hC => ?_)
        exact hret _ _ _ _ dx_move_118 hC  (nw_i _)
def fx_move (k : kSx) (op ac ea : Int32)  : Int32 × kSx :=
  if (fx_lacksOperand k op ac ea) = 0 then
    if (fx_mode k op ac ea) = (2 : Int32) then
      fx_move_33 k op ac ea (ldx k ac)
    else
      fx_move_33 k op ac ea (fx_operand k op ac ea)
  else
    ((2 : Int32), k)
set_option maxRecDepth 100000 in
set_option maxHeartbeats 4000000 in
theorem wx_move_0 {k : kSx} {op : Int32} {ac : Int32} {ea : Int32} {H : Heap} {locs : List Loc} {ls : Array Slot} (E : xE p s m args c cx_move 3 D cA h0 q) (hC : xC D cA h0 q s.heap k op ac ea H locs) (hl : lv_has ls 3 [(0, .ref h0)]) (hac : vp_in ac 4096) (hret : xwi p l env (rmD 2) s m args below meth c cx_move D cA h0 q .int op ac ea Q (fx_move k op ac ea)) : W p l env (rmD 2) s m args below meth c H locs 0 0 Q (F0 m 0 ls []) := by
  have hx := E.1.1; have hb := E.1.2.1
  unfold fx_move at hret
  refine lv_aload_n hx hb dx_move_0 rfl (lv_at hl 0 rfl) ?_
  refine kx_lacksOperand E hl.1 hC (hac) (by decide) (Nat.le_of_ble_eq_true rfl) dx_move_1 (fun H locs hC => ?_)
  refine lv_if_eq (tgt := 9) hx hb dx_move_4 (by decide) (fun h1 => ?_) (fun h1 => ?_)
  · rw [if_pos h1] at hret
    refine lv_aload_n hx hb dx_move_9 rfl (lv_at hl 0 rfl) ?_
    refine kx_mode E hl.1 hC (hac) (by decide) (Nat.le_of_ble_eq_true rfl) dx_move_10 (fun H locs hC => ?_)
    refine lv_iconst (v := (2 : Int32)) hx hb dx_move_13 (by decide) ?_
    refine lv_icmp_ne (tgt := 29) hx hb dx_move_14 (by decide) (fun h2 => ?_) (fun h2 => ?_)
    · rw [if_neg h2] at hret
      refine lv_aload_n hx hb dx_move_29 rfl (lv_at hl 0 rfl) ?_
      refine kx_operand E hl.1 hC (hac) (lacks_he h1) (by decide) (Nat.le_of_ble_eq_true rfl) dx_move_30 (fun H locs hC => ?_)
      exact wx_move_33 E hC (lv_sub hl [0] rfl) (hac) (lacks_he h1) hret
    · rw [if_pos h2] at hret
      refine lv_aload_n hx hb dx_move_17 rfl (lv_at hl 0 rfl) ?_
      refine xg_word E hC dx_move_18 ?_
      refine lv_aload_n hx hb dx_move_21 rfl (lv_at hl 0 rfl) ?_
      refine xg_ac E hC dx_move_22 ?_
      refine xld E hC (hac) dx_move_25 ?_
      refine lv_goto (tgt := 33) hx hb dx_move_26 (by decide) ?_
      exact wx_move_33 E hC (lv_sub hl [0] rfl) (hac) (lacks_he h1) hret
  · rw [if_neg h1] at hret
    refine lv_iconst (v := (2 : Int32)) hx hb dx_move_7 (by decide) ?_
    exact (xwi_out hret) _ _ _ _ dx_move_8 hC  (nw_i _)
set_option maxRecDepth 100000 in
set_option maxHeartbeats 4000000 in
theorem mx_move (l : Launch) (k : kSx) (op ac ea : Int32) (hac : vp_in ac 4096) : xMet l yx_move cx_move 3 (some .int) 2 [] k op ac ea (some (.int (fx_move k op ac ea).1)) (fx_move k op ac ea).2 op ac ea :=
  xMet.ofi (by decide) rfl (fun _ => Nat.le_of_ble_eq_true rfl) (fun D cA h0 q p env s m args below meth c ls Q E hC hl hret => wx_move_0 E hC (lv_sub hl [0] rfl) hac hret)
theorem gkx_move : xYw R_x 80 yx_move cx_move 3 (some .int) 0 := ⟨wc_x_move, wl_x_80, wi_x_move, ws_x_move, wn_x, ⟨by decide, by decide, by decide +kernel⟩, by decide⟩
theorem kx_move {p : Program} {l : Launch} {env : Env} {s : State} {m : MethodId} {args : Array Value} {below : List Frame} {meth : Method} {c : Code} {H : Heap} {locs : List Loc} {Q : State → Prop} {cc : ByteArray} {pc nL d : Nat} {ls : Array Slot} {rest : List Value} {D : va_G} {cA : ClassId} {h0 q : Nat} {k : kSx} {op ac ea : Int32} (E : xE p s m args c cc nL D cA h0 q) (hls : ls.size = nL) (hC : xC D cA h0 q s.heap k op ac ea H locs) (hac : vp_in ac 4096) (hd : 2 + 1 ≤ d) (hr : (rest.map fun v => v.category).sum ≤ 8) (hdg : decode cc pc = .ok (.invokevirtual 80, 3)) (kk : ∀ (H1 : Heap) (locs1 : List Loc), xC D cA h0 q s.heap (fx_move k op ac ea).2 op ac ea H1 locs1 → W p l env (rmD d) s m args below meth c H1 locs1 0 0 Q (F0 m (pc + 3) ls (.int (fx_move k op ac ea).1 :: rest))) : W p l env (rmD d) s m args below meth c H locs 0 0 Q (F0 m pc ls (.ref h0 :: rest)) :=
  xcall (av := []) E (mx_move l k op ac ea  hac) gkx_move rfl hls hC hd hr hdg kk
/-! TenMachine.product (JJ)J -/
def fx_product_34 (k : kSx) (op ac ea : Int32) (v1 : Int64) (v3 : Int64) : Int64 × kSx :=
  (fx_result k op ac ea (v1 * v3))
set_option maxRecDepth 100000 in
set_option maxHeartbeats 4000000 in
theorem wx_product_34 {k : kSx} {op : Int32} {ac : Int32} {ea : Int32} {v1 : Int64} {v3 : Int64} {H : Heap} {locs : List Loc} {ls : Array Slot} (E : xE p s m args c cx_product 5 D cA h0 q) (hC : xC D cA h0 q s.heap k op ac ea H locs) (hl : lv_has ls 5 [(0, .ref h0), (1, .long v1), (3, .long v3)]) (hac : vp_in ac 4096) (hret : xwl p l env (rmD 2) s m args below meth c cx_product D cA h0 q .long op ac ea Q (fx_product_34 k op ac ea v1 v3)) : W p l env (rmD 2) s m args below meth c H locs 0 0 Q (F0 m 34 ls []) := by
  have hx := E.1.1; have hb := E.1.2.1
  unfold fx_product_34 at hret
  refine lv_aload_n hx hb dx_product_34 rfl (lv_at hl 0 rfl) ?_
  refine lv_lload_n hx hb dx_product_35 rfl (lv_at hl 1 rfl) ?_
  refine lv_lload_n hx hb dx_product_36 rfl (lv_at hl 2 rfl) ?_
  refine lv_lmul hx hb dx_product_37 ?_
  refine kx_result E hl.1 hC (hac) (by decide) (Nat.le_of_ble_eq_true rfl) dx_product_38 (fun H locs hC => ?_)
  exact hret _ _ _ _ dx_product_41 hC  (nw_l _)
def fx_product (k : kSx) (op ac ea : Int32) (v1 : Int64) (v3 : Int64) : Int64 × kSx :=
  if v1 = (0 : Int64) then
    fx_product_34 k op ac ea v1 v3
  else
    if (fjm_absJ v3) ≤ ((34359738368 : Int64) / (fjm_absJ v1)) then
      fx_product_34 k op ac ea v1 v3
    else
      ((fx_signed (v1 * v3)), vx_ov k (1 : Int32))
set_option maxRecDepth 100000 in
set_option maxHeartbeats 4000000 in
theorem wx_product_0 {k : kSx} {op : Int32} {ac : Int32} {ea : Int32} {v1 : Int64} {v3 : Int64} {H : Heap} {locs : List Loc} {ls : Array Slot} (E : xE p s m args c cx_product 5 D cA h0 q) (hC : xC D cA h0 q s.heap k op ac ea H locs) (hl : lv_has ls 5 [(0, .ref h0), (1, .long v1), (3, .long v3)]) (hac : vp_in ac 4096) (hret : xwl p l env (rmD 2) s m args below meth c cx_product D cA h0 q .long op ac ea Q (fx_product k op ac ea v1 v3)) : W p l env (rmD 2) s m args below meth c H locs 0 0 Q (F0 m 0 ls []) := by
  have hx := E.1.1; have hb := E.1.2.1
  unfold fx_product at hret
  refine lv_lload_n hx hb dx_product_0 rfl (lv_at hl 1 rfl) ?_
  refine lv_lconst (v := (0 : Int64)) hx hb dx_product_1 (by decide) ?_
  refine tt_lcmp_eq (tgt := 34) hx hb dx_product_2 dx_product_3 (by decide) (fun h1 => ?_) (fun h1 => ?_)
  · rw [if_pos h1] at hret
    exact wx_product_34 E hC (lv_sub hl [0, 1, 2] rfl) (hac) hret
  · rw [if_neg h1] at hret
    refine lv_lload_n hx hb dx_product_6 rfl (lv_at hl 2 rfl) ?_
    refine kjm_absJ_in_x E.1 hl.1 (by decide) (Nat.le_of_ble_eq_true rfl) dx_product_7 ?_
    refine lv_ldc2 hx hb E.1.2.2.2.1 (E.1.2.2.2.2 _ ct_x_149) dx_product_10 ?_
    refine lv_lload_n hx hb dx_product_13 rfl (lv_at hl 1 rfl) ?_
    refine kjm_absJ_in_x E.1 hl.1 (by decide) (Nat.le_of_ble_eq_true rfl) dx_product_14 ?_
    refine lv_ldiv hx hb dx_product_17 (dv_abs h1) ?_
    refine tt_lcmp_le (tgt := 34) hx hb dx_product_18 dx_product_19 (by decide) (fun h2 => ?_) (fun h2 => ?_)
    · rw [if_pos h2] at hret
      exact wx_product_34 E hC (lv_sub hl [0, 1, 2] rfl) (hac) hret
    · rw [if_neg h2] at hret
      refine lv_aload_n hx hb dx_product_22 rfl (lv_at hl 0 rfl) ?_
      refine lv_iconst (v := (1 : Int32)) hx hb dx_product_23 (by decide) ?_
      refine xp_overflow E hC rfl rfl dx_product_24 (fun H locs hC => ?_)
      refine lv_lload_n hx hb dx_product_27 rfl (lv_at hl 1 rfl) ?_
      refine lv_lload_n hx hb dx_product_28 rfl (lv_at hl 2 rfl) ?_
      refine lv_lmul hx hb dx_product_29 ?_
      refine kx_signed_in_x E.1 hl.1 (by decide) (Nat.le_of_ble_eq_true rfl) dx_product_30 ?_
      exact (xwl_out hret) _ _ _ _ dx_product_33 hC  (nw_l _)
set_option maxRecDepth 100000 in
set_option maxHeartbeats 4000000 in
theorem mx_product (l : Launch) (k : kSx) (op ac ea : Int32) (v1 : Int64) (v3 : Int64) (hac : vp_in ac 4096) : xMet l yx_product cx_product 5 (some .long) 2 [.long v1, .long v3] k op ac ea (some (.long (fx_product k op ac ea v1 v3).1)) (fx_product k op ac ea v1 v3).2 op ac ea :=
  xMet.ofl (by decide) rfl (fun _ => Nat.le_of_ble_eq_true rfl) (fun D cA h0 q p env s m args below meth c ls Q E hC hl hret => wx_product_0 E hC (lv_sub hl [0, 1, 2] rfl) hac hret)
theorem gkx_product : xYw R_x 140 yx_product cx_product 5 (some .long) 2 := ⟨wc_x_product, wl_x_140, wi_x_product, ws_x_product, wn_x, ⟨by decide, by decide, by decide +kernel⟩, by decide⟩
theorem kx_product {p : Program} {l : Launch} {env : Env} {s : State} {m : MethodId} {args : Array Value} {below : List Frame} {meth : Method} {c : Code} {H : Heap} {locs : List Loc} {Q : State → Prop} {cc : ByteArray} {pc nL d : Nat} {ls : Array Slot} {rest : List Value} {D : va_G} {cA : ClassId} {h0 q : Nat} {k : kSx} {op ac ea : Int32} {v1 : Int64} {v3 : Int64} (E : xE p s m args c cc nL D cA h0 q) (hls : ls.size = nL) (hC : xC D cA h0 q s.heap k op ac ea H locs) (hac : vp_in ac 4096) (hd : 2 + 1 ≤ d) (hr : (rest.map fun v => v.category).sum ≤ 8) (hdg : decode cc pc = .ok (.invokevirtual 140, 3)) (kk : ∀ (H1 : Heap) (locs1 : List Loc), xC D cA h0 q s.heap (fx_product k op ac ea v1 v3).2 op ac ea H1 locs1 → W p l env (rmD d) s m args below meth c H1 locs1 0 0 Q (F0 m (pc + 3) ls (.long (fx_product k op ac ea v1 v3).1 :: rest))) : W p l env (rmD d) s m args below meth c H locs 0 0 Q (F0 m pc ls (.long v3 :: .long v1 :: .ref h0 :: rest)) :=
  xcall (av := [.long v1, .long v3]) E (mx_product l k op ac ea v1 v3 hac) gkx_product rfl hls hC hd hr hdg kk
/-! TenMachine.divide ()I -/
def fx_divide_46 (k : kSx) (op ac ea : Int32)  : Int32 × kSx :=
  ((0 : Int32), vx_ov k (1 : Int32))
set_option maxRecDepth 100000 in
set_option maxHeartbeats 4000000 in
theorem wx_divide_46 {k : kSx} {op : Int32} {ac : Int32} {ea : Int32} {H : Heap} {locs : List Loc} {ls : Array Slot} (E : xE p s m args c cx_divide 5 D cA h0 q) (hC : xC D cA h0 q s.heap k op ac ea H locs) (hl : lv_has ls 5 [(0, .ref h0)]) (hac : vp_in ac 4096) (he : ¬ (op &&& (3 : Int32)) = 1 → vp_in ea 4096) (hret : xwi p l env (rmD 2) s m args below meth c cx_divide D cA h0 q .int op ac ea Q (fx_divide_46 k op ac ea)) : W p l env (rmD 2) s m args below meth c H locs 0 0 Q (F0 m 46 ls []) := by
  have hx := E.1.1; have hb := E.1.2.1
  unfold fx_divide_46 at hret
  refine lv_aload_n hx hb dx_divide_46 rfl (lv_at hl 0 rfl) ?_
  refine lv_iconst (v := (1 : Int32)) hx hb dx_divide_47 (by decide) ?_
  refine xp_overflow E hC rfl rfl dx_divide_48 (fun H locs hC => ?_)
  refine lv_iconst (v := (0 : Int32)) hx hb dx_divide_51 (by decide) ?_
  exact (xwi_out hret) _ _ _ _ dx_divide_52 hC  (nw_i _)
def fx_divide_53 (k : kSx) (op ac ea : Int32) (v1 : Int64) (v3 : Int64) : Int32 × kSx :=
  if (fx_mode ((fx_storeBoth k op ac ea (v1 / v3)).2) op ac ea) = (2 : Int32) then
    ((0 : Int32), (fx_storeBoth k op ac ea (v1 / v3)).2)
  else
    ((0 : Int32), stx ((fx_storeBoth k op ac ea (v1 / v3)).2) (fx_acAfter ((fx_storeBoth k op ac ea (v1 / v3)).2) op ac ea) (v1 - v1 / v3 * v3))
set_option maxRecDepth 100000 in
set_option maxHeartbeats 4000000 in
theorem wx_divide_53 {k : kSx} {op : Int32} {ac : Int32} {ea : Int32} {v1 : Int64} {v3 : Int64} {H : Heap} {locs : List Loc} {ls : Array Slot} (E : xE p s m args c cx_divide 5 D cA h0 q) (hC : xC D cA h0 q s.heap k op ac ea H locs) (hl : lv_has ls 5 [(0, .ref h0), (1, .long v1), (3, .long v3)]) (hac : vp_in ac 4096) (he : ¬ (op &&& (3 : Int32)) = 1 → vp_in ea 4096) (hy0 : ¬ v3 = 0) (hret : xwi p l env (rmD 2) s m args below meth c cx_divide D cA h0 q .int op ac ea Q (fx_divide_53 k op ac ea v1 v3)) : W p l env (rmD 2) s m args below meth c H locs 0 0 Q (F0 m 53 ls []) := by
  have hx := E.1.1; have hb := E.1.2.1
  unfold fx_divide_53 at hret
  refine lv_aload_n hx hb dx_divide_53 rfl (lv_at hl 0 rfl) ?_
  refine lv_lload_n hx hb dx_divide_54 rfl (lv_at hl 1 rfl) ?_
  refine lv_lload_n hx hb dx_divide_55 rfl (lv_at hl 2 rfl) ?_
  refine lv_ldiv hx hb dx_divide_56 (hy0) ?_
  refine kx_storeBoth E hl.1 hC (hac) (he) (by decide) (Nat.le_of_ble_eq_true rfl) dx_divide_57 (fun H locs hC => ?_)
  refine lv_pop hx hb dx_divide_60 rfl ?_
  refine lv_aload_n hx hb dx_divide_61 rfl (lv_at hl 0 rfl) ?_
  refine kx_mode E hl.1 hC (hac) (by decide) (Nat.le_of_ble_eq_true rfl) dx_divide_62 (fun H locs hC => ?_)
  refine lv_iconst (v := (2 : Int32)) hx hb dx_divide_65 (by decide) ?_
  refine lv_icmp_eq (tgt := 81) hx hb dx_divide_66 (by decide) (fun h1 => ?_) (fun h1 => ?_)
  · rw [if_pos h1] at hret
    refine lv_iconst (v := (0 : Int32)) hx hb dx_divide_81 (by decide) ?_
    exact (xwi_out hret) _ _ _ _ dx_divide_82 hC  (nw_i _)
  · rw [if_neg h1] at hret
    refine lv_aload_n hx hb dx_divide_69 rfl (lv_at hl 0 rfl) ?_
    refine xg_word E hC dx_divide_70 ?_
    refine lv_aload_n hx hb dx_divide_73 rfl (lv_at hl 0 rfl) ?_
    refine kx_acAfter E hl.1 hC (hac) (by decide) (Nat.le_of_ble_eq_true rfl) dx_divide_74 (fun H locs hC => ?_)
    refine lv_lload_n hx hb dx_divide_77 rfl (lv_at hl 1 rfl) ?_
    refine lv_lload_n hx hb dx_divide_78 rfl (lv_at hl 2 rfl) ?_
    refine lv_lrem hx hb dx_divide_79 (hy0) ?_
    refine xst E hC (by first | exact hac | exact vin_there (by assumption) | exact he (by assumption) | exact he (ne1_nlt2 (by assumption)) | exact hw (by assumption) | exact hwa | exact vin15 _) dx_divide_80 (fun H locs hC => ?_)
    refine lv_iconst (v := (0 : Int32)) hx hb dx_divide_81 (by decide) ?_
    exact (xwi_out hret) _ _ _ _ dx_divide_82 hC  (nw_i _)
def fx_divide (k : kSx) (op ac ea : Int32)  : Int32 × kSx :=
  if (fx_lacksOperand k op ac ea) = 0 then
    if (fx_operand k op ac ea) = (0 : Int64) then
      fx_divide_46 k op ac ea
    else
      if (fx_operand k op ac ea) = (-1 : Int64) then
        if (ldx k ac) = (-34359738368 : Int64) then
          fx_divide_46 k op ac ea
        else
          fx_divide_53 k op ac ea (ldx k ac) (fx_operand k op ac ea)
      else
        fx_divide_53 k op ac ea (ldx k ac) (fx_operand k op ac ea)
  else
    ((2 : Int32), k)
set_option maxRecDepth 100000 in
set_option maxHeartbeats 4000000 in
theorem wx_divide_0 {k : kSx} {op : Int32} {ac : Int32} {ea : Int32} {H : Heap} {locs : List Loc} {ls : Array Slot} (E : xE p s m args c cx_divide 5 D cA h0 q) (hC : xC D cA h0 q s.heap k op ac ea H locs) (hl : lv_has ls 5 [(0, .ref h0)]) (hac : vp_in ac 4096) (hret : xwi p l env (rmD 2) s m args below meth c cx_divide D cA h0 q .int op ac ea Q (fx_divide k op ac ea)) : W p l env (rmD 2) s m args below meth c H locs 0 0 Q (F0 m 0 ls []) := by
  have hx := E.1.1; have hb := E.1.2.1
  unfold fx_divide at hret
  refine lv_aload_n hx hb dx_divide_0 rfl (lv_at hl 0 rfl) ?_
  refine kx_lacksOperand E hl.1 hC (hac) (by decide) (Nat.le_of_ble_eq_true rfl) dx_divide_1 (fun H locs hC => ?_)
  refine lv_if_eq (tgt := 9) hx hb dx_divide_4 (by decide) (fun h1 => ?_) (fun h1 => ?_)
  · rw [if_pos h1] at hret
    refine lv_aload_n hx hb dx_divide_9 rfl (lv_at hl 0 rfl) ?_
    refine xg_word E hC dx_divide_10 ?_
    refine lv_aload_n hx hb dx_divide_13 rfl (lv_at hl 0 rfl) ?_
    refine xg_ac E hC dx_divide_14 ?_
    refine xld E hC (hac) dx_divide_17 ?_
    refine lv_lstore_n (lv' := [(1, .long (ldx k ac)), (0, .ref h0)]) hx hb dx_divide_18 rfl hl (by decide) rfl (fun ls hl => ?_)
    refine lv_aload_n hx hb dx_divide_19 rfl (lv_at hl 1 rfl) ?_
    refine kx_operand E hl.1 hC (hac) (lacks_he h1) (by decide) (Nat.le_of_ble_eq_true rfl) dx_divide_20 (fun H locs hC => ?_)
    refine lv_lstore_n (lv' := [(3, .long (fx_operand k op ac ea)), (1, .long (ldx k ac)), (0, .ref h0)]) hx hb dx_divide_23 rfl hl (by decide) rfl (fun ls hl => ?_)
    refine lv_lload_n hx hb dx_divide_24 rfl (lv_at hl 0 rfl) ?_
    refine lv_lconst (v := (0 : Int64)) hx hb dx_divide_25 (by decide) ?_
    refine tt_lcmp_eq (tgt := 46) hx hb dx_divide_26 dx_divide_27 (by decide) (fun h2 => ?_) (fun h2 => ?_)
    · rw [if_pos h2] at hret
      exact wx_divide_46 E hC (lv_sub hl [2] rfl) (hac) (lacks_he h1) hret
    · rw [if_neg h2] at hret
      refine lv_lload_n hx hb dx_divide_30 rfl (lv_at hl 0 rfl) ?_
      refine lv_ldc2 hx hb E.1.2.2.2.1 (E.1.2.2.2.2 _ ct_x_151) dx_divide_31 ?_
      refine tt_lcmp_ne (tgt := 53) hx hb dx_divide_34 dx_divide_35 (by decide) (fun h3 => ?_) (fun h3 => ?_)
      · rw [if_neg h3] at hret
        exact wx_divide_53 E hC (lv_sub hl [2, 1, 0] rfl) (hac) (lacks_he h1) (by assumption) hret
      · rw [if_pos h3] at hret
        refine lv_lload_n hx hb dx_divide_38 rfl (lv_at hl 1 rfl) ?_
        refine lv_ldc2 hx hb E.1.2.2.2.1 (E.1.2.2.2.2 _ ct_x_153) dx_divide_39 ?_
        refine tt_lcmp_ne (tgt := 53) hx hb dx_divide_42 dx_divide_43 (by decide) (fun h4 => ?_) (fun h4 => ?_)
        · rw [if_neg h4] at hret
          exact wx_divide_53 E hC (lv_sub hl [2, 1, 0] rfl) (hac) (lacks_he h1) (by assumption) hret
        · rw [if_pos h4] at hret
          exact wx_divide_46 E hC (lv_sub hl [2] rfl) (hac) (lacks_he h1) hret
  · rw [if_neg h1] at hret
    refine lv_iconst (v := (2 : Int32)) hx hb dx_divide_7 (by decide) ?_
    exact (xwi_out hret) _ _ _ _ dx_divide_8 hC  (nw_i _)
set_option maxRecDepth 100000 in
set_option maxHeartbeats 4000000 in
theorem mx_divide (l : Launch) (k : kSx) (op ac ea : Int32) (hac : vp_in ac 4096) : xMet l yx_divide cx_divide 5 (some .int) 2 [] k op ac ea (some (.int (fx_divide k op ac ea).1)) (fx_divide k op ac ea).2 op ac ea :=
  xMet.ofi (by decide) rfl (fun _ => Nat.le_of_ble_eq_true rfl) (fun D cA h0 q p env s m args below meth c ls Q E hC hl hret => wx_divide_0 E hC (lv_sub hl [0] rfl) hac hret)
theorem gkx_divide : xYw R_x 86 yx_divide cx_divide 5 (some .int) 0 := ⟨wc_x_divide, wl_x_86, wi_x_divide, ws_x_divide, wn_x, ⟨by decide, by decide, by decide +kernel⟩, by decide⟩
theorem kx_divide {p : Program} {l : Launch} {env : Env} {s : State} {m : MethodId} {args : Array Value} {below : List Frame} {meth : Method} {c : Code} {H : Heap} {locs : List Loc} {Q : State → Prop} {cc : ByteArray} {pc nL d : Nat} {ls : Array Slot} {rest : List Value} {D : va_G} {cA : ClassId} {h0 q : Nat} {k : kSx} {op ac ea : Int32} (E : xE p s m args c cc nL D cA h0 q) (hls : ls.size = nL) (hC : xC D cA h0 q s.heap k op ac ea H locs) (hac : vp_in ac 4096) (hd : 2 + 1 ≤ d) (hr : (rest.map fun v => v.category).sum ≤ 8) (hdg : decode cc pc = .ok (.invokevirtual 86, 3)) (kk : ∀ (H1 : Heap) (locs1 : List Loc), xC D cA h0 q s.heap (fx_divide k op ac ea).2 op ac ea H1 locs1 → W p l env (rmD d) s m args below meth c H1 locs1 0 0 Q (F0 m (pc + 3) ls (.int (fx_divide k op ac ea).1 :: rest))) : W p l env (rmD d) s m args below meth c H locs 0 0 Q (F0 m pc ls (.ref h0 :: rest)) :=
  xcall (av := []) E (mx_divide l k op ac ea  hac) gkx_divide rfl hls hC hd hr hdg kk
end TTV
