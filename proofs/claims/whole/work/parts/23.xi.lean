section TTV
variable {p : Program} {l : Launch} {env : Env} {s : State} {m : MethodId} {args : Array Value} {below : List Frame} {meth : Method} {c : Code} {Q : State → Prop} {D : va_G} {cA : ClassId} {h0 q : Nat}
/-! TenMachine.findFirstOne ()I -/
def fx_findFirstOne_53 (k : kSx) (op ac ea : Int32) (t1 : Int32) : Int32 × kSx :=
  (fx_jumpIf k op ac ea t1)
set_option maxRecDepth 100000 in
set_option maxHeartbeats 4000000 in
theorem wx_findFirstOne_53 {k : kSx} {op : Int32} {ac : Int32} {ea : Int32} {t1 : Int32} {H : Heap} {locs : List Loc} {ls : Array Slot} (E : xE p s m args c cx_findFirstOne 3 D cA h0 q) (hC : xC D cA h0 q s.heap k op ac ea H locs) (hl : lv_has ls 3 []) (hac : vp_in ac 4096) (hret : xwi p l env (rmD 2) s m args below meth c cx_findFirstOne D cA h0 q .int op ac ea Q (fx_findFirstOne_53 k op ac ea t1)) : W p l env (rmD 2) s m args below meth c H locs 0 0 Q (F0 m 53 ls [.int t1, .ref h0]) := by
  have hx := E.1.1; have hb := E.1.2.1
  unfold fx_findFirstOne_53 at hret
  refine kx_jumpIf E hl.1 hC (hac) (by decide) (Nat.le_of_ble_eq_true rfl) dx_findFirstOne_53 (fun H locs hC => ?_)
  exact hret _ _ _ _ dx_findFirstOne_56 hC  (nw_i _)
def fx_findFirstOne_40 (k : kSx) (op ac ea : Int32) (v1 : Int64) (t1 : Int32) (t2 : Int64) : Int32 × kSx :=
  if v1 = (0 : Int64) then
    fx_findFirstOne_53 (stx k t1 t2) op ac ea (0 : Int32)
  else
    fx_findFirstOne_53 (stx k t1 t2) op ac ea (1 : Int32)
set_option maxRecDepth 100000 in
set_option maxHeartbeats 4000000 in
theorem wx_findFirstOne_40 {k : kSx} {op : Int32} {ac : Int32} {ea : Int32} {v1 : Int64} {t1 : Int32} {t2 : Int64} {H : Heap} {locs : List Loc} {ls : Array Slot} (E : xE p s m args c cx_findFirstOne 3 D cA h0 q) (hC : xC D cA h0 q s.heap k op ac ea H locs) (hl : lv_has ls 3 [(0, .ref h0), (1, .long v1)]) (hac : vp_in ac 4096) (hv1 : vp_in t1 4096) (hret : xwi p l env (rmD 2) s m args below meth c cx_findFirstOne D cA h0 q .int op ac ea Q (fx_findFirstOne_40 k op ac ea v1 t1 t2)) : W p l env (rmD 2) s m args below meth c H locs 0 0 Q (F0 m 40 ls [.long t2, .int t1, .ref q]) := by
  have hx := E.1.1; have hb := E.1.2.1
  unfold fx_findFirstOne_40 at hret
  refine xst E hC (hv1) dx_findFirstOne_40 (fun H locs hC => ?_)
  refine lv_aload_n hx hb dx_findFirstOne_41 rfl (lv_at hl 0 rfl) ?_
  refine lv_lload_n hx hb dx_findFirstOne_42 rfl (lv_at hl 1 rfl) ?_
  refine lv_lconst (v := (0 : Int64)) hx hb dx_findFirstOne_43 (by decide) ?_
  refine tt_lcmp_eq (tgt := 52) hx hb dx_findFirstOne_44 dx_findFirstOne_45 (by decide) (fun h1 => ?_) (fun h1 => ?_)
  · rw [if_pos h1] at hret
    refine lv_iconst (v := (0 : Int32)) hx hb dx_findFirstOne_52 (by decide) ?_
    exact wx_findFirstOne_53 E hC (lv_sub hl [] rfl) (hac) hret
  · rw [if_neg h1] at hret
    refine lv_iconst (v := (1 : Int32)) hx hb dx_findFirstOne_48 (by decide) ?_
    refine lv_goto (tgt := 53) hx hb dx_findFirstOne_49 (by decide) ?_
    exact wx_findFirstOne_53 E hC (lv_sub hl [] rfl) (hac) hret
def fx_findFirstOne (k : kSx) (op ac ea : Int32)  : Int32 × kSx :=
  if ((ldx k ac) &&& (68719476735 : Int64)) = (0 : Int64) then
    fx_findFirstOne_40 k op ac ea ((ldx k ac) &&& (68719476735 : Int64)) (fx_acAfter k op ac ea) (0 : Int64)
  else
    fx_findFirstOne_40 k op ac ea ((ldx k ac) &&& (68719476735 : Int64)) (fx_acAfter k op ac ea) (((fjl_numberOfLeadingZeros ((ldx k ac) &&& (68719476735 : Int64))) - (28 : Int32)).toInt64)
set_option maxRecDepth 100000 in
set_option maxHeartbeats 4000000 in
theorem wx_findFirstOne_0 {k : kSx} {op : Int32} {ac : Int32} {ea : Int32} {H : Heap} {locs : List Loc} {ls : Array Slot} (E : xE p s m args c cx_findFirstOne 3 D cA h0 q) (hC : xC D cA h0 q s.heap k op ac ea H locs) (hl : lv_has ls 3 [(0, .ref h0)]) (hac : vp_in ac 4096) (hret : xwi p l env (rmD 2) s m args below meth c cx_findFirstOne D cA h0 q .int op ac ea Q (fx_findFirstOne k op ac ea)) : W p l env (rmD 2) s m args below meth c H locs 0 0 Q (F0 m 0 ls []) := by
  have hx := E.1.1; have hb := E.1.2.1
  unfold fx_findFirstOne at hret
  refine lv_aload_n hx hb dx_findFirstOne_0 rfl (lv_at hl 0 rfl) ?_
  refine xg_word E hC dx_findFirstOne_1 ?_
  refine lv_aload_n hx hb dx_findFirstOne_4 rfl (lv_at hl 0 rfl) ?_
  refine xg_ac E hC dx_findFirstOne_5 ?_
  refine xld E hC (hac) dx_findFirstOne_8 ?_
  refine lv_ldc2 hx hb E.1.2.2.2.1 (E.1.2.2.2.2 _ ct_x_182) dx_findFirstOne_9 ?_
  refine lv_land hx hb dx_findFirstOne_12 ?_
  refine lv_lstore_n (lv' := [(1, .long ((ldx k ac) &&& (68719476735 : Int64))), (0, .ref h0)]) hx hb dx_findFirstOne_13 rfl hl (by decide) rfl (fun ls hl => ?_)
  refine lv_aload_n hx hb dx_findFirstOne_14 rfl (lv_at hl 1 rfl) ?_
  refine xg_word E hC dx_findFirstOne_15 ?_
  refine lv_aload_n hx hb dx_findFirstOne_18 rfl (lv_at hl 1 rfl) ?_
  refine kx_acAfter E hl.1 hC (hac) (by decide) (Nat.le_of_ble_eq_true rfl) dx_findFirstOne_19 (fun H locs hC => ?_)
  refine lv_lload_n hx hb dx_findFirstOne_22 rfl (lv_at hl 0 rfl) ?_
  refine lv_lconst (v := (0 : Int64)) hx hb dx_findFirstOne_23 (by decide) ?_
  refine tt_lcmp_ne (tgt := 32) hx hb dx_findFirstOne_24 dx_findFirstOne_25 (by decide) (fun h1 => ?_) (fun h1 => ?_)
  · rw [if_neg h1] at hret
    refine lv_lload_n hx hb dx_findFirstOne_32 rfl (lv_at hl 0 rfl) ?_
    refine kjl_numberOfLeadingZeros_in_x E.1 hl.1 (by decide) (Nat.le_of_ble_eq_true rfl) dx_findFirstOne_33 ?_
    refine lv_bipush (v := (28 : Int32)) hx hb dx_findFirstOne_36 (by decide) ?_
    refine lv_isub hx hb dx_findFirstOne_38 ?_
    refine lv_i2l hx hb dx_findFirstOne_39 rfl ?_
    exact wx_findFirstOne_40 E hC (lv_sub hl [1, 0] rfl) (hac) (vin15 _) hret
  · rw [if_pos h1] at hret
    refine lv_lconst (v := (0 : Int64)) hx hb dx_findFirstOne_28 (by decide) ?_
    refine lv_goto (tgt := 40) hx hb dx_findFirstOne_29 (by decide) ?_
    exact wx_findFirstOne_40 E hC (lv_sub hl [1, 0] rfl) (hac) (vin15 _) hret
set_option maxRecDepth 100000 in
set_option maxHeartbeats 4000000 in
theorem mx_findFirstOne (l : Launch) (k : kSx) (op ac ea : Int32) (hac : vp_in ac 4096) : xMet l yx_findFirstOne cx_findFirstOne 3 (some .int) 2 [] k op ac ea (some (.int (fx_findFirstOne k op ac ea).1)) (fx_findFirstOne k op ac ea).2 op ac ea :=
  xMet.ofi (by decide) rfl (fun _ => Nat.le_of_ble_eq_true rfl) (fun D cA h0 q p env s m args below meth c ls Q E hC hl hret => wx_findFirstOne_0 E hC (lv_sub hl [0] rfl) hac hret)
theorem gkx_findFirstOne : xYw R_x 171 yx_findFirstOne cx_findFirstOne 3 (some .int) 0 := ⟨wc_x_findFirstOne, wl_x_171, wi_x_findFirstOne, ws_x_findFirstOne, wn_x, ⟨by decide, by decide, by decide +kernel⟩, by decide⟩
theorem kx_findFirstOne {p : Program} {l : Launch} {env : Env} {s : State} {m : MethodId} {args : Array Value} {below : List Frame} {meth : Method} {c : Code} {H : Heap} {locs : List Loc} {Q : State → Prop} {cc : ByteArray} {pc nL d : Nat} {ls : Array Slot} {rest : List Value} {D : va_G} {cA : ClassId} {h0 q : Nat} {k : kSx} {op ac ea : Int32} (E : xE p s m args c cc nL D cA h0 q) (hls : ls.size = nL) (hC : xC D cA h0 q s.heap k op ac ea H locs) (hac : vp_in ac 4096) (hd : 2 + 1 ≤ d) (hr : (rest.map fun v => v.category).sum ≤ 8) (hdg : decode cc pc = .ok (.invokevirtual 171, 3)) (kk : ∀ (H1 : Heap) (locs1 : List Loc), xC D cA h0 q s.heap (fx_findFirstOne k op ac ea).2 op ac ea H1 locs1 → W p l env (rmD d) s m args below meth c H1 locs1 0 0 Q (F0 m (pc + 3) ls (.int (fx_findFirstOne k op ac ea).1 :: rest))) : W p l env (rmD d) s m args below meth c H locs 0 0 Q (F0 m pc ls (.ref h0 :: rest)) :=
  xcall (av := []) E (mx_findFirstOne l k op ac ea  hac) gkx_findFirstOne rfl hls hC hd hr hdg kk
/-! TenMachine.countBothHalves (Z)I -/
def fx_countBothHalves_51 (k : kSx) (op ac ea : Int32) (t1 : Int32) : Int32 × kSx :=
  (fx_jumpIf k op ac ea t1)
set_option maxRecDepth 100000 in
set_option maxHeartbeats 4000000 in
theorem wx_countBothHalves_51 {k : kSx} {op : Int32} {ac : Int32} {ea : Int32} {t1 : Int32} {H : Heap} {locs : List Loc} {ls : Array Slot} (E : xE p s m args c cx_countBothHalves 2 D cA h0 q) (hC : xC D cA h0 q s.heap k op ac ea H locs) (hl : lv_has ls 2 []) (hac : vp_in ac 4096) (hret : xwi p l env (rmD 2) s m args below meth c cx_countBothHalves D cA h0 q .int op ac ea Q (fx_countBothHalves_51 k op ac ea t1)) : W p l env (rmD 2) s m args below meth c H locs 0 0 Q (F0 m 51 ls [.int t1, .ref h0]) := by
  have hx := E.1.1; have hb := E.1.2.1
  unfold fx_countBothHalves_51 at hret
  refine kx_jumpIf E hl.1 hC (hac) (by decide) (Nat.le_of_ble_eq_true rfl) dx_countBothHalves_51 (fun H locs hC => ?_)
  exact hret _ _ _ _ dx_countBothHalves_54 hC  (nw_i _)
def fx_countBothHalves_42 (k : kSx) (op ac ea : Int32) (v1 : Int32) (t1 : Int32) : Int32 × kSx :=
  if t1 = v1 then
    fx_countBothHalves_51 k op ac ea (1 : Int32)
  else
    fx_countBothHalves_51 k op ac ea (0 : Int32)
set_option maxRecDepth 100000 in
set_option maxHeartbeats 4000000 in
theorem wx_countBothHalves_42 {k : kSx} {op : Int32} {ac : Int32} {ea : Int32} {v1 : Int32} {t1 : Int32} {H : Heap} {locs : List Loc} {ls : Array Slot} (E : xE p s m args c cx_countBothHalves 2 D cA h0 q) (hC : xC D cA h0 q s.heap k op ac ea H locs) (hl : lv_has ls 2 [(1, .int v1)]) (hac : vp_in ac 4096) (hret : xwi p l env (rmD 2) s m args below meth c cx_countBothHalves D cA h0 q .int op ac ea Q (fx_countBothHalves_42 k op ac ea v1 t1)) : W p l env (rmD 2) s m args below meth c H locs 0 0 Q (F0 m 42 ls [.int t1, .ref h0]) := by
  have hx := E.1.1; have hb := E.1.2.1
  unfold fx_countBothHalves_42 at hret
  refine lv_iload_n hx hb dx_countBothHalves_42 rfl (lv_at hl 0 rfl) ?_
  refine lv_icmp_ne (tgt := 50) hx hb dx_countBothHalves_43 (by decide) (fun h1 => ?_) (fun h1 => ?_)
  · rw [if_neg h1] at hret
    refine lv_iconst (v := (0 : Int32)) hx hb dx_countBothHalves_50 (by decide) ?_
    exact wx_countBothHalves_51 E hC (lv_sub hl [] rfl) (hac) hret
  · rw [if_pos h1] at hret
    refine lv_iconst (v := (1 : Int32)) hx hb dx_countBothHalves_46 (by decide) ?_
    refine lv_goto (tgt := 51) hx hb dx_countBothHalves_47 (by decide) ?_
    exact wx_countBothHalves_51 E hC (lv_sub hl [] rfl) (hac) hret
def fx_countBothHalves (k : kSx) (op ac ea : Int32) (v1 : Int32) : Int32 × kSx :=
  if (0 : Int64) ≤ (ldx (stx k ac (fx_bothHalvesMore (ldx k ac) (1 : Int32))) ac) then
    fx_countBothHalves_42 (stx k ac (fx_bothHalvesMore (ldx k ac) (1 : Int32))) op ac ea v1 (0 : Int32)
  else
    fx_countBothHalves_42 (stx k ac (fx_bothHalvesMore (ldx k ac) (1 : Int32))) op ac ea v1 (1 : Int32)
set_option maxRecDepth 100000 in
set_option maxHeartbeats 4000000 in
theorem wx_countBothHalves_0 {k : kSx} {op : Int32} {ac : Int32} {ea : Int32} {v1 : Int32} {H : Heap} {locs : List Loc} {ls : Array Slot} (E : xE p s m args c cx_countBothHalves 2 D cA h0 q) (hC : xC D cA h0 q s.heap k op ac ea H locs) (hl : lv_has ls 2 [(0, .ref h0), (1, .int v1)]) (hac : vp_in ac 4096) (hret : xwi p l env (rmD 2) s m args below meth c cx_countBothHalves D cA h0 q .int op ac ea Q (fx_countBothHalves k op ac ea v1)) : W p l env (rmD 2) s m args below meth c H locs 0 0 Q (F0 m 0 ls []) := by
  have hx := E.1.1; have hb := E.1.2.1
  unfold fx_countBothHalves at hret
  refine lv_aload_n hx hb dx_countBothHalves_0 rfl (lv_at hl 0 rfl) ?_
  refine xg_word E hC dx_countBothHalves_1 ?_
  refine lv_aload_n hx hb dx_countBothHalves_4 rfl (lv_at hl 0 rfl) ?_
  refine xg_ac E hC dx_countBothHalves_5 ?_
  refine lv_aload_n hx hb dx_countBothHalves_8 rfl (lv_at hl 0 rfl) ?_
  refine xg_word E hC dx_countBothHalves_9 ?_
  refine lv_aload_n hx hb dx_countBothHalves_12 rfl (lv_at hl 0 rfl) ?_
  refine xg_ac E hC dx_countBothHalves_13 ?_
  refine xld E hC (hac) dx_countBothHalves_16 ?_
  refine lv_iconst (v := (1 : Int32)) hx hb dx_countBothHalves_17 (by decide) ?_
  refine kx_bothHalvesMore_in_x E.1 hl.1 (by decide) (Nat.le_of_ble_eq_true rfl) dx_countBothHalves_18 ?_
  refine xst E hC (hac) dx_countBothHalves_21 (fun H locs hC => ?_)
  refine lv_aload_n hx hb dx_countBothHalves_22 rfl (lv_at hl 0 rfl) ?_
  refine lv_aload_n hx hb dx_countBothHalves_23 rfl (lv_at hl 0 rfl) ?_
  refine xg_word E hC dx_countBothHalves_24 ?_
  refine lv_aload_n hx hb dx_countBothHalves_27 rfl (lv_at hl 0 rfl) ?_
  refine xg_ac E hC dx_countBothHalves_28 ?_
  refine xld E hC (hac) dx_countBothHalves_31 ?_
  refine lv_lconst (v := (0 : Int64)) hx hb dx_countBothHalves_32 (by decide) ?_
  refine tt_lcmp_ge (tgt := 41) hx hb dx_countBothHalves_33 dx_countBothHalves_34 (by decide) (fun h1 => ?_) (fun h1 => ?_)
  · rw [if_pos h1] at hret
    refine lv_iconst (v := (0 : Int32)) hx hb dx_countBothHalves_41 (by decide) ?_
    exact wx_countBothHalves_42 E hC (lv_sub hl [1] rfl) (hac) hret
  · rw [if_neg h1] at hret
    refine lv_iconst (v := (1 : Int32)) hx hb dx_countBothHalves_37 (by decide) ?_
    refine lv_goto (tgt := 42) hx hb dx_countBothHalves_38 (by decide) ?_
    exact wx_countBothHalves_42 E hC (lv_sub hl [1] rfl) (hac) hret
set_option maxRecDepth 100000 in
set_option maxHeartbeats 4000000 in
theorem mx_countBothHalves (l : Launch) (k : kSx) (op ac ea : Int32) (v1 : Int32) (hac : vp_in ac 4096) : xMet l yx_countBothHalves cx_countBothHalves 2 (some .int) 2 [.int v1] k op ac ea (some (.int (fx_countBothHalves k op ac ea v1).1)) (fx_countBothHalves k op ac ea v1).2 op ac ea :=
  xMet.ofi (by decide) rfl (fun _ => Nat.le_of_ble_eq_true rfl) (fun D cA h0 q p env s m args below meth c ls Q E hC hl hret => wx_countBothHalves_0 E hC (lv_sub hl [0, 1] rfl) hac hret)
theorem gkx_countBothHalves : xYw R_x 104 yx_countBothHalves cx_countBothHalves 2 (some .int) 1 := ⟨wc_x_countBothHalves, wl_x_104, wi_x_countBothHalves, ws_x_countBothHalves, wn_x, ⟨by decide, by decide, by decide +kernel⟩, by decide⟩
theorem kx_countBothHalves {p : Program} {l : Launch} {env : Env} {s : State} {m : MethodId} {args : Array Value} {below : List Frame} {meth : Method} {c : Code} {H : Heap} {locs : List Loc} {Q : State → Prop} {cc : ByteArray} {pc nL d : Nat} {ls : Array Slot} {rest : List Value} {D : va_G} {cA : ClassId} {h0 q : Nat} {k : kSx} {op ac ea : Int32} {v1 : Int32} (E : xE p s m args c cc nL D cA h0 q) (hls : ls.size = nL) (hC : xC D cA h0 q s.heap k op ac ea H locs) (hac : vp_in ac 4096) (hd : 2 + 1 ≤ d) (hr : (rest.map fun v => v.category).sum ≤ 8) (hdg : decode cc pc = .ok (.invokevirtual 104, 3)) (kk : ∀ (H1 : Heap) (locs1 : List Loc), xC D cA h0 q s.heap (fx_countBothHalves k op ac ea v1).2 op ac ea H1 locs1 → W p l env (rmD d) s m args below meth c H1 locs1 0 0 Q (F0 m (pc + 3) ls (.int (fx_countBothHalves k op ac ea v1).1 :: rest))) : W p l env (rmD d) s m args below meth c H locs 0 0 Q (F0 m pc ls (.int v1 :: .ref h0 :: rest)) :=
  xcall (av := [.int v1]) E (mx_countBothHalves l k op ac ea v1 hac) gkx_countBothHalves rfl hls hC hd hr hdg kk
/-! TenMachine.push (J)Z -/
def fx_push (k : kSx) (op ac ea : Int32) (v1 : Int64) : Int32 × kSx :=
  if (fx_isThere (fx_right (fx_bothHalvesMore (ldx k ac) (1 : Int32)))) = 0 then
    ((0 : Int32), k)
  else
    ((1 : Int32), stx (stx k ac (fx_bothHalvesMore (ldx k ac) (1 : Int32))) (fx_right (fx_bothHalvesMore (ldx k ac) (1 : Int32))) v1)
set_option maxRecDepth 100000 in
set_option maxHeartbeats 4000000 in
theorem wx_push_0 {k : kSx} {op : Int32} {ac : Int32} {ea : Int32} {v1 : Int64} {H : Heap} {locs : List Loc} {ls : Array Slot} (E : xE p s m args c cx_push 6 D cA h0 q) (hC : xC D cA h0 q s.heap k op ac ea H locs) (hl : lv_has ls 6 [(0, .ref h0), (1, .long v1)]) (hac : vp_in ac 4096) (hret : xwi p l env (rmD 2) s m args below meth c cx_push D cA h0 q .boolean op ac ea Q (fx_push k op ac ea v1)) : W p l env (rmD 2) s m args below meth c H locs 0 0 Q (F0 m 0 ls []) := by
  have hx := E.1.1; have hb := E.1.2.1
  unfold fx_push at hret
  refine lv_aload_n hx hb dx_push_0 rfl (lv_at hl 0 rfl) ?_
  refine xg_word E hC dx_push_1 ?_
  refine lv_aload_n hx hb dx_push_4 rfl (lv_at hl 0 rfl) ?_
  refine xg_ac E hC dx_push_5 ?_
  refine xld E hC (hac) dx_push_8 ?_
  refine lv_iconst (v := (1 : Int32)) hx hb dx_push_9 (by decide) ?_
  refine kx_bothHalvesMore_in_x E.1 hl.1 (by decide) (Nat.le_of_ble_eq_true rfl) dx_push_10 ?_
  refine lv_lstore_n (lv' := [(3, .long (fx_bothHalvesMore (ldx k ac) (1 : Int32))), (0, .ref h0), (1, .long v1)]) hx hb dx_push_13 rfl hl (by decide) rfl (fun ls hl => ?_)
  refine lv_lload_n hx hb dx_push_14 rfl (lv_at hl 0 rfl) ?_
  refine kx_right_in_x E.1 hl.1 (by decide) (Nat.le_of_ble_eq_true rfl) dx_push_15 ?_
  refine lv_istore (lv' := [(5, .int (fx_right (fx_bothHalvesMore (ldx k ac) (1 : Int32)))), (3, .long (fx_bothHalvesMore (ldx k ac) (1 : Int32))), (0, .ref h0), (1, .long v1)]) hx hb dx_push_18 hl (by decide) rfl (fun ls hl => ?_)
  refine lv_iload hx hb dx_push_20 (lv_at hl 0 rfl) ?_
  refine kx_isThere_in_x E.1 hl.1 (by decide) (Nat.le_of_ble_eq_true rfl) dx_push_22 ?_
  refine lv_if_ne (tgt := 30) hx hb dx_push_25 (by decide) (fun h1 => ?_) (fun h1 => ?_)
  · rw [if_neg h1] at hret
    refine lv_aload_n hx hb dx_push_30 rfl (lv_at hl 2 rfl) ?_
    refine xg_word E hC dx_push_31 ?_
    refine lv_aload_n hx hb dx_push_34 rfl (lv_at hl 2 rfl) ?_
    refine xg_ac E hC dx_push_35 ?_
    refine lv_lload_n hx hb dx_push_38 rfl (lv_at hl 1 rfl) ?_
    refine xst E hC (hac) dx_push_39 (fun H locs hC => ?_)
    refine lv_aload_n hx hb dx_push_40 rfl (lv_at hl 2 rfl) ?_
    refine xg_word E hC dx_push_41 ?_
    refine lv_iload hx hb dx_push_44 (lv_at hl 0 rfl) ?_
    refine lv_lload_n hx hb dx_push_46 rfl (lv_at hl 3 rfl) ?_
    refine xst E hC (vin_there h1) dx_push_47 (fun H locs hC => ?_)
    refine lv_iconst (v := (1 : Int32)) hx hb dx_push_48 (by decide) ?_
    exact (xwi_out hret) _ _ _ _ dx_push_49 hC  (narrow_b1)
  · rw [if_pos h1] at hret
    refine lv_iconst (v := (0 : Int32)) hx hb dx_push_28 (by decide) ?_
    exact (xwi_out hret) _ _ _ _ dx_push_29 hC  (narrow_b0)
set_option maxRecDepth 100000 in
set_option maxHeartbeats 4000000 in
theorem mx_push (l : Launch) (k : kSx) (op ac ea : Int32) (v1 : Int64) (hac : vp_in ac 4096) : xMet l yx_push cx_push 6 (some .boolean) 2 [.long v1] k op ac ea (some (.int (fx_push k op ac ea v1).1)) (fx_push k op ac ea v1).2 op ac ea :=
  xMet.ofi (by decide) rfl (fun _ => Nat.le_of_ble_eq_true rfl) (fun D cA h0 q p env s m args below meth c ls Q E hC hl hret => wx_push_0 E hC (lv_sub hl [0, 1] rfl) hac hret)
theorem gkx_push : xYw R_x 201 yx_push cx_push 6 (some .boolean) 1 := ⟨wc_x_push, wl_x_201, wi_x_push, ws_x_push, wn_x, ⟨by decide, by decide, by decide +kernel⟩, by decide⟩
theorem kx_push {p : Program} {l : Launch} {env : Env} {s : State} {m : MethodId} {args : Array Value} {below : List Frame} {meth : Method} {c : Code} {H : Heap} {locs : List Loc} {Q : State → Prop} {cc : ByteArray} {pc nL d : Nat} {ls : Array Slot} {rest : List Value} {D : va_G} {cA : ClassId} {h0 q : Nat} {k : kSx} {op ac ea : Int32} {v1 : Int64} (E : xE p s m args c cc nL D cA h0 q) (hls : ls.size = nL) (hC : xC D cA h0 q s.heap k op ac ea H locs) (hac : vp_in ac 4096) (hd : 2 + 1 ≤ d) (hr : (rest.map fun v => v.category).sum ≤ 8) (hdg : decode cc pc = .ok (.invokevirtual 201, 3)) (kk : ∀ (H1 : Heap) (locs1 : List Loc), xC D cA h0 q s.heap (fx_push k op ac ea v1).2 op ac ea H1 locs1 → W p l env (rmD d) s m args below meth c H1 locs1 0 0 Q (F0 m (pc + 3) ls (.int (fx_push k op ac ea v1).1 :: rest))) : W p l env (rmD d) s m args below meth c H locs 0 0 Q (F0 m pc ls (.long v1 :: .ref h0 :: rest)) :=
  xcall (av := [.long v1]) E (mx_push l k op ac ea v1 hac) gkx_push rfl hls hC hd hr hdg kk
/-! TenMachine.pop ()I -/
def fx_pop (k : kSx) (op ac ea : Int32)  : Int32 × kSx :=
  if (fx_isThere ea) = 0 then
    ((2 : Int32), k)
  else
    if (fx_isThere (fx_right (ldx k ac))) = 0 then
      ((2 : Int32), k)
    else
      ((0 : Int32), stx (stx k ac (fx_bothHalvesMore (ldx k ac) (-1 : Int32))) ea (ldx k (fx_right (ldx k ac))))
set_option maxRecDepth 100000 in
set_option maxHeartbeats 4000000 in
theorem wx_pop_0 {k : kSx} {op : Int32} {ac : Int32} {ea : Int32} {H : Heap} {locs : List Loc} {ls : Array Slot} (E : xE p s m args c cx_pop 4 D cA h0 q) (hC : xC D cA h0 q s.heap k op ac ea H locs) (hl : lv_has ls 4 [(0, .ref h0)]) (hac : vp_in ac 4096) (hret : xwi p l env (rmD 2) s m args below meth c cx_pop D cA h0 q .int op ac ea Q (fx_pop k op ac ea)) : W p l env (rmD 2) s m args below meth c H locs 0 0 Q (F0 m 0 ls []) := by
  have hx := E.1.1; have hb := E.1.2.1
  unfold fx_pop at hret
  refine lv_aload_n hx hb dx_pop_0 rfl (lv_at hl 0 rfl) ?_
  refine xg_word E hC dx_pop_1 ?_
  refine lv_aload_n hx hb dx_pop_4 rfl (lv_at hl 0 rfl) ?_
  refine xg_ac E hC dx_pop_5 ?_
  refine xld E hC (hac) dx_pop_8 ?_
  refine kx_right_in_x E.1 hl.1 (by decide) (Nat.le_of_ble_eq_true rfl) dx_pop_9 ?_
  refine lv_istore_n (lv' := [(1, .int (fx_right (ldx k ac))), (0, .ref h0)]) hx hb dx_pop_12 rfl hl (by decide) rfl (fun ls hl => ?_)
  refine lv_aload_n hx hb dx_pop_13 rfl (lv_at hl 1 rfl) ?_
  refine xg_e E hC dx_pop_14 ?_
  refine kx_isThere_in_x E.1 hl.1 (by decide) (Nat.le_of_ble_eq_true rfl) dx_pop_17 ?_
  refine lv_if_eq (tgt := 30) hx hb dx_pop_20 (by decide) (fun h1 => ?_) (fun h1 => ?_)
  · rw [if_pos h1] at hret
    refine lv_iconst (v := (2 : Int32)) hx hb dx_pop_30 (by decide) ?_
    exact (xwi_out hret) _ _ _ _ dx_pop_31 hC  (nw_i _)
  · rw [if_neg h1] at hret
    refine lv_iload_n hx hb dx_pop_23 rfl (lv_at hl 0 rfl) ?_
    refine kx_isThere_in_x E.1 hl.1 (by decide) (Nat.le_of_ble_eq_true rfl) dx_pop_24 ?_
    refine lv_if_ne (tgt := 32) hx hb dx_pop_27 (by decide) (fun h2 => ?_) (fun h2 => ?_)
    · rw [if_neg h2] at hret
      refine lv_aload_n hx hb dx_pop_32 rfl (lv_at hl 1 rfl) ?_
      refine xg_word E hC dx_pop_33 ?_
      refine lv_iload_n hx hb dx_pop_36 rfl (lv_at hl 0 rfl) ?_
      refine xld E hC (vin_there h2) dx_pop_37 ?_
      refine lv_lstore_n (lv' := [(2, .long (ldx k (fx_right (ldx k ac)))), (1, .int (fx_right (ldx k ac))), (0, .ref h0)]) hx hb dx_pop_38 rfl hl (by decide) rfl (fun ls hl => ?_)
      refine lv_aload_n hx hb dx_pop_39 rfl (lv_at hl 2 rfl) ?_
      refine xg_word E hC dx_pop_40 ?_
      refine lv_aload_n hx hb dx_pop_43 rfl (lv_at hl 2 rfl) ?_
      refine xg_ac E hC dx_pop_44 ?_
      refine lv_aload_n hx hb dx_pop_47 rfl (lv_at hl 2 rfl) ?_
      refine xg_word E hC dx_pop_48 ?_
      refine lv_aload_n hx hb dx_pop_51 rfl (lv_at hl 2 rfl) ?_
      refine xg_ac E hC dx_pop_52 ?_
      refine xld E hC (hac) dx_pop_55 ?_
      refine lv_iconst (v := (-1 : Int32)) hx hb dx_pop_56 (by decide) ?_
      refine kx_bothHalvesMore_in_x E.1 hl.1 (by decide) (Nat.le_of_ble_eq_true rfl) dx_pop_57 ?_
      refine xst E hC (hac) dx_pop_60 (fun H locs hC => ?_)
      refine lv_aload_n hx hb dx_pop_61 rfl (lv_at hl 2 rfl) ?_
      refine xg_word E hC dx_pop_62 ?_
      refine lv_aload_n hx hb dx_pop_65 rfl (lv_at hl 2 rfl) ?_
      refine xg_e E hC dx_pop_66 ?_
      refine lv_lload_n hx hb dx_pop_69 rfl (lv_at hl 0 rfl) ?_
      refine xst E hC (vin_there h1) dx_pop_70 (fun H locs hC => ?_)
      refine lv_iconst (v := (0 : Int32)) hx hb dx_pop_71 (by decide) ?_
      exact (xwi_out hret) _ _ _ _ dx_pop_72 hC  (nw_i _)
    · rw [if_pos h2] at hret
      refine lv_iconst (v := (2 : Int32)) hx hb dx_pop_30 (by decide) ?_
      exact (xwi_out hret) _ _ _ _ dx_pop_31 hC  (nw_i _)
set_option maxRecDepth 100000 in
set_option maxHeartbeats 4000000 in
theorem mx_pop (l : Launch) (k : kSx) (op ac ea : Int32) (hac : vp_in ac 4096) : xMet l yx_pop cx_pop 4 (some .int) 2 [] k op ac ea (some (.int (fx_pop k op ac ea).1)) (fx_pop k op ac ea).2 op ac ea :=
  xMet.ofi (by decide) rfl (fun _ => Nat.le_of_ble_eq_true rfl) (fun D cA h0 q p env s m args below meth c ls Q E hC hl hret => wx_pop_0 E hC (lv_sub hl [0] rfl) hac hret)
theorem gkx_pop : xYw R_x 205 yx_pop cx_pop 4 (some .int) 0 := ⟨wc_x_pop, wl_x_205, wi_x_pop, ws_x_pop, wn_x, ⟨by decide, by decide, by decide +kernel⟩, by decide⟩
theorem kx_pop {p : Program} {l : Launch} {env : Env} {s : State} {m : MethodId} {args : Array Value} {below : List Frame} {meth : Method} {c : Code} {H : Heap} {locs : List Loc} {Q : State → Prop} {cc : ByteArray} {pc nL d : Nat} {ls : Array Slot} {rest : List Value} {D : va_G} {cA : ClassId} {h0 q : Nat} {k : kSx} {op ac ea : Int32} (E : xE p s m args c cc nL D cA h0 q) (hls : ls.size = nL) (hC : xC D cA h0 q s.heap k op ac ea H locs) (hac : vp_in ac 4096) (hd : 2 + 1 ≤ d) (hr : (rest.map fun v => v.category).sum ≤ 8) (hdg : decode cc pc = .ok (.invokevirtual 205, 3)) (kk : ∀ (H1 : Heap) (locs1 : List Loc), xC D cA h0 q s.heap (fx_pop k op ac ea).2 op ac ea H1 locs1 → W p l env (rmD d) s m args below meth c H1 locs1 0 0 Q (F0 m (pc + 3) ls (.int (fx_pop k op ac ea).1 :: rest))) : W p l env (rmD d) s m args below meth c H locs 0 0 Q (F0 m pc ls (.ref h0 :: rest)) :=
  xcall (av := []) E (mx_pop l k op ac ea  hac) gkx_pop rfl hls hC hd hr hdg kk
/-! TenMachine.popToPc ()I -/
def fx_popToPc (k : kSx) (op ac ea : Int32)  : Int32 × kSx :=
  if (fx_isThere (fx_right (ldx k ac))) = 0 then
    ((2 : Int32), k)
  else
    ((0 : Int32), stx (vx_pc k (fx_right (ldx k (fx_right (ldx k ac))))) ac (fx_bothHalvesMore (ldx (vx_pc k (fx_right (ldx k (fx_right (ldx k ac))))) ac) (-1 : Int32)))
set_option maxRecDepth 100000 in
set_option maxHeartbeats 4000000 in
theorem wx_popToPc_0 {k : kSx} {op : Int32} {ac : Int32} {ea : Int32} {H : Heap} {locs : List Loc} {ls : Array Slot} (E : xE p s m args c cx_popToPc 2 D cA h0 q) (hC : xC D cA h0 q s.heap k op ac ea H locs) (hl : lv_has ls 2 [(0, .ref h0)]) (hac : vp_in ac 4096) (hret : xwi p l env (rmD 2) s m args below meth c cx_popToPc D cA h0 q .int op ac ea Q (fx_popToPc k op ac ea)) : W p l env (rmD 2) s m args below meth c H locs 0 0 Q (F0 m 0 ls []) := by
  have hx := E.1.1; have hb := E.1.2.1
  unfold fx_popToPc at hret
  refine lv_aload_n hx hb dx_popToPc_0 rfl (lv_at hl 0 rfl) ?_
  refine xg_word E hC dx_popToPc_1 ?_
  refine lv_aload_n hx hb dx_popToPc_4 rfl (lv_at hl 0 rfl) ?_
  refine xg_ac E hC dx_popToPc_5 ?_
  refine xld E hC (hac) dx_popToPc_8 ?_
  refine kx_right_in_x E.1 hl.1 (by decide) (Nat.le_of_ble_eq_true rfl) dx_popToPc_9 ?_
  refine lv_istore_n (lv' := [(1, .int (fx_right (ldx k ac))), (0, .ref h0)]) hx hb dx_popToPc_12 rfl hl (by decide) rfl (fun ls hl => ?_)
  refine lv_iload_n hx hb dx_popToPc_13 rfl (lv_at hl 0 rfl) ?_
  refine kx_isThere_in_x E.1 hl.1 (by decide) (Nat.le_of_ble_eq_true rfl) dx_popToPc_14 ?_
  refine lv_if_ne (tgt := 22) hx hb dx_popToPc_17 (by decide) (fun h1 => ?_) (fun h1 => ?_)
  · rw [if_neg h1] at hret
    refine lv_aload_n hx hb dx_popToPc_22 rfl (lv_at hl 1 rfl) ?_
    refine lv_aload_n hx hb dx_popToPc_23 rfl (lv_at hl 1 rfl) ?_
    refine xg_word E hC dx_popToPc_24 ?_
    refine lv_iload_n hx hb dx_popToPc_27 rfl (lv_at hl 0 rfl) ?_
    refine xld E hC (vin_there h1) dx_popToPc_28 ?_
    refine kx_right_in_x E.1 hl.1 (by decide) (Nat.le_of_ble_eq_true rfl) dx_popToPc_29 ?_
    refine xp_pc E hC dx_popToPc_32 (fun H locs hC => ?_)
    refine lv_aload_n hx hb dx_popToPc_35 rfl (lv_at hl 1 rfl) ?_
    refine xg_word E hC dx_popToPc_36 ?_
    refine lv_aload_n hx hb dx_popToPc_39 rfl (lv_at hl 1 rfl) ?_
    refine xg_ac E hC dx_popToPc_40 ?_
    refine lv_aload_n hx hb dx_popToPc_43 rfl (lv_at hl 1 rfl) ?_
    refine xg_word E hC dx_popToPc_44 ?_
    refine lv_aload_n hx hb dx_popToPc_47 rfl (lv_at hl 1 rfl) ?_
    refine xg_ac E hC dx_popToPc_48 ?_
    refine xld E hC (hac) dx_popToPc_51 ?_
    refine lv_iconst (v := (-1 : Int32)) hx hb dx_popToPc_52 (by decide) ?_
    refine kx_bothHalvesMore_in_x E.1 hl.1 (by decide) (Nat.le_of_ble_eq_true rfl) dx_popToPc_53 ?_
    refine xst E hC (hac) dx_popToPc_56 (fun H locs hC => ?_)
    refine lv_iconst (v := (0 : Int32)) hx hb dx_popToPc_57 (by decide) ?_
    exact (xwi_out hret) _ _ _ _ dx_popToPc_58 hC  (nw_i _)
  · rw [if_pos h1] at hret
    refine lv_iconst (v := (2 : Int32)) hx hb dx_popToPc_20 (by decide) ?_
    exact (xwi_out hret) _ _ _ _ dx_popToPc_21 hC  (nw_i _)
set_option maxRecDepth 100000 in
set_option maxHeartbeats 4000000 in
theorem mx_popToPc (l : Launch) (k : kSx) (op ac ea : Int32) (hac : vp_in ac 4096) : xMet l yx_popToPc cx_popToPc 2 (some .int) 2 [] k op ac ea (some (.int (fx_popToPc k op ac ea).1)) (fx_popToPc k op ac ea).2 op ac ea :=
  xMet.ofi (by decide) rfl (fun _ => Nat.le_of_ble_eq_true rfl) (fun D cA h0 q p env s m args below meth c ls Q E hC hl hret => wx_popToPc_0 E hC (lv_sub hl [0] rfl) hac hret)
theorem gkx_popToPc : xYw R_x 208 yx_popToPc cx_popToPc 2 (some .int) 0 := ⟨wc_x_popToPc, wl_x_208, wi_x_popToPc, ws_x_popToPc, wn_x, ⟨by decide, by decide, by decide +kernel⟩, by decide⟩
theorem kx_popToPc {p : Program} {l : Launch} {env : Env} {s : State} {m : MethodId} {args : Array Value} {below : List Frame} {meth : Method} {c : Code} {H : Heap} {locs : List Loc} {Q : State → Prop} {cc : ByteArray} {pc nL d : Nat} {ls : Array Slot} {rest : List Value} {D : va_G} {cA : ClassId} {h0 q : Nat} {k : kSx} {op ac ea : Int32} (E : xE p s m args c cc nL D cA h0 q) (hls : ls.size = nL) (hC : xC D cA h0 q s.heap k op ac ea H locs) (hac : vp_in ac 4096) (hd : 2 + 1 ≤ d) (hr : (rest.map fun v => v.category).sum ≤ 8) (hdg : decode cc pc = .ok (.invokevirtual 208, 3)) (kk : ∀ (H1 : Heap) (locs1 : List Loc), xC D cA h0 q s.heap (fx_popToPc k op ac ea).2 op ac ea H1 locs1 → W p l env (rmD d) s m args below meth c H1 locs1 0 0 Q (F0 m (pc + 3) ls (.int (fx_popToPc k op ac ea).1 :: rest))) : W p l env (rmD d) s m args below meth c H locs 0 0 Q (F0 m pc ls (.ref h0 :: rest)) :=
  xcall (av := []) E (mx_popToPc l k op ac ea  hac) gkx_popToPc rfl hls hC hd hr hdg kk
/-! TenMachine.countAc (I)I -/
def fx_countAc (k : kSx) (op ac ea : Int32) (v1 : Int32) : Int32 × kSx :=
  (fx_jumpIf (stx ((fx_result k op ac ea ((ldx k ac) + v1.toInt64)).2) ac ((fx_result k op ac ea ((ldx k ac) + v1.toInt64)).1)) op ac ea (fx_holds (stx ((fx_result k op ac ea ((ldx k ac) + v1.toInt64)).2) ac ((fx_result k op ac ea ((ldx k ac) + v1.toInt64)).1)) op ac ea (ldx (stx ((fx_result k op ac ea ((ldx k ac) + v1.toInt64)).2) ac ((fx_result k op ac ea ((ldx k ac) + v1.toInt64)).1)) ac) (0 : Int64)))
set_option maxRecDepth 100000 in
set_option maxHeartbeats 4000000 in
theorem wx_countAc_0 {k : kSx} {op : Int32} {ac : Int32} {ea : Int32} {v1 : Int32} {H : Heap} {locs : List Loc} {ls : Array Slot} (E : xE p s m args c cx_countAc 2 D cA h0 q) (hC : xC D cA h0 q s.heap k op ac ea H locs) (hl : lv_has ls 2 [(0, .ref h0), (1, .int v1)]) (hac : vp_in ac 4096) (hret : xwi p l env (rmD 2) s m args below meth c cx_countAc D cA h0 q .int op ac ea Q (fx_countAc k op ac ea v1)) : W p l env (rmD 2) s m args below meth c H locs 0 0 Q (F0 m 0 ls []) := by
  have hx := E.1.1; have hb := E.1.2.1
  unfold fx_countAc at hret
  refine lv_aload_n hx hb dx_countAc_0 rfl (lv_at hl 0 rfl) ?_
  refine xg_word E hC dx_countAc_1 ?_
  refine lv_aload_n hx hb dx_countAc_4 rfl (lv_at hl 0 rfl) ?_
  refine xg_ac E hC dx_countAc_5 ?_
  refine lv_aload_n hx hb dx_countAc_8 rfl (lv_at hl 0 rfl) ?_
  refine lv_aload_n hx hb dx_countAc_9 rfl (lv_at hl 0 rfl) ?_
  refine xg_word E hC dx_countAc_10 ?_
  refine lv_aload_n hx hb dx_countAc_13 rfl (lv_at hl 0 rfl) ?_
  refine xg_ac E hC dx_countAc_14 ?_
  refine xld E hC (hac) dx_countAc_17 ?_
  refine lv_iload_n hx hb dx_countAc_18 rfl (lv_at hl 1 rfl) ?_
  refine lv_i2l hx hb dx_countAc_19 rfl ?_
  refine lv_ladd hx hb dx_countAc_20 ?_
  refine kx_result E hl.1 hC (hac) (by decide) (Nat.le_of_ble_eq_true rfl) dx_countAc_21 (fun H locs hC => ?_)
  refine xst E hC (hac) dx_countAc_24 (fun H locs hC => ?_)
  refine lv_aload_n hx hb dx_countAc_25 rfl (lv_at hl 0 rfl) ?_
  refine lv_aload_n hx hb dx_countAc_26 rfl (lv_at hl 0 rfl) ?_
  refine lv_aload_n hx hb dx_countAc_27 rfl (lv_at hl 0 rfl) ?_
  refine xg_word E hC dx_countAc_28 ?_
  refine lv_aload_n hx hb dx_countAc_31 rfl (lv_at hl 0 rfl) ?_
  refine xg_ac E hC dx_countAc_32 ?_
  refine xld E hC (hac) dx_countAc_35 ?_
  refine lv_lconst (v := (0 : Int64)) hx hb dx_countAc_36 (by decide) ?_
  refine kx_holds E hl.1 hC (hac) (by decide) (Nat.le_of_ble_eq_true rfl) dx_countAc_37 (fun H locs hC => ?_)
  refine kx_jumpIf E hl.1 hC (hac) (by decide) (Nat.le_of_ble_eq_true rfl) dx_countAc_40 (fun H locs hC => ?_)
  exact hret _ _ _ _ dx_countAc_43 hC  (nw_i _)
set_option maxRecDepth 100000 in
set_option maxHeartbeats 4000000 in
theorem mx_countAc (l : Launch) (k : kSx) (op ac ea : Int32) (v1 : Int32) (hac : vp_in ac 4096) : xMet l yx_countAc cx_countAc 2 (some .int) 2 [.int v1] k op ac ea (some (.int (fx_countAc k op ac ea v1).1)) (fx_countAc k op ac ea v1).2 op ac ea :=
  xMet.ofi (by decide) rfl (fun _ => Nat.le_of_ble_eq_true rfl) (fun D cA h0 q p env s m args below meth c ls Q E hC hl hret => wx_countAc_0 E hC (lv_sub hl [0, 1] rfl) hac hret)
theorem gkx_countAc : xYw R_x 221 yx_countAc cx_countAc 2 (some .int) 1 := ⟨wc_x_countAc, wl_x_221, wi_x_countAc, ws_x_countAc, wn_x, ⟨by decide, by decide, by decide +kernel⟩, by decide⟩
theorem kx_countAc {p : Program} {l : Launch} {env : Env} {s : State} {m : MethodId} {args : Array Value} {below : List Frame} {meth : Method} {c : Code} {H : Heap} {locs : List Loc} {Q : State → Prop} {cc : ByteArray} {pc nL d : Nat} {ls : Array Slot} {rest : List Value} {D : va_G} {cA : ClassId} {h0 q : Nat} {k : kSx} {op ac ea : Int32} {v1 : Int32} (E : xE p s m args c cc nL D cA h0 q) (hls : ls.size = nL) (hC : xC D cA h0 q s.heap k op ac ea H locs) (hac : vp_in ac 4096) (hd : 2 + 1 ≤ d) (hr : (rest.map fun v => v.category).sum ≤ 8) (hdg : decode cc pc = .ok (.invokevirtual 221, 3)) (kk : ∀ (H1 : Heap) (locs1 : List Loc), xC D cA h0 q s.heap (fx_countAc k op ac ea v1).2 op ac ea H1 locs1 → W p l env (rmD d) s m args below meth c H1 locs1 0 0 Q (F0 m (pc + 3) ls (.int (fx_countAc k op ac ea v1).1 :: rest))) : W p l env (rmD d) s m args below meth c H locs 0 0 Q (F0 m pc ls (.int v1 :: .ref h0 :: rest)) :=
  xcall (av := [.int v1]) E (mx_countAc l k op ac ea v1 hac) gkx_countAc rfl hls hC hd hr hdg kk
/-! TenMachine.countWord (I)I -/
def fx_countWord (k : kSx) (op ac ea : Int32) (v1 : Int32) : Int32 × kSx :=
  (fx_skipOnWord (stx ((fx_result k op ac ea ((ldx k ea) + v1.toInt64)).2) ea ((fx_result k op ac ea ((ldx k ea) + v1.toInt64)).1)) op ac ea ((fx_result k op ac ea ((ldx k ea) + v1.toInt64)).1))
set_option maxRecDepth 100000 in
set_option maxHeartbeats 4000000 in
theorem wx_countWord_0 {k : kSx} {op : Int32} {ac : Int32} {ea : Int32} {v1 : Int32} {H : Heap} {locs : List Loc} {ls : Array Slot} (E : xE p s m args c cx_countWord 4 D cA h0 q) (hC : xC D cA h0 q s.heap k op ac ea H locs) (hl : lv_has ls 4 [(0, .ref h0), (1, .int v1)]) (hac : vp_in ac 4096) (hwa : vp_in ea 4096) (hret : xwi p l env (rmD 2) s m args below meth c cx_countWord D cA h0 q .int op ac ea Q (fx_countWord k op ac ea v1)) : W p l env (rmD 2) s m args below meth c H locs 0 0 Q (F0 m 0 ls []) := by
  have hx := E.1.1; have hb := E.1.2.1
  unfold fx_countWord at hret
  refine lv_aload_n hx hb dx_countWord_0 rfl (lv_at hl 0 rfl) ?_
  refine lv_aload_n hx hb dx_countWord_1 rfl (lv_at hl 0 rfl) ?_
  refine xg_word E hC dx_countWord_2 ?_
  refine lv_aload_n hx hb dx_countWord_5 rfl (lv_at hl 0 rfl) ?_
  refine xg_e E hC dx_countWord_6 ?_
  refine xld E hC (hwa) dx_countWord_9 ?_
  refine lv_iload_n hx hb dx_countWord_10 rfl (lv_at hl 1 rfl) ?_
  refine lv_i2l hx hb dx_countWord_11 rfl ?_
  refine lv_ladd hx hb dx_countWord_12 ?_
  refine kx_result E hl.1 hC (hac) (by decide) (Nat.le_of_ble_eq_true rfl) dx_countWord_13 (fun H locs hC => ?_)
  refine lv_lstore_n (lv' := [(2, .long ((fx_result k op ac ea ((ldx k ea) + v1.toInt64)).1)), (0, .ref h0), (1, .int v1)]) hx hb dx_countWord_16 rfl hl (by decide) rfl (fun ls hl => ?_)
  refine lv_aload_n hx hb dx_countWord_17 rfl (lv_at hl 1 rfl) ?_
  refine xg_word E hC dx_countWord_18 ?_
  refine lv_aload_n hx hb dx_countWord_21 rfl (lv_at hl 1 rfl) ?_
  refine xg_e E hC dx_countWord_22 ?_
  refine lv_lload_n hx hb dx_countWord_25 rfl (lv_at hl 0 rfl) ?_
  refine xst E hC (hwa) dx_countWord_26 (fun H locs hC => ?_)
  refine lv_aload_n hx hb dx_countWord_27 rfl (lv_at hl 1 rfl) ?_
  refine lv_lload_n hx hb dx_countWord_28 rfl (lv_at hl 0 rfl) ?_
  refine kx_skipOnWord E hl.1 hC (hac) (by decide) (Nat.le_of_ble_eq_true rfl) dx_countWord_29 (fun H locs hC => ?_)
  exact hret _ _ _ _ dx_countWord_32 hC  (nw_i _)
set_option maxRecDepth 100000 in
set_option maxHeartbeats 4000000 in
theorem mx_countWord (l : Launch) (k : kSx) (op ac ea : Int32) (v1 : Int32) (hac : vp_in ac 4096) (hwa : vp_in ea 4096) : xMet l yx_countWord cx_countWord 4 (some .int) 2 [.int v1] k op ac ea (some (.int (fx_countWord k op ac ea v1).1)) (fx_countWord k op ac ea v1).2 op ac ea :=
  xMet.ofi (by decide) rfl (fun _ => Nat.le_of_ble_eq_true rfl) (fun D cA h0 q p env s m args below meth c ls Q E hC hl hret => wx_countWord_0 E hC (lv_sub hl [0, 1] rfl) hac hwa hret)
theorem gkx_countWord : xYw R_x 225 yx_countWord cx_countWord 4 (some .int) 1 := ⟨wc_x_countWord, wl_x_225, wi_x_countWord, ws_x_countWord, wn_x, ⟨by decide, by decide, by decide +kernel⟩, by decide⟩
theorem kx_countWord {p : Program} {l : Launch} {env : Env} {s : State} {m : MethodId} {args : Array Value} {below : List Frame} {meth : Method} {c : Code} {H : Heap} {locs : List Loc} {Q : State → Prop} {cc : ByteArray} {pc nL d : Nat} {ls : Array Slot} {rest : List Value} {D : va_G} {cA : ClassId} {h0 q : Nat} {k : kSx} {op ac ea : Int32} {v1 : Int32} (E : xE p s m args c cc nL D cA h0 q) (hls : ls.size = nL) (hC : xC D cA h0 q s.heap k op ac ea H locs) (hac : vp_in ac 4096) (hwa : vp_in ea 4096) (hd : 2 + 1 ≤ d) (hr : (rest.map fun v => v.category).sum ≤ 8) (hdg : decode cc pc = .ok (.invokevirtual 225, 3)) (kk : ∀ (H1 : Heap) (locs1 : List Loc), xC D cA h0 q s.heap (fx_countWord k op ac ea v1).2 op ac ea H1 locs1 → W p l env (rmD d) s m args below meth c H1 locs1 0 0 Q (F0 m (pc + 3) ls (.int (fx_countWord k op ac ea v1).1 :: rest))) : W p l env (rmD d) s m args below meth c H locs 0 0 Q (F0 m pc ls (.int v1 :: .ref h0 :: rest)) :=
  xcall (av := [.int v1]) E (mx_countWord l k op ac ea v1 hac hwa) gkx_countWord rfl hls hC hd hr hdg kk
/-! TenMachine.combineBits ()I -/
def fx_combineBits_70 (k : kSx) (op ac ea : Int32) (t1 : Int64) : Int32 × kSx :=
  (fx_storeBoth k op ac ea t1)
set_option maxRecDepth 100000 in
set_option maxHeartbeats 4000000 in
theorem wx_combineBits_70 {k : kSx} {op : Int32} {ac : Int32} {ea : Int32} {t1 : Int64} {H : Heap} {locs : List Loc} {ls : Array Slot} (E : xE p s m args c cx_combineBits 2 D cA h0 q) (hC : xC D cA h0 q s.heap k op ac ea H locs) (hl : lv_has ls 2 []) (hac : vp_in ac 4096) (he : ¬ (op &&& (3 : Int32)) = 1 → vp_in ea 4096) (hret : xwi p l env (rmD 2) s m args below meth c cx_combineBits D cA h0 q .int op ac ea Q (fx_combineBits_70 k op ac ea t1)) : W p l env (rmD 2) s m args below meth c H locs 0 0 Q (F0 m 70 ls [.long t1, .ref h0]) := by
  have hx := E.1.1; have hb := E.1.2.1
  unfold fx_combineBits_70 at hret
  refine kx_storeBoth E hl.1 hC (hac) (he) (by decide) (Nat.le_of_ble_eq_true rfl) dx_combineBits_70 (fun H locs hC => ?_)
  exact hret _ _ _ _ dx_combineBits_73 hC  (nw_i _)
def fx_combineBits (k : kSx) (op ac ea : Int32)  : Int32 × kSx :=
  if (fx_lacksOperand k op ac ea) = 0 then
    if (8 : Int32) ≤ ((op >>> ((2 : Int32) &&& 31)) &&& (15 : Int32)) then
      fx_combineBits_70 k op ac ea ((fx_combined ((15 : Int32) - ((op >>> ((2 : Int32) &&& 31)) &&& (15 : Int32))) (ldx k ac) (fx_operand k op ac ea)) ^^^ (-1 : Int64))
    else
      fx_combineBits_70 k op ac ea (fx_combined ((op >>> ((2 : Int32) &&& 31)) &&& (15 : Int32)) (ldx k ac) (fx_operand k op ac ea))
  else
    ((2 : Int32), k)
set_option maxRecDepth 100000 in
set_option maxHeartbeats 4000000 in
theorem wx_combineBits_0 {k : kSx} {op : Int32} {ac : Int32} {ea : Int32} {H : Heap} {locs : List Loc} {ls : Array Slot} (E : xE p s m args c cx_combineBits 2 D cA h0 q) (hC : xC D cA h0 q s.heap k op ac ea H locs) (hl : lv_has ls 2 [(0, .ref h0)]) (hac : vp_in ac 4096) (hret : xwi p l env (rmD 2) s m args below meth c cx_combineBits D cA h0 q .int op ac ea Q (fx_combineBits k op ac ea)) : W p l env (rmD 2) s m args below meth c H locs 0 0 Q (F0 m 0 ls []) := by
  have hx := E.1.1; have hb := E.1.2.1
  unfold fx_combineBits at hret
  refine lv_aload_n hx hb dx_combineBits_0 rfl (lv_at hl 0 rfl) ?_
  refine kx_lacksOperand E hl.1 hC (hac) (by decide) (Nat.le_of_ble_eq_true rfl) dx_combineBits_1 (fun H locs hC => ?_)
  refine lv_if_eq (tgt := 9) hx hb dx_combineBits_4 (by decide) (fun h1 => ?_) (fun h1 => ?_)
  · rw [if_pos h1] at hret
    refine lv_aload_n hx hb dx_combineBits_9 rfl (lv_at hl 0 rfl) ?_
    refine xg_op E hC dx_combineBits_10 ?_
    refine lv_iconst (v := (2 : Int32)) hx hb dx_combineBits_13 (by decide) ?_
    refine lv_ishr hx hb dx_combineBits_14 ?_
    refine lv_bipush (v := (15 : Int32)) hx hb dx_combineBits_15 (by decide) ?_
    refine lv_iand hx hb dx_combineBits_17 ?_
    refine lv_istore_n (lv' := [(1, .int ((op >>> ((2 : Int32) &&& 31)) &&& (15 : Int32))), (0, .ref h0)]) hx hb dx_combineBits_18 rfl hl (by decide) rfl (fun ls hl => ?_)
    refine lv_aload_n hx hb dx_combineBits_19 rfl (lv_at hl 1 rfl) ?_
    refine lv_iload_n hx hb dx_combineBits_20 rfl (lv_at hl 0 rfl) ?_
    refine lv_bipush (v := (8 : Int32)) hx hb dx_combineBits_21 (by decide) ?_
    refine lv_icmp_ge (tgt := 46) hx hb dx_combineBits_23 (by decide) (fun h2 => ?_) (fun h2 => ?_)
    · rw [if_pos h2] at hret
      refine lv_bipush (v := (15 : Int32)) hx hb dx_combineBits_46 (by decide) ?_
      refine lv_iload_n hx hb dx_combineBits_48 rfl (lv_at hl 0 rfl) ?_
      refine lv_isub hx hb dx_combineBits_49 ?_
      refine lv_aload_n hx hb dx_combineBits_50 rfl (lv_at hl 1 rfl) ?_
      refine xg_word E hC dx_combineBits_51 ?_
      refine lv_aload_n hx hb dx_combineBits_54 rfl (lv_at hl 1 rfl) ?_
      refine xg_ac E hC dx_combineBits_55 ?_
      refine xld E hC (hac) dx_combineBits_58 ?_
      refine lv_aload_n hx hb dx_combineBits_59 rfl (lv_at hl 1 rfl) ?_
      refine kx_operand E hl.1 hC (hac) (lacks_he h1) (by decide) (Nat.le_of_ble_eq_true rfl) dx_combineBits_60 (fun H locs hC => ?_)
      refine kx_combined_in_x E.1 hl.1 (by decide) (Nat.le_of_ble_eq_true rfl) dx_combineBits_63 ?_
      refine lv_ldc2 hx hb E.1.2.2.2.1 (E.1.2.2.2.2 _ ct_x_151) dx_combineBits_66 ?_
      refine lv_lxor hx hb dx_combineBits_69 ?_
      exact wx_combineBits_70 E hC (lv_sub hl [] rfl) (hac) (lacks_he h1) hret
    · rw [if_neg h2] at hret
      refine lv_iload_n hx hb dx_combineBits_26 rfl (lv_at hl 0 rfl) ?_
      refine lv_aload_n hx hb dx_combineBits_27 rfl (lv_at hl 1 rfl) ?_
      refine xg_word E hC dx_combineBits_28 ?_
      refine lv_aload_n hx hb dx_combineBits_31 rfl (lv_at hl 1 rfl) ?_
      refine xg_ac E hC dx_combineBits_32 ?_
      refine xld E hC (hac) dx_combineBits_35 ?_
      refine lv_aload_n hx hb dx_combineBits_36 rfl (lv_at hl 1 rfl) ?_
      refine kx_operand E hl.1 hC (hac) (lacks_he h1) (by decide) (Nat.le_of_ble_eq_true rfl) dx_combineBits_37 (fun H locs hC => ?_)
      refine kx_combined_in_x E.1 hl.1 (by decide) (Nat.le_of_ble_eq_true rfl) dx_combineBits_40 ?_
      refine lv_goto (tgt := 70) hx hb dx_combineBits_43 (by decide) ?_
      exact wx_combineBits_70 E hC (lv_sub hl [] rfl) (hac) (lacks_he h1) hret
  · rw [if_neg h1] at hret
    refine lv_iconst (v := (2 : Int32)) hx hb dx_combineBits_7 (by decide) ?_
    exact (xwi_out hret) _ _ _ _ dx_combineBits_8 hC  (nw_i _)
set_option maxRecDepth 100000 in
set_option maxHeartbeats 4000000 in
theorem mx_combineBits (l : Launch) (k : kSx) (op ac ea : Int32) (hac : vp_in ac 4096) : xMet l yx_combineBits cx_combineBits 2 (some .int) 2 [] k op ac ea (some (.int (fx_combineBits k op ac ea).1)) (fx_combineBits k op ac ea).2 op ac ea :=
  xMet.ofi (by decide) rfl (fun _ => Nat.le_of_ble_eq_true rfl) (fun D cA h0 q p env s m args below meth c ls Q E hC hl hret => wx_combineBits_0 E hC (lv_sub hl [0] rfl) hac hret)
theorem gkx_combineBits : xYw R_x 68 yx_combineBits cx_combineBits 2 (some .int) 0 := ⟨wc_x_combineBits, wl_x_68, wi_x_combineBits, ws_x_combineBits, wn_x, ⟨by decide, by decide, by decide +kernel⟩, by decide⟩
theorem kx_combineBits {p : Program} {l : Launch} {env : Env} {s : State} {m : MethodId} {args : Array Value} {below : List Frame} {meth : Method} {c : Code} {H : Heap} {locs : List Loc} {Q : State → Prop} {cc : ByteArray} {pc nL d : Nat} {ls : Array Slot} {rest : List Value} {D : va_G} {cA : ClassId} {h0 q : Nat} {k : kSx} {op ac ea : Int32} (E : xE p s m args c cc nL D cA h0 q) (hls : ls.size = nL) (hC : xC D cA h0 q s.heap k op ac ea H locs) (hac : vp_in ac 4096) (hd : 2 + 1 ≤ d) (hr : (rest.map fun v => v.category).sum ≤ 8) (hdg : decode cc pc = .ok (.invokevirtual 68, 3)) (kk : ∀ (H1 : Heap) (locs1 : List Loc), xC D cA h0 q s.heap (fx_combineBits k op ac ea).2 op ac ea H1 locs1 → W p l env (rmD d) s m args below meth c H1 locs1 0 0 Q (F0 m (pc + 3) ls (.int (fx_combineBits k op ac ea).1 :: rest))) : W p l env (rmD d) s m args below meth c H locs 0 0 Q (F0 m pc ls (.ref h0 :: rest)) :=
  xcall (av := []) E (mx_combineBits l k op ac ea  hac) gkx_combineBits rfl hls hC hd hr hdg kk
/-! TenMachine.testBits ()I -/
def fx_testBits_155 (k : kSx) (op ac ea : Int32) (t1 : Int32) : Int32 × kSx :=
  (fx_skipIf k op ac ea t1)
set_option maxRecDepth 100000 in
set_option maxHeartbeats 4000000 in
theorem wx_testBits_155 {k : kSx} {op : Int32} {ac : Int32} {ea : Int32} {t1 : Int32} {H : Heap} {locs : List Loc} {ls : Array Slot} (E : xE p s m args c cx_testBits 7 D cA h0 q) (hC : xC D cA h0 q s.heap k op ac ea H locs) (hl : lv_has ls 7 []) (hac : vp_in ac 4096) (hret : xwi p l env (rmD 2) s m args below meth c cx_testBits D cA h0 q .int op ac ea Q (fx_testBits_155 k op ac ea t1)) : W p l env (rmD 2) s m args below meth c H locs 0 0 Q (F0 m 155 ls [.int t1, .ref h0]) := by
  have hx := E.1.1; have hb := E.1.2.1
  unfold fx_testBits_155 at hret
  refine kx_skipIf E hl.1 hC (hac) (by decide) (Nat.le_of_ble_eq_true rfl) dx_testBits_155 (fun H locs hC => ?_)
  exact hret _ _ _ _ dx_testBits_158 hC  (nw_i _)
def fx_testBits_147 (k : kSx) (op ac ea : Int32) (t1 : Int32) (t2 : Int32) : Int32 × kSx :=
  if t1 = t2 then
    fx_testBits_155 k op ac ea (0 : Int32)
  else
    fx_testBits_155 k op ac ea (1 : Int32)
set_option maxRecDepth 100000 in
set_option maxHeartbeats 4000000 in
theorem wx_testBits_147 {k : kSx} {op : Int32} {ac : Int32} {ea : Int32} {t1 : Int32} {t2 : Int32} {H : Heap} {locs : List Loc} {ls : Array Slot} (E : xE p s m args c cx_testBits 7 D cA h0 q) (hC : xC D cA h0 q s.heap k op ac ea H locs) (hl : lv_has ls 7 []) (hac : vp_in ac 4096) (hret : xwi p l env (rmD 2) s m args below meth c cx_testBits D cA h0 q .int op ac ea Q (fx_testBits_147 k op ac ea t1 t2)) : W p l env (rmD 2) s m args below meth c H locs 0 0 Q (F0 m 147 ls [.int t2, .int t1, .ref h0]) := by
  have hx := E.1.1; have hb := E.1.2.1
  unfold fx_testBits_147 at hret
  refine lv_icmp_eq (tgt := 154) hx hb dx_testBits_147 (by decide) (fun h1 => ?_) (fun h1 => ?_)
  · rw [if_pos h1] at hret
    refine lv_iconst (v := (0 : Int32)) hx hb dx_testBits_154 (by decide) ?_
    exact wx_testBits_155 E hC (lv_sub hl [] rfl) (hac) hret
  · rw [if_neg h1] at hret
    refine lv_iconst (v := (1 : Int32)) hx hb dx_testBits_150 (by decide) ?_
    refine lv_goto (tgt := 155) hx hb dx_testBits_151 (by decide) ?_
    exact wx_testBits_155 E hC (lv_sub hl [] rfl) (hac) hret
def fx_testBits_104 (k : kSx) (op ac ea : Int32) (v4 : Int64) (t0 : Int32) : Int32 × kSx :=
  if (op &&& (4 : Int32)) = 0 then
    fx_testBits_147 (stx k ac (fx_changed k op ac ea (ldx k ac) v4)) op ac ea t0 (0 : Int32)
  else
    fx_testBits_147 (stx k ac (fx_changed k op ac ea (ldx k ac) v4)) op ac ea t0 (1 : Int32)
set_option maxRecDepth 100000 in
set_option maxHeartbeats 4000000 in
theorem wx_testBits_104 {k : kSx} {op : Int32} {ac : Int32} {ea : Int32} {v4 : Int64} {t0 : Int32} {H : Heap} {locs : List Loc} {ls : Array Slot} (E : xE p s m args c cx_testBits 7 D cA h0 q) (hC : xC D cA h0 q s.heap k op ac ea H locs) (hl : lv_has ls 7 [(0, .ref h0), (4, .long v4)]) (hac : vp_in ac 4096) (hret : xwi p l env (rmD 2) s m args below meth c cx_testBits D cA h0 q .int op ac ea Q (fx_testBits_104 k op ac ea v4 t0)) : W p l env (rmD 2) s m args below meth c H locs 0 0 Q (F0 m 104 ls [.int t0]) := by
  have hx := E.1.1; have hb := E.1.2.1
  unfold fx_testBits_104 at hret
  refine lv_istore (lv' := [(6, .int t0), (0, .ref h0), (4, .long v4)]) hx hb dx_testBits_104 hl (by decide) rfl (fun ls hl => ?_)
  refine lv_aload_n hx hb dx_testBits_106 rfl (lv_at hl 1 rfl) ?_
  refine xg_word E hC dx_testBits_107 ?_
  refine lv_aload_n hx hb dx_testBits_110 rfl (lv_at hl 1 rfl) ?_
  refine xg_ac E hC dx_testBits_111 ?_
  refine lv_aload_n hx hb dx_testBits_114 rfl (lv_at hl 1 rfl) ?_
  refine lv_aload_n hx hb dx_testBits_115 rfl (lv_at hl 1 rfl) ?_
  refine xg_word E hC dx_testBits_116 ?_
  refine lv_aload_n hx hb dx_testBits_119 rfl (lv_at hl 1 rfl) ?_
  refine xg_ac E hC dx_testBits_120 ?_
  refine xld E hC (hac) dx_testBits_123 ?_
  refine lv_lload hx hb dx_testBits_124 (lv_at hl 2 rfl) ?_
  refine kx_changed E hl.1 hC (hac) (by decide) (Nat.le_of_ble_eq_true rfl) dx_testBits_126 (fun H locs hC => ?_)
  refine xst E hC (hac) dx_testBits_129 (fun H locs hC => ?_)
  refine lv_aload_n hx hb dx_testBits_130 rfl (lv_at hl 1 rfl) ?_
  refine lv_iload hx hb dx_testBits_131 (lv_at hl 0 rfl) ?_
  refine lv_aload_n hx hb dx_testBits_133 rfl (lv_at hl 1 rfl) ?_
  refine xg_op E hC dx_testBits_134 ?_
  refine lv_iconst (v := (4 : Int32)) hx hb dx_testBits_137 (by decide) ?_
  refine lv_iand hx hb dx_testBits_138 ?_
  refine lv_if_eq (tgt := 146) hx hb dx_testBits_139 (by decide) (fun h1 => ?_) (fun h1 => ?_)
  · rw [if_pos h1] at hret
    refine lv_iconst (v := (0 : Int32)) hx hb dx_testBits_146 (by decide) ?_
    exact wx_testBits_147 E hC (lv_sub hl [] rfl) (hac) hret
  · rw [if_neg h1] at hret
    refine lv_iconst (v := (1 : Int32)) hx hb dx_testBits_142 (by decide) ?_
    refine lv_goto (tgt := 147) hx hb dx_testBits_143 (by decide) ?_
    exact wx_testBits_147 E hC (lv_sub hl [] rfl) (hac) hret
def fx_testBits_103 (k : kSx) (op ac ea : Int32) (v4 : Int64) : Int32 × kSx :=
  fx_testBits_104 k op ac ea v4 (0 : Int32)
set_option maxRecDepth 100000 in
set_option maxHeartbeats 4000000 in
theorem wx_testBits_103 {k : kSx} {op : Int32} {ac : Int32} {ea : Int32} {v4 : Int64} {H : Heap} {locs : List Loc} {ls : Array Slot} (E : xE p s m args c cx_testBits 7 D cA h0 q) (hC : xC D cA h0 q s.heap k op ac ea H locs) (hl : lv_has ls 7 [(0, .ref h0), (4, .long v4)]) (hac : vp_in ac 4096) (hret : xwi p l env (rmD 2) s m args below meth c cx_testBits D cA h0 q .int op ac ea Q (fx_testBits_103 k op ac ea v4)) : W p l env (rmD 2) s m args below meth c H locs 0 0 Q (F0 m 103 ls []) := by
  have hx := E.1.1; have hb := E.1.2.1
  unfold fx_testBits_103 at hret
  refine lv_iconst (v := (0 : Int32)) hx hb dx_testBits_103 (by decide) ?_
  exact wx_testBits_104 E hC (lv_sub hl [0, 1] rfl) (hac) hret
def fx_testBits_71 (k : kSx) (op ac ea : Int32) (t0 : Int64) : Int32 × kSx :=
  if (op &&& (2 : Int32)) = 0 then
    fx_testBits_103 k op ac ea t0
  else
    if ((ldx k ac) &&& t0) = (0 : Int64) then
      fx_testBits_104 k op ac ea t0 (1 : Int32)
    else
      fx_testBits_103 k op ac ea t0
set_option maxRecDepth 100000 in
set_option maxHeartbeats 4000000 in
theorem wx_testBits_71 {k : kSx} {op : Int32} {ac : Int32} {ea : Int32} {t0 : Int64} {H : Heap} {locs : List Loc} {ls : Array Slot} (E : xE p s m args c cx_testBits 7 D cA h0 q) (hC : xC D cA h0 q s.heap k op ac ea H locs) (hl : lv_has ls 7 [(0, .ref h0)]) (hac : vp_in ac 4096) (hret : xwi p l env (rmD 2) s m args below meth c cx_testBits D cA h0 q .int op ac ea Q (fx_testBits_71 k op ac ea t0)) : W p l env (rmD 2) s m args below meth c H locs 0 0 Q (F0 m 71 ls [.long t0]) := by
  have hx := E.1.1; have hb := E.1.2.1
  unfold fx_testBits_71 at hret
  refine lv_lstore (lv' := [(4, .long t0), (0, .ref h0)]) hx hb dx_testBits_71 hl (by decide) rfl (fun ls hl => ?_)
  refine lv_aload_n hx hb dx_testBits_73 rfl (lv_at hl 1 rfl) ?_
  refine xg_op E hC dx_testBits_74 ?_
  refine lv_iconst (v := (2 : Int32)) hx hb dx_testBits_77 (by decide) ?_
  refine lv_iand hx hb dx_testBits_78 ?_
  refine lv_if_eq (tgt := 103) hx hb dx_testBits_79 (by decide) (fun h1 => ?_) (fun h1 => ?_)
  · rw [if_pos h1] at hret
    exact wx_testBits_103 E hC (lv_sub hl [1, 0] rfl) (hac) hret
  · rw [if_neg h1] at hret
    refine lv_aload_n hx hb dx_testBits_82 rfl (lv_at hl 1 rfl) ?_
    refine xg_word E hC dx_testBits_83 ?_
    refine lv_aload_n hx hb dx_testBits_86 rfl (lv_at hl 1 rfl) ?_
    refine xg_ac E hC dx_testBits_87 ?_
    refine xld E hC (hac) dx_testBits_90 ?_
    refine lv_lload hx hb dx_testBits_91 (lv_at hl 0 rfl) ?_
    refine lv_land hx hb dx_testBits_93 ?_
    refine lv_lconst (v := (0 : Int64)) hx hb dx_testBits_94 (by decide) ?_
    refine tt_lcmp_ne (tgt := 103) hx hb dx_testBits_95 dx_testBits_96 (by decide) (fun h2 => ?_) (fun h2 => ?_)
    · rw [if_neg h2] at hret
      exact wx_testBits_103 E hC (lv_sub hl [1, 0] rfl) (hac) hret
    · rw [if_pos h2] at hret
      refine lv_iconst (v := (1 : Int32)) hx hb dx_testBits_99 (by decide) ?_
      refine lv_goto (tgt := 104) hx hb dx_testBits_100 (by decide) ?_
      exact wx_testBits_104 E hC (lv_sub hl [1, 0] rfl) (hac) hret
def fx_testBits_53 (k : kSx) (op ac ea : Int32) (t0 : Int64) : Int32 × kSx :=
  if (op &&& (1 : Int32)) = 0 then
    fx_testBits_71 k op ac ea t0
  else
    fx_testBits_71 k op ac ea (fx_swapped t0)
set_option maxRecDepth 100000 in
set_option maxHeartbeats 4000000 in
theorem wx_testBits_53 {k : kSx} {op : Int32} {ac : Int32} {ea : Int32} {t0 : Int64} {H : Heap} {locs : List Loc} {ls : Array Slot} (E : xE p s m args c cx_testBits 7 D cA h0 q) (hC : xC D cA h0 q s.heap k op ac ea H locs) (hl : lv_has ls 7 [(0, .ref h0)]) (hac : vp_in ac 4096) (hret : xwi p l env (rmD 2) s m args below meth c cx_testBits D cA h0 q .int op ac ea Q (fx_testBits_53 k op ac ea t0)) : W p l env (rmD 2) s m args below meth c H locs 0 0 Q (F0 m 53 ls [.long t0]) := by
  have hx := E.1.1; have hb := E.1.2.1
  unfold fx_testBits_53 at hret
  refine lv_lstore_n (lv' := [(2, .long t0), (0, .ref h0)]) hx hb dx_testBits_53 rfl hl (by decide) rfl (fun ls hl => ?_)
  refine lv_aload_n hx hb dx_testBits_54 rfl (lv_at hl 1 rfl) ?_
  refine xg_op E hC dx_testBits_55 ?_
  refine lv_iconst (v := (1 : Int32)) hx hb dx_testBits_58 (by decide) ?_
  refine lv_iand hx hb dx_testBits_59 ?_
  refine lv_if_ne (tgt := 67) hx hb dx_testBits_60 (by decide) (fun h1 => ?_) (fun h1 => ?_)
  · rw [if_neg h1] at hret
    refine lv_lload_n hx hb dx_testBits_67 rfl (lv_at hl 0 rfl) ?_
    refine kx_swapped_in_x E.1 hl.1 (by decide) (Nat.le_of_ble_eq_true rfl) dx_testBits_68 ?_
    exact wx_testBits_71 E hC (lv_sub hl [1] rfl) (hac) hret
  · rw [if_pos h1] at hret
    refine lv_lload_n hx hb dx_testBits_63 rfl (lv_at hl 0 rfl) ?_
    refine lv_goto (tgt := 71) hx hb dx_testBits_64 (by decide) ?_
    exact wx_testBits_71 E hC (lv_sub hl [1] rfl) (hac) hret
def fx_testBits_32 (k : kSx) (op ac ea : Int32) (v1 : Int32) : Int32 × kSx :=
  if v1 = 0 then
    fx_testBits_53 k op ac ea ea.toInt64
  else
    fx_testBits_53 k op ac ea (ldx k ea)
set_option maxRecDepth 100000 in
set_option maxHeartbeats 4000000 in
theorem wx_testBits_32 {k : kSx} {op : Int32} {ac : Int32} {ea : Int32} {v1 : Int32} {H : Heap} {locs : List Loc} {ls : Array Slot} (E : xE p s m args c cx_testBits 7 D cA h0 q) (hC : xC D cA h0 q s.heap k op ac ea H locs) (hl : lv_has ls 7 [(0, .ref h0), (1, .int v1)]) (hac : vp_in ac 4096) (hw : ¬ v1 = 0 → vp_in ea 4096) (hret : xwi p l env (rmD 2) s m args below meth c cx_testBits D cA h0 q .int op ac ea Q (fx_testBits_32 k op ac ea v1)) : W p l env (rmD 2) s m args below meth c H locs 0 0 Q (F0 m 32 ls []) := by
  have hx := E.1.1; have hb := E.1.2.1
  unfold fx_testBits_32 at hret
  refine lv_iload_n hx hb dx_testBits_32 rfl (lv_at hl 1 rfl) ?_
  refine lv_if_eq (tgt := 48) hx hb dx_testBits_33 (by decide) (fun h1 => ?_) (fun h1 => ?_)
  · rw [if_pos h1] at hret
    refine lv_aload_n hx hb dx_testBits_48 rfl (lv_at hl 0 rfl) ?_
    refine xg_e E hC dx_testBits_49 ?_
    refine lv_i2l hx hb dx_testBits_52 rfl ?_
    exact wx_testBits_53 E hC (lv_sub hl [0] rfl) (hac) hret
  · rw [if_neg h1] at hret
    refine lv_aload_n hx hb dx_testBits_36 rfl (lv_at hl 0 rfl) ?_
    refine xg_word E hC dx_testBits_37 ?_
    refine lv_aload_n hx hb dx_testBits_40 rfl (lv_at hl 0 rfl) ?_
    refine xg_e E hC dx_testBits_41 ?_
    refine xld E hC (hw h1) dx_testBits_44 ?_
    refine lv_goto (tgt := 53) hx hb dx_testBits_45 (by decide) ?_
    exact wx_testBits_53 E hC (lv_sub hl [0] rfl) (hac) hret
def fx_testBits_15 (k : kSx) (op ac ea : Int32) (t0 : Int32) : Int32 × kSx :=
  if t0 = 0 then
    fx_testBits_32 k op ac ea t0
  else
    if (fx_isThere ea) = 0 then
      ((2 : Int32), k)
    else
      fx_testBits_32 k op ac ea t0
set_option maxRecDepth 100000 in
set_option maxHeartbeats 4000000 in
theorem wx_testBits_15 {k : kSx} {op : Int32} {ac : Int32} {ea : Int32} {t0 : Int32} {H : Heap} {locs : List Loc} {ls : Array Slot} (E : xE p s m args c cx_testBits 7 D cA h0 q) (hC : xC D cA h0 q s.heap k op ac ea H locs) (hl : lv_has ls 7 [(0, .ref h0)]) (hac : vp_in ac 4096) (hret : xwi p l env (rmD 2) s m args below meth c cx_testBits D cA h0 q .int op ac ea Q (fx_testBits_15 k op ac ea t0)) : W p l env (rmD 2) s m args below meth c H locs 0 0 Q (F0 m 15 ls [.int t0]) := by
  have hx := E.1.1; have hb := E.1.2.1
  unfold fx_testBits_15 at hret
  refine lv_istore_n (lv' := [(1, .int t0), (0, .ref h0)]) hx hb dx_testBits_15 rfl hl (by decide) rfl (fun ls hl => ?_)
  refine lv_iload_n hx hb dx_testBits_16 rfl (lv_at hl 0 rfl) ?_
  refine lv_if_eq (tgt := 32) hx hb dx_testBits_17 (by decide) (fun h1 => ?_) (fun h1 => ?_)
  · rw [if_pos h1] at hret
    exact wx_testBits_32 E hC (lv_sub hl [1, 0] rfl) (hac) (by first | assumption | exact lacks_he (by assumption) | (intro hh; exact absurd (by assumption) hh) | (intro _; exact vin_there (by assumption)) | (intro _; exact vin_gone (by assumption) (by assumption))) hret
  · rw [if_neg h1] at hret
    refine lv_aload_n hx hb dx_testBits_20 rfl (lv_at hl 1 rfl) ?_
    refine xg_e E hC dx_testBits_21 ?_
    refine kx_isThere_in_x E.1 hl.1 (by decide) (Nat.le_of_ble_eq_true rfl) dx_testBits_24 ?_
    refine lv_if_ne (tgt := 32) hx hb dx_testBits_27 (by decide) (fun h2 => ?_) (fun h2 => ?_)
    · rw [if_neg h2] at hret
      exact wx_testBits_32 E hC (lv_sub hl [1, 0] rfl) (hac) (fun _ => vin_there h2) hret
    · rw [if_pos h2] at hret
      refine lv_iconst (v := (2 : Int32)) hx hb dx_testBits_30 (by decide) ?_
      exact (xwi_out hret) _ _ _ _ dx_testBits_31 hC  (nw_i _)
def fx_testBits (k : kSx) (op ac ea : Int32)  : Int32 × kSx :=
  if (op &&& (8 : Int32)) = 0 then
    fx_testBits_15 k op ac ea (0 : Int32)
  else
    fx_testBits_15 k op ac ea (1 : Int32)
set_option maxRecDepth 100000 in
set_option maxHeartbeats 4000000 in
theorem wx_testBits_0 {k : kSx} {op : Int32} {ac : Int32} {ea : Int32} {H : Heap} {locs : List Loc} {ls : Array Slot} (E : xE p s m args c cx_testBits 7 D cA h0 q) (hC : xC D cA h0 q s.heap k op ac ea H locs) (hl : lv_has ls 7 [(0, .ref h0)]) (hac : vp_in ac 4096) (hret : xwi p l env (rmD 2) s m args below meth c cx_testBits D cA h0 q .int op ac ea Q (fx_testBits k op ac ea)) : W p l env (rmD 2) s m args below meth c H locs 0 0 Q (F0 m 0 ls []) := by
  have hx := E.1.1; have hb := E.1.2.1
  unfold fx_testBits at hret
  refine lv_aload_n hx hb dx_testBits_0 rfl (lv_at hl 0 rfl) ?_
  refine xg_op E hC dx_testBits_1 ?_
  refine lv_bipush (v := (8 : Int32)) hx hb dx_testBits_4 (by decide) ?_
  refine lv_iand hx hb dx_testBits_6 ?_
  refine lv_if_eq (tgt := 14) hx hb dx_testBits_7 (by decide) (fun h1 => ?_) (fun h1 => ?_)
  · rw [if_pos h1] at hret
    refine lv_iconst (v := (0 : Int32)) hx hb dx_testBits_14 (by decide) ?_
    exact wx_testBits_15 E hC (lv_sub hl [0] rfl) (hac) hret
  · rw [if_neg h1] at hret
    refine lv_iconst (v := (1 : Int32)) hx hb dx_testBits_10 (by decide) ?_
    refine lv_goto (tgt := 15) hx hb dx_testBits_11 (by decide) ?_
    exact wx_testBits_15 E hC (lv_sub hl [0] rfl) (hac) hret
set_option maxRecDepth 100000 in
set_option maxHeartbeats 4000000 in
theorem mx_testBits (l : Launch) (k : kSx) (op ac ea : Int32) (hac : vp_in ac 4096) : xMet l yx_testBits cx_testBits 7 (some .int) 2 [] k op ac ea (some (.int (fx_testBits k op ac ea).1)) (fx_testBits k op ac ea).2 op ac ea :=
  xMet.ofi (by decide) rfl (fun _ => Nat.le_of_ble_eq_true rfl) (fun D cA h0 q p env s m args below meth c ls Q E hC hl hret => wx_testBits_0 E hC (lv_sub hl [0] rfl) hac hret)
theorem gkx_testBits : xYw R_x 74 yx_testBits cx_testBits 7 (some .int) 0 := ⟨wc_x_testBits, wl_x_74, wi_x_testBits, ws_x_testBits, wn_x, ⟨by decide, by decide, by decide +kernel⟩, by decide⟩
theorem kx_testBits {p : Program} {l : Launch} {env : Env} {s : State} {m : MethodId} {args : Array Value} {below : List Frame} {meth : Method} {c : Code} {H : Heap} {locs : List Loc} {Q : State → Prop} {cc : ByteArray} {pc nL d : Nat} {ls : Array Slot} {rest : List Value} {D : va_G} {cA : ClassId} {h0 q : Nat} {k : kSx} {op ac ea : Int32} (E : xE p s m args c cc nL D cA h0 q) (hls : ls.size = nL) (hC : xC D cA h0 q s.heap k op ac ea H locs) (hac : vp_in ac 4096) (hd : 2 + 1 ≤ d) (hr : (rest.map fun v => v.category).sum ≤ 8) (hdg : decode cc pc = .ok (.invokevirtual 74, 3)) (kk : ∀ (H1 : Heap) (locs1 : List Loc), xC D cA h0 q s.heap (fx_testBits k op ac ea).2 op ac ea H1 locs1 → W p l env (rmD d) s m args below meth c H1 locs1 0 0 Q (F0 m (pc + 3) ls (.int (fx_testBits k op ac ea).1 :: rest))) : W p l env (rmD d) s m args below meth c H locs 0 0 Q (F0 m pc ls (.ref h0 :: rest)) :=
  xcall (av := []) E (mx_testBits l k op ac ea  hac) gkx_testBits rfl hls hC hd hr hdg kk
end TTV
