section TTV
variable {p : Program} {l : Launch} {env : Env} {s : State} {m : MethodId} {args : Array Value} {below : List Frame} {meth : Method} {c : Code} {Q : State → Prop} {D : va_G} {cA : ClassId} {h0 q : Nat}
/-! TenMachine.look (I)I -/
def fx_look (k : kSx) (op ac ea : Int32) (v1 : Int32) : Int32 :=
  if v1 = 0 then
    (ux_pc k)
  else
    if v1 = 1 then
      if (ux_ov k) = 0 then
        (0 : Int32)
      else
        (1 : Int32)
    else
      if v1 = 2 then
        (ux_dn k)
      else
        (-1 : Int32)
set_option maxRecDepth 100000 in
set_option maxHeartbeats 4000000 in
theorem wx_look_0 {k : kSx} {op : Int32} {ac : Int32} {ea : Int32} {v1 : Int32} {H : Heap} {locs : List Loc} {ls : Array Slot} (E : xE p s m args c cx_look 2 D cA h0 q) (hC : xC D cA h0 q s.heap k op ac ea H locs) (hl : lv_has ls 2 [(0, .ref h0), (1, .int v1)]) (hret : xri p l env (rmD 0) s m args below meth c cx_look D cA h0 q .int k op ac ea Q (fx_look k op ac ea v1)) : W p l env (rmD 0) s m args below meth c H locs 0 0 Q (F0 m 0 ls []) := by
  have hx := E.1.1; have hb := E.1.2.1
  unfold fx_look at hret
  refine lv_iload_n hx hb dx_look_0 rfl (lv_at hl 1 rfl) ?_
  by_cases h1 : v1 = 0
  · rw [if_pos h1] at hret
    refine lv_tableIn (off := 27) (tgt := 28) hx hb dx_look_1 (by rw [h1]; decide) (by rw [h1]; decide) (by rw [h1]; rfl) (by decide) ?_
    refine lv_aload_n hx hb dx_look_28 rfl (lv_at hl 0 rfl) ?_
    refine xg_pc E hC dx_look_29 ?_
    exact hret _ _ _ _ dx_look_32 hC  (nw_i _)
  · rw [if_neg h1] at hret
    by_cases h2 : v1 = 1
    · rw [if_pos h2] at hret
      refine lv_tableIn (off := 32) (tgt := 33) hx hb dx_look_1 (by rw [h2]; decide) (by rw [h2]; decide) (by rw [h2]; rfl) (by decide) ?_
      refine lv_aload_n hx hb dx_look_33 rfl (lv_at hl 0 rfl) ?_
      refine xg_overflow E hC dx_look_34 ?_
      refine lv_if_eq (tgt := 44) hx hb dx_look_37 (by decide) (fun h3 => ?_) (fun h3 => ?_)
      · rw [if_pos h3] at hret
        refine lv_iconst (v := (0 : Int32)) hx hb dx_look_44 (by decide) ?_
        exact hret _ _ _ _ dx_look_45 hC  (nw_i _)
      · rw [if_neg h3] at hret
        refine lv_iconst (v := (1 : Int32)) hx hb dx_look_40 (by decide) ?_
        refine lv_goto (tgt := 45) hx hb dx_look_41 (by decide) ?_
        exact hret _ _ _ _ dx_look_45 hC  (nw_i _)
    · rw [if_neg h2] at hret
      by_cases h4 : v1 = 2
      · rw [if_pos h4] at hret
        refine lv_tableIn (off := 45) (tgt := 46) hx hb dx_look_1 (by rw [h4]; decide) (by rw [h4]; decide) (by rw [h4]; rfl) (by decide) ?_
        refine lv_aload_n hx hb dx_look_46 rfl (lv_at hl 0 rfl) ?_
        refine xg_doneByLatestGo E hC dx_look_47 ?_
        exact hret _ _ _ _ dx_look_50 hC  (nw_i _)
      · rw [if_neg h4] at hret
        refine lv_tableOut (tgt := 51) hx hb dx_look_1 (by have := lv_neT h1 (show (0 : Int32).toInt = 0 from rfl); have := lv_neT h2 (show (1 : Int32).toInt = 1 from rfl); have := lv_neT h4 (show (2 : Int32).toInt = 2 from rfl); omega) (by decide) ?_
        refine lv_iconst (v := (-1 : Int32)) hx hb dx_look_51 (by decide) ?_
        exact hret _ _ _ _ dx_look_52 hC  (nw_i _)
set_option maxRecDepth 100000 in
set_option maxHeartbeats 4000000 in
theorem mx_look (l : Launch) (k : kSx) (op ac ea : Int32) (v1 : Int32) : xMet l yx_look cx_look 2 (some .int) 0 [.int v1] k op ac ea (some (.int (fx_look k op ac ea v1))) k op ac ea :=
  xMet.ofi (by decide) rfl (fun _ => Nat.le_of_ble_eq_true rfl) (fun D cA h0 q p env s m args below meth c ls Q E hC hl hret => wx_look_0 E hC (lv_sub hl [0, 1] rfl) hret)
/-! TenMachine.family ()I -/
def fx_family (k : kSx) (op ac ea : Int32)  : Int32 :=
  (op &&& (508 : Int32))
set_option maxRecDepth 100000 in
set_option maxHeartbeats 4000000 in
theorem wx_family_0 {k : kSx} {op : Int32} {ac : Int32} {ea : Int32} {H : Heap} {locs : List Loc} {ls : Array Slot} (E : xE p s m args c cx_family 1 D cA h0 q) (hC : xC D cA h0 q s.heap k op ac ea H locs) (hl : lv_has ls 1 [(0, .ref h0)]) (hac : vp_in ac 4096) (hret : xri p l env (rmD 0) s m args below meth c cx_family D cA h0 q .int k op ac ea Q (fx_family k op ac ea)) : W p l env (rmD 0) s m args below meth c H locs 0 0 Q (F0 m 0 ls []) := by
  have hx := E.1.1; have hb := E.1.2.1
  unfold fx_family at hret
  refine lv_aload_n hx hb dx_family_0 rfl (lv_at hl 0 rfl) ?_
  refine xg_op E hC dx_family_1 ?_
  refine lv_sipush (v := (508 : Int32)) hx hb dx_family_4 (by decide) ?_
  refine lv_iand hx hb dx_family_7 ?_
  exact hret _ _ _ _ dx_family_8 hC  (nw_i _)
set_option maxRecDepth 100000 in
set_option maxHeartbeats 4000000 in
theorem mx_family (l : Launch) (k : kSx) (op ac ea : Int32) (hac : vp_in ac 4096) : xMet l yx_family cx_family 1 (some .int) 0 [] k op ac ea (some (.int (fx_family k op ac ea))) k op ac ea :=
  xMet.ofi (by decide) rfl (fun _ => Nat.le_of_ble_eq_true rfl) (fun D cA h0 q p env s m args below meth c ls Q E hC hl hret => wx_family_0 E hC (lv_sub hl [0] rfl) hac hret)
theorem gkx_family : xYw R_x 77 yx_family cx_family 1 (some .int) 0 := ⟨wc_x_family, wl_x_77, wi_x_family, ws_x_family, wn_x, ⟨by decide, by decide, by decide +kernel⟩, by decide⟩
theorem kx_family {p : Program} {l : Launch} {env : Env} {s : State} {m : MethodId} {args : Array Value} {below : List Frame} {meth : Method} {c : Code} {H : Heap} {locs : List Loc} {Q : State → Prop} {cc : ByteArray} {pc nL d : Nat} {ls : Array Slot} {rest : List Value} {D : va_G} {cA : ClassId} {h0 q : Nat} {k : kSx} {op ac ea : Int32} (E : xE p s m args c cc nL D cA h0 q) (hls : ls.size = nL) (hC : xC D cA h0 q s.heap k op ac ea H locs) (hac : vp_in ac 4096) (hd : 0 + 1 ≤ d) (hr : (rest.map fun v => v.category).sum ≤ 8) (hdg : decode cc pc = .ok (.invokevirtual 77, 3)) (kk : ∀ (H1 : Heap) (locs1 : List Loc), xC D cA h0 q s.heap k op ac ea H1 locs1 → W p l env (rmD d) s m args below meth c H1 locs1 0 0 Q (F0 m (pc + 3) ls (.int (fx_family k op ac ea) :: rest))) : W p l env (rmD d) s m args below meth c H locs 0 0 Q (F0 m pc ls (.ref h0 :: rest)) :=
  xcall (av := []) E (mx_family l k op ac ea  hac) gkx_family rfl hls hC hd hr hdg kk
/-! TenMachine.mode ()I -/
def fx_mode (k : kSx) (op ac ea : Int32)  : Int32 :=
  (op &&& (3 : Int32))
set_option maxRecDepth 100000 in
set_option maxHeartbeats 4000000 in
theorem wx_mode_0 {k : kSx} {op : Int32} {ac : Int32} {ea : Int32} {H : Heap} {locs : List Loc} {ls : Array Slot} (E : xE p s m args c cx_mode 1 D cA h0 q) (hC : xC D cA h0 q s.heap k op ac ea H locs) (hl : lv_has ls 1 [(0, .ref h0)]) (hac : vp_in ac 4096) (hret : xri p l env (rmD 0) s m args below meth c cx_mode D cA h0 q .int k op ac ea Q (fx_mode k op ac ea)) : W p l env (rmD 0) s m args below meth c H locs 0 0 Q (F0 m 0 ls []) := by
  have hx := E.1.1; have hb := E.1.2.1
  unfold fx_mode at hret
  refine lv_aload_n hx hb dx_mode_0 rfl (lv_at hl 0 rfl) ?_
  refine xg_op E hC dx_mode_1 ?_
  refine lv_iconst (v := (3 : Int32)) hx hb dx_mode_4 (by decide) ?_
  refine lv_iand hx hb dx_mode_5 ?_
  exact hret _ _ _ _ dx_mode_6 hC  (nw_i _)
set_option maxRecDepth 100000 in
set_option maxHeartbeats 4000000 in
theorem mx_mode (l : Launch) (k : kSx) (op ac ea : Int32) (hac : vp_in ac 4096) : xMet l yx_mode cx_mode 1 (some .int) 0 [] k op ac ea (some (.int (fx_mode k op ac ea))) k op ac ea :=
  xMet.ofi (by decide) rfl (fun _ => Nat.le_of_ble_eq_true rfl) (fun D cA h0 q p env s m args below meth c ls Q E hC hl hret => wx_mode_0 E hC (lv_sub hl [0] rfl) hac hret)
theorem gkx_mode : xYw R_x 117 yx_mode cx_mode 1 (some .int) 0 := ⟨wc_x_mode, wl_x_117, wi_x_mode, ws_x_mode, wn_x, ⟨by decide, by decide, by decide +kernel⟩, by decide⟩
theorem kx_mode {p : Program} {l : Launch} {env : Env} {s : State} {m : MethodId} {args : Array Value} {below : List Frame} {meth : Method} {c : Code} {H : Heap} {locs : List Loc} {Q : State → Prop} {cc : ByteArray} {pc nL d : Nat} {ls : Array Slot} {rest : List Value} {D : va_G} {cA : ClassId} {h0 q : Nat} {k : kSx} {op ac ea : Int32} (E : xE p s m args c cc nL D cA h0 q) (hls : ls.size = nL) (hC : xC D cA h0 q s.heap k op ac ea H locs) (hac : vp_in ac 4096) (hd : 0 + 1 ≤ d) (hr : (rest.map fun v => v.category).sum ≤ 8) (hdg : decode cc pc = .ok (.invokevirtual 117, 3)) (kk : ∀ (H1 : Heap) (locs1 : List Loc), xC D cA h0 q s.heap k op ac ea H1 locs1 → W p l env (rmD d) s m args below meth c H1 locs1 0 0 Q (F0 m (pc + 3) ls (.int (fx_mode k op ac ea) :: rest))) : W p l env (rmD d) s m args below meth c H locs 0 0 Q (F0 m pc ls (.ref h0 :: rest)) :=
  xcall (av := []) E (mx_mode l k op ac ea  hac) gkx_mode rfl hls hC hd hr hdg kk
/-! TenMachine.acAfter ()I -/
def fx_acAfter (k : kSx) (op ac ea : Int32)  : Int32 :=
  ((ac + (1 : Int32)) &&& (15 : Int32))
set_option maxRecDepth 100000 in
set_option maxHeartbeats 4000000 in
theorem wx_acAfter_0 {k : kSx} {op : Int32} {ac : Int32} {ea : Int32} {H : Heap} {locs : List Loc} {ls : Array Slot} (E : xE p s m args c cx_acAfter 1 D cA h0 q) (hC : xC D cA h0 q s.heap k op ac ea H locs) (hl : lv_has ls 1 [(0, .ref h0)]) (hac : vp_in ac 4096) (hret : xri p l env (rmD 0) s m args below meth c cx_acAfter D cA h0 q .int k op ac ea Q (fx_acAfter k op ac ea)) : W p l env (rmD 0) s m args below meth c H locs 0 0 Q (F0 m 0 ls []) := by
  have hx := E.1.1; have hb := E.1.2.1
  unfold fx_acAfter at hret
  refine lv_aload_n hx hb dx_acAfter_0 rfl (lv_at hl 0 rfl) ?_
  refine xg_ac E hC dx_acAfter_1 ?_
  refine lv_iconst (v := (1 : Int32)) hx hb dx_acAfter_4 (by decide) ?_
  refine lv_iadd hx hb dx_acAfter_5 ?_
  refine lv_bipush (v := (15 : Int32)) hx hb dx_acAfter_6 (by decide) ?_
  refine lv_iand hx hb dx_acAfter_8 ?_
  exact hret _ _ _ _ dx_acAfter_9 hC  (nw_i _)
set_option maxRecDepth 100000 in
set_option maxHeartbeats 4000000 in
theorem mx_acAfter (l : Launch) (k : kSx) (op ac ea : Int32) (hac : vp_in ac 4096) : xMet l yx_acAfter cx_acAfter 1 (some .int) 0 [] k op ac ea (some (.int (fx_acAfter k op ac ea))) k op ac ea :=
  xMet.ofi (by decide) rfl (fun _ => Nat.le_of_ble_eq_true rfl) (fun D cA h0 q p env s m args below meth c ls Q E hC hl hret => wx_acAfter_0 E hC (lv_sub hl [0] rfl) hac hret)
theorem gkx_acAfter : xYw R_x 155 yx_acAfter cx_acAfter 1 (some .int) 0 := ⟨wc_x_acAfter, wl_x_155, wi_x_acAfter, ws_x_acAfter, wn_x, ⟨by decide, by decide, by decide +kernel⟩, by decide⟩
theorem kx_acAfter {p : Program} {l : Launch} {env : Env} {s : State} {m : MethodId} {args : Array Value} {below : List Frame} {meth : Method} {c : Code} {H : Heap} {locs : List Loc} {Q : State → Prop} {cc : ByteArray} {pc nL d : Nat} {ls : Array Slot} {rest : List Value} {D : va_G} {cA : ClassId} {h0 q : Nat} {k : kSx} {op ac ea : Int32} (E : xE p s m args c cc nL D cA h0 q) (hls : ls.size = nL) (hC : xC D cA h0 q s.heap k op ac ea H locs) (hac : vp_in ac 4096) (hd : 0 + 1 ≤ d) (hr : (rest.map fun v => v.category).sum ≤ 8) (hdg : decode cc pc = .ok (.invokevirtual 155, 3)) (kk : ∀ (H1 : Heap) (locs1 : List Loc), xC D cA h0 q s.heap k op ac ea H1 locs1 → W p l env (rmD d) s m args below meth c H1 locs1 0 0 Q (F0 m (pc + 3) ls (.int (fx_acAfter k op ac ea) :: rest))) : W p l env (rmD d) s m args below meth c H locs 0 0 Q (F0 m pc ls (.ref h0 :: rest)) :=
  xcall (av := []) E (mx_acAfter l k op ac ea  hac) gkx_acAfter rfl hls hC hd hr hdg kk
/-! TenMachine.places ()I -/
def fx_places (k : kSx) (op ac ea : Int32)  : Int32 :=
  if (ea &&& (131072 : Int32)) = 0 then
    (ea - ea / (256 : Int32) * (256 : Int32))
  else
    (((ea - (262143 : Int32)) - (1 : Int32)) - ((ea - (262143 : Int32)) - (1 : Int32)) / (256 : Int32) * (256 : Int32))
set_option maxRecDepth 100000 in
set_option maxHeartbeats 4000000 in
theorem wx_places_0 {k : kSx} {op : Int32} {ac : Int32} {ea : Int32} {H : Heap} {locs : List Loc} {ls : Array Slot} (E : xE p s m args c cx_places 2 D cA h0 q) (hC : xC D cA h0 q s.heap k op ac ea H locs) (hl : lv_has ls 2 [(0, .ref h0)]) (hac : vp_in ac 4096) (hret : xri p l env (rmD 0) s m args below meth c cx_places D cA h0 q .int k op ac ea Q (fx_places k op ac ea)) : W p l env (rmD 0) s m args below meth c H locs 0 0 Q (F0 m 0 ls []) := by
  have hx := E.1.1; have hb := E.1.2.1
  unfold fx_places at hret
  refine lv_aload_n hx hb dx_places_0 rfl (lv_at hl 0 rfl) ?_
  refine xg_e E hC dx_places_1 ?_
  refine lv_ldc hx hb E.1.2.2.2.1 (E.1.2.2.2.2 _ ct_x_174) dx_places_4 ?_
  refine lv_iand hx hb dx_places_6 ?_
  refine lv_if_ne (tgt := 17) hx hb dx_places_7 (by decide) (fun h1 => ?_) (fun h1 => ?_)
  · rw [if_neg h1] at hret
    refine lv_aload_n hx hb dx_places_17 rfl (lv_at hl 0 rfl) ?_
    refine xg_e E hC dx_places_18 ?_
    refine lv_ldc hx hb E.1.2.2.2.1 (E.1.2.2.2.2 _ ct_x_175) dx_places_21 ?_
    refine lv_isub hx hb dx_places_23 ?_
    refine lv_iconst (v := (1 : Int32)) hx hb dx_places_24 (by decide) ?_
    refine lv_isub hx hb dx_places_25 ?_
    refine lv_istore_n (lv' := [(1, .int ((ea - (262143 : Int32)) - (1 : Int32))), (0, .ref h0)]) hx hb dx_places_26 rfl hl (by decide) rfl (fun ls hl => ?_)
    refine lv_iload_n hx hb dx_places_27 rfl (lv_at hl 0 rfl) ?_
    refine lv_sipush (v := (256 : Int32)) hx hb dx_places_28 (by decide) ?_
    refine lv_irem hx hb dx_places_31 (by decide) ?_
    exact hret _ _ _ _ dx_places_32 hC  (nw_i _)
  · rw [if_pos h1] at hret
    refine lv_aload_n hx hb dx_places_10 rfl (lv_at hl 0 rfl) ?_
    refine xg_e E hC dx_places_11 ?_
    refine lv_goto (tgt := 26) hx hb dx_places_14 (by decide) ?_
    refine lv_istore_n (lv' := [(1, .int ea), (0, .ref h0)]) hx hb dx_places_26 rfl hl (by decide) rfl (fun ls hl => ?_)
    refine lv_iload_n hx hb dx_places_27 rfl (lv_at hl 0 rfl) ?_
    refine lv_sipush (v := (256 : Int32)) hx hb dx_places_28 (by decide) ?_
    refine lv_irem hx hb dx_places_31 (by decide) ?_
    exact hret _ _ _ _ dx_places_32 hC  (nw_i _)
set_option maxRecDepth 100000 in
set_option maxHeartbeats 4000000 in
theorem mx_places (l : Launch) (k : kSx) (op ac ea : Int32) (hac : vp_in ac 4096) : xMet l yx_places cx_places 2 (some .int) 0 [] k op ac ea (some (.int (fx_places k op ac ea))) k op ac ea :=
  xMet.ofi (by decide) rfl (fun _ => Nat.le_of_ble_eq_true rfl) (fun D cA h0 q p env s m args below meth c ls Q E hC hl hret => wx_places_0 E hC (lv_sub hl [0] rfl) hac hret)
theorem gkx_places : xYw R_x 158 yx_places cx_places 2 (some .int) 0 := ⟨wc_x_places, wl_x_158, wi_x_places, ws_x_places, wn_x, ⟨by decide, by decide, by decide +kernel⟩, by decide⟩
theorem kx_places {p : Program} {l : Launch} {env : Env} {s : State} {m : MethodId} {args : Array Value} {below : List Frame} {meth : Method} {c : Code} {H : Heap} {locs : List Loc} {Q : State → Prop} {cc : ByteArray} {pc nL d : Nat} {ls : Array Slot} {rest : List Value} {D : va_G} {cA : ClassId} {h0 q : Nat} {k : kSx} {op ac ea : Int32} (E : xE p s m args c cc nL D cA h0 q) (hls : ls.size = nL) (hC : xC D cA h0 q s.heap k op ac ea H locs) (hac : vp_in ac 4096) (hd : 0 + 1 ≤ d) (hr : (rest.map fun v => v.category).sum ≤ 8) (hdg : decode cc pc = .ok (.invokevirtual 158, 3)) (kk : ∀ (H1 : Heap) (locs1 : List Loc), xC D cA h0 q s.heap k op ac ea H1 locs1 → W p l env (rmD d) s m args below meth c H1 locs1 0 0 Q (F0 m (pc + 3) ls (.int (fx_places k op ac ea) :: rest))) : W p l env (rmD d) s m args below meth c H locs 0 0 Q (F0 m pc ls (.ref h0 :: rest)) :=
  xcall (av := []) E (mx_places l k op ac ea  hac) gkx_places rfl hls hC hd hr hdg kk
/-! TenMachine.holds (JJ)Z -/
def fx_holds_73 (k : kSx) (op ac ea : Int32) (t0 : Int32) (t1 : Int32) : Int32 :=
  if t0 = t1 then
    (0 : Int32)
  else
    (1 : Int32)
set_option maxRecDepth 100000 in
set_option maxHeartbeats 4000000 in
theorem wx_holds_73 {k : kSx} {op : Int32} {ac : Int32} {ea : Int32} {t0 : Int32} {t1 : Int32} {H : Heap} {locs : List Loc} {ls : Array Slot} (E : xE p s m args c cx_holds 7 D cA h0 q) (hC : xC D cA h0 q s.heap k op ac ea H locs) (hl : lv_has ls 7 []) (hac : vp_in ac 4096) (hret : xri p l env (rmD 0) s m args below meth c cx_holds D cA h0 q .boolean k op ac ea Q (fx_holds_73 k op ac ea t0 t1)) : W p l env (rmD 0) s m args below meth c H locs 0 0 Q (F0 m 73 ls [.int t1, .int t0]) := by
  have hx := E.1.1; have hb := E.1.2.1
  unfold fx_holds_73 at hret
  refine lv_icmp_eq (tgt := 80) hx hb dx_holds_73 (by decide) (fun h1 => ?_) (fun h1 => ?_)
  · rw [if_pos h1] at hret
    refine lv_iconst (v := (0 : Int32)) hx hb dx_holds_80 (by decide) ?_
    exact hret _ _ _ _ dx_holds_81 hC  (narrow_b0)
  · rw [if_neg h1] at hret
    refine lv_iconst (v := (1 : Int32)) hx hb dx_holds_76 (by decide) ?_
    refine lv_goto (tgt := 81) hx hb dx_holds_77 (by decide) ?_
    exact hret _ _ _ _ dx_holds_81 hC  (narrow_b1)
def fx_holds_59 (k : kSx) (op ac ea : Int32) (t0 : Int32) : Int32 :=
  if (op &&& (4 : Int32)) = 0 then
    fx_holds_73 k op ac ea t0 (0 : Int32)
  else
    fx_holds_73 k op ac ea t0 (1 : Int32)
set_option maxRecDepth 100000 in
set_option maxHeartbeats 4000000 in
theorem wx_holds_59 {k : kSx} {op : Int32} {ac : Int32} {ea : Int32} {t0 : Int32} {H : Heap} {locs : List Loc} {ls : Array Slot} (E : xE p s m args c cx_holds 7 D cA h0 q) (hC : xC D cA h0 q s.heap k op ac ea H locs) (hl : lv_has ls 7 [(0, .ref h0)]) (hac : vp_in ac 4096) (hret : xri p l env (rmD 0) s m args below meth c cx_holds D cA h0 q .boolean k op ac ea Q (fx_holds_59 k op ac ea t0)) : W p l env (rmD 0) s m args below meth c H locs 0 0 Q (F0 m 59 ls [.int t0]) := by
  have hx := E.1.1; have hb := E.1.2.1
  unfold fx_holds_59 at hret
  refine lv_aload_n hx hb dx_holds_59 rfl (lv_at hl 0 rfl) ?_
  refine xg_op E hC dx_holds_60 ?_
  refine lv_iconst (v := (4 : Int32)) hx hb dx_holds_63 (by decide) ?_
  refine lv_iand hx hb dx_holds_64 ?_
  refine lv_if_eq (tgt := 72) hx hb dx_holds_65 (by decide) (fun h1 => ?_) (fun h1 => ?_)
  · rw [if_pos h1] at hret
    refine lv_iconst (v := (0 : Int32)) hx hb dx_holds_72 (by decide) ?_
    exact wx_holds_73 E hC (lv_sub hl [] rfl) (hac) hret
  · rw [if_neg h1] at hret
    refine lv_iconst (v := (1 : Int32)) hx hb dx_holds_68 (by decide) ?_
    refine lv_goto (tgt := 73) hx hb dx_holds_69 (by decide) ?_
    exact wx_holds_73 E hC (lv_sub hl [] rfl) (hac) hret
def fx_holds_54 (k : kSx) (op ac ea : Int32)  : Int32 :=
  fx_holds_59 k op ac ea (1 : Int32)
set_option maxRecDepth 100000 in
set_option maxHeartbeats 4000000 in
theorem wx_holds_54 {k : kSx} {op : Int32} {ac : Int32} {ea : Int32} {H : Heap} {locs : List Loc} {ls : Array Slot} (E : xE p s m args c cx_holds 7 D cA h0 q) (hC : xC D cA h0 q s.heap k op ac ea H locs) (hl : lv_has ls 7 [(0, .ref h0)]) (hac : vp_in ac 4096) (hret : xri p l env (rmD 0) s m args below meth c cx_holds D cA h0 q .boolean k op ac ea Q (fx_holds_54 k op ac ea)) : W p l env (rmD 0) s m args below meth c H locs 0 0 Q (F0 m 54 ls []) := by
  have hx := E.1.1; have hb := E.1.2.1
  unfold fx_holds_54 at hret
  refine lv_iconst (v := (1 : Int32)) hx hb dx_holds_54 (by decide) ?_
  refine lv_goto (tgt := 59) hx hb dx_holds_55 (by decide) ?_
  exact wx_holds_59 E hC (lv_sub hl [0] rfl) (hac) hret
def fx_holds_42 (k : kSx) (op ac ea : Int32) (v5 : Int32) (t0 : Int32) : Int32 :=
  if v5 = 0 then
    if t0 = 0 then
      fx_holds_59 k op ac ea (0 : Int32)
    else
      fx_holds_54 k op ac ea
  else
    fx_holds_54 k op ac ea
set_option maxRecDepth 100000 in
set_option maxHeartbeats 4000000 in
theorem wx_holds_42 {k : kSx} {op : Int32} {ac : Int32} {ea : Int32} {v5 : Int32} {t0 : Int32} {H : Heap} {locs : List Loc} {ls : Array Slot} (E : xE p s m args c cx_holds 7 D cA h0 q) (hC : xC D cA h0 q s.heap k op ac ea H locs) (hl : lv_has ls 7 [(0, .ref h0), (5, .int v5)]) (hac : vp_in ac 4096) (hret : xri p l env (rmD 0) s m args below meth c cx_holds D cA h0 q .boolean k op ac ea Q (fx_holds_42 k op ac ea v5 t0)) : W p l env (rmD 0) s m args below meth c H locs 0 0 Q (F0 m 42 ls [.int t0]) := by
  have hx := E.1.1; have hb := E.1.2.1
  unfold fx_holds_42 at hret
  refine lv_istore (lv' := [(6, .int t0), (0, .ref h0), (5, .int v5)]) hx hb dx_holds_42 hl (by decide) rfl (fun ls hl => ?_)
  refine lv_iload hx hb dx_holds_44 (lv_at hl 2 rfl) ?_
  refine lv_if_ne (tgt := 54) hx hb dx_holds_46 (by decide) (fun h1 => ?_) (fun h1 => ?_)
  · rw [if_neg h1] at hret
    exact wx_holds_54 E hC (lv_sub hl [1] rfl) (hac) hret
  · rw [if_pos h1] at hret
    refine lv_iload hx hb dx_holds_49 (lv_at hl 0 rfl) ?_
    refine lv_if_eq (tgt := 58) hx hb dx_holds_51 (by decide) (fun h2 => ?_) (fun h2 => ?_)
    · rw [if_pos h2] at hret
      refine lv_iconst (v := (0 : Int32)) hx hb dx_holds_58 (by decide) ?_
      exact wx_holds_59 E hC (lv_sub hl [1] rfl) (hac) hret
    · rw [if_neg h2] at hret
      exact wx_holds_54 E hC (lv_sub hl [1] rfl) (hac) hret
def fx_holds_41 (k : kSx) (op ac ea : Int32) (v5 : Int32) : Int32 :=
  fx_holds_42 k op ac ea v5 (0 : Int32)
set_option maxRecDepth 100000 in
set_option maxHeartbeats 4000000 in
theorem wx_holds_41 {k : kSx} {op : Int32} {ac : Int32} {ea : Int32} {v5 : Int32} {H : Heap} {locs : List Loc} {ls : Array Slot} (E : xE p s m args c cx_holds 7 D cA h0 q) (hC : xC D cA h0 q s.heap k op ac ea H locs) (hl : lv_has ls 7 [(0, .ref h0), (5, .int v5)]) (hac : vp_in ac 4096) (hret : xri p l env (rmD 0) s m args below meth c cx_holds D cA h0 q .boolean k op ac ea Q (fx_holds_41 k op ac ea v5)) : W p l env (rmD 0) s m args below meth c H locs 0 0 Q (F0 m 41 ls []) := by
  have hx := E.1.1; have hb := E.1.2.1
  unfold fx_holds_41 at hret
  refine lv_iconst (v := (0 : Int32)) hx hb dx_holds_41 (by decide) ?_
  exact wx_holds_42 E hC (lv_sub hl [0, 1] rfl) (hac) hret
def fx_holds_20 (k : kSx) (op ac ea : Int32) (v1 : Int64) (v3 : Int64) (t0 : Int32) : Int32 :=
  if (op &&& (2 : Int32)) = 0 then
    fx_holds_41 k op ac ea t0
  else
    if v1 = v3 then
      fx_holds_42 k op ac ea t0 (1 : Int32)
    else
      fx_holds_41 k op ac ea t0
set_option maxRecDepth 100000 in
set_option maxHeartbeats 4000000 in
theorem wx_holds_20 {k : kSx} {op : Int32} {ac : Int32} {ea : Int32} {v1 : Int64} {v3 : Int64} {t0 : Int32} {H : Heap} {locs : List Loc} {ls : Array Slot} (E : xE p s m args c cx_holds 7 D cA h0 q) (hC : xC D cA h0 q s.heap k op ac ea H locs) (hl : lv_has ls 7 [(0, .ref h0), (1, .long v1), (3, .long v3)]) (hac : vp_in ac 4096) (hret : xri p l env (rmD 0) s m args below meth c cx_holds D cA h0 q .boolean k op ac ea Q (fx_holds_20 k op ac ea v1 v3 t0)) : W p l env (rmD 0) s m args below meth c H locs 0 0 Q (F0 m 20 ls [.int t0]) := by
  have hx := E.1.1; have hb := E.1.2.1
  unfold fx_holds_20 at hret
  refine lv_istore (lv' := [(5, .int t0), (0, .ref h0), (1, .long v1), (3, .long v3)]) hx hb dx_holds_20 hl (by decide) rfl (fun ls hl => ?_)
  refine lv_aload_n hx hb dx_holds_22 rfl (lv_at hl 1 rfl) ?_
  refine xg_op E hC dx_holds_23 ?_
  refine lv_iconst (v := (2 : Int32)) hx hb dx_holds_26 (by decide) ?_
  refine lv_iand hx hb dx_holds_27 ?_
  refine lv_if_eq (tgt := 41) hx hb dx_holds_28 (by decide) (fun h1 => ?_) (fun h1 => ?_)
  · rw [if_pos h1] at hret
    exact wx_holds_41 E hC (lv_sub hl [1, 0] rfl) (hac) hret
  · rw [if_neg h1] at hret
    refine lv_lload_n hx hb dx_holds_31 rfl (lv_at hl 2 rfl) ?_
    refine lv_lload_n hx hb dx_holds_32 rfl (lv_at hl 3 rfl) ?_
    refine tt_lcmp_ne (tgt := 41) hx hb dx_holds_33 dx_holds_34 (by decide) (fun h2 => ?_) (fun h2 => ?_)
    · rw [if_neg h2] at hret
      exact wx_holds_41 E hC (lv_sub hl [1, 0] rfl) (hac) hret
    · rw [if_pos h2] at hret
      refine lv_iconst (v := (1 : Int32)) hx hb dx_holds_37 (by decide) ?_
      refine lv_goto (tgt := 42) hx hb dx_holds_38 (by decide) ?_
      exact wx_holds_42 E hC (lv_sub hl [1, 0] rfl) (hac) hret
def fx_holds_19 (k : kSx) (op ac ea : Int32) (v1 : Int64) (v3 : Int64) : Int32 :=
  fx_holds_20 k op ac ea v1 v3 (0 : Int32)
set_option maxRecDepth 100000 in
set_option maxHeartbeats 4000000 in
theorem wx_holds_19 {k : kSx} {op : Int32} {ac : Int32} {ea : Int32} {v1 : Int64} {v3 : Int64} {H : Heap} {locs : List Loc} {ls : Array Slot} (E : xE p s m args c cx_holds 7 D cA h0 q) (hC : xC D cA h0 q s.heap k op ac ea H locs) (hl : lv_has ls 7 [(0, .ref h0), (1, .long v1), (3, .long v3)]) (hac : vp_in ac 4096) (hret : xri p l env (rmD 0) s m args below meth c cx_holds D cA h0 q .boolean k op ac ea Q (fx_holds_19 k op ac ea v1 v3)) : W p l env (rmD 0) s m args below meth c H locs 0 0 Q (F0 m 19 ls []) := by
  have hx := E.1.1; have hb := E.1.2.1
  unfold fx_holds_19 at hret
  refine lv_iconst (v := (0 : Int32)) hx hb dx_holds_19 (by decide) ?_
  exact wx_holds_20 E hC (lv_sub hl [0, 1, 2] rfl) (hac) hret
def fx_holds (k : kSx) (op ac ea : Int32) (v1 : Int64) (v3 : Int64) : Int32 :=
  if (op &&& (1 : Int32)) = 0 then
    fx_holds_19 k op ac ea v1 v3
  else
    if v3 ≤ v1 then
      fx_holds_19 k op ac ea v1 v3
    else
      fx_holds_20 k op ac ea v1 v3 (1 : Int32)
set_option maxRecDepth 100000 in
set_option maxHeartbeats 4000000 in
theorem wx_holds_0 {k : kSx} {op : Int32} {ac : Int32} {ea : Int32} {v1 : Int64} {v3 : Int64} {H : Heap} {locs : List Loc} {ls : Array Slot} (E : xE p s m args c cx_holds 7 D cA h0 q) (hC : xC D cA h0 q s.heap k op ac ea H locs) (hl : lv_has ls 7 [(0, .ref h0), (1, .long v1), (3, .long v3)]) (hac : vp_in ac 4096) (hret : xri p l env (rmD 0) s m args below meth c cx_holds D cA h0 q .boolean k op ac ea Q (fx_holds k op ac ea v1 v3)) : W p l env (rmD 0) s m args below meth c H locs 0 0 Q (F0 m 0 ls []) := by
  have hx := E.1.1; have hb := E.1.2.1
  unfold fx_holds at hret
  refine lv_aload_n hx hb dx_holds_0 rfl (lv_at hl 0 rfl) ?_
  refine xg_op E hC dx_holds_1 ?_
  refine lv_iconst (v := (1 : Int32)) hx hb dx_holds_4 (by decide) ?_
  refine lv_iand hx hb dx_holds_5 ?_
  refine lv_if_eq (tgt := 19) hx hb dx_holds_6 (by decide) (fun h1 => ?_) (fun h1 => ?_)
  · rw [if_pos h1] at hret
    exact wx_holds_19 E hC (lv_sub hl [0, 1, 2] rfl) (hac) hret
  · rw [if_neg h1] at hret
    refine lv_lload_n hx hb dx_holds_9 rfl (lv_at hl 1 rfl) ?_
    refine lv_lload_n hx hb dx_holds_10 rfl (lv_at hl 2 rfl) ?_
    refine tt_lcmp_ge (tgt := 19) hx hb dx_holds_11 dx_holds_12 (by decide) (fun h2 => ?_) (fun h2 => ?_)
    · rw [if_pos h2] at hret
      exact wx_holds_19 E hC (lv_sub hl [0, 1, 2] rfl) (hac) hret
    · rw [if_neg h2] at hret
      refine lv_iconst (v := (1 : Int32)) hx hb dx_holds_15 (by decide) ?_
      refine lv_goto (tgt := 20) hx hb dx_holds_16 (by decide) ?_
      exact wx_holds_20 E hC (lv_sub hl [0, 1, 2] rfl) (hac) hret
set_option maxRecDepth 100000 in
set_option maxHeartbeats 4000000 in
theorem mx_holds (l : Launch) (k : kSx) (op ac ea : Int32) (v1 : Int64) (v3 : Int64) (hac : vp_in ac 4096) : xMet l yx_holds cx_holds 7 (some .boolean) 0 [.long v1, .long v3] k op ac ea (some (.int (fx_holds k op ac ea v1 v3))) k op ac ea :=
  xMet.ofi (by decide) rfl (fun _ => Nat.le_of_ble_eq_true rfl) (fun D cA h0 q p env s m args below meth c ls Q E hC hl hret => wx_holds_0 E hC (lv_sub hl [0, 1, 2] rfl) hac hret)
theorem gkx_holds : xYw R_x 211 yx_holds cx_holds 7 (some .boolean) 2 := ⟨wc_x_holds, wl_x_211, wi_x_holds, ws_x_holds, wn_x, ⟨by decide, by decide, by decide +kernel⟩, by decide⟩
theorem kx_holds {p : Program} {l : Launch} {env : Env} {s : State} {m : MethodId} {args : Array Value} {below : List Frame} {meth : Method} {c : Code} {H : Heap} {locs : List Loc} {Q : State → Prop} {cc : ByteArray} {pc nL d : Nat} {ls : Array Slot} {rest : List Value} {D : va_G} {cA : ClassId} {h0 q : Nat} {k : kSx} {op ac ea : Int32} {v1 : Int64} {v3 : Int64} (E : xE p s m args c cc nL D cA h0 q) (hls : ls.size = nL) (hC : xC D cA h0 q s.heap k op ac ea H locs) (hac : vp_in ac 4096) (hd : 0 + 1 ≤ d) (hr : (rest.map fun v => v.category).sum ≤ 8) (hdg : decode cc pc = .ok (.invokevirtual 211, 3)) (kk : ∀ (H1 : Heap) (locs1 : List Loc), xC D cA h0 q s.heap k op ac ea H1 locs1 → W p l env (rmD d) s m args below meth c H1 locs1 0 0 Q (F0 m (pc + 3) ls (.int (fx_holds k op ac ea v1 v3) :: rest))) : W p l env (rmD d) s m args below meth c H locs 0 0 Q (F0 m pc ls (.long v3 :: .long v1 :: .ref h0 :: rest)) :=
  xcall (av := [.long v1, .long v3]) E (mx_holds l k op ac ea v1 v3 hac) gkx_holds rfl hls hC hd hr hdg kk
/-! TenMachine.skipIf (Z)I -/
def fx_skipIf (k : kSx) (op ac ea : Int32) (v1 : Int32) : Int32 × kSx :=
  if v1 = 0 then
    ((0 : Int32), k)
  else
    ((0 : Int32), vx_pc k ((ux_pc k) + (1 : Int32)))
set_option maxRecDepth 100000 in
set_option maxHeartbeats 4000000 in
theorem wx_skipIf_0 {k : kSx} {op : Int32} {ac : Int32} {ea : Int32} {v1 : Int32} {H : Heap} {locs : List Loc} {ls : Array Slot} (E : xE p s m args c cx_skipIf 2 D cA h0 q) (hC : xC D cA h0 q s.heap k op ac ea H locs) (hl : lv_has ls 2 [(0, .ref h0), (1, .int v1)]) (hac : vp_in ac 4096) (hret : xwi p l env (rmD 0) s m args below meth c cx_skipIf D cA h0 q .int op ac ea Q (fx_skipIf k op ac ea v1)) : W p l env (rmD 0) s m args below meth c H locs 0 0 Q (F0 m 0 ls []) := by
  have hx := E.1.1; have hb := E.1.2.1
  unfold fx_skipIf at hret
  refine lv_iload_n hx hb dx_skipIf_0 rfl (lv_at hl 1 rfl) ?_
  refine lv_if_eq (tgt := 14) hx hb dx_skipIf_1 (by decide) (fun h1 => ?_) (fun h1 => ?_)
  · rw [if_pos h1] at hret
    refine lv_iconst (v := (0 : Int32)) hx hb dx_skipIf_14 (by decide) ?_
    exact (xwi_out hret) _ _ _ _ dx_skipIf_15 hC  (nw_i _)
  · rw [if_neg h1] at hret
    refine lv_aload_n hx hb dx_skipIf_4 rfl (lv_at hl 0 rfl) ?_
    refine lv_dup hx hb dx_skipIf_5 rfl ?_
    refine xg_pc E hC dx_skipIf_6 ?_
    refine lv_iconst (v := (1 : Int32)) hx hb dx_skipIf_9 (by decide) ?_
    refine lv_iadd hx hb dx_skipIf_10 ?_
    refine xp_pc E hC dx_skipIf_11 (fun H locs hC => ?_)
    refine lv_iconst (v := (0 : Int32)) hx hb dx_skipIf_14 (by decide) ?_
    exact (xwi_out hret) _ _ _ _ dx_skipIf_15 hC  (nw_i _)
set_option maxRecDepth 100000 in
set_option maxHeartbeats 4000000 in
theorem mx_skipIf (l : Launch) (k : kSx) (op ac ea : Int32) (v1 : Int32) (hac : vp_in ac 4096) : xMet l yx_skipIf cx_skipIf 2 (some .int) 0 [.int v1] k op ac ea (some (.int (fx_skipIf k op ac ea v1).1)) (fx_skipIf k op ac ea v1).2 op ac ea :=
  xMet.ofi (by decide) rfl (fun _ => Nat.le_of_ble_eq_true rfl) (fun D cA h0 q p env s m args below meth c ls Q E hC hl hret => wx_skipIf_0 E hC (lv_sub hl [0, 1] rfl) hac hret)
theorem gkx_skipIf : xYw R_x 215 yx_skipIf cx_skipIf 2 (some .int) 1 := ⟨wc_x_skipIf, wl_x_215, wi_x_skipIf, ws_x_skipIf, wn_x, ⟨by decide, by decide, by decide +kernel⟩, by decide⟩
theorem kx_skipIf {p : Program} {l : Launch} {env : Env} {s : State} {m : MethodId} {args : Array Value} {below : List Frame} {meth : Method} {c : Code} {H : Heap} {locs : List Loc} {Q : State → Prop} {cc : ByteArray} {pc nL d : Nat} {ls : Array Slot} {rest : List Value} {D : va_G} {cA : ClassId} {h0 q : Nat} {k : kSx} {op ac ea : Int32} {v1 : Int32} (E : xE p s m args c cc nL D cA h0 q) (hls : ls.size = nL) (hC : xC D cA h0 q s.heap k op ac ea H locs) (hac : vp_in ac 4096) (hd : 0 + 1 ≤ d) (hr : (rest.map fun v => v.category).sum ≤ 8) (hdg : decode cc pc = .ok (.invokevirtual 215, 3)) (kk : ∀ (H1 : Heap) (locs1 : List Loc), xC D cA h0 q s.heap (fx_skipIf k op ac ea v1).2 op ac ea H1 locs1 → W p l env (rmD d) s m args below meth c H1 locs1 0 0 Q (F0 m (pc + 3) ls (.int (fx_skipIf k op ac ea v1).1 :: rest))) : W p l env (rmD d) s m args below meth c H locs 0 0 Q (F0 m pc ls (.int v1 :: .ref h0 :: rest)) :=
  xcall (av := [.int v1]) E (mx_skipIf l k op ac ea v1 hac) gkx_skipIf rfl hls hC hd hr hdg kk
/-! TenMachine.jumpIf (Z)I -/
def fx_jumpIf (k : kSx) (op ac ea : Int32) (v1 : Int32) : Int32 × kSx :=
  if v1 = 0 then
    ((0 : Int32), k)
  else
    ((0 : Int32), vx_pc k ea)
set_option maxRecDepth 100000 in
set_option maxHeartbeats 4000000 in
theorem wx_jumpIf_0 {k : kSx} {op : Int32} {ac : Int32} {ea : Int32} {v1 : Int32} {H : Heap} {locs : List Loc} {ls : Array Slot} (E : xE p s m args c cx_jumpIf 2 D cA h0 q) (hC : xC D cA h0 q s.heap k op ac ea H locs) (hl : lv_has ls 2 [(0, .ref h0), (1, .int v1)]) (hac : vp_in ac 4096) (hret : xwi p l env (rmD 0) s m args below meth c cx_jumpIf D cA h0 q .int op ac ea Q (fx_jumpIf k op ac ea v1)) : W p l env (rmD 0) s m args below meth c H locs 0 0 Q (F0 m 0 ls []) := by
  have hx := E.1.1; have hb := E.1.2.1
  unfold fx_jumpIf at hret
  refine lv_iload_n hx hb dx_jumpIf_0 rfl (lv_at hl 1 rfl) ?_
  refine lv_if_eq (tgt := 12) hx hb dx_jumpIf_1 (by decide) (fun h1 => ?_) (fun h1 => ?_)
  · rw [if_pos h1] at hret
    refine lv_iconst (v := (0 : Int32)) hx hb dx_jumpIf_12 (by decide) ?_
    exact (xwi_out hret) _ _ _ _ dx_jumpIf_13 hC  (nw_i _)
  · rw [if_neg h1] at hret
    refine lv_aload_n hx hb dx_jumpIf_4 rfl (lv_at hl 0 rfl) ?_
    refine lv_aload_n hx hb dx_jumpIf_5 rfl (lv_at hl 0 rfl) ?_
    refine xg_e E hC dx_jumpIf_6 ?_
    refine xp_pc E hC dx_jumpIf_9 (fun H locs hC => ?_)
    refine lv_iconst (v := (0 : Int32)) hx hb dx_jumpIf_12 (by decide) ?_
    exact (xwi_out hret) _ _ _ _ dx_jumpIf_13 hC  (nw_i _)
set_option maxRecDepth 100000 in
set_option maxHeartbeats 4000000 in
theorem mx_jumpIf (l : Launch) (k : kSx) (op ac ea : Int32) (v1 : Int32) (hac : vp_in ac 4096) : xMet l yx_jumpIf cx_jumpIf 2 (some .int) 0 [.int v1] k op ac ea (some (.int (fx_jumpIf k op ac ea v1).1)) (fx_jumpIf k op ac ea v1).2 op ac ea :=
  xMet.ofi (by decide) rfl (fun _ => Nat.le_of_ble_eq_true rfl) (fun D cA h0 q p env s m args below meth c ls Q E hC hl hret => wx_jumpIf_0 E hC (lv_sub hl [0, 1] rfl) hac hret)
theorem gkx_jumpIf : xYw R_x 108 yx_jumpIf cx_jumpIf 2 (some .int) 1 := ⟨wc_x_jumpIf, wl_x_108, wi_x_jumpIf, ws_x_jumpIf, wn_x, ⟨by decide, by decide, by decide +kernel⟩, by decide⟩
theorem kx_jumpIf {p : Program} {l : Launch} {env : Env} {s : State} {m : MethodId} {args : Array Value} {below : List Frame} {meth : Method} {c : Code} {H : Heap} {locs : List Loc} {Q : State → Prop} {cc : ByteArray} {pc nL d : Nat} {ls : Array Slot} {rest : List Value} {D : va_G} {cA : ClassId} {h0 q : Nat} {k : kSx} {op ac ea : Int32} {v1 : Int32} (E : xE p s m args c cc nL D cA h0 q) (hls : ls.size = nL) (hC : xC D cA h0 q s.heap k op ac ea H locs) (hac : vp_in ac 4096) (hd : 0 + 1 ≤ d) (hr : (rest.map fun v => v.category).sum ≤ 8) (hdg : decode cc pc = .ok (.invokevirtual 108, 3)) (kk : ∀ (H1 : Heap) (locs1 : List Loc), xC D cA h0 q s.heap (fx_jumpIf k op ac ea v1).2 op ac ea H1 locs1 → W p l env (rmD d) s m args below meth c H1 locs1 0 0 Q (F0 m (pc + 3) ls (.int (fx_jumpIf k op ac ea v1).1 :: rest))) : W p l env (rmD d) s m args below meth c H locs 0 0 Q (F0 m pc ls (.int v1 :: .ref h0 :: rest)) :=
  xcall (av := [.int v1]) E (mx_jumpIf l k op ac ea v1 hac) gkx_jumpIf rfl hls hC hd hr hdg kk
/-! TenMachine.changed (JJ)J -/
def fx_changed (k : kSx) (op ac ea : Int32) (v1 : Int64) (v3 : Int64) : Int64 :=
  if ((op >>> ((4 : Int32) &&& 31)) &&& (3 : Int32)) = 1 then
    (v1 &&& (v3 ^^^ (-1 : Int64)))
  else
    if ((op >>> ((4 : Int32) &&& 31)) &&& (3 : Int32)) = 2 then
      (v1 ^^^ v3)
    else
      if ((op >>> ((4 : Int32) &&& 31)) &&& (3 : Int32)) = 3 then
        (v1 ||| v3)
      else
        v1
set_option maxRecDepth 100000 in
set_option maxHeartbeats 4000000 in
theorem wx_changed_0 {k : kSx} {op : Int32} {ac : Int32} {ea : Int32} {v1 : Int64} {v3 : Int64} {H : Heap} {locs : List Loc} {ls : Array Slot} (E : xE p s m args c cx_changed 5 D cA h0 q) (hC : xC D cA h0 q s.heap k op ac ea H locs) (hl : lv_has ls 5 [(0, .ref h0), (1, .long v1), (3, .long v3)]) (hac : vp_in ac 4096) (hret : xrl p l env (rmD 0) s m args below meth c cx_changed D cA h0 q .long k op ac ea Q (fx_changed k op ac ea v1 v3)) : W p l env (rmD 0) s m args below meth c H locs 0 0 Q (F0 m 0 ls []) := by
  have hx := E.1.1; have hb := E.1.2.1
  unfold fx_changed at hret
  refine lv_aload_n hx hb dx_changed_0 rfl (lv_at hl 0 rfl) ?_
  refine xg_op E hC dx_changed_1 ?_
  refine lv_iconst (v := (4 : Int32)) hx hb dx_changed_4 (by decide) ?_
  refine lv_ishr hx hb dx_changed_5 ?_
  refine lv_iconst (v := (3 : Int32)) hx hb dx_changed_6 (by decide) ?_
  refine lv_iand hx hb dx_changed_7 ?_
  by_cases h1 : ((op >>> ((4 : Int32) &&& 31)) &&& (3 : Int32)) = 1
  · rw [if_pos h1] at hret
    refine lv_tableIn (off := 28) (tgt := 36) hx hb dx_changed_8 (by rw [h1]; decide) (by rw [h1]; decide) (by rw [h1]; rfl) (by decide) ?_
    refine lv_lload_n hx hb dx_changed_36 rfl (lv_at hl 1 rfl) ?_
    refine lv_lload_n hx hb dx_changed_37 rfl (lv_at hl 2 rfl) ?_
    refine lv_ldc2 hx hb E.1.2.2.2.1 (E.1.2.2.2.2 _ ct_x_151) dx_changed_38 ?_
    refine lv_lxor hx hb dx_changed_41 ?_
    refine lv_land hx hb dx_changed_42 ?_
    exact hret _ _ _ _ dx_changed_43 hC  (nw_l _)
  · rw [if_neg h1] at hret
    by_cases h2 : ((op >>> ((4 : Int32) &&& 31)) &&& (3 : Int32)) = 2
    · rw [if_pos h2] at hret
      refine lv_tableIn (off := 36) (tgt := 44) hx hb dx_changed_8 (by rw [h2]; decide) (by rw [h2]; decide) (by rw [h2]; rfl) (by decide) ?_
      refine lv_lload_n hx hb dx_changed_44 rfl (lv_at hl 1 rfl) ?_
      refine lv_lload_n hx hb dx_changed_45 rfl (lv_at hl 2 rfl) ?_
      refine lv_lxor hx hb dx_changed_46 ?_
      exact hret _ _ _ _ dx_changed_47 hC  (nw_l _)
    · rw [if_neg h2] at hret
      by_cases h3 : ((op >>> ((4 : Int32) &&& 31)) &&& (3 : Int32)) = 3
      · rw [if_pos h3] at hret
        refine lv_tableIn (off := 40) (tgt := 48) hx hb dx_changed_8 (by rw [h3]; decide) (by rw [h3]; decide) (by rw [h3]; rfl) (by decide) ?_
        refine lv_lload_n hx hb dx_changed_48 rfl (lv_at hl 1 rfl) ?_
        refine lv_lload_n hx hb dx_changed_49 rfl (lv_at hl 2 rfl) ?_
        refine lv_lor hx hb dx_changed_50 ?_
        exact hret _ _ _ _ dx_changed_51 hC  (nw_l _)
      · rw [if_neg h3] at hret
        refine lv_tableOut (tgt := 52) hx hb dx_changed_8 (by have := lv_neT h1 (show (1 : Int32).toInt = 1 from rfl); have := lv_neT h2 (show (2 : Int32).toInt = 2 from rfl); have := lv_neT h3 (show (3 : Int32).toInt = 3 from rfl); omega) (by decide) ?_
        refine lv_lload_n hx hb dx_changed_52 rfl (lv_at hl 1 rfl) ?_
        exact hret _ _ _ _ dx_changed_53 hC  (nw_l _)
set_option maxRecDepth 100000 in
set_option maxHeartbeats 4000000 in
theorem mx_changed (l : Launch) (k : kSx) (op ac ea : Int32) (v1 : Int64) (v3 : Int64) (hac : vp_in ac 4096) : xMet l yx_changed cx_changed 5 (some .long) 0 [.long v1, .long v3] k op ac ea (some (.long (fx_changed k op ac ea v1 v3))) k op ac ea :=
  xMet.ofl (by decide) rfl (fun _ => Nat.le_of_ble_eq_true rfl) (fun D cA h0 q p env s m args below meth c ls Q E hC hl hret => wx_changed_0 E hC (lv_sub hl [0, 1, 2] rfl) hac hret)
theorem gkx_changed : xYw R_x 232 yx_changed cx_changed 5 (some .long) 2 := ⟨wc_x_changed, wl_x_232, wi_x_changed, ws_x_changed, wn_x, ⟨by decide, by decide, by decide +kernel⟩, by decide⟩
theorem kx_changed {p : Program} {l : Launch} {env : Env} {s : State} {m : MethodId} {args : Array Value} {below : List Frame} {meth : Method} {c : Code} {H : Heap} {locs : List Loc} {Q : State → Prop} {cc : ByteArray} {pc nL d : Nat} {ls : Array Slot} {rest : List Value} {D : va_G} {cA : ClassId} {h0 q : Nat} {k : kSx} {op ac ea : Int32} {v1 : Int64} {v3 : Int64} (E : xE p s m args c cc nL D cA h0 q) (hls : ls.size = nL) (hC : xC D cA h0 q s.heap k op ac ea H locs) (hac : vp_in ac 4096) (hd : 0 + 1 ≤ d) (hr : (rest.map fun v => v.category).sum ≤ 8) (hdg : decode cc pc = .ok (.invokevirtual 232, 3)) (kk : ∀ (H1 : Heap) (locs1 : List Loc), xC D cA h0 q s.heap k op ac ea H1 locs1 → W p l env (rmD d) s m args below meth c H1 locs1 0 0 Q (F0 m (pc + 3) ls (.long (fx_changed k op ac ea v1 v3) :: rest))) : W p l env (rmD d) s m args below meth c H locs 0 0 Q (F0 m pc ls (.long v3 :: .long v1 :: .ref h0 :: rest)) :=
  xcall (av := [.long v1, .long v3]) E (mx_changed l k op ac ea v1 v3 hac) gkx_changed rfl hls hC hd hr hdg kk
/-! TenMachine.otherHalf (II)I -/
def fx_otherHalf (k : kSx) (op ac ea : Int32) (v1 : Int32) (v2 : Int32) : Int32 :=
  if ((op >>> ((3 : Int32) &&& 31)) &&& (3 : Int32)) = 0 then
    v2
  else
    if ((op >>> ((3 : Int32) &&& 31)) &&& (3 : Int32)) = 1 then
      (0 : Int32)
    else
      if ((op >>> ((3 : Int32) &&& 31)) &&& (3 : Int32)) = 2 then
        (262143 : Int32)
      else
        if (v1 &&& (131072 : Int32)) = 0 then
          (0 : Int32)
        else
          (262143 : Int32)
set_option maxRecDepth 100000 in
set_option maxHeartbeats 4000000 in
theorem wx_otherHalf_0 {k : kSx} {op : Int32} {ac : Int32} {ea : Int32} {v1 : Int32} {v2 : Int32} {H : Heap} {locs : List Loc} {ls : Array Slot} (E : xE p s m args c cx_otherHalf 3 D cA h0 q) (hC : xC D cA h0 q s.heap k op ac ea H locs) (hl : lv_has ls 3 [(0, .ref h0), (1, .int v1), (2, .int v2)]) (hac : vp_in ac 4096) (hret : xri p l env (rmD 0) s m args below meth c cx_otherHalf D cA h0 q .int k op ac ea Q (fx_otherHalf k op ac ea v1 v2)) : W p l env (rmD 0) s m args below meth c H locs 0 0 Q (F0 m 0 ls []) := by
  have hx := E.1.1; have hb := E.1.2.1
  unfold fx_otherHalf at hret
  refine lv_aload_n hx hb dx_otherHalf_0 rfl (lv_at hl 0 rfl) ?_
  refine xg_op E hC dx_otherHalf_1 ?_
  refine lv_iconst (v := (3 : Int32)) hx hb dx_otherHalf_4 (by decide) ?_
  refine lv_ishr hx hb dx_otherHalf_5 ?_
  refine lv_iconst (v := (3 : Int32)) hx hb dx_otherHalf_6 (by decide) ?_
  refine lv_iand hx hb dx_otherHalf_7 ?_
  by_cases h1 : ((op >>> ((3 : Int32) &&& 31)) &&& (3 : Int32)) = 0
  · rw [if_pos h1] at hret
    refine lv_tableIn (off := 28) (tgt := 36) hx hb dx_otherHalf_8 (by rw [h1]; decide) (by rw [h1]; decide) (by rw [h1]; rfl) (by decide) ?_
    refine lv_iload_n hx hb dx_otherHalf_36 rfl (lv_at hl 2 rfl) ?_
    exact hret _ _ _ _ dx_otherHalf_37 hC  (nw_i _)
  · rw [if_neg h1] at hret
    by_cases h2 : ((op >>> ((3 : Int32) &&& 31)) &&& (3 : Int32)) = 1
    · rw [if_pos h2] at hret
      refine lv_tableIn (off := 30) (tgt := 38) hx hb dx_otherHalf_8 (by rw [h2]; decide) (by rw [h2]; decide) (by rw [h2]; rfl) (by decide) ?_
      refine lv_iconst (v := (0 : Int32)) hx hb dx_otherHalf_38 (by decide) ?_
      exact hret _ _ _ _ dx_otherHalf_39 hC  (nw_i _)
    · rw [if_neg h2] at hret
      by_cases h3 : ((op >>> ((3 : Int32) &&& 31)) &&& (3 : Int32)) = 2
      · rw [if_pos h3] at hret
        refine lv_tableIn (off := 32) (tgt := 40) hx hb dx_otherHalf_8 (by rw [h3]; decide) (by rw [h3]; decide) (by rw [h3]; rfl) (by decide) ?_
        refine lv_ldc hx hb E.1.2.2.2.1 (E.1.2.2.2.2 _ ct_x_175) dx_otherHalf_40 ?_
        exact hret _ _ _ _ dx_otherHalf_42 hC  (nw_i _)
      · rw [if_neg h3] at hret
        refine lv_tableOut (tgt := 43) hx hb dx_otherHalf_8 (by have := lv_neT h1 (show (0 : Int32).toInt = 0 from rfl); have := lv_neT h2 (show (1 : Int32).toInt = 1 from rfl); have := lv_neT h3 (show (2 : Int32).toInt = 2 from rfl); omega) (by decide) ?_
        refine lv_iload_n hx hb dx_otherHalf_43 rfl (lv_at hl 1 rfl) ?_
        refine lv_ldc hx hb E.1.2.2.2.1 (E.1.2.2.2.2 _ ct_x_174) dx_otherHalf_44 ?_
        refine lv_iand hx hb dx_otherHalf_46 ?_
        refine lv_if_ne (tgt := 54) hx hb dx_otherHalf_47 (by decide) (fun h4 => ?_) (fun h4 => ?_)
        · rw [if_neg h4] at hret
          refine lv_ldc hx hb E.1.2.2.2.1 (E.1.2.2.2.2 _ ct_x_175) dx_otherHalf_54 ?_
          exact hret _ _ _ _ dx_otherHalf_56 hC  (nw_i _)
        · rw [if_pos h4] at hret
          refine lv_iconst (v := (0 : Int32)) hx hb dx_otherHalf_50 (by decide) ?_
          refine lv_goto (tgt := 56) hx hb dx_otherHalf_51 (by decide) ?_
          exact hret _ _ _ _ dx_otherHalf_56 hC  (nw_i _)
set_option maxRecDepth 100000 in
set_option maxHeartbeats 4000000 in
theorem mx_otherHalf (l : Launch) (k : kSx) (op ac ea : Int32) (v1 : Int32) (v2 : Int32) (hac : vp_in ac 4096) : xMet l yx_otherHalf cx_otherHalf 3 (some .int) 0 [.int v1, .int v2] k op ac ea (some (.int (fx_otherHalf k op ac ea v1 v2))) k op ac ea :=
  xMet.ofi (by decide) rfl (fun _ => Nat.le_of_ble_eq_true rfl) (fun D cA h0 q p env s m args below meth c ls Q E hC hl hret => wx_otherHalf_0 E hC (lv_sub hl [0, 1, 2] rfl) hac hret)
theorem gkx_otherHalf : xYw R_x 238 yx_otherHalf cx_otherHalf 3 (some .int) 2 := ⟨wc_x_otherHalf, wl_x_238, wi_x_otherHalf, ws_x_otherHalf, wn_x, ⟨by decide, by decide, by decide +kernel⟩, by decide⟩
theorem kx_otherHalf {p : Program} {l : Launch} {env : Env} {s : State} {m : MethodId} {args : Array Value} {below : List Frame} {meth : Method} {c : Code} {H : Heap} {locs : List Loc} {Q : State → Prop} {cc : ByteArray} {pc nL d : Nat} {ls : Array Slot} {rest : List Value} {D : va_G} {cA : ClassId} {h0 q : Nat} {k : kSx} {op ac ea : Int32} {v1 : Int32} {v2 : Int32} (E : xE p s m args c cc nL D cA h0 q) (hls : ls.size = nL) (hC : xC D cA h0 q s.heap k op ac ea H locs) (hac : vp_in ac 4096) (hd : 0 + 1 ≤ d) (hr : (rest.map fun v => v.category).sum ≤ 8) (hdg : decode cc pc = .ok (.invokevirtual 238, 3)) (kk : ∀ (H1 : Heap) (locs1 : List Loc), xC D cA h0 q s.heap k op ac ea H1 locs1 → W p l env (rmD d) s m args below meth c H1 locs1 0 0 Q (F0 m (pc + 3) ls (.int (fx_otherHalf k op ac ea v1 v2) :: rest))) : W p l env (rmD d) s m args below meth c H locs 0 0 Q (F0 m pc ls (.int v2 :: .int v1 :: .ref h0 :: rest)) :=
  xcall (av := [.int v1, .int v2]) E (mx_otherHalf l k op ac ea v1 v2 hac) gkx_otherHalf rfl hls hC hd hr hdg kk
/-! TenMachine.put (IJ)I -/
def fx_put (k : kSx) (op ac ea : Int32) (v1 : Int32) (v2 : Int64) : Int32 × kSx :=
  if (fx_isThere v1) = 0 then
    ((-1 : Int32), k)
  else
    ((0 : Int32), stx k v1 (fx_signed v2))
set_option maxRecDepth 100000 in
set_option maxHeartbeats 4000000 in
theorem wx_put_0 {k : kSx} {op : Int32} {ac : Int32} {ea : Int32} {v1 : Int32} {v2 : Int64} {H : Heap} {locs : List Loc} {ls : Array Slot} (E : xE p s m args c cx_put 4 D cA h0 q) (hC : xC D cA h0 q s.heap k op ac ea H locs) (hl : lv_has ls 4 [(0, .ref h0), (1, .int v1), (2, .long v2)]) (hret : xwi p l env (rmD 1) s m args below meth c cx_put D cA h0 q .int op ac ea Q (fx_put k op ac ea v1 v2)) : W p l env (rmD 1) s m args below meth c H locs 0 0 Q (F0 m 0 ls []) := by
  have hx := E.1.1; have hb := E.1.2.1
  unfold fx_put at hret
  refine lv_iload_n hx hb dx_put_0 rfl (lv_at hl 1 rfl) ?_
  refine kx_isThere_in_x E.1 hl.1 (by decide) (Nat.le_of_ble_eq_true rfl) dx_put_1 ?_
  refine lv_if_ne (tgt := 9) hx hb dx_put_4 (by decide) (fun h1 => ?_) (fun h1 => ?_)
  · rw [if_neg h1] at hret
    refine lv_aload_n hx hb dx_put_9 rfl (lv_at hl 0 rfl) ?_
    refine xg_word E hC dx_put_10 ?_
    refine lv_iload_n hx hb dx_put_13 rfl (lv_at hl 1 rfl) ?_
    refine lv_lload_n hx hb dx_put_14 rfl (lv_at hl 2 rfl) ?_
    refine kx_signed_in_x E.1 hl.1 (by decide) (Nat.le_of_ble_eq_true rfl) dx_put_15 ?_
    refine xst E hC (vin_there h1) dx_put_18 (fun H locs hC => ?_)
    refine lv_iconst (v := (0 : Int32)) hx hb dx_put_19 (by decide) ?_
    exact (xwi_out hret) _ _ _ _ dx_put_20 hC  (nw_i _)
  · rw [if_pos h1] at hret
    refine lv_iconst (v := (-1 : Int32)) hx hb dx_put_7 (by decide) ?_
    exact (xwi_out hret) _ _ _ _ dx_put_8 hC  (nw_i _)
set_option maxRecDepth 100000 in
set_option maxHeartbeats 4000000 in
theorem mx_put (l : Launch) (k : kSx) (op ac ea : Int32) (v1 : Int32) (v2 : Int64) : xMet l yx_put cx_put 4 (some .int) 1 [.int v1, .long v2] k op ac ea (some (.int (fx_put k op ac ea v1 v2).1)) (fx_put k op ac ea v1 v2).2 op ac ea :=
  xMet.ofi (by decide) rfl (fun _ => Nat.le_of_ble_eq_true rfl) (fun D cA h0 q p env s m args below meth c ls Q E hC hl hret => wx_put_0 E hC (lv_sub hl [0, 1, 2] rfl) hret)
/-! TenMachine.get (I)J -/
def fx_get (k : kSx) (op ac ea : Int32) (v1 : Int32) : Int64 :=
  if (fx_isThere v1) = 0 then
    (1099511627776 : Int64)
  else
    (ldx k v1)
set_option maxRecDepth 100000 in
set_option maxHeartbeats 4000000 in
theorem wx_get_0 {k : kSx} {op : Int32} {ac : Int32} {ea : Int32} {v1 : Int32} {H : Heap} {locs : List Loc} {ls : Array Slot} (E : xE p s m args c cx_get 2 D cA h0 q) (hC : xC D cA h0 q s.heap k op ac ea H locs) (hl : lv_has ls 2 [(0, .ref h0), (1, .int v1)]) (hret : xrl p l env (rmD 1) s m args below meth c cx_get D cA h0 q .long k op ac ea Q (fx_get k op ac ea v1)) : W p l env (rmD 1) s m args below meth c H locs 0 0 Q (F0 m 0 ls []) := by
  have hx := E.1.1; have hb := E.1.2.1
  unfold fx_get at hret
  refine lv_iload_n hx hb dx_get_0 rfl (lv_at hl 1 rfl) ?_
  refine kx_isThere_in_x E.1 hl.1 (by decide) (Nat.le_of_ble_eq_true rfl) dx_get_1 ?_
  refine lv_if_eq (tgt := 16) hx hb dx_get_4 (by decide) (fun h1 => ?_) (fun h1 => ?_)
  · rw [if_pos h1] at hret
    refine lv_ldc2 hx hb E.1.2.2.2.1 (E.1.2.2.2.2 _ ct_x_21) dx_get_16 ?_
    exact hret _ _ _ _ dx_get_19 hC  (nw_l _)
  · rw [if_neg h1] at hret
    refine lv_aload_n hx hb dx_get_7 rfl (lv_at hl 0 rfl) ?_
    refine xg_word E hC dx_get_8 ?_
    refine lv_iload_n hx hb dx_get_11 rfl (lv_at hl 1 rfl) ?_
    refine xld E hC (vin_there h1) dx_get_12 ?_
    refine lv_goto (tgt := 19) hx hb dx_get_13 (by decide) ?_
    exact hret _ _ _ _ dx_get_19 hC  (nw_l _)
set_option maxRecDepth 100000 in
set_option maxHeartbeats 4000000 in
theorem mx_get (l : Launch) (k : kSx) (op ac ea : Int32) (v1 : Int32) : xMet l yx_get cx_get 2 (some .long) 1 [.int v1] k op ac ea (some (.long (fx_get k op ac ea v1))) k op ac ea :=
  xMet.ofl (by decide) rfl (fun _ => Nat.le_of_ble_eq_true rfl) (fun D cA h0 q p env s m args below meth c ls Q E hC hl hret => wx_get_0 E hC (lv_sub hl [0, 1] rfl) hret)
/-! TenMachine.address (J)I -/
def fx_address_5 : Nat → kSx → Int32 → Int32 → Int32 → Int64 → Int32 → Int32
  | 0, k, op, ac, ea, v3, v5 => 0
  | n + 1, k, op, ac, ea, v3, v5 =>
    if (8 : Int32) < v5 then
      (-1 : Int32)
    else
      if (((v3 >>> ((18 : Int32).toInt64 &&& 63)).toInt32) &&& (15 : Int32)) = 0 then
        if (v3 &&& (4194304 : Int64)) = (0 : Int64) then
          (fx_right v3)
        else
          if (fx_isThere (fx_right v3)) = 0 then
            (-1 : Int32)
          else
            fx_address_5 n k op ac ea (ldx k (fx_right v3)) (v5 + 1)
      else
        if (v3 &&& (4194304 : Int64)) = (0 : Int64) then
          (fx_right (v3 + (ldx k (((v3 >>> ((18 : Int32).toInt64 &&& 63)).toInt32) &&& (15 : Int32)))))
        else
          if (fx_isThere (fx_right (v3 + (ldx k (((v3 >>> ((18 : Int32).toInt64 &&& 63)).toInt32) &&& (15 : Int32)))))) = 0 then
            (-1 : Int32)
          else
            fx_address_5 n k op ac ea (ldx k (fx_right (v3 + (ldx k (((v3 >>> ((18 : Int32).toInt64 &&& 63)).toInt32) &&& (15 : Int32)))))) (v5 + 1)
set_option maxRecDepth 100000 in
set_option maxHeartbeats 4000000 in
theorem wx_address_5 (E : xE p s m args c cx_address 8 D cA h0 q) : ∀ (n : Nat) (k : kSx) (op : Int32) (ac : Int32) (ea : Int32) (v3 : Int64) (v5 : Int32) (H : Heap) (locs : List Loc) (ls : Array Slot), xC D cA h0 q s.heap k op ac ea H locs → lv_has ls 8 [(0, .ref h0), (3, .long v3), (5, .int v5)] → (9 - v5.toInt).toNat < n → xri p l env (rmD 1) s m args below meth c cx_address D cA h0 q .int k op ac ea Q (fx_address_5 n k op ac ea v3 v5) → W p l env (rmD 1) s m args below meth c H locs 0 0 Q (F0 m 5 ls []) := by
  have hx := E.1.1; have hb := E.1.2.1
  intro n
  induction n with
  | zero => intro k op ac ea v3 v5 H locs ls hC hl  hmu hret; exact absurd hmu (Nat.not_lt_zero _)
  | succ n ih =>
    intro k op ac ea v3 v5 H locs ls hC hl  hmu hret
    rw [fx_address_5] at hret
    refine lv_iload hx hb dx_address_5 (lv_at hl 2 rfl) ?_
    refine lv_bipush (v := (8 : Int32)) hx hb dx_address_7 (by decide) ?_
    refine lv_icmp_gt (tgt := 82) hx hb dx_address_9 (by decide) (fun h1 => ?_) (fun h1 => ?_)
    · rw [if_pos h1] at hret
      refine lv_iconst (v := (-1 : Int32)) hx hb dx_address_82 (by decide) ?_
      exact hret _ _ _ _ dx_address_83 hC  (nw_i _)
    · rw [if_neg h1] at hret
      refine lv_lload_n hx hb dx_address_12 rfl (lv_at hl 1 rfl) ?_
      refine lv_bipush (v := (18 : Int32)) hx hb dx_address_13 (by decide) ?_
      refine lv_lshr hx hb dx_address_15 rfl ?_
      refine lv_l2i hx hb dx_address_16 rfl ?_
      refine lv_bipush (v := (15 : Int32)) hx hb dx_address_17 (by decide) ?_
      refine lv_iand hx hb dx_address_19 ?_
      refine lv_istore (lv' := [(6, .int (((v3 >>> ((18 : Int32).toInt64 &&& 63)).toInt32) &&& (15 : Int32))), (0, .ref h0), (3, .long v3), (5, .int v5)]) hx hb dx_address_20 hl (by decide) rfl (fun ls hl => ?_)
      refine lv_iload hx hb dx_address_22 (lv_at hl 0 rfl) ?_
      refine lv_if_ne (tgt := 31) hx hb dx_address_24 (by decide) (fun h2 => ?_) (fun h2 => ?_)
      · rw [if_neg h2] at hret
        refine lv_lload_n hx hb dx_address_31 rfl (lv_at hl 2 rfl) ?_
        refine lv_aload_n hx hb dx_address_32 rfl (lv_at hl 1 rfl) ?_
        refine xg_word E hC dx_address_33 ?_
        refine lv_iload hx hb dx_address_36 (lv_at hl 0 rfl) ?_
        refine xld E hC (vin15 _) dx_address_38 ?_
        refine lv_ladd hx hb dx_address_39 ?_
        refine kx_right_in_x E.1 hl.1 (by decide) (Nat.le_of_ble_eq_true rfl) dx_address_40 ?_
        refine lv_istore (lv' := [(7, .int (fx_right (v3 + (ldx k (((v3 >>> ((18 : Int32).toInt64 &&& 63)).toInt32) &&& (15 : Int32)))))), (6, .int (((v3 >>> ((18 : Int32).toInt64 &&& 63)).toInt32) &&& (15 : Int32))), (0, .ref h0), (3, .long v3), (5, .int v5)]) hx hb dx_address_43 hl (by decide) rfl (fun ls hl => ?_)
        refine lv_lload_n hx hb dx_address_45 rfl (lv_at hl 3 rfl) ?_
        refine lv_ldc2 hx hb E.1.2.2.2.1 (E.1.2.2.2.2 _ ct_x_60) dx_address_46 ?_
        refine lv_land hx hb dx_address_49 ?_
        refine lv_lconst (v := (0 : Int64)) hx hb dx_address_50 (by decide) ?_
        refine tt_lcmp_ne (tgt := 58) hx hb dx_address_51 dx_address_52 (by decide) (fun h3 => ?_) (fun h3 => ?_)
        · rw [if_neg h3] at hret
          refine lv_iload hx hb dx_address_58 (lv_at hl 0 rfl) ?_
          refine kx_isThere_in_x E.1 hl.1 (by decide) (Nat.le_of_ble_eq_true rfl) dx_address_60 ?_
          refine lv_if_ne (tgt := 68) hx hb dx_address_63 (by decide) (fun h4 => ?_) (fun h4 => ?_)
          · rw [if_neg h4] at hret
            refine lv_aload_n hx hb dx_address_68 rfl (lv_at hl 2 rfl) ?_
            refine xg_word E hC dx_address_69 ?_
            refine lv_iload hx hb dx_address_72 (lv_at hl 0 rfl) ?_
            refine xld E hC (vin_there h4) dx_address_74 ?_
            refine lv_lstore_n (lv' := [(3, .long (ldx k (fx_right (v3 + (ldx k (((v3 >>> ((18 : Int32).toInt64 &&& 63)).toInt32) &&& (15 : Int32))))))), (7, .int (fx_right (v3 + (ldx k (((v3 >>> ((18 : Int32).toInt64 &&& 63)).toInt32) &&& (15 : Int32)))))), (6, .int (((v3 >>> ((18 : Int32).toInt64 &&& 63)).toInt32) &&& (15 : Int32))), (0, .ref h0), (5, .int v5)]) hx hb dx_address_75 rfl hl (by decide) rfl (fun ls hl => ?_)
            refine lv_iinc (v := (v5 + 1)) (lv' := [(5, .int (v5 + 1)), (3, .long (ldx k (fx_right (v3 + (ldx k (((v3 >>> ((18 : Int32).toInt64 &&& 63)).toInt32) &&& (15 : Int32))))))), (7, .int (fx_right (v3 + (ldx k (((v3 >>> ((18 : Int32).toInt64 &&& 63)).toInt32) &&& (15 : Int32)))))), (6, .int (((v3 >>> ((18 : Int32).toInt64 &&& 63)).toInt32) &&& (15 : Int32))), (0, .ref h0)]) hx hb dx_address_76 hl (k := 4) rfl (by rfl) (by decide) rfl (fun ls hl => ?_)
            refine lv_goto (tgt := 5) hx hb dx_address_79 (by decide) ?_
            exact ih _ _ _ _ _ _ _ _ _ hC (lv_sub hl [4, 1, 0] rfl) (mu_up9 (by assumption) hmu) hret
          · rw [if_pos h4] at hret
            refine lv_iconst (v := (-1 : Int32)) hx hb dx_address_66 (by decide) ?_
            exact hret _ _ _ _ dx_address_67 hC  (nw_i _)
        · rw [if_pos h3] at hret
          refine lv_iload hx hb dx_address_55 (lv_at hl 0 rfl) ?_
          exact hret _ _ _ _ dx_address_57 hC  (nw_i _)
      · rw [if_pos h2] at hret
        refine lv_lload_n hx hb dx_address_27 rfl (lv_at hl 2 rfl) ?_
        refine lv_goto (tgt := 40) hx hb dx_address_28 (by decide) ?_
        refine kx_right_in_x E.1 hl.1 (by decide) (Nat.le_of_ble_eq_true rfl) dx_address_40 ?_
        refine lv_istore (lv' := [(7, .int (fx_right v3)), (6, .int (((v3 >>> ((18 : Int32).toInt64 &&& 63)).toInt32) &&& (15 : Int32))), (0, .ref h0), (3, .long v3), (5, .int v5)]) hx hb dx_address_43 hl (by decide) rfl (fun ls hl => ?_)
        refine lv_lload_n hx hb dx_address_45 rfl (lv_at hl 3 rfl) ?_
        refine lv_ldc2 hx hb E.1.2.2.2.1 (E.1.2.2.2.2 _ ct_x_60) dx_address_46 ?_
        refine lv_land hx hb dx_address_49 ?_
        refine lv_lconst (v := (0 : Int64)) hx hb dx_address_50 (by decide) ?_
        refine tt_lcmp_ne (tgt := 58) hx hb dx_address_51 dx_address_52 (by decide) (fun h5 => ?_) (fun h5 => ?_)
        · rw [if_neg h5] at hret
          refine lv_iload hx hb dx_address_58 (lv_at hl 0 rfl) ?_
          refine kx_isThere_in_x E.1 hl.1 (by decide) (Nat.le_of_ble_eq_true rfl) dx_address_60 ?_
          refine lv_if_ne (tgt := 68) hx hb dx_address_63 (by decide) (fun h6 => ?_) (fun h6 => ?_)
          · rw [if_neg h6] at hret
            refine lv_aload_n hx hb dx_address_68 rfl (lv_at hl 2 rfl) ?_
            refine xg_word E hC dx_address_69 ?_
            refine lv_iload hx hb dx_address_72 (lv_at hl 0 rfl) ?_
            refine xld E hC (vin_there h6) dx_address_74 ?_
            refine lv_lstore_n (lv' := [(3, .long (ldx k (fx_right v3))), (7, .int (fx_right v3)), (6, .int (((v3 >>> ((18 : Int32).toInt64 &&& 63)).toInt32) &&& (15 : Int32))), (0, .ref h0), (5, .int v5)]) hx hb dx_address_75 rfl hl (by decide) rfl (fun ls hl => ?_)
            refine lv_iinc (v := (v5 + 1)) (lv' := [(5, .int (v5 + 1)), (3, .long (ldx k (fx_right v3))), (7, .int (fx_right v3)), (6, .int (((v3 >>> ((18 : Int32).toInt64 &&& 63)).toInt32) &&& (15 : Int32))), (0, .ref h0)]) hx hb dx_address_76 hl (k := 4) rfl (by rfl) (by decide) rfl (fun ls hl => ?_)
            refine lv_goto (tgt := 5) hx hb dx_address_79 (by decide) ?_
            exact ih _ _ _ _ _ _ _ _ _ hC (lv_sub hl [4, 1, 0] rfl) (mu_up9 (by assumption) hmu) hret
          · rw [if_pos h6] at hret
            refine lv_iconst (v := (-1 : Int32)) hx hb dx_address_66 (by decide) ?_
            exact hret _ _ _ _ dx_address_67 hC  (nw_i _)
        · rw [if_pos h5] at hret
          refine lv_iload hx hb dx_address_55 (lv_at hl 0 rfl) ?_
          exact hret _ _ _ _ dx_address_57 hC  (nw_i _)
def fx_address (k : kSx) (op ac ea : Int32) (v1 : Int64) : Int32 :=
  fx_address_5 10 k op ac ea v1 (0 : Int32)
set_option maxRecDepth 100000 in
set_option maxHeartbeats 4000000 in
theorem wx_address_0 {k : kSx} {op : Int32} {ac : Int32} {ea : Int32} {v1 : Int64} {H : Heap} {locs : List Loc} {ls : Array Slot} (E : xE p s m args c cx_address 8 D cA h0 q) (hC : xC D cA h0 q s.heap k op ac ea H locs) (hl : lv_has ls 8 [(0, .ref h0), (1, .long v1)]) (hret : xri p l env (rmD 1) s m args below meth c cx_address D cA h0 q .int k op ac ea Q (fx_address k op ac ea v1)) : W p l env (rmD 1) s m args below meth c H locs 0 0 Q (F0 m 0 ls []) := by
  have hx := E.1.1; have hb := E.1.2.1
  unfold fx_address at hret
  refine lv_lload_n hx hb dx_address_0 rfl (lv_at hl 1 rfl) ?_
  refine lv_lstore_n (lv' := [(3, .long v1), (0, .ref h0), (1, .long v1)]) hx hb dx_address_1 rfl hl (by decide) rfl (fun ls hl => ?_)
  refine lv_iconst (v := (0 : Int32)) hx hb dx_address_2 (by decide) ?_
  refine lv_istore (lv' := [(5, .int (0 : Int32)), (3, .long v1), (0, .ref h0), (1, .long v1)]) hx hb dx_address_3 hl (by decide) rfl (fun ls hl => ?_)
  exact wx_address_5 E 10 _ _ _ _ _ _ _ _ _ hC (lv_sub hl [2, 1, 0] rfl) (by decide) hret
set_option maxRecDepth 100000 in
set_option maxHeartbeats 4000000 in
theorem mx_address (l : Launch) (k : kSx) (op ac ea : Int32) (v1 : Int64) : xMet l yx_address cx_address 8 (some .int) 1 [.long v1] k op ac ea (some (.int (fx_address k op ac ea v1))) k op ac ea :=
  xMet.ofi (by decide) rfl (fun _ => Nat.le_of_ble_eq_true rfl) (fun D cA h0 q p env s m args below meth c ls Q E hC hl hret => wx_address_0 E hC (lv_sub hl [0, 1] rfl) hret)
theorem gkx_address : xYw R_x 50 yx_address cx_address 8 (some .int) 1 := ⟨wc_x_address, wl_x_50, wi_x_address, ws_x_address, wn_x, ⟨by decide, by decide, by decide +kernel⟩, by decide⟩
theorem kx_address {p : Program} {l : Launch} {env : Env} {s : State} {m : MethodId} {args : Array Value} {below : List Frame} {meth : Method} {c : Code} {H : Heap} {locs : List Loc} {Q : State → Prop} {cc : ByteArray} {pc nL d : Nat} {ls : Array Slot} {rest : List Value} {D : va_G} {cA : ClassId} {h0 q : Nat} {k : kSx} {op ac ea : Int32} {v1 : Int64} (E : xE p s m args c cc nL D cA h0 q) (hls : ls.size = nL) (hC : xC D cA h0 q s.heap k op ac ea H locs) (hd : 1 + 1 ≤ d) (hr : (rest.map fun v => v.category).sum ≤ 8) (hdg : decode cc pc = .ok (.invokevirtual 50, 3)) (kk : ∀ (H1 : Heap) (locs1 : List Loc), xC D cA h0 q s.heap k op ac ea H1 locs1 → W p l env (rmD d) s m args below meth c H1 locs1 0 0 Q (F0 m (pc + 3) ls (.int (fx_address k op ac ea v1) :: rest))) : W p l env (rmD d) s m args below meth c H locs 0 0 Q (F0 m pc ls (.long v1 :: .ref h0 :: rest)) :=
  xcall (av := [.long v1]) E (mx_address l k op ac ea v1) gkx_address rfl hls hC hd hr hdg kk
end TTV
