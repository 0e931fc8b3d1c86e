section TTV
variable {p : Program} {l : Launch} {env : Env} {s : State} {m : MethodId} {args : Array Value} {below : List Frame} {meth : Method} {c : Code} {Q : State → Prop} {D : va_G} {cA : ClassId} {h0 q : Nat}
/-! TenMachine.lacksOperand ()Z -/
def fx_lacksOperand (k : kSx) (op ac ea : Int32)  : Int32 :=
  if (fx_mode k op ac ea) = (1 : Int32) then
    (0 : Int32)
  else
    if (fx_isThere ea) = 0 then
      (1 : Int32)
    else
      (0 : Int32)
set_option maxRecDepth 100000 in
set_option maxHeartbeats 4000000 in
theorem wx_lacksOperand_0 {k : kSx} {op : Int32} {ac : Int32} {ea : Int32} {H : Heap} {locs : List Loc} {ls : Array Slot} (E : xE p s m args c cx_lacksOperand 1 D cA h0 q) (hC : xC D cA h0 q s.heap k op ac ea H locs) (hl : lv_has ls 1 [(0, .ref h0)]) (hac : vp_in ac 4096) (hret : xri p l env (rmD 1) s m args below meth c cx_lacksOperand D cA h0 q .boolean k op ac ea Q (fx_lacksOperand k op ac ea)) : W p l env (rmD 1) s m args below meth c H locs 0 0 Q (F0 m 0 ls []) := by
  have hx := E.1.1; have hb := E.1.2.1
  unfold fx_lacksOperand at hret
  refine lv_aload_n hx hb dx_lacksOperand_0 rfl (lv_at hl 0 rfl) ?_
  refine kx_mode E hl.1 hC (hac) (by decide) (Nat.le_of_ble_eq_true rfl) dx_lacksOperand_1 (fun H locs hC => ?_)
  refine lv_iconst (v := (1 : Int32)) hx hb dx_lacksOperand_4 (by decide) ?_
  refine lv_icmp_eq (tgt := 22) hx hb dx_lacksOperand_5 (by decide) (fun h1 => ?_) (fun h1 => ?_)
  · rw [if_pos h1] at hret
    refine lv_iconst (v := (0 : Int32)) hx hb dx_lacksOperand_22 (by decide) ?_
    exact hret _ _ _ _ dx_lacksOperand_23 hC  (narrow_b0)
  · rw [if_neg h1] at hret
    refine lv_aload_n hx hb dx_lacksOperand_8 rfl (lv_at hl 0 rfl) ?_
    refine xg_e E hC dx_lacksOperand_9 ?_
    refine kx_isThere_in_x E.1 hl.1 (by decide) (Nat.le_of_ble_eq_true rfl) dx_lacksOperand_12 ?_
    refine lv_if_ne (tgt := 22) hx hb dx_lacksOperand_15 (by decide) (fun h2 => ?_) (fun h2 => ?_)
    · rw [if_neg h2] at hret
      refine lv_iconst (v := (0 : Int32)) hx hb dx_lacksOperand_22 (by decide) ?_
      exact hret _ _ _ _ dx_lacksOperand_23 hC  (narrow_b0)
    · rw [if_pos h2] at hret
      refine lv_iconst (v := (1 : Int32)) hx hb dx_lacksOperand_18 (by decide) ?_
      refine lv_goto (tgt := 23) hx hb dx_lacksOperand_19 (by decide) ?_
      exact hret _ _ _ _ dx_lacksOperand_23 hC  (narrow_b1)
set_option maxRecDepth 100000 in
set_option maxHeartbeats 4000000 in
theorem mx_lacksOperand (l : Launch) (k : kSx) (op ac ea : Int32) (hac : vp_in ac 4096) : xMet l yx_lacksOperand cx_lacksOperand 1 (some .boolean) 1 [] k op ac ea (some (.int (fx_lacksOperand k op ac ea))) k op ac ea :=
  xMet.ofi (by decide) rfl (fun _ => Nat.le_of_ble_eq_true rfl) (fun D cA h0 q p env s m args below meth c ls Q E hC hl hret => wx_lacksOperand_0 E hC (lv_sub hl [0] rfl) hac hret)
theorem gkx_lacksOperand : xYw R_x 120 yx_lacksOperand cx_lacksOperand 1 (some .boolean) 0 := ⟨wc_x_lacksOperand, wl_x_120, wi_x_lacksOperand, ws_x_lacksOperand, wn_x, ⟨by decide, by decide, by decide +kernel⟩, by decide⟩
theorem kx_lacksOperand {p : Program} {l : Launch} {env : Env} {s : State} {m : MethodId} {args : Array Value} {below : List Frame} {meth : Method} {c : Code} {H : Heap} {locs : List Loc} {Q : State → Prop} {cc : ByteArray} {pc nL d : Nat} {ls : Array Slot} {rest : List Value} {D : va_G} {cA : ClassId} {h0 q : Nat} {k : kSx} {op ac ea : Int32} (E : xE p s m args c cc nL D cA h0 q) (hls : ls.size = nL) (hC : xC D cA h0 q s.heap k op ac ea H locs) (hac : vp_in ac 4096) (hd : 1 + 1 ≤ d) (hr : (rest.map fun v => v.category).sum ≤ 8) (hdg : decode cc pc = .ok (.invokevirtual 120, 3)) (kk : ∀ (H1 : Heap) (locs1 : List Loc), xC D cA h0 q s.heap k op ac ea H1 locs1 → W p l env (rmD d) s m args below meth c H1 locs1 0 0 Q (F0 m (pc + 3) ls (.int (fx_lacksOperand k op ac ea) :: rest))) : W p l env (rmD d) s m args below meth c H locs 0 0 Q (F0 m pc ls (.ref h0 :: rest)) :=
  xcall (av := []) E (mx_lacksOperand l k op ac ea  hac) gkx_lacksOperand rfl hls hC hd hr hdg kk
theorem lacks_he {k : kSx} {op ac ea : Int32} (h : fx_lacksOperand k op ac ea = 0) : ¬ (op &&& (3 : Int32)) = 1 → vp_in ea 4096 := by
  intro h1
  unfold fx_lacksOperand at h
  rw [if_neg (show ¬ fx_mode k op ac ea = (1 : Int32) from h1)] at h
  by_cases h2 : fx_isThere ea = 0
  · rw [if_pos h2] at h; exact absurd h (by decide)
  · exact vin_there h2
/-! TenMachine.operand ()J -/
def fx_operand (k : kSx) (op ac ea : Int32)  : Int64 :=
  if (fx_mode k op ac ea) = (1 : Int32) then
    ea.toInt64
  else
    (ldx k ea)
set_option maxRecDepth 100000 in
set_option maxHeartbeats 4000000 in
theorem wx_operand_0 {k : kSx} {op : Int32} {ac : Int32} {ea : Int32} {H : Heap} {locs : List Loc} {ls : Array Slot} (E : xE p s m args c cx_operand 1 D cA h0 q) (hC : xC D cA h0 q s.heap k op ac ea H locs) (hl : lv_has ls 1 [(0, .ref h0)]) (hac : vp_in ac 4096) (he : ¬ (op &&& (3 : Int32)) = 1 → vp_in ea 4096) (hret : xrl p l env (rmD 1) s m args below meth c cx_operand D cA h0 q .long k op ac ea Q (fx_operand k op ac ea)) : W p l env (rmD 1) s m args below meth c H locs 0 0 Q (F0 m 0 ls []) := by
  have hx := E.1.1; have hb := E.1.2.1
  unfold fx_operand at hret
  refine lv_aload_n hx hb dx_operand_0 rfl (lv_at hl 0 rfl) ?_
  refine kx_mode E hl.1 hC (hac) (by decide) (Nat.le_of_ble_eq_true rfl) dx_operand_1 (fun H locs hC => ?_)
  refine lv_iconst (v := (1 : Int32)) hx hb dx_operand_4 (by decide) ?_
  refine lv_icmp_ne (tgt := 16) hx hb dx_operand_5 (by decide) (fun h1 => ?_) (fun h1 => ?_)
  · rw [if_neg h1] at hret
    refine lv_aload_n hx hb dx_operand_16 rfl (lv_at hl 0 rfl) ?_
    refine xg_word E hC dx_operand_17 ?_
    refine lv_aload_n hx hb dx_operand_20 rfl (lv_at hl 0 rfl) ?_
    refine xg_e E hC dx_operand_21 ?_
    refine xld E hC (he h1) dx_operand_24 ?_
    exact hret _ _ _ _ dx_operand_25 hC  (nw_l _)
  · rw [if_pos h1] at hret
    refine lv_aload_n hx hb dx_operand_8 rfl (lv_at hl 0 rfl) ?_
    refine xg_e E hC dx_operand_9 ?_
    refine lv_i2l hx hb dx_operand_12 rfl ?_
    refine lv_goto (tgt := 25) hx hb dx_operand_13 (by decide) ?_
    exact hret _ _ _ _ dx_operand_25 hC  (nw_l _)
set_option maxRecDepth 100000 in
set_option maxHeartbeats 4000000 in
theorem mx_operand (l : Launch) (k : kSx) (op ac ea : Int32) (hac : vp_in ac 4096) (he : ¬ (op &&& (3 : Int32)) = 1 → vp_in ea 4096) : xMet l yx_operand cx_operand 1 (some .long) 1 [] k op ac ea (some (.long (fx_operand k op ac ea))) k op ac ea :=
  xMet.ofl (by decide) rfl (fun _ => Nat.le_of_ble_eq_true rfl) (fun D cA h0 q p env s m args below meth c ls Q E hC hl hret => wx_operand_0 E hC (lv_sub hl [0] rfl) hac he hret)
theorem gkx_operand : xYw R_x 124 yx_operand cx_operand 1 (some .long) 0 := ⟨wc_x_operand, wl_x_124, wi_x_operand, ws_x_operand, wn_x, ⟨by decide, by decide, by decide +kernel⟩, by decide⟩
theorem kx_operand {p : Program} {l : Launch} {env : Env} {s : State} {m : MethodId} {args : Array Value} {below : List Frame} {meth : Method} {c : Code} {H : Heap} {locs : List Loc} {Q : State → Prop} {cc : ByteArray} {pc nL d : Nat} {ls : Array Slot} {rest : List Value} {D : va_G} {cA : ClassId} {h0 q : Nat} {k : kSx} {op ac ea : Int32} (E : xE p s m args c cc nL D cA h0 q) (hls : ls.size = nL) (hC : xC D cA h0 q s.heap k op ac ea H locs) (hac : vp_in ac 4096) (he : ¬ (op &&& (3 : Int32)) = 1 → vp_in ea 4096) (hd : 1 + 1 ≤ d) (hr : (rest.map fun v => v.category).sum ≤ 8) (hdg : decode cc pc = .ok (.invokevirtual 124, 3)) (kk : ∀ (H1 : Heap) (locs1 : List Loc), xC D cA h0 q s.heap k op ac ea H1 locs1 → W p l env (rmD d) s m args below meth c H1 locs1 0 0 Q (F0 m (pc + 3) ls (.long (fx_operand k op ac ea) :: rest))) : W p l env (rmD d) s m args below meth c H locs 0 0 Q (F0 m pc ls (.ref h0 :: rest)) :=
  xcall (av := []) E (mx_operand l k op ac ea  hac he) gkx_operand rfl hls hC hd hr hdg kk
/-! TenMachine.storeBoth (J)I -/
def fx_storeBoth_18 (k : kSx) (op ac ea : Int32) (v1 : Int64) : Int32 × kSx :=
  if (fx_mode k op ac ea) = (2 : Int32) then
    ((0 : Int32), k)
  else
    ((0 : Int32), stx k ac v1)
set_option maxRecDepth 100000 in
set_option maxHeartbeats 4000000 in
theorem wx_storeBoth_18 {k : kSx} {op : Int32} {ac : Int32} {ea : Int32} {v1 : Int64} {H : Heap} {locs : List Loc} {ls : Array Slot} (E : xE p s m args c cx_storeBoth 3 D cA h0 q) (hC : xC D cA h0 q s.heap k op ac ea H locs) (hl : lv_has ls 3 [(0, .ref h0), (1, .long v1)]) (hac : vp_in ac 4096) (he : ¬ (op &&& (3 : Int32)) = 1 → vp_in ea 4096) (hret : xwi p l env (rmD 1) s m args below meth c cx_storeBoth D cA h0 q .int op ac ea Q (fx_storeBoth_18 k op ac ea v1)) : W p l env (rmD 1) s m args below meth c H locs 0 0 Q (F0 m 18 ls []) := by
  have hx := E.1.1; have hb := E.1.2.1
  unfold fx_storeBoth_18 at hret
  refine lv_aload_n hx hb dx_storeBoth_18 rfl (lv_at hl 0 rfl) ?_
  refine kx_mode E hl.1 hC (hac) (by decide) (Nat.le_of_ble_eq_true rfl) dx_storeBoth_19 (fun H locs hC => ?_)
  refine lv_iconst (v := (2 : Int32)) hx hb dx_storeBoth_22 (by decide) ?_
  refine lv_icmp_eq (tgt := 36) hx hb dx_storeBoth_23 (by decide) (fun h1 => ?_) (fun h1 => ?_)
  · rw [if_pos h1] at hret
    refine lv_iconst (v := (0 : Int32)) hx hb dx_storeBoth_36 (by decide) ?_
    exact (xwi_out hret) _ _ _ _ dx_storeBoth_37 hC  (nw_i _)
  · rw [if_neg h1] at hret
    refine lv_aload_n hx hb dx_storeBoth_26 rfl (lv_at hl 0 rfl) ?_
    refine xg_word E hC dx_storeBoth_27 ?_
    refine lv_aload_n hx hb dx_storeBoth_30 rfl (lv_at hl 0 rfl) ?_
    refine xg_ac E hC dx_storeBoth_31 ?_
    refine lv_lload_n hx hb dx_storeBoth_34 rfl (lv_at hl 1 rfl) ?_
    refine xst E hC (hac) dx_storeBoth_35 (fun H locs hC => ?_)
    refine lv_iconst (v := (0 : Int32)) hx hb dx_storeBoth_36 (by decide) ?_
    exact (xwi_out hret) _ _ _ _ dx_storeBoth_37 hC  (nw_i _)
def fx_storeBoth (k : kSx) (op ac ea : Int32) (v1 : Int64) : Int32 × kSx :=
  if (fx_mode k op ac ea) < (2 : Int32) then
    fx_storeBoth_18 k op ac ea v1
  else
    fx_storeBoth_18 (stx k ea v1) op ac ea v1
set_option maxRecDepth 100000 in
set_option maxHeartbeats 4000000 in
theorem wx_storeBoth_0 {k : kSx} {op : Int32} {ac : Int32} {ea : Int32} {v1 : Int64} {H : Heap} {locs : List Loc} {ls : Array Slot} (E : xE p s m args c cx_storeBoth 3 D cA h0 q) (hC : xC D cA h0 q s.heap k op ac ea H locs) (hl : lv_has ls 3 [(0, .ref h0), (1, .long v1)]) (hac : vp_in ac 4096) (he : ¬ (op &&& (3 : Int32)) = 1 → vp_in ea 4096) (hret : xwi p l env (rmD 1) s m args below meth c cx_storeBoth D cA h0 q .int op ac ea Q (fx_storeBoth k op ac ea v1)) : W p l env (rmD 1) s m args below meth c H locs 0 0 Q (F0 m 0 ls []) := by
  have hx := E.1.1; have hb := E.1.2.1
  unfold fx_storeBoth at hret
  refine lv_aload_n hx hb dx_storeBoth_0 rfl (lv_at hl 0 rfl) ?_
  refine kx_mode E hl.1 hC (hac) (by decide) (Nat.le_of_ble_eq_true rfl) dx_storeBoth_1 (fun H locs hC => ?_)
  refine lv_iconst (v := (2 : Int32)) hx hb dx_storeBoth_4 (by decide) ?_
  refine lv_icmp_lt (tgt := 18) hx hb dx_storeBoth_5 (by decide) (fun h1 => ?_) (fun h1 => ?_)
  · rw [if_pos h1] at hret
    exact wx_storeBoth_18 E hC (lv_sub hl [0, 1] rfl) (hac) (he) hret
  · rw [if_neg h1] at hret
    refine lv_aload_n hx hb dx_storeBoth_8 rfl (lv_at hl 0 rfl) ?_
    refine xg_word E hC dx_storeBoth_9 ?_
    refine lv_aload_n hx hb dx_storeBoth_12 rfl (lv_at hl 0 rfl) ?_
    refine xg_e E hC dx_storeBoth_13 ?_
    refine lv_lload_n hx hb dx_storeBoth_16 rfl (lv_at hl 1 rfl) ?_
    refine xst E hC (he (ne1_nlt2 h1)) dx_storeBoth_17 (fun H locs hC => ?_)
    exact wx_storeBoth_18 E hC (lv_sub hl [0, 1] rfl) (hac) (he) hret
set_option maxRecDepth 100000 in
set_option maxHeartbeats 4000000 in
theorem mx_storeBoth (l : Launch) (k : kSx) (op ac ea : Int32) (v1 : Int64) (hac : vp_in ac 4096) (he : ¬ (op &&& (3 : Int32)) = 1 → vp_in ea 4096) : xMet l yx_storeBoth cx_storeBoth 3 (some .int) 1 [.long v1] k op ac ea (some (.int (fx_storeBoth k op ac ea v1).1)) (fx_storeBoth k op ac ea v1).2 op ac ea :=
  xMet.ofi (by decide) rfl (fun _ => Nat.le_of_ble_eq_true rfl) (fun D cA h0 q p env s m args below meth c ls Q E hC hl hret => wx_storeBoth_0 E hC (lv_sub hl [0, 1] rfl) hac he hret)
theorem gkx_storeBoth : xYw R_x 137 yx_storeBoth cx_storeBoth 3 (some .int) 1 := ⟨wc_x_storeBoth, wl_x_137, wi_x_storeBoth, ws_x_storeBoth, wn_x, ⟨by decide, by decide, by decide +kernel⟩, by decide⟩
theorem kx_storeBoth {p : Program} {l : Launch} {env : Env} {s : State} {m : MethodId} {args : Array Value} {below : List Frame} {meth : Method} {c : Code} {H : Heap} {locs : List Loc} {Q : State → Prop} {cc : ByteArray} {pc nL d : Nat} {ls : Array Slot} {rest : List Value} {D : va_G} {cA : ClassId} {h0 q : Nat} {k : kSx} {op ac ea : Int32} {v1 : Int64} (E : xE p s m args c cc nL D cA h0 q) (hls : ls.size = nL) (hC : xC D cA h0 q s.heap k op ac ea H locs) (hac : vp_in ac 4096) (he : ¬ (op &&& (3 : Int32)) = 1 → vp_in ea 4096) (hd : 1 + 1 ≤ d) (hr : (rest.map fun v => v.category).sum ≤ 8) (hdg : decode cc pc = .ok (.invokevirtual 137, 3)) (kk : ∀ (H1 : Heap) (locs1 : List Loc), xC D cA h0 q s.heap (fx_storeBoth k op ac ea v1).2 op ac ea H1 locs1 → W p l env (rmD d) s m args below meth c H1 locs1 0 0 Q (F0 m (pc + 3) ls (.int (fx_storeBoth k op ac ea v1).1 :: rest))) : W p l env (rmD d) s m args below meth c H locs 0 0 Q (F0 m pc ls (.long v1 :: .ref h0 :: rest)) :=
  xcall (av := [.long v1]) E (mx_storeBoth l k op ac ea v1 hac he) gkx_storeBoth rfl hls hC hd hr hdg kk
/-! TenMachine.storeSelf (J)I -/
def fx_storeSelf_41 (k : kSx) (op ac ea : Int32) (v1 : Int64) : Int32 × kSx :=
  ((0 : Int32), stx k ac v1)
set_option maxRecDepth 100000 in
set_option maxHeartbeats 4000000 in
theorem wx_storeSelf_41 {k : kSx} {op : Int32} {ac : Int32} {ea : Int32} {v1 : Int64} {H : Heap} {locs : List Loc} {ls : Array Slot} (E : xE p s m args c cx_storeSelf 3 D cA h0 q) (hC : xC D cA h0 q s.heap k op ac ea H locs) (hl : lv_has ls 3 [(0, .ref h0), (1, .long v1)]) (hac : vp_in ac 4096) (he : ¬ (op &&& (3 : Int32)) = 1 → vp_in ea 4096) (hret : xwi p l env (rmD 1) s m args below meth c cx_storeSelf D cA h0 q .int op ac ea Q (fx_storeSelf_41 k op ac ea v1)) : W p l env (rmD 1) s m args below meth c H locs 0 0 Q (F0 m 41 ls []) := by
  have hx := E.1.1; have hb := E.1.2.1
  unfold fx_storeSelf_41 at hret
  refine lv_aload_n hx hb dx_storeSelf_41 rfl (lv_at hl 0 rfl) ?_
  refine xg_word E hC dx_storeSelf_42 ?_
  refine lv_aload_n hx hb dx_storeSelf_45 rfl (lv_at hl 0 rfl) ?_
  refine xg_ac E hC dx_storeSelf_46 ?_
  refine lv_lload_n hx hb dx_storeSelf_49 rfl (lv_at hl 1 rfl) ?_
  refine xst E hC (hac) dx_storeSelf_50 (fun H locs hC => ?_)
  refine lv_iconst (v := (0 : Int32)) hx hb dx_storeSelf_51 (by decide) ?_
  exact (xwi_out hret) _ _ _ _ dx_storeSelf_52 hC  (nw_i _)
def fx_storeSelf_18 (k : kSx) (op ac ea : Int32) (v1 : Int64) : Int32 × kSx :=
  if (fx_mode k op ac ea) < (2 : Int32) then
    fx_storeSelf_41 k op ac ea v1
  else
    if (fx_mode k op ac ea) = (3 : Int32) then
      if ac = 0 then
        ((0 : Int32), k)
      else
        fx_storeSelf_41 k op ac ea v1
    else
      ((0 : Int32), k)
set_option maxRecDepth 100000 in
set_option maxHeartbeats 4000000 in
theorem wx_storeSelf_18 {k : kSx} {op : Int32} {ac : Int32} {ea : Int32} {v1 : Int64} {H : Heap} {locs : List Loc} {ls : Array Slot} (E : xE p s m args c cx_storeSelf 3 D cA h0 q) (hC : xC D cA h0 q s.heap k op ac ea H locs) (hl : lv_has ls 3 [(0, .ref h0), (1, .long v1)]) (hac : vp_in ac 4096) (he : ¬ (op &&& (3 : Int32)) = 1 → vp_in ea 4096) (hret : xwi p l env (rmD 1) s m args below meth c cx_storeSelf D cA h0 q .int op ac ea Q (fx_storeSelf_18 k op ac ea v1)) : W p l env (rmD 1) s m args below meth c H locs 0 0 Q (F0 m 18 ls []) := by
  have hx := E.1.1; have hb := E.1.2.1
  unfold fx_storeSelf_18 at hret
  refine lv_aload_n hx hb dx_storeSelf_18 rfl (lv_at hl 0 rfl) ?_
  refine kx_mode E hl.1 hC (hac) (by decide) (Nat.le_of_ble_eq_true rfl) dx_storeSelf_19 (fun H locs hC => ?_)
  refine lv_iconst (v := (2 : Int32)) hx hb dx_storeSelf_22 (by decide) ?_
  refine lv_icmp_lt (tgt := 41) hx hb dx_storeSelf_23 (by decide) (fun h1 => ?_) (fun h1 => ?_)
  · rw [if_pos h1] at hret
    exact wx_storeSelf_41 E hC (lv_sub hl [0, 1] rfl) (hac) (he) hret
  · rw [if_neg h1] at hret
    refine lv_aload_n hx hb dx_storeSelf_26 rfl (lv_at hl 0 rfl) ?_
    refine kx_mode E hl.1 hC (hac) (by decide) (Nat.le_of_ble_eq_true rfl) dx_storeSelf_27 (fun H locs hC => ?_)
    refine lv_iconst (v := (3 : Int32)) hx hb dx_storeSelf_30 (by decide) ?_
    refine lv_icmp_ne (tgt := 51) hx hb dx_storeSelf_31 (by decide) (fun h2 => ?_) (fun h2 => ?_)
    · rw [if_neg h2] at hret
      refine lv_iconst (v := (0 : Int32)) hx hb dx_storeSelf_51 (by decide) ?_
      exact (xwi_out hret) _ _ _ _ dx_storeSelf_52 hC  (nw_i _)
    · rw [if_pos h2] at hret
      refine lv_aload_n hx hb dx_storeSelf_34 rfl (lv_at hl 0 rfl) ?_
      refine xg_ac E hC dx_storeSelf_35 ?_
      refine lv_if_eq (tgt := 51) hx hb dx_storeSelf_38 (by decide) (fun h3 => ?_) (fun h3 => ?_)
      · rw [if_pos h3] at hret
        refine lv_iconst (v := (0 : Int32)) hx hb dx_storeSelf_51 (by decide) ?_
        exact (xwi_out hret) _ _ _ _ dx_storeSelf_52 hC  (nw_i _)
      · rw [if_neg h3] at hret
        exact wx_storeSelf_41 E hC (lv_sub hl [0, 1] rfl) (hac) (he) hret
def fx_storeSelf (k : kSx) (op ac ea : Int32) (v1 : Int64) : Int32 × kSx :=
  if (fx_mode k op ac ea) < (2 : Int32) then
    fx_storeSelf_18 k op ac ea v1
  else
    fx_storeSelf_18 (stx k ea v1) op ac ea v1
set_option maxRecDepth 100000 in
set_option maxHeartbeats 4000000 in
theorem wx_storeSelf_0 {k : kSx} {op : Int32} {ac : Int32} {ea : Int32} {v1 : Int64} {H : Heap} {locs : List Loc} {ls : Array Slot} (E : xE p s m args c cx_storeSelf 3 D cA h0 q) (hC : xC D cA h0 q s.heap k op ac ea H locs) (hl : lv_has ls 3 [(0, .ref h0), (1, .long v1)]) (hac : vp_in ac 4096) (he : ¬ (op &&& (3 : Int32)) = 1 → vp_in ea 4096) (hret : xwi p l env (rmD 1) s m args below meth c cx_storeSelf D cA h0 q .int op ac ea Q (fx_storeSelf k op ac ea v1)) : W p l env (rmD 1) s m args below meth c H locs 0 0 Q (F0 m 0 ls []) := by
  have hx := E.1.1; have hb := E.1.2.1
  unfold fx_storeSelf at hret
  refine lv_aload_n hx hb dx_storeSelf_0 rfl (lv_at hl 0 rfl) ?_
  refine kx_mode E hl.1 hC (hac) (by decide) (Nat.le_of_ble_eq_true rfl) dx_storeSelf_1 (fun H locs hC => ?_)
  refine lv_iconst (v := (2 : Int32)) hx hb dx_storeSelf_4 (by decide) ?_
  refine lv_icmp_lt (tgt := 18) hx hb dx_storeSelf_5 (by decide) (fun h1 => ?_) (fun h1 => ?_)
  · rw [if_pos h1] at hret
    exact wx_storeSelf_18 E hC (lv_sub hl [0, 1] rfl) (hac) (he) hret
  · rw [if_neg h1] at hret
    refine lv_aload_n hx hb dx_storeSelf_8 rfl (lv_at hl 0 rfl) ?_
    refine xg_word E hC dx_storeSelf_9 ?_
    refine lv_aload_n hx hb dx_storeSelf_12 rfl (lv_at hl 0 rfl) ?_
    refine xg_e E hC dx_storeSelf_13 ?_
    refine lv_lload_n hx hb dx_storeSelf_16 rfl (lv_at hl 1 rfl) ?_
    refine xst E hC (he (ne1_nlt2 h1)) dx_storeSelf_17 (fun H locs hC => ?_)
    exact wx_storeSelf_18 E hC (lv_sub hl [0, 1] rfl) (hac) (he) hret
set_option maxRecDepth 100000 in
set_option maxHeartbeats 4000000 in
theorem mx_storeSelf (l : Launch) (k : kSx) (op ac ea : Int32) (v1 : Int64) (hac : vp_in ac 4096) (he : ¬ (op &&& (3 : Int32)) = 1 → vp_in ea 4096) : xMet l yx_storeSelf cx_storeSelf 3 (some .int) 1 [.long v1] k op ac ea (some (.int (fx_storeSelf k op ac ea v1).1)) (fx_storeSelf k op ac ea v1).2 op ac ea :=
  xMet.ofi (by decide) rfl (fun _ => Nat.le_of_ble_eq_true rfl) (fun D cA h0 q p env s m args below meth c ls Q E hC hl hret => wx_storeSelf_0 E hC (lv_sub hl [0, 1] rfl) hac he hret)
theorem gkx_storeSelf : xYw R_x 131 yx_storeSelf cx_storeSelf 3 (some .int) 1 := ⟨wc_x_storeSelf, wl_x_131, wi_x_storeSelf, ws_x_storeSelf, wn_x, ⟨by decide, by decide, by decide +kernel⟩, by decide⟩
theorem kx_storeSelf {p : Program} {l : Launch} {env : Env} {s : State} {m : MethodId} {args : Array Value} {below : List Frame} {meth : Method} {c : Code} {H : Heap} {locs : List Loc} {Q : State → Prop} {cc : ByteArray} {pc nL d : Nat} {ls : Array Slot} {rest : List Value} {D : va_G} {cA : ClassId} {h0 q : Nat} {k : kSx} {op ac ea : Int32} {v1 : Int64} (E : xE p s m args c cc nL D cA h0 q) (hls : ls.size = nL) (hC : xC D cA h0 q s.heap k op ac ea H locs) (hac : vp_in ac 4096) (he : ¬ (op &&& (3 : Int32)) = 1 → vp_in ea 4096) (hd : 1 + 1 ≤ d) (hr : (rest.map fun v => v.category).sum ≤ 8) (hdg : decode cc pc = .ok (.invokevirtual 131, 3)) (kk : ∀ (H1 : Heap) (locs1 : List Loc), xC D cA h0 q s.heap (fx_storeSelf k op ac ea v1).2 op ac ea H1 locs1 → W p l env (rmD d) s m args below meth c H1 locs1 0 0 Q (F0 m (pc + 3) ls (.int (fx_storeSelf k op ac ea v1).1 :: rest))) : W p l env (rmD d) s m args below meth c H locs 0 0 Q (F0 m pc ls (.long v1 :: .ref h0 :: rest)) :=
  xcall (av := [.long v1]) E (mx_storeSelf l k op ac ea v1 hac he) gkx_storeSelf rfl hls hC hd hr hdg kk
/-! TenMachine.result (J)J -/
def fx_result (k : kSx) (op ac ea : Int32) (v1 : Int64) : Int64 × kSx :=
  if (fx_signed v1) = v1 then
    ((fx_signed v1), k)
  else
    ((fx_signed v1), vx_ov k (1 : Int32))
set_option maxRecDepth 100000 in
set_option maxHeartbeats 4000000 in
theorem wx_result_0 {k : kSx} {op : Int32} {ac : Int32} {ea : Int32} {v1 : Int64} {H : Heap} {locs : List Loc} {ls : Array Slot} (E : xE p s m args c cx_result 5 D cA h0 q) (hC : xC D cA h0 q s.heap k op ac ea H locs) (hl : lv_has ls 5 [(0, .ref h0), (1, .long v1)]) (hac : vp_in ac 4096) (hret : xwl p l env (rmD 1) s m args below meth c cx_result D cA h0 q .long op ac ea Q (fx_result k op ac ea v1)) : W p l env (rmD 1) s m args below meth c H locs 0 0 Q (F0 m 0 ls []) := by
  have hx := E.1.1; have hb := E.1.2.1
  unfold fx_result at hret
  refine lv_lload_n hx hb dx_result_0 rfl (lv_at hl 1 rfl) ?_
  refine kx_signed_in_x E.1 hl.1 (by decide) (Nat.le_of_ble_eq_true rfl) dx_result_1 ?_
  refine lv_lstore_n (lv' := [(3, .long (fx_signed v1)), (0, .ref h0), (1, .long v1)]) hx hb dx_result_4 rfl hl (by decide) rfl (fun ls hl => ?_)
  refine lv_lload_n hx hb dx_result_5 rfl (lv_at hl 0 rfl) ?_
  refine lv_lload_n hx hb dx_result_6 rfl (lv_at hl 2 rfl) ?_
  refine tt_lcmp_eq (tgt := 16) hx hb dx_result_7 dx_result_8 (by decide) (fun h1 => ?_) (fun h1 => ?_)
  · rw [if_pos h1] at hret
    refine lv_lload_n hx hb dx_result_16 rfl (lv_at hl 0 rfl) ?_
    exact (xwl_out hret) _ _ _ _ dx_result_17 hC  (nw_l _)
  · rw [if_neg h1] at hret
    refine lv_aload_n hx hb dx_result_11 rfl (lv_at hl 1 rfl) ?_
    refine lv_iconst (v := (1 : Int32)) hx hb dx_result_12 (by decide) ?_
    refine xp_overflow E hC rfl rfl dx_result_13 (fun H locs hC => ?_)
    refine lv_lload_n hx hb dx_result_16 rfl (lv_at hl 0 rfl) ?_
    exact (xwl_out hret) _ _ _ _ dx_result_17 hC  (nw_l _)
set_option maxRecDepth 100000 in
set_option maxHeartbeats 4000000 in
theorem mx_result (l : Launch) (k : kSx) (op ac ea : Int32) (v1 : Int64) (hac : vp_in ac 4096) : xMet l yx_result cx_result 5 (some .long) 1 [.long v1] k op ac ea (some (.long (fx_result k op ac ea v1).1)) (fx_result k op ac ea v1).2 op ac ea :=
  xMet.ofl (by decide) rfl (fun _ => Nat.le_of_ble_eq_true rfl) (fun D cA h0 q p env s m args below meth c ls Q E hC hl hret => wx_result_0 E hC (lv_sub hl [0, 1] rfl) hac hret)
theorem gkx_result : xYw R_x 134 yx_result cx_result 5 (some .long) 1 := ⟨wc_x_result, wl_x_134, wi_x_result, ws_x_result, wn_x, ⟨by decide, by decide, by decide +kernel⟩, by decide⟩
theorem kx_result {p : Program} {l : Launch} {env : Env} {s : State} {m : MethodId} {args : Array Value} {below : List Frame} {meth : Method} {c : Code} {H : Heap} {locs : List Loc} {Q : State → Prop} {cc : ByteArray} {pc nL d : Nat} {ls : Array Slot} {rest : List Value} {D : va_G} {cA : ClassId} {h0 q : Nat} {k : kSx} {op ac ea : Int32} {v1 : Int64} (E : xE p s m args c cc nL D cA h0 q) (hls : ls.size = nL) (hC : xC D cA h0 q s.heap k op ac ea H locs) (hac : vp_in ac 4096) (hd : 1 + 1 ≤ d) (hr : (rest.map fun v => v.category).sum ≤ 8) (hdg : decode cc pc = .ok (.invokevirtual 134, 3)) (kk : ∀ (H1 : Heap) (locs1 : List Loc), xC D cA h0 q s.heap (fx_result k op ac ea v1).2 op ac ea H1 locs1 → W p l env (rmD d) s m args below meth c H1 locs1 0 0 Q (F0 m (pc + 3) ls (.long (fx_result k op ac ea v1).1 :: rest))) : W p l env (rmD d) s m args below meth c H locs 0 0 Q (F0 m pc ls (.long v1 :: .ref h0 :: rest)) :=
  xcall (av := [.long v1]) E (mx_result l k op ac ea v1 hac) gkx_result rfl hls hC hd hr hdg kk
/-! TenMachine.shiftedWithSign (JI)J -/
def fx_shiftedWithSign_50 (k : kSx) (op ac ea : Int32) (v1 : Int64) (v4 : Int32) : Int64 × kSx :=
  ((fx_signed ((v1 &&& (34359738368 : Int64)) ||| ((v1 <<< (v4.toInt64 &&& 63)) &&& (34359738367 : Int64)))), k)
set_option maxRecDepth 100000 in
set_option maxHeartbeats 4000000 in
theorem wx_shiftedWithSign_50 {k : kSx} {op : Int32} {ac : Int32} {ea : Int32} {v1 : Int64} {v4 : Int32} {H : Heap} {locs : List Loc} {ls : Array Slot} (E : xE p s m args c cx_shiftedWithSign 5 D cA h0 q) (hC : xC D cA h0 q s.heap k op ac ea H locs) (hl : lv_has ls 5 [(1, .long v1), (4, .int v4)]) (hac : vp_in ac 4096) (hret : xwl p l env (rmD 1) s m args below meth c cx_shiftedWithSign D cA h0 q .long op ac ea Q (fx_shiftedWithSign_50 k op ac ea v1 v4)) : W p l env (rmD 1) s m args below meth c H locs 0 0 Q (F0 m 50 ls []) := by
  have hx := E.1.1; have hb := E.1.2.1
  unfold fx_shiftedWithSign_50 at hret
  refine lv_lload_n hx hb dx_shiftedWithSign_50 rfl (lv_at hl 0 rfl) ?_
  refine lv_ldc2 hx hb E.1.2.2.2.1 (E.1.2.2.2.2 _ ct_x_149) dx_shiftedWithSign_51 ?_
  refine lv_land hx hb dx_shiftedWithSign_54 ?_
  refine lv_lload_n hx hb dx_shiftedWithSign_55 rfl (lv_at hl 0 rfl) ?_
  refine lv_iload hx hb dx_shiftedWithSign_56 (lv_at hl 1 rfl) ?_
  refine lv_lshl hx hb dx_shiftedWithSign_58 rfl ?_
  refine lv_ldc2 hx hb E.1.2.2.2.1 (E.1.2.2.2.2 _ ct_x_180) dx_shiftedWithSign_59 ?_
  refine lv_land hx hb dx_shiftedWithSign_62 ?_
  refine lv_lor hx hb dx_shiftedWithSign_63 ?_
  refine kx_signed_in_x E.1 hl.1 (by decide) (Nat.le_of_ble_eq_true rfl) dx_shiftedWithSign_64 ?_
  exact (xwl_out hret) _ _ _ _ dx_shiftedWithSign_67 hC  (nw_l _)
def fx_shiftedWithSign_45 (k : kSx) (op ac ea : Int32) (v1 : Int64) (v4 : Int32) : Int64 × kSx :=
  fx_shiftedWithSign_50 (vx_ov k (1 : Int32)) op ac ea v1 v4
set_option maxRecDepth 100000 in
set_option maxHeartbeats 4000000 in
theorem wx_shiftedWithSign_45 {k : kSx} {op : Int32} {ac : Int32} {ea : Int32} {v1 : Int64} {v4 : Int32} {H : Heap} {locs : List Loc} {ls : Array Slot} (E : xE p s m args c cx_shiftedWithSign 5 D cA h0 q) (hC : xC D cA h0 q s.heap k op ac ea H locs) (hl : lv_has ls 5 [(0, .ref h0), (1, .long v1), (4, .int v4)]) (hac : vp_in ac 4096) (hret : xwl p l env (rmD 1) s m args below meth c cx_shiftedWithSign D cA h0 q .long op ac ea Q (fx_shiftedWithSign_45 k op ac ea v1 v4)) : W p l env (rmD 1) s m args below meth c H locs 0 0 Q (F0 m 45 ls []) := by
  have hx := E.1.1; have hb := E.1.2.1
  unfold fx_shiftedWithSign_45 at hret
  refine lv_aload_n hx hb dx_shiftedWithSign_45 rfl (lv_at hl 0 rfl) ?_
  refine lv_iconst (v := (1 : Int32)) hx hb dx_shiftedWithSign_46 (by decide) ?_
  refine xp_overflow E hC rfl rfl dx_shiftedWithSign_47 (fun H locs hC => ?_)
  exact wx_shiftedWithSign_50 E hC (lv_sub hl [1, 2] rfl) (hac) hret
def fx_shiftedWithSign (k : kSx) (op ac ea : Int32) (v1 : Int64) (v3 : Int32) : Int64 × kSx :=
  if 0 ≤ v3 then
    if v1 < (-((34359738368 : Int64) >>> ((fjm_min v3 (63 : Int32)).toInt64 &&& 63))) then
      fx_shiftedWithSign_45 k op ac ea v1 (fjm_min v3 (63 : Int32))
    else
      if v1 ≤ ((34359738367 : Int64) >>> ((fjm_min v3 (63 : Int32)).toInt64 &&& 63)) then
        fx_shiftedWithSign_50 k op ac ea v1 (fjm_min v3 (63 : Int32))
      else
        fx_shiftedWithSign_45 k op ac ea v1 (fjm_min v3 (63 : Int32))
  else
    ((v1 >>> ((fjm_min (-v3) (63 : Int32)).toInt64 &&& 63)), k)
set_option maxRecDepth 100000 in
set_option maxHeartbeats 4000000 in
theorem wx_shiftedWithSign_0 {k : kSx} {op : Int32} {ac : Int32} {ea : Int32} {v1 : Int64} {v3 : Int32} {H : Heap} {locs : List Loc} {ls : Array Slot} (E : xE p s m args c cx_shiftedWithSign 5 D cA h0 q) (hC : xC D cA h0 q s.heap k op ac ea H locs) (hl : lv_has ls 5 [(0, .ref h0), (1, .long v1), (3, .int v3)]) (hac : vp_in ac 4096) (hret : xwl p l env (rmD 1) s m args below meth c cx_shiftedWithSign D cA h0 q .long op ac ea Q (fx_shiftedWithSign k op ac ea v1 v3)) : W p l env (rmD 1) s m args below meth c H locs 0 0 Q (F0 m 0 ls []) := by
  have hx := E.1.1; have hb := E.1.2.1
  unfold fx_shiftedWithSign at hret
  refine lv_iload_n hx hb dx_shiftedWithSign_0 rfl (lv_at hl 2 rfl) ?_
  refine lv_if_ge (tgt := 14) hx hb dx_shiftedWithSign_1 (by decide) (fun h1 => ?_) (fun h1 => ?_)
  · rw [if_pos h1] at hret
    refine lv_iload_n hx hb dx_shiftedWithSign_14 rfl (lv_at hl 2 rfl) ?_
    refine lv_bipush (v := (63 : Int32)) hx hb dx_shiftedWithSign_15 (by decide) ?_
    refine kjm_min_in_x E.1 hl.1 (by decide) (Nat.le_of_ble_eq_true rfl) dx_shiftedWithSign_17 ?_
    refine lv_istore (lv' := [(4, .int (fjm_min v3 (63 : Int32))), (0, .ref h0), (1, .long v1), (3, .int v3)]) hx hb dx_shiftedWithSign_20 hl (by decide) rfl (fun ls hl => ?_)
    refine lv_lload_n hx hb dx_shiftedWithSign_22 rfl (lv_at hl 2 rfl) ?_
    refine lv_ldc2 hx hb E.1.2.2.2.1 (E.1.2.2.2.2 _ ct_x_149) dx_shiftedWithSign_23 ?_
    refine lv_iload hx hb dx_shiftedWithSign_26 (lv_at hl 0 rfl) ?_
    refine lv_lshr hx hb dx_shiftedWithSign_28 rfl ?_
    refine lv_lneg hx hb dx_shiftedWithSign_29 ?_
    refine tt_lcmp_lt (tgt := 45) hx hb dx_shiftedWithSign_30 dx_shiftedWithSign_31 (by decide) (fun h2 => ?_) (fun h2 => ?_)
    · rw [if_pos h2] at hret
      exact wx_shiftedWithSign_45 E hC (lv_sub hl [1, 2, 0] rfl) (hac) hret
    · rw [if_neg h2] at hret
      refine lv_lload_n hx hb dx_shiftedWithSign_34 rfl (lv_at hl 2 rfl) ?_
      refine lv_ldc2 hx hb E.1.2.2.2.1 (E.1.2.2.2.2 _ ct_x_180) dx_shiftedWithSign_35 ?_
      refine lv_iload hx hb dx_shiftedWithSign_38 (lv_at hl 0 rfl) ?_
      refine lv_lshr hx hb dx_shiftedWithSign_40 rfl ?_
      refine tt_lcmp_le (tgt := 50) hx hb dx_shiftedWithSign_41 dx_shiftedWithSign_42 (by decide) (fun h3 => ?_) (fun h3 => ?_)
      · rw [if_pos h3] at hret
        exact wx_shiftedWithSign_50 E hC (lv_sub hl [2, 0] rfl) (hac) hret
      · rw [if_neg h3] at hret
        exact wx_shiftedWithSign_45 E hC (lv_sub hl [1, 2, 0] rfl) (hac) hret
  · rw [if_neg h1] at hret
    refine lv_lload_n hx hb dx_shiftedWithSign_4 rfl (lv_at hl 1 rfl) ?_
    refine lv_iload_n hx hb dx_shiftedWithSign_5 rfl (lv_at hl 2 rfl) ?_
    refine lv_ineg hx hb dx_shiftedWithSign_6 ?_
    refine lv_bipush (v := (63 : Int32)) hx hb dx_shiftedWithSign_7 (by decide) ?_
    refine kjm_min_in_x E.1 hl.1 (by decide) (Nat.le_of_ble_eq_true rfl) dx_shiftedWithSign_9 ?_
    refine lv_lshr hx hb dx_shiftedWithSign_12 rfl ?_
    exact (xwl_out hret) _ _ _ _ dx_shiftedWithSign_13 hC  (nw_l _)
set_option maxRecDepth 100000 in
set_option maxHeartbeats 4000000 in
theorem mx_shiftedWithSign (l : Launch) (k : kSx) (op ac ea : Int32) (v1 : Int64) (v3 : Int32) (hac : vp_in ac 4096) : xMet l yx_shiftedWithSign cx_shiftedWithSign 5 (some .long) 1 [.long v1, .int v3] k op ac ea (some (.long (fx_shiftedWithSign k op ac ea v1 v3).1)) (fx_shiftedWithSign k op ac ea v1 v3).2 op ac ea :=
  xMet.ofl (by decide) rfl (fun _ => Nat.le_of_ble_eq_true rfl) (fun D cA h0 q p env s m args below meth c ls Q E hC hl hret => wx_shiftedWithSign_0 E hC (lv_sub hl [0, 1, 2] rfl) hac hret)
theorem gkx_shiftedWithSign : xYw R_x 161 yx_shiftedWithSign cx_shiftedWithSign 5 (some .long) 2 := ⟨wc_x_shiftedWithSign, wl_x_161, wi_x_shiftedWithSign, ws_x_shiftedWithSign, wn_x, ⟨by decide, by decide, by decide +kernel⟩, by decide⟩
theorem kx_shiftedWithSign {p : Program} {l : Launch} {env : Env} {s : State} {m : MethodId} {args : Array Value} {below : List Frame} {meth : Method} {c : Code} {H : Heap} {locs : List Loc} {Q : State → Prop} {cc : ByteArray} {pc nL d : Nat} {ls : Array Slot} {rest : List Value} {D : va_G} {cA : ClassId} {h0 q : Nat} {k : kSx} {op ac ea : Int32} {v1 : Int64} {v3 : Int32} (E : xE p s m args c cc nL D cA h0 q) (hls : ls.size = nL) (hC : xC D cA h0 q s.heap k op ac ea H locs) (hac : vp_in ac 4096) (hd : 1 + 1 ≤ d) (hr : (rest.map fun v => v.category).sum ≤ 8) (hdg : decode cc pc = .ok (.invokevirtual 161, 3)) (kk : ∀ (H1 : Heap) (locs1 : List Loc), xC D cA h0 q s.heap (fx_shiftedWithSign k op ac ea v1 v3).2 op ac ea H1 locs1 → W p l env (rmD d) s m args below meth c H1 locs1 0 0 Q (F0 m (pc + 3) ls (.long (fx_shiftedWithSign k op ac ea v1 v3).1 :: rest))) : W p l env (rmD d) s m args below meth c H locs 0 0 Q (F0 m pc ls (.int v3 :: .long v1 :: .ref h0 :: rest)) :=
  xcall (av := [.long v1, .int v3]) E (mx_shiftedWithSign l k op ac ea v1 v3 hac) gkx_shiftedWithSign rfl hls hC hd hr hdg kk
/-! TenMachine.exchange ()I -/
def fx_exchange (k : kSx) (op ac ea : Int32)  : Int32 × kSx :=
  if (fx_isThere ea) = 0 then
    ((2 : Int32), k)
  else
    ((0 : Int32), stx (stx k ea (ldx k ac)) ac (ldx k ea))
set_option maxRecDepth 100000 in
set_option maxHeartbeats 4000000 in
theorem wx_exchange_0 {k : kSx} {op : Int32} {ac : Int32} {ea : Int32} {H : Heap} {locs : List Loc} {ls : Array Slot} (E : xE p s m args c cx_exchange 3 D cA h0 q) (hC : xC D cA h0 q s.heap k op ac ea H locs) (hl : lv_has ls 3 [(0, .ref h0)]) (hac : vp_in ac 4096) (hret : xwi p l env (rmD 1) s m args below meth c cx_exchange D cA h0 q .int op ac ea Q (fx_exchange k op ac ea)) : W p l env (rmD 1) s m args below meth c H locs 0 0 Q (F0 m 0 ls []) := by
  have hx := E.1.1; have hb := E.1.2.1
  unfold fx_exchange at hret
  refine lv_aload_n hx hb dx_exchange_0 rfl (lv_at hl 0 rfl) ?_
  refine xg_e E hC dx_exchange_1 ?_
  refine kx_isThere_in_x E.1 hl.1 (by decide) (Nat.le_of_ble_eq_true rfl) dx_exchange_4 ?_
  refine lv_if_ne (tgt := 12) hx hb dx_exchange_7 (by decide) (fun h1 => ?_) (fun h1 => ?_)
  · rw [if_neg h1] at hret
    refine lv_aload_n hx hb dx_exchange_12 rfl (lv_at hl 0 rfl) ?_
    refine xg_word E hC dx_exchange_13 ?_
    refine lv_aload_n hx hb dx_exchange_16 rfl (lv_at hl 0 rfl) ?_
    refine xg_e E hC dx_exchange_17 ?_
    refine xld E hC (vin_there h1) dx_exchange_20 ?_
    refine lv_lstore_n (lv' := [(1, .long (ldx k ea)), (0, .ref h0)]) hx hb dx_exchange_21 rfl hl (by decide) rfl (fun ls hl => ?_)
    refine lv_aload_n hx hb dx_exchange_22 rfl (lv_at hl 1 rfl) ?_
    refine xg_word E hC dx_exchange_23 ?_
    refine lv_aload_n hx hb dx_exchange_26 rfl (lv_at hl 1 rfl) ?_
    refine xg_e E hC dx_exchange_27 ?_
    refine lv_aload_n hx hb dx_exchange_30 rfl (lv_at hl 1 rfl) ?_
    refine xg_word E hC dx_exchange_31 ?_
    refine lv_aload_n hx hb dx_exchange_34 rfl (lv_at hl 1 rfl) ?_
    refine xg_ac E hC dx_exchange_35 ?_
    refine xld E hC (hac) dx_exchange_38 ?_
    refine xst E hC (vin_there h1) dx_exchange_39 (fun H locs hC => ?_)
    refine lv_aload_n hx hb dx_exchange_40 rfl (lv_at hl 1 rfl) ?_
    refine xg_word E hC dx_exchange_41 ?_
    refine lv_aload_n hx hb dx_exchange_44 rfl (lv_at hl 1 rfl) ?_
    refine xg_ac E hC dx_exchange_45 ?_
    refine lv_lload_n hx hb dx_exchange_48 rfl (lv_at hl 0 rfl) ?_
    refine xst E hC (hac) dx_exchange_49 (fun H locs hC => ?_)
    refine lv_iconst (v := (0 : Int32)) hx hb dx_exchange_50 (by decide) ?_
    exact (xwi_out hret) _ _ _ _ dx_exchange_51 hC  (nw_i _)
  · rw [if_pos h1] at hret
    refine lv_iconst (v := (2 : Int32)) hx hb dx_exchange_10 (by decide) ?_
    exact (xwi_out hret) _ _ _ _ dx_exchange_11 hC  (nw_i _)
set_option maxRecDepth 100000 in
set_option maxHeartbeats 4000000 in
theorem mx_exchange (l : Launch) (k : kSx) (op ac ea : Int32) (hac : vp_in ac 4096) : xMet l yx_exchange cx_exchange 3 (some .int) 1 [] k op ac ea (some (.int (fx_exchange k op ac ea).1)) (fx_exchange k op ac ea).2 op ac ea :=
  xMet.ofi (by decide) rfl (fun _ => Nat.le_of_ble_eq_true rfl) (fun D cA h0 q p env s m args below meth c ls Q E hC hl hret => wx_exchange_0 E hC (lv_sub hl [0] rfl) hac hret)
theorem gkx_exchange : xYw R_x 98 yx_exchange cx_exchange 3 (some .int) 0 := ⟨wc_x_exchange, wl_x_98, wi_x_exchange, ws_x_exchange, wn_x, ⟨by decide, by decide, by decide +kernel⟩, by decide⟩
theorem kx_exchange {p : Program} {l : Launch} {env : Env} {s : State} {m : MethodId} {args : Array Value} {below : List Frame} {meth : Method} {c : Code} {H : Heap} {locs : List Loc} {Q : State → Prop} {cc : ByteArray} {pc nL d : Nat} {ls : Array Slot} {rest : List Value} {D : va_G} {cA : ClassId} {h0 q : Nat} {k : kSx} {op ac ea : Int32} (E : xE p s m args c cc nL D cA h0 q) (hls : ls.size = nL) (hC : xC D cA h0 q s.heap k op ac ea H locs) (hac : vp_in ac 4096) (hd : 1 + 1 ≤ d) (hr : (rest.map fun v => v.category).sum ≤ 8) (hdg : decode cc pc = .ok (.invokevirtual 98, 3)) (kk : ∀ (H1 : Heap) (locs1 : List Loc), xC D cA h0 q s.heap (fx_exchange k op ac ea).2 op ac ea H1 locs1 → W p l env (rmD d) s m args below meth c H1 locs1 0 0 Q (F0 m (pc + 3) ls (.int (fx_exchange k op ac ea).1 :: rest))) : W p l env (rmD d) s m args below meth c H locs 0 0 Q (F0 m pc ls (.ref h0 :: rest)) :=
  xcall (av := []) E (mx_exchange l k op ac ea  hac) gkx_exchange rfl hls hC hd hr hdg kk
/-! TenMachine.transferBlock ()I -/
def fx_transferBlock_60 : Nat → kSx → Int32 → Int32 → Int32 → Int32 → Int32 → Int32 → Int32 → Int32 × kSx
  | 0, k, op, ac, ea, v1, v2, v3, v4 => (0, k)
  | n + 1, k, op, ac, ea, v1, v2, v3, v4 =>
    if v3 < v4 then
      ((0 : Int32), k)
    else
      fx_transferBlock_60 n (stx k (v2 + v4) (ldx k (v1 + v4))) op ac ea v1 v2 v3 (v4 + 1)
set_option maxRecDepth 100000 in
set_option maxHeartbeats 4000000 in
theorem wx_transferBlock_60 (E : xE p s m args c cx_transferBlock 5 D cA h0 q) : ∀ (n : Nat) (k : kSx) (op : Int32) (ac : Int32) (ea : Int32) (v1 : Int32) (v2 : Int32) (v3 : Int32) (v4 : Int32) (H : Heap) (locs : List Loc) (ls : Array Slot), xC D cA h0 q s.heap k op ac ea H locs → lv_has ls 5 [(0, .ref h0), (1, .int v1), (2, .int v2), (3, .int v3), (4, .int v4)] → (vp_in ac 4096) → (xbl v1 v2 v3 v4) → (v3.toInt + 1 - v4.toInt).toNat < n → xwi p l env (rmD 1) s m args below meth c cx_transferBlock D cA h0 q .int op ac ea Q (fx_transferBlock_60 n k op ac ea v1 v2 v3 v4) → W p l env (rmD 1) s m args below meth c H locs 0 0 Q (F0 m 60 ls []) := by
  have hx := E.1.1; have hb := E.1.2.1
  intro n
  induction n with
  | zero => intro k op ac ea v1 v2 v3 v4 H locs ls hC hl hac hbl hmu hret; exact absurd hmu (Nat.not_lt_zero _)
  | succ n ih =>
    intro k op ac ea v1 v2 v3 v4 H locs ls hC hl hac hbl hmu hret
    rw [fx_transferBlock_60] at hret
    refine lv_iload hx hb dx_transferBlock_60 (lv_at hl 4 rfl) ?_
    refine lv_iload_n hx hb dx_transferBlock_62 rfl (lv_at hl 3 rfl) ?_
    refine lv_icmp_gt (tgt := 90) hx hb dx_transferBlock_63 (by decide) (fun h1 => ?_) (fun h1 => ?_)
    · rw [if_pos h1] at hret
      refine lv_iconst (v := (0 : Int32)) hx hb dx_transferBlock_90 (by decide) ?_
      exact (xwi_out hret) _ _ _ _ dx_transferBlock_91 hC  (nw_i _)
    · rw [if_neg h1] at hret
      refine lv_aload_n hx hb dx_transferBlock_66 rfl (lv_at hl 0 rfl) ?_
      refine xg_word E hC dx_transferBlock_67 ?_
      refine lv_iload_n hx hb dx_transferBlock_70 rfl (lv_at hl 2 rfl) ?_
      refine lv_iload hx hb dx_transferBlock_71 (lv_at hl 4 rfl) ?_
      refine lv_iadd hx hb dx_transferBlock_73 ?_
      refine lv_aload_n hx hb dx_transferBlock_74 rfl (lv_at hl 0 rfl) ?_
      refine xg_word E hC dx_transferBlock_75 ?_
      refine lv_iload_n hx hb dx_transferBlock_78 rfl (lv_at hl 1 rfl) ?_
      refine lv_iload hx hb dx_transferBlock_79 (lv_at hl 4 rfl) ?_
      refine lv_iadd hx hb dx_transferBlock_81 ?_
      refine xld E hC (by first | exact hac | exact xbl_in1 hbl (by assumption) | exact xbl_in2 hbl (by assumption)) dx_transferBlock_82 ?_
      refine xst E hC (by first | exact hac | exact xbl_in1 hbl (by assumption) | exact xbl_in2 hbl (by assumption)) dx_transferBlock_83 (fun H locs hC => ?_)
      refine lv_iinc (v := (v4 + 1)) (lv' := [(4, .int (v4 + 1)), (0, .ref h0), (1, .int v1), (2, .int v2), (3, .int v3)]) hx hb dx_transferBlock_84 hl (k := 4) rfl (by rfl) (by decide) rfl (fun ls hl => ?_)
      refine lv_goto (tgt := 60) hx hb dx_transferBlock_87 (by decide) ?_
      exact ih _ _ _ _ _ _ _ _ _ _ _ hC (lv_sub hl [1, 2, 3, 4, 0] rfl) (hac) (xbl_back hbl (by assumption)) (mu_up1 (xbl_lt hbl) (by assumption) hmu) hret
def fx_transferBlock (k : kSx) (op ac ea : Int32)  : Int32 × kSx :=
  if (fx_isThere ((fx_left (ldx k ac)) + (fjm_max (ea - (fx_right (ldx k ac))) (0 : Int32)))) = 0 then
    ((2 : Int32), k)
  else
    if (fx_isThere ((fx_right (ldx k ac)) + (fjm_max (ea - (fx_right (ldx k ac))) (0 : Int32)))) = 0 then
      ((2 : Int32), k)
    else
      fx_transferBlock_60 4097 k op ac ea (fx_left (ldx k ac)) (fx_right (ldx k ac)) (fjm_max (ea - (fx_right (ldx k ac))) (0 : Int32)) (0 : Int32)
set_option maxRecDepth 100000 in
set_option maxHeartbeats 4000000 in
theorem wx_transferBlock_0 {k : kSx} {op : Int32} {ac : Int32} {ea : Int32} {H : Heap} {locs : List Loc} {ls : Array Slot} (E : xE p s m args c cx_transferBlock 5 D cA h0 q) (hC : xC D cA h0 q s.heap k op ac ea H locs) (hl : lv_has ls 5 [(0, .ref h0)]) (hac : vp_in ac 4096) (hret : xwi p l env (rmD 1) s m args below meth c cx_transferBlock D cA h0 q .int op ac ea Q (fx_transferBlock k op ac ea)) : W p l env (rmD 1) s m args below meth c H locs 0 0 Q (F0 m 0 ls []) := by
  have hx := E.1.1; have hb := E.1.2.1
  unfold fx_transferBlock at hret
  refine lv_aload_n hx hb dx_transferBlock_0 rfl (lv_at hl 0 rfl) ?_
  refine xg_word E hC dx_transferBlock_1 ?_
  refine lv_aload_n hx hb dx_transferBlock_4 rfl (lv_at hl 0 rfl) ?_
  refine xg_ac E hC dx_transferBlock_5 ?_
  refine xld E hC (hac) dx_transferBlock_8 ?_
  refine kx_left_in_x E.1 hl.1 (by decide) (Nat.le_of_ble_eq_true rfl) dx_transferBlock_9 ?_
  refine lv_istore_n (lv' := [(1, .int (fx_left (ldx k ac))), (0, .ref h0)]) hx hb dx_transferBlock_12 rfl hl (by decide) rfl (fun ls hl => ?_)
  refine lv_aload_n hx hb dx_transferBlock_13 rfl (lv_at hl 1 rfl) ?_
  refine xg_word E hC dx_transferBlock_14 ?_
  refine lv_aload_n hx hb dx_transferBlock_17 rfl (lv_at hl 1 rfl) ?_
  refine xg_ac E hC dx_transferBlock_18 ?_
  refine xld E hC (hac) dx_transferBlock_21 ?_
  refine kx_right_in_x E.1 hl.1 (by decide) (Nat.le_of_ble_eq_true rfl) dx_transferBlock_22 ?_
  refine lv_istore_n (lv' := [(2, .int (fx_right (ldx k ac))), (1, .int (fx_left (ldx k ac))), (0, .ref h0)]) hx hb dx_transferBlock_25 rfl hl (by decide) rfl (fun ls hl => ?_)
  refine lv_aload_n hx hb dx_transferBlock_26 rfl (lv_at hl 2 rfl) ?_
  refine xg_e E hC dx_transferBlock_27 ?_
  refine lv_iload_n hx hb dx_transferBlock_30 rfl (lv_at hl 0 rfl) ?_
  refine lv_isub hx hb dx_transferBlock_31 ?_
  refine lv_iconst (v := (0 : Int32)) hx hb dx_transferBlock_32 (by decide) ?_
  refine kjm_max_in_x E.1 hl.1 (by decide) (Nat.le_of_ble_eq_true rfl) dx_transferBlock_33 ?_
  refine lv_istore_n (lv' := [(3, .int (fjm_max (ea - (fx_right (ldx k ac))) (0 : Int32))), (2, .int (fx_right (ldx k ac))), (1, .int (fx_left (ldx k ac))), (0, .ref h0)]) hx hb dx_transferBlock_36 rfl hl (by decide) rfl (fun ls hl => ?_)
  refine lv_iload_n hx hb dx_transferBlock_37 rfl (lv_at hl 2 rfl) ?_
  refine lv_iload_n hx hb dx_transferBlock_38 rfl (lv_at hl 0 rfl) ?_
  refine lv_iadd hx hb dx_transferBlock_39 ?_
  refine kx_isThere_in_x E.1 hl.1 (by decide) (Nat.le_of_ble_eq_true rfl) dx_transferBlock_40 ?_
  refine lv_if_eq (tgt := 55) hx hb dx_transferBlock_43 (by decide) (fun h1 => ?_) (fun h1 => ?_)
  · rw [if_pos h1] at hret
    refine lv_iconst (v := (2 : Int32)) hx hb dx_transferBlock_55 (by decide) ?_
    exact (xwi_out hret) _ _ _ _ dx_transferBlock_56 hC  (nw_i _)
  · rw [if_neg h1] at hret
    refine lv_iload_n hx hb dx_transferBlock_46 rfl (lv_at hl 1 rfl) ?_
    refine lv_iload_n hx hb dx_transferBlock_47 rfl (lv_at hl 0 rfl) ?_
    refine lv_iadd hx hb dx_transferBlock_48 ?_
    refine kx_isThere_in_x E.1 hl.1 (by decide) (Nat.le_of_ble_eq_true rfl) dx_transferBlock_49 ?_
    refine lv_if_ne (tgt := 57) hx hb dx_transferBlock_52 (by decide) (fun h2 => ?_) (fun h2 => ?_)
    · rw [if_neg h2] at hret
      refine lv_iconst (v := (0 : Int32)) hx hb dx_transferBlock_57 (by decide) ?_
      refine lv_istore (lv' := [(4, .int (0 : Int32)), (3, .int (fjm_max (ea - (fx_right (ldx k ac))) (0 : Int32))), (2, .int (fx_right (ldx k ac))), (1, .int (fx_left (ldx k ac))), (0, .ref h0)]) hx hb dx_transferBlock_58 hl (by decide) rfl (fun ls hl => ?_)
      exact wx_transferBlock_60 E 4097 _ _ _ _ _ _ _ _ _ _ _ hC (lv_sub hl [4, 3, 2, 1, 0] rfl) (hac) (xbl_enter h1 h2) (xbl_mu h1 h2) hret
    · rw [if_pos h2] at hret
      refine lv_iconst (v := (2 : Int32)) hx hb dx_transferBlock_55 (by decide) ?_
      exact (xwi_out hret) _ _ _ _ dx_transferBlock_56 hC  (nw_i _)
set_option maxRecDepth 100000 in
set_option maxHeartbeats 4000000 in
theorem mx_transferBlock (l : Launch) (k : kSx) (op ac ea : Int32) (hac : vp_in ac 4096) : xMet l yx_transferBlock cx_transferBlock 5 (some .int) 1 [] k op ac ea (some (.int (fx_transferBlock k op ac ea).1)) (fx_transferBlock k op ac ea).2 op ac ea :=
  xMet.ofi (by decide) rfl (fun _ => Nat.le_of_ble_eq_true rfl) (fun D cA h0 q p env s m args below meth c ls Q E hC hl hret => wx_transferBlock_0 E hC (lv_sub hl [0] rfl) hac hret)
theorem gkx_transferBlock : xYw R_x 101 yx_transferBlock cx_transferBlock 5 (some .int) 0 := ⟨wc_x_transferBlock, wl_x_101, wi_x_transferBlock, ws_x_transferBlock, wn_x, ⟨by decide, by decide, by decide +kernel⟩, by decide⟩
theorem kx_transferBlock {p : Program} {l : Launch} {env : Env} {s : State} {m : MethodId} {args : Array Value} {below : List Frame} {meth : Method} {c : Code} {H : Heap} {locs : List Loc} {Q : State → Prop} {cc : ByteArray} {pc nL d : Nat} {ls : Array Slot} {rest : List Value} {D : va_G} {cA : ClassId} {h0 q : Nat} {k : kSx} {op ac ea : Int32} (E : xE p s m args c cc nL D cA h0 q) (hls : ls.size = nL) (hC : xC D cA h0 q s.heap k op ac ea H locs) (hac : vp_in ac 4096) (hd : 1 + 1 ≤ d) (hr : (rest.map fun v => v.category).sum ≤ 8) (hdg : decode cc pc = .ok (.invokevirtual 101, 3)) (kk : ∀ (H1 : Heap) (locs1 : List Loc), xC D cA h0 q s.heap (fx_transferBlock k op ac ea).2 op ac ea H1 locs1 → W p l env (rmD d) s m args below meth c H1 locs1 0 0 Q (F0 m (pc + 3) ls (.int (fx_transferBlock k op ac ea).1 :: rest))) : W p l env (rmD d) s m args below meth c H locs 0 0 Q (F0 m pc ls (.ref h0 :: rest)) :=
  xcall (av := []) E (mx_transferBlock l k op ac ea  hac) gkx_transferBlock rfl hls hC hd hr hdg kk
/-! TenMachine.jumpOnOverflow ()I -/
def fx_jumpOnOverflow_32 (k : kSx) (op ac ea : Int32) (v1 : Int32) : Int32 × kSx :=
  (fx_jumpIf k op ac ea v1)
set_option maxRecDepth 100000 in
set_option maxHeartbeats 4000000 in
theorem wx_jumpOnOverflow_32 {k : kSx} {op : Int32} {ac : Int32} {ea : Int32} {v1 : Int32} {H : Heap} {locs : List Loc} {ls : Array Slot} (E : xE p s m args c cx_jumpOnOverflow 2 D cA h0 q) (hC : xC D cA h0 q s.heap k op ac ea H locs) (hl : lv_has ls 2 [(0, .ref h0), (1, .int v1)]) (hac : vp_in ac 4096) (hret : xwi p l env (rmD 1) s m args below meth c cx_jumpOnOverflow D cA h0 q .int op ac ea Q (fx_jumpOnOverflow_32 k op ac ea v1)) : W p l env (rmD 1) s m args below meth c H locs 0 0 Q (F0 m 32 ls []) := by
  have hx := E.1.1; have hb := E.1.2.1
  unfold fx_jumpOnOverflow_32 at hret
  refine lv_aload_n hx hb dx_jumpOnOverflow_32 rfl (lv_at hl 0 rfl) ?_
  refine lv_iload_n hx hb dx_jumpOnOverflow_33 rfl (lv_at hl 1 rfl) ?_
  refine kx_jumpIf E hl.1 hC (hac) (by decide) (Nat.le_of_ble_eq_true rfl) dx_jumpOnOverflow_34 (fun H locs hC => ?_)
  exact hret _ _ _ _ dx_jumpOnOverflow_37 hC  (nw_i _)
def fx_jumpOnOverflow_22 (k : kSx) (op ac ea : Int32) (t0 : Int32) : Int32 × kSx :=
  if t0 = 0 then
    fx_jumpOnOverflow_32 k op ac ea t0
  else
    fx_jumpOnOverflow_32 (vx_ov k (0 : Int32)) op ac ea t0
set_option maxRecDepth 100000 in
set_option maxHeartbeats 4000000 in
theorem wx_jumpOnOverflow_22 {k : kSx} {op : Int32} {ac : Int32} {ea : Int32} {t0 : Int32} {H : Heap} {locs : List Loc} {ls : Array Slot} (E : xE p s m args c cx_jumpOnOverflow 2 D cA h0 q) (hC : xC D cA h0 q s.heap k op ac ea H locs) (hl : lv_has ls 2 [(0, .ref h0)]) (hac : vp_in ac 4096) (hret : xwi p l env (rmD 1) s m args below meth c cx_jumpOnOverflow D cA h0 q .int op ac ea Q (fx_jumpOnOverflow_22 k op ac ea t0)) : W p l env (rmD 1) s m args below meth c H locs 0 0 Q (F0 m 22 ls [.int t0]) := by
  have hx := E.1.1; have hb := E.1.2.1
  unfold fx_jumpOnOverflow_22 at hret
  refine lv_istore_n (lv' := [(1, .int t0), (0, .ref h0)]) hx hb dx_jumpOnOverflow_22 rfl hl (by decide) rfl (fun ls hl => ?_)
  refine lv_iload_n hx hb dx_jumpOnOverflow_23 rfl (lv_at hl 0 rfl) ?_
  refine lv_if_eq (tgt := 32) hx hb dx_jumpOnOverflow_24 (by decide) (fun h1 => ?_) (fun h1 => ?_)
  · rw [if_pos h1] at hret
    exact wx_jumpOnOverflow_32 E hC (lv_sub hl [1, 0] rfl) (hac) hret
  · rw [if_neg h1] at hret
    refine lv_aload_n hx hb dx_jumpOnOverflow_27 rfl (lv_at hl 1 rfl) ?_
    refine lv_iconst (v := (0 : Int32)) hx hb dx_jumpOnOverflow_28 (by decide) ?_
    refine xp_overflow E hC rfl rfl dx_jumpOnOverflow_29 (fun H locs hC => ?_)
    exact wx_jumpOnOverflow_32 E hC (lv_sub hl [1, 0] rfl) (hac) hret
def fx_jumpOnOverflow_21 (k : kSx) (op ac ea : Int32)  : Int32 × kSx :=
  fx_jumpOnOverflow_22 k op ac ea (0 : Int32)
set_option maxRecDepth 100000 in
set_option maxHeartbeats 4000000 in
theorem wx_jumpOnOverflow_21 {k : kSx} {op : Int32} {ac : Int32} {ea : Int32} {H : Heap} {locs : List Loc} {ls : Array Slot} (E : xE p s m args c cx_jumpOnOverflow 2 D cA h0 q) (hC : xC D cA h0 q s.heap k op ac ea H locs) (hl : lv_has ls 2 [(0, .ref h0)]) (hac : vp_in ac 4096) (hret : xwi p l env (rmD 1) s m args below meth c cx_jumpOnOverflow D cA h0 q .int op ac ea Q (fx_jumpOnOverflow_21 k op ac ea)) : W p l env (rmD 1) s m args below meth c H locs 0 0 Q (F0 m 21 ls []) := by
  have hx := E.1.1; have hb := E.1.2.1
  unfold fx_jumpOnOverflow_21 at hret
  refine lv_iconst (v := (0 : Int32)) hx hb dx_jumpOnOverflow_21 (by decide) ?_
  exact wx_jumpOnOverflow_22 E hC (lv_sub hl [0] rfl) (hac) hret
def fx_jumpOnOverflow (k : kSx) (op ac ea : Int32)  : Int32 × kSx :=
  if (ac &&& (8 : Int32)) = 0 then
    fx_jumpOnOverflow_21 k op ac ea
  else
    if (ux_ov k) = 0 then
      fx_jumpOnOverflow_21 k op ac ea
    else
      fx_jumpOnOverflow_22 k op ac ea (1 : Int32)
set_option maxRecDepth 100000 in
set_option maxHeartbeats 4000000 in
theorem wx_jumpOnOverflow_0 {k : kSx} {op : Int32} {ac : Int32} {ea : Int32} {H : Heap} {locs : List Loc} {ls : Array Slot} (E : xE p s m args c cx_jumpOnOverflow 2 D cA h0 q) (hC : xC D cA h0 q s.heap k op ac ea H locs) (hl : lv_has ls 2 [(0, .ref h0)]) (hac : vp_in ac 4096) (hret : xwi p l env (rmD 1) s m args below meth c cx_jumpOnOverflow D cA h0 q .int op ac ea Q (fx_jumpOnOverflow k op ac ea)) : W p l env (rmD 1) s m args below meth c H locs 0 0 Q (F0 m 0 ls []) := by
  have hx := E.1.1; have hb := E.1.2.1
  unfold fx_jumpOnOverflow at hret
  refine lv_aload_n hx hb dx_jumpOnOverflow_0 rfl (lv_at hl 0 rfl) ?_
  refine xg_ac E hC dx_jumpOnOverflow_1 ?_
  refine lv_bipush (v := (8 : Int32)) hx hb dx_jumpOnOverflow_4 (by decide) ?_
  refine lv_iand hx hb dx_jumpOnOverflow_6 ?_
  refine lv_if_eq (tgt := 21) hx hb dx_jumpOnOverflow_7 (by decide) (fun h1 => ?_) (fun h1 => ?_)
  · rw [if_pos h1] at hret
    exact wx_jumpOnOverflow_21 E hC (lv_sub hl [0] rfl) (hac) hret
  · rw [if_neg h1] at hret
    refine lv_aload_n hx hb dx_jumpOnOverflow_10 rfl (lv_at hl 0 rfl) ?_
    refine xg_overflow E hC dx_jumpOnOverflow_11 ?_
    refine lv_if_eq (tgt := 21) hx hb dx_jumpOnOverflow_14 (by decide) (fun h2 => ?_) (fun h2 => ?_)
    · rw [if_pos h2] at hret
      exact wx_jumpOnOverflow_21 E hC (lv_sub hl [0] rfl) (hac) hret
    · rw [if_neg h2] at hret
      refine lv_iconst (v := (1 : Int32)) hx hb dx_jumpOnOverflow_17 (by decide) ?_
      refine lv_goto (tgt := 22) hx hb dx_jumpOnOverflow_18 (by decide) ?_
      exact wx_jumpOnOverflow_22 E hC (lv_sub hl [0] rfl) (hac) hret
set_option maxRecDepth 100000 in
set_option maxHeartbeats 4000000 in
theorem mx_jumpOnOverflow (l : Launch) (k : kSx) (op ac ea : Int32) (hac : vp_in ac 4096) : xMet l yx_jumpOnOverflow cx_jumpOnOverflow 2 (some .int) 1 [] k op ac ea (some (.int (fx_jumpOnOverflow k op ac ea).1)) (fx_jumpOnOverflow k op ac ea).2 op ac ea :=
  xMet.ofi (by decide) rfl (fun _ => Nat.le_of_ble_eq_true rfl) (fun D cA h0 q p env s m args below meth c ls Q E hC hl hret => wx_jumpOnOverflow_0 E hC (lv_sub hl [0] rfl) hac hret)
theorem gkx_jumpOnOverflow : xYw R_x 111 yx_jumpOnOverflow cx_jumpOnOverflow 2 (some .int) 0 := ⟨wc_x_jumpOnOverflow, wl_x_111, wi_x_jumpOnOverflow, ws_x_jumpOnOverflow, wn_x, ⟨by decide, by decide, by decide +kernel⟩, by decide⟩
theorem kx_jumpOnOverflow {p : Program} {l : Launch} {env : Env} {s : State} {m : MethodId} {args : Array Value} {below : List Frame} {meth : Method} {c : Code} {H : Heap} {locs : List Loc} {Q : State → Prop} {cc : ByteArray} {pc nL d : Nat} {ls : Array Slot} {rest : List Value} {D : va_G} {cA : ClassId} {h0 q : Nat} {k : kSx} {op ac ea : Int32} (E : xE p s m args c cc nL D cA h0 q) (hls : ls.size = nL) (hC : xC D cA h0 q s.heap k op ac ea H locs) (hac : vp_in ac 4096) (hd : 1 + 1 ≤ d) (hr : (rest.map fun v => v.category).sum ≤ 8) (hdg : decode cc pc = .ok (.invokevirtual 111, 3)) (kk : ∀ (H1 : Heap) (locs1 : List Loc), xC D cA h0 q s.heap (fx_jumpOnOverflow k op ac ea).2 op ac ea H1 locs1 → W p l env (rmD d) s m args below meth c H1 locs1 0 0 Q (F0 m (pc + 3) ls (.int (fx_jumpOnOverflow k op ac ea).1 :: rest))) : W p l env (rmD d) s m args below meth c H locs 0 0 Q (F0 m pc ls (.ref h0 :: rest)) :=
  xcall (av := []) E (mx_jumpOnOverflow l k op ac ea  hac) gkx_jumpOnOverflow rfl hls hC hd hr hdg kk
end TTV
