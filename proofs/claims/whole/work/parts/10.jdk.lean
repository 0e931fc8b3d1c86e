section TTV
variable {p : Program} {l : Launch} {env : Env} {s : State} {m : MethodId} {args : Array Value} {below : List Frame} {meth : Method} {c : Code} {Q : State → Prop} {D : va_G} {cA : ClassId} {h0 q : Nat}
/-! java/lang/Math.abs (I)I -/
def fjm_abs (v0 : Int32) : Int32 :=
  if 0 ≤ v0 then
    v0
  else
    (-v0)
set_option maxRecDepth 100000 in
set_option maxHeartbeats 4000000 in
theorem wjm_abs_0 {v0 : Int32} {ls : Array Slot} (E : CallFix p m c cjm_abs 1 s args tw R_jm) (hl : lv_has ls 1 [(0, .int v0)]) (hret : sri p l env (rmD 0) s m args below meth c cjm_abs .int Q (fjm_abs v0)) : W p l env (rmD 0) s m args below meth c s.heap [] 0 0 Q (F0 m 0 ls []) := by
  have hx := E.1; have hb := E.2.1
  unfold fjm_abs at hret
  refine lv_iload_n hx hb djm_abs_0 rfl (lv_at hl 0 rfl) ?_
  refine lv_if_ge (tgt := 9) hx hb djm_abs_1 (by decide) (fun h1 => ?_) (fun h1 => ?_)
  · rw [if_pos h1] at hret
    refine lv_iload_n hx hb djm_abs_9 rfl (lv_at hl 0 rfl) ?_
    exact hret _ _ djm_abs_10  (nw_i _)
  · rw [if_neg h1] at hret
    refine lv_iload_n hx hb djm_abs_4 rfl (lv_at hl 0 rfl) ?_
    refine lv_ineg hx hb djm_abs_5 ?_
    refine lv_goto (tgt := 10) hx hb djm_abs_6 (by decide) ?_
    exact hret _ _ djm_abs_10  (nw_i _)
set_option maxRecDepth 100000 in
set_option maxHeartbeats 4000000 in
theorem mjm_abs (l : Launch) (v0 : Int32) : sMet l yjm_abs cjm_abs 1 (some .int) 0 [.int v0] (.int (fjm_abs v0)) :=
  sMet.ofi (by decide +kernel) (Nat.le_of_ble_eq_true rfl) (fun p env s m args below meth c ls Q E hl hret => wjm_abs_0 E (lv_sub hl [0] rfl) hret)
theorem gkjm_abs_in_z : sW R_z 169 yjm_abs cjm_abs 1 (some .int) 1 := ⟨wc_jm_abs, wl_z_169, wt_jm_abs, wn_jm, ⟨by decide, by decide, by decide +kernel⟩, by decide⟩
theorem kjm_abs_in_z {p : Program} {l : Launch} {env : Env} {s : State} {m : MethodId} {args : Array Value} {below : List Frame} {meth : Method} {c : Code} {H : Heap} {locs : List Loc} {Q : State → Prop} {cc : ByteArray} {pc nL d : Nat} {ls : Array Slot} {rest : List Value} {v0 : Int32} (E : CallFix p m c cc nL s args tw R_z) (hls : ls.size = nL) (hd : 0 + 1 ≤ d) (hr : (rest.map fun v => v.category).sum ≤ 8) (hdg : decode cc pc = .ok (.invokestatic 169, 3)) (kk : W p l env (rmD d) s m args below meth c H locs 0 0 Q (F0 m (pc + 3) ls (.int (fjm_abs v0) :: rest))) : W p l env (rmD d) s m args below meth c H locs 0 0 Q (F0 m pc ls (.int v0 :: rest)) :=
  scall (av := [.int v0]) E (mjm_abs l v0) gkjm_abs_in_z rfl hls hd hr hdg kk
/-! java/lang/Math.abs (J)J -/
def fjm_absJ (v0 : Int64) : Int64 :=
  if (0 : Int64) ≤ v0 then
    v0
  else
    (-v0)
set_option maxRecDepth 100000 in
set_option maxHeartbeats 4000000 in
theorem wjm_absJ_0 {v0 : Int64} {ls : Array Slot} (E : CallFix p m c cjm_absJ 2 s args tw R_jm) (hl : lv_has ls 2 [(0, .long v0)]) (hret : srl p l env (rmD 0) s m args below meth c cjm_absJ .long Q (fjm_absJ v0)) : W p l env (rmD 0) s m args below meth c s.heap [] 0 0 Q (F0 m 0 ls []) := by
  have hx := E.1; have hb := E.2.1
  unfold fjm_absJ at hret
  refine lv_lload_n hx hb djm_absJ_0 rfl (lv_at hl 0 rfl) ?_
  refine lv_lconst (v := (0 : Int64)) hx hb djm_absJ_1 (by decide) ?_
  refine tt_lcmp_ge (tgt := 11) hx hb djm_absJ_2 djm_absJ_3 (by decide) (fun h1 => ?_) (fun h1 => ?_)
  · rw [if_pos h1] at hret
    refine lv_lload_n hx hb djm_absJ_11 rfl (lv_at hl 0 rfl) ?_
    exact hret _ _ djm_absJ_12  (nw_l _)
  · rw [if_neg h1] at hret
    refine lv_lload_n hx hb djm_absJ_6 rfl (lv_at hl 0 rfl) ?_
    refine lv_lneg hx hb djm_absJ_7 ?_
    refine lv_goto (tgt := 12) hx hb djm_absJ_8 (by decide) ?_
    exact hret _ _ djm_absJ_12  (nw_l _)
set_option maxRecDepth 100000 in
set_option maxHeartbeats 4000000 in
theorem mjm_absJ (l : Launch) (v0 : Int64) : sMet l yjm_absJ cjm_absJ 2 (some .long) 0 [.long v0] (.long (fjm_absJ v0)) :=
  sMet.ofl (by decide +kernel) (Nat.le_of_ble_eq_true rfl) (fun p env s m args below meth c ls Q E hl hret => wjm_absJ_0 E (lv_sub hl [0] rfl) hret)
theorem gkjm_absJ_in_x : sW R_x 144 yjm_absJ cjm_absJ 2 (some .long) 1 := ⟨wc_jm_absJ, wl_x_144, wt_jm_absJ, wn_jm, ⟨by decide, by decide, by decide +kernel⟩, by decide⟩
theorem kjm_absJ_in_x {p : Program} {l : Launch} {env : Env} {s : State} {m : MethodId} {args : Array Value} {below : List Frame} {meth : Method} {c : Code} {H : Heap} {locs : List Loc} {Q : State → Prop} {cc : ByteArray} {pc nL d : Nat} {ls : Array Slot} {rest : List Value} {v0 : Int64} (E : CallFix p m c cc nL s args tw R_x) (hls : ls.size = nL) (hd : 0 + 1 ≤ d) (hr : (rest.map fun v => v.category).sum ≤ 8) (hdg : decode cc pc = .ok (.invokestatic 144, 3)) (kk : W p l env (rmD d) s m args below meth c H locs 0 0 Q (F0 m (pc + 3) ls (.long (fjm_absJ v0) :: rest))) : W p l env (rmD d) s m args below meth c H locs 0 0 Q (F0 m pc ls (.long v0 :: rest)) :=
  scall (av := [.long v0]) E (mjm_absJ l v0) gkjm_absJ_in_x rfl hls hd hr hdg kk
/-! java/lang/Math.floorMod (II)I -/
def fjm_floorMod (v0 : Int32) (v1 : Int32) : Int32 :=
  if 0 ≤ (v0 ^^^ v1) then
    (v0 - v0 / v1 * v1)
  else
    if (v0 - v0 / v1 * v1) = 0 then
      (v0 - v0 / v1 * v1)
    else
      ((v0 - v0 / v1 * v1) + v1)
set_option maxRecDepth 100000 in
set_option maxHeartbeats 4000000 in
theorem wjm_floorMod_0 {v0 : Int32} {v1 : Int32} {ls : Array Slot} (E : CallFix p m c cjm_floorMod 3 s args tw R_jm) (hl : lv_has ls 3 [(0, .int v0), (1, .int v1)]) (hm0 : ¬ v1 = 0) (hret : sri p l env (rmD 0) s m args below meth c cjm_floorMod .int Q (fjm_floorMod v0 v1)) : W p l env (rmD 0) s m args below meth c s.heap [] 0 0 Q (F0 m 0 ls []) := by
  have hx := E.1; have hb := E.2.1
  unfold fjm_floorMod at hret
  refine lv_iload_n hx hb djm_floorMod_0 rfl (lv_at hl 0 rfl) ?_
  refine lv_iload_n hx hb djm_floorMod_1 rfl (lv_at hl 1 rfl) ?_
  refine lv_irem hx hb djm_floorMod_2 (hm0) ?_
  refine lv_istore_n (lv' := [(2, .int (v0 - v0 / v1 * v1)), (0, .int v0), (1, .int v1)]) hx hb djm_floorMod_3 rfl hl (by decide) rfl (fun ls hl => ?_)
  refine lv_iload_n hx hb djm_floorMod_4 rfl (lv_at hl 1 rfl) ?_
  refine lv_iload_n hx hb djm_floorMod_5 rfl (lv_at hl 2 rfl) ?_
  refine lv_ixor hx hb djm_floorMod_6 ?_
  refine lv_if_ge (tgt := 18) hx hb djm_floorMod_7 (by decide) (fun h1 => ?_) (fun h1 => ?_)
  · rw [if_pos h1] at hret
    refine lv_iload_n hx hb djm_floorMod_18 rfl (lv_at hl 0 rfl) ?_
    exact hret _ _ djm_floorMod_19  (nw_i _)
  · rw [if_neg h1] at hret
    refine lv_iload_n hx hb djm_floorMod_10 rfl (lv_at hl 0 rfl) ?_
    refine lv_if_eq (tgt := 18) hx hb djm_floorMod_11 (by decide) (fun h2 => ?_) (fun h2 => ?_)
    · rw [if_pos h2] at hret
      refine lv_iload_n hx hb djm_floorMod_18 rfl (lv_at hl 0 rfl) ?_
      exact hret _ _ djm_floorMod_19  (nw_i _)
    · rw [if_neg h2] at hret
      refine lv_iload_n hx hb djm_floorMod_14 rfl (lv_at hl 0 rfl) ?_
      refine lv_iload_n hx hb djm_floorMod_15 rfl (lv_at hl 2 rfl) ?_
      refine lv_iadd hx hb djm_floorMod_16 ?_
      exact hret _ _ djm_floorMod_17  (nw_i _)
set_option maxRecDepth 100000 in
set_option maxHeartbeats 4000000 in
theorem mjm_floorMod (l : Launch) (v0 : Int32) (v1 : Int32) (hm0 : ¬ v1 = 0) : sMet l yjm_floorMod cjm_floorMod 3 (some .int) 0 [.int v0, .int v1] (.int (fjm_floorMod v0 v1)) :=
  sMet.ofi (by decide +kernel) (Nat.le_of_ble_eq_true rfl) (fun p env s m args below meth c ls Q E hl hret => wjm_floorMod_0 E (lv_sub hl [0, 1] rfl) hm0 hret)
theorem gkjm_floorMod_in_x : sW R_x 184 yjm_floorMod cjm_floorMod 3 (some .int) 2 := ⟨wc_jm_floorMod, wl_x_184, wt_jm_floorMod, wn_jm, ⟨by decide, by decide, by decide +kernel⟩, by decide⟩
theorem kjm_floorMod_in_x {p : Program} {l : Launch} {env : Env} {s : State} {m : MethodId} {args : Array Value} {below : List Frame} {meth : Method} {c : Code} {H : Heap} {locs : List Loc} {Q : State → Prop} {cc : ByteArray} {pc nL d : Nat} {ls : Array Slot} {rest : List Value} {v0 : Int32} {v1 : Int32} (E : CallFix p m c cc nL s args tw R_x) (hls : ls.size = nL) (hm0 : ¬ v1 = 0) (hd : 0 + 1 ≤ d) (hr : (rest.map fun v => v.category).sum ≤ 8) (hdg : decode cc pc = .ok (.invokestatic 184, 3)) (kk : W p l env (rmD d) s m args below meth c H locs 0 0 Q (F0 m (pc + 3) ls (.int (fjm_floorMod v0 v1) :: rest))) : W p l env (rmD d) s m args below meth c H locs 0 0 Q (F0 m pc ls (.int v1 :: .int v0 :: rest)) :=
  scall (av := [.int v0, .int v1]) E (mjm_floorMod l v0 v1 hm0) gkjm_floorMod_in_x rfl hls hd hr hdg kk
/-! java/lang/Math.max (II)I -/
def fjm_max (v0 : Int32) (v1 : Int32) : Int32 :=
  if v0 < v1 then
    v1
  else
    v0
set_option maxRecDepth 100000 in
set_option maxHeartbeats 4000000 in
theorem wjm_max_0 {v0 : Int32} {v1 : Int32} {ls : Array Slot} (E : CallFix p m c cjm_max 2 s args tw R_jm) (hl : lv_has ls 2 [(0, .int v0), (1, .int v1)]) (hret : sri p l env (rmD 0) s m args below meth c cjm_max .int Q (fjm_max v0 v1)) : W p l env (rmD 0) s m args below meth c s.heap [] 0 0 Q (F0 m 0 ls []) := by
  have hx := E.1; have hb := E.2.1
  unfold fjm_max at hret
  refine lv_iload_n hx hb djm_max_0 rfl (lv_at hl 0 rfl) ?_
  refine lv_iload_n hx hb djm_max_1 rfl (lv_at hl 1 rfl) ?_
  refine lv_icmp_lt (tgt := 9) hx hb djm_max_2 (by decide) (fun h1 => ?_) (fun h1 => ?_)
  · rw [if_pos h1] at hret
    refine lv_iload_n hx hb djm_max_9 rfl (lv_at hl 1 rfl) ?_
    exact hret _ _ djm_max_10  (nw_i _)
  · rw [if_neg h1] at hret
    refine lv_iload_n hx hb djm_max_5 rfl (lv_at hl 0 rfl) ?_
    refine lv_goto (tgt := 10) hx hb djm_max_6 (by decide) ?_
    exact hret _ _ djm_max_10  (nw_i _)
set_option maxRecDepth 100000 in
set_option maxHeartbeats 4000000 in
theorem mjm_max (l : Launch) (v0 : Int32) (v1 : Int32) : sMet l yjm_max cjm_max 2 (some .int) 0 [.int v0, .int v1] (.int (fjm_max v0 v1)) :=
  sMet.ofi (by decide +kernel) (Nat.le_of_ble_eq_true rfl) (fun p env s m args below meth c ls Q E hl hret => wjm_max_0 E (lv_sub hl [0, 1] rfl) hret)
theorem gkjm_max_in_x : sW R_x 195 yjm_max cjm_max 2 (some .int) 2 := ⟨wc_jm_max, wl_x_195, wt_jm_max, wn_jm, ⟨by decide, by decide, by decide +kernel⟩, by decide⟩
theorem kjm_max_in_x {p : Program} {l : Launch} {env : Env} {s : State} {m : MethodId} {args : Array Value} {below : List Frame} {meth : Method} {c : Code} {H : Heap} {locs : List Loc} {Q : State → Prop} {cc : ByteArray} {pc nL d : Nat} {ls : Array Slot} {rest : List Value} {v0 : Int32} {v1 : Int32} (E : CallFix p m c cc nL s args tw R_x) (hls : ls.size = nL) (hd : 0 + 1 ≤ d) (hr : (rest.map fun v => v.category).sum ≤ 8) (hdg : decode cc pc = .ok (.invokestatic 195, 3)) (kk : W p l env (rmD d) s m args below meth c H locs 0 0 Q (F0 m (pc + 3) ls (.int (fjm_max v0 v1) :: rest))) : W p l env (rmD d) s m args below meth c H locs 0 0 Q (F0 m pc ls (.int v1 :: .int v0 :: rest)) :=
  scall (av := [.int v0, .int v1]) E (mjm_max l v0 v1) gkjm_max_in_x rfl hls hd hr hdg kk
theorem gkjm_max_in_z : sW R_z 173 yjm_max cjm_max 2 (some .int) 2 := ⟨wc_jm_max, wl_z_173, wt_jm_max, wn_jm, ⟨by decide, by decide, by decide +kernel⟩, by decide⟩
theorem kjm_max_in_z {p : Program} {l : Launch} {env : Env} {s : State} {m : MethodId} {args : Array Value} {below : List Frame} {meth : Method} {c : Code} {H : Heap} {locs : List Loc} {Q : State → Prop} {cc : ByteArray} {pc nL d : Nat} {ls : Array Slot} {rest : List Value} {v0 : Int32} {v1 : Int32} (E : CallFix p m c cc nL s args tw R_z) (hls : ls.size = nL) (hd : 0 + 1 ≤ d) (hr : (rest.map fun v => v.category).sum ≤ 8) (hdg : decode cc pc = .ok (.invokestatic 173, 3)) (kk : W p l env (rmD d) s m args below meth c H locs 0 0 Q (F0 m (pc + 3) ls (.int (fjm_max v0 v1) :: rest))) : W p l env (rmD d) s m args below meth c H locs 0 0 Q (F0 m pc ls (.int v1 :: .int v0 :: rest)) :=
  scall (av := [.int v0, .int v1]) E (mjm_max l v0 v1) gkjm_max_in_z rfl hls hd hr hdg kk
/-! java/lang/Math.min (II)I -/
def fjm_min (v0 : Int32) (v1 : Int32) : Int32 :=
  if v1 < v0 then
    v1
  else
    v0
set_option maxRecDepth 100000 in
set_option maxHeartbeats 4000000 in
theorem wjm_min_0 {v0 : Int32} {v1 : Int32} {ls : Array Slot} (E : CallFix p m c cjm_min 2 s args tw R_jm) (hl : lv_has ls 2 [(0, .int v0), (1, .int v1)]) (hret : sri p l env (rmD 0) s m args below meth c cjm_min .int Q (fjm_min v0 v1)) : W p l env (rmD 0) s m args below meth c s.heap [] 0 0 Q (F0 m 0 ls []) := by
  have hx := E.1; have hb := E.2.1
  unfold fjm_min at hret
  refine lv_iload_n hx hb djm_min_0 rfl (lv_at hl 0 rfl) ?_
  refine lv_iload_n hx hb djm_min_1 rfl (lv_at hl 1 rfl) ?_
  refine lv_icmp_gt (tgt := 9) hx hb djm_min_2 (by decide) (fun h1 => ?_) (fun h1 => ?_)
  · rw [if_pos h1] at hret
    refine lv_iload_n hx hb djm_min_9 rfl (lv_at hl 1 rfl) ?_
    exact hret _ _ djm_min_10  (nw_i _)
  · rw [if_neg h1] at hret
    refine lv_iload_n hx hb djm_min_5 rfl (lv_at hl 0 rfl) ?_
    refine lv_goto (tgt := 10) hx hb djm_min_6 (by decide) ?_
    exact hret _ _ djm_min_10  (nw_i _)
set_option maxRecDepth 100000 in
set_option maxHeartbeats 4000000 in
theorem mjm_min (l : Launch) (v0 : Int32) (v1 : Int32) : sMet l yjm_min cjm_min 2 (some .int) 0 [.int v0, .int v1] (.int (fjm_min v0 v1)) :=
  sMet.ofi (by decide +kernel) (Nat.le_of_ble_eq_true rfl) (fun p env s m args below meth c ls Q E hl hret => wjm_min_0 E (lv_sub hl [0, 1] rfl) hret)
theorem gkjm_min_in_x : sW R_x 176 yjm_min cjm_min 2 (some .int) 2 := ⟨wc_jm_min, wl_x_176, wt_jm_min, wn_jm, ⟨by decide, by decide, by decide +kernel⟩, by decide⟩
theorem kjm_min_in_x {p : Program} {l : Launch} {env : Env} {s : State} {m : MethodId} {args : Array Value} {below : List Frame} {meth : Method} {c : Code} {H : Heap} {locs : List Loc} {Q : State → Prop} {cc : ByteArray} {pc nL d : Nat} {ls : Array Slot} {rest : List Value} {v0 : Int32} {v1 : Int32} (E : CallFix p m c cc nL s args tw R_x) (hls : ls.size = nL) (hd : 0 + 1 ≤ d) (hr : (rest.map fun v => v.category).sum ≤ 8) (hdg : decode cc pc = .ok (.invokestatic 176, 3)) (kk : W p l env (rmD d) s m args below meth c H locs 0 0 Q (F0 m (pc + 3) ls (.int (fjm_min v0 v1) :: rest))) : W p l env (rmD d) s m args below meth c H locs 0 0 Q (F0 m pc ls (.int v1 :: .int v0 :: rest)) :=
  scall (av := [.int v0, .int v1]) E (mjm_min l v0 v1) gkjm_min_in_x rfl hls hd hr hdg kk
/-! java/lang/Math.multiplyHigh (JJ)J -/
def fjm_multiplyHigh (v0 : Int64) (v2 : Int64) : Int64 :=
  ((((v0 >>> ((32 : Int32).toInt64 &&& 63)) * (v2 >>> ((32 : Int32).toInt64 &&& 63))) + ((((v0 >>> ((32 : Int32).toInt64 &&& 63)) * (v2 &&& (4294967295 : Int64))) + ((((v0 &&& (4294967295 : Int64)) * (v2 &&& (4294967295 : Int64))).toUInt64 >>> ((32 : Int32).toInt64.toUInt64 &&& Int64.toUInt64 63)).toInt64)) >>> ((32 : Int32).toInt64 &&& 63))) + ((((((v0 >>> ((32 : Int32).toInt64 &&& 63)) * (v2 &&& (4294967295 : Int64))) + ((((v0 &&& (4294967295 : Int64)) * (v2 &&& (4294967295 : Int64))).toUInt64 >>> ((32 : Int32).toInt64.toUInt64 &&& Int64.toUInt64 63)).toInt64)) &&& (4294967295 : Int64)) + ((v0 &&& (4294967295 : Int64)) * (v2 >>> ((32 : Int32).toInt64 &&& 63)))) >>> ((32 : Int32).toInt64 &&& 63)))
set_option maxRecDepth 100000 in
set_option maxHeartbeats 4000000 in
theorem wjm_multiplyHigh_0 {v0 : Int64} {v2 : Int64} {ls : Array Slot} (E : CallFix p m c cjm_multiplyHigh 20 s args tw R_jm) (hl : lv_has ls 20 [(0, .long v0), (2, .long v2)]) (hret : srl p l env (rmD 0) s m args below meth c cjm_multiplyHigh .long Q (fjm_multiplyHigh v0 v2)) : W p l env (rmD 0) s m args below meth c s.heap [] 0 0 Q (F0 m 0 ls []) := by
  have hx := E.1; have hb := E.2.1
  unfold fjm_multiplyHigh at hret
  refine lv_lload_n hx hb djm_multiplyHigh_0 rfl (lv_at hl 0 rfl) ?_
  refine lv_bipush (v := (32 : Int32)) hx hb djm_multiplyHigh_1 (by decide) ?_
  refine lv_lshr hx hb djm_multiplyHigh_3 rfl ?_
  refine lv_lstore (lv' := [(4, .long (v0 >>> ((32 : Int32).toInt64 &&& 63))), (0, .long v0), (2, .long v2)]) hx hb djm_multiplyHigh_4 hl (by decide) rfl (fun ls hl => ?_)
  refine lv_lload_n hx hb djm_multiplyHigh_6 rfl (lv_at hl 1 rfl) ?_
  refine lv_ldc2 hx hb E.2.2.2.1 (E.2.2.2.2 _ ct_jm_138) djm_multiplyHigh_7 ?_
  refine lv_land hx hb djm_multiplyHigh_10 ?_
  refine lv_lstore (lv' := [(6, .long (v0 &&& (4294967295 : Int64))), (4, .long (v0 >>> ((32 : Int32).toInt64 &&& 63))), (0, .long v0), (2, .long v2)]) hx hb djm_multiplyHigh_11 hl (by decide) rfl (fun ls hl => ?_)
  refine lv_lload_n hx hb djm_multiplyHigh_13 rfl (lv_at hl 3 rfl) ?_
  refine lv_bipush (v := (32 : Int32)) hx hb djm_multiplyHigh_14 (by decide) ?_
  refine lv_lshr hx hb djm_multiplyHigh_16 rfl ?_
  refine lv_lstore (lv' := [(8, .long (v2 >>> ((32 : Int32).toInt64 &&& 63))), (6, .long (v0 &&& (4294967295 : Int64))), (4, .long (v0 >>> ((32 : Int32).toInt64 &&& 63))), (0, .long v0), (2, .long v2)]) hx hb djm_multiplyHigh_17 hl (by decide) rfl (fun ls hl => ?_)
  refine lv_lload_n hx hb djm_multiplyHigh_19 rfl (lv_at hl 4 rfl) ?_
  refine lv_ldc2 hx hb E.2.2.2.1 (E.2.2.2.2 _ ct_jm_138) djm_multiplyHigh_20 ?_
  refine lv_land hx hb djm_multiplyHigh_23 ?_
  refine lv_lstore (lv' := [(10, .long (v2 &&& (4294967295 : Int64))), (8, .long (v2 >>> ((32 : Int32).toInt64 &&& 63))), (6, .long (v0 &&& (4294967295 : Int64))), (4, .long (v0 >>> ((32 : Int32).toInt64 &&& 63))), (0, .long v0), (2, .long v2)]) hx hb djm_multiplyHigh_24 hl (by decide) rfl (fun ls hl => ?_)
  refine lv_lload hx hb djm_multiplyHigh_26 (lv_at hl 2 rfl) ?_
  refine lv_lload hx hb djm_multiplyHigh_28 (lv_at hl 0 rfl) ?_
  refine lv_lmul hx hb djm_multiplyHigh_30 ?_
  refine lv_lstore (lv' := [(12, .long ((v0 &&& (4294967295 : Int64)) * (v2 &&& (4294967295 : Int64)))), (10, .long (v2 &&& (4294967295 : Int64))), (8, .long (v2 >>> ((32 : Int32).toInt64 &&& 63))), (6, .long (v0 &&& (4294967295 : Int64))), (4, .long (v0 >>> ((32 : Int32).toInt64 &&& 63))), (0, .long v0), (2, .long v2)]) hx hb djm_multiplyHigh_31 hl (by decide) rfl (fun ls hl => ?_)
  refine lv_lload hx hb djm_multiplyHigh_33 (lv_at hl 4 rfl) ?_
  refine lv_lload hx hb djm_multiplyHigh_35 (lv_at hl 1 rfl) ?_
  refine lv_lmul hx hb djm_multiplyHigh_37 ?_
  refine lv_lload hx hb djm_multiplyHigh_38 (lv_at hl 0 rfl) ?_
  refine lv_bipush (v := (32 : Int32)) hx hb djm_multiplyHigh_40 (by decide) ?_
  refine lv_lushr hx hb djm_multiplyHigh_42 rfl ?_
  refine lv_ladd hx hb djm_multiplyHigh_43 ?_
  refine lv_lstore (lv' := [(14, .long (((v0 >>> ((32 : Int32).toInt64 &&& 63)) * (v2 &&& (4294967295 : Int64))) + ((((v0 &&& (4294967295 : Int64)) * (v2 &&& (4294967295 : Int64))).toUInt64 >>> ((32 : Int32).toInt64.toUInt64 &&& Int64.toUInt64 63)).toInt64))), (12, .long ((v0 &&& (4294967295 : Int64)) * (v2 &&& (4294967295 : Int64)))), (10, .long (v2 &&& (4294967295 : Int64))), (8, .long (v2 >>> ((32 : Int32).toInt64 &&& 63))), (6, .long (v0 &&& (4294967295 : Int64))), (4, .long (v0 >>> ((32 : Int32).toInt64 &&& 63))), (0, .long v0), (2, .long v2)]) hx hb djm_multiplyHigh_44 hl (by decide) rfl (fun ls hl => ?_)
  refine lv_lload hx hb djm_multiplyHigh_46 (lv_at hl 0 rfl) ?_
  refine lv_ldc2 hx hb E.2.2.2.1 (E.2.2.2.2 _ ct_jm_138) djm_multiplyHigh_48 ?_
  refine lv_land hx hb djm_multiplyHigh_51 ?_
  refine lv_lstore (lv' := [(16, .long ((((v0 >>> ((32 : Int32).toInt64 &&& 63)) * (v2 &&& (4294967295 : Int64))) + ((((v0 &&& (4294967295 : Int64)) * (v2 &&& (4294967295 : Int64))).toUInt64 >>> ((32 : Int32).toInt64.toUInt64 &&& Int64.toUInt64 63)).toInt64)) &&& (4294967295 : Int64))), (14, .long (((v0 >>> ((32 : Int32).toInt64 &&& 63)) * (v2 &&& (4294967295 : Int64))) + ((((v0 &&& (4294967295 : Int64)) * (v2 &&& (4294967295 : Int64))).toUInt64 >>> ((32 : Int32).toInt64.toUInt64 &&& Int64.toUInt64 63)).toInt64))), (12, .long ((v0 &&& (4294967295 : Int64)) * (v2 &&& (4294967295 : Int64)))), (10, .long (v2 &&& (4294967295 : Int64))), (8, .long (v2 >>> ((32 : Int32).toInt64 &&& 63))), (6, .long (v0 &&& (4294967295 : Int64))), (4, .long (v0 >>> ((32 : Int32).toInt64 &&& 63))), (0, .long v0), (2, .long v2)]) hx hb djm_multiplyHigh_52 hl (by decide) rfl (fun ls hl => ?_)
  refine lv_lload hx hb djm_multiplyHigh_54 (lv_at hl 1 rfl) ?_
  refine lv_bipush (v := (32 : Int32)) hx hb djm_multiplyHigh_56 (by decide) ?_
  refine lv_lshr hx hb djm_multiplyHigh_58 rfl ?_
  refine lv_lstore (lv' := [(18, .long ((((v0 >>> ((32 : Int32).toInt64 &&& 63)) * (v2 &&& (4294967295 : Int64))) + ((((v0 &&& (4294967295 : Int64)) * (v2 &&& (4294967295 : Int64))).toUInt64 >>> ((32 : Int32).toInt64.toUInt64 &&& Int64.toUInt64 63)).toInt64)) >>> ((32 : Int32).toInt64 &&& 63))), (16, .long ((((v0 >>> ((32 : Int32).toInt64 &&& 63)) * (v2 &&& (4294967295 : Int64))) + ((((v0 &&& (4294967295 : Int64)) * (v2 &&& (4294967295 : Int64))).toUInt64 >>> ((32 : Int32).toInt64.toUInt64 &&& Int64.toUInt64 63)).toInt64)) &&& (4294967295 : Int64))), (14, .long (((v0 >>> ((32 : Int32).toInt64 &&& 63)) * (v2 &&& (4294967295 : Int64))) + ((((v0 &&& (4294967295 : Int64)) * (v2 &&& (4294967295 : Int64))).toUInt64 >>> ((32 : Int32).toInt64.toUInt64 &&& Int64.toUInt64 63)).toInt64))), (12, .long ((v0 &&& (4294967295 : Int64)) * (v2 &&& (4294967295 : Int64)))), (10, .long (v2 &&& (4294967295 : Int64))), (8, .long (v2 >>> ((32 : Int32).toInt64 &&& 63))), (6, .long (v0 &&& (4294967295 : Int64))), (4, .long (v0 >>> ((32 : Int32).toInt64 &&& 63))), (0, .long v0), (2, .long v2)]) hx hb djm_multiplyHigh_59 hl (by decide) rfl (fun ls hl => ?_)
  refine lv_lload hx hb djm_multiplyHigh_61 (lv_at hl 1 rfl) ?_
  refine lv_lload hx hb djm_multiplyHigh_63 (lv_at hl 6 rfl) ?_
  refine lv_lload hx hb djm_multiplyHigh_65 (lv_at hl 5 rfl) ?_
  refine lv_lmul hx hb djm_multiplyHigh_67 ?_
  refine lv_ladd hx hb djm_multiplyHigh_68 ?_
  refine lv_lstore (lv' := [(16, .long (((((v0 >>> ((32 : Int32).toInt64 &&& 63)) * (v2 &&& (4294967295 : Int64))) + ((((v0 &&& (4294967295 : Int64)) * (v2 &&& (4294967295 : Int64))).toUInt64 >>> ((32 : Int32).toInt64.toUInt64 &&& Int64.toUInt64 63)).toInt64)) &&& (4294967295 : Int64)) + ((v0 &&& (4294967295 : Int64)) * (v2 >>> ((32 : Int32).toInt64 &&& 63))))), (18, .long ((((v0 >>> ((32 : Int32).toInt64 &&& 63)) * (v2 &&& (4294967295 : Int64))) + ((((v0 &&& (4294967295 : Int64)) * (v2 &&& (4294967295 : Int64))).toUInt64 >>> ((32 : Int32).toInt64.toUInt64 &&& Int64.toUInt64 63)).toInt64)) >>> ((32 : Int32).toInt64 &&& 63))), (14, .long (((v0 >>> ((32 : Int32).toInt64 &&& 63)) * (v2 &&& (4294967295 : Int64))) + ((((v0 &&& (4294967295 : Int64)) * (v2 &&& (4294967295 : Int64))).toUInt64 >>> ((32 : Int32).toInt64.toUInt64 &&& Int64.toUInt64 63)).toInt64))), (12, .long ((v0 &&& (4294967295 : Int64)) * (v2 &&& (4294967295 : Int64)))), (10, .long (v2 &&& (4294967295 : Int64))), (8, .long (v2 >>> ((32 : Int32).toInt64 &&& 63))), (6, .long (v0 &&& (4294967295 : Int64))), (4, .long (v0 >>> ((32 : Int32).toInt64 &&& 63))), (0, .long v0), (2, .long v2)]) hx hb djm_multiplyHigh_69 hl (by decide) rfl (fun ls hl => ?_)
  refine lv_lload hx hb djm_multiplyHigh_71 (lv_at hl 7 rfl) ?_
  refine lv_lload hx hb djm_multiplyHigh_73 (lv_at hl 5 rfl) ?_
  refine lv_lmul hx hb djm_multiplyHigh_75 ?_
  refine lv_lload hx hb djm_multiplyHigh_76 (lv_at hl 1 rfl) ?_
  refine lv_ladd hx hb djm_multiplyHigh_78 ?_
  refine lv_lload hx hb djm_multiplyHigh_79 (lv_at hl 0 rfl) ?_
  refine lv_bipush (v := (32 : Int32)) hx hb djm_multiplyHigh_81 (by decide) ?_
  refine lv_lshr hx hb djm_multiplyHigh_83 rfl ?_
  refine lv_ladd hx hb djm_multiplyHigh_84 ?_
  exact hret _ _ djm_multiplyHigh_85  (nw_l _)
set_option maxRecDepth 100000 in
set_option maxHeartbeats 4000000 in
theorem mjm_multiplyHigh (l : Launch) (v0 : Int64) (v2 : Int64) : sMet l yjm_multiplyHigh cjm_multiplyHigh 20 (some .long) 0 [.long v0, .long v2] (.long (fjm_multiplyHigh v0 v2)) :=
  sMet.ofl (by decide +kernel) (Nat.le_of_ble_eq_true rfl) (fun p env s m args below meth c ls Q E hl hret => wjm_multiplyHigh_0 E (lv_sub hl [0, 1] rfl) hret)
theorem gkjm_multiplyHigh_in_z : sW R_z 151 yjm_multiplyHigh cjm_multiplyHigh 20 (some .long) 2 := ⟨wc_jm_multiplyHigh, wl_z_151, wt_jm_multiplyHigh, wn_jm, ⟨by decide, by decide, by decide +kernel⟩, by decide⟩
theorem kjm_multiplyHigh_in_z {p : Program} {l : Launch} {env : Env} {s : State} {m : MethodId} {args : Array Value} {below : List Frame} {meth : Method} {c : Code} {H : Heap} {locs : List Loc} {Q : State → Prop} {cc : ByteArray} {pc nL d : Nat} {ls : Array Slot} {rest : List Value} {v0 : Int64} {v2 : Int64} (E : CallFix p m c cc nL s args tw R_z) (hls : ls.size = nL) (hd : 0 + 1 ≤ d) (hr : (rest.map fun v => v.category).sum ≤ 8) (hdg : decode cc pc = .ok (.invokestatic 151, 3)) (kk : W p l env (rmD d) s m args below meth c H locs 0 0 Q (F0 m (pc + 3) ls (.long (fjm_multiplyHigh v0 v2) :: rest))) : W p l env (rmD d) s m args below meth c H locs 0 0 Q (F0 m pc ls (.long v2 :: .long v0 :: rest)) :=
  scall (av := [.long v0, .long v2]) E (mjm_multiplyHigh l v0 v2) gkjm_multiplyHigh_in_z rfl hls hd hr hdg kk
/-! java/lang/Integer.numberOfLeadingZeros (I)I -/
def fji_numberOfLeadingZeros_61 (v0 : Int32) (v1 : Int32) : Int32 :=
  if v0 < (4 : Int32) then
    (v1 - ((v0.toUInt32 >>> ((1 : Int32).toUInt32 &&& Int32.toUInt32 31)).toInt32))
  else
    ((v1 + (-2)) - ((((v0.toUInt32 >>> ((2 : Int32).toUInt32 &&& Int32.toUInt32 31)).toInt32).toUInt32 >>> ((1 : Int32).toUInt32 &&& Int32.toUInt32 31)).toInt32))
set_option maxRecDepth 100000 in
set_option maxHeartbeats 4000000 in
theorem wji_numberOfLeadingZeros_61 {v0 : Int32} {v1 : Int32} {ls : Array Slot} (E : CallFix p m c cji_numberOfLeadingZeros 2 s args tw R_ji) (hl : lv_has ls 2 [(0, .int v0), (1, .int v1)]) (hret : sri p l env (rmD 0) s m args below meth c cji_numberOfLeadingZeros .int Q (fji_numberOfLeadingZeros_61 v0 v1)) : W p l env (rmD 0) s m args below meth c s.heap [] 0 0 Q (F0 m 61 ls []) := by
  have hx := E.1; have hb := E.2.1
  unfold fji_numberOfLeadingZeros_61 at hret
  refine lv_iload_n hx hb dji_numberOfLeadingZeros_61 rfl (lv_at hl 0 rfl) ?_
  refine lv_iconst (v := (4 : Int32)) hx hb dji_numberOfLeadingZeros_62 (by decide) ?_
  refine lv_icmp_lt (tgt := 73) hx hb dji_numberOfLeadingZeros_63 (by decide) (fun h1 => ?_) (fun h1 => ?_)
  · rw [if_pos h1] at hret
    refine lv_iload_n hx hb dji_numberOfLeadingZeros_73 rfl (lv_at hl 1 rfl) ?_
    refine lv_iload_n hx hb dji_numberOfLeadingZeros_74 rfl (lv_at hl 0 rfl) ?_
    refine lv_iconst (v := (1 : Int32)) hx hb dji_numberOfLeadingZeros_75 (by decide) ?_
    refine lv_iushr hx hb dji_numberOfLeadingZeros_76 rfl ?_
    refine lv_isub hx hb dji_numberOfLeadingZeros_77 ?_
    exact hret _ _ dji_numberOfLeadingZeros_78  (nw_i _)
  · rw [if_neg h1] at hret
    refine lv_iinc (v := (v1 + (-2))) (lv' := [(1, .int (v1 + (-2))), (0, .int v0)]) hx hb dji_numberOfLeadingZeros_66 hl (k := 1) rfl (by rfl) (by decide) rfl (fun ls hl => ?_)
    refine lv_iload_n hx hb dji_numberOfLeadingZeros_69 rfl (lv_at hl 1 rfl) ?_
    refine lv_iconst (v := (2 : Int32)) hx hb dji_numberOfLeadingZeros_70 (by decide) ?_
    refine lv_iushr hx hb dji_numberOfLeadingZeros_71 rfl ?_
    refine lv_istore_n (lv' := [(0, .int ((v0.toUInt32 >>> ((2 : Int32).toUInt32 &&& Int32.toUInt32 31)).toInt32)), (1, .int (v1 + (-2)))]) hx hb dji_numberOfLeadingZeros_72 rfl hl (by decide) rfl (fun ls hl => ?_)
    refine lv_iload_n hx hb dji_numberOfLeadingZeros_73 rfl (lv_at hl 1 rfl) ?_
    refine lv_iload_n hx hb dji_numberOfLeadingZeros_74 rfl (lv_at hl 0 rfl) ?_
    refine lv_iconst (v := (1 : Int32)) hx hb dji_numberOfLeadingZeros_75 (by decide) ?_
    refine lv_iushr hx hb dji_numberOfLeadingZeros_76 rfl ?_
    refine lv_isub hx hb dji_numberOfLeadingZeros_77 ?_
    exact hret _ _ dji_numberOfLeadingZeros_78  (nw_i _)
def fji_numberOfLeadingZeros_48 (v0 : Int32) (v1 : Int32) : Int32 :=
  if v0 < (16 : Int32) then
    fji_numberOfLeadingZeros_61 v0 v1
  else
    fji_numberOfLeadingZeros_61 ((v0.toUInt32 >>> ((4 : Int32).toUInt32 &&& Int32.toUInt32 31)).toInt32) (v1 + (-4))
set_option maxRecDepth 100000 in
set_option maxHeartbeats 4000000 in
theorem wji_numberOfLeadingZeros_48 {v0 : Int32} {v1 : Int32} {ls : Array Slot} (E : CallFix p m c cji_numberOfLeadingZeros 2 s args tw R_ji) (hl : lv_has ls 2 [(0, .int v0), (1, .int v1)]) (hret : sri p l env (rmD 0) s m args below meth c cji_numberOfLeadingZeros .int Q (fji_numberOfLeadingZeros_48 v0 v1)) : W p l env (rmD 0) s m args below meth c s.heap [] 0 0 Q (F0 m 48 ls []) := by
  have hx := E.1; have hb := E.2.1
  unfold fji_numberOfLeadingZeros_48 at hret
  refine lv_iload_n hx hb dji_numberOfLeadingZeros_48 rfl (lv_at hl 0 rfl) ?_
  refine lv_bipush (v := (16 : Int32)) hx hb dji_numberOfLeadingZeros_49 (by decide) ?_
  refine lv_icmp_lt (tgt := 61) hx hb dji_numberOfLeadingZeros_51 (by decide) (fun h1 => ?_) (fun h1 => ?_)
  · rw [if_pos h1] at hret
    exact wji_numberOfLeadingZeros_61 E (lv_sub hl [0, 1] rfl) hret
  · rw [if_neg h1] at hret
    refine lv_iinc (v := (v1 + (-4))) (lv' := [(1, .int (v1 + (-4))), (0, .int v0)]) hx hb dji_numberOfLeadingZeros_54 hl (k := 1) rfl (by rfl) (by decide) rfl (fun ls hl => ?_)
    refine lv_iload_n hx hb dji_numberOfLeadingZeros_57 rfl (lv_at hl 1 rfl) ?_
    refine lv_iconst (v := (4 : Int32)) hx hb dji_numberOfLeadingZeros_58 (by decide) ?_
    refine lv_iushr hx hb dji_numberOfLeadingZeros_59 rfl ?_
    refine lv_istore_n (lv' := [(0, .int ((v0.toUInt32 >>> ((4 : Int32).toUInt32 &&& Int32.toUInt32 31)).toInt32)), (1, .int (v1 + (-4)))]) hx hb dji_numberOfLeadingZeros_60 rfl hl (by decide) rfl (fun ls hl => ?_)
    exact wji_numberOfLeadingZeros_61 E (lv_sub hl [0, 1] rfl) hret
def fji_numberOfLeadingZeros_33 (v0 : Int32) (v1 : Int32) : Int32 :=
  if v0 < (256 : Int32) then
    fji_numberOfLeadingZeros_48 v0 v1
  else
    fji_numberOfLeadingZeros_48 ((v0.toUInt32 >>> ((8 : Int32).toUInt32 &&& Int32.toUInt32 31)).toInt32) (v1 + (-8))
set_option maxRecDepth 100000 in
set_option maxHeartbeats 4000000 in
theorem wji_numberOfLeadingZeros_33 {v0 : Int32} {v1 : Int32} {ls : Array Slot} (E : CallFix p m c cji_numberOfLeadingZeros 2 s args tw R_ji) (hl : lv_has ls 2 [(0, .int v0), (1, .int v1)]) (hret : sri p l env (rmD 0) s m args below meth c cji_numberOfLeadingZeros .int Q (fji_numberOfLeadingZeros_33 v0 v1)) : W p l env (rmD 0) s m args below meth c s.heap [] 0 0 Q (F0 m 33 ls []) := by
  have hx := E.1; have hb := E.2.1
  unfold fji_numberOfLeadingZeros_33 at hret
  refine lv_iload_n hx hb dji_numberOfLeadingZeros_33 rfl (lv_at hl 0 rfl) ?_
  refine lv_sipush (v := (256 : Int32)) hx hb dji_numberOfLeadingZeros_34 (by decide) ?_
  refine lv_icmp_lt (tgt := 48) hx hb dji_numberOfLeadingZeros_37 (by decide) (fun h1 => ?_) (fun h1 => ?_)
  · rw [if_pos h1] at hret
    exact wji_numberOfLeadingZeros_48 E (lv_sub hl [0, 1] rfl) hret
  · rw [if_neg h1] at hret
    refine lv_iinc (v := (v1 + (-8))) (lv' := [(1, .int (v1 + (-8))), (0, .int v0)]) hx hb dji_numberOfLeadingZeros_40 hl (k := 1) rfl (by rfl) (by decide) rfl (fun ls hl => ?_)
    refine lv_iload_n hx hb dji_numberOfLeadingZeros_43 rfl (lv_at hl 1 rfl) ?_
    refine lv_bipush (v := (8 : Int32)) hx hb dji_numberOfLeadingZeros_44 (by decide) ?_
    refine lv_iushr hx hb dji_numberOfLeadingZeros_46 rfl ?_
    refine lv_istore_n (lv' := [(0, .int ((v0.toUInt32 >>> ((8 : Int32).toUInt32 &&& Int32.toUInt32 31)).toInt32)), (1, .int (v1 + (-8)))]) hx hb dji_numberOfLeadingZeros_47 rfl hl (by decide) rfl (fun ls hl => ?_)
    exact wji_numberOfLeadingZeros_48 E (lv_sub hl [0, 1] rfl) hret
def fji_numberOfLeadingZeros (v0 : Int32) : Int32 :=
  if 0 < v0 then
    if v0 < (65536 : Int32) then
      fji_numberOfLeadingZeros_33 v0 (31 : Int32)
    else
      fji_numberOfLeadingZeros_33 ((v0.toUInt32 >>> ((16 : Int32).toUInt32 &&& Int32.toUInt32 31)).toInt32) ((31 : Int32) + (-16))
  else
    if v0 = 0 then
      (32 : Int32)
    else
      (0 : Int32)
set_option maxRecDepth 100000 in
set_option maxHeartbeats 4000000 in
theorem wji_numberOfLeadingZeros_0 {v0 : Int32} {ls : Array Slot} (E : CallFix p m c cji_numberOfLeadingZeros 2 s args tw R_ji) (hl : lv_has ls 2 [(0, .int v0)]) (hret : sri p l env (rmD 0) s m args below meth c cji_numberOfLeadingZeros .int Q (fji_numberOfLeadingZeros v0)) : W p l env (rmD 0) s m args below meth c s.heap [] 0 0 Q (F0 m 0 ls []) := by
  have hx := E.1; have hb := E.2.1
  unfold fji_numberOfLeadingZeros at hret
  refine lv_iload_n hx hb dji_numberOfLeadingZeros_0 rfl (lv_at hl 0 rfl) ?_
  refine lv_if_gt (tgt := 15) hx hb dji_numberOfLeadingZeros_1 (by decide) (fun h1 => ?_) (fun h1 => ?_)
  · rw [if_pos h1] at hret
    refine lv_bipush (v := (31 : Int32)) hx hb dji_numberOfLeadingZeros_15 (by decide) ?_
    refine lv_istore_n (lv' := [(1, .int (31 : Int32)), (0, .int v0)]) hx hb dji_numberOfLeadingZeros_17 rfl hl (by decide) rfl (fun ls hl => ?_)
    refine lv_iload_n hx hb dji_numberOfLeadingZeros_18 rfl (lv_at hl 1 rfl) ?_
    refine lv_ldcw hx hb E.2.2.2.1 (E.2.2.2.2 _ ct_ji_264) dji_numberOfLeadingZeros_19 ?_
    refine lv_icmp_lt (tgt := 33) hx hb dji_numberOfLeadingZeros_22 (by decide) (fun h2 => ?_) (fun h2 => ?_)
    · rw [if_pos h2] at hret
      exact wji_numberOfLeadingZeros_33 E (lv_sub hl [1, 0] rfl) hret
    · rw [if_neg h2] at hret
      refine lv_iinc (v := ((31 : Int32) + (-16))) (lv' := [(1, .int ((31 : Int32) + (-16))), (0, .int v0)]) hx hb dji_numberOfLeadingZeros_25 hl (k := 0) rfl (by rfl) (by decide) rfl (fun ls hl => ?_)
      refine lv_iload_n hx hb dji_numberOfLeadingZeros_28 rfl (lv_at hl 1 rfl) ?_
      refine lv_bipush (v := (16 : Int32)) hx hb dji_numberOfLeadingZeros_29 (by decide) ?_
      refine lv_iushr hx hb dji_numberOfLeadingZeros_31 rfl ?_
      refine lv_istore_n (lv' := [(0, .int ((v0.toUInt32 >>> ((16 : Int32).toUInt32 &&& Int32.toUInt32 31)).toInt32)), (1, .int ((31 : Int32) + (-16)))]) hx hb dji_numberOfLeadingZeros_32 rfl hl (by decide) rfl (fun ls hl => ?_)
      exact wji_numberOfLeadingZeros_33 E (lv_sub hl [0, 1] rfl) hret
  · rw [if_neg h1] at hret
    refine lv_iload_n hx hb dji_numberOfLeadingZeros_4 rfl (lv_at hl 0 rfl) ?_
    refine lv_if_ne (tgt := 13) hx hb dji_numberOfLeadingZeros_5 (by decide) (fun h3 => ?_) (fun h3 => ?_)
    · rw [if_neg h3] at hret
      refine lv_iconst (v := (0 : Int32)) hx hb dji_numberOfLeadingZeros_13 (by decide) ?_
      exact hret _ _ dji_numberOfLeadingZeros_14  (nw_i _)
    · rw [if_pos h3] at hret
      refine lv_bipush (v := (32 : Int32)) hx hb dji_numberOfLeadingZeros_8 (by decide) ?_
      refine lv_goto (tgt := 14) hx hb dji_numberOfLeadingZeros_10 (by decide) ?_
      exact hret _ _ dji_numberOfLeadingZeros_14  (nw_i _)
set_option maxRecDepth 100000 in
set_option maxHeartbeats 4000000 in
theorem mji_numberOfLeadingZeros (l : Launch) (v0 : Int32) : sMet l yji_numberOfLeadingZeros cji_numberOfLeadingZeros 2 (some .int) 0 [.int v0] (.int (fji_numberOfLeadingZeros v0)) :=
  sMet.ofi (by decide +kernel) (Nat.le_of_ble_eq_true rfl) (fun p env s m args below meth c ls Q E hl hret => wji_numberOfLeadingZeros_0 E (lv_sub hl [0] rfl) hret)
theorem gkji_numberOfLeadingZeros_in_jl : sW R_jl 308 yji_numberOfLeadingZeros cji_numberOfLeadingZeros 2 (some .int) 1 := ⟨wc_ji_numberOfLeadingZeros, wl_jl_308, wt_ji_numberOfLeadingZeros, wn_ji, ⟨by decide, by decide, by decide +kernel⟩, by decide⟩
theorem kji_numberOfLeadingZeros_in_jl {p : Program} {l : Launch} {env : Env} {s : State} {m : MethodId} {args : Array Value} {below : List Frame} {meth : Method} {c : Code} {H : Heap} {locs : List Loc} {Q : State → Prop} {cc : ByteArray} {pc nL d : Nat} {ls : Array Slot} {rest : List Value} {v0 : Int32} (E : CallFix p m c cc nL s args tw R_jl) (hls : ls.size = nL) (hd : 0 + 1 ≤ d) (hr : (rest.map fun v => v.category).sum ≤ 8) (hdg : decode cc pc = .ok (.invokestatic 308, 3)) (kk : W p l env (rmD d) s m args below meth c H locs 0 0 Q (F0 m (pc + 3) ls (.int (fji_numberOfLeadingZeros v0) :: rest))) : W p l env (rmD d) s m args below meth c H locs 0 0 Q (F0 m pc ls (.int v0 :: rest)) :=
  scall (av := [.int v0]) E (mji_numberOfLeadingZeros l v0) gkji_numberOfLeadingZeros_in_jl rfl hls hd hr hdg kk
/-! java/lang/Long.numberOfLeadingZeros (J)I -/
def fjl_numberOfLeadingZeros (v0 : Int64) : Int32 :=
  if (((v0.toUInt64 >>> ((32 : Int32).toInt64.toUInt64 &&& Int64.toUInt64 63)).toInt64).toInt32) = 0 then
    ((32 : Int32) + (fji_numberOfLeadingZeros v0.toInt32))
  else
    (fji_numberOfLeadingZeros (((v0.toUInt64 >>> ((32 : Int32).toInt64.toUInt64 &&& Int64.toUInt64 63)).toInt64).toInt32))
set_option maxRecDepth 100000 in
set_option maxHeartbeats 4000000 in
theorem wjl_numberOfLeadingZeros_0 {v0 : Int64} {ls : Array Slot} (E : CallFix p m c cjl_numberOfLeadingZeros 3 s args tw R_jl) (hl : lv_has ls 3 [(0, .long v0)]) (hret : sri p l env (rmD 1) s m args below meth c cjl_numberOfLeadingZeros .int Q (fjl_numberOfLeadingZeros v0)) : W p l env (rmD 1) s m args below meth c s.heap [] 0 0 Q (F0 m 0 ls []) := by
  have hx := E.1; have hb := E.2.1
  unfold fjl_numberOfLeadingZeros at hret
  refine lv_lload_n hx hb djl_numberOfLeadingZeros_0 rfl (lv_at hl 0 rfl) ?_
  refine lv_bipush (v := (32 : Int32)) hx hb djl_numberOfLeadingZeros_1 (by decide) ?_
  refine lv_lushr hx hb djl_numberOfLeadingZeros_3 rfl ?_
  refine lv_l2i hx hb djl_numberOfLeadingZeros_4 rfl ?_
  refine lv_istore_n (lv' := [(2, .int (((v0.toUInt64 >>> ((32 : Int32).toInt64.toUInt64 &&& Int64.toUInt64 63)).toInt64).toInt32)), (0, .long v0)]) hx hb djl_numberOfLeadingZeros_5 rfl hl (by decide) rfl (fun ls hl => ?_)
  refine lv_iload_n hx hb djl_numberOfLeadingZeros_6 rfl (lv_at hl 0 rfl) ?_
  refine lv_if_ne (tgt := 21) hx hb djl_numberOfLeadingZeros_7 (by decide) (fun h1 => ?_) (fun h1 => ?_)
  · rw [if_neg h1] at hret
    refine lv_iload_n hx hb djl_numberOfLeadingZeros_21 rfl (lv_at hl 0 rfl) ?_
    refine kji_numberOfLeadingZeros_in_jl E hl.1 (by decide) (Nat.le_of_ble_eq_true rfl) djl_numberOfLeadingZeros_22 ?_
    exact hret _ _ djl_numberOfLeadingZeros_25  (nw_i _)
  · rw [if_pos h1] at hret
    refine lv_bipush (v := (32 : Int32)) hx hb djl_numberOfLeadingZeros_10 (by decide) ?_
    refine lv_lload_n hx hb djl_numberOfLeadingZeros_12 rfl (lv_at hl 1 rfl) ?_
    refine lv_l2i hx hb djl_numberOfLeadingZeros_13 rfl ?_
    refine kji_numberOfLeadingZeros_in_jl E hl.1 (by decide) (Nat.le_of_ble_eq_true rfl) djl_numberOfLeadingZeros_14 ?_
    refine lv_iadd hx hb djl_numberOfLeadingZeros_17 ?_
    refine lv_goto (tgt := 25) hx hb djl_numberOfLeadingZeros_18 (by decide) ?_
    exact hret _ _ djl_numberOfLeadingZeros_25  (nw_i _)
set_option maxRecDepth 100000 in
set_option maxHeartbeats 4000000 in
theorem mjl_numberOfLeadingZeros (l : Launch) (v0 : Int64) : sMet l yjl_numberOfLeadingZeros cjl_numberOfLeadingZeros 3 (some .int) 1 [.long v0] (.int (fjl_numberOfLeadingZeros v0)) :=
  sMet.ofi (by decide +kernel) (Nat.le_of_ble_eq_true rfl) (fun p env s m args below meth c ls Q E hl hret => wjl_numberOfLeadingZeros_0 E (lv_sub hl [0] rfl) hret)
theorem gkjl_numberOfLeadingZeros_in_x : sW R_x 187 yjl_numberOfLeadingZeros cjl_numberOfLeadingZeros 3 (some .int) 1 := ⟨wc_jl_numberOfLeadingZeros, wl_x_187, wt_jl_numberOfLeadingZeros, wn_jl, ⟨by decide, by decide, by decide +kernel⟩, by decide⟩
theorem kjl_numberOfLeadingZeros_in_x {p : Program} {l : Launch} {env : Env} {s : State} {m : MethodId} {args : Array Value} {below : List Frame} {meth : Method} {c : Code} {H : Heap} {locs : List Loc} {Q : State → Prop} {cc : ByteArray} {pc nL d : Nat} {ls : Array Slot} {rest : List Value} {v0 : Int64} (E : CallFix p m c cc nL s args tw R_x) (hls : ls.size = nL) (hd : 1 + 1 ≤ d) (hr : (rest.map fun v => v.category).sum ≤ 8) (hdg : decode cc pc = .ok (.invokestatic 187, 3)) (kk : W p l env (rmD d) s m args below meth c H locs 0 0 Q (F0 m (pc + 3) ls (.int (fjl_numberOfLeadingZeros v0) :: rest))) : W p l env (rmD d) s m args below meth c H locs 0 0 Q (F0 m pc ls (.long v0 :: rest)) :=
  scall (av := [.long v0]) E (mjl_numberOfLeadingZeros l v0) gkjl_numberOfLeadingZeros_in_x rfl hls hd hr hdg kk
end TTV
