section TTV
variable {p : Program} {l : Launch} {env : Env} {s : State} {m : MethodId} {args : Array Value} {below : List Frame} {meth : Method} {c : Code} {Q : State → Prop} {D : va_G} {cA : ClassId} {h0 q : Nat}
/-! TenMachineModel.in (JJJ)Z -/
def fz_in (v0 : Int64) (v2 : Int64) (v4 : Int64) : Int32 :=
  if v0 < v2 then
    (0 : Int32)
  else
    if v4 < v0 then
      (0 : Int32)
    else
      (1 : Int32)
set_option maxRecDepth 100000 in
set_option maxHeartbeats 4000000 in
theorem wz_in_0 {v0 : Int64} {v2 : Int64} {v4 : Int64} {ls : Array Slot} (E : CallFix p m c cz_in 6 s args tw R_z) (hl : lv_has ls 6 [(0, .long v0), (2, .long v2), (4, .long v4)]) (hret : sri p l env (rmD 0) s m args below meth c cz_in .boolean Q (fz_in v0 v2 v4)) : W p l env (rmD 0) s m args below meth c s.heap [] 0 0 Q (F0 m 0 ls []) := by
  have hx := E.1; have hb := E.2.1
  unfold fz_in at hret
  refine lv_lload_n hx hb dz_in_0 rfl (lv_at hl 0 rfl) ?_
  refine lv_lload_n hx hb dz_in_1 rfl (lv_at hl 1 rfl) ?_
  refine tt_lcmp_lt (tgt := 17) hx hb dz_in_2 dz_in_3 (by decide) (fun h1 => ?_) (fun h1 => ?_)
  · rw [if_pos h1] at hret
    refine lv_iconst (v := (0 : Int32)) hx hb dz_in_17 (by decide) ?_
    exact hret _ _ dz_in_18  (narrow_b0)
  · rw [if_neg h1] at hret
    refine lv_lload_n hx hb dz_in_6 rfl (lv_at hl 0 rfl) ?_
    refine lv_lload hx hb dz_in_7 (lv_at hl 2 rfl) ?_
    refine tt_lcmp_gt (tgt := 17) hx hb dz_in_9 dz_in_10 (by decide) (fun h2 => ?_) (fun h2 => ?_)
    · rw [if_pos h2] at hret
      refine lv_iconst (v := (0 : Int32)) hx hb dz_in_17 (by decide) ?_
      exact hret _ _ dz_in_18  (narrow_b0)
    · rw [if_neg h2] at hret
      refine lv_iconst (v := (1 : Int32)) hx hb dz_in_13 (by decide) ?_
      refine lv_goto (tgt := 18) hx hb dz_in_14 (by decide) ?_
      exact hret _ _ dz_in_18  (narrow_b1)
set_option maxRecDepth 100000 in
set_option maxHeartbeats 4000000 in
theorem mz_in (l : Launch) (v0 : Int64) (v2 : Int64) (v4 : Int64) : sMet l yz_in cz_in 6 (some .boolean) 0 [.long v0, .long v2, .long v4] (.int (fz_in v0 v2 v4)) :=
  sMet.ofi (by decide +kernel) (Nat.le_of_ble_eq_true rfl) (fun p env s m args below meth c ls Q E hl hret => wz_in_0 E (lv_sub hl [0, 1, 2] rfl) hret)
theorem gkz_in_in_z : sW R_z 23 yz_in cz_in 6 (some .boolean) 3 := ⟨wc_z_in, wl_z_23, wt_z_in, wn_z, ⟨by decide, by decide, by decide +kernel⟩, by decide⟩
theorem kz_in_in_z {p : Program} {l : Launch} {env : Env} {s : State} {m : MethodId} {args : Array Value} {below : List Frame} {meth : Method} {c : Code} {H : Heap} {locs : List Loc} {Q : State → Prop} {cc : ByteArray} {pc nL d : Nat} {ls : Array Slot} {rest : List Value} {v0 : Int64} {v2 : Int64} {v4 : Int64} (E : CallFix p m c cc nL s args tw R_z) (hls : ls.size = nL) (hd : 0 + 1 ≤ d) (hr : (rest.map fun v => v.category).sum ≤ 8) (hdg : decode cc pc = .ok (.invokestatic 23, 3)) (kk : W p l env (rmD d) s m args below meth c H locs 0 0 Q (F0 m (pc + 3) ls (.int (fz_in v0 v2 v4) :: rest))) : W p l env (rmD d) s m args below meth c H locs 0 0 Q (F0 m pc ls (.long v4 :: .long v2 :: .long v0 :: rest)) :=
  scall (av := [.long v0, .long v2, .long v4]) E (mz_in l v0 v2 v4) gkz_in_in_z rfl hls hd hr hdg kk
/-! TenMachineModel.fits (J)Z -/
def fz_fits (v0 : Int64) : Int32 :=
  if v0 < (-34359738368 : Int64) then
    (0 : Int32)
  else
    if (34359738367 : Int64) < v0 then
      (0 : Int32)
    else
      (1 : Int32)
set_option maxRecDepth 100000 in
set_option maxHeartbeats 4000000 in
theorem wz_fits_0 {v0 : Int64} {ls : Array Slot} (E : CallFix p m c cz_fits 2 s args tw R_z) (hl : lv_has ls 2 [(0, .long v0)]) (hret : sri p l env (rmD 0) s m args below meth c cz_fits .boolean Q (fz_fits v0)) : W p l env (rmD 0) s m args below meth c s.heap [] 0 0 Q (F0 m 0 ls []) := by
  have hx := E.1; have hb := E.2.1
  unfold fz_fits at hret
  refine lv_lload_n hx hb dz_fits_0 rfl (lv_at hl 0 rfl) ?_
  refine lv_ldc2 hx hb E.2.2.2.1 (E.2.2.2.2 _ ct_z_3) dz_fits_1 ?_
  refine tt_lcmp_lt (tgt := 20) hx hb dz_fits_4 dz_fits_5 (by decide) (fun h1 => ?_) (fun h1 => ?_)
  · rw [if_pos h1] at hret
    refine lv_iconst (v := (0 : Int32)) hx hb dz_fits_20 (by decide) ?_
    exact hret _ _ dz_fits_21  (narrow_b0)
  · rw [if_neg h1] at hret
    refine lv_lload_n hx hb dz_fits_8 rfl (lv_at hl 0 rfl) ?_
    refine lv_ldc2 hx hb E.2.2.2.1 (E.2.2.2.2 _ ct_z_5) dz_fits_9 ?_
    refine tt_lcmp_gt (tgt := 20) hx hb dz_fits_12 dz_fits_13 (by decide) (fun h2 => ?_) (fun h2 => ?_)
    · rw [if_pos h2] at hret
      refine lv_iconst (v := (0 : Int32)) hx hb dz_fits_20 (by decide) ?_
      exact hret _ _ dz_fits_21  (narrow_b0)
    · rw [if_neg h2] at hret
      refine lv_iconst (v := (1 : Int32)) hx hb dz_fits_16 (by decide) ?_
      refine lv_goto (tgt := 21) hx hb dz_fits_17 (by decide) ?_
      exact hret _ _ dz_fits_21  (narrow_b1)
set_option maxRecDepth 100000 in
set_option maxHeartbeats 4000000 in
theorem mz_fits (l : Launch) (v0 : Int64) : sMet l yz_fits cz_fits 2 (some .boolean) 0 [.long v0] (.int (fz_fits v0)) :=
  sMet.ofi (by decide +kernel) (Nat.le_of_ble_eq_true rfl) (fun p env s m args below meth c ls Q E hl hret => wz_fits_0 E (lv_sub hl [0] rfl) hret)
theorem gkz_fits_in_z : sW R_z 157 yz_fits cz_fits 2 (some .boolean) 1 := ⟨wc_z_fits, wl_z_157, wt_z_fits, wn_z, ⟨by decide, by decide, by decide +kernel⟩, by decide⟩
theorem kz_fits_in_z {p : Program} {l : Launch} {env : Env} {s : State} {m : MethodId} {args : Array Value} {below : List Frame} {meth : Method} {c : Code} {H : Heap} {locs : List Loc} {Q : State → Prop} {cc : ByteArray} {pc nL d : Nat} {ls : Array Slot} {rest : List Value} {v0 : Int64} (E : CallFix p m c cc nL s args tw R_z) (hls : ls.size = nL) (hd : 0 + 1 ≤ d) (hr : (rest.map fun v => v.category).sum ≤ 8) (hdg : decode cc pc = .ok (.invokestatic 157, 3)) (kk : W p l env (rmD d) s m args below meth c H locs 0 0 Q (F0 m (pc + 3) ls (.int (fz_fits v0) :: rest))) : W p l env (rmD d) s m args below meth c H locs 0 0 Q (F0 m pc ls (.long v0 :: rest)) :=
  scall (av := [.long v0]) E (mz_fits l v0) gkz_fits_in_z rfl hls hd hr hdg kk
/-! TenMachineModel.signed (J)J -/
def fz_signed (v0 : Int64) : Int64 :=
  if (v0 >>> ((35 : Int32).toInt64 &&& 63)) = (1 : Int64) then
    ((v0 - (68719476735 : Int64)) - (1 : Int64))
  else
    v0
set_option maxRecDepth 100000 in
set_option maxHeartbeats 4000000 in
theorem wz_signed_0 {v0 : Int64} {ls : Array Slot} (E : CallFix p m c cz_signed 2 s args tw R_z) (hl : lv_has ls 2 [(0, .long v0)]) (hret : srl p l env (rmD 0) s m args below meth c cz_signed .long Q (fz_signed v0)) : W p l env (rmD 0) s m args below meth c s.heap [] 0 0 Q (F0 m 0 ls []) := by
  have hx := E.1; have hb := E.2.1
  unfold fz_signed at hret
  refine lv_lload_n hx hb dz_signed_0 rfl (lv_at hl 0 rfl) ?_
  refine lv_bipush (v := (35 : Int32)) hx hb dz_signed_1 (by decide) ?_
  refine lv_lshr hx hb dz_signed_3 rfl ?_
  refine lv_lconst (v := (1 : Int64)) hx hb dz_signed_4 (by decide) ?_
  refine tt_lcmp_ne (tgt := 19) hx hb dz_signed_5 dz_signed_6 (by decide) (fun h1 => ?_) (fun h1 => ?_)
  · rw [if_neg h1] at hret
    refine lv_lload_n hx hb dz_signed_19 rfl (lv_at hl 0 rfl) ?_
    exact hret _ _ dz_signed_20  (nw_l _)
  · rw [if_pos h1] at hret
    refine lv_lload_n hx hb dz_signed_9 rfl (lv_at hl 0 rfl) ?_
    refine lv_ldc2 hx hb E.2.2.2.1 (E.2.2.2.2 _ ct_z_7) dz_signed_10 ?_
    refine lv_lsub hx hb dz_signed_13 ?_
    refine lv_lconst (v := (1 : Int64)) hx hb dz_signed_14 (by decide) ?_
    refine lv_lsub hx hb dz_signed_15 ?_
    refine lv_goto (tgt := 20) hx hb dz_signed_16 (by decide) ?_
    exact hret _ _ dz_signed_20  (nw_l _)
set_option maxRecDepth 100000 in
set_option maxHeartbeats 4000000 in
theorem mz_signed (l : Launch) (v0 : Int64) : sMet l yz_signed cz_signed 2 (some .long) 0 [.long v0] (.long (fz_signed v0)) :=
  sMet.ofl (by decide +kernel) (Nat.le_of_ble_eq_true rfl) (fun p env s m args below meth c ls Q E hl hret => wz_signed_0 E (lv_sub hl [0] rfl) hret)
theorem gkz_signed_in_z : sW R_z 130 yz_signed cz_signed 2 (some .long) 1 := ⟨wc_z_signed, wl_z_130, wt_z_signed, wn_z, ⟨by decide, by decide, by decide +kernel⟩, by decide⟩
theorem kz_signed_in_z {p : Program} {l : Launch} {env : Env} {s : State} {m : MethodId} {args : Array Value} {below : List Frame} {meth : Method} {c : Code} {H : Heap} {locs : List Loc} {Q : State → Prop} {cc : ByteArray} {pc nL d : Nat} {ls : Array Slot} {rest : List Value} {v0 : Int64} (E : CallFix p m c cc nL s args tw R_z) (hls : ls.size = nL) (hd : 0 + 1 ≤ d) (hr : (rest.map fun v => v.category).sum ≤ 8) (hdg : decode cc pc = .ok (.invokestatic 130, 3)) (kk : W p l env (rmD d) s m args below meth c H locs 0 0 Q (F0 m (pc + 3) ls (.long (fz_signed v0) :: rest))) : W p l env (rmD d) s m args below meth c H locs 0 0 Q (F0 m pc ls (.long v0 :: rest)) :=
  scall (av := [.long v0]) E (mz_signed l v0) gkz_signed_in_z rfl hls hd hr hdg kk
/-! TenMachineModel.left (J)I -/
def fz_left (v0 : Int64) : Int32 :=
  (((v0 >>> ((18 : Int32).toInt64 &&& 63)).toInt32) &&& (262143 : Int32))
set_option maxRecDepth 100000 in
set_option maxHeartbeats 4000000 in
theorem wz_left_0 {v0 : Int64} {ls : Array Slot} (E : CallFix p m c cz_left 2 s args tw R_z) (hl : lv_has ls 2 [(0, .long v0)]) (hret : sri p l env (rmD 0) s m args below meth c cz_left .int Q (fz_left v0)) : W p l env (rmD 0) s m args below meth c s.heap [] 0 0 Q (F0 m 0 ls []) := by
  have hx := E.1; have hb := E.2.1
  unfold fz_left at hret
  refine lv_lload_n hx hb dz_left_0 rfl (lv_at hl 0 rfl) ?_
  refine lv_bipush (v := (18 : Int32)) hx hb dz_left_1 (by decide) ?_
  refine lv_lshr hx hb dz_left_3 rfl ?_
  refine lv_l2i hx hb dz_left_4 rfl ?_
  refine lv_ldc hx hb E.2.2.2.1 (E.2.2.2.2 _ ct_z_9) dz_left_5 ?_
  refine lv_iand hx hb dz_left_7 ?_
  exact hret _ _ dz_left_8  (nw_i _)
set_option maxRecDepth 100000 in
set_option maxHeartbeats 4000000 in
theorem mz_left (l : Launch) (v0 : Int64) : sMet l yz_left cz_left 2 (some .int) 0 [.long v0] (.int (fz_left v0)) :=
  sMet.ofi (by decide +kernel) (Nat.le_of_ble_eq_true rfl) (fun p env s m args below meth c ls Q E hl hret => wz_left_0 E (lv_sub hl [0] rfl) hret)
theorem gkz_left_in_z : sW R_z 14 yz_left cz_left 2 (some .int) 1 := ⟨wc_z_left, wl_z_14, wt_z_left, wn_z, ⟨by decide, by decide, by decide +kernel⟩, by decide⟩
theorem kz_left_in_z {p : Program} {l : Launch} {env : Env} {s : State} {m : MethodId} {args : Array Value} {below : List Frame} {meth : Method} {c : Code} {H : Heap} {locs : List Loc} {Q : State → Prop} {cc : ByteArray} {pc nL d : Nat} {ls : Array Slot} {rest : List Value} {v0 : Int64} (E : CallFix p m c cc nL s args tw R_z) (hls : ls.size = nL) (hd : 0 + 1 ≤ d) (hr : (rest.map fun v => v.category).sum ≤ 8) (hdg : decode cc pc = .ok (.invokestatic 14, 3)) (kk : W p l env (rmD d) s m args below meth c H locs 0 0 Q (F0 m (pc + 3) ls (.int (fz_left v0) :: rest))) : W p l env (rmD d) s m args below meth c H locs 0 0 Q (F0 m pc ls (.long v0 :: rest)) :=
  scall (av := [.long v0]) E (mz_left l v0) gkz_left_in_z rfl hls hd hr hdg kk
/-! TenMachineModel.right (J)I -/
def fz_right (v0 : Int64) : Int32 :=
  (v0.toInt32 &&& (262143 : Int32))
set_option maxRecDepth 100000 in
set_option maxHeartbeats 4000000 in
theorem wz_right_0 {v0 : Int64} {ls : Array Slot} (E : CallFix p m c cz_right 2 s args tw R_z) (hl : lv_has ls 2 [(0, .long v0)]) (hret : sri p l env (rmD 0) s m args below meth c cz_right .int Q (fz_right v0)) : W p l env (rmD 0) s m args below meth c s.heap [] 0 0 Q (F0 m 0 ls []) := by
  have hx := E.1; have hb := E.2.1
  unfold fz_right at hret
  refine lv_lload_n hx hb dz_right_0 rfl (lv_at hl 0 rfl) ?_
  refine lv_l2i hx hb dz_right_1 rfl ?_
  refine lv_ldc hx hb E.2.2.2.1 (E.2.2.2.2 _ ct_z_9) dz_right_2 ?_
  refine lv_iand hx hb dz_right_4 ?_
  exact hret _ _ dz_right_5  (nw_i _)
set_option maxRecDepth 100000 in
set_option maxHeartbeats 4000000 in
theorem mz_right (l : Launch) (v0 : Int64) : sMet l yz_right cz_right 2 (some .int) 0 [.long v0] (.int (fz_right v0)) :=
  sMet.ofi (by decide +kernel) (Nat.le_of_ble_eq_true rfl) (fun p env s m args below meth c ls Q E hl hret => wz_right_0 E (lv_sub hl [0] rfl) hret)
theorem gkz_right_in_z : sW R_z 10 yz_right cz_right 2 (some .int) 1 := ⟨wc_z_right, wl_z_10, wt_z_right, wn_z, ⟨by decide, by decide, by decide +kernel⟩, by decide⟩
theorem kz_right_in_z {p : Program} {l : Launch} {env : Env} {s : State} {m : MethodId} {args : Array Value} {below : List Frame} {meth : Method} {c : Code} {H : Heap} {locs : List Loc} {Q : State → Prop} {cc : ByteArray} {pc nL d : Nat} {ls : Array Slot} {rest : List Value} {v0 : Int64} (E : CallFix p m c cc nL s args tw R_z) (hls : ls.size = nL) (hd : 0 + 1 ≤ d) (hr : (rest.map fun v => v.category).sum ≤ 8) (hdg : decode cc pc = .ok (.invokestatic 10, 3)) (kk : W p l env (rmD d) s m args below meth c H locs 0 0 Q (F0 m (pc + 3) ls (.int (fz_right v0) :: rest))) : W p l env (rmD d) s m args below meth c H locs 0 0 Q (F0 m pc ls (.long v0 :: rest)) :=
  scall (av := [.long v0]) E (mz_right l v0) gkz_right_in_z rfl hls hd hr hdg kk
/-! TenMachineModel.halves (II)J -/
def fz_halves (v0 : Int32) (v1 : Int32) : Int64 :=
  ((((v0 &&& (262143 : Int32)).toInt64) <<< ((18 : Int32).toInt64 &&& 63)) ||| ((v1 &&& (262143 : Int32)).toInt64))
set_option maxRecDepth 100000 in
set_option maxHeartbeats 4000000 in
theorem wz_halves_0 {v0 : Int32} {v1 : Int32} {ls : Array Slot} (E : CallFix p m c cz_halves 2 s args tw R_z) (hl : lv_has ls 2 [(0, .int v0), (1, .int v1)]) (hret : srl p l env (rmD 0) s m args below meth c cz_halves .long Q (fz_halves v0 v1)) : W p l env (rmD 0) s m args below meth c s.heap [] 0 0 Q (F0 m 0 ls []) := by
  have hx := E.1; have hb := E.2.1
  unfold fz_halves at hret
  refine lv_iload_n hx hb dz_halves_0 rfl (lv_at hl 0 rfl) ?_
  refine lv_ldc hx hb E.2.2.2.1 (E.2.2.2.2 _ ct_z_9) dz_halves_1 ?_
  refine lv_iand hx hb dz_halves_3 ?_
  refine lv_i2l hx hb dz_halves_4 rfl ?_
  refine lv_bipush (v := (18 : Int32)) hx hb dz_halves_5 (by decide) ?_
  refine lv_lshl hx hb dz_halves_7 rfl ?_
  refine lv_iload_n hx hb dz_halves_8 rfl (lv_at hl 1 rfl) ?_
  refine lv_ldc hx hb E.2.2.2.1 (E.2.2.2.2 _ ct_z_9) dz_halves_9 ?_
  refine lv_iand hx hb dz_halves_11 ?_
  refine lv_i2l hx hb dz_halves_12 rfl ?_
  refine lv_lor hx hb dz_halves_13 ?_
  exact hret _ _ dz_halves_14  (nw_l _)
set_option maxRecDepth 100000 in
set_option maxHeartbeats 4000000 in
theorem mz_halves (l : Launch) (v0 : Int32) (v1 : Int32) : sMet l yz_halves cz_halves 2 (some .long) 0 [.int v0, .int v1] (.long (fz_halves v0 v1)) :=
  sMet.ofl (by decide +kernel) (Nat.le_of_ble_eq_true rfl) (fun p env s m args below meth c ls Q E hl hret => wz_halves_0 E (lv_sub hl [0, 1] rfl) hret)
theorem gkz_halves_in_z : sW R_z 17 yz_halves cz_halves 2 (some .long) 2 := ⟨wc_z_halves, wl_z_17, wt_z_halves, wn_z, ⟨by decide, by decide, by decide +kernel⟩, by decide⟩
theorem kz_halves_in_z {p : Program} {l : Launch} {env : Env} {s : State} {m : MethodId} {args : Array Value} {below : List Frame} {meth : Method} {c : Code} {H : Heap} {locs : List Loc} {Q : State → Prop} {cc : ByteArray} {pc nL d : Nat} {ls : Array Slot} {rest : List Value} {v0 : Int32} {v1 : Int32} (E : CallFix p m c cc nL s args tw R_z) (hls : ls.size = nL) (hd : 0 + 1 ≤ d) (hr : (rest.map fun v => v.category).sum ≤ 8) (hdg : decode cc pc = .ok (.invokestatic 17, 3)) (kk : W p l env (rmD d) s m args below meth c H locs 0 0 Q (F0 m (pc + 3) ls (.long (fz_halves v0 v1) :: rest))) : W p l env (rmD d) s m args below meth c H locs 0 0 Q (F0 m pc ls (.int v1 :: .int v0 :: rest)) :=
  scall (av := [.int v0, .int v1]) E (mz_halves l v0 v1) gkz_halves_in_z rfl hls hd hr hdg kk
/-! TenMachineModel.isGone (I)Z -/
def fz_isGone (v0 : Int32) : Int32 :=
  if v0 < (4096 : Int32) then
    (0 : Int32)
  else
    (1 : Int32)
set_option maxRecDepth 100000 in
set_option maxHeartbeats 4000000 in
theorem wz_isGone_0 {v0 : Int32} {ls : Array Slot} (E : CallFix p m c cz_isGone 1 s args tw R_z) (hl : lv_has ls 1 [(0, .int v0)]) (hret : sri p l env (rmD 0) s m args below meth c cz_isGone .boolean Q (fz_isGone v0)) : W p l env (rmD 0) s m args below meth c s.heap [] 0 0 Q (F0 m 0 ls []) := by
  have hx := E.1; have hb := E.2.1
  unfold fz_isGone at hret
  refine lv_iload_n hx hb dz_isGone_0 rfl (lv_at hl 0 rfl) ?_
  refine lv_sipush (v := (4096 : Int32)) hx hb dz_isGone_1 (by decide) ?_
  refine lv_icmp_lt (tgt := 11) hx hb dz_isGone_4 (by decide) (fun h1 => ?_) (fun h1 => ?_)
  · rw [if_pos h1] at hret
    refine lv_iconst (v := (0 : Int32)) hx hb dz_isGone_11 (by decide) ?_
    exact hret _ _ dz_isGone_12  (narrow_b0)
  · rw [if_neg h1] at hret
    refine lv_iconst (v := (1 : Int32)) hx hb dz_isGone_7 (by decide) ?_
    refine lv_goto (tgt := 12) hx hb dz_isGone_8 (by decide) ?_
    exact hret _ _ dz_isGone_12  (narrow_b1)
set_option maxRecDepth 100000 in
set_option maxHeartbeats 4000000 in
theorem mz_isGone (l : Launch) (v0 : Int32) : sMet l yz_isGone cz_isGone 1 (some .boolean) 0 [.int v0] (.int (fz_isGone v0)) :=
  sMet.ofi (by decide +kernel) (Nat.le_of_ble_eq_true rfl) (fun p env s m args below meth c ls Q E hl hret => wz_isGone_0 E (lv_sub hl [0] rfl) hret)
theorem gkz_isGone_in_z : sW R_z 137 yz_isGone cz_isGone 1 (some .boolean) 1 := ⟨wc_z_isGone, wl_z_137, wt_z_isGone, wn_z, ⟨by decide, by decide, by decide +kernel⟩, by decide⟩
theorem kz_isGone_in_z {p : Program} {l : Launch} {env : Env} {s : State} {m : MethodId} {args : Array Value} {below : List Frame} {meth : Method} {c : Code} {H : Heap} {locs : List Loc} {Q : State → Prop} {cc : ByteArray} {pc nL d : Nat} {ls : Array Slot} {rest : List Value} {v0 : Int32} (E : CallFix p m c cc nL s args tw R_z) (hls : ls.size = nL) (hd : 0 + 1 ≤ d) (hr : (rest.map fun v => v.category).sum ≤ 8) (hdg : decode cc pc = .ok (.invokestatic 137, 3)) (kk : W p l env (rmD d) s m args below meth c H locs 0 0 Q (F0 m (pc + 3) ls (.int (fz_isGone v0) :: rest))) : W p l env (rmD d) s m args below meth c H locs 0 0 Q (F0 m pc ls (.int v0 :: rest)) :=
  scall (av := [.int v0]) E (mz_isGone l v0) gkz_isGone_in_z rfl hls hd hr hdg kk
/-! TenMachineModel.holds (IJJ)Z -/
def fz_holds (v0 : Int32) (v1 : Int64) (v3 : Int64) : Int32 :=
  if v0 = 0 then
    (0 : Int32)
  else
    if v0 = 1 then
      if v3 ≤ v1 then
        (0 : Int32)
      else
        (1 : Int32)
    else
      if v0 = 2 then
        if v1 = v3 then
          (1 : Int32)
        else
          (0 : Int32)
      else
        if v0 = 3 then
          if v3 < v1 then
            (0 : Int32)
          else
            (1 : Int32)
        else
          if v0 = 4 then
            (1 : Int32)
          else
            if v0 = 5 then
              if v1 < v3 then
                (0 : Int32)
              else
                (1 : Int32)
            else
              if v0 = 6 then
                if v1 = v3 then
                  (0 : Int32)
                else
                  (1 : Int32)
              else
                if v1 ≤ v3 then
                  (0 : Int32)
                else
                  (1 : Int32)
set_option maxRecDepth 100000 in
set_option maxHeartbeats 4000000 in
theorem wz_holds_0 {v0 : Int32} {v1 : Int64} {v3 : Int64} {ls : Array Slot} (E : CallFix p m c cz_holds 5 s args tw R_z) (hl : lv_has ls 5 [(0, .int v0), (1, .long v1), (3, .long v3)]) (hret : sri p l env (rmD 0) s m args below meth c cz_holds .boolean Q (fz_holds v0 v1 v3)) : W p l env (rmD 0) s m args below meth c s.heap [] 0 0 Q (F0 m 0 ls []) := by
  have hx := E.1; have hb := E.2.1
  unfold fz_holds at hret
  refine lv_iload_n hx hb dz_holds_0 rfl (lv_at hl 0 rfl) ?_
  by_cases h1 : v0 = 0
  · rw [if_pos h1] at hret
    refine lv_tableIn (off := 43) (tgt := 44) hx hb dz_holds_1 (by rw [h1]; decide) (by rw [h1]; decide) (by rw [h1]; rfl) (by decide) ?_
    refine lv_iconst (v := (0 : Int32)) hx hb dz_holds_44 (by decide) ?_
    exact hret _ _ dz_holds_45  (narrow_b0)
  · rw [if_neg h1] at hret
    by_cases h2 : v0 = 1
    · rw [if_pos h2] at hret
      refine lv_tableIn (off := 45) (tgt := 46) hx hb dz_holds_1 (by rw [h2]; decide) (by rw [h2]; decide) (by rw [h2]; rfl) (by decide) ?_
      refine lv_lload_n hx hb dz_holds_46 rfl (lv_at hl 1 rfl) ?_
      refine lv_lload_n hx hb dz_holds_47 rfl (lv_at hl 2 rfl) ?_
      refine tt_lcmp_ge (tgt := 56) hx hb dz_holds_48 dz_holds_49 (by decide) (fun h3 => ?_) (fun h3 => ?_)
      · rw [if_pos h3] at hret
        refine lv_iconst (v := (0 : Int32)) hx hb dz_holds_56 (by decide) ?_
        exact hret _ _ dz_holds_57  (narrow_b0)
      · rw [if_neg h3] at hret
        refine lv_iconst (v := (1 : Int32)) hx hb dz_holds_52 (by decide) ?_
        refine lv_goto (tgt := 57) hx hb dz_holds_53 (by decide) ?_
        exact hret _ _ dz_holds_57  (narrow_b1)
    · rw [if_neg h2] at hret
      by_cases h4 : v0 = 2
      · rw [if_pos h4] at hret
        refine lv_tableIn (off := 57) (tgt := 58) hx hb dz_holds_1 (by rw [h4]; decide) (by rw [h4]; decide) (by rw [h4]; rfl) (by decide) ?_
        refine lv_lload_n hx hb dz_holds_58 rfl (lv_at hl 1 rfl) ?_
        refine lv_lload_n hx hb dz_holds_59 rfl (lv_at hl 2 rfl) ?_
        refine tt_lcmp_ne (tgt := 68) hx hb dz_holds_60 dz_holds_61 (by decide) (fun h5 => ?_) (fun h5 => ?_)
        · rw [if_neg h5] at hret
          refine lv_iconst (v := (0 : Int32)) hx hb dz_holds_68 (by decide) ?_
          exact hret _ _ dz_holds_69  (narrow_b0)
        · rw [if_pos h5] at hret
          refine lv_iconst (v := (1 : Int32)) hx hb dz_holds_64 (by decide) ?_
          refine lv_goto (tgt := 69) hx hb dz_holds_65 (by decide) ?_
          exact hret _ _ dz_holds_69  (narrow_b1)
      · rw [if_neg h4] at hret
        by_cases h6 : v0 = 3
        · rw [if_pos h6] at hret
          refine lv_tableIn (off := 69) (tgt := 70) hx hb dz_holds_1 (by rw [h6]; decide) (by rw [h6]; decide) (by rw [h6]; rfl) (by decide) ?_
          refine lv_lload_n hx hb dz_holds_70 rfl (lv_at hl 1 rfl) ?_
          refine lv_lload_n hx hb dz_holds_71 rfl (lv_at hl 2 rfl) ?_
          refine tt_lcmp_gt (tgt := 80) hx hb dz_holds_72 dz_holds_73 (by decide) (fun h7 => ?_) (fun h7 => ?_)
          · rw [if_pos h7] at hret
            refine lv_iconst (v := (0 : Int32)) hx hb dz_holds_80 (by decide) ?_
            exact hret _ _ dz_holds_81  (narrow_b0)
          · rw [if_neg h7] at hret
            refine lv_iconst (v := (1 : Int32)) hx hb dz_holds_76 (by decide) ?_
            refine lv_goto (tgt := 81) hx hb dz_holds_77 (by decide) ?_
            exact hret _ _ dz_holds_81  (narrow_b1)
        · rw [if_neg h6] at hret
          by_cases h8 : v0 = 4
          · rw [if_pos h8] at hret
            refine lv_tableIn (off := 81) (tgt := 82) hx hb dz_holds_1 (by rw [h8]; decide) (by rw [h8]; decide) (by rw [h8]; rfl) (by decide) ?_
            refine lv_iconst (v := (1 : Int32)) hx hb dz_holds_82 (by decide) ?_
            exact hret _ _ dz_holds_83  (narrow_b1)
          · rw [if_neg h8] at hret
            by_cases h9 : v0 = 5
            · rw [if_pos h9] at hret
              refine lv_tableIn (off := 83) (tgt := 84) hx hb dz_holds_1 (by rw [h9]; decide) (by rw [h9]; decide) (by rw [h9]; rfl) (by decide) ?_
              refine lv_lload_n hx hb dz_holds_84 rfl (lv_at hl 1 rfl) ?_
              refine lv_lload_n hx hb dz_holds_85 rfl (lv_at hl 2 rfl) ?_
              refine tt_lcmp_lt (tgt := 94) hx hb dz_holds_86 dz_holds_87 (by decide) (fun h10 => ?_) (fun h10 => ?_)
              · rw [if_pos h10] at hret
                refine lv_iconst (v := (0 : Int32)) hx hb dz_holds_94 (by decide) ?_
                exact hret _ _ dz_holds_95  (narrow_b0)
              · rw [if_neg h10] at hret
                refine lv_iconst (v := (1 : Int32)) hx hb dz_holds_90 (by decide) ?_
                refine lv_goto (tgt := 95) hx hb dz_holds_91 (by decide) ?_
                exact hret _ _ dz_holds_95  (narrow_b1)
            · rw [if_neg h9] at hret
              by_cases h11 : v0 = 6
              · rw [if_pos h11] at hret
                refine lv_tableIn (off := 95) (tgt := 96) hx hb dz_holds_1 (by rw [h11]; decide) (by rw [h11]; decide) (by rw [h11]; rfl) (by decide) ?_
                refine lv_lload_n hx hb dz_holds_96 rfl (lv_at hl 1 rfl) ?_
                refine lv_lload_n hx hb dz_holds_97 rfl (lv_at hl 2 rfl) ?_
                refine tt_lcmp_eq (tgt := 106) hx hb dz_holds_98 dz_holds_99 (by decide) (fun h12 => ?_) (fun h12 => ?_)
                · rw [if_pos h12] at hret
                  refine lv_iconst (v := (0 : Int32)) hx hb dz_holds_106 (by decide) ?_
                  exact hret _ _ dz_holds_107  (narrow_b0)
                · rw [if_neg h12] at hret
                  refine lv_iconst (v := (1 : Int32)) hx hb dz_holds_102 (by decide) ?_
                  refine lv_goto (tgt := 107) hx hb dz_holds_103 (by decide) ?_
                  exact hret _ _ dz_holds_107  (narrow_b1)
              · rw [if_neg h11] at hret
                refine lv_tableOut (tgt := 108) hx hb dz_holds_1 (by have := lv_neT h1 (show (0 : Int32).toInt = 0 from rfl); have := lv_neT h2 (show (1 : Int32).toInt = 1 from rfl); have := lv_neT h4 (show (2 : Int32).toInt = 2 from rfl); have := lv_neT h6 (show (3 : Int32).toInt = 3 from rfl); have := lv_neT h8 (show (4 : Int32).toInt = 4 from rfl); have := lv_neT h9 (show (5 : Int32).toInt = 5 from rfl); have := lv_neT h11 (show (6 : Int32).toInt = 6 from rfl); omega) (by decide) ?_
                refine lv_lload_n hx hb dz_holds_108 rfl (lv_at hl 1 rfl) ?_
                refine lv_lload_n hx hb dz_holds_109 rfl (lv_at hl 2 rfl) ?_
                refine tt_lcmp_le (tgt := 118) hx hb dz_holds_110 dz_holds_111 (by decide) (fun h13 => ?_) (fun h13 => ?_)
                · rw [if_pos h13] at hret
                  refine lv_iconst (v := (0 : Int32)) hx hb dz_holds_118 (by decide) ?_
                  exact hret _ _ dz_holds_119  (narrow_b0)
                · rw [if_neg h13] at hret
                  refine lv_iconst (v := (1 : Int32)) hx hb dz_holds_114 (by decide) ?_
                  refine lv_goto (tgt := 119) hx hb dz_holds_115 (by decide) ?_
                  exact hret _ _ dz_holds_119  (narrow_b1)
set_option maxRecDepth 100000 in
set_option maxHeartbeats 4000000 in
theorem mz_holds (l : Launch) (v0 : Int32) (v1 : Int64) (v3 : Int64) : sMet l yz_holds cz_holds 5 (some .boolean) 0 [.int v0, .long v1, .long v3] (.int (fz_holds v0 v1 v3)) :=
  sMet.ofi (by decide +kernel) (Nat.le_of_ble_eq_true rfl) (fun p env s m args below meth c ls Q E hl hret => wz_holds_0 E (lv_sub hl [0, 1, 2] rfl) hret)
theorem gkz_holds_in_z : sW R_z 161 yz_holds cz_holds 5 (some .boolean) 3 := ⟨wc_z_holds, wl_z_161, wt_z_holds, wn_z, ⟨by decide, by decide, by decide +kernel⟩, by decide⟩
theorem kz_holds_in_z {p : Program} {l : Launch} {env : Env} {s : State} {m : MethodId} {args : Array Value} {below : List Frame} {meth : Method} {c : Code} {H : Heap} {locs : List Loc} {Q : State → Prop} {cc : ByteArray} {pc nL d : Nat} {ls : Array Slot} {rest : List Value} {v0 : Int32} {v1 : Int64} {v3 : Int64} (E : CallFix p m c cc nL s args tw R_z) (hls : ls.size = nL) (hd : 0 + 1 ≤ d) (hr : (rest.map fun v => v.category).sum ≤ 8) (hdg : decode cc pc = .ok (.invokestatic 161, 3)) (kk : W p l env (rmD d) s m args below meth c H locs 0 0 Q (F0 m (pc + 3) ls (.int (fz_holds v0 v1 v3) :: rest))) : W p l env (rmD d) s m args below meth c H locs 0 0 Q (F0 m pc ls (.long v3 :: .long v1 :: .int v0 :: rest)) :=
  scall (av := [.int v0, .long v1, .long v3]) E (mz_holds l v0 v1 v3) gkz_holds_in_z rfl hls hd hr hdg kk
/-! TenMachineModel.opposite (J)J -/
def fz_opposite (v0 : Int64) : Int64 :=
  (fz_halves (fz_right v0) (fz_left v0))
set_option maxRecDepth 100000 in
set_option maxHeartbeats 4000000 in
theorem wz_opposite_0 {v0 : Int64} {ls : Array Slot} (E : CallFix p m c cz_opposite 2 s args tw R_z) (hl : lv_has ls 2 [(0, .long v0)]) (hret : srl p l env (rmD 1) s m args below meth c cz_opposite .long Q (fz_opposite v0)) : W p l env (rmD 1) s m args below meth c s.heap [] 0 0 Q (F0 m 0 ls []) := by
  have hx := E.1; have hb := E.2.1
  unfold fz_opposite at hret
  refine lv_lload_n hx hb dz_opposite_0 rfl (lv_at hl 0 rfl) ?_
  refine kz_right_in_z E hl.1 (by decide) (Nat.le_of_ble_eq_true rfl) dz_opposite_1 ?_
  refine lv_lload_n hx hb dz_opposite_4 rfl (lv_at hl 0 rfl) ?_
  refine kz_left_in_z E hl.1 (by decide) (Nat.le_of_ble_eq_true rfl) dz_opposite_5 ?_
  refine kz_halves_in_z E hl.1 (by decide) (Nat.le_of_ble_eq_true rfl) dz_opposite_8 ?_
  exact hret _ _ dz_opposite_11  (nw_l _)
set_option maxRecDepth 100000 in
set_option maxHeartbeats 4000000 in
theorem mz_opposite (l : Launch) (v0 : Int64) : sMet l yz_opposite cz_opposite 2 (some .long) 1 [.long v0] (.long (fz_opposite v0)) :=
  sMet.ofl (by decide +kernel) (Nat.le_of_ble_eq_true rfl) (fun p env s m args below meth c ls Q E hl hret => wz_opposite_0 E (lv_sub hl [0] rfl) hret)
theorem gkz_opposite_in_z : sW R_z 134 yz_opposite cz_opposite 2 (some .long) 1 := ⟨wc_z_opposite, wl_z_134, wt_z_opposite, wn_z, ⟨by decide, by decide, by decide +kernel⟩, by decide⟩
theorem kz_opposite_in_z {p : Program} {l : Launch} {env : Env} {s : State} {m : MethodId} {args : Array Value} {below : List Frame} {meth : Method} {c : Code} {H : Heap} {locs : List Loc} {Q : State → Prop} {cc : ByteArray} {pc nL d : Nat} {ls : Array Slot} {rest : List Value} {v0 : Int64} (E : CallFix p m c cc nL s args tw R_z) (hls : ls.size = nL) (hd : 1 + 1 ≤ d) (hr : (rest.map fun v => v.category).sum ≤ 8) (hdg : decode cc pc = .ok (.invokestatic 134, 3)) (kk : W p l env (rmD d) s m args below meth c H locs 0 0 Q (F0 m (pc + 3) ls (.long (fz_opposite v0) :: rest))) : W p l env (rmD d) s m args below meth c H locs 0 0 Q (F0 m pc ls (.long v0 :: rest)) :=
  scall (av := [.long v0]) E (mz_opposite l v0) gkz_opposite_in_z rfl hls hd hr hdg kk
/-! TenMachineModel.both (JI)J -/
def fz_both (v0 : Int64) (v2 : Int32) : Int64 :=
  (fz_halves ((fz_left v0) + v2) ((fz_right v0) + v2))
set_option maxRecDepth 100000 in
set_option maxHeartbeats 4000000 in
theorem wz_both_0 {v0 : Int64} {v2 : Int32} {ls : Array Slot} (E : CallFix p m c cz_both 3 s args tw R_z) (hl : lv_has ls 3 [(0, .long v0), (2, .int v2)]) (hret : srl p l env (rmD 1) s m args below meth c cz_both .long Q (fz_both v0 v2)) : W p l env (rmD 1) s m args below meth c s.heap [] 0 0 Q (F0 m 0 ls []) := by
  have hx := E.1; have hb := E.2.1
  unfold fz_both at hret
  refine lv_lload_n hx hb dz_both_0 rfl (lv_at hl 0 rfl) ?_
  refine kz_left_in_z E hl.1 (by decide) (Nat.le_of_ble_eq_true rfl) dz_both_1 ?_
  refine lv_iload_n hx hb dz_both_4 rfl (lv_at hl 1 rfl) ?_
  refine lv_iadd hx hb dz_both_5 ?_
  refine lv_lload_n hx hb dz_both_6 rfl (lv_at hl 0 rfl) ?_
  refine kz_right_in_z E hl.1 (by decide) (Nat.le_of_ble_eq_true rfl) dz_both_7 ?_
  refine lv_iload_n hx hb dz_both_10 rfl (lv_at hl 1 rfl) ?_
  refine lv_iadd hx hb dz_both_11 ?_
  refine kz_halves_in_z E hl.1 (by decide) (Nat.le_of_ble_eq_true rfl) dz_both_12 ?_
  exact hret _ _ dz_both_15  (nw_l _)
set_option maxRecDepth 100000 in
set_option maxHeartbeats 4000000 in
theorem mz_both (l : Launch) (v0 : Int64) (v2 : Int32) : sMet l yz_both cz_both 3 (some .long) 1 [.long v0, .int v2] (.long (fz_both v0 v2)) :=
  sMet.ofl (by decide +kernel) (Nat.le_of_ble_eq_true rfl) (fun p env s m args below meth c ls Q E hl hret => wz_both_0 E (lv_sub hl [0, 1] rfl) hret)
theorem gkz_both_in_z : sW R_z 177 yz_both cz_both 3 (some .long) 2 := ⟨wc_z_both, wl_z_177, wt_z_both, wn_z, ⟨by decide, by decide, by decide +kernel⟩, by decide⟩
theorem kz_both_in_z {p : Program} {l : Launch} {env : Env} {s : State} {m : MethodId} {args : Array Value} {below : List Frame} {meth : Method} {c : Code} {H : Heap} {locs : List Loc} {Q : State → Prop} {cc : ByteArray} {pc nL d : Nat} {ls : Array Slot} {rest : List Value} {v0 : Int64} {v2 : Int32} (E : CallFix p m c cc nL s args tw R_z) (hls : ls.size = nL) (hd : 1 + 1 ≤ d) (hr : (rest.map fun v => v.category).sum ≤ 8) (hdg : decode cc pc = .ok (.invokestatic 177, 3)) (kk : W p l env (rmD d) s m args below meth c H locs 0 0 Q (F0 m (pc + 3) ls (.long (fz_both v0 v2) :: rest))) : W p l env (rmD d) s m args below meth c H locs 0 0 Q (F0 m pc ls (.int v2 :: .long v0 :: rest)) :=
  scall (av := [.long v0, .int v2]) E (mz_both l v0 v2) gkz_both_in_z rfl hls hd hr hdg kk
end TTV
