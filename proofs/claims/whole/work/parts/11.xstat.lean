section TTV
variable {p : Program} {l : Launch} {env : Env} {s : State} {m : MethodId} {args : Array Value} {below : List Frame} {meth : Method} {c : Code} {Q : State → Prop} {D : va_G} {cA : ClassId} {h0 q : Nat}
/-! TenMachine.combined (IJJ)J -/
def fx_combined (v0 : Int32) (v1 : Int64) (v3 : Int64) : Int64 :=
  if v0 = 1 then
    (v1 &&& v3)
  else
    if v0 = 2 then
      ((v1 ^^^ (-1 : Int64)) &&& v3)
    else
      if v0 = 3 then
        v3
      else
        if v0 = 4 then
          (v1 &&& (v3 ^^^ (-1 : Int64)))
        else
          if v0 = 5 then
            v1
          else
            if v0 = 6 then
              (v1 ^^^ v3)
            else
              if v0 = 7 then
                (v1 ||| v3)
              else
                (0 : Int64)
set_option maxRecDepth 100000 in
set_option maxHeartbeats 4000000 in
theorem wx_combined_0 {v0 : Int32} {v1 : Int64} {v3 : Int64} {ls : Array Slot} (E : CallFix p m c cx_combined 5 s args tw R_x) (hl : lv_has ls 5 [(0, .int v0), (1, .long v1), (3, .long v3)]) (hret : srl p l env (rmD 0) s m args below meth c cx_combined .long Q (fx_combined v0 v1 v3)) : W p l env (rmD 0) s m args below meth c s.heap [] 0 0 Q (F0 m 0 ls []) := by
  have hx := E.1; have hb := E.2.1
  unfold fx_combined at hret
  refine lv_iload_n hx hb dx_combined_0 rfl (lv_at hl 0 rfl) ?_
  by_cases h1 : v0 = 1
  · rw [if_pos h1] at hret
    refine lv_tableIn (off := 43) (tgt := 44) hx hb dx_combined_1 (by rw [h1]; decide) (by rw [h1]; decide) (by rw [h1]; rfl) (by decide) ?_
    refine lv_lload_n hx hb dx_combined_44 rfl (lv_at hl 1 rfl) ?_
    refine lv_lload_n hx hb dx_combined_45 rfl (lv_at hl 2 rfl) ?_
    refine lv_land hx hb dx_combined_46 ?_
    exact hret _ _ dx_combined_47  (nw_l _)
  · rw [if_neg h1] at hret
    by_cases h2 : v0 = 2
    · rw [if_pos h2] at hret
      refine lv_tableIn (off := 47) (tgt := 48) hx hb dx_combined_1 (by rw [h2]; decide) (by rw [h2]; decide) (by rw [h2]; rfl) (by decide) ?_
      refine lv_lload_n hx hb dx_combined_48 rfl (lv_at hl 1 rfl) ?_
      refine lv_ldc2 hx hb E.2.2.2.1 (E.2.2.2.2 _ ct_x_151) dx_combined_49 ?_
      refine lv_lxor hx hb dx_combined_52 ?_
      refine lv_lload_n hx hb dx_combined_53 rfl (lv_at hl 2 rfl) ?_
      refine lv_land hx hb dx_combined_54 ?_
      exact hret _ _ dx_combined_55  (nw_l _)
    · rw [if_neg h2] at hret
      by_cases h3 : v0 = 3
      · rw [if_pos h3] at hret
        refine lv_tableIn (off := 55) (tgt := 56) hx hb dx_combined_1 (by rw [h3]; decide) (by rw [h3]; decide) (by rw [h3]; rfl) (by decide) ?_
        refine lv_lload_n hx hb dx_combined_56 rfl (lv_at hl 2 rfl) ?_
        exact hret _ _ dx_combined_57  (nw_l _)
      · rw [if_neg h3] at hret
        by_cases h4 : v0 = 4
        · rw [if_pos h4] at hret
          refine lv_tableIn (off := 57) (tgt := 58) hx hb dx_combined_1 (by rw [h4]; decide) (by rw [h4]; decide) (by rw [h4]; rfl) (by decide) ?_
          refine lv_lload_n hx hb dx_combined_58 rfl (lv_at hl 1 rfl) ?_
          refine lv_lload_n hx hb dx_combined_59 rfl (lv_at hl 2 rfl) ?_
          refine lv_ldc2 hx hb E.2.2.2.1 (E.2.2.2.2 _ ct_x_151) dx_combined_60 ?_
          refine lv_lxor hx hb dx_combined_63 ?_
          refine lv_land hx hb dx_combined_64 ?_
          exact hret _ _ dx_combined_65  (nw_l _)
        · rw [if_neg h4] at hret
          by_cases h5 : v0 = 5
          · rw [if_pos h5] at hret
            refine lv_tableIn (off := 65) (tgt := 66) hx hb dx_combined_1 (by rw [h5]; decide) (by rw [h5]; decide) (by rw [h5]; rfl) (by decide) ?_
            refine lv_lload_n hx hb dx_combined_66 rfl (lv_at hl 1 rfl) ?_
            exact hret _ _ dx_combined_67  (nw_l _)
          · rw [if_neg h5] at hret
            by_cases h6 : v0 = 6
            · rw [if_pos h6] at hret
              refine lv_tableIn (off := 67) (tgt := 68) hx hb dx_combined_1 (by rw [h6]; decide) (by rw [h6]; decide) (by rw [h6]; rfl) (by decide) ?_
              refine lv_lload_n hx hb dx_combined_68 rfl (lv_at hl 1 rfl) ?_
              refine lv_lload_n hx hb dx_combined_69 rfl (lv_at hl 2 rfl) ?_
              refine lv_lxor hx hb dx_combined_70 ?_
              exact hret _ _ dx_combined_71  (nw_l _)
            · rw [if_neg h6] at hret
              by_cases h7 : v0 = 7
              · rw [if_pos h7] at hret
                refine lv_tableIn (off := 71) (tgt := 72) hx hb dx_combined_1 (by rw [h7]; decide) (by rw [h7]; decide) (by rw [h7]; rfl) (by decide) ?_
                refine lv_lload_n hx hb dx_combined_72 rfl (lv_at hl 1 rfl) ?_
                refine lv_lload_n hx hb dx_combined_73 rfl (lv_at hl 2 rfl) ?_
                refine lv_lor hx hb dx_combined_74 ?_
                exact hret _ _ dx_combined_75  (nw_l _)
              · rw [if_neg h7] at hret
                refine lv_tableOut (tgt := 76) hx hb dx_combined_1 (by have := lv_neT h1 (show (1 : Int32).toInt = 1 from rfl); have := lv_neT h2 (show (2 : Int32).toInt = 2 from rfl); have := lv_neT h3 (show (3 : Int32).toInt = 3 from rfl); have := lv_neT h4 (show (4 : Int32).toInt = 4 from rfl); have := lv_neT h5 (show (5 : Int32).toInt = 5 from rfl); have := lv_neT h6 (show (6 : Int32).toInt = 6 from rfl); have := lv_neT h7 (show (7 : Int32).toInt = 7 from rfl); omega) (by decide) ?_
                refine lv_lconst (v := (0 : Int64)) hx hb dx_combined_76 (by decide) ?_
                exact hret _ _ dx_combined_77  (nw_l _)
set_option maxRecDepth 100000 in
set_option maxHeartbeats 4000000 in
theorem mx_combined (l : Launch) (v0 : Int32) (v1 : Int64) (v3 : Int64) : sMet l yx_combined cx_combined 5 (some .long) 0 [.int v0, .long v1, .long v3] (.long (fx_combined v0 v1 v3)) :=
  sMet.ofl (by decide +kernel) (Nat.le_of_ble_eq_true rfl) (fun p env s m args below meth c ls Q E hl hret => wx_combined_0 E (lv_sub hl [0, 1, 2] rfl) hret)
theorem gkx_combined_in_x : sW R_x 228 yx_combined cx_combined 5 (some .long) 3 := ⟨wc_x_combined, wl_x_228, wt_x_combined, wn_x, ⟨by decide, by decide, by decide +kernel⟩, by decide⟩
theorem kx_combined_in_x {p : Program} {l : Launch} {env : Env} {s : State} {m : MethodId} {args : Array Value} {below : List Frame} {meth : Method} {c : Code} {H : Heap} {locs : List Loc} {Q : State → Prop} {cc : ByteArray} {pc nL d : Nat} {ls : Array Slot} {rest : List Value} {v0 : Int32} {v1 : Int64} {v3 : Int64} (E : CallFix p m c cc nL s args tw R_x) (hls : ls.size = nL) (hd : 0 + 1 ≤ d) (hr : (rest.map fun v => v.category).sum ≤ 8) (hdg : decode cc pc = .ok (.invokestatic 228, 3)) (kk : W p l env (rmD d) s m args below meth c H locs 0 0 Q (F0 m (pc + 3) ls (.long (fx_combined v0 v1 v3) :: rest))) : W p l env (rmD d) s m args below meth c H locs 0 0 Q (F0 m pc ls (.long v3 :: .long v1 :: .int v0 :: rest)) :=
  scall (av := [.int v0, .long v1, .long v3]) E (mx_combined l v0 v1 v3) gkx_combined_in_x rfl hls hd hr hdg kk
/-! TenMachine.isThere (I)Z -/
def fx_isThere (v0 : Int32) : Int32 :=
  if v0 < 0 then
    (0 : Int32)
  else
    if (4096 : Int32) ≤ v0 then
      (0 : Int32)
    else
      (1 : Int32)
set_option maxRecDepth 100000 in
set_option maxHeartbeats 4000000 in
theorem wx_isThere_0 {v0 : Int32} {ls : Array Slot} (E : CallFix p m c cx_isThere 1 s args tw R_x) (hl : lv_has ls 1 [(0, .int v0)]) (hret : sri p l env (rmD 0) s m args below meth c cx_isThere .boolean Q (fx_isThere v0)) : W p l env (rmD 0) s m args below meth c s.heap [] 0 0 Q (F0 m 0 ls []) := by
  have hx := E.1; have hb := E.2.1
  unfold fx_isThere at hret
  refine lv_iload_n hx hb dx_isThere_0 rfl (lv_at hl 0 rfl) ?_
  refine lv_if_lt (tgt := 15) hx hb dx_isThere_1 (by decide) (fun h1 => ?_) (fun h1 => ?_)
  · rw [if_pos h1] at hret
    refine lv_iconst (v := (0 : Int32)) hx hb dx_isThere_15 (by decide) ?_
    exact hret _ _ dx_isThere_16  (narrow_b0)
  · rw [if_neg h1] at hret
    refine lv_iload_n hx hb dx_isThere_4 rfl (lv_at hl 0 rfl) ?_
    refine lv_sipush (v := (4096 : Int32)) hx hb dx_isThere_5 (by decide) ?_
    refine lv_icmp_ge (tgt := 15) hx hb dx_isThere_8 (by decide) (fun h2 => ?_) (fun h2 => ?_)
    · rw [if_pos h2] at hret
      refine lv_iconst (v := (0 : Int32)) hx hb dx_isThere_15 (by decide) ?_
      exact hret _ _ dx_isThere_16  (narrow_b0)
    · rw [if_neg h2] at hret
      refine lv_iconst (v := (1 : Int32)) hx hb dx_isThere_11 (by decide) ?_
      refine lv_goto (tgt := 16) hx hb dx_isThere_12 (by decide) ?_
      exact hret _ _ dx_isThere_16  (narrow_b1)
set_option maxRecDepth 100000 in
set_option maxHeartbeats 4000000 in
theorem mx_isThere (l : Launch) (v0 : Int32) : sMet l yx_isThere cx_isThere 1 (some .boolean) 0 [.int v0] (.int (fx_isThere v0)) :=
  sMet.ofi (by decide +kernel) (Nat.le_of_ble_eq_true rfl) (fun p env s m args below meth c ls Q E hl hret => wx_isThere_0 E (lv_sub hl [0] rfl) hret)
theorem gkx_isThere_in_x : sW R_x 13 yx_isThere cx_isThere 1 (some .boolean) 1 := ⟨wc_x_isThere, wl_x_13, wt_x_isThere, wn_x, ⟨by decide, by decide, by decide +kernel⟩, by decide⟩
theorem kx_isThere_in_x {p : Program} {l : Launch} {env : Env} {s : State} {m : MethodId} {args : Array Value} {below : List Frame} {meth : Method} {c : Code} {H : Heap} {locs : List Loc} {Q : State → Prop} {cc : ByteArray} {pc nL d : Nat} {ls : Array Slot} {rest : List Value} {v0 : Int32} (E : CallFix p m c cc nL s args tw R_x) (hls : ls.size = nL) (hd : 0 + 1 ≤ d) (hr : (rest.map fun v => v.category).sum ≤ 8) (hdg : decode cc pc = .ok (.invokestatic 13, 3)) (kk : W p l env (rmD d) s m args below meth c H locs 0 0 Q (F0 m (pc + 3) ls (.int (fx_isThere v0) :: rest))) : W p l env (rmD d) s m args below meth c H locs 0 0 Q (F0 m pc ls (.int v0 :: rest)) :=
  scall (av := [.int v0]) E (mx_isThere l v0) gkx_isThere_in_x rfl hls hd hr hdg kk
/-! TenMachine.signed (J)J -/
def fx_signed (v0 : Int64) : Int64 :=
  ((v0 <<< ((28 : Int32).toInt64 &&& 63)) >>> ((28 : Int32).toInt64 &&& 63))
set_option maxRecDepth 100000 in
set_option maxHeartbeats 4000000 in
theorem wx_signed_0 {v0 : Int64} {ls : Array Slot} (E : CallFix p m c cx_signed 2 s args tw R_x) (hl : lv_has ls 2 [(0, .long v0)]) (hret : srl p l env (rmD 0) s m args below meth c cx_signed .long Q (fx_signed v0)) : W p l env (rmD 0) s m args below meth c s.heap [] 0 0 Q (F0 m 0 ls []) := by
  have hx := E.1; have hb := E.2.1
  unfold fx_signed at hret
  refine lv_lload_n hx hb dx_signed_0 rfl (lv_at hl 0 rfl) ?_
  refine lv_bipush (v := (28 : Int32)) hx hb dx_signed_1 (by decide) ?_
  refine lv_lshl hx hb dx_signed_3 rfl ?_
  refine lv_bipush (v := (28 : Int32)) hx hb dx_signed_4 (by decide) ?_
  refine lv_lshr hx hb dx_signed_6 rfl ?_
  exact hret _ _ dx_signed_7  (nw_l _)
set_option maxRecDepth 100000 in
set_option maxHeartbeats 4000000 in
theorem mx_signed (l : Launch) (v0 : Int64) : sMet l yx_signed cx_signed 2 (some .long) 0 [.long v0] (.long (fx_signed v0)) :=
  sMet.ofl (by decide +kernel) (Nat.le_of_ble_eq_true rfl) (fun p env s m args below meth c ls Q E hl hret => wx_signed_0 E (lv_sub hl [0] rfl) hret)
theorem gkx_signed_in_x : sW R_x 17 yx_signed cx_signed 2 (some .long) 1 := ⟨wc_x_signed, wl_x_17, wt_x_signed, wn_x, ⟨by decide, by decide, by decide +kernel⟩, by decide⟩
theorem kx_signed_in_x {p : Program} {l : Launch} {env : Env} {s : State} {m : MethodId} {args : Array Value} {below : List Frame} {meth : Method} {c : Code} {H : Heap} {locs : List Loc} {Q : State → Prop} {cc : ByteArray} {pc nL d : Nat} {ls : Array Slot} {rest : List Value} {v0 : Int64} (E : CallFix p m c cc nL s args tw R_x) (hls : ls.size = nL) (hd : 0 + 1 ≤ d) (hr : (rest.map fun v => v.category).sum ≤ 8) (hdg : decode cc pc = .ok (.invokestatic 17, 3)) (kk : W p l env (rmD d) s m args below meth c H locs 0 0 Q (F0 m (pc + 3) ls (.long (fx_signed v0) :: rest))) : W p l env (rmD d) s m args below meth c H locs 0 0 Q (F0 m pc ls (.long v0 :: rest)) :=
  scall (av := [.long v0]) E (mx_signed l v0) gkx_signed_in_x rfl hls hd hr hdg kk
/-! TenMachine.left (J)I -/
def fx_left (v0 : Int64) : Int32 :=
  (((v0 >>> ((18 : Int32).toInt64 &&& 63)).toInt32) &&& (262143 : Int32))
set_option maxRecDepth 100000 in
set_option maxHeartbeats 4000000 in
theorem wx_left_0 {v0 : Int64} {ls : Array Slot} (E : CallFix p m c cx_left 2 s args tw R_x) (hl : lv_has ls 2 [(0, .long v0)]) (hret : sri p l env (rmD 0) s m args below meth c cx_left .int Q (fx_left v0)) : W p l env (rmD 0) s m args below meth c s.heap [] 0 0 Q (F0 m 0 ls []) := by
  have hx := E.1; have hb := E.2.1
  unfold fx_left at hret
  refine lv_lload_n hx hb dx_left_0 rfl (lv_at hl 0 rfl) ?_
  refine lv_bipush (v := (18 : Int32)) hx hb dx_left_1 (by decide) ?_
  refine lv_lshr hx hb dx_left_3 rfl ?_
  refine lv_l2i hx hb dx_left_4 rfl ?_
  refine lv_ldc hx hb E.2.2.2.1 (E.2.2.2.2 _ ct_x_175) dx_left_5 ?_
  refine lv_iand hx hb dx_left_7 ?_
  exact hret _ _ dx_left_8  (nw_i _)
set_option maxRecDepth 100000 in
set_option maxHeartbeats 4000000 in
theorem mx_left (l : Launch) (v0 : Int64) : sMet l yx_left cx_left 2 (some .int) 0 [.long v0] (.int (fx_left v0)) :=
  sMet.ofi (by decide +kernel) (Nat.le_of_ble_eq_true rfl) (fun p env s m args below meth c ls Q E hl hret => wx_left_0 E (lv_sub hl [0] rfl) hret)
theorem gkx_left_in_x : sW R_x 192 yx_left cx_left 2 (some .int) 1 := ⟨wc_x_left, wl_x_192, wt_x_left, wn_x, ⟨by decide, by decide, by decide +kernel⟩, by decide⟩
theorem kx_left_in_x {p : Program} {l : Launch} {env : Env} {s : State} {m : MethodId} {args : Array Value} {below : List Frame} {meth : Method} {c : Code} {H : Heap} {locs : List Loc} {Q : State → Prop} {cc : ByteArray} {pc nL d : Nat} {ls : Array Slot} {rest : List Value} {v0 : Int64} (E : CallFix p m c cc nL s args tw R_x) (hls : ls.size = nL) (hd : 0 + 1 ≤ d) (hr : (rest.map fun v => v.category).sum ≤ 8) (hdg : decode cc pc = .ok (.invokestatic 192, 3)) (kk : W p l env (rmD d) s m args below meth c H locs 0 0 Q (F0 m (pc + 3) ls (.int (fx_left v0) :: rest))) : W p l env (rmD d) s m args below meth c H locs 0 0 Q (F0 m pc ls (.long v0 :: rest)) :=
  scall (av := [.long v0]) E (mx_left l v0) gkx_left_in_x rfl hls hd hr hdg kk
/-! TenMachine.right (J)I -/
def fx_right (v0 : Int64) : Int32 :=
  (v0.toInt32 &&& (262143 : Int32))
set_option maxRecDepth 100000 in
set_option maxHeartbeats 4000000 in
theorem wx_right_0 {v0 : Int64} {ls : Array Slot} (E : CallFix p m c cx_right 2 s args tw R_x) (hl : lv_has ls 2 [(0, .long v0)]) (hret : sri p l env (rmD 0) s m args below meth c cx_right .int Q (fx_right v0)) : W p l env (rmD 0) s m args below meth c s.heap [] 0 0 Q (F0 m 0 ls []) := by
  have hx := E.1; have hb := E.2.1
  unfold fx_right at hret
  refine lv_lload_n hx hb dx_right_0 rfl (lv_at hl 0 rfl) ?_
  refine lv_l2i hx hb dx_right_1 rfl ?_
  refine lv_ldc hx hb E.2.2.2.1 (E.2.2.2.2 _ ct_x_175) dx_right_2 ?_
  refine lv_iand hx hb dx_right_4 ?_
  exact hret _ _ dx_right_5  (nw_i _)
set_option maxRecDepth 100000 in
set_option maxHeartbeats 4000000 in
theorem mx_right (l : Launch) (v0 : Int64) : sMet l yx_right cx_right 2 (some .int) 0 [.long v0] (.int (fx_right v0)) :=
  sMet.ofi (by decide +kernel) (Nat.le_of_ble_eq_true rfl) (fun p env s m args below meth c ls Q E hl hret => wx_right_0 E (lv_sub hl [0] rfl) hret)
theorem gkx_right_in_x : sW R_x 57 yx_right cx_right 2 (some .int) 1 := ⟨wc_x_right, wl_x_57, wt_x_right, wn_x, ⟨by decide, by decide, by decide +kernel⟩, by decide⟩
theorem kx_right_in_x {p : Program} {l : Launch} {env : Env} {s : State} {m : MethodId} {args : Array Value} {below : List Frame} {meth : Method} {c : Code} {H : Heap} {locs : List Loc} {Q : State → Prop} {cc : ByteArray} {pc nL d : Nat} {ls : Array Slot} {rest : List Value} {v0 : Int64} (E : CallFix p m c cc nL s args tw R_x) (hls : ls.size = nL) (hd : 0 + 1 ≤ d) (hr : (rest.map fun v => v.category).sum ≤ 8) (hdg : decode cc pc = .ok (.invokestatic 57, 3)) (kk : W p l env (rmD d) s m args below meth c H locs 0 0 Q (F0 m (pc + 3) ls (.int (fx_right v0) :: rest))) : W p l env (rmD d) s m args below meth c H locs 0 0 Q (F0 m pc ls (.long v0 :: rest)) :=
  scall (av := [.long v0]) E (mx_right l v0) gkx_right_in_x rfl hls hd hr hdg kk
/-! TenMachine.joined (II)J -/
def fx_joined (v0 : Int32) (v1 : Int32) : Int64 :=
  (((v0.toInt64 <<< ((46 : Int32).toInt64 &&& 63)) >>> ((28 : Int32).toInt64 &&& 63)) ||| ((v1 &&& (262143 : Int32)).toInt64))
set_option maxRecDepth 100000 in
set_option maxHeartbeats 4000000 in
theorem wx_joined_0 {v0 : Int32} {v1 : Int32} {ls : Array Slot} (E : CallFix p m c cx_joined 2 s args tw R_x) (hl : lv_has ls 2 [(0, .int v0), (1, .int v1)]) (hret : srl p l env (rmD 0) s m args below meth c cx_joined .long Q (fx_joined v0 v1)) : W p l env (rmD 0) s m args below meth c s.heap [] 0 0 Q (F0 m 0 ls []) := by
  have hx := E.1; have hb := E.2.1
  unfold fx_joined at hret
  refine lv_iload_n hx hb dx_joined_0 rfl (lv_at hl 0 rfl) ?_
  refine lv_i2l hx hb dx_joined_1 rfl ?_
  refine lv_bipush (v := (46 : Int32)) hx hb dx_joined_2 (by decide) ?_
  refine lv_lshl hx hb dx_joined_4 rfl ?_
  refine lv_bipush (v := (28 : Int32)) hx hb dx_joined_5 (by decide) ?_
  refine lv_lshr hx hb dx_joined_7 rfl ?_
  refine lv_iload_n hx hb dx_joined_8 rfl (lv_at hl 1 rfl) ?_
  refine lv_ldc hx hb E.2.2.2.1 (E.2.2.2.2 _ ct_x_175) dx_joined_9 ?_
  refine lv_iand hx hb dx_joined_11 ?_
  refine lv_i2l hx hb dx_joined_12 rfl ?_
  refine lv_lor hx hb dx_joined_13 ?_
  exact hret _ _ dx_joined_14  (nw_l _)
set_option maxRecDepth 100000 in
set_option maxHeartbeats 4000000 in
theorem mx_joined (l : Launch) (v0 : Int32) (v1 : Int32) : sMet l yx_joined cx_joined 2 (some .long) 0 [.int v0, .int v1] (.long (fx_joined v0 v1)) :=
  sMet.ofl (by decide +kernel) (Nat.le_of_ble_eq_true rfl) (fun p env s m args below meth c ls Q E hl hret => wx_joined_0 E (lv_sub hl [0, 1] rfl) hret)
theorem gkx_joined_in_x : sW R_x 241 yx_joined cx_joined 2 (some .long) 2 := ⟨wc_x_joined, wl_x_241, wt_x_joined, wn_x, ⟨by decide, by decide, by decide +kernel⟩, by decide⟩
theorem kx_joined_in_x {p : Program} {l : Launch} {env : Env} {s : State} {m : MethodId} {args : Array Value} {below : List Frame} {meth : Method} {c : Code} {H : Heap} {locs : List Loc} {Q : State → Prop} {cc : ByteArray} {pc nL d : Nat} {ls : Array Slot} {rest : List Value} {v0 : Int32} {v1 : Int32} (E : CallFix p m c cc nL s args tw R_x) (hls : ls.size = nL) (hd : 0 + 1 ≤ d) (hr : (rest.map fun v => v.category).sum ≤ 8) (hdg : decode cc pc = .ok (.invokestatic 241, 3)) (kk : W p l env (rmD d) s m args below meth c H locs 0 0 Q (F0 m (pc + 3) ls (.long (fx_joined v0 v1) :: rest))) : W p l env (rmD d) s m args below meth c H locs 0 0 Q (F0 m pc ls (.int v1 :: .int v0 :: rest)) :=
  scall (av := [.int v0, .int v1]) E (mx_joined l v0 v1) gkx_joined_in_x rfl hls hd hr hdg kk
/-! TenMachine.turnedRound (JI)J -/
def fx_turnedRound (v0 : Int64) (v2 : Int32) : Int64 :=
  (fx_signed (((v0 &&& (68719476735 : Int64)) <<< ((fjm_floorMod v2 (36 : Int32)).toInt64 &&& 63)) ||| ((v0 &&& (68719476735 : Int64)) >>> (((36 : Int32) - (fjm_floorMod v2 (36 : Int32))).toInt64 &&& 63))))
set_option maxRecDepth 100000 in
set_option maxHeartbeats 4000000 in
theorem wx_turnedRound_0 {v0 : Int64} {v2 : Int32} {ls : Array Slot} (E : CallFix p m c cx_turnedRound 6 s args tw R_x) (hl : lv_has ls 6 [(0, .long v0), (2, .int v2)]) (hret : srl p l env (rmD 1) s m args below meth c cx_turnedRound .long Q (fx_turnedRound v0 v2)) : W p l env (rmD 1) s m args below meth c s.heap [] 0 0 Q (F0 m 0 ls []) := by
  have hx := E.1; have hb := E.2.1
  unfold fx_turnedRound at hret
  refine lv_lload_n hx hb dx_turnedRound_0 rfl (lv_at hl 0 rfl) ?_
  refine lv_ldc2 hx hb E.2.2.2.1 (E.2.2.2.2 _ ct_x_182) dx_turnedRound_1 ?_
  refine lv_land hx hb dx_turnedRound_4 ?_
  refine lv_lstore_n (lv' := [(3, .long (v0 &&& (68719476735 : Int64))), (0, .long v0), (2, .int v2)]) hx hb dx_turnedRound_5 rfl hl (by decide) rfl (fun ls hl => ?_)
  refine lv_iload_n hx hb dx_turnedRound_6 rfl (lv_at hl 2 rfl) ?_
  refine lv_bipush (v := (36 : Int32)) hx hb dx_turnedRound_7 (by decide) ?_
  refine kjm_floorMod_in_x E hl.1 (by decide) (by decide) (Nat.le_of_ble_eq_true rfl) dx_turnedRound_9 ?_
  refine lv_istore (lv' := [(5, .int (fjm_floorMod v2 (36 : Int32))), (3, .long (v0 &&& (68719476735 : Int64))), (0, .long v0), (2, .int v2)]) hx hb dx_turnedRound_12 hl (by decide) rfl (fun ls hl => ?_)
  refine lv_lload_n hx hb dx_turnedRound_14 rfl (lv_at hl 1 rfl) ?_
  refine lv_iload hx hb dx_turnedRound_15 (lv_at hl 0 rfl) ?_
  refine lv_lshl hx hb dx_turnedRound_17 rfl ?_
  refine lv_lload_n hx hb dx_turnedRound_18 rfl (lv_at hl 1 rfl) ?_
  refine lv_bipush (v := (36 : Int32)) hx hb dx_turnedRound_19 (by decide) ?_
  refine lv_iload hx hb dx_turnedRound_21 (lv_at hl 0 rfl) ?_
  refine lv_isub hx hb dx_turnedRound_23 ?_
  refine lv_lshr hx hb dx_turnedRound_24 rfl ?_
  refine lv_lor hx hb dx_turnedRound_25 ?_
  refine kx_signed_in_x E hl.1 (by decide) (Nat.le_of_ble_eq_true rfl) dx_turnedRound_26 ?_
  exact hret _ _ dx_turnedRound_29  (nw_l _)
set_option maxRecDepth 100000 in
set_option maxHeartbeats 4000000 in
theorem mx_turnedRound (l : Launch) (v0 : Int64) (v2 : Int32) : sMet l yx_turnedRound cx_turnedRound 6 (some .long) 1 [.long v0, .int v2] (.long (fx_turnedRound v0 v2)) :=
  sMet.ofl (by decide +kernel) (Nat.le_of_ble_eq_true rfl) (fun p env s m args below meth c ls Q E hl hret => wx_turnedRound_0 E (lv_sub hl [0, 1] rfl) hret)
theorem gkx_turnedRound_in_x : sW R_x 165 yx_turnedRound cx_turnedRound 6 (some .long) 2 := ⟨wc_x_turnedRound, wl_x_165, wt_x_turnedRound, wn_x, ⟨by decide, by decide, by decide +kernel⟩, by decide⟩
theorem kx_turnedRound_in_x {p : Program} {l : Launch} {env : Env} {s : State} {m : MethodId} {args : Array Value} {below : List Frame} {meth : Method} {c : Code} {H : Heap} {locs : List Loc} {Q : State → Prop} {cc : ByteArray} {pc nL d : Nat} {ls : Array Slot} {rest : List Value} {v0 : Int64} {v2 : Int32} (E : CallFix p m c cc nL s args tw R_x) (hls : ls.size = nL) (hd : 1 + 1 ≤ d) (hr : (rest.map fun v => v.category).sum ≤ 8) (hdg : decode cc pc = .ok (.invokestatic 165, 3)) (kk : W p l env (rmD d) s m args below meth c H locs 0 0 Q (F0 m (pc + 3) ls (.long (fx_turnedRound v0 v2) :: rest))) : W p l env (rmD d) s m args below meth c H locs 0 0 Q (F0 m pc ls (.int v2 :: .long v0 :: rest)) :=
  scall (av := [.long v0, .int v2]) E (mx_turnedRound l v0 v2) gkx_turnedRound_in_x rfl hls hd hr hdg kk
/-! TenMachine.shiftedWithoutSign (JI)J -/
def fx_shiftedWithoutSign_30 (t0 : Int64) : Int64 :=
  (fx_signed t0)
set_option maxRecDepth 100000 in
set_option maxHeartbeats 4000000 in
theorem wx_shiftedWithoutSign_30 {t0 : Int64} {ls : Array Slot} (E : CallFix p m c cx_shiftedWithoutSign 5 s args tw R_x) (hl : lv_has ls 5 []) (hret : srl p l env (rmD 1) s m args below meth c cx_shiftedWithoutSign .long Q (fx_shiftedWithoutSign_30 t0)) : W p l env (rmD 1) s m args below meth c s.heap [] 0 0 Q (F0 m 30 ls [.long t0]) := by
  have hx := E.1; have hb := E.2.1
  unfold fx_shiftedWithoutSign_30 at hret
  refine kx_signed_in_x E hl.1 (by decide) (Nat.le_of_ble_eq_true rfl) dx_shiftedWithoutSign_30 ?_
  exact hret _ _ dx_shiftedWithoutSign_33  (nw_l _)
def fx_shiftedWithoutSign (v0 : Int64) (v2 : Int32) : Int64 :=
  if 0 ≤ v2 then
    fx_shiftedWithoutSign_30 ((v0 &&& (68719476735 : Int64)) <<< ((fjm_min v2 (63 : Int32)).toInt64 &&& 63))
  else
    fx_shiftedWithoutSign_30 ((v0 &&& (68719476735 : Int64)) >>> ((fjm_min (-v2) (63 : Int32)).toInt64 &&& 63))
set_option maxRecDepth 100000 in
set_option maxHeartbeats 4000000 in
theorem wx_shiftedWithoutSign_0 {v0 : Int64} {v2 : Int32} {ls : Array Slot} (E : CallFix p m c cx_shiftedWithoutSign 5 s args tw R_x) (hl : lv_has ls 5 [(0, .long v0), (2, .int v2)]) (hret : srl p l env (rmD 1) s m args below meth c cx_shiftedWithoutSign .long Q (fx_shiftedWithoutSign v0 v2)) : W p l env (rmD 1) s m args below meth c s.heap [] 0 0 Q (F0 m 0 ls []) := by
  have hx := E.1; have hb := E.2.1
  unfold fx_shiftedWithoutSign at hret
  refine lv_lload_n hx hb dx_shiftedWithoutSign_0 rfl (lv_at hl 0 rfl) ?_
  refine lv_ldc2 hx hb E.2.2.2.1 (E.2.2.2.2 _ ct_x_182) dx_shiftedWithoutSign_1 ?_
  refine lv_land hx hb dx_shiftedWithoutSign_4 ?_
  refine lv_lstore_n (lv' := [(3, .long (v0 &&& (68719476735 : Int64))), (0, .long v0), (2, .int v2)]) hx hb dx_shiftedWithoutSign_5 rfl hl (by decide) rfl (fun ls hl => ?_)
  refine lv_iload_n hx hb dx_shiftedWithoutSign_6 rfl (lv_at hl 2 rfl) ?_
  refine lv_if_ge (tgt := 22) hx hb dx_shiftedWithoutSign_7 (by decide) (fun h1 => ?_) (fun h1 => ?_)
  · rw [if_pos h1] at hret
    refine lv_lload_n hx hb dx_shiftedWithoutSign_22 rfl (lv_at hl 0 rfl) ?_
    refine lv_iload_n hx hb dx_shiftedWithoutSign_23 rfl (lv_at hl 2 rfl) ?_
    refine lv_bipush (v := (63 : Int32)) hx hb dx_shiftedWithoutSign_24 (by decide) ?_
    refine kjm_min_in_x E hl.1 (by decide) (Nat.le_of_ble_eq_true rfl) dx_shiftedWithoutSign_26 ?_
    refine lv_lshl hx hb dx_shiftedWithoutSign_29 rfl ?_
    exact wx_shiftedWithoutSign_30 E (lv_sub hl [] rfl) hret
  · rw [if_neg h1] at hret
    refine lv_lload_n hx hb dx_shiftedWithoutSign_10 rfl (lv_at hl 0 rfl) ?_
    refine lv_iload_n hx hb dx_shiftedWithoutSign_11 rfl (lv_at hl 2 rfl) ?_
    refine lv_ineg hx hb dx_shiftedWithoutSign_12 ?_
    refine lv_bipush (v := (63 : Int32)) hx hb dx_shiftedWithoutSign_13 (by decide) ?_
    refine kjm_min_in_x E hl.1 (by decide) (Nat.le_of_ble_eq_true rfl) dx_shiftedWithoutSign_15 ?_
    refine lv_lshr hx hb dx_shiftedWithoutSign_18 rfl ?_
    refine lv_goto (tgt := 30) hx hb dx_shiftedWithoutSign_19 (by decide) ?_
    exact wx_shiftedWithoutSign_30 E (lv_sub hl [] rfl) hret
set_option maxRecDepth 100000 in
set_option maxHeartbeats 4000000 in
theorem mx_shiftedWithoutSign (l : Launch) (v0 : Int64) (v2 : Int32) : sMet l yx_shiftedWithoutSign cx_shiftedWithoutSign 5 (some .long) 1 [.long v0, .int v2] (.long (fx_shiftedWithoutSign v0 v2)) :=
  sMet.ofl (by decide +kernel) (Nat.le_of_ble_eq_true rfl) (fun p env s m args below meth c ls Q E hl hret => wx_shiftedWithoutSign_0 E (lv_sub hl [0, 1] rfl) hret)
theorem gkx_shiftedWithoutSign_in_x : sW R_x 168 yx_shiftedWithoutSign cx_shiftedWithoutSign 5 (some .long) 2 := ⟨wc_x_shiftedWithoutSign, wl_x_168, wt_x_shiftedWithoutSign, wn_x, ⟨by decide, by decide, by decide +kernel⟩, by decide⟩
theorem kx_shiftedWithoutSign_in_x {p : Program} {l : Launch} {env : Env} {s : State} {m : MethodId} {args : Array Value} {below : List Frame} {meth : Method} {c : Code} {H : Heap} {locs : List Loc} {Q : State → Prop} {cc : ByteArray} {pc nL d : Nat} {ls : Array Slot} {rest : List Value} {v0 : Int64} {v2 : Int32} (E : CallFix p m c cc nL s args tw R_x) (hls : ls.size = nL) (hd : 1 + 1 ≤ d) (hr : (rest.map fun v => v.category).sum ≤ 8) (hdg : decode cc pc = .ok (.invokestatic 168, 3)) (kk : W p l env (rmD d) s m args below meth c H locs 0 0 Q (F0 m (pc + 3) ls (.long (fx_shiftedWithoutSign v0 v2) :: rest))) : W p l env (rmD d) s m args below meth c H locs 0 0 Q (F0 m pc ls (.int v2 :: .long v0 :: rest)) :=
  scall (av := [.long v0, .int v2]) E (mx_shiftedWithoutSign l v0 v2) gkx_shiftedWithoutSign_in_x rfl hls hd hr hdg kk
/-! TenMachine.swapped (J)J -/
def fx_swapped (v0 : Int64) : Int64 :=
  (fx_joined (fx_right v0) (fx_left v0))
set_option maxRecDepth 100000 in
set_option maxHeartbeats 4000000 in
theorem wx_swapped_0 {v0 : Int64} {ls : Array Slot} (E : CallFix p m c cx_swapped 2 s args tw R_x) (hl : lv_has ls 2 [(0, .long v0)]) (hret : srl p l env (rmD 1) s m args below meth c cx_swapped .long Q (fx_swapped v0)) : W p l env (rmD 1) s m args below meth c s.heap [] 0 0 Q (F0 m 0 ls []) := by
  have hx := E.1; have hb := E.2.1
  unfold fx_swapped at hret
  refine lv_lload_n hx hb dx_swapped_0 rfl (lv_at hl 0 rfl) ?_
  refine kx_right_in_x E hl.1 (by decide) (Nat.le_of_ble_eq_true rfl) dx_swapped_1 ?_
  refine lv_lload_n hx hb dx_swapped_4 rfl (lv_at hl 0 rfl) ?_
  refine kx_left_in_x E hl.1 (by decide) (Nat.le_of_ble_eq_true rfl) dx_swapped_5 ?_
  refine kx_joined_in_x E hl.1 (by decide) (Nat.le_of_ble_eq_true rfl) dx_swapped_8 ?_
  exact hret _ _ dx_swapped_11  (nw_l _)
set_option maxRecDepth 100000 in
set_option maxHeartbeats 4000000 in
theorem mx_swapped (l : Launch) (v0 : Int64) : sMet l yx_swapped cx_swapped 2 (some .long) 1 [.long v0] (.long (fx_swapped v0)) :=
  sMet.ofl (by decide +kernel) (Nat.le_of_ble_eq_true rfl) (fun p env s m args below meth c ls Q E hl hret => wx_swapped_0 E (lv_sub hl [0] rfl) hret)
theorem gkx_swapped_in_x : sW R_x 128 yx_swapped cx_swapped 2 (some .long) 1 := ⟨wc_x_swapped, wl_x_128, wt_x_swapped, wn_x, ⟨by decide, by decide, by decide +kernel⟩, by decide⟩
theorem kx_swapped_in_x {p : Program} {l : Launch} {env : Env} {s : State} {m : MethodId} {args : Array Value} {below : List Frame} {meth : Method} {c : Code} {H : Heap} {locs : List Loc} {Q : State → Prop} {cc : ByteArray} {pc nL d : Nat} {ls : Array Slot} {rest : List Value} {v0 : Int64} (E : CallFix p m c cc nL s args tw R_x) (hls : ls.size = nL) (hd : 1 + 1 ≤ d) (hr : (rest.map fun v => v.category).sum ≤ 8) (hdg : decode cc pc = .ok (.invokestatic 128, 3)) (kk : W p l env (rmD d) s m args below meth c H locs 0 0 Q (F0 m (pc + 3) ls (.long (fx_swapped v0) :: rest))) : W p l env (rmD d) s m args below meth c H locs 0 0 Q (F0 m pc ls (.long v0 :: rest)) :=
  scall (av := [.long v0]) E (mx_swapped l v0) gkx_swapped_in_x rfl hls hd hr hdg kk
/-! TenMachine.bothHalvesMore (JI)J -/
def fx_bothHalvesMore (v0 : Int64) (v2 : Int32) : Int64 :=
  (fx_joined ((fx_left v0) + v2) ((fx_right v0) + v2))
set_option maxRecDepth 100000 in
set_option maxHeartbeats 4000000 in
theorem wx_bothHalvesMore_0 {v0 : Int64} {v2 : Int32} {ls : Array Slot} (E : CallFix p m c cx_bothHalvesMore 3 s args tw R_x) (hl : lv_has ls 3 [(0, .long v0), (2, .int v2)]) (hret : srl p l env (rmD 1) s m args below meth c cx_bothHalvesMore .long Q (fx_bothHalvesMore v0 v2)) : W p l env (rmD 1) s m args below meth c s.heap [] 0 0 Q (F0 m 0 ls []) := by
  have hx := E.1; have hb := E.2.1
  unfold fx_bothHalvesMore at hret
  refine lv_lload_n hx hb dx_bothHalvesMore_0 rfl (lv_at hl 0 rfl) ?_
  refine kx_left_in_x E hl.1 (by decide) (Nat.le_of_ble_eq_true rfl) dx_bothHalvesMore_1 ?_
  refine lv_iload_n hx hb dx_bothHalvesMore_4 rfl (lv_at hl 1 rfl) ?_
  refine lv_iadd hx hb dx_bothHalvesMore_5 ?_
  refine lv_lload_n hx hb dx_bothHalvesMore_6 rfl (lv_at hl 0 rfl) ?_
  refine kx_right_in_x E hl.1 (by decide) (Nat.le_of_ble_eq_true rfl) dx_bothHalvesMore_7 ?_
  refine lv_iload_n hx hb dx_bothHalvesMore_10 rfl (lv_at hl 1 rfl) ?_
  refine lv_iadd hx hb dx_bothHalvesMore_11 ?_
  refine kx_joined_in_x E hl.1 (by decide) (Nat.le_of_ble_eq_true rfl) dx_bothHalvesMore_12 ?_
  exact hret _ _ dx_bothHalvesMore_15  (nw_l _)
set_option maxRecDepth 100000 in
set_option maxHeartbeats 4000000 in
theorem mx_bothHalvesMore (l : Launch) (v0 : Int64) (v2 : Int32) : sMet l yx_bothHalvesMore cx_bothHalvesMore 3 (some .long) 1 [.long v0, .int v2] (.long (fx_bothHalvesMore v0 v2)) :=
  sMet.ofl (by decide +kernel) (Nat.le_of_ble_eq_true rfl) (fun p env s m args below meth c ls Q E hl hret => wx_bothHalvesMore_0 E (lv_sub hl [0, 1] rfl) hret)
theorem gkx_bothHalvesMore_in_x : sW R_x 198 yx_bothHalvesMore cx_bothHalvesMore 3 (some .long) 2 := ⟨wc_x_bothHalvesMore, wl_x_198, wt_x_bothHalvesMore, wn_x, ⟨by decide, by decide, by decide +kernel⟩, by decide⟩
theorem kx_bothHalvesMore_in_x {p : Program} {l : Launch} {env : Env} {s : State} {m : MethodId} {args : Array Value} {below : List Frame} {meth : Method} {c : Code} {H : Heap} {locs : List Loc} {Q : State → Prop} {cc : ByteArray} {pc nL d : Nat} {ls : Array Slot} {rest : List Value} {v0 : Int64} {v2 : Int32} (E : CallFix p m c cc nL s args tw R_x) (hls : ls.size = nL) (hd : 1 + 1 ≤ d) (hr : (rest.map fun v => v.category).sum ≤ 8) (hdg : decode cc pc = .ok (.invokestatic 198, 3)) (kk : W p l env (rmD d) s m args below meth c H locs 0 0 Q (F0 m (pc + 3) ls (.long (fx_bothHalvesMore v0 v2) :: rest))) : W p l env (rmD d) s m args below meth c H locs 0 0 Q (F0 m pc ls (.int v2 :: .long v0 :: rest)) :=
  scall (av := [.long v0, .int v2]) E (mx_bothHalvesMore l v0 v2) gkx_bothHalvesMore_in_x rfl hls hd hr hdg kk
end TTV
