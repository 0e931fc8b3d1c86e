section TTV
variable {p : Program} {l : Launch} {env : Env} {s : State} {m : MethodId} {args : Array Value} {below : List Frame} {meth : Method} {c : Code} {Q : State → Prop} {D : va_G} {cA : ClassId} {h0 q : Nat}
/-! TenMachineModel.put (IJ)I -/
def fz_put (k : kSz) (v1 : Int32) (v2 : Int64) : Int32 × kSz :=
  if (fz_in v1.toInt64 (0 : Int64) (4095 : Int64)) = 0 then
    ((-1 : Int32), k)
  else
    ((0 : Int32), stz k v1 (v2 &&& (68719476735 : Int64)))
set_option maxRecDepth 100000 in
set_option maxHeartbeats 4000000 in
theorem wz_put_0 {k : kSz} {v1 : Int32} {v2 : Int64} {H : Heap} {locs : List Loc} {ls : Array Slot} (E : zE p s m args c cz_put 4 D cA h0 q) (hC : zC D cA h0 q s.heap k H locs) (hl : lv_has ls 4 [(0, .ref h0), (1, .int v1), (2, .long v2)]) (hret : zwi p l env (rmD 1) s m args below meth c cz_put D cA h0 q .int Q (fz_put k v1 v2)) : W p l env (rmD 1) s m args below meth c H locs 0 0 Q (F0 m 0 ls []) := by
  have hx := E.1.1; have hb := E.1.2.1
  unfold fz_put at hret
  refine lv_iload_n hx hb dz_put_0 rfl (lv_at hl 1 rfl) ?_
  refine lv_i2l hx hb dz_put_1 rfl ?_
  refine lv_lconst (v := (0 : Int64)) hx hb dz_put_2 (by decide) ?_
  refine lv_ldc2 hx hb E.1.2.2.2.1 (E.1.2.2.2.2 _ ct_z_21) dz_put_3 ?_
  refine kz_in_in_z E.1 hl.1 (by decide) (Nat.le_of_ble_eq_true rfl) dz_put_6 ?_
  refine lv_if_ne (tgt := 14) hx hb dz_put_9 (by decide) (fun h1 => ?_) (fun h1 => ?_)
  · rw [if_neg h1] at hret
    refine lv_aload_n hx hb dz_put_14 rfl (lv_at hl 0 rfl) ?_
    refine zg_words E hC dz_put_15 ?_
    refine lv_iload_n hx hb dz_put_18 rfl (lv_at hl 1 rfl) ?_
    refine lv_lload_n hx hb dz_put_19 rfl (lv_at hl 2 rfl) ?_
    refine lv_ldc2 hx hb E.1.2.2.2.1 (E.1.2.2.2.2 _ ct_z_7) dz_put_20 ?_
    refine lv_land hx hb dz_put_23 ?_
    refine zst E hC (by first | exact hae | exact vin_zin (by assumption) | exact vin_gone (by assumption) (by assumption) | exact vin_gone (rt_nn _) (by assumption) | exact vin_lt (by assumption) (by assumption) | exact vin_lt (rt_nn _) (by assumption) | exact vin_lt (and_nn _) (by assumption) | exact he (by assumption) | exact he (ne1_nlt2 (by assumption)) | exact hw (by assumption) | exact hw2 | exact vin15 _) dz_put_24 (fun H locs hC => ?_)
    refine lv_iconst (v := (0 : Int32)) hx hb dz_put_25 (by decide) ?_
    exact (zwi_out hret) _ _ _ _ dz_put_26 hC  (nw_i _)
  · rw [if_pos h1] at hret
    refine lv_iconst (v := (-1 : Int32)) hx hb dz_put_12 (by decide) ?_
    exact (zwi_out hret) _ _ _ _ dz_put_13 hC  (nw_i _)
set_option maxRecDepth 100000 in
set_option maxHeartbeats 4000000 in
theorem mz_put (l : Launch) (k : kSz) (v1 : Int32) (v2 : Int64) : zMet l yz_put cz_put 4 (some .int) 1 [.int v1, .long v2] k (some (.int (fz_put k v1 v2).1)) (fz_put k v1 v2).2  :=
  zMet.ofi (by decide) rfl (fun _ => Nat.le_of_ble_eq_true rfl) (fun D cA h0 q p env s m args below meth c ls Q E hC hl hret => wz_put_0 E hC (lv_sub hl [0, 1, 2] rfl) hret)
/-! TenMachineModel.get (I)J -/
def fz_get (k : kSz) (v1 : Int32) : Int64 :=
  if (fz_in v1.toInt64 (0 : Int64) (4095 : Int64)) = 0 then
    (1099511627776 : Int64)
  else
    (fz_signed (ldz k v1))
set_option maxRecDepth 100000 in
set_option maxHeartbeats 4000000 in
theorem wz_get_0 {k : kSz} {v1 : Int32} {H : Heap} {locs : List Loc} {ls : Array Slot} (E : zE p s m args c cz_get 2 D cA h0 q) (hC : zC D cA h0 q s.heap k H locs) (hl : lv_has ls 2 [(0, .ref h0), (1, .int v1)]) (hret : zrl p l env (rmD 1) s m args below meth c cz_get D cA h0 q .long k Q (fz_get k v1)) : W p l env (rmD 1) s m args below meth c H locs 0 0 Q (F0 m 0 ls []) := by
  have hx := E.1.1; have hb := E.1.2.1
  unfold fz_get at hret
  refine lv_iload_n hx hb dz_get_0 rfl (lv_at hl 1 rfl) ?_
  refine lv_i2l hx hb dz_get_1 rfl ?_
  refine lv_lconst (v := (0 : Int64)) hx hb dz_get_2 (by decide) ?_
  refine lv_ldc2 hx hb E.1.2.2.2.1 (E.1.2.2.2.2 _ ct_z_21) dz_get_3 ?_
  refine kz_in_in_z E.1 hl.1 (by decide) (Nat.le_of_ble_eq_true rfl) dz_get_6 ?_
  refine lv_if_eq (tgt := 24) hx hb dz_get_9 (by decide) (fun h1 => ?_) (fun h1 => ?_)
  · rw [if_pos h1] at hret
    refine lv_ldc2 hx hb E.1.2.2.2.1 (E.1.2.2.2.2 _ ct_z_186) dz_get_24 ?_
    exact hret _ _ _ _ dz_get_27 hC  (nw_l _)
  · rw [if_neg h1] at hret
    refine lv_aload_n hx hb dz_get_12 rfl (lv_at hl 0 rfl) ?_
    refine zg_words E hC dz_get_13 ?_
    refine lv_iload_n hx hb dz_get_16 rfl (lv_at hl 1 rfl) ?_
    refine zld E hC (by first | exact hae | exact vin_zin (by assumption) | exact vin_gone (by assumption) (by assumption) | exact vin_gone (rt_nn _) (by assumption) | exact vin_lt (by assumption) (by assumption) | exact vin_lt (rt_nn _) (by assumption) | exact vin_lt (and_nn _) (by assumption) | exact he (by assumption) | exact he (ne1_nlt2 (by assumption)) | exact hw (by assumption) | exact hw2 | exact vin15 _) dz_get_17 ?_
    refine kz_signed_in_z E.1 hl.1 (by decide) (Nat.le_of_ble_eq_true rfl) dz_get_18 ?_
    refine lv_goto (tgt := 27) hx hb dz_get_21 (by decide) ?_
    exact hret _ _ _ _ dz_get_27 hC  (nw_l _)
set_option maxRecDepth 100000 in
set_option maxHeartbeats 4000000 in
theorem mz_get (l : Launch) (k : kSz) (v1 : Int32) : zMet l yz_get cz_get 2 (some .long) 1 [.int v1] k (some (.long (fz_get k v1))) k :=
  zMet.ofl (by decide) rfl (fun _ => Nat.le_of_ble_eq_true rfl) (fun D cA h0 q p env s m args below meth c ls Q E hC hl hret => wz_get_0 E hC (lv_sub hl [0, 1] rfl) hret)
/-! TenMachineModel.turned (IJ)J -/
def fz_turned_34 (k : kSz) (v4 : Int64) : Int64 × kSz :=
  if v4 = (-34359738368 : Int64) then
    (((-v4) &&& (68719476735 : Int64)), vz_ov k (1 : Int32))
  else
    (((-v4) &&& (68719476735 : Int64)), k)
set_option maxRecDepth 100000 in
set_option maxHeartbeats 4000000 in
theorem wz_turned_34 {k : kSz} {v4 : Int64} {H : Heap} {locs : List Loc} {ls : Array Slot} (E : zE p s m args c cz_turned 6 D cA h0 q) (hC : zC D cA h0 q s.heap k H locs) (hl : lv_has ls 6 [(0, .ref h0), (4, .long v4)]) (hret : zwl p l env (rmD 2) s m args below meth c cz_turned D cA h0 q .long Q (fz_turned_34 k v4)) : W p l env (rmD 2) s m args below meth c H locs 0 0 Q (F0 m 34 ls []) := by
  have hx := E.1.1; have hb := E.1.2.1
  unfold fz_turned_34 at hret
  refine lv_lload hx hb dz_turned_34 (lv_at hl 1 rfl) ?_
  refine lv_ldc2 hx hb E.1.2.2.2.1 (E.1.2.2.2.2 _ ct_z_3) dz_turned_36 ?_
  refine tt_lcmp_ne (tgt := 48) hx hb dz_turned_39 dz_turned_40 (by decide) (fun h1 => ?_) (fun h1 => ?_)
  · rw [if_neg h1] at hret
    refine lv_lload hx hb dz_turned_48 (lv_at hl 1 rfl) ?_
    refine lv_lneg hx hb dz_turned_50 ?_
    refine lv_ldc2 hx hb E.1.2.2.2.1 (E.1.2.2.2.2 _ ct_z_7) dz_turned_51 ?_
    refine lv_land hx hb dz_turned_54 ?_
    exact (zwl_out hret) _ _ _ _ dz_turned_55 hC  (nw_l _)
  · rw [if_pos h1] at hret
    refine lv_aload_n hx hb dz_turned_43 rfl (lv_at hl 0 rfl) ?_
    refine lv_iconst (v := (1 : Int32)) hx hb dz_turned_44 (by decide) ?_
    refine zp_overflow E hC rfl rfl dz_turned_45 (fun H locs hC => ?_)
    refine lv_lload hx hb dz_turned_48 (lv_at hl 1 rfl) ?_
    refine lv_lneg hx hb dz_turned_50 ?_
    refine lv_ldc2 hx hb E.1.2.2.2.1 (E.1.2.2.2.2 _ ct_z_7) dz_turned_51 ?_
    refine lv_land hx hb dz_turned_54 ?_
    exact (zwl_out hret) _ _ _ _ dz_turned_55 hC  (nw_l _)
def fz_turned (k : kSz) (v1 : Int32) (v2 : Int64) : Int64 × kSz :=
  if v1 = (1 : Int32) then
    ((fz_opposite v2), k)
  else
    if v1 = 0 then
      (v2, k)
    else
      if v1 = (3 : Int32) then
        if (fz_signed v2) < (0 : Int64) then
          fz_turned_34 k (fz_signed v2)
        else
          (v2, k)
      else
        fz_turned_34 k (fz_signed v2)
set_option maxRecDepth 100000 in
set_option maxHeartbeats 4000000 in
theorem wz_turned_0 {k : kSz} {v1 : Int32} {v2 : Int64} {H : Heap} {locs : List Loc} {ls : Array Slot} (E : zE p s m args c cz_turned 6 D cA h0 q) (hC : zC D cA h0 q s.heap k H locs) (hl : lv_has ls 6 [(0, .ref h0), (1, .int v1), (2, .long v2)]) (hret : zwl p l env (rmD 2) s m args below meth c cz_turned D cA h0 q .long Q (fz_turned k v1 v2)) : W p l env (rmD 2) s m args below meth c H locs 0 0 Q (F0 m 0 ls []) := by
  have hx := E.1.1; have hb := E.1.2.1
  unfold fz_turned at hret
  refine lv_lload_n hx hb dz_turned_0 rfl (lv_at hl 2 rfl) ?_
  refine kz_signed_in_z E.1 hl.1 (by decide) (Nat.le_of_ble_eq_true rfl) dz_turned_1 ?_
  refine lv_lstore (lv' := [(4, .long (fz_signed v2)), (0, .ref h0), (1, .int v1), (2, .long v2)]) hx hb dz_turned_4 hl (by decide) rfl (fun ls hl => ?_)
  refine lv_iload_n hx hb dz_turned_6 rfl (lv_at hl 2 rfl) ?_
  refine lv_iconst (v := (1 : Int32)) hx hb dz_turned_7 (by decide) ?_
  refine lv_icmp_ne (tgt := 16) hx hb dz_turned_8 (by decide) (fun h1 => ?_) (fun h1 => ?_)
  · rw [if_neg h1] at hret
    refine lv_iload_n hx hb dz_turned_16 rfl (lv_at hl 2 rfl) ?_
    refine lv_if_eq (tgt := 32) hx hb dz_turned_17 (by decide) (fun h2 => ?_) (fun h2 => ?_)
    · rw [if_pos h2] at hret
      refine lv_lload_n hx hb dz_turned_32 rfl (lv_at hl 3 rfl) ?_
      exact (zwl_out hret) _ _ _ _ dz_turned_33 hC  (nw_l _)
    · rw [if_neg h2] at hret
      refine lv_iload_n hx hb dz_turned_20 rfl (lv_at hl 2 rfl) ?_
      refine lv_iconst (v := (3 : Int32)) hx hb dz_turned_21 (by decide) ?_
      refine lv_icmp_ne (tgt := 34) hx hb dz_turned_22 (by decide) (fun h3 => ?_) (fun h3 => ?_)
      · rw [if_neg h3] at hret
        exact wz_turned_34 E hC (lv_sub hl [1, 0] rfl) hret
      · rw [if_pos h3] at hret
        refine lv_lload hx hb dz_turned_25 (lv_at hl 0 rfl) ?_
        refine lv_lconst (v := (0 : Int64)) hx hb dz_turned_27 (by decide) ?_
        refine tt_lcmp_lt (tgt := 34) hx hb dz_turned_28 dz_turned_29 (by decide) (fun h4 => ?_) (fun h4 => ?_)
        · rw [if_pos h4] at hret
          exact wz_turned_34 E hC (lv_sub hl [1, 0] rfl) hret
        · rw [if_neg h4] at hret
          refine lv_lload_n hx hb dz_turned_32 rfl (lv_at hl 3 rfl) ?_
          exact (zwl_out hret) _ _ _ _ dz_turned_33 hC  (nw_l _)
  · rw [if_pos h1] at hret
    refine lv_lload_n hx hb dz_turned_11 rfl (lv_at hl 3 rfl) ?_
    refine kz_opposite_in_z E.1 hl.1 (by decide) (Nat.le_of_ble_eq_true rfl) dz_turned_12 ?_
    exact (zwl_out hret) _ _ _ _ dz_turned_15 hC  (nw_l _)
set_option maxRecDepth 100000 in
set_option maxHeartbeats 4000000 in
theorem mz_turned (l : Launch) (k : kSz) (v1 : Int32) (v2 : Int64) : zMet l yz_turned cz_turned 6 (some .long) 2 [.int v1, .long v2] k (some (.long (fz_turned k v1 v2).1)) (fz_turned k v1 v2).2  :=
  zMet.ofl (by decide) rfl (fun _ => Nat.le_of_ble_eq_true rfl) (fun D cA h0 q p env s m args below meth c ls Q E hC hl hret => wz_turned_0 E hC (lv_sub hl [0, 1, 2] rfl) hret)
theorem gkz_turned : zYw R_z 141 yz_turned cz_turned 6 (some .long) 2 := ⟨wc_z_turned, wl_z_141, wi_z_turned, ws_z_turned, wn_z, ⟨by decide, by decide, by decide +kernel⟩, by decide⟩
theorem kz_turned {p : Program} {l : Launch} {env : Env} {s : State} {m : MethodId} {args : Array Value} {below : List Frame} {meth : Method} {c : Code} {H : Heap} {locs : List Loc} {Q : State → Prop} {cc : ByteArray} {pc nL d : Nat} {ls : Array Slot} {rest : List Value} {D : va_G} {cA : ClassId} {h0 q : Nat} {k : kSz} {v1 : Int32} {v2 : Int64} (E : zE p s m args c cc nL D cA h0 q) (hls : ls.size = nL) (hC : zC D cA h0 q s.heap k H locs) (hd : 2 + 1 ≤ d) (hr : (rest.map fun v => v.category).sum ≤ 8) (hdg : decode cc pc = .ok (.invokevirtual 141, 3)) (kk : ∀ (H1 : Heap) (locs1 : List Loc), zC D cA h0 q s.heap (fz_turned k v1 v2).2  H1 locs1 → W p l env (rmD d) s m args below meth c H1 locs1 0 0 Q (F0 m (pc + 3) ls (.long (fz_turned k v1 v2).1 :: rest))) : W p l env (rmD d) s m args below meth c H locs 0 0 Q (F0 m pc ls (.long v2 :: .int v1 :: .ref h0 :: rest)) :=
  zcall (av := [.int v1, .long v2]) E (mz_turned l k v1 v2) gkz_turned rfl hls hC hd hr hdg kk
/-! TenMachineModel.test (III)I -/
def fz_test_181 (k : kSz) (v2 : Int32) (v6 : Int64) (v8 : Int64) (v11 : Int32) : Int32 × kSz :=
  if v11 = (3 : Int32) then
    ((0 : Int32), stz k v2 (v8 ||| v6))
  else
    ((0 : Int32), k)
set_option maxRecDepth 100000 in
set_option maxHeartbeats 4000000 in
theorem wz_test_181 {k : kSz} {v2 : Int32} {v6 : Int64} {v8 : Int64} {v11 : Int32} {H : Heap} {locs : List Loc} {ls : Array Slot} (E : zE p s m args c cz_test 12 D cA h0 q) (hC : zC D cA h0 q s.heap k H locs) (hl : lv_has ls 12 [(0, .ref h0), (2, .int v2), (6, .long v6), (8, .long v8), (11, .int v11)]) (hae : vp_in v2 4096) (hret : zwi p l env (rmD 2) s m args below meth c cz_test D cA h0 q .int Q (fz_test_181 k v2 v6 v8 v11)) : W p l env (rmD 2) s m args below meth c H locs 0 0 Q (F0 m 181 ls []) := by
  have hx := E.1.1; have hb := E.1.2.1
  unfold fz_test_181 at hret
  refine lv_iload hx hb dz_test_181 (lv_at hl 4 rfl) ?_
  refine lv_iconst (v := (3 : Int32)) hx hb dz_test_183 (by decide) ?_
  refine lv_icmp_ne (tgt := 198) hx hb dz_test_184 (by decide) (fun h1 => ?_) (fun h1 => ?_)
  · rw [if_neg h1] at hret
    refine lv_iconst (v := (0 : Int32)) hx hb dz_test_198 (by decide) ?_
    exact (zwi_out hret) _ _ _ _ dz_test_199 hC  (nw_i _)
  · rw [if_pos h1] at hret
    refine lv_aload_n hx hb dz_test_187 rfl (lv_at hl 0 rfl) ?_
    refine zg_words E hC dz_test_188 ?_
    refine lv_iload_n hx hb dz_test_191 rfl (lv_at hl 1 rfl) ?_
    refine lv_lload hx hb dz_test_192 (lv_at hl 3 rfl) ?_
    refine lv_lload hx hb dz_test_194 (lv_at hl 2 rfl) ?_
    refine lv_lor hx hb dz_test_196 ?_
    refine zst E hC (hae) dz_test_197 (fun H locs hC => ?_)
    refine lv_iconst (v := (0 : Int32)) hx hb dz_test_198 (by decide) ?_
    exact (zwi_out hret) _ _ _ _ dz_test_199 hC  (nw_i _)
def fz_test_164 (k : kSz) (v2 : Int32) (v6 : Int64) (v8 : Int64) (v11 : Int32) : Int32 × kSz :=
  if v11 = (2 : Int32) then
    fz_test_181 (stz k v2 (v8 ^^^ v6)) v2 v6 v8 v11
  else
    fz_test_181 k v2 v6 v8 v11
set_option maxRecDepth 100000 in
set_option maxHeartbeats 4000000 in
theorem wz_test_164 {k : kSz} {v2 : Int32} {v6 : Int64} {v8 : Int64} {v11 : Int32} {H : Heap} {locs : List Loc} {ls : Array Slot} (E : zE p s m args c cz_test 12 D cA h0 q) (hC : zC D cA h0 q s.heap k H locs) (hl : lv_has ls 12 [(0, .ref h0), (2, .int v2), (6, .long v6), (8, .long v8), (11, .int v11)]) (hae : vp_in v2 4096) (hret : zwi p l env (rmD 2) s m args below meth c cz_test D cA h0 q .int Q (fz_test_164 k v2 v6 v8 v11)) : W p l env (rmD 2) s m args below meth c H locs 0 0 Q (F0 m 164 ls []) := by
  have hx := E.1.1; have hb := E.1.2.1
  unfold fz_test_164 at hret
  refine lv_iload hx hb dz_test_164 (lv_at hl 4 rfl) ?_
  refine lv_iconst (v := (2 : Int32)) hx hb dz_test_166 (by decide) ?_
  refine lv_icmp_ne (tgt := 181) hx hb dz_test_167 (by decide) (fun h1 => ?_) (fun h1 => ?_)
  · rw [if_neg h1] at hret
    exact wz_test_181 E hC (lv_sub hl [0, 1, 2, 3, 4] rfl) (hae) hret
  · rw [if_pos h1] at hret
    refine lv_aload_n hx hb dz_test_170 rfl (lv_at hl 0 rfl) ?_
    refine zg_words E hC dz_test_171 ?_
    refine lv_iload_n hx hb dz_test_174 rfl (lv_at hl 1 rfl) ?_
    refine lv_lload hx hb dz_test_175 (lv_at hl 3 rfl) ?_
    refine lv_lload hx hb dz_test_177 (lv_at hl 2 rfl) ?_
    refine lv_lxor hx hb dz_test_179 ?_
    refine zst E hC (hae) dz_test_180 (fun H locs hC => ?_)
    exact wz_test_181 E hC (lv_sub hl [0, 1, 2, 3, 4] rfl) (hae) hret
def fz_test_139 (k : kSz) (v2 : Int32) (v6 : Int64) (v8 : Int64) (v11 : Int32) : Int32 × kSz :=
  if v11 = (1 : Int32) then
    fz_test_164 (stz k v2 ((v8 &&& (v6 ^^^ (-1 : Int64))) &&& (68719476735 : Int64))) v2 v6 v8 v11
  else
    fz_test_164 k v2 v6 v8 v11
set_option maxRecDepth 100000 in
set_option maxHeartbeats 4000000 in
theorem wz_test_139 {k : kSz} {v2 : Int32} {v6 : Int64} {v8 : Int64} {v11 : Int32} {H : Heap} {locs : List Loc} {ls : Array Slot} (E : zE p s m args c cz_test 12 D cA h0 q) (hC : zC D cA h0 q s.heap k H locs) (hl : lv_has ls 12 [(0, .ref h0), (2, .int v2), (6, .long v6), (8, .long v8), (11, .int v11)]) (hae : vp_in v2 4096) (hret : zwi p l env (rmD 2) s m args below meth c cz_test D cA h0 q .int Q (fz_test_139 k v2 v6 v8 v11)) : W p l env (rmD 2) s m args below meth c H locs 0 0 Q (F0 m 139 ls []) := by
  have hx := E.1.1; have hb := E.1.2.1
  unfold fz_test_139 at hret
  refine lv_iload hx hb dz_test_139 (lv_at hl 4 rfl) ?_
  refine lv_iconst (v := (1 : Int32)) hx hb dz_test_141 (by decide) ?_
  refine lv_icmp_ne (tgt := 164) hx hb dz_test_142 (by decide) (fun h1 => ?_) (fun h1 => ?_)
  · rw [if_neg h1] at hret
    exact wz_test_164 E hC (lv_sub hl [0, 1, 2, 3, 4] rfl) (hae) hret
  · rw [if_pos h1] at hret
    refine lv_aload_n hx hb dz_test_145 rfl (lv_at hl 0 rfl) ?_
    refine zg_words E hC dz_test_146 ?_
    refine lv_iload_n hx hb dz_test_149 rfl (lv_at hl 1 rfl) ?_
    refine lv_lload hx hb dz_test_150 (lv_at hl 3 rfl) ?_
    refine lv_lload hx hb dz_test_152 (lv_at hl 2 rfl) ?_
    refine lv_ldc2 hx hb E.1.2.2.2.1 (E.1.2.2.2.2 _ ct_z_145) dz_test_154 ?_
    refine lv_lxor hx hb dz_test_157 ?_
    refine lv_land hx hb dz_test_158 ?_
    refine lv_ldc2 hx hb E.1.2.2.2.1 (E.1.2.2.2.2 _ ct_z_7) dz_test_159 ?_
    refine lv_land hx hb dz_test_162 ?_
    refine zst E hC (hae) dz_test_163 (fun H locs hC => ?_)
    exact wz_test_164 E hC (lv_sub hl [0, 1, 2, 3, 4] rfl) (hae) hret
def fz_test_129 (k : kSz) (v2 : Int32) (v6 : Int64) (v8 : Int64) (v11 : Int32) : Int32 × kSz :=
  fz_test_139 (vz_bh k ((uz_bh k) + (1 : Int32))) v2 v6 v8 v11
set_option maxRecDepth 100000 in
set_option maxHeartbeats 4000000 in
theorem wz_test_129 {k : kSz} {v2 : Int32} {v6 : Int64} {v8 : Int64} {v11 : Int32} {H : Heap} {locs : List Loc} {ls : Array Slot} (E : zE p s m args c cz_test 12 D cA h0 q) (hC : zC D cA h0 q s.heap k H locs) (hl : lv_has ls 12 [(0, .ref h0), (2, .int v2), (6, .long v6), (8, .long v8), (11, .int v11)]) (hae : vp_in v2 4096) (hret : zwi p l env (rmD 2) s m args below meth c cz_test D cA h0 q .int Q (fz_test_129 k v2 v6 v8 v11)) : W p l env (rmD 2) s m args below meth c H locs 0 0 Q (F0 m 129 ls []) := by
  have hx := E.1.1; have hb := E.1.2.1
  unfold fz_test_129 at hret
  refine lv_aload_n hx hb dz_test_129 rfl (lv_at hl 0 rfl) ?_
  refine lv_dup hx hb dz_test_130 rfl ?_
  refine zg_behind E hC dz_test_131 ?_
  refine lv_iconst (v := (1 : Int32)) hx hb dz_test_134 (by decide) ?_
  refine lv_iadd hx hb dz_test_135 ?_
  refine zp_behind E hC dz_test_136 (fun H locs hC => ?_)
  exact wz_test_139 E hC (lv_sub hl [0, 1, 2, 3, 4] rfl) (hae) hret
def fz_test_113 (k : kSz) (v2 : Int32) (v6 : Int64) (v8 : Int64) (v10 : Int32) (v11 : Int32) : Int32 × kSz :=
  if v10 = (3 : Int32) then
    if (v8 &&& v6) = (0 : Int64) then
      fz_test_139 k v2 v6 v8 v11
    else
      fz_test_129 k v2 v6 v8 v11
  else
    fz_test_139 k v2 v6 v8 v11
set_option maxRecDepth 100000 in
set_option maxHeartbeats 4000000 in
theorem wz_test_113 {k : kSz} {v2 : Int32} {v6 : Int64} {v8 : Int64} {v10 : Int32} {v11 : Int32} {H : Heap} {locs : List Loc} {ls : Array Slot} (E : zE p s m args c cz_test 12 D cA h0 q) (hC : zC D cA h0 q s.heap k H locs) (hl : lv_has ls 12 [(0, .ref h0), (2, .int v2), (6, .long v6), (8, .long v8), (10, .int v10), (11, .int v11)]) (hae : vp_in v2 4096) (hret : zwi p l env (rmD 2) s m args below meth c cz_test D cA h0 q .int Q (fz_test_113 k v2 v6 v8 v10 v11)) : W p l env (rmD 2) s m args below meth c H locs 0 0 Q (F0 m 113 ls []) := by
  have hx := E.1.1; have hb := E.1.2.1
  unfold fz_test_113 at hret
  refine lv_iload hx hb dz_test_113 (lv_at hl 4 rfl) ?_
  refine lv_iconst (v := (3 : Int32)) hx hb dz_test_115 (by decide) ?_
  refine lv_icmp_ne (tgt := 139) hx hb dz_test_116 (by decide) (fun h1 => ?_) (fun h1 => ?_)
  · rw [if_neg h1] at hret
    exact wz_test_139 E hC (lv_sub hl [0, 1, 2, 3, 5] rfl) (hae) hret
  · rw [if_pos h1] at hret
    refine lv_lload hx hb dz_test_119 (lv_at hl 3 rfl) ?_
    refine lv_lload hx hb dz_test_121 (lv_at hl 2 rfl) ?_
    refine lv_land hx hb dz_test_123 ?_
    refine lv_lconst (v := (0 : Int64)) hx hb dz_test_124 (by decide) ?_
    refine tt_lcmp_eq (tgt := 139) hx hb dz_test_125 dz_test_126 (by decide) (fun h2 => ?_) (fun h2 => ?_)
    · rw [if_pos h2] at hret
      exact wz_test_139 E hC (lv_sub hl [0, 1, 2, 3, 5] rfl) (hae) hret
    · rw [if_neg h2] at hret
      exact wz_test_129 E hC (lv_sub hl [0, 1, 2, 3, 5] rfl) (hae) hret
def fz_test_79 (k : kSz) (v1 : Int32) (v2 : Int32) (v6 : Int64) (v8 : Int64) : Int32 × kSz :=
  if ((v1 >>> ((1 : Int32) &&& 31)) &&& (3 : Int32)) = (2 : Int32) then
    fz_test_129 k v2 v6 v8 (v1 >>> ((4 : Int32) &&& 31))
  else
    if ((v1 >>> ((1 : Int32) &&& 31)) &&& (3 : Int32)) = (1 : Int32) then
      if (v8 &&& v6) = (0 : Int64) then
        fz_test_129 k v2 v6 v8 (v1 >>> ((4 : Int32) &&& 31))
      else
        fz_test_113 k v2 v6 v8 ((v1 >>> ((1 : Int32) &&& 31)) &&& (3 : Int32)) (v1 >>> ((4 : Int32) &&& 31))
    else
      fz_test_113 k v2 v6 v8 ((v1 >>> ((1 : Int32) &&& 31)) &&& (3 : Int32)) (v1 >>> ((4 : Int32) &&& 31))
set_option maxRecDepth 100000 in
set_option maxHeartbeats 4000000 in
theorem wz_test_79 {k : kSz} {v1 : Int32} {v2 : Int32} {v6 : Int64} {v8 : Int64} {H : Heap} {locs : List Loc} {ls : Array Slot} (E : zE p s m args c cz_test 12 D cA h0 q) (hC : zC D cA h0 q s.heap k H locs) (hl : lv_has ls 12 [(0, .ref h0), (1, .int v1), (2, .int v2), (6, .long v6), (8, .long v8)]) (hae : vp_in v2 4096) (hret : zwi p l env (rmD 2) s m args below meth c cz_test D cA h0 q .int Q (fz_test_79 k v1 v2 v6 v8)) : W p l env (rmD 2) s m args below meth c H locs 0 0 Q (F0 m 79 ls []) := by
  have hx := E.1.1; have hb := E.1.2.1
  unfold fz_test_79 at hret
  refine lv_iload_n hx hb dz_test_79 rfl (lv_at hl 1 rfl) ?_
  refine lv_iconst (v := (1 : Int32)) hx hb dz_test_80 (by decide) ?_
  refine lv_ishr hx hb dz_test_81 ?_
  refine lv_iconst (v := (3 : Int32)) hx hb dz_test_82 (by decide) ?_
  refine lv_iand hx hb dz_test_83 ?_
  refine lv_istore (lv' := [(10, .int ((v1 >>> ((1 : Int32) &&& 31)) &&& (3 : Int32))), (0, .ref h0), (1, .int v1), (2, .int v2), (6, .long v6), (8, .long v8)]) hx hb dz_test_84 hl (by decide) rfl (fun ls hl => ?_)
  refine lv_iload_n hx hb dz_test_86 rfl (lv_at hl 2 rfl) ?_
  refine lv_iconst (v := (4 : Int32)) hx hb dz_test_87 (by decide) ?_
  refine lv_ishr hx hb dz_test_88 ?_
  refine lv_istore (lv' := [(11, .int (v1 >>> ((4 : Int32) &&& 31))), (10, .int ((v1 >>> ((1 : Int32) &&& 31)) &&& (3 : Int32))), (0, .ref h0), (1, .int v1), (2, .int v2), (6, .long v6), (8, .long v8)]) hx hb dz_test_89 hl (by decide) rfl (fun ls hl => ?_)
  refine lv_iload hx hb dz_test_91 (lv_at hl 1 rfl) ?_
  refine lv_iconst (v := (2 : Int32)) hx hb dz_test_93 (by decide) ?_
  refine lv_icmp_eq (tgt := 129) hx hb dz_test_94 (by decide) (fun h1 => ?_) (fun h1 => ?_)
  · rw [if_pos h1] at hret
    exact wz_test_129 E hC (lv_sub hl [2, 4, 5, 6, 0] rfl) (hae) hret
  · rw [if_neg h1] at hret
    refine lv_iload hx hb dz_test_97 (lv_at hl 1 rfl) ?_
    refine lv_iconst (v := (1 : Int32)) hx hb dz_test_99 (by decide) ?_
    refine lv_icmp_ne (tgt := 113) hx hb dz_test_100 (by decide) (fun h2 => ?_) (fun h2 => ?_)
    · rw [if_neg h2] at hret
      exact wz_test_113 E hC (lv_sub hl [2, 4, 5, 6, 1, 0] rfl) (hae) hret
    · rw [if_pos h2] at hret
      refine lv_lload hx hb dz_test_103 (lv_at hl 6 rfl) ?_
      refine lv_lload hx hb dz_test_105 (lv_at hl 5 rfl) ?_
      refine lv_land hx hb dz_test_107 ?_
      refine lv_lconst (v := (0 : Int64)) hx hb dz_test_108 (by decide) ?_
      refine tt_lcmp_eq (tgt := 129) hx hb dz_test_109 dz_test_110 (by decide) (fun h3 => ?_) (fun h3 => ?_)
      · rw [if_pos h3] at hret
        exact wz_test_129 E hC (lv_sub hl [2, 4, 5, 6, 0] rfl) (hae) hret
      · rw [if_neg h3] at hret
        exact wz_test_113 E hC (lv_sub hl [2, 4, 5, 6, 1, 0] rfl) (hae) hret
def fz_test_57 (k : kSz) (v1 : Int32) (v2 : Int32) (v5 : Int32) (t0 : Int64) : Int32 × kSz :=
  if v5 = 0 then
    fz_test_79 k v1 v2 t0 (ldz k v2)
  else
    fz_test_79 k v1 v2 (fz_opposite t0) (ldz k v2)
set_option maxRecDepth 100000 in
set_option maxHeartbeats 4000000 in
theorem wz_test_57 {k : kSz} {v1 : Int32} {v2 : Int32} {v5 : Int32} {t0 : Int64} {H : Heap} {locs : List Loc} {ls : Array Slot} (E : zE p s m args c cz_test 12 D cA h0 q) (hC : zC D cA h0 q s.heap k H locs) (hl : lv_has ls 12 [(0, .ref h0), (1, .int v1), (2, .int v2), (5, .int v5)]) (hae : vp_in v2 4096) (hret : zwi p l env (rmD 2) s m args below meth c cz_test D cA h0 q .int Q (fz_test_57 k v1 v2 v5 t0)) : W p l env (rmD 2) s m args below meth c H locs 0 0 Q (F0 m 57 ls [.long t0]) := by
  have hx := E.1.1; have hb := E.1.2.1
  unfold fz_test_57 at hret
  refine lv_lstore (lv' := [(6, .long t0), (0, .ref h0), (1, .int v1), (2, .int v2), (5, .int v5)]) hx hb dz_test_57 hl (by decide) rfl (fun ls hl => ?_)
  refine lv_aload_n hx hb dz_test_59 rfl (lv_at hl 1 rfl) ?_
  refine zg_words E hC dz_test_60 ?_
  refine lv_iload_n hx hb dz_test_63 rfl (lv_at hl 3 rfl) ?_
  refine zld E hC (hae) dz_test_64 ?_
  refine lv_lstore (lv' := [(8, .long (ldz k v2)), (6, .long t0), (0, .ref h0), (1, .int v1), (2, .int v2), (5, .int v5)]) hx hb dz_test_65 hl (by decide) rfl (fun ls hl => ?_)
  refine lv_iload hx hb dz_test_67 (lv_at hl 5 rfl) ?_
  refine lv_if_eq (tgt := 79) hx hb dz_test_69 (by decide) (fun h1 => ?_) (fun h1 => ?_)
  · rw [if_pos h1] at hret
    exact wz_test_79 E hC (lv_sub hl [2, 3, 4, 1, 0] rfl) (hae) hret
  · rw [if_neg h1] at hret
    refine lv_lload hx hb dz_test_72 (lv_at hl 1 rfl) ?_
    refine kz_opposite_in_z E.1 hl.1 (by decide) (Nat.le_of_ble_eq_true rfl) dz_test_74 ?_
    refine lv_lstore (lv' := [(6, .long (fz_opposite t0)), (8, .long (ldz k v2)), (0, .ref h0), (1, .int v1), (2, .int v2), (5, .int v5)]) hx hb dz_test_77 hl (by decide) rfl (fun ls hl => ?_)
    exact wz_test_79 E hC (lv_sub hl [2, 3, 4, 0, 1] rfl) (hae) hret
def fz_test_41 (k : kSz) (v1 : Int32) (v2 : Int32) (v3 : Int32) (v4 : Int32) (v5 : Int32) : Int32 × kSz :=
  if v4 = 0 then
    fz_test_57 k v1 v2 v5 v3.toInt64
  else
    fz_test_57 k v1 v2 v5 (ldz k v3)
set_option maxRecDepth 100000 in
set_option maxHeartbeats 4000000 in
theorem wz_test_41 {k : kSz} {v1 : Int32} {v2 : Int32} {v3 : Int32} {v4 : Int32} {v5 : Int32} {H : Heap} {locs : List Loc} {ls : Array Slot} (E : zE p s m args c cz_test 12 D cA h0 q) (hC : zC D cA h0 q s.heap k H locs) (hl : lv_has ls 12 [(0, .ref h0), (1, .int v1), (2, .int v2), (3, .int v3), (4, .int v4), (5, .int v5)]) (hae : vp_in v2 4096) (hee : 0 ≤ v3) (hw : ¬ v4 = 0 → vp_in v3 4096) (hret : zwi p l env (rmD 2) s m args below meth c cz_test D cA h0 q .int Q (fz_test_41 k v1 v2 v3 v4 v5)) : W p l env (rmD 2) s m args below meth c H locs 0 0 Q (F0 m 41 ls []) := by
  have hx := E.1.1; have hb := E.1.2.1
  unfold fz_test_41 at hret
  refine lv_iload hx hb dz_test_41 (lv_at hl 4 rfl) ?_
  refine lv_if_eq (tgt := 55) hx hb dz_test_43 (by decide) (fun h1 => ?_) (fun h1 => ?_)
  · rw [if_pos h1] at hret
    refine lv_iload_n hx hb dz_test_55 rfl (lv_at hl 3 rfl) ?_
    refine lv_i2l hx hb dz_test_56 rfl ?_
    exact wz_test_57 E hC (lv_sub hl [0, 1, 2, 5] rfl) (hae) hret
  · rw [if_neg h1] at hret
    refine lv_aload_n hx hb dz_test_46 rfl (lv_at hl 0 rfl) ?_
    refine zg_words E hC dz_test_47 ?_
    refine lv_iload_n hx hb dz_test_50 rfl (lv_at hl 3 rfl) ?_
    refine zld E hC (hw h1) dz_test_51 ?_
    refine lv_goto (tgt := 57) hx hb dz_test_52 (by decide) ?_
    exact wz_test_57 E hC (lv_sub hl [0, 1, 2, 5] rfl) (hae) hret
def fz_test_25 (k : kSz) (v1 : Int32) (v2 : Int32) (v3 : Int32) (v4 : Int32) (t0 : Int32) : Int32 × kSz :=
  if v4 = 0 then
    fz_test_41 k v1 v2 v3 v4 t0
  else
    if (fz_isGone v3) = 0 then
      fz_test_41 k v1 v2 v3 v4 t0
    else
      ((2 : Int32), k)
set_option maxRecDepth 100000 in
set_option maxHeartbeats 4000000 in
theorem wz_test_25 {k : kSz} {v1 : Int32} {v2 : Int32} {v3 : Int32} {v4 : Int32} {t0 : Int32} {H : Heap} {locs : List Loc} {ls : Array Slot} (E : zE p s m args c cz_test 12 D cA h0 q) (hC : zC D cA h0 q s.heap k H locs) (hl : lv_has ls 12 [(0, .ref h0), (1, .int v1), (2, .int v2), (3, .int v3), (4, .int v4)]) (hae : vp_in v2 4096) (hee : 0 ≤ v3) (hret : zwi p l env (rmD 2) s m args below meth c cz_test D cA h0 q .int Q (fz_test_25 k v1 v2 v3 v4 t0)) : W p l env (rmD 2) s m args below meth c H locs 0 0 Q (F0 m 25 ls [.int t0]) := by
  have hx := E.1.1; have hb := E.1.2.1
  unfold fz_test_25 at hret
  refine lv_istore (lv' := [(5, .int t0), (0, .ref h0), (1, .int v1), (2, .int v2), (3, .int v3), (4, .int v4)]) hx hb dz_test_25 hl (by decide) rfl (fun ls hl => ?_)
  refine lv_iload hx hb dz_test_27 (lv_at hl 5 rfl) ?_
  refine lv_if_eq (tgt := 41) hx hb dz_test_29 (by decide) (fun h1 => ?_) (fun h1 => ?_)
  · rw [if_pos h1] at hret
    exact wz_test_41 E hC (lv_sub hl [1, 2, 3, 4, 5, 0] rfl) (hae) (hee) (fun hh => absurd h1 hh) hret
  · rw [if_neg h1] at hret
    refine lv_iload_n hx hb dz_test_32 rfl (lv_at hl 4 rfl) ?_
    refine kz_isGone_in_z E.1 hl.1 (by decide) (Nat.le_of_ble_eq_true rfl) dz_test_33 ?_
    refine lv_if_eq (tgt := 41) hx hb dz_test_36 (by decide) (fun h2 => ?_) (fun h2 => ?_)
    · rw [if_pos h2] at hret
      exact wz_test_41 E hC (lv_sub hl [1, 2, 3, 4, 5, 0] rfl) (hae) (hee) (fun _ => vin_gone hee h2) hret
    · rw [if_neg h2] at hret
      refine lv_iconst (v := (2 : Int32)) hx hb dz_test_39 (by decide) ?_
      exact (zwi_out hret) _ _ _ _ dz_test_40 hC  (nw_i _)
def fz_test_12 (k : kSz) (v1 : Int32) (v2 : Int32) (v3 : Int32) (t0 : Int32) : Int32 × kSz :=
  if (v1 &&& (1 : Int32)) = 0 then
    fz_test_25 k v1 v2 v3 t0 (0 : Int32)
  else
    fz_test_25 k v1 v2 v3 t0 (1 : Int32)
set_option maxRecDepth 100000 in
set_option maxHeartbeats 4000000 in
theorem wz_test_12 {k : kSz} {v1 : Int32} {v2 : Int32} {v3 : Int32} {t0 : Int32} {H : Heap} {locs : List Loc} {ls : Array Slot} (E : zE p s m args c cz_test 12 D cA h0 q) (hC : zC D cA h0 q s.heap k H locs) (hl : lv_has ls 12 [(0, .ref h0), (1, .int v1), (2, .int v2), (3, .int v3)]) (hae : vp_in v2 4096) (hee : 0 ≤ v3) (hret : zwi p l env (rmD 2) s m args below meth c cz_test D cA h0 q .int Q (fz_test_12 k v1 v2 v3 t0)) : W p l env (rmD 2) s m args below meth c H locs 0 0 Q (F0 m 12 ls [.int t0]) := by
  have hx := E.1.1; have hb := E.1.2.1
  unfold fz_test_12 at hret
  refine lv_istore (lv' := [(4, .int t0), (0, .ref h0), (1, .int v1), (2, .int v2), (3, .int v3)]) hx hb dz_test_12 hl (by decide) rfl (fun ls hl => ?_)
  refine lv_iload_n hx hb dz_test_14 rfl (lv_at hl 2 rfl) ?_
  refine lv_iconst (v := (1 : Int32)) hx hb dz_test_15 (by decide) ?_
  refine lv_iand hx hb dz_test_16 ?_
  refine lv_if_eq (tgt := 24) hx hb dz_test_17 (by decide) (fun h1 => ?_) (fun h1 => ?_)
  · rw [if_pos h1] at hret
    refine lv_iconst (v := (0 : Int32)) hx hb dz_test_24 (by decide) ?_
    exact wz_test_25 E hC (lv_sub hl [1, 2, 3, 4, 0] rfl) (hae) (hee) hret
  · rw [if_neg h1] at hret
    refine lv_iconst (v := (1 : Int32)) hx hb dz_test_20 (by decide) ?_
    refine lv_goto (tgt := 25) hx hb dz_test_21 (by decide) ?_
    exact wz_test_25 E hC (lv_sub hl [1, 2, 3, 4, 0] rfl) (hae) (hee) hret
def fz_test (k : kSz) (v1 : Int32) (v2 : Int32) (v3 : Int32) : Int32 × kSz :=
  if (v1 &&& (8 : Int32)) = 0 then
    fz_test_12 k v1 v2 v3 (0 : Int32)
  else
    fz_test_12 k v1 v2 v3 (1 : Int32)
set_option maxRecDepth 100000 in
set_option maxHeartbeats 4000000 in
theorem wz_test_0 {k : kSz} {v1 : Int32} {v2 : Int32} {v3 : Int32} {H : Heap} {locs : List Loc} {ls : Array Slot} (E : zE p s m args c cz_test 12 D cA h0 q) (hC : zC D cA h0 q s.heap k H locs) (hl : lv_has ls 12 [(0, .ref h0), (1, .int v1), (2, .int v2), (3, .int v3)]) (hae : vp_in v2 4096) (hee : 0 ≤ v3) (hret : zwi p l env (rmD 2) s m args below meth c cz_test D cA h0 q .int Q (fz_test k v1 v2 v3)) : W p l env (rmD 2) s m args below meth c H locs 0 0 Q (F0 m 0 ls []) := by
  have hx := E.1.1; have hb := E.1.2.1
  unfold fz_test at hret
  refine lv_iload_n hx hb dz_test_0 rfl (lv_at hl 1 rfl) ?_
  refine lv_bipush (v := (8 : Int32)) hx hb dz_test_1 (by decide) ?_
  refine lv_iand hx hb dz_test_3 ?_
  refine lv_if_eq (tgt := 11) hx hb dz_test_4 (by decide) (fun h1 => ?_) (fun h1 => ?_)
  · rw [if_pos h1] at hret
    refine lv_iconst (v := (0 : Int32)) hx hb dz_test_11 (by decide) ?_
    exact wz_test_12 E hC (lv_sub hl [0, 1, 2, 3] rfl) (hae) (hee) hret
  · rw [if_neg h1] at hret
    refine lv_iconst (v := (1 : Int32)) hx hb dz_test_7 (by decide) ?_
    refine lv_goto (tgt := 12) hx hb dz_test_8 (by decide) ?_
    exact wz_test_12 E hC (lv_sub hl [0, 1, 2, 3] rfl) (hae) (hee) hret
set_option maxRecDepth 100000 in
set_option maxHeartbeats 4000000 in
theorem mz_test (l : Launch) (k : kSz) (v1 : Int32) (v2 : Int32) (v3 : Int32) (hae : vp_in v2 4096) (hee : 0 ≤ v3) : zMet l yz_test cz_test 12 (some .int) 2 [.int v1, .int v2, .int v3] k (some (.int (fz_test k v1 v2 v3).1)) (fz_test k v1 v2 v3).2  :=
  zMet.ofi (by decide) rfl (fun _ => Nat.le_of_ble_eq_true rfl) (fun D cA h0 q p env s m args below meth c ls Q E hC hl hret => wz_test_0 E hC (lv_sub hl [0, 1, 2, 3] rfl) hae hee hret)
theorem gkz_test : zYw R_z 99 yz_test cz_test 12 (some .int) 3 := ⟨wc_z_test, wl_z_99, wi_z_test, ws_z_test, wn_z, ⟨by decide, by decide, by decide +kernel⟩, by decide⟩
theorem kz_test {p : Program} {l : Launch} {env : Env} {s : State} {m : MethodId} {args : Array Value} {below : List Frame} {meth : Method} {c : Code} {H : Heap} {locs : List Loc} {Q : State → Prop} {cc : ByteArray} {pc nL d : Nat} {ls : Array Slot} {rest : List Value} {D : va_G} {cA : ClassId} {h0 q : Nat} {k : kSz} {v1 : Int32} {v2 : Int32} {v3 : Int32} (E : zE p s m args c cc nL D cA h0 q) (hls : ls.size = nL) (hC : zC D cA h0 q s.heap k H locs) (hae : vp_in v2 4096) (hee : 0 ≤ v3) (hd : 2 + 1 ≤ d) (hr : (rest.map fun v => v.category).sum ≤ 8) (hdg : decode cc pc = .ok (.invokevirtual 99, 3)) (kk : ∀ (H1 : Heap) (locs1 : List Loc), zC D cA h0 q s.heap (fz_test k v1 v2 v3).2  H1 locs1 → W p l env (rmD d) s m args below meth c H1 locs1 0 0 Q (F0 m (pc + 3) ls (.int (fz_test k v1 v2 v3).1 :: rest))) : W p l env (rmD d) s m args below meth c H locs 0 0 Q (F0 m pc ls (.int v3 :: .int v2 :: .int v1 :: .ref h0 :: rest)) :=
  zcall (av := [.int v1, .int v2, .int v3]) E (mz_test l k v1 v2 v3 hae hee) gkz_test rfl hls hC hd hr hdg kk
/-! TenMachineModel.compare (IIII)I -/
def fz_compare_130 (k : kSz) (t0 : Int32) (t1 : Int64) (t2 : Int64) : Int32 × kSz :=
  if (fz_holds t0 t1 t2) = 0 then
    ((0 : Int32), k)
  else
    ((0 : Int32), vz_bh k ((uz_bh k) + (1 : Int32)))
set_option maxRecDepth 100000 in
set_option maxHeartbeats 4000000 in
theorem wz_compare_130 {k : kSz} {t0 : Int32} {t1 : Int64} {t2 : Int64} {H : Heap} {locs : List Loc} {ls : Array Slot} (E : zE p s m args c cz_compare 9 D cA h0 q) (hC : zC D cA h0 q s.heap k H locs) (hl : lv_has ls 9 [(0, .ref h0)]) (hret : zwi p l env (rmD 2) s m args below meth c cz_compare D cA h0 q .int Q (fz_compare_130 k t0 t1 t2)) : W p l env (rmD 2) s m args below meth c H locs 0 0 Q (F0 m 130 ls [.long t2, .long t1, .int t0]) := by
  have hx := E.1.1; have hb := E.1.2.1
  unfold fz_compare_130 at hret
  refine kz_holds_in_z E.1 hl.1 (by decide) (Nat.le_of_ble_eq_true rfl) dz_compare_130 ?_
  refine lv_if_eq (tgt := 146) hx hb dz_compare_133 (by decide) (fun h1 => ?_) (fun h1 => ?_)
  · rw [if_pos h1] at hret
    refine lv_iconst (v := (0 : Int32)) hx hb dz_compare_146 (by decide) ?_
    exact (zwi_out hret) _ _ _ _ dz_compare_147 hC  (nw_i _)
  · rw [if_neg h1] at hret
    refine lv_aload_n hx hb dz_compare_136 rfl (lv_at hl 0 rfl) ?_
    refine lv_dup hx hb dz_compare_137 rfl ?_
    refine zg_behind E hC dz_compare_138 ?_
    refine lv_iconst (v := (1 : Int32)) hx hb dz_compare_141 (by decide) ?_
    refine lv_iadd hx hb dz_compare_142 ?_
    refine zp_behind E hC dz_compare_143 (fun H locs hC => ?_)
    refine lv_iconst (v := (0 : Int32)) hx hb dz_compare_146 (by decide) ?_
    exact (zwi_out hret) _ _ _ _ dz_compare_147 hC  (nw_i _)
def fz_compare_100 (k : kSz) (v1 : Int32) (v2 : Int32) (v3 : Int32) (v4 : Int32) : Int32 × kSz :=
  if v1 = 0 then
    fz_compare_130 k v2 (fz_signed (ldz k v3)) v4.toInt64
  else
    fz_compare_130 k v2 (fz_signed (ldz k v3)) (fz_signed (ldz k v4))
set_option maxRecDepth 100000 in
set_option maxHeartbeats 4000000 in
theorem wz_compare_100 {k : kSz} {v1 : Int32} {v2 : Int32} {v3 : Int32} {v4 : Int32} {H : Heap} {locs : List Loc} {ls : Array Slot} (E : zE p s m args c cz_compare 9 D cA h0 q) (hC : zC D cA h0 q s.heap k H locs) (hl : lv_has ls 9 [(0, .ref h0), (1, .int v1), (2, .int v2), (3, .int v3), (4, .int v4)]) (hae : vp_in v3 4096) (hee : 0 ≤ v4) (hwh : v1 = 0 ∨ v1 = 1 ∨ v1 = 2 ∨ v1 = 3 ∨ v1 = 4 ∨ v1 = 5 ∨ v1 = 6 ∨ v1 = 7) (hw : ¬ v1 = 0 → vp_in v4 4096) (hret : zwi p l env (rmD 2) s m args below meth c cz_compare D cA h0 q .int Q (fz_compare_100 k v1 v2 v3 v4)) : W p l env (rmD 2) s m args below meth c H locs 0 0 Q (F0 m 100 ls []) := by
  have hx := E.1.1; have hb := E.1.2.1
  unfold fz_compare_100 at hret
  refine lv_iload_n hx hb dz_compare_100 rfl (lv_at hl 2 rfl) ?_
  refine lv_aload_n hx hb dz_compare_101 rfl (lv_at hl 0 rfl) ?_
  refine zg_words E hC dz_compare_102 ?_
  refine lv_iload_n hx hb dz_compare_105 rfl (lv_at hl 3 rfl) ?_
  refine zld E hC (hae) dz_compare_106 ?_
  refine kz_signed_in_z E.1 hl.1 (by decide) (Nat.le_of_ble_eq_true rfl) dz_compare_107 ?_
  refine lv_iload_n hx hb dz_compare_110 rfl (lv_at hl 1 rfl) ?_
  refine lv_if_ne (tgt := 120) hx hb dz_compare_111 (by decide) (fun h1 => ?_) (fun h1 => ?_)
  · rw [if_neg h1] at hret
    refine lv_aload_n hx hb dz_compare_120 rfl (lv_at hl 0 rfl) ?_
    refine zg_words E hC dz_compare_121 ?_
    refine lv_iload hx hb dz_compare_124 (lv_at hl 4 rfl) ?_
    refine zld E hC (hw h1) dz_compare_126 ?_
    refine kz_signed_in_z E.1 hl.1 (by decide) (Nat.le_of_ble_eq_true rfl) dz_compare_127 ?_
    exact wz_compare_130 E hC (lv_sub hl [0] rfl) hret
  · rw [if_pos h1] at hret
    refine lv_iload hx hb dz_compare_114 (lv_at hl 4 rfl) ?_
    refine lv_i2l hx hb dz_compare_116 rfl ?_
    refine lv_goto (tgt := 130) hx hb dz_compare_117 (by decide) ?_
    exact wz_compare_130 E hC (lv_sub hl [0] rfl) hret
def fz_compare_171 (k : kSz) (v2 : Int32) (v3 : Int32) (v4 : Int32) : Int32 × kSz :=
  if (fz_holds v2 (fz_signed (ldz k v3)) (0 : Int64)) = 0 then
    ((0 : Int32), k)
  else
    ((0 : Int32), vz_bh k v4)
set_option maxRecDepth 100000 in
set_option maxHeartbeats 4000000 in
theorem wz_compare_171 {k : kSz} {v2 : Int32} {v3 : Int32} {v4 : Int32} {H : Heap} {locs : List Loc} {ls : Array Slot} (E : zE p s m args c cz_compare 9 D cA h0 q) (hC : zC D cA h0 q s.heap k H locs) (hl : lv_has ls 9 [(0, .ref h0), (2, .int v2), (3, .int v3), (4, .int v4)]) (hae : vp_in v3 4096) (hee : 0 ≤ v4) (hret : zwi p l env (rmD 2) s m args below meth c cz_compare D cA h0 q .int Q (fz_compare_171 k v2 v3 v4)) : W p l env (rmD 2) s m args below meth c H locs 0 0 Q (F0 m 171 ls []) := by
  have hx := E.1.1; have hb := E.1.2.1
  unfold fz_compare_171 at hret
  refine lv_iload_n hx hb dz_compare_171 rfl (lv_at hl 1 rfl) ?_
  refine lv_aload_n hx hb dz_compare_172 rfl (lv_at hl 0 rfl) ?_
  refine zg_words E hC dz_compare_173 ?_
  refine lv_iload_n hx hb dz_compare_176 rfl (lv_at hl 2 rfl) ?_
  refine zld E hC (hae) dz_compare_177 ?_
  refine kz_signed_in_z E.1 hl.1 (by decide) (Nat.le_of_ble_eq_true rfl) dz_compare_178 ?_
  refine lv_lconst (v := (0 : Int64)) hx hb dz_compare_181 (by decide) ?_
  refine kz_holds_in_z E.1 hl.1 (by decide) (Nat.le_of_ble_eq_true rfl) dz_compare_182 ?_
  refine lv_if_eq (tgt := 194) hx hb dz_compare_185 (by decide) (fun h1 => ?_) (fun h1 => ?_)
  · rw [if_pos h1] at hret
    refine lv_iconst (v := (0 : Int32)) hx hb dz_compare_194 (by decide) ?_
    exact (zwi_out hret) _ _ _ _ dz_compare_195 hC  (nw_i _)
  · rw [if_neg h1] at hret
    refine lv_aload_n hx hb dz_compare_188 rfl (lv_at hl 0 rfl) ?_
    refine lv_iload hx hb dz_compare_189 (lv_at hl 3 rfl) ?_
    refine zp_behind E hC dz_compare_191 (fun H locs hC => ?_)
    refine lv_iconst (v := (0 : Int32)) hx hb dz_compare_194 (by decide) ?_
    exact (zwi_out hret) _ _ _ _ dz_compare_195 hC  (nw_i _)
def fz_compare_148 (k : kSz) (v1 : Int32) (v2 : Int32) (v3 : Int32) (v4 : Int32) (v6 : Int32) : Int32 × kSz :=
  if v1 ≤ (2 : Int32) then
    fz_compare_171 k v2 v3 v4
  else
    fz_compare_171 (stz ((fz_next k (ldz k v3) v6).2) v3 ((fz_next k (ldz k v3) v6).1)) v2 v3 v4
set_option maxRecDepth 100000 in
set_option maxHeartbeats 4000000 in
theorem wz_compare_148 {k : kSz} {v1 : Int32} {v2 : Int32} {v3 : Int32} {v4 : Int32} {v6 : Int32} {H : Heap} {locs : List Loc} {ls : Array Slot} (E : zE p s m args c cz_compare 9 D cA h0 q) (hC : zC D cA h0 q s.heap k H locs) (hl : lv_has ls 9 [(0, .ref h0), (1, .int v1), (2, .int v2), (3, .int v3), (4, .int v4), (6, .int v6)]) (hae : vp_in v3 4096) (hee : 0 ≤ v4) (hwh : v1 = 0 ∨ v1 = 1 ∨ v1 = 2 ∨ v1 = 3 ∨ v1 = 4 ∨ v1 = 5 ∨ v1 = 6 ∨ v1 = 7) (hret : zwi p l env (rmD 2) s m args below meth c cz_compare D cA h0 q .int Q (fz_compare_148 k v1 v2 v3 v4 v6)) : W p l env (rmD 2) s m args below meth c H locs 0 0 Q (F0 m 148 ls []) := by
  have hx := E.1.1; have hb := E.1.2.1
  unfold fz_compare_148 at hret
  refine lv_iload_n hx hb dz_compare_148 rfl (lv_at hl 1 rfl) ?_
  refine lv_iconst (v := (2 : Int32)) hx hb dz_compare_149 (by decide) ?_
  refine lv_icmp_le (tgt := 171) hx hb dz_compare_150 (by decide) (fun h1 => ?_) (fun h1 => ?_)
  · rw [if_pos h1] at hret
    exact wz_compare_171 E hC (lv_sub hl [0, 2, 3, 4] rfl) (hae) (hee) hret
  · rw [if_neg h1] at hret
    refine lv_aload_n hx hb dz_compare_153 rfl (lv_at hl 0 rfl) ?_
    refine zg_words E hC dz_compare_154 ?_
    refine lv_iload_n hx hb dz_compare_157 rfl (lv_at hl 3 rfl) ?_
    refine lv_aload_n hx hb dz_compare_158 rfl (lv_at hl 0 rfl) ?_
    refine lv_aload_n hx hb dz_compare_159 rfl (lv_at hl 0 rfl) ?_
    refine zg_words E hC dz_compare_160 ?_
    refine lv_iload_n hx hb dz_compare_163 rfl (lv_at hl 3 rfl) ?_
    refine zld E hC (hae) dz_compare_164 ?_
    refine lv_iload hx hb dz_compare_165 (lv_at hl 5 rfl) ?_
    refine kz_next E hl.1 hC (by decide) (Nat.le_of_ble_eq_true rfl) dz_compare_167 (fun H locs hC => ?_)
    refine zst E hC (hae) dz_compare_170 (fun H locs hC => ?_)
    exact wz_compare_171 E hC (lv_sub hl [0, 2, 3, 4] rfl) (hae) (hee) hret
def fz_compare_247 (k : kSz) (v2 : Int32) (v7 : Int64) : Int32 × kSz :=
  if (fz_holds v2 (fz_signed v7) (0 : Int64)) = 0 then
    ((0 : Int32), k)
  else
    ((0 : Int32), vz_bh k ((uz_bh k) + (1 : Int32)))
set_option maxRecDepth 100000 in
set_option maxHeartbeats 4000000 in
theorem wz_compare_247 {k : kSz} {v2 : Int32} {v7 : Int64} {H : Heap} {locs : List Loc} {ls : Array Slot} (E : zE p s m args c cz_compare 9 D cA h0 q) (hC : zC D cA h0 q s.heap k H locs) (hl : lv_has ls 9 [(0, .ref h0), (2, .int v2), (7, .long v7)]) (hret : zwi p l env (rmD 2) s m args below meth c cz_compare D cA h0 q .int Q (fz_compare_247 k v2 v7)) : W p l env (rmD 2) s m args below meth c H locs 0 0 Q (F0 m 247 ls []) := by
  have hx := E.1.1; have hb := E.1.2.1
  unfold fz_compare_247 at hret
  refine lv_iload_n hx hb dz_compare_247 rfl (lv_at hl 1 rfl) ?_
  refine lv_lload hx hb dz_compare_248 (lv_at hl 2 rfl) ?_
  refine kz_signed_in_z E.1 hl.1 (by decide) (Nat.le_of_ble_eq_true rfl) dz_compare_250 ?_
  refine lv_lconst (v := (0 : Int64)) hx hb dz_compare_253 (by decide) ?_
  refine kz_holds_in_z E.1 hl.1 (by decide) (Nat.le_of_ble_eq_true rfl) dz_compare_254 ?_
  refine lv_if_eq (tgt := 270) hx hb dz_compare_257 (by decide) (fun h1 => ?_) (fun h1 => ?_)
  · rw [if_pos h1] at hret
    refine lv_iconst (v := (0 : Int32)) hx hb dz_compare_270 (by decide) ?_
    exact (zwi_out hret) _ _ _ _ dz_compare_271 hC  (nw_i _)
  · rw [if_neg h1] at hret
    refine lv_aload_n hx hb dz_compare_260 rfl (lv_at hl 0 rfl) ?_
    refine lv_dup hx hb dz_compare_261 rfl ?_
    refine zg_behind E hC dz_compare_262 ?_
    refine lv_iconst (v := (1 : Int32)) hx hb dz_compare_265 (by decide) ?_
    refine lv_iadd hx hb dz_compare_266 ?_
    refine zp_behind E hC dz_compare_267 (fun H locs hC => ?_)
    refine lv_iconst (v := (0 : Int32)) hx hb dz_compare_270 (by decide) ?_
    exact (zwi_out hret) _ _ _ _ dz_compare_271 hC  (nw_i _)
def fz_compare_224 (k : kSz) (v2 : Int32) (v3 : Int32) (v4 : Int32) (t0 : Int64) : Int32 × kSz :=
  if v3 ≤ 0 then
    fz_compare_247 (stz k v4 t0) v2 t0
  else
    fz_compare_247 (stz (stz k v4 t0) v3 t0) v2 t0
set_option maxRecDepth 100000 in
set_option maxHeartbeats 4000000 in
theorem wz_compare_224 {k : kSz} {v2 : Int32} {v3 : Int32} {v4 : Int32} {t0 : Int64} {H : Heap} {locs : List Loc} {ls : Array Slot} (E : zE p s m args c cz_compare 9 D cA h0 q) (hC : zC D cA h0 q s.heap k H locs) (hl : lv_has ls 9 [(0, .ref h0), (2, .int v2), (3, .int v3), (4, .int v4)]) (hae : vp_in v3 4096) (hee : 0 ≤ v4) (hw2 : vp_in v4 4096) (hret : zwi p l env (rmD 2) s m args below meth c cz_compare D cA h0 q .int Q (fz_compare_224 k v2 v3 v4 t0)) : W p l env (rmD 2) s m args below meth c H locs 0 0 Q (F0 m 224 ls [.long t0]) := by
  have hx := E.1.1; have hb := E.1.2.1
  unfold fz_compare_224 at hret
  refine lv_lstore (lv' := [(7, .long t0), (0, .ref h0), (2, .int v2), (3, .int v3), (4, .int v4)]) hx hb dz_compare_224 hl (by decide) rfl (fun ls hl => ?_)
  refine lv_aload_n hx hb dz_compare_226 rfl (lv_at hl 1 rfl) ?_
  refine zg_words E hC dz_compare_227 ?_
  refine lv_iload hx hb dz_compare_230 (lv_at hl 4 rfl) ?_
  refine lv_lload hx hb dz_compare_232 (lv_at hl 0 rfl) ?_
  refine zst E hC (hw2) dz_compare_234 (fun H locs hC => ?_)
  refine lv_iload_n hx hb dz_compare_235 rfl (lv_at hl 3 rfl) ?_
  refine lv_if_le (tgt := 247) hx hb dz_compare_236 (by decide) (fun h1 => ?_) (fun h1 => ?_)
  · rw [if_pos h1] at hret
    exact wz_compare_247 E hC (lv_sub hl [1, 2, 0] rfl) hret
  · rw [if_neg h1] at hret
    refine lv_aload_n hx hb dz_compare_239 rfl (lv_at hl 1 rfl) ?_
    refine zg_words E hC dz_compare_240 ?_
    refine lv_iload_n hx hb dz_compare_243 rfl (lv_at hl 3 rfl) ?_
    refine lv_lload hx hb dz_compare_244 (lv_at hl 0 rfl) ?_
    refine zst E hC (hae) dz_compare_246 (fun H locs hC => ?_)
    exact wz_compare_247 E hC (lv_sub hl [1, 2, 0] rfl) hret
def fz_compare_196 (k : kSz) (v1 : Int32) (v2 : Int32) (v3 : Int32) (v4 : Int32) (v6 : Int32) : Int32 × kSz :=
  if v1 ≤ (3 : Int32) then
    fz_compare_224 k v2 v3 v4 (ldz k v4)
  else
    fz_compare_224 ((fz_next k (ldz k v4) v6).2) v2 v3 v4 ((fz_next k (ldz k v4) v6).1)
set_option maxRecDepth 100000 in
set_option maxHeartbeats 4000000 in
theorem wz_compare_196 {k : kSz} {v1 : Int32} {v2 : Int32} {v3 : Int32} {v4 : Int32} {v6 : Int32} {H : Heap} {locs : List Loc} {ls : Array Slot} (E : zE p s m args c cz_compare 9 D cA h0 q) (hC : zC D cA h0 q s.heap k H locs) (hl : lv_has ls 9 [(0, .ref h0), (1, .int v1), (2, .int v2), (3, .int v3), (4, .int v4), (6, .int v6)]) (hae : vp_in v3 4096) (hee : 0 ≤ v4) (hwh : v1 = 0 ∨ v1 = 1 ∨ v1 = 2 ∨ v1 = 3 ∨ v1 = 4 ∨ v1 = 5 ∨ v1 = 6 ∨ v1 = 7) (hw2 : vp_in v4 4096) (hret : zwi p l env (rmD 2) s m args below meth c cz_compare D cA h0 q .int Q (fz_compare_196 k v1 v2 v3 v4 v6)) : W p l env (rmD 2) s m args below meth c H locs 0 0 Q (F0 m 196 ls []) := by
  have hx := E.1.1; have hb := E.1.2.1
  unfold fz_compare_196 at hret
  refine lv_iload_n hx hb dz_compare_196 rfl (lv_at hl 1 rfl) ?_
  refine lv_iconst (v := (3 : Int32)) hx hb dz_compare_197 (by decide) ?_
  refine lv_icmp_le (tgt := 217) hx hb dz_compare_198 (by decide) (fun h1 => ?_) (fun h1 => ?_)
  · rw [if_pos h1] at hret
    refine lv_aload_n hx hb dz_compare_217 rfl (lv_at hl 0 rfl) ?_
    refine zg_words E hC dz_compare_218 ?_
    refine lv_iload hx hb dz_compare_221 (lv_at hl 4 rfl) ?_
    refine zld E hC (hw2) dz_compare_223 ?_
    exact wz_compare_224 E hC (lv_sub hl [0, 2, 3, 4] rfl) (hae) (hee) (hw2) hret
  · rw [if_neg h1] at hret
    refine lv_aload_n hx hb dz_compare_201 rfl (lv_at hl 0 rfl) ?_
    refine lv_aload_n hx hb dz_compare_202 rfl (lv_at hl 0 rfl) ?_
    refine zg_words E hC dz_compare_203 ?_
    refine lv_iload hx hb dz_compare_206 (lv_at hl 4 rfl) ?_
    refine zld E hC (hw2) dz_compare_208 ?_
    refine lv_iload hx hb dz_compare_209 (lv_at hl 5 rfl) ?_
    refine kz_next E hl.1 hC (by decide) (Nat.le_of_ble_eq_true rfl) dz_compare_211 (fun H locs hC => ?_)
    refine lv_goto (tgt := 224) hx hb dz_compare_214 (by decide) ?_
    exact wz_compare_224 E hC (lv_sub hl [0, 2, 3, 4] rfl) (hae) (hee) (hw2) hret
def fz_compare_54 (k : kSz) (v1 : Int32) (v2 : Int32) (v3 : Int32) (v4 : Int32) (t0 : Int32) : Int32 × kSz :=
  if v1 = 0 then
    fz_compare_100 k v1 v2 v3 v4
  else
    if v1 = 1 then
      fz_compare_100 k v1 v2 v3 v4
    else
      if v1 = 2 then
        fz_compare_148 k v1 v2 v3 v4 t0
      else
        if v1 = 4 then
          fz_compare_148 k v1 v2 v3 v4 t0
        else
          if v1 = 6 then
            fz_compare_148 k v1 v2 v3 v4 t0
          else
            fz_compare_196 k v1 v2 v3 v4 t0
set_option maxRecDepth 100000 in
set_option maxHeartbeats 4000000 in
theorem wz_compare_54 {k : kSz} {v1 : Int32} {v2 : Int32} {v3 : Int32} {v4 : Int32} {t0 : Int32} {H : Heap} {locs : List Loc} {ls : Array Slot} (E : zE p s m args c cz_compare 9 D cA h0 q) (hC : zC D cA h0 q s.heap k H locs) (hl : lv_has ls 9 [(0, .ref h0), (1, .int v1), (2, .int v2), (3, .int v3), (4, .int v4)]) (hae : vp_in v3 4096) (hee : 0 ≤ v4) (hwh : v1 = 0 ∨ v1 = 1 ∨ v1 = 2 ∨ v1 = 3 ∨ v1 = 4 ∨ v1 = 5 ∨ v1 = 6 ∨ v1 = 7) (hww : (v1 = 1 ∨ v1 = 3 ∨ v1 = 5 ∨ v1 = 7) → vp_in v4 4096) (hret : zwi p l env (rmD 2) s m args below meth c cz_compare D cA h0 q .int Q (fz_compare_54 k v1 v2 v3 v4 t0)) : W p l env (rmD 2) s m args below meth c H locs 0 0 Q (F0 m 54 ls [.int t0]) := by
  have hx := E.1.1; have hb := E.1.2.1
  unfold fz_compare_54 at hret
  refine lv_istore (lv' := [(6, .int t0), (0, .ref h0), (1, .int v1), (2, .int v2), (3, .int v3), (4, .int v4)]) hx hb dz_compare_54 hl (by decide) rfl (fun ls hl => ?_)
  refine lv_iload_n hx hb dz_compare_56 rfl (lv_at hl 2 rfl) ?_
  by_cases h1 : v1 = 0
  · rw [if_pos h1] at hret
    refine lv_tableIn (off := 43) (tgt := 100) hx hb dz_compare_57 (by rw [h1]; decide) (by rw [h1]; decide) (by rw [h1]; rfl) (by decide) ?_
    exact wz_compare_100 E hC (lv_sub hl [1, 2, 3, 4, 5] rfl) (hae) (hee) (hwh) (by first | (intro hh; exact absurd (by assumption) hh) | (intro _; exact hww (Or.inl (by assumption)))) hret
  · rw [if_neg h1] at hret
    by_cases h2 : v1 = 1
    · rw [if_pos h2] at hret
      refine lv_tableIn (off := 43) (tgt := 100) hx hb dz_compare_57 (by rw [h2]; decide) (by rw [h2]; decide) (by rw [h2]; rfl) (by decide) ?_
      exact wz_compare_100 E hC (lv_sub hl [1, 2, 3, 4, 5] rfl) (hae) (hee) (hwh) (by first | (intro hh; exact absurd (by assumption) hh) | (intro _; exact hww (Or.inl (by assumption)))) hret
    · rw [if_neg h2] at hret
      by_cases h3 : v1 = 2
      · rw [if_pos h3] at hret
        refine lv_tableIn (off := 91) (tgt := 148) hx hb dz_compare_57 (by rw [h3]; decide) (by rw [h3]; decide) (by rw [h3]; rfl) (by decide) ?_
        exact wz_compare_148 E hC (lv_sub hl [1, 2, 3, 4, 5, 0] rfl) (hae) (hee) (hwh) hret
      · rw [if_neg h3] at hret
        by_cases h4 : v1 = 4
        · rw [if_pos h4] at hret
          refine lv_tableIn (off := 91) (tgt := 148) hx hb dz_compare_57 (by rw [h4]; decide) (by rw [h4]; decide) (by rw [h4]; rfl) (by decide) ?_
          exact wz_compare_148 E hC (lv_sub hl [1, 2, 3, 4, 5, 0] rfl) (hae) (hee) (hwh) hret
        · rw [if_neg h4] at hret
          by_cases h5 : v1 = 6
          · rw [if_pos h5] at hret
            refine lv_tableIn (off := 91) (tgt := 148) hx hb dz_compare_57 (by rw [h5]; decide) (by rw [h5]; decide) (by rw [h5]; rfl) (by decide) ?_
            exact wz_compare_148 E hC (lv_sub hl [1, 2, 3, 4, 5, 0] rfl) (hae) (hee) (hwh) hret
          · rw [if_neg h5] at hret
            by_cases hin : v1.toInt < 0 ∨ 6 < v1.toInt
            · refine lv_tableOut (tgt := 196) hx hb dz_compare_57 hin (by decide) ?_
              exact wz_compare_196 E hC (lv_sub hl [1, 2, 3, 4, 5, 0] rfl) (hae) (hee) (hwh) (zc_hw2 hww hwh (by assumption) (by assumption) (by assumption) (by assumption) (by assumption)) hret
            · have hh : v1.toInt = 3 ∨ v1.toInt = 5 := by have := lv_neT h1 (show (0 : Int32).toInt = 0 from rfl); have := lv_neT h2 (show (1 : Int32).toInt = 1 from rfl); have := lv_neT h3 (show (2 : Int32).toInt = 2 from rfl); have := lv_neT h4 (show (4 : Int32).toInt = 4 from rfl); have := lv_neT h5 (show (6 : Int32).toInt = 6 from rfl); omega
              refine lv_tableIn (off := 139) (tgt := 196) hx hb dz_compare_57 (by omega) (by omega) (by rcases hh with hh | hh <;> (rw [hh]; rfl)) (by decide) ?_
              exact wz_compare_196 E hC (lv_sub hl [1, 2, 3, 4, 5, 0] rfl) (hae) (hee) (hwh) (zc_hw2 hww hwh (by assumption) (by assumption) (by assumption) (by assumption) (by assumption)) hret
def fz_compare_43 (k : kSz) (v1 : Int32) (v2 : Int32) (v3 : Int32) (v4 : Int32) : Int32 × kSz :=
  if (6 : Int32) ≤ v1 then
    fz_compare_54 k v1 v2 v3 v4 (-1 : Int32)
  else
    fz_compare_54 k v1 v2 v3 v4 (1 : Int32)
set_option maxRecDepth 100000 in
set_option maxHeartbeats 4000000 in
theorem wz_compare_43 {k : kSz} {v1 : Int32} {v2 : Int32} {v3 : Int32} {v4 : Int32} {H : Heap} {locs : List Loc} {ls : Array Slot} (E : zE p s m args c cz_compare 9 D cA h0 q) (hC : zC D cA h0 q s.heap k H locs) (hl : lv_has ls 9 [(0, .ref h0), (1, .int v1), (2, .int v2), (3, .int v3), (4, .int v4)]) (hae : vp_in v3 4096) (hee : 0 ≤ v4) (hwh : v1 = 0 ∨ v1 = 1 ∨ v1 = 2 ∨ v1 = 3 ∨ v1 = 4 ∨ v1 = 5 ∨ v1 = 6 ∨ v1 = 7) (hww : (v1 = 1 ∨ v1 = 3 ∨ v1 = 5 ∨ v1 = 7) → vp_in v4 4096) (hret : zwi p l env (rmD 2) s m args below meth c cz_compare D cA h0 q .int Q (fz_compare_43 k v1 v2 v3 v4)) : W p l env (rmD 2) s m args below meth c H locs 0 0 Q (F0 m 43 ls []) := by
  have hx := E.1.1; have hb := E.1.2.1
  unfold fz_compare_43 at hret
  refine lv_iload_n hx hb dz_compare_43 rfl (lv_at hl 1 rfl) ?_
  refine lv_bipush (v := (6 : Int32)) hx hb dz_compare_44 (by decide) ?_
  refine lv_icmp_ge (tgt := 53) hx hb dz_compare_46 (by decide) (fun h1 => ?_) (fun h1 => ?_)
  · rw [if_pos h1] at hret
    refine lv_iconst (v := (-1 : Int32)) hx hb dz_compare_53 (by decide) ?_
    exact wz_compare_54 E hC (lv_sub hl [0, 1, 2, 3, 4] rfl) (hae) (hee) (hwh) (hww) hret
  · rw [if_neg h1] at hret
    refine lv_iconst (v := (1 : Int32)) hx hb dz_compare_49 (by decide) ?_
    refine lv_goto (tgt := 54) hx hb dz_compare_50 (by decide) ?_
    exact wz_compare_54 E hC (lv_sub hl [0, 1, 2, 3, 4] rfl) (hae) (hee) (hwh) (hww) hret
def fz_compare (k : kSz) (v1 : Int32) (v2 : Int32) (v3 : Int32) (v4 : Int32) : Int32 × kSz :=
  if v1 = (1 : Int32) then
    if (fz_isGone v4) = 0 then
      fz_compare_43 k v1 v2 v3 v4
    else
      ((2 : Int32), k)
  else
    if v1 = (3 : Int32) then
      if (fz_isGone v4) = 0 then
        fz_compare_43 k v1 v2 v3 v4
      else
        ((2 : Int32), k)
    else
      if v1 = (5 : Int32) then
        if (fz_isGone v4) = 0 then
          fz_compare_43 k v1 v2 v3 v4
        else
          ((2 : Int32), k)
      else
        if v1 = (7 : Int32) then
          if (fz_isGone v4) = 0 then
            fz_compare_43 k v1 v2 v3 v4
          else
            ((2 : Int32), k)
        else
          fz_compare_43 k v1 v2 v3 v4
set_option maxRecDepth 100000 in
set_option maxHeartbeats 4000000 in
theorem wz_compare_0 {k : kSz} {v1 : Int32} {v2 : Int32} {v3 : Int32} {v4 : Int32} {H : Heap} {locs : List Loc} {ls : Array Slot} (E : zE p s m args c cz_compare 9 D cA h0 q) (hC : zC D cA h0 q s.heap k H locs) (hl : lv_has ls 9 [(0, .ref h0), (1, .int v1), (2, .int v2), (3, .int v3), (4, .int v4)]) (hae : vp_in v3 4096) (hee : 0 ≤ v4) (hwh : v1 = 0 ∨ v1 = 1 ∨ v1 = 2 ∨ v1 = 3 ∨ v1 = 4 ∨ v1 = 5 ∨ v1 = 6 ∨ v1 = 7) (hret : zwi p l env (rmD 2) s m args below meth c cz_compare D cA h0 q .int Q (fz_compare k v1 v2 v3 v4)) : W p l env (rmD 2) s m args below meth c H locs 0 0 Q (F0 m 0 ls []) := by
  have hx := E.1.1; have hb := E.1.2.1
  unfold fz_compare at hret
  refine lv_iload_n hx hb dz_compare_0 rfl (lv_at hl 1 rfl) ?_
  refine lv_iconst (v := (1 : Int32)) hx hb dz_compare_1 (by decide) ?_
  refine lv_icmp_eq (tgt := 21) hx hb dz_compare_2 (by decide) (fun h1 => ?_) (fun h1 => ?_)
  · rw [if_pos h1] at hret
    refine lv_iconst (v := (1 : Int32)) hx hb dz_compare_21 (by decide) ?_
    refine lv_goto (tgt := 26) hx hb dz_compare_22 (by decide) ?_
    refine lv_istore (lv' := [(5, .int (1 : Int32)), (0, .ref h0), (1, .int v1), (2, .int v2), (3, .int v3), (4, .int v4)]) hx hb dz_compare_26 hl (by decide) rfl (fun ls hl => ?_)
    refine lv_iload hx hb dz_compare_28 (lv_at hl 0 rfl) ?_
    refine lv_if_eq (tgt := 43) hx hb dz_compare_30 (by decide) (fun h => absurd h (by decide)) (fun _ => ?_)
    refine lv_iload hx hb dz_compare_33 (lv_at hl 5 rfl) ?_
    refine kz_isGone_in_z E.1 hl.1 (by decide) (Nat.le_of_ble_eq_true rfl) dz_compare_35 ?_
    refine lv_if_eq (tgt := 43) hx hb dz_compare_38 (by decide) (fun h2 => ?_) (fun h2 => ?_)
    · rw [if_pos h2] at hret
      exact wz_compare_43 E hC (lv_sub hl [1, 2, 3, 4, 5] rfl) (hae) (hee) (hwh) (by first | (intro _; exact vin_gone (by assumption) (by assumption)) | (intro hh; rcases hh with hh | hh | hh | hh <;> exact absurd hh (by assumption))) hret
    · rw [if_neg h2] at hret
      refine lv_iconst (v := (2 : Int32)) hx hb dz_compare_41 (by decide) ?_
      exact (zwi_out hret) _ _ _ _ dz_compare_42 hC  (nw_i _)
  · rw [if_neg h1] at hret
    refine lv_iload_n hx hb dz_compare_5 rfl (lv_at hl 1 rfl) ?_
    refine lv_iconst (v := (3 : Int32)) hx hb dz_compare_6 (by decide) ?_
    refine lv_icmp_eq (tgt := 21) hx hb dz_compare_7 (by decide) (fun h3 => ?_) (fun h3 => ?_)
    · rw [if_pos h3] at hret
      refine lv_iconst (v := (1 : Int32)) hx hb dz_compare_21 (by decide) ?_
      refine lv_goto (tgt := 26) hx hb dz_compare_22 (by decide) ?_
      refine lv_istore (lv' := [(5, .int (1 : Int32)), (0, .ref h0), (1, .int v1), (2, .int v2), (3, .int v3), (4, .int v4)]) hx hb dz_compare_26 hl (by decide) rfl (fun ls hl => ?_)
      refine lv_iload hx hb dz_compare_28 (lv_at hl 0 rfl) ?_
      refine lv_if_eq (tgt := 43) hx hb dz_compare_30 (by decide) (fun h => absurd h (by decide)) (fun _ => ?_)
      refine lv_iload hx hb dz_compare_33 (lv_at hl 5 rfl) ?_
      refine kz_isGone_in_z E.1 hl.1 (by decide) (Nat.le_of_ble_eq_true rfl) dz_compare_35 ?_
      refine lv_if_eq (tgt := 43) hx hb dz_compare_38 (by decide) (fun h4 => ?_) (fun h4 => ?_)
      · rw [if_pos h4] at hret
        exact wz_compare_43 E hC (lv_sub hl [1, 2, 3, 4, 5] rfl) (hae) (hee) (hwh) (by first | (intro _; exact vin_gone (by assumption) (by assumption)) | (intro hh; rcases hh with hh | hh | hh | hh <;> exact absurd hh (by assumption))) hret
      · rw [if_neg h4] at hret
        refine lv_iconst (v := (2 : Int32)) hx hb dz_compare_41 (by decide) ?_
        exact (zwi_out hret) _ _ _ _ dz_compare_42 hC  (nw_i _)
    · rw [if_neg h3] at hret
      refine lv_iload_n hx hb dz_compare_10 rfl (lv_at hl 1 rfl) ?_
      refine lv_iconst (v := (5 : Int32)) hx hb dz_compare_11 (by decide) ?_
      refine lv_icmp_eq (tgt := 21) hx hb dz_compare_12 (by decide) (fun h5 => ?_) (fun h5 => ?_)
      · rw [if_pos h5] at hret
        refine lv_iconst (v := (1 : Int32)) hx hb dz_compare_21 (by decide) ?_
        refine lv_goto (tgt := 26) hx hb dz_compare_22 (by decide) ?_
        refine lv_istore (lv' := [(5, .int (1 : Int32)), (0, .ref h0), (1, .int v1), (2, .int v2), (3, .int v3), (4, .int v4)]) hx hb dz_compare_26 hl (by decide) rfl (fun ls hl => ?_)
        refine lv_iload hx hb dz_compare_28 (lv_at hl 0 rfl) ?_
        refine lv_if_eq (tgt := 43) hx hb dz_compare_30 (by decide) (fun h => absurd h (by decide)) (fun _ => ?_)
        refine lv_iload hx hb dz_compare_33 (lv_at hl 5 rfl) ?_
        refine kz_isGone_in_z E.1 hl.1 (by decide) (Nat.le_of_ble_eq_true rfl) dz_compare_35 ?_
        refine lv_if_eq (tgt := 43) hx hb dz_compare_38 (by decide) (fun h6 => ?_) (fun h6 => ?_)
        · rw [if_pos h6] at hret
          exact wz_compare_43 E hC (lv_sub hl [1, 2, 3, 4, 5] rfl) (hae) (hee) (hwh) (by first | (intro _; exact vin_gone (by assumption) (by assumption)) | (intro hh; rcases hh with hh | hh | hh | hh <;> exact absurd hh (by assumption))) hret
        · rw [if_neg h6] at hret
          refine lv_iconst (v := (2 : Int32)) hx hb dz_compare_41 (by decide) ?_
          exact (zwi_out hret) _ _ _ _ dz_compare_42 hC  (nw_i _)
      · rw [if_neg h5] at hret
        refine lv_iload_n hx hb dz_compare_15 rfl (lv_at hl 1 rfl) ?_
        refine lv_bipush (v := (7 : Int32)) hx hb dz_compare_16 (by decide) ?_
        refine lv_icmp_ne (tgt := 25) hx hb dz_compare_18 (by decide) (fun h7 => ?_) (fun h7 => ?_)
        · rw [if_neg h7] at hret
          refine lv_iconst (v := (0 : Int32)) hx hb dz_compare_25 (by decide) ?_
          refine lv_istore (lv' := [(5, .int (0 : Int32)), (0, .ref h0), (1, .int v1), (2, .int v2), (3, .int v3), (4, .int v4)]) hx hb dz_compare_26 hl (by decide) rfl (fun ls hl => ?_)
          refine lv_iload hx hb dz_compare_28 (lv_at hl 0 rfl) ?_
          refine lv_if_eq (tgt := 43) hx hb dz_compare_30 (by decide) (fun _ => ?_) (fun h => absurd h (by decide))
          exact wz_compare_43 E hC (lv_sub hl [1, 2, 3, 4, 5] rfl) (hae) (hee) (hwh) (by first | (intro _; exact vin_gone (by assumption) (by assumption)) | (intro hh; rcases hh with hh | hh | hh | hh <;> exact absurd hh (by assumption))) hret
        · rw [if_pos h7] at hret
          refine lv_iconst (v := (1 : Int32)) hx hb dz_compare_21 (by decide) ?_
          refine lv_goto (tgt := 26) hx hb dz_compare_22 (by decide) ?_
          refine lv_istore (lv' := [(5, .int (1 : Int32)), (0, .ref h0), (1, .int v1), (2, .int v2), (3, .int v3), (4, .int v4)]) hx hb dz_compare_26 hl (by decide) rfl (fun ls hl => ?_)
          refine lv_iload hx hb dz_compare_28 (lv_at hl 0 rfl) ?_
          refine lv_if_eq (tgt := 43) hx hb dz_compare_30 (by decide) (fun h => absurd h (by decide)) (fun _ => ?_)
          refine lv_iload hx hb dz_compare_33 (lv_at hl 5 rfl) ?_
          refine kz_isGone_in_z E.1 hl.1 (by decide) (Nat.le_of_ble_eq_true rfl) dz_compare_35 ?_
          refine lv_if_eq (tgt := 43) hx hb dz_compare_38 (by decide) (fun h8 => ?_) (fun h8 => ?_)
          · rw [if_pos h8] at hret
            exact wz_compare_43 E hC (lv_sub hl [1, 2, 3, 4, 5] rfl) (hae) (hee) (hwh) (by first | (intro _; exact vin_gone (by assumption) (by assumption)) | (intro hh; rcases hh with hh | hh | hh | hh <;> exact absurd hh (by assumption))) hret
          · rw [if_neg h8] at hret
            refine lv_iconst (v := (2 : Int32)) hx hb dz_compare_41 (by decide) ?_
            exact (zwi_out hret) _ _ _ _ dz_compare_42 hC  (nw_i _)
set_option maxRecDepth 100000 in
set_option maxHeartbeats 4000000 in
theorem mz_compare (l : Launch) (k : kSz) (v1 : Int32) (v2 : Int32) (v3 : Int32) (v4 : Int32) (hae : vp_in v3 4096) (hee : 0 ≤ v4) (hwh : v1 = 0 ∨ v1 = 1 ∨ v1 = 2 ∨ v1 = 3 ∨ v1 = 4 ∨ v1 = 5 ∨ v1 = 6 ∨ v1 = 7) : zMet l yz_compare cz_compare 9 (some .int) 2 [.int v1, .int v2, .int v3, .int v4] k (some (.int (fz_compare k v1 v2 v3 v4).1)) (fz_compare k v1 v2 v3 v4).2  :=
  zMet.ofi (by decide) rfl (fun _ => Nat.le_of_ble_eq_true rfl) (fun D cA h0 q p env s m args below meth c ls Q E hC hl hret => wz_compare_0 E hC (lv_sub hl [0, 1, 2, 3, 4] rfl) hae hee hwh hret)
theorem gkz_compare : zYw R_z 106 yz_compare cz_compare 9 (some .int) 4 := ⟨wc_z_compare, wl_z_106, wi_z_compare, ws_z_compare, wn_z, ⟨by decide, by decide, by decide +kernel⟩, by decide⟩
theorem kz_compare {p : Program} {l : Launch} {env : Env} {s : State} {m : MethodId} {args : Array Value} {below : List Frame} {meth : Method} {c : Code} {H : Heap} {locs : List Loc} {Q : State → Prop} {cc : ByteArray} {pc nL d : Nat} {ls : Array Slot} {rest : List Value} {D : va_G} {cA : ClassId} {h0 q : Nat} {k : kSz} {v1 : Int32} {v2 : Int32} {v3 : Int32} {v4 : Int32} (E : zE p s m args c cc nL D cA h0 q) (hls : ls.size = nL) (hC : zC D cA h0 q s.heap k H locs) (hae : vp_in v3 4096) (hee : 0 ≤ v4) (hwh : v1 = 0 ∨ v1 = 1 ∨ v1 = 2 ∨ v1 = 3 ∨ v1 = 4 ∨ v1 = 5 ∨ v1 = 6 ∨ v1 = 7) (hd : 2 + 1 ≤ d) (hr : (rest.map fun v => v.category).sum ≤ 8) (hdg : decode cc pc = .ok (.invokevirtual 106, 3)) (kk : ∀ (H1 : Heap) (locs1 : List Loc), zC D cA h0 q s.heap (fz_compare k v1 v2 v3 v4).2  H1 locs1 → W p l env (rmD d) s m args below meth c H1 locs1 0 0 Q (F0 m (pc + 3) ls (.int (fz_compare k v1 v2 v3 v4).1 :: rest))) : W p l env (rmD d) s m args below meth c H locs 0 0 Q (F0 m pc ls (.int v4 :: .int v3 :: .int v2 :: .int v1 :: .ref h0 :: rest)) :=
  zcall (av := [.int v1, .int v2, .int v3, .int v4]) E (mz_compare l k v1 v2 v3 v4 hae hee hwh) gkz_compare rfl hls hC hd hr hdg kk
end TTV
