section TTV
variable {p : Program} {l : Launch} {env : Env} {s : State} {m : MethodId} {args : Array Value} {below : List Frame} {meth : Method} {c : Code} {Q : State → Prop} {D : va_G} {cA : ClassId} {h0 q : Nat}
/-! TenMachineModel.give (IIIJ)V -/
def fz_give_17 (k : kSz) (v1 : Int32) (v2 : Int32) (v4 : Int64) : kSz :=
  if v1 = (2 : Int32) then
    k
  else
    stz k v2 (v4 &&& (68719476735 : Int64))
set_option maxRecDepth 100000 in
set_option maxHeartbeats 4000000 in
theorem wz_give_17 {k : kSz} {v1 : Int32} {v2 : Int32} {v4 : Int64} {H : Heap} {locs : List Loc} {ls : Array Slot} (E : zE p s m args c cz_give 6 D cA h0 q) (hC : zC D cA h0 q s.heap k H locs) (hl : lv_has ls 6 [(0, .ref h0), (1, .int v1), (2, .int v2), (4, .long v4)]) (hae : vp_in v2 4096) (hret : zwv p l env (rmD 0) s m args below meth c cz_give D cA h0 q .int Q (fz_give_17 k v1 v2 v4)) : W p l env (rmD 0) s m args below meth c H locs 0 0 Q (F0 m 17 ls []) := by
  have hx := E.1.1; have hb := E.1.2.1
  unfold fz_give_17 at hret
  refine lv_iload_n hx hb dz_give_17 rfl (lv_at hl 1 rfl) ?_
  refine lv_iconst (v := (2 : Int32)) hx hb dz_give_18 (by decide) ?_
  refine lv_icmp_eq (tgt := 34) hx hb dz_give_19 (by decide) (fun h1 => ?_) (fun h1 => ?_)
  · rw [if_pos h1] at hret
    exact hret _ _ _ _ dz_give_34 hC  trivial
  · rw [if_neg h1] at hret
    refine lv_aload_n hx hb dz_give_22 rfl (lv_at hl 0 rfl) ?_
    refine zg_words E hC dz_give_23 ?_
    refine lv_iload_n hx hb dz_give_26 rfl (lv_at hl 2 rfl) ?_
    refine lv_lload hx hb dz_give_27 (lv_at hl 3 rfl) ?_
    refine lv_ldc2 hx hb E.1.2.2.2.1 (E.1.2.2.2.2 _ ct_z_7) dz_give_29 ?_
    refine lv_land hx hb dz_give_32 ?_
    refine zst E hC (hae) dz_give_33 (fun H locs hC => ?_)
    exact hret _ _ _ _ dz_give_34 hC  trivial
def fz_give (k : kSz) (v1 : Int32) (v2 : Int32) (v3 : Int32) (v4 : Int64) : kSz :=
  if v1 < (2 : Int32) then
    fz_give_17 k v1 v2 v4
  else
    fz_give_17 (stz k v3 (v4 &&& (68719476735 : Int64))) v1 v2 v4
set_option maxRecDepth 100000 in
set_option maxHeartbeats 4000000 in
theorem wz_give_0 {k : kSz} {v1 : Int32} {v2 : Int32} {v3 : Int32} {v4 : Int64} {H : Heap} {locs : List Loc} {ls : Array Slot} (E : zE p s m args c cz_give 6 D cA h0 q) (hC : zC D cA h0 q s.heap k H locs) (hl : lv_has ls 6 [(0, .ref h0), (1, .int v1), (2, .int v2), (3, .int v3), (4, .long v4)]) (hae : vp_in v2 4096) (he : ¬ v1 = 1 → vp_in v3 4096) (hret : zwv p l env (rmD 0) s m args below meth c cz_give D cA h0 q .int Q (fz_give k v1 v2 v3 v4)) : W p l env (rmD 0) s m args below meth c H locs 0 0 Q (F0 m 0 ls []) := by
  have hx := E.1.1; have hb := E.1.2.1
  unfold fz_give at hret
  refine lv_iload_n hx hb dz_give_0 rfl (lv_at hl 1 rfl) ?_
  refine lv_iconst (v := (2 : Int32)) hx hb dz_give_1 (by decide) ?_
  refine lv_icmp_lt (tgt := 17) hx hb dz_give_2 (by decide) (fun h1 => ?_) (fun h1 => ?_)
  · rw [if_pos h1] at hret
    exact wz_give_17 E hC (lv_sub hl [0, 1, 2, 4] rfl) (hae) hret
  · rw [if_neg h1] at hret
    refine lv_aload_n hx hb dz_give_5 rfl (lv_at hl 0 rfl) ?_
    refine zg_words E hC dz_give_6 ?_
    refine lv_iload_n hx hb dz_give_9 rfl (lv_at hl 3 rfl) ?_
    refine lv_lload hx hb dz_give_10 (lv_at hl 4 rfl) ?_
    refine lv_ldc2 hx hb E.1.2.2.2.1 (E.1.2.2.2.2 _ ct_z_7) dz_give_12 ?_
    refine lv_land hx hb dz_give_15 ?_
    refine zst E hC (he (ne1_nlt2 h1)) dz_give_16 (fun H locs hC => ?_)
    exact wz_give_17 E hC (lv_sub hl [0, 1, 2, 4] rfl) (hae) hret
set_option maxRecDepth 100000 in
set_option maxHeartbeats 4000000 in
theorem mz_give (l : Launch) (k : kSz) (v1 : Int32) (v2 : Int32) (v3 : Int32) (v4 : Int64) (hae : vp_in v2 4096) (he : ¬ v1 = 1 → vp_in v3 4096) : zMet l yz_give cz_give 6 none 0 [.int v1, .int v2, .int v3, .long v4] k (none) (fz_give k v1 v2 v3 v4)  :=
  zMet.ofv (by decide) rfl (fun _ => Nat.le_of_ble_eq_true rfl) (fun D cA h0 q p env s m args below meth c ls Q E hC hl hret => wz_give_0 E hC (lv_sub hl [0, 1, 2, 3, 4] rfl) hae he hret)
theorem gkz_give : zYw R_z 147 yz_give cz_give 6 none 4 := ⟨wc_z_give, wl_z_147, wi_z_give, ws_z_give, wn_z, ⟨by decide, by decide, by decide +kernel⟩, by decide⟩
theorem kz_give {p : Program} {l : Launch} {env : Env} {s : State} {m : MethodId} {args : Array Value} {below : List Frame} {meth : Method} {c : Code} {H : Heap} {locs : List Loc} {Q : State → Prop} {cc : ByteArray} {pc nL d : Nat} {ls : Array Slot} {rest : List Value} {D : va_G} {cA : ClassId} {h0 q : Nat} {k : kSz} {v1 : Int32} {v2 : Int32} {v3 : Int32} {v4 : Int64} (E : zE p s m args c cc nL D cA h0 q) (hls : ls.size = nL) (hC : zC D cA h0 q s.heap k H locs) (hae : vp_in v2 4096) (he : ¬ v1 = 1 → vp_in v3 4096) (hd : 0 + 1 ≤ d) (hr : (rest.map fun v => v.category).sum ≤ 8) (hdg : decode cc pc = .ok (.invokevirtual 147, 3)) (kk : ∀ (H1 : Heap) (locs1 : List Loc), zC D cA h0 q s.heap (fz_give k v1 v2 v3 v4)  H1 locs1 → W p l env (rmD d) s m args below meth c H1 locs1 0 0 Q (F0 m (pc + 3) ls (rest))) : W p l env (rmD d) s m args below meth c H locs 0 0 Q (F0 m pc ls (.long v4 :: .int v3 :: .int v2 :: .int v1 :: .ref h0 :: rest)) :=
  zcall (av := [.int v1, .int v2, .int v3, .long v4]) E (mz_give l k v1 v2 v3 v4 hae he) gkz_give rfl hls hC hd hr hdg kk
/-! TenMachineModel.look (I)I -/
def fz_look (k : kSz) (v1 : Int32) : Int32 :=
  if v1 = 0 then
    (uz_ct k)
  else
    if v1 = (1 : Int32) then
      if (uz_ov k) = 0 then
        (0 : Int32)
      else
        (1 : Int32)
    else
      if v1 = (2 : Int32) then
        (uz_dn k)
      else
        (-1 : Int32)
set_option maxRecDepth 100000 in
set_option maxHeartbeats 4000000 in
theorem wz_look_0 {k : kSz} {v1 : Int32} {H : Heap} {locs : List Loc} {ls : Array Slot} (E : zE p s m args c cz_look 2 D cA h0 q) (hC : zC D cA h0 q s.heap k H locs) (hl : lv_has ls 2 [(0, .ref h0), (1, .int v1)]) (hret : zri p l env (rmD 0) s m args below meth c cz_look D cA h0 q .int k Q (fz_look k v1)) : W p l env (rmD 0) s m args below meth c H locs 0 0 Q (F0 m 0 ls []) := by
  have hx := E.1.1; have hb := E.1.2.1
  unfold fz_look at hret
  refine lv_iload_n hx hb dz_look_0 rfl (lv_at hl 1 rfl) ?_
  refine lv_if_ne (tgt := 11) hx hb dz_look_1 (by decide) (fun h1 => ?_) (fun h1 => ?_)
  · rw [if_neg h1] at hret
    refine lv_iload_n hx hb dz_look_11 rfl (lv_at hl 1 rfl) ?_
    refine lv_iconst (v := (1 : Int32)) hx hb dz_look_12 (by decide) ?_
    refine lv_icmp_ne (tgt := 31) hx hb dz_look_13 (by decide) (fun h2 => ?_) (fun h2 => ?_)
    · rw [if_neg h2] at hret
      refine lv_iload_n hx hb dz_look_31 rfl (lv_at hl 1 rfl) ?_
      refine lv_iconst (v := (2 : Int32)) hx hb dz_look_32 (by decide) ?_
      refine lv_icmp_ne (tgt := 43) hx hb dz_look_33 (by decide) (fun h3 => ?_) (fun h3 => ?_)
      · rw [if_neg h3] at hret
        refine lv_iconst (v := (-1 : Int32)) hx hb dz_look_43 (by decide) ?_
        exact hret _ _ _ _ dz_look_44 hC  (nw_i _)
      · rw [if_pos h3] at hret
        refine lv_aload_n hx hb dz_look_36 rfl (lv_at hl 0 rfl) ?_
        refine zg_done E hC dz_look_37 ?_
        refine lv_goto (tgt := 44) hx hb dz_look_40 (by decide) ?_
        exact hret _ _ _ _ dz_look_44 hC  (nw_i _)
    · rw [if_pos h2] at hret
      refine lv_aload_n hx hb dz_look_16 rfl (lv_at hl 0 rfl) ?_
      refine zg_overflow E hC dz_look_17 ?_
      refine lv_if_eq (tgt := 27) hx hb dz_look_20 (by decide) (fun h4 => ?_) (fun h4 => ?_)
      · rw [if_pos h4] at hret
        refine lv_iconst (v := (0 : Int32)) hx hb dz_look_27 (by decide) ?_
        refine lv_goto (tgt := 44) hx hb dz_look_28 (by decide) ?_
        exact hret _ _ _ _ dz_look_44 hC  (nw_i _)
      · rw [if_neg h4] at hret
        refine lv_iconst (v := (1 : Int32)) hx hb dz_look_23 (by decide) ?_
        refine lv_goto (tgt := 44) hx hb dz_look_24 (by decide) ?_
        exact hret _ _ _ _ dz_look_44 hC  (nw_i _)
  · rw [if_pos h1] at hret
    refine lv_aload_n hx hb dz_look_4 rfl (lv_at hl 0 rfl) ?_
    refine zg_counter E hC dz_look_5 ?_
    refine lv_goto (tgt := 44) hx hb dz_look_8 (by decide) ?_
    exact hret _ _ _ _ dz_look_44 hC  (nw_i _)
set_option maxRecDepth 100000 in
set_option maxHeartbeats 4000000 in
theorem mz_look (l : Launch) (k : kSz) (v1 : Int32) : zMet l yz_look cz_look 2 (some .int) 0 [.int v1] k (some (.int (fz_look k v1))) k :=
  zMet.ofi (by decide) rfl (fun _ => Nat.le_of_ble_eq_true rfl) (fun D cA h0 q p env s m args below meth c ls Q E hC hl hret => wz_look_0 E hC (lv_sub hl [0, 1] rfl) hret)
/-! TenMachineModel.address (J)I -/
def fz_address_5 : Nat → kSz → Int64 → Int32 → Int32
  | 0, k, v3, v5 => 0
  | n + 1, k, v3, v5 =>
    if (8 : Int32) < v5 then
      (-1 : Int32)
    else
      if (((v3 >>> ((18 : Int32).toInt64 &&& 63)).toInt32) &&& (15 : Int32)) ≤ 0 then
        if ((v3 >>> ((22 : Int32).toInt64 &&& 63)) &&& (1 : Int64)) = (0 : Int64) then
          (fz_right v3)
        else
          if (fz_right v3) < (4096 : Int32) then
            fz_address_5 n k (ldz k (fz_right v3)) (v5 + 1)
          else
            (-1 : Int32)
      else
        if ((v3 >>> ((22 : Int32).toInt64 &&& 63)) &&& (1 : Int64)) = (0 : Int64) then
          (((fz_right v3) + (fz_right (ldz k (((v3 >>> ((18 : Int32).toInt64 &&& 63)).toInt32) &&& (15 : Int32))))) &&& (262143 : Int32))
        else
          if (((fz_right v3) + (fz_right (ldz k (((v3 >>> ((18 : Int32).toInt64 &&& 63)).toInt32) &&& (15 : Int32))))) &&& (262143 : Int32)) < (4096 : Int32) then
            fz_address_5 n k (ldz k (((fz_right v3) + (fz_right (ldz k (((v3 >>> ((18 : Int32).toInt64 &&& 63)).toInt32) &&& (15 : Int32))))) &&& (262143 : Int32))) (v5 + 1)
          else
            (-1 : Int32)
set_option maxRecDepth 100000 in
set_option maxHeartbeats 4000000 in
theorem wz_address_5 (E : zE p s m args c cz_address 8 D cA h0 q) : ∀ (n : Nat) (k : kSz) (v3 : Int64) (v5 : Int32) (H : Heap) (locs : List Loc) (ls : Array Slot), zC D cA h0 q s.heap k H locs → lv_has ls 8 [(0, .ref h0), (3, .long v3), (5, .int v5)] → (9 - v5.toInt).toNat < n → zri p l env (rmD 1) s m args below meth c cz_address D cA h0 q .int k Q (fz_address_5 n k v3 v5) → W p l env (rmD 1) s m args below meth c H locs 0 0 Q (F0 m 5 ls []) := by
  have hx := E.1.1; have hb := E.1.2.1
  intro n
  induction n with
  | zero => intro k v3 v5 H locs ls hC hl  hmu hret; exact absurd hmu (Nat.not_lt_zero _)
  | succ n ih =>
    intro k v3 v5 H locs ls hC hl  hmu hret
    rw [fz_address_5] at hret
    refine lv_iload hx hb dz_address_5 (lv_at hl 2 rfl) ?_
    refine lv_bipush (v := (8 : Int32)) hx hb dz_address_7 (by decide) ?_
    refine lv_icmp_gt (tgt := 89) hx hb dz_address_9 (by decide) (fun h1 => ?_) (fun h1 => ?_)
    · rw [if_pos h1] at hret
      refine lv_iconst (v := (-1 : Int32)) hx hb dz_address_89 (by decide) ?_
      exact hret _ _ _ _ dz_address_90 hC  (nw_i _)
    · rw [if_neg h1] at hret
      refine lv_lload_n hx hb dz_address_12 rfl (lv_at hl 1 rfl) ?_
      refine lv_bipush (v := (18 : Int32)) hx hb dz_address_13 (by decide) ?_
      refine lv_lshr hx hb dz_address_15 rfl ?_
      refine lv_l2i hx hb dz_address_16 rfl ?_
      refine lv_bipush (v := (15 : Int32)) hx hb dz_address_17 (by decide) ?_
      refine lv_iand hx hb dz_address_19 ?_
      refine lv_istore (lv' := [(6, .int (((v3 >>> ((18 : Int32).toInt64 &&& 63)).toInt32) &&& (15 : Int32))), (0, .ref h0), (3, .long v3), (5, .int v5)]) hx hb dz_address_20 hl (by decide) rfl (fun ls hl => ?_)
      refine lv_lload_n hx hb dz_address_22 rfl (lv_at hl 2 rfl) ?_
      refine kz_right_in_z E.1 hl.1 (by decide) (Nat.le_of_ble_eq_true rfl) dz_address_23 ?_
      refine lv_istore (lv' := [(7, .int (fz_right v3)), (6, .int (((v3 >>> ((18 : Int32).toInt64 &&& 63)).toInt32) &&& (15 : Int32))), (0, .ref h0), (3, .long v3), (5, .int v5)]) hx hb dz_address_26 hl (by decide) rfl (fun ls hl => ?_)
      refine lv_iload hx hb dz_address_28 (lv_at hl 1 rfl) ?_
      refine lv_if_le (tgt := 51) hx hb dz_address_30 (by decide) (fun h2 => ?_) (fun h2 => ?_)
      · rw [if_pos h2] at hret
        refine lv_lload_n hx hb dz_address_51 rfl (lv_at hl 3 rfl) ?_
        refine lv_bipush (v := (22 : Int32)) hx hb dz_address_52 (by decide) ?_
        refine lv_lshr hx hb dz_address_54 rfl ?_
        refine lv_lconst (v := (1 : Int64)) hx hb dz_address_55 (by decide) ?_
        refine lv_land hx hb dz_address_56 ?_
        refine lv_lconst (v := (0 : Int64)) hx hb dz_address_57 (by decide) ?_
        refine tt_lcmp_ne (tgt := 65) hx hb dz_address_58 dz_address_59 (by decide) (fun h3 => ?_) (fun h3 => ?_)
        · rw [if_neg h3] at hret
          refine lv_iload hx hb dz_address_65 (lv_at hl 0 rfl) ?_
          refine lv_sipush (v := (4096 : Int32)) hx hb dz_address_67 (by decide) ?_
          refine lv_icmp_lt (tgt := 75) hx hb dz_address_70 (by decide) (fun h4 => ?_) (fun h4 => ?_)
          · rw [if_pos h4] at hret
            refine lv_aload_n hx hb dz_address_75 rfl (lv_at hl 2 rfl) ?_
            refine zg_words E hC dz_address_76 ?_
            refine lv_iload hx hb dz_address_79 (lv_at hl 0 rfl) ?_
            refine zld E hC (vin_lt (rt_nn _) h4) dz_address_81 ?_
            refine lv_lstore_n (lv' := [(3, .long (ldz k (fz_right v3))), (7, .int (fz_right v3)), (6, .int (((v3 >>> ((18 : Int32).toInt64 &&& 63)).toInt32) &&& (15 : Int32))), (0, .ref h0), (5, .int v5)]) hx hb dz_address_82 rfl hl (by decide) rfl (fun ls hl => ?_)
            refine lv_iinc (v := (v5 + 1)) (lv' := [(5, .int (v5 + 1)), (3, .long (ldz k (fz_right v3))), (7, .int (fz_right v3)), (6, .int (((v3 >>> ((18 : Int32).toInt64 &&& 63)).toInt32) &&& (15 : Int32))), (0, .ref h0)]) hx hb dz_address_83 hl (k := 4) rfl (by rfl) (by decide) rfl (fun ls hl => ?_)
            refine lv_goto (tgt := 5) hx hb dz_address_86 (by decide) ?_
            exact ih _ _ _ _ _ _ hC (lv_sub hl [4, 1, 0] rfl) (mu_up9 (by assumption) hmu) hret
          · rw [if_neg h4] at hret
            refine lv_iconst (v := (-1 : Int32)) hx hb dz_address_73 (by decide) ?_
            exact hret _ _ _ _ dz_address_74 hC  (nw_i _)
        · rw [if_pos h3] at hret
          refine lv_iload hx hb dz_address_62 (lv_at hl 0 rfl) ?_
          exact hret _ _ _ _ dz_address_64 hC  (nw_i _)
      · rw [if_neg h2] at hret
        refine lv_iload hx hb dz_address_33 (lv_at hl 0 rfl) ?_
        refine lv_aload_n hx hb dz_address_35 rfl (lv_at hl 2 rfl) ?_
        refine zg_words E hC dz_address_36 ?_
        refine lv_iload hx hb dz_address_39 (lv_at hl 1 rfl) ?_
        refine zld E hC (vin15 _) dz_address_41 ?_
        refine kz_right_in_z E.1 hl.1 (by decide) (Nat.le_of_ble_eq_true rfl) dz_address_42 ?_
        refine lv_iadd hx hb dz_address_45 ?_
        refine lv_ldc hx hb E.1.2.2.2.1 (E.1.2.2.2.2 _ ct_z_9) dz_address_46 ?_
        refine lv_iand hx hb dz_address_48 ?_
        refine lv_istore (lv' := [(7, .int (((fz_right v3) + (fz_right (ldz k (((v3 >>> ((18 : Int32).toInt64 &&& 63)).toInt32) &&& (15 : Int32))))) &&& (262143 : Int32))), (6, .int (((v3 >>> ((18 : Int32).toInt64 &&& 63)).toInt32) &&& (15 : Int32))), (0, .ref h0), (3, .long v3), (5, .int v5)]) hx hb dz_address_49 hl (by decide) rfl (fun ls hl => ?_)
        refine lv_lload_n hx hb dz_address_51 rfl (lv_at hl 3 rfl) ?_
        refine lv_bipush (v := (22 : Int32)) hx hb dz_address_52 (by decide) ?_
        refine lv_lshr hx hb dz_address_54 rfl ?_
        refine lv_lconst (v := (1 : Int64)) hx hb dz_address_55 (by decide) ?_
        refine lv_land hx hb dz_address_56 ?_
        refine lv_lconst (v := (0 : Int64)) hx hb dz_address_57 (by decide) ?_
        refine tt_lcmp_ne (tgt := 65) hx hb dz_address_58 dz_address_59 (by decide) (fun h5 => ?_) (fun h5 => ?_)
        · rw [if_neg h5] at hret
          refine lv_iload hx hb dz_address_65 (lv_at hl 0 rfl) ?_
          refine lv_sipush (v := (4096 : Int32)) hx hb dz_address_67 (by decide) ?_
          refine lv_icmp_lt (tgt := 75) hx hb dz_address_70 (by decide) (fun h6 => ?_) (fun h6 => ?_)
          · rw [if_pos h6] at hret
            refine lv_aload_n hx hb dz_address_75 rfl (lv_at hl 2 rfl) ?_
            refine zg_words E hC dz_address_76 ?_
            refine lv_iload hx hb dz_address_79 (lv_at hl 0 rfl) ?_
            refine zld E hC (vin_lt (and_nn _) h6) dz_address_81 ?_
            refine lv_lstore_n (lv' := [(3, .long (ldz k (((fz_right v3) + (fz_right (ldz k (((v3 >>> ((18 : Int32).toInt64 &&& 63)).toInt32) &&& (15 : Int32))))) &&& (262143 : Int32)))), (7, .int (((fz_right v3) + (fz_right (ldz k (((v3 >>> ((18 : Int32).toInt64 &&& 63)).toInt32) &&& (15 : Int32))))) &&& (262143 : Int32))), (6, .int (((v3 >>> ((18 : Int32).toInt64 &&& 63)).toInt32) &&& (15 : Int32))), (0, .ref h0), (5, .int v5)]) hx hb dz_address_82 rfl hl (by decide) rfl (fun ls hl => ?_)
            refine lv_iinc (v := (v5 + 1)) (lv' := [(5, .int (v5 + 1)), (3, .long (ldz k (((fz_right v3) + (fz_right (ldz k (((v3 >>> ((18 : Int32).toInt64 &&& 63)).toInt32) &&& (15 : Int32))))) &&& (262143 : Int32)))), (7, .int (((fz_right v3) + (fz_right (ldz k (((v3 >>> ((18 : Int32).toInt64 &&& 63)).toInt32) &&& (15 : Int32))))) &&& (262143 : Int32))), (6, .int (((v3 >>> ((18 : Int32).toInt64 &&& 63)).toInt32) &&& (15 : Int32))), (0, .ref h0)]) hx hb dz_address_83 hl (k := 4) rfl (by rfl) (by decide) rfl (fun ls hl => ?_)
            refine lv_goto (tgt := 5) hx hb dz_address_86 (by decide) ?_
            exact ih _ _ _ _ _ _ hC (lv_sub hl [4, 1, 0] rfl) (mu_up9 (by assumption) hmu) hret
          · rw [if_neg h6] at hret
            refine lv_iconst (v := (-1 : Int32)) hx hb dz_address_73 (by decide) ?_
            exact hret _ _ _ _ dz_address_74 hC  (nw_i _)
        · rw [if_pos h5] at hret
          refine lv_iload hx hb dz_address_62 (lv_at hl 0 rfl) ?_
          exact hret _ _ _ _ dz_address_64 hC  (nw_i _)
def fz_address (k : kSz) (v1 : Int64) : Int32 :=
  fz_address_5 10 k v1 (0 : Int32)
set_option maxRecDepth 100000 in
set_option maxHeartbeats 4000000 in
theorem wz_address_0 {k : kSz} {v1 : Int64} {H : Heap} {locs : List Loc} {ls : Array Slot} (E : zE p s m args c cz_address 8 D cA h0 q) (hC : zC D cA h0 q s.heap k H locs) (hl : lv_has ls 8 [(0, .ref h0), (1, .long v1)]) (hret : zri p l env (rmD 1) s m args below meth c cz_address D cA h0 q .int k Q (fz_address k v1)) : W p l env (rmD 1) s m args below meth c H locs 0 0 Q (F0 m 0 ls []) := by
  have hx := E.1.1; have hb := E.1.2.1
  unfold fz_address at hret
  refine lv_lload_n hx hb dz_address_0 rfl (lv_at hl 1 rfl) ?_
  refine lv_lstore_n (lv' := [(3, .long v1), (0, .ref h0), (1, .long v1)]) hx hb dz_address_1 rfl hl (by decide) rfl (fun ls hl => ?_)
  refine lv_iconst (v := (0 : Int32)) hx hb dz_address_2 (by decide) ?_
  refine lv_istore (lv' := [(5, .int (0 : Int32)), (3, .long v1), (0, .ref h0), (1, .long v1)]) hx hb dz_address_3 hl (by decide) rfl (fun ls hl => ?_)
  exact wz_address_5 E 10 _ _ _ _ _ _ hC (lv_sub hl [2, 1, 0] rfl) (by decide) hret
set_option maxRecDepth 100000 in
set_option maxHeartbeats 4000000 in
theorem mz_address (l : Launch) (k : kSz) (v1 : Int64) : zMet l yz_address cz_address 8 (some .int) 1 [.long v1] k (some (.int (fz_address k v1))) k :=
  zMet.ofi (by decide) rfl (fun _ => Nat.le_of_ble_eq_true rfl) (fun D cA h0 q p env s m args below meth c ls Q E hC hl hret => wz_address_0 E hC (lv_sub hl [0, 1] rfl) hret)
theorem gkz_address : zYw R_z 51 yz_address cz_address 8 (some .int) 1 := ⟨wc_z_address, wl_z_51, wi_z_address, ws_z_address, wn_z, ⟨by decide, by decide, by decide +kernel⟩, by decide⟩
theorem kz_address {p : Program} {l : Launch} {env : Env} {s : State} {m : MethodId} {args : Array Value} {below : List Frame} {meth : Method} {c : Code} {H : Heap} {locs : List Loc} {Q : State → Prop} {cc : ByteArray} {pc nL d : Nat} {ls : Array Slot} {rest : List Value} {D : va_G} {cA : ClassId} {h0 q : Nat} {k : kSz} {v1 : Int64} (E : zE p s m args c cc nL D cA h0 q) (hls : ls.size = nL) (hC : zC D cA h0 q s.heap k H locs) (hd : 1 + 1 ≤ d) (hr : (rest.map fun v => v.category).sum ≤ 8) (hdg : decode cc pc = .ok (.invokevirtual 51, 3)) (kk : ∀ (H1 : Heap) (locs1 : List Loc), zC D cA h0 q s.heap k H1 locs1 → W p l env (rmD d) s m args below meth c H1 locs1 0 0 Q (F0 m (pc + 3) ls (.int (fz_address k v1) :: rest))) : W p l env (rmD d) s m args below meth c H locs 0 0 Q (F0 m pc ls (.long v1 :: .ref h0 :: rest)) :=
  zcall (av := [.long v1]) E (mz_address l k v1) gkz_address rfl hls hC hd hr hdg kk
/-! TenMachineModel.reckon (IIII)I -/
def fz_reckon_80 (k : kSz)  : Int32 × kSz :=
  ((0 : Int32), vz_ov k (1 : Int32))
set_option maxRecDepth 100000 in
set_option maxHeartbeats 4000000 in
theorem wz_reckon_80 {k : kSz} {H : Heap} {locs : List Loc} {ls : Array Slot} (E : zE p s m args c cz_reckon 11 D cA h0 q) (hC : zC D cA h0 q s.heap k H locs) (hl : lv_has ls 11 [(0, .ref h0)]) (hret : zwi p l env (rmD 1) s m args below meth c cz_reckon D cA h0 q .int Q (fz_reckon_80 k)) : W p l env (rmD 1) s m args below meth c H locs 0 0 Q (F0 m 80 ls []) := by
  have hx := E.1.1; have hb := E.1.2.1
  unfold fz_reckon_80 at hret
  refine lv_aload_n hx hb dz_reckon_80 rfl (lv_at hl 0 rfl) ?_
  refine lv_iconst (v := (1 : Int32)) hx hb dz_reckon_81 (by decide) ?_
  refine zp_overflow E hC rfl rfl dz_reckon_82 (fun H locs hC => ?_)
  refine lv_iconst (v := (0 : Int32)) hx hb dz_reckon_85 (by decide) ?_
  exact (zwi_out hret) _ _ _ _ dz_reckon_86 hC  (nw_i _)
def fz_reckon_87 (k : kSz) (v2 : Int32) (v3 : Int32) (v4 : Int32) (v5 : Int64) (v7 : Int64) : Int32 × kSz :=
  if v2 = (2 : Int32) then
    ((0 : Int32), (fz_give k v2 v3 v4 (v5 / v7)))
  else
    ((0 : Int32), stz (fz_give k v2 v3 v4 (v5 / v7)) ((v3 + (1 : Int32)) &&& (15 : Int32)) ((v5 - v5 / v7 * v7) &&& (68719476735 : Int64)))
set_option maxRecDepth 100000 in
set_option maxHeartbeats 4000000 in
theorem wz_reckon_87 {k : kSz} {v2 : Int32} {v3 : Int32} {v4 : Int32} {v5 : Int64} {v7 : Int64} {H : Heap} {locs : List Loc} {ls : Array Slot} (E : zE p s m args c cz_reckon 11 D cA h0 q) (hC : zC D cA h0 q s.heap k H locs) (hl : lv_has ls 11 [(0, .ref h0), (2, .int v2), (3, .int v3), (4, .int v4), (5, .long v5), (7, .long v7)]) (hae : vp_in v3 4096) (hee : 0 ≤ v4) (he : ¬ v2 = 1 → vp_in v4 4096) (hy0 : ¬ v7 = 0) (hret : zwi p l env (rmD 1) s m args below meth c cz_reckon D cA h0 q .int Q (fz_reckon_87 k v2 v3 v4 v5 v7)) : W p l env (rmD 1) s m args below meth c H locs 0 0 Q (F0 m 87 ls []) := by
  have hx := E.1.1; have hb := E.1.2.1
  unfold fz_reckon_87 at hret
  refine lv_aload_n hx hb dz_reckon_87 rfl (lv_at hl 0 rfl) ?_
  refine lv_iload_n hx hb dz_reckon_88 rfl (lv_at hl 1 rfl) ?_
  refine lv_iload_n hx hb dz_reckon_89 rfl (lv_at hl 2 rfl) ?_
  refine lv_iload hx hb dz_reckon_90 (lv_at hl 3 rfl) ?_
  refine lv_lload hx hb dz_reckon_92 (lv_at hl 4 rfl) ?_
  refine lv_lload hx hb dz_reckon_94 (lv_at hl 5 rfl) ?_
  refine lv_ldiv hx hb dz_reckon_96 (hy0) ?_
  refine kz_give E hl.1 hC (hae) (he) (by decide) (Nat.le_of_ble_eq_true rfl) dz_reckon_97 (fun H locs hC => ?_)
  refine lv_iload_n hx hb dz_reckon_100 rfl (lv_at hl 1 rfl) ?_
  refine lv_iconst (v := (2 : Int32)) hx hb dz_reckon_101 (by decide) ?_
  refine lv_icmp_eq (tgt := 125) hx hb dz_reckon_102 (by decide) (fun h1 => ?_) (fun h1 => ?_)
  · rw [if_pos h1] at hret
    refine lv_iconst (v := (0 : Int32)) hx hb dz_reckon_125 (by decide) ?_
    exact (zwi_out hret) _ _ _ _ dz_reckon_126 hC  (nw_i _)
  · rw [if_neg h1] at hret
    refine lv_aload_n hx hb dz_reckon_105 rfl (lv_at hl 0 rfl) ?_
    refine zg_words E hC dz_reckon_106 ?_
    refine lv_iload_n hx hb dz_reckon_109 rfl (lv_at hl 2 rfl) ?_
    refine lv_iconst (v := (1 : Int32)) hx hb dz_reckon_110 (by decide) ?_
    refine lv_iadd hx hb dz_reckon_111 ?_
    refine lv_bipush (v := (15 : Int32)) hx hb dz_reckon_112 (by decide) ?_
    refine lv_iand hx hb dz_reckon_114 ?_
    refine lv_lload hx hb dz_reckon_115 (lv_at hl 4 rfl) ?_
    refine lv_lload hx hb dz_reckon_117 (lv_at hl 5 rfl) ?_
    refine lv_lrem hx hb dz_reckon_119 (hy0) ?_
    refine lv_ldc2 hx hb E.1.2.2.2.1 (E.1.2.2.2.2 _ ct_z_7) dz_reckon_120 ?_
    refine lv_land hx hb dz_reckon_123 ?_
    refine zst E hC (vin15 _) dz_reckon_124 (fun H locs hC => ?_)
    refine lv_iconst (v := (0 : Int32)) hx hb dz_reckon_125 (by decide) ?_
    exact (zwi_out hret) _ _ _ _ dz_reckon_126 hC  (nw_i _)
def fz_reckon_206 (k : kSz) (v2 : Int32) (v3 : Int32) (v4 : Int32) (v9 : Int64) : Int32 × kSz :=
  ((0 : Int32), (fz_give k v2 v3 v4 v9))
set_option maxRecDepth 100000 in
set_option maxHeartbeats 4000000 in
theorem wz_reckon_206 {k : kSz} {v2 : Int32} {v3 : Int32} {v4 : Int32} {v9 : Int64} {H : Heap} {locs : List Loc} {ls : Array Slot} (E : zE p s m args c cz_reckon 11 D cA h0 q) (hC : zC D cA h0 q s.heap k H locs) (hl : lv_has ls 11 [(0, .ref h0), (2, .int v2), (3, .int v3), (4, .int v4), (9, .long v9)]) (hae : vp_in v3 4096) (hee : 0 ≤ v4) (he : ¬ v2 = 1 → vp_in v4 4096) (hret : zwi p l env (rmD 1) s m args below meth c cz_reckon D cA h0 q .int Q (fz_reckon_206 k v2 v3 v4 v9)) : W p l env (rmD 1) s m args below meth c H locs 0 0 Q (F0 m 206 ls []) := by
  have hx := E.1.1; have hb := E.1.2.1
  unfold fz_reckon_206 at hret
  refine lv_aload_n hx hb dz_reckon_206 rfl (lv_at hl 0 rfl) ?_
  refine lv_iload_n hx hb dz_reckon_207 rfl (lv_at hl 1 rfl) ?_
  refine lv_iload_n hx hb dz_reckon_208 rfl (lv_at hl 2 rfl) ?_
  refine lv_iload hx hb dz_reckon_209 (lv_at hl 3 rfl) ?_
  refine lv_lload hx hb dz_reckon_211 (lv_at hl 4 rfl) ?_
  refine kz_give E hl.1 hC (hae) (he) (by decide) (Nat.le_of_ble_eq_true rfl) dz_reckon_213 (fun H locs hC => ?_)
  refine lv_iconst (v := (0 : Int32)) hx hb dz_reckon_216 (by decide) ?_
  exact (zwi_out hret) _ _ _ _ dz_reckon_217 hC  (nw_i _)
def fz_reckon_164 (k : kSz) (v2 : Int32) (v3 : Int32) (v4 : Int32) (v9 : Int64) : Int32 × kSz :=
  fz_reckon_206 (vz_ov k (1 : Int32)) v2 v3 v4 v9
set_option maxRecDepth 100000 in
set_option maxHeartbeats 4000000 in
theorem wz_reckon_164 {k : kSz} {v2 : Int32} {v3 : Int32} {v4 : Int32} {v9 : Int64} {H : Heap} {locs : List Loc} {ls : Array Slot} (E : zE p s m args c cz_reckon 11 D cA h0 q) (hC : zC D cA h0 q s.heap k H locs) (hl : lv_has ls 11 [(0, .ref h0), (2, .int v2), (3, .int v3), (4, .int v4), (9, .long v9)]) (hae : vp_in v3 4096) (hee : 0 ≤ v4) (he : ¬ v2 = 1 → vp_in v4 4096) (hret : zwi p l env (rmD 1) s m args below meth c cz_reckon D cA h0 q .int Q (fz_reckon_164 k v2 v3 v4 v9)) : W p l env (rmD 1) s m args below meth c H locs 0 0 Q (F0 m 164 ls []) := by
  have hx := E.1.1; have hb := E.1.2.1
  unfold fz_reckon_164 at hret
  refine lv_aload_n hx hb dz_reckon_164 rfl (lv_at hl 0 rfl) ?_
  refine lv_iconst (v := (1 : Int32)) hx hb dz_reckon_165 (by decide) ?_
  refine zp_overflow E hC rfl rfl dz_reckon_166 (fun H locs hC => ?_)
  refine lv_goto (tgt := 206) hx hb dz_reckon_169 (by decide) ?_
  exact wz_reckon_206 E hC (lv_sub hl [0, 1, 2, 3, 4] rfl) (hae) (hee) (he) hret
def fz_reckon_191 (k : kSz) (v2 : Int32) (v3 : Int32) (v4 : Int32) (t0 : Int64) : Int32 × kSz :=
  if (fz_fits t0) = 0 then
    fz_reckon_206 (vz_ov k (1 : Int32)) v2 v3 v4 t0
  else
    fz_reckon_206 k v2 v3 v4 t0
set_option maxRecDepth 100000 in
set_option maxHeartbeats 4000000 in
theorem wz_reckon_191 {k : kSz} {v2 : Int32} {v3 : Int32} {v4 : Int32} {t0 : Int64} {H : Heap} {locs : List Loc} {ls : Array Slot} (E : zE p s m args c cz_reckon 11 D cA h0 q) (hC : zC D cA h0 q s.heap k H locs) (hl : lv_has ls 11 [(0, .ref h0), (2, .int v2), (3, .int v3), (4, .int v4)]) (hae : vp_in v3 4096) (hee : 0 ≤ v4) (he : ¬ v2 = 1 → vp_in v4 4096) (hret : zwi p l env (rmD 1) s m args below meth c cz_reckon D cA h0 q .int Q (fz_reckon_191 k v2 v3 v4 t0)) : W p l env (rmD 1) s m args below meth c H locs 0 0 Q (F0 m 191 ls [.long t0]) := by
  have hx := E.1.1; have hb := E.1.2.1
  unfold fz_reckon_191 at hret
  refine lv_lstore (lv' := [(9, .long t0), (0, .ref h0), (2, .int v2), (3, .int v3), (4, .int v4)]) hx hb dz_reckon_191 hl (by decide) rfl (fun ls hl => ?_)
  refine lv_lload hx hb dz_reckon_193 (lv_at hl 0 rfl) ?_
  refine kz_fits_in_z E.1 hl.1 (by decide) (Nat.le_of_ble_eq_true rfl) dz_reckon_195 ?_
  refine lv_if_ne (tgt := 206) hx hb dz_reckon_198 (by decide) (fun h1 => ?_) (fun h1 => ?_)
  · rw [if_neg h1] at hret
    exact wz_reckon_206 E hC (lv_sub hl [1, 2, 3, 4, 0] rfl) (hae) (hee) (he) hret
  · rw [if_pos h1] at hret
    refine lv_aload_n hx hb dz_reckon_201 rfl (lv_at hl 1 rfl) ?_
    refine lv_iconst (v := (1 : Int32)) hx hb dz_reckon_202 (by decide) ?_
    refine zp_overflow E hC rfl rfl dz_reckon_203 (fun H locs hC => ?_)
    exact wz_reckon_206 E hC (lv_sub hl [1, 2, 3, 4, 0] rfl) (hae) (hee) (he) hret
def fz_reckon_47 (k : kSz) (v1 : Int32) (v2 : Int32) (v3 : Int32) (v4 : Int32) (v5 : Int64) (t0 : Int64) : Int32 × kSz :=
  if v1 = (38 : Int32) then
    if t0 = (0 : Int64) then
      fz_reckon_80 k
    else
      if v5 = (-34359738368 : Int64) then
        if t0 = (-1 : Int64) then
          fz_reckon_80 k
        else
          fz_reckon_87 k v2 v3 v4 v5 t0
      else
        fz_reckon_87 k v2 v3 v4 v5 t0
  else
    if v1 = (36 : Int32) then
      if (fjm_multiplyHigh v5 t0) = ((v5 * t0) >>> ((63 : Int32).toInt64 &&& 63)) then
        if (fz_fits (v5 * t0)) = 0 then
          fz_reckon_164 k v2 v3 v4 (v5 * t0)
        else
          fz_reckon_206 k v2 v3 v4 (v5 * t0)
      else
        fz_reckon_164 k v2 v3 v4 (v5 * t0)
    else
      if v1 = (46 : Int32) then
        fz_reckon_191 k v2 v3 v4 (v5 + t0)
      else
        fz_reckon_191 k v2 v3 v4 (v5 - t0)
set_option maxRecDepth 100000 in
set_option maxHeartbeats 4000000 in
theorem wz_reckon_47 {k : kSz} {v1 : Int32} {v2 : Int32} {v3 : Int32} {v4 : Int32} {v5 : Int64} {t0 : Int64} {H : Heap} {locs : List Loc} {ls : Array Slot} (E : zE p s m args c cz_reckon 11 D cA h0 q) (hC : zC D cA h0 q s.heap k H locs) (hl : lv_has ls 11 [(0, .ref h0), (1, .int v1), (2, .int v2), (3, .int v3), (4, .int v4), (5, .long v5)]) (hae : vp_in v3 4096) (hee : 0 ≤ v4) (he : ¬ v2 = 1 → vp_in v4 4096) (hret : zwi p l env (rmD 1) s m args below meth c cz_reckon D cA h0 q .int Q (fz_reckon_47 k v1 v2 v3 v4 v5 t0)) : W p l env (rmD 1) s m args below meth c H locs 0 0 Q (F0 m 47 ls [.long t0]) := by
  have hx := E.1.1; have hb := E.1.2.1
  unfold fz_reckon_47 at hret
  refine lv_lstore (lv' := [(7, .long t0), (0, .ref h0), (1, .int v1), (2, .int v2), (3, .int v3), (4, .int v4), (5, .long v5)]) hx hb dz_reckon_47 hl (by decide) rfl (fun ls hl => ?_)
  refine lv_iload_n hx hb dz_reckon_49 rfl (lv_at hl 2 rfl) ?_
  refine lv_bipush (v := (38 : Int32)) hx hb dz_reckon_50 (by decide) ?_
  refine lv_icmp_ne (tgt := 127) hx hb dz_reckon_52 (by decide) (fun h1 => ?_) (fun h1 => ?_)
  · rw [if_neg h1] at hret
    refine lv_iload_n hx hb dz_reckon_127 rfl (lv_at hl 2 rfl) ?_
    refine lv_bipush (v := (36 : Int32)) hx hb dz_reckon_128 (by decide) ?_
    refine lv_icmp_ne (tgt := 172) hx hb dz_reckon_130 (by decide) (fun h2 => ?_) (fun h2 => ?_)
    · rw [if_neg h2] at hret
      refine lv_iload_n hx hb dz_reckon_172 rfl (lv_at hl 2 rfl) ?_
      refine lv_bipush (v := (46 : Int32)) hx hb dz_reckon_173 (by decide) ?_
      refine lv_icmp_ne (tgt := 186) hx hb dz_reckon_175 (by decide) (fun h3 => ?_) (fun h3 => ?_)
      · rw [if_neg h3] at hret
        refine lv_lload hx hb dz_reckon_186 (lv_at hl 6 rfl) ?_
        refine lv_lload hx hb dz_reckon_188 (lv_at hl 0 rfl) ?_
        refine lv_lsub hx hb dz_reckon_190 ?_
        exact wz_reckon_191 E hC (lv_sub hl [1, 3, 4, 5] rfl) (hae) (hee) (he) hret
      · rw [if_pos h3] at hret
        refine lv_lload hx hb dz_reckon_178 (lv_at hl 6 rfl) ?_
        refine lv_lload hx hb dz_reckon_180 (lv_at hl 0 rfl) ?_
        refine lv_ladd hx hb dz_reckon_182 ?_
        refine lv_goto (tgt := 191) hx hb dz_reckon_183 (by decide) ?_
        exact wz_reckon_191 E hC (lv_sub hl [1, 3, 4, 5] rfl) (hae) (hee) (he) hret
    · rw [if_pos h2] at hret
      refine lv_lload hx hb dz_reckon_133 (lv_at hl 6 rfl) ?_
      refine lv_lload hx hb dz_reckon_135 (lv_at hl 0 rfl) ?_
      refine lv_lmul hx hb dz_reckon_137 ?_
      refine lv_lstore (lv' := [(9, .long (v5 * t0)), (7, .long t0), (0, .ref h0), (1, .int v1), (2, .int v2), (3, .int v3), (4, .int v4), (5, .long v5)]) hx hb dz_reckon_138 hl (by decide) rfl (fun ls hl => ?_)
      refine lv_lload hx hb dz_reckon_140 (lv_at hl 7 rfl) ?_
      refine lv_lload hx hb dz_reckon_142 (lv_at hl 1 rfl) ?_
      refine kjm_multiplyHigh_in_z E.1 hl.1 (by decide) (Nat.le_of_ble_eq_true rfl) dz_reckon_144 ?_
      refine lv_lload hx hb dz_reckon_147 (lv_at hl 0 rfl) ?_
      refine lv_bipush (v := (63 : Int32)) hx hb dz_reckon_149 (by decide) ?_
      refine lv_lshr hx hb dz_reckon_151 rfl ?_
      refine tt_lcmp_ne (tgt := 164) hx hb dz_reckon_152 dz_reckon_153 (by decide) (fun h4 => ?_) (fun h4 => ?_)
      · rw [if_neg h4] at hret
        exact wz_reckon_164 E hC (lv_sub hl [2, 4, 5, 6, 0] rfl) (hae) (hee) (he) hret
      · rw [if_pos h4] at hret
        refine lv_lload hx hb dz_reckon_156 (lv_at hl 0 rfl) ?_
        refine kz_fits_in_z E.1 hl.1 (by decide) (Nat.le_of_ble_eq_true rfl) dz_reckon_158 ?_
        refine lv_if_ne (tgt := 206) hx hb dz_reckon_161 (by decide) (fun h5 => ?_) (fun h5 => ?_)
        · rw [if_neg h5] at hret
          exact wz_reckon_206 E hC (lv_sub hl [2, 4, 5, 6, 0] rfl) (hae) (hee) (he) hret
        · rw [if_pos h5] at hret
          exact wz_reckon_164 E hC (lv_sub hl [2, 4, 5, 6, 0] rfl) (hae) (hee) (he) hret
  · rw [if_pos h1] at hret
    refine lv_lload hx hb dz_reckon_55 (lv_at hl 0 rfl) ?_
    refine lv_lconst (v := (0 : Int64)) hx hb dz_reckon_57 (by decide) ?_
    refine tt_lcmp_eq (tgt := 80) hx hb dz_reckon_58 dz_reckon_59 (by decide) (fun h6 => ?_) (fun h6 => ?_)
    · rw [if_pos h6] at hret
      exact wz_reckon_80 E hC (lv_sub hl [1] rfl) hret
    · rw [if_neg h6] at hret
      refine lv_lload hx hb dz_reckon_62 (lv_at hl 6 rfl) ?_
      refine lv_ldc2 hx hb E.1.2.2.2.1 (E.1.2.2.2.2 _ ct_z_3) dz_reckon_64 ?_
      refine tt_lcmp_ne (tgt := 87) hx hb dz_reckon_67 dz_reckon_68 (by decide) (fun h7 => ?_) (fun h7 => ?_)
      · rw [if_neg h7] at hret
        exact wz_reckon_87 E hC (lv_sub hl [1, 3, 4, 5, 6, 0] rfl) (hae) (hee) (he) (by assumption) hret
      · rw [if_pos h7] at hret
        refine lv_lload hx hb dz_reckon_71 (lv_at hl 0 rfl) ?_
        refine lv_ldc2 hx hb E.1.2.2.2.1 (E.1.2.2.2.2 _ ct_z_145) dz_reckon_73 ?_
        refine tt_lcmp_ne (tgt := 87) hx hb dz_reckon_76 dz_reckon_77 (by decide) (fun h8 => ?_) (fun h8 => ?_)
        · rw [if_neg h8] at hret
          exact wz_reckon_87 E hC (lv_sub hl [1, 3, 4, 5, 6, 0] rfl) (hae) (hee) (he) (by assumption) hret
        · rw [if_pos h8] at hret
          exact wz_reckon_80 E hC (lv_sub hl [1] rfl) hret
def fz_reckon_15 (k : kSz) (v1 : Int32) (v2 : Int32) (v3 : Int32) (v4 : Int32) : Int32 × kSz :=
  if v2 = (1 : Int32) then
    fz_reckon_47 k v1 v2 v3 v4 (fz_signed (ldz k v3)) v4.toInt64
  else
    fz_reckon_47 k v1 v2 v3 v4 (fz_signed (ldz k v3)) (fz_signed (ldz k v4))
set_option maxRecDepth 100000 in
set_option maxHeartbeats 4000000 in
theorem wz_reckon_15 {k : kSz} {v1 : Int32} {v2 : Int32} {v3 : Int32} {v4 : Int32} {H : Heap} {locs : List Loc} {ls : Array Slot} (E : zE p s m args c cz_reckon 11 D cA h0 q) (hC : zC D cA h0 q s.heap k H locs) (hl : lv_has ls 11 [(0, .ref h0), (1, .int v1), (2, .int v2), (3, .int v3), (4, .int v4)]) (hae : vp_in v3 4096) (hee : 0 ≤ v4) (he : ¬ v2 = 1 → vp_in v4 4096) (hret : zwi p l env (rmD 1) s m args below meth c cz_reckon D cA h0 q .int Q (fz_reckon_15 k v1 v2 v3 v4)) : W p l env (rmD 1) s m args below meth c H locs 0 0 Q (F0 m 15 ls []) := by
  have hx := E.1.1; have hb := E.1.2.1
  unfold fz_reckon_15 at hret
  refine lv_aload_n hx hb dz_reckon_15 rfl (lv_at hl 0 rfl) ?_
  refine zg_words E hC dz_reckon_16 ?_
  refine lv_iload_n hx hb dz_reckon_19 rfl (lv_at hl 3 rfl) ?_
  refine zld E hC (hae) dz_reckon_20 ?_
  refine kz_signed_in_z E.1 hl.1 (by decide) (Nat.le_of_ble_eq_true rfl) dz_reckon_21 ?_
  refine lv_lstore (lv' := [(5, .long (fz_signed (ldz k v3))), (0, .ref h0), (1, .int v1), (2, .int v2), (3, .int v3), (4, .int v4)]) hx hb dz_reckon_24 hl (by decide) rfl (fun ls hl => ?_)
  refine lv_iload_n hx hb dz_reckon_26 rfl (lv_at hl 3 rfl) ?_
  refine lv_iconst (v := (1 : Int32)) hx hb dz_reckon_27 (by decide) ?_
  refine lv_icmp_ne (tgt := 37) hx hb dz_reckon_28 (by decide) (fun h1 => ?_) (fun h1 => ?_)
  · rw [if_neg h1] at hret
    refine lv_aload_n hx hb dz_reckon_37 rfl (lv_at hl 1 rfl) ?_
    refine zg_words E hC dz_reckon_38 ?_
    refine lv_iload hx hb dz_reckon_41 (lv_at hl 5 rfl) ?_
    refine zld E hC (he h1) dz_reckon_43 ?_
    refine kz_signed_in_z E.1 hl.1 (by decide) (Nat.le_of_ble_eq_true rfl) dz_reckon_44 ?_
    exact wz_reckon_47 E hC (lv_sub hl [1, 2, 3, 4, 5, 0] rfl) (hae) (hee) (he) hret
  · rw [if_pos h1] at hret
    refine lv_iload hx hb dz_reckon_31 (lv_at hl 5 rfl) ?_
    refine lv_i2l hx hb dz_reckon_33 rfl ?_
    refine lv_goto (tgt := 47) hx hb dz_reckon_34 (by decide) ?_
    exact wz_reckon_47 E hC (lv_sub hl [1, 2, 3, 4, 5, 0] rfl) (hae) (hee) (he) hret
def fz_reckon (k : kSz) (v1 : Int32) (v2 : Int32) (v3 : Int32) (v4 : Int32) : Int32 × kSz :=
  if v2 = (1 : Int32) then
    fz_reckon_15 k v1 v2 v3 v4
  else
    if (fz_isGone v4) = 0 then
      fz_reckon_15 k v1 v2 v3 v4
    else
      ((2 : Int32), k)
set_option maxRecDepth 100000 in
set_option maxHeartbeats 4000000 in
theorem wz_reckon_0 {k : kSz} {v1 : Int32} {v2 : Int32} {v3 : Int32} {v4 : Int32} {H : Heap} {locs : List Loc} {ls : Array Slot} (E : zE p s m args c cz_reckon 11 D cA h0 q) (hC : zC D cA h0 q s.heap k H locs) (hl : lv_has ls 11 [(0, .ref h0), (1, .int v1), (2, .int v2), (3, .int v3), (4, .int v4)]) (hae : vp_in v3 4096) (hee : 0 ≤ v4) (hret : zwi p l env (rmD 1) s m args below meth c cz_reckon D cA h0 q .int Q (fz_reckon k v1 v2 v3 v4)) : W p l env (rmD 1) s m args below meth c H locs 0 0 Q (F0 m 0 ls []) := by
  have hx := E.1.1; have hb := E.1.2.1
  unfold fz_reckon at hret
  refine lv_iload_n hx hb dz_reckon_0 rfl (lv_at hl 2 rfl) ?_
  refine lv_iconst (v := (1 : Int32)) hx hb dz_reckon_1 (by decide) ?_
  refine lv_icmp_eq (tgt := 15) hx hb dz_reckon_2 (by decide) (fun h1 => ?_) (fun h1 => ?_)
  · rw [if_pos h1] at hret
    exact wz_reckon_15 E hC (lv_sub hl [0, 1, 2, 3, 4] rfl) (hae) (hee) (fun hh => absurd h1 hh) hret
  · rw [if_neg h1] at hret
    refine lv_iload hx hb dz_reckon_5 (lv_at hl 4 rfl) ?_
    refine kz_isGone_in_z E.1 hl.1 (by decide) (Nat.le_of_ble_eq_true rfl) dz_reckon_7 ?_
    refine lv_if_eq (tgt := 15) hx hb dz_reckon_10 (by decide) (fun h2 => ?_) (fun h2 => ?_)
    · rw [if_pos h2] at hret
      exact wz_reckon_15 E hC (lv_sub hl [0, 1, 2, 3, 4] rfl) (hae) (hee) (fun _ => vin_gone hee h2) hret
    · rw [if_neg h2] at hret
      refine lv_iconst (v := (2 : Int32)) hx hb dz_reckon_13 (by decide) ?_
      exact (zwi_out hret) _ _ _ _ dz_reckon_14 hC  (nw_i _)
set_option maxRecDepth 100000 in
set_option maxHeartbeats 4000000 in
theorem mz_reckon (l : Launch) (k : kSz) (v1 : Int32) (v2 : Int32) (v3 : Int32) (v4 : Int32) (hae : vp_in v3 4096) (hee : 0 ≤ v4) : zMet l yz_reckon cz_reckon 11 (some .int) 1 [.int v1, .int v2, .int v3, .int v4] k (some (.int (fz_reckon k v1 v2 v3 v4).1)) (fz_reckon k v1 v2 v3 v4).2  :=
  zMet.ofi (by decide) rfl (fun _ => Nat.le_of_ble_eq_true rfl) (fun D cA h0 q p env s m args below meth c ls Q E hC hl hret => wz_reckon_0 E hC (lv_sub hl [0, 1, 2, 3, 4] rfl) hae hee hret)
theorem gkz_reckon : zYw R_z 78 yz_reckon cz_reckon 11 (some .int) 4 := ⟨wc_z_reckon, wl_z_78, wi_z_reckon, ws_z_reckon, wn_z, ⟨by decide, by decide, by decide +kernel⟩, by decide⟩
theorem kz_reckon {p : Program} {l : Launch} {env : Env} {s : State} {m : MethodId} {args : Array Value} {below : List Frame} {meth : Method} {c : Code} {H : Heap} {locs : List Loc} {Q : State → Prop} {cc : ByteArray} {pc nL d : Nat} {ls : Array Slot} {rest : List Value} {D : va_G} {cA : ClassId} {h0 q : Nat} {k : kSz} {v1 : Int32} {v2 : Int32} {v3 : Int32} {v4 : Int32} (E : zE p s m args c cc nL D cA h0 q) (hls : ls.size = nL) (hC : zC D cA h0 q s.heap k H locs) (hae : vp_in v3 4096) (hee : 0 ≤ v4) (hd : 1 + 1 ≤ d) (hr : (rest.map fun v => v.category).sum ≤ 8) (hdg : decode cc pc = .ok (.invokevirtual 78, 3)) (kk : ∀ (H1 : Heap) (locs1 : List Loc), zC D cA h0 q s.heap (fz_reckon k v1 v2 v3 v4).2  H1 locs1 → W p l env (rmD d) s m args below meth c H1 locs1 0 0 Q (F0 m (pc + 3) ls (.int (fz_reckon k v1 v2 v3 v4).1 :: rest))) : W p l env (rmD d) s m args below meth c H locs 0 0 Q (F0 m pc ls (.int v4 :: .int v3 :: .int v2 :: .int v1 :: .ref h0 :: rest)) :=
  zcall (av := [.int v1, .int v2, .int v3, .int v4]) E (mz_reckon l k v1 v2 v3 v4 hae hee) gkz_reckon rfl hls hC hd hr hdg kk
/-! TenMachineModel.bits (IIII)I -/
def fz_bits_295 (k : kSz) (v2 : Int32) (v3 : Int32) (v4 : Int32) (v9 : Int64) : Int32 × kSz :=
  ((0 : Int32), (fz_give k v2 v3 v4 v9))
set_option maxRecDepth 100000 in
set_option maxHeartbeats 4000000 in
theorem wz_bits_295 {k : kSz} {v2 : Int32} {v3 : Int32} {v4 : Int32} {v9 : Int64} {H : Heap} {locs : List Loc} {ls : Array Slot} (E : zE p s m args c cz_bits 11 D cA h0 q) (hC : zC D cA h0 q s.heap k H locs) (hl : lv_has ls 11 [(0, .ref h0), (2, .int v2), (3, .int v3), (4, .int v4), (9, .long v9)]) (hae : vp_in v3 4096) (hee : 0 ≤ v4) (he : ¬ v2 = 1 → vp_in v4 4096) (hret : zwi p l env (rmD 1) s m args below meth c cz_bits D cA h0 q .int Q (fz_bits_295 k v2 v3 v4 v9)) : W p l env (rmD 1) s m args below meth c H locs 0 0 Q (F0 m 295 ls []) := by
  have hx := E.1.1; have hb := E.1.2.1
  unfold fz_bits_295 at hret
  refine lv_aload_n hx hb dz_bits_295 rfl (lv_at hl 0 rfl) ?_
  refine lv_iload_n hx hb dz_bits_296 rfl (lv_at hl 1 rfl) ?_
  refine lv_iload_n hx hb dz_bits_297 rfl (lv_at hl 2 rfl) ?_
  refine lv_iload hx hb dz_bits_298 (lv_at hl 3 rfl) ?_
  refine lv_lload hx hb dz_bits_300 (lv_at hl 4 rfl) ?_
  refine kz_give E hl.1 hC (hae) (he) (by decide) (Nat.le_of_ble_eq_true rfl) dz_bits_302 (fun H locs hC => ?_)
  refine lv_iconst (v := (0 : Int32)) hx hb dz_bits_305 (by decide) ?_
  exact (zwi_out hret) _ _ _ _ dz_bits_306 hC  (nw_i _)
def fz_bits_41 (k : kSz) (v1 : Int32) (v2 : Int32) (v3 : Int32) (v4 : Int32) (v5 : Int64) (t0 : Int64) : Int32 × kSz :=
  if v1 = 0 then
    fz_bits_295 k v2 v3 v4 (0 : Int64)
  else
    if v1 = 1 then
      fz_bits_295 k v2 v3 v4 (v5 &&& t0)
    else
      if v1 = 2 then
        fz_bits_295 k v2 v3 v4 ((v5 ^^^ (-1 : Int64)) &&& t0)
      else
        if v1 = 3 then
          fz_bits_295 k v2 v3 v4 t0
        else
          if v1 = 4 then
            fz_bits_295 k v2 v3 v4 (v5 &&& (t0 ^^^ (-1 : Int64)))
          else
            if v1 = 5 then
              fz_bits_295 k v2 v3 v4 v5
            else
              if v1 = 6 then
                fz_bits_295 k v2 v3 v4 (v5 ^^^ t0)
              else
                if v1 = 7 then
                  fz_bits_295 k v2 v3 v4 (v5 ||| t0)
                else
                  if v1 = 8 then
                    fz_bits_295 k v2 v3 v4 ((v5 ||| t0) ^^^ (-1 : Int64))
                  else
                    if v1 = 9 then
                      fz_bits_295 k v2 v3 v4 ((v5 ^^^ t0) ^^^ (-1 : Int64))
                    else
                      if v1 = 10 then
                        fz_bits_295 k v2 v3 v4 (v5 ^^^ (-1 : Int64))
                      else
                        if v1 = 11 then
                          fz_bits_295 k v2 v3 v4 ((v5 ^^^ (-1 : Int64)) ||| t0)
                        else
                          if v1 = 12 then
                            fz_bits_295 k v2 v3 v4 (t0 ^^^ (-1 : Int64))
                          else
                            if v1 = 13 then
                              fz_bits_295 k v2 v3 v4 (v5 ||| (t0 ^^^ (-1 : Int64)))
                            else
                              if v1 = 14 then
                                fz_bits_295 k v2 v3 v4 ((v5 &&& t0) ^^^ (-1 : Int64))
                              else
                                fz_bits_295 k v2 v3 v4 (-1 : Int64)
set_option maxRecDepth 100000 in
set_option maxHeartbeats 4000000 in
theorem wz_bits_41 {k : kSz} {v1 : Int32} {v2 : Int32} {v3 : Int32} {v4 : Int32} {v5 : Int64} {t0 : Int64} {H : Heap} {locs : List Loc} {ls : Array Slot} (E : zE p s m args c cz_bits 11 D cA h0 q) (hC : zC D cA h0 q s.heap k H locs) (hl : lv_has ls 11 [(0, .ref h0), (1, .int v1), (2, .int v2), (3, .int v3), (4, .int v4), (5, .long v5)]) (hae : vp_in v3 4096) (hee : 0 ≤ v4) (he : ¬ v2 = 1 → vp_in v4 4096) (hret : zwi p l env (rmD 1) s m args below meth c cz_bits D cA h0 q .int Q (fz_bits_41 k v1 v2 v3 v4 v5 t0)) : W p l env (rmD 1) s m args below meth c H locs 0 0 Q (F0 m 41 ls [.long t0]) := by
  have hx := E.1.1; have hb := E.1.2.1
  unfold fz_bits_41 at hret
  refine lv_lstore (lv' := [(7, .long t0), (0, .ref h0), (1, .int v1), (2, .int v2), (3, .int v3), (4, .int v4), (5, .long v5)]) hx hb dz_bits_41 hl (by decide) rfl (fun ls hl => ?_)
  refine lv_iload_n hx hb dz_bits_43 rfl (lv_at hl 2 rfl) ?_
  by_cases h1 : v1 = 0
  · rw [if_pos h1] at hret
    refine lv_tableIn (off := 76) (tgt := 120) hx hb dz_bits_44 (by rw [h1]; decide) (by rw [h1]; decide) (by rw [h1]; rfl) (by decide) ?_
    refine lv_lconst (v := (0 : Int64)) hx hb dz_bits_120 (by decide) ?_
    refine lv_lstore (lv' := [(9, .long (0 : Int64)), (7, .long t0), (0, .ref h0), (1, .int v1), (2, .int v2), (3, .int v3), (4, .int v4), (5, .long v5)]) hx hb dz_bits_121 hl (by decide) rfl (fun ls hl => ?_)
    refine lv_goto (tgt := 295) hx hb dz_bits_123 (by decide) ?_
    exact wz_bits_295 E hC (lv_sub hl [2, 4, 5, 6, 0] rfl) (hae) (hee) (he) hret
  · rw [if_neg h1] at hret
    by_cases h2 : v1 = 1
    · rw [if_pos h2] at hret
      refine lv_tableIn (off := 82) (tgt := 126) hx hb dz_bits_44 (by rw [h2]; decide) (by rw [h2]; decide) (by rw [h2]; rfl) (by decide) ?_
      refine lv_lload hx hb dz_bits_126 (lv_at hl 6 rfl) ?_
      refine lv_lload hx hb dz_bits_128 (lv_at hl 0 rfl) ?_
      refine lv_land hx hb dz_bits_130 ?_
      refine lv_lstore (lv' := [(9, .long (v5 &&& t0)), (7, .long t0), (0, .ref h0), (1, .int v1), (2, .int v2), (3, .int v3), (4, .int v4), (5, .long v5)]) hx hb dz_bits_131 hl (by decide) rfl (fun ls hl => ?_)
      refine lv_goto (tgt := 295) hx hb dz_bits_133 (by decide) ?_
      exact wz_bits_295 E hC (lv_sub hl [2, 4, 5, 6, 0] rfl) (hae) (hee) (he) hret
    · rw [if_neg h2] at hret
      by_cases h3 : v1 = 2
      · rw [if_pos h3] at hret
        refine lv_tableIn (off := 92) (tgt := 136) hx hb dz_bits_44 (by rw [h3]; decide) (by rw [h3]; decide) (by rw [h3]; rfl) (by decide) ?_
        refine lv_lload hx hb dz_bits_136 (lv_at hl 6 rfl) ?_
        refine lv_ldc2 hx hb E.1.2.2.2.1 (E.1.2.2.2.2 _ ct_z_145) dz_bits_138 ?_
        refine lv_lxor hx hb dz_bits_141 ?_
        refine lv_lload hx hb dz_bits_142 (lv_at hl 0 rfl) ?_
        refine lv_land hx hb dz_bits_144 ?_
        refine lv_lstore (lv' := [(9, .long ((v5 ^^^ (-1 : Int64)) &&& t0)), (7, .long t0), (0, .ref h0), (1, .int v1), (2, .int v2), (3, .int v3), (4, .int v4), (5, .long v5)]) hx hb dz_bits_145 hl (by decide) rfl (fun ls hl => ?_)
        refine lv_goto (tgt := 295) hx hb dz_bits_147 (by decide) ?_
        exact wz_bits_295 E hC (lv_sub hl [2, 4, 5, 6, 0] rfl) (hae) (hee) (he) hret
      · rw [if_neg h3] at hret
        by_cases h4 : v1 = 3
        · rw [if_pos h4] at hret
          refine lv_tableIn (off := 106) (tgt := 150) hx hb dz_bits_44 (by rw [h4]; decide) (by rw [h4]; decide) (by rw [h4]; rfl) (by decide) ?_
          refine lv_lload hx hb dz_bits_150 (lv_at hl 0 rfl) ?_
          refine lv_lstore (lv' := [(9, .long t0), (7, .long t0), (0, .ref h0), (1, .int v1), (2, .int v2), (3, .int v3), (4, .int v4), (5, .long v5)]) hx hb dz_bits_152 hl (by decide) rfl (fun ls hl => ?_)
          refine lv_goto (tgt := 295) hx hb dz_bits_154 (by decide) ?_
          exact wz_bits_295 E hC (lv_sub hl [2, 4, 5, 6, 0] rfl) (hae) (hee) (he) hret
        · rw [if_neg h4] at hret
          by_cases h5 : v1 = 4
          · rw [if_pos h5] at hret
            refine lv_tableIn (off := 113) (tgt := 157) hx hb dz_bits_44 (by rw [h5]; decide) (by rw [h5]; decide) (by rw [h5]; rfl) (by decide) ?_
            refine lv_lload hx hb dz_bits_157 (lv_at hl 6 rfl) ?_
            refine lv_lload hx hb dz_bits_159 (lv_at hl 0 rfl) ?_
            refine lv_ldc2 hx hb E.1.2.2.2.1 (E.1.2.2.2.2 _ ct_z_145) dz_bits_161 ?_
            refine lv_lxor hx hb dz_bits_164 ?_
            refine lv_land hx hb dz_bits_165 ?_
            refine lv_lstore (lv' := [(9, .long (v5 &&& (t0 ^^^ (-1 : Int64)))), (7, .long t0), (0, .ref h0), (1, .int v1), (2, .int v2), (3, .int v3), (4, .int v4), (5, .long v5)]) hx hb dz_bits_166 hl (by decide) rfl (fun ls hl => ?_)
            refine lv_goto (tgt := 295) hx hb dz_bits_168 (by decide) ?_
            exact wz_bits_295 E hC (lv_sub hl [2, 4, 5, 6, 0] rfl) (hae) (hee) (he) hret
          · rw [if_neg h5] at hret
            by_cases h6 : v1 = 5
            · rw [if_pos h6] at hret
              refine lv_tableIn (off := 127) (tgt := 171) hx hb dz_bits_44 (by rw [h6]; decide) (by rw [h6]; decide) (by rw [h6]; rfl) (by decide) ?_
              refine lv_lload hx hb dz_bits_171 (lv_at hl 6 rfl) ?_
              refine lv_lstore (lv' := [(9, .long v5), (7, .long t0), (0, .ref h0), (1, .int v1), (2, .int v2), (3, .int v3), (4, .int v4), (5, .long v5)]) hx hb dz_bits_173 hl (by decide) rfl (fun ls hl => ?_)
              refine lv_goto (tgt := 295) hx hb dz_bits_175 (by decide) ?_
              exact wz_bits_295 E hC (lv_sub hl [2, 4, 5, 6, 0] rfl) (hae) (hee) (he) hret
            · rw [if_neg h6] at hret
              by_cases h7 : v1 = 6
              · rw [if_pos h7] at hret
                refine lv_tableIn (off := 134) (tgt := 178) hx hb dz_bits_44 (by rw [h7]; decide) (by rw [h7]; decide) (by rw [h7]; rfl) (by decide) ?_
                refine lv_lload hx hb dz_bits_178 (lv_at hl 6 rfl) ?_
                refine lv_lload hx hb dz_bits_180 (lv_at hl 0 rfl) ?_
                refine lv_lxor hx hb dz_bits_182 ?_
                refine lv_lstore (lv' := [(9, .long (v5 ^^^ t0)), (7, .long t0), (0, .ref h0), (1, .int v1), (2, .int v2), (3, .int v3), (4, .int v4), (5, .long v5)]) hx hb dz_bits_183 hl (by decide) rfl (fun ls hl => ?_)
                refine lv_goto (tgt := 295) hx hb dz_bits_185 (by decide) ?_
                exact wz_bits_295 E hC (lv_sub hl [2, 4, 5, 6, 0] rfl) (hae) (hee) (he) hret
              · rw [if_neg h7] at hret
                by_cases h8 : v1 = 7
                · rw [if_pos h8] at hret
                  refine lv_tableIn (off := 144) (tgt := 188) hx hb dz_bits_44 (by rw [h8]; decide) (by rw [h8]; decide) (by rw [h8]; rfl) (by decide) ?_
                  refine lv_lload hx hb dz_bits_188 (lv_at hl 6 rfl) ?_
                  refine lv_lload hx hb dz_bits_190 (lv_at hl 0 rfl) ?_
                  refine lv_lor hx hb dz_bits_192 ?_
                  refine lv_lstore (lv' := [(9, .long (v5 ||| t0)), (7, .long t0), (0, .ref h0), (1, .int v1), (2, .int v2), (3, .int v3), (4, .int v4), (5, .long v5)]) hx hb dz_bits_193 hl (by decide) rfl (fun ls hl => ?_)
                  refine lv_goto (tgt := 295) hx hb dz_bits_195 (by decide) ?_
                  exact wz_bits_295 E hC (lv_sub hl [2, 4, 5, 6, 0] rfl) (hae) (hee) (he) hret
                · rw [if_neg h8] at hret
                  by_cases h9 : v1 = 8
                  · rw [if_pos h9] at hret
                    refine lv_tableIn (off := 154) (tgt := 198) hx hb dz_bits_44 (by rw [h9]; decide) (by rw [h9]; decide) (by rw [h9]; rfl) (by decide) ?_
                    refine lv_lload hx hb dz_bits_198 (lv_at hl 6 rfl) ?_
                    refine lv_lload hx hb dz_bits_200 (lv_at hl 0 rfl) ?_
                    refine lv_lor hx hb dz_bits_202 ?_
                    refine lv_ldc2 hx hb E.1.2.2.2.1 (E.1.2.2.2.2 _ ct_z_145) dz_bits_203 ?_
                    refine lv_lxor hx hb dz_bits_206 ?_
                    refine lv_lstore (lv' := [(9, .long ((v5 ||| t0) ^^^ (-1 : Int64))), (7, .long t0), (0, .ref h0), (1, .int v1), (2, .int v2), (3, .int v3), (4, .int v4), (5, .long v5)]) hx hb dz_bits_207 hl (by decide) rfl (fun ls hl => ?_)
                    refine lv_goto (tgt := 295) hx hb dz_bits_209 (by decide) ?_
                    exact wz_bits_295 E hC (lv_sub hl [2, 4, 5, 6, 0] rfl) (hae) (hee) (he) hret
                  · rw [if_neg h9] at hret
                    by_cases h10 : v1 = 9
                    · rw [if_pos h10] at hret
                      refine lv_tableIn (off := 168) (tgt := 212) hx hb dz_bits_44 (by rw [h10]; decide) (by rw [h10]; decide) (by rw [h10]; rfl) (by decide) ?_
                      refine lv_lload hx hb dz_bits_212 (lv_at hl 6 rfl) ?_
                      refine lv_lload hx hb dz_bits_214 (lv_at hl 0 rfl) ?_
                      refine lv_lxor hx hb dz_bits_216 ?_
                      refine lv_ldc2 hx hb E.1.2.2.2.1 (E.1.2.2.2.2 _ ct_z_145) dz_bits_217 ?_
                      refine lv_lxor hx hb dz_bits_220 ?_
                      refine lv_lstore (lv' := [(9, .long ((v5 ^^^ t0) ^^^ (-1 : Int64))), (7, .long t0), (0, .ref h0), (1, .int v1), (2, .int v2), (3, .int v3), (4, .int v4), (5, .long v5)]) hx hb dz_bits_221 hl (by decide) rfl (fun ls hl => ?_)
                      refine lv_goto (tgt := 295) hx hb dz_bits_223 (by decide) ?_
                      exact wz_bits_295 E hC (lv_sub hl [2, 4, 5, 6, 0] rfl) (hae) (hee) (he) hret
                    · rw [if_neg h10] at hret
                      by_cases h11 : v1 = 10
                      · rw [if_pos h11] at hret
                        refine lv_tableIn (off := 182) (tgt := 226) hx hb dz_bits_44 (by rw [h11]; decide) (by rw [h11]; decide) (by rw [h11]; rfl) (by decide) ?_
                        refine lv_lload hx hb dz_bits_226 (lv_at hl 6 rfl) ?_
                        refine lv_ldc2 hx hb E.1.2.2.2.1 (E.1.2.2.2.2 _ ct_z_145) dz_bits_228 ?_
                        refine lv_lxor hx hb dz_bits_231 ?_
                        refine lv_lstore (lv' := [(9, .long (v5 ^^^ (-1 : Int64))), (7, .long t0), (0, .ref h0), (1, .int v1), (2, .int v2), (3, .int v3), (4, .int v4), (5, .long v5)]) hx hb dz_bits_232 hl (by decide) rfl (fun ls hl => ?_)
                        refine lv_goto (tgt := 295) hx hb dz_bits_234 (by decide) ?_
                        exact wz_bits_295 E hC (lv_sub hl [2, 4, 5, 6, 0] rfl) (hae) (hee) (he) hret
                      · rw [if_neg h11] at hret
                        by_cases h12 : v1 = 11
                        · rw [if_pos h12] at hret
                          refine lv_tableIn (off := 193) (tgt := 237) hx hb dz_bits_44 (by rw [h12]; decide) (by rw [h12]; decide) (by rw [h12]; rfl) (by decide) ?_
                          refine lv_lload hx hb dz_bits_237 (lv_at hl 6 rfl) ?_
                          refine lv_ldc2 hx hb E.1.2.2.2.1 (E.1.2.2.2.2 _ ct_z_145) dz_bits_239 ?_
                          refine lv_lxor hx hb dz_bits_242 ?_
                          refine lv_lload hx hb dz_bits_243 (lv_at hl 0 rfl) ?_
                          refine lv_lor hx hb dz_bits_245 ?_
                          refine lv_lstore (lv' := [(9, .long ((v5 ^^^ (-1 : Int64)) ||| t0)), (7, .long t0), (0, .ref h0), (1, .int v1), (2, .int v2), (3, .int v3), (4, .int v4), (5, .long v5)]) hx hb dz_bits_246 hl (by decide) rfl (fun ls hl => ?_)
                          refine lv_goto (tgt := 295) hx hb dz_bits_248 (by decide) ?_
                          exact wz_bits_295 E hC (lv_sub hl [2, 4, 5, 6, 0] rfl) (hae) (hee) (he) hret
                        · rw [if_neg h12] at hret
                          by_cases h13 : v1 = 12
                          · rw [if_pos h13] at hret
                            refine lv_tableIn (off := 207) (tgt := 251) hx hb dz_bits_44 (by rw [h13]; decide) (by rw [h13]; decide) (by rw [h13]; rfl) (by decide) ?_
                            refine lv_lload hx hb dz_bits_251 (lv_at hl 0 rfl) ?_
                            refine lv_ldc2 hx hb E.1.2.2.2.1 (E.1.2.2.2.2 _ ct_z_145) dz_bits_253 ?_
                            refine lv_lxor hx hb dz_bits_256 ?_
                            refine lv_lstore (lv' := [(9, .long (t0 ^^^ (-1 : Int64))), (7, .long t0), (0, .ref h0), (1, .int v1), (2, .int v2), (3, .int v3), (4, .int v4), (5, .long v5)]) hx hb dz_bits_257 hl (by decide) rfl (fun ls hl => ?_)
                            refine lv_goto (tgt := 295) hx hb dz_bits_259 (by decide) ?_
                            exact wz_bits_295 E hC (lv_sub hl [2, 4, 5, 6, 0] rfl) (hae) (hee) (he) hret
                          · rw [if_neg h13] at hret
                            by_cases h14 : v1 = 13
                            · rw [if_pos h14] at hret
                              refine lv_tableIn (off := 218) (tgt := 262) hx hb dz_bits_44 (by rw [h14]; decide) (by rw [h14]; decide) (by rw [h14]; rfl) (by decide) ?_
                              refine lv_lload hx hb dz_bits_262 (lv_at hl 6 rfl) ?_
                              refine lv_lload hx hb dz_bits_264 (lv_at hl 0 rfl) ?_
                              refine lv_ldc2 hx hb E.1.2.2.2.1 (E.1.2.2.2.2 _ ct_z_145) dz_bits_266 ?_
                              refine lv_lxor hx hb dz_bits_269 ?_
                              refine lv_lor hx hb dz_bits_270 ?_
                              refine lv_lstore (lv' := [(9, .long (v5 ||| (t0 ^^^ (-1 : Int64)))), (7, .long t0), (0, .ref h0), (1, .int v1), (2, .int v2), (3, .int v3), (4, .int v4), (5, .long v5)]) hx hb dz_bits_271 hl (by decide) rfl (fun ls hl => ?_)
                              refine lv_goto (tgt := 295) hx hb dz_bits_273 (by decide) ?_
                              exact wz_bits_295 E hC (lv_sub hl [2, 4, 5, 6, 0] rfl) (hae) (hee) (he) hret
                            · rw [if_neg h14] at hret
                              by_cases h15 : v1 = 14
                              · rw [if_pos h15] at hret
                                refine lv_tableIn (off := 232) (tgt := 276) hx hb dz_bits_44 (by rw [h15]; decide) (by rw [h15]; decide) (by rw [h15]; rfl) (by decide) ?_
                                refine lv_lload hx hb dz_bits_276 (lv_at hl 6 rfl) ?_
                                refine lv_lload hx hb dz_bits_278 (lv_at hl 0 rfl) ?_
                                refine lv_land hx hb dz_bits_280 ?_
                                refine lv_ldc2 hx hb E.1.2.2.2.1 (E.1.2.2.2.2 _ ct_z_145) dz_bits_281 ?_
                                refine lv_lxor hx hb dz_bits_284 ?_
                                refine lv_lstore (lv' := [(9, .long ((v5 &&& t0) ^^^ (-1 : Int64))), (7, .long t0), (0, .ref h0), (1, .int v1), (2, .int v2), (3, .int v3), (4, .int v4), (5, .long v5)]) hx hb dz_bits_285 hl (by decide) rfl (fun ls hl => ?_)
                                refine lv_goto (tgt := 295) hx hb dz_bits_287 (by decide) ?_
                                exact wz_bits_295 E hC (lv_sub hl [2, 4, 5, 6, 0] rfl) (hae) (hee) (he) hret
                              · rw [if_neg h15] at hret
                                refine lv_tableOut (tgt := 290) hx hb dz_bits_44 (by have := lv_neT h1 (show (0 : Int32).toInt = 0 from rfl); have := lv_neT h2 (show (1 : Int32).toInt = 1 from rfl); have := lv_neT h3 (show (2 : Int32).toInt = 2 from rfl); have := lv_neT h4 (show (3 : Int32).toInt = 3 from rfl); have := lv_neT h5 (show (4 : Int32).toInt = 4 from rfl); have := lv_neT h6 (show (5 : Int32).toInt = 5 from rfl); have := lv_neT h7 (show (6 : Int32).toInt = 6 from rfl); have := lv_neT h8 (show (7 : Int32).toInt = 7 from rfl); have := lv_neT h9 (show (8 : Int32).toInt = 8 from rfl); have := lv_neT h10 (show (9 : Int32).toInt = 9 from rfl); have := lv_neT h11 (show (10 : Int32).toInt = 10 from rfl); have := lv_neT h12 (show (11 : Int32).toInt = 11 from rfl); have := lv_neT h13 (show (12 : Int32).toInt = 12 from rfl); have := lv_neT h14 (show (13 : Int32).toInt = 13 from rfl); have := lv_neT h15 (show (14 : Int32).toInt = 14 from rfl); omega) (by decide) ?_
                                refine lv_ldc2 hx hb E.1.2.2.2.1 (E.1.2.2.2.2 _ ct_z_145) dz_bits_290 ?_
                                refine lv_lstore (lv' := [(9, .long (-1 : Int64)), (7, .long t0), (0, .ref h0), (1, .int v1), (2, .int v2), (3, .int v3), (4, .int v4), (5, .long v5)]) hx hb dz_bits_293 hl (by decide) rfl (fun ls hl => ?_)
                                exact wz_bits_295 E hC (lv_sub hl [2, 4, 5, 6, 0] rfl) (hae) (hee) (he) hret
def fz_bits_15 (k : kSz) (v1 : Int32) (v2 : Int32) (v3 : Int32) (v4 : Int32) : Int32 × kSz :=
  if v2 = (1 : Int32) then
    fz_bits_41 k v1 v2 v3 v4 (ldz k v3) v4.toInt64
  else
    fz_bits_41 k v1 v2 v3 v4 (ldz k v3) (ldz k v4)
set_option maxRecDepth 100000 in
set_option maxHeartbeats 4000000 in
theorem wz_bits_15 {k : kSz} {v1 : Int32} {v2 : Int32} {v3 : Int32} {v4 : Int32} {H : Heap} {locs : List Loc} {ls : Array Slot} (E : zE p s m args c cz_bits 11 D cA h0 q) (hC : zC D cA h0 q s.heap k H locs) (hl : lv_has ls 11 [(0, .ref h0), (1, .int v1), (2, .int v2), (3, .int v3), (4, .int v4)]) (hae : vp_in v3 4096) (hee : 0 ≤ v4) (he : ¬ v2 = 1 → vp_in v4 4096) (hret : zwi p l env (rmD 1) s m args below meth c cz_bits D cA h0 q .int Q (fz_bits_15 k v1 v2 v3 v4)) : W p l env (rmD 1) s m args below meth c H locs 0 0 Q (F0 m 15 ls []) := by
  have hx := E.1.1; have hb := E.1.2.1
  unfold fz_bits_15 at hret
  refine lv_aload_n hx hb dz_bits_15 rfl (lv_at hl 0 rfl) ?_
  refine zg_words E hC dz_bits_16 ?_
  refine lv_iload_n hx hb dz_bits_19 rfl (lv_at hl 3 rfl) ?_
  refine zld E hC (hae) dz_bits_20 ?_
  refine lv_lstore (lv' := [(5, .long (ldz k v3)), (0, .ref h0), (1, .int v1), (2, .int v2), (3, .int v3), (4, .int v4)]) hx hb dz_bits_21 hl (by decide) rfl (fun ls hl => ?_)
  refine lv_iload_n hx hb dz_bits_23 rfl (lv_at hl 3 rfl) ?_
  refine lv_iconst (v := (1 : Int32)) hx hb dz_bits_24 (by decide) ?_
  refine lv_icmp_ne (tgt := 34) hx hb dz_bits_25 (by decide) (fun h1 => ?_) (fun h1 => ?_)
  · rw [if_neg h1] at hret
    refine lv_aload_n hx hb dz_bits_34 rfl (lv_at hl 1 rfl) ?_
    refine zg_words E hC dz_bits_35 ?_
    refine lv_iload hx hb dz_bits_38 (lv_at hl 5 rfl) ?_
    refine zld E hC (he h1) dz_bits_40 ?_
    exact wz_bits_41 E hC (lv_sub hl [1, 2, 3, 4, 5, 0] rfl) (hae) (hee) (he) hret
  · rw [if_pos h1] at hret
    refine lv_iload hx hb dz_bits_28 (lv_at hl 5 rfl) ?_
    refine lv_i2l hx hb dz_bits_30 rfl ?_
    refine lv_goto (tgt := 41) hx hb dz_bits_31 (by decide) ?_
    exact wz_bits_41 E hC (lv_sub hl [1, 2, 3, 4, 5, 0] rfl) (hae) (hee) (he) hret
def fz_bits (k : kSz) (v1 : Int32) (v2 : Int32) (v3 : Int32) (v4 : Int32) : Int32 × kSz :=
  if v2 = (1 : Int32) then
    fz_bits_15 k v1 v2 v3 v4
  else
    if (fz_isGone v4) = 0 then
      fz_bits_15 k v1 v2 v3 v4
    else
      ((2 : Int32), k)
set_option maxRecDepth 100000 in
set_option maxHeartbeats 4000000 in
theorem wz_bits_0 {k : kSz} {v1 : Int32} {v2 : Int32} {v3 : Int32} {v4 : Int32} {H : Heap} {locs : List Loc} {ls : Array Slot} (E : zE p s m args c cz_bits 11 D cA h0 q) (hC : zC D cA h0 q s.heap k H locs) (hl : lv_has ls 11 [(0, .ref h0), (1, .int v1), (2, .int v2), (3, .int v3), (4, .int v4)]) (hae : vp_in v3 4096) (hee : 0 ≤ v4) (hret : zwi p l env (rmD 1) s m args below meth c cz_bits D cA h0 q .int Q (fz_bits k v1 v2 v3 v4)) : W p l env (rmD 1) s m args below meth c H locs 0 0 Q (F0 m 0 ls []) := by
  have hx := E.1.1; have hb := E.1.2.1
  unfold fz_bits at hret
  refine lv_iload_n hx hb dz_bits_0 rfl (lv_at hl 2 rfl) ?_
  refine lv_iconst (v := (1 : Int32)) hx hb dz_bits_1 (by decide) ?_
  refine lv_icmp_eq (tgt := 15) hx hb dz_bits_2 (by decide) (fun h1 => ?_) (fun h1 => ?_)
  · rw [if_pos h1] at hret
    exact wz_bits_15 E hC (lv_sub hl [0, 1, 2, 3, 4] rfl) (hae) (hee) (fun hh => absurd h1 hh) hret
  · rw [if_neg h1] at hret
    refine lv_iload hx hb dz_bits_5 (lv_at hl 4 rfl) ?_
    refine kz_isGone_in_z E.1 hl.1 (by decide) (Nat.le_of_ble_eq_true rfl) dz_bits_7 ?_
    refine lv_if_eq (tgt := 15) hx hb dz_bits_10 (by decide) (fun h2 => ?_) (fun h2 => ?_)
    · rw [if_pos h2] at hret
      exact wz_bits_15 E hC (lv_sub hl [0, 1, 2, 3, 4] rfl) (hae) (hee) (fun _ => vin_gone hee h2) hret
    · rw [if_neg h2] at hret
      refine lv_iconst (v := (2 : Int32)) hx hb dz_bits_13 (by decide) ?_
      exact (zwi_out hret) _ _ _ _ dz_bits_14 hC  (nw_i _)
set_option maxRecDepth 100000 in
set_option maxHeartbeats 4000000 in
theorem mz_bits (l : Launch) (k : kSz) (v1 : Int32) (v2 : Int32) (v3 : Int32) (v4 : Int32) (hae : vp_in v3 4096) (hee : 0 ≤ v4) : zMet l yz_bits cz_bits 11 (some .int) 1 [.int v1, .int v2, .int v3, .int v4] k (some (.int (fz_bits k v1 v2 v3 v4).1)) (fz_bits k v1 v2 v3 v4).2  :=
  zMet.ofi (by decide) rfl (fun _ => Nat.le_of_ble_eq_true rfl) (fun D cA h0 q p env s m args below meth c ls Q E hC hl hret => wz_bits_0 E hC (lv_sub hl [0, 1, 2, 3, 4] rfl) hae hee hret)
theorem gkz_bits : zYw R_z 85 yz_bits cz_bits 11 (some .int) 4 := ⟨wc_z_bits, wl_z_85, wi_z_bits, ws_z_bits, wn_z, ⟨by decide, by decide, by decide +kernel⟩, by decide⟩
theorem kz_bits {p : Program} {l : Launch} {env : Env} {s : State} {m : MethodId} {args : Array Value} {below : List Frame} {meth : Method} {c : Code} {H : Heap} {locs : List Loc} {Q : State → Prop} {cc : ByteArray} {pc nL d : Nat} {ls : Array Slot} {rest : List Value} {D : va_G} {cA : ClassId} {h0 q : Nat} {k : kSz} {v1 : Int32} {v2 : Int32} {v3 : Int32} {v4 : Int32} (E : zE p s m args c cc nL D cA h0 q) (hls : ls.size = nL) (hC : zC D cA h0 q s.heap k H locs) (hae : vp_in v3 4096) (hee : 0 ≤ v4) (hd : 1 + 1 ≤ d) (hr : (rest.map fun v => v.category).sum ≤ 8) (hdg : decode cc pc = .ok (.invokevirtual 85, 3)) (kk : ∀ (H1 : Heap) (locs1 : List Loc), zC D cA h0 q s.heap (fz_bits k v1 v2 v3 v4).2  H1 locs1 → W p l env (rmD d) s m args below meth c H1 locs1 0 0 Q (F0 m (pc + 3) ls (.int (fz_bits k v1 v2 v3 v4).1 :: rest))) : W p l env (rmD d) s m args below meth c H locs 0 0 Q (F0 m pc ls (.int v4 :: .int v3 :: .int v2 :: .int v1 :: .ref h0 :: rest)) :=
  zcall (av := [.int v1, .int v2, .int v3, .int v4]) E (mz_bits l k v1 v2 v3 v4 hae hee) gkz_bits rfl hls hC hd hr hdg kk
end TTV
