section TTV
variable {p : Program} {l : Launch} {env : Env} {s : State} {m : MethodId} {args : Array Value} {below : List Frame} {meth : Method} {c : Code} {Q : State → Prop} {D : va_G} {cA : ClassId} {h0 q : Nat}
/-! TenMachineModel.odd (III)I -/
def fz_odd_125 : Nat → kSz → Int32 → Int32 → Int32 → Int32 → Int32 × kSz
  | 0, k, v6, v7, v8, v9 => (0, k)
  | n + 1, k, v6, v7, v8, v9 =>
    if v8 < v9 then
      ((0 : Int32), k)
    else
      fz_odd_125 n (stz k v9 (ldz k ((v6 + v9) - v7))) v6 v7 v8 (v9 + 1)
set_option maxRecDepth 100000 in
set_option maxHeartbeats 4000000 in
theorem wz_odd_125 (E : zE p s m args c cz_odd 10 D cA h0 q) : ∀ (n : Nat) (k : kSz) (v6 : Int32) (v7 : Int32) (v8 : Int32) (v9 : Int32) (H : Heap) (locs : List Loc) (ls : Array Slot), zC D cA h0 q s.heap k H locs → lv_has ls 10 [(0, .ref h0), (6, .int v6), (7, .int v7), (8, .int v8), (9, .int v9)] → (zbl v6 v7 v8 v9) → (v8.toInt + 1 - v9.toInt).toNat < n → zwi p l env (rmD 2) s m args below meth c cz_odd D cA h0 q .int Q (fz_odd_125 n k v6 v7 v8 v9) → W p l env (rmD 2) s m args below meth c H locs 0 0 Q (F0 m 125 ls []) := by
  have hx := E.1.1; have hb := E.1.2.1
  intro n
  induction n with
  | zero => intro k v6 v7 v8 v9 H locs ls hC hl hbl hmu hret; exact absurd hmu (Nat.not_lt_zero _)
  | succ n ih =>
    intro k v6 v7 v8 v9 H locs ls hC hl hbl hmu hret
    rw [fz_odd_125] at hret
    refine lv_iload hx hb dz_odd_125 (lv_at hl 4 rfl) ?_
    refine lv_iload hx hb dz_odd_127 (lv_at hl 3 rfl) ?_
    refine lv_icmp_gt (tgt := 158) hx hb dz_odd_129 (by decide) (fun h1 => ?_) (fun h1 => ?_)
    · rw [if_pos h1] at hret
      refine lv_iconst (v := (0 : Int32)) hx hb dz_odd_158 (by decide) ?_
      exact (zwi_out hret) _ _ _ _ dz_odd_159 hC  (nw_i _)
    · rw [if_neg h1] at hret
      refine lv_aload_n hx hb dz_odd_132 rfl (lv_at hl 0 rfl) ?_
      refine zg_words E hC dz_odd_133 ?_
      refine lv_iload hx hb dz_odd_136 (lv_at hl 4 rfl) ?_
      refine lv_aload_n hx hb dz_odd_138 rfl (lv_at hl 0 rfl) ?_
      refine zg_words E hC dz_odd_139 ?_
      refine lv_iload hx hb dz_odd_142 (lv_at hl 1 rfl) ?_
      refine lv_iload hx hb dz_odd_144 (lv_at hl 4 rfl) ?_
      refine lv_iadd hx hb dz_odd_146 ?_
      refine lv_iload hx hb dz_odd_147 (lv_at hl 2 rfl) ?_
      refine lv_isub hx hb dz_odd_149 ?_
      refine zld E hC (by first | exact hae | exact vin_gone (by assumption) (by assumption) | exact zbl_in1 hbl (by assumption) | exact zbl_in2 hbl (by assumption)) dz_odd_150 ?_
      refine zst E hC (by first | exact hae | exact vin_gone (by assumption) (by assumption) | exact zbl_in1 hbl (by assumption) | exact zbl_in2 hbl (by assumption)) dz_odd_151 (fun H locs hC => ?_)
      refine lv_iinc (v := (v9 + 1)) (lv' := [(9, .int (v9 + 1)), (0, .ref h0), (6, .int v6), (7, .int v7), (8, .int v8)]) hx hb dz_odd_152 hl (k := 4) rfl (by rfl) (by decide) rfl (fun ls hl => ?_)
      refine lv_goto (tgt := 125) hx hb dz_odd_155 (by decide) ?_
      exact ih _ _ _ _ _ _ _ _ hC (lv_sub hl [1, 2, 3, 4, 0] rfl) (zbl_back hbl (by assumption)) (mu_up1 (zbl_lt hbl) (by assumption) hmu) hret
def fz_odd_203 (k : kSz) (v3 : Int32) (t0 : Int32) (t1 : Int32) : Int32 × kSz :=
  if t0 = t1 then
    ((0 : Int32), vz_bh k v3)
  else
    ((0 : Int32), k)
set_option maxRecDepth 100000 in
set_option maxHeartbeats 4000000 in
theorem wz_odd_203 {k : kSz} {v3 : Int32} {t0 : Int32} {t1 : Int32} {H : Heap} {locs : List Loc} {ls : Array Slot} (E : zE p s m args c cz_odd 10 D cA h0 q) (hC : zC D cA h0 q s.heap k H locs) (hl : lv_has ls 10 [(0, .ref h0), (3, .int v3)]) (hee : 0 ≤ v3) (hret : zwi p l env (rmD 2) s m args below meth c cz_odd D cA h0 q .int Q (fz_odd_203 k v3 t0 t1)) : W p l env (rmD 2) s m args below meth c H locs 0 0 Q (F0 m 203 ls [.int t1, .int t0]) := by
  have hx := E.1.1; have hb := E.1.2.1
  unfold fz_odd_203 at hret
  refine lv_icmp_ne (tgt := 211) hx hb dz_odd_203 (by decide) (fun h1 => ?_) (fun h1 => ?_)
  · rw [if_neg h1] at hret
    refine lv_iconst (v := (0 : Int32)) hx hb dz_odd_211 (by decide) ?_
    exact (zwi_out hret) _ _ _ _ dz_odd_212 hC  (nw_i _)
  · rw [if_pos h1] at hret
    refine lv_aload_n hx hb dz_odd_206 rfl (lv_at hl 0 rfl) ?_
    refine lv_iload_n hx hb dz_odd_207 rfl (lv_at hl 1 rfl) ?_
    refine zp_behind E hC dz_odd_208 (fun H locs hC => ?_)
    refine lv_iconst (v := (0 : Int32)) hx hb dz_odd_211 (by decide) ?_
    exact (zwi_out hret) _ _ _ _ dz_odd_212 hC  (nw_i _)
def fz_odd_191 (k : kSz) (v1 : Int32) (v3 : Int32) (t0 : Int32) : Int32 × kSz :=
  if v1 = (170 : Int32) then
    fz_odd_203 k v3 t0 (1 : Int32)
  else
    fz_odd_203 k v3 t0 (0 : Int32)
set_option maxRecDepth 100000 in
set_option maxHeartbeats 4000000 in
theorem wz_odd_191 {k : kSz} {v1 : Int32} {v3 : Int32} {t0 : Int32} {H : Heap} {locs : List Loc} {ls : Array Slot} (E : zE p s m args c cz_odd 10 D cA h0 q) (hC : zC D cA h0 q s.heap k H locs) (hl : lv_has ls 10 [(0, .ref h0), (1, .int v1), (3, .int v3)]) (hee : 0 ≤ v3) (hret : zwi p l env (rmD 2) s m args below meth c cz_odd D cA h0 q .int Q (fz_odd_191 k v1 v3 t0)) : W p l env (rmD 2) s m args below meth c H locs 0 0 Q (F0 m 191 ls [.int t0]) := by
  have hx := E.1.1; have hb := E.1.2.1
  unfold fz_odd_191 at hret
  refine lv_iload_n hx hb dz_odd_191 rfl (lv_at hl 1 rfl) ?_
  refine lv_sipush (v := (170 : Int32)) hx hb dz_odd_192 (by decide) ?_
  refine lv_icmp_ne (tgt := 202) hx hb dz_odd_195 (by decide) (fun h1 => ?_) (fun h1 => ?_)
  · rw [if_neg h1] at hret
    refine lv_iconst (v := (0 : Int32)) hx hb dz_odd_202 (by decide) ?_
    exact wz_odd_203 E hC (lv_sub hl [0, 2] rfl) (hee) hret
  · rw [if_pos h1] at hret
    refine lv_iconst (v := (1 : Int32)) hx hb dz_odd_198 (by decide) ?_
    refine lv_goto (tgt := 203) hx hb dz_odd_199 (by decide) ?_
    exact wz_odd_203 E hC (lv_sub hl [0, 2] rfl) (hee) hret
def fz_odd_160 (k : kSz) (v1 : Int32) (v2 : Int32) (v3 : Int32) (v4 : Int64) : Int32 × kSz :=
  if (fz_signed (ldz (stz k v2 (fz_both v4 (1 : Int32))) v2)) < (0 : Int64) then
    fz_odd_191 (stz k v2 (fz_both v4 (1 : Int32))) v1 v3 (0 : Int32)
  else
    fz_odd_191 (stz k v2 (fz_both v4 (1 : Int32))) v1 v3 (1 : Int32)
set_option maxRecDepth 100000 in
set_option maxHeartbeats 4000000 in
theorem wz_odd_160 {k : kSz} {v1 : Int32} {v2 : Int32} {v3 : Int32} {v4 : Int64} {H : Heap} {locs : List Loc} {ls : Array Slot} (E : zE p s m args c cz_odd 10 D cA h0 q) (hC : zC D cA h0 q s.heap k H locs) (hl : lv_has ls 10 [(0, .ref h0), (1, .int v1), (2, .int v2), (3, .int v3), (4, .long v4)]) (hae : vp_in v2 4096) (hee : 0 ≤ v3) (hret : zwi p l env (rmD 2) s m args below meth c cz_odd D cA h0 q .int Q (fz_odd_160 k v1 v2 v3 v4)) : W p l env (rmD 2) s m args below meth c H locs 0 0 Q (F0 m 160 ls []) := by
  have hx := E.1.1; have hb := E.1.2.1
  unfold fz_odd_160 at hret
  refine lv_aload_n hx hb dz_odd_160 rfl (lv_at hl 0 rfl) ?_
  refine zg_words E hC dz_odd_161 ?_
  refine lv_iload_n hx hb dz_odd_164 rfl (lv_at hl 2 rfl) ?_
  refine lv_lload hx hb dz_odd_165 (lv_at hl 4 rfl) ?_
  refine lv_iconst (v := (1 : Int32)) hx hb dz_odd_167 (by decide) ?_
  refine kz_both_in_z E.1 hl.1 (by decide) (Nat.le_of_ble_eq_true rfl) dz_odd_168 ?_
  refine zst E hC (hae) dz_odd_171 (fun H locs hC => ?_)
  refine lv_aload_n hx hb dz_odd_172 rfl (lv_at hl 0 rfl) ?_
  refine zg_words E hC dz_odd_173 ?_
  refine lv_iload_n hx hb dz_odd_176 rfl (lv_at hl 2 rfl) ?_
  refine zld E hC (hae) dz_odd_177 ?_
  refine kz_signed_in_z E.1 hl.1 (by decide) (Nat.le_of_ble_eq_true rfl) dz_odd_178 ?_
  refine lv_lconst (v := (0 : Int64)) hx hb dz_odd_181 (by decide) ?_
  refine tt_lcmp_lt (tgt := 190) hx hb dz_odd_182 dz_odd_183 (by decide) (fun h1 => ?_) (fun h1 => ?_)
  · rw [if_pos h1] at hret
    refine lv_iconst (v := (0 : Int32)) hx hb dz_odd_190 (by decide) ?_
    exact wz_odd_191 E hC (lv_sub hl [0, 1, 3] rfl) (hee) hret
  · rw [if_neg h1] at hret
    refine lv_iconst (v := (1 : Int32)) hx hb dz_odd_186 (by decide) ?_
    refine lv_goto (tgt := 191) hx hb dz_odd_187 (by decide) ?_
    exact wz_odd_191 E hC (lv_sub hl [0, 1, 3] rfl) (hee) hret
def fz_odd (k : kSz) (v1 : Int32) (v2 : Int32) (v3 : Int32) : Int32 × kSz :=
  if v1 = 168 then
    if (fz_isGone v3) = 0 then
      ((0 : Int32), stz (stz k v2 (ldz k v3)) v3 (ldz k v2))
    else
      ((2 : Int32), k)
  else
    if v1 = 169 then
      if (4096 : Int32) ≤ (fjm_max (fz_right (ldz k v2)) v3) then
        ((2 : Int32), k)
      else
        if (((fz_left (ldz k v2)) + (fjm_max (fz_right (ldz k v2)) v3)) - (fz_right (ldz k v2))) < (4096 : Int32) then
          fz_odd_125 4097 k (fz_left (ldz k v2)) (fz_right (ldz k v2)) (fjm_max (fz_right (ldz k v2)) v3) (fz_right (ldz k v2))
        else
          ((2 : Int32), k)
    else
      if v1 = 170 then
        fz_odd_160 k v1 v2 v3 (ldz k v2)
      else
        if v1 = 171 then
          fz_odd_160 k v1 v2 v3 (ldz k v2)
        else
          if v1 = 172 then
            ((0 : Int32), vz_bh k v3)
          else
            if (v2 &&& (8 : Int32)) = 0 then
              ((0 : Int32), k)
            else
              if (uz_ov k) = 0 then
                ((0 : Int32), k)
              else
                ((0 : Int32), vz_bh (vz_ov k (0 : Int32)) v3)
set_option maxRecDepth 100000 in
set_option maxHeartbeats 4000000 in
theorem wz_odd_0 {k : kSz} {v1 : Int32} {v2 : Int32} {v3 : Int32} {H : Heap} {locs : List Loc} {ls : Array Slot} (E : zE p s m args c cz_odd 10 D cA h0 q) (hC : zC D cA h0 q s.heap k H locs) (hl : lv_has ls 10 [(0, .ref h0), (1, .int v1), (2, .int v2), (3, .int v3)]) (hae : vp_in v2 4096) (hee : 0 ≤ v3) (hret : zwi p l env (rmD 2) s m args below meth c cz_odd D cA h0 q .int Q (fz_odd k v1 v2 v3)) : W p l env (rmD 2) s m args below meth c H locs 0 0 Q (F0 m 0 ls []) := by
  have hx := E.1.1; have hb := E.1.2.1
  unfold fz_odd at hret
  refine lv_aload_n hx hb dz_odd_0 rfl (lv_at hl 0 rfl) ?_
  refine zg_words E hC dz_odd_1 ?_
  refine lv_iload_n hx hb dz_odd_4 rfl (lv_at hl 2 rfl) ?_
  refine zld E hC (hae) dz_odd_5 ?_
  refine lv_lstore (lv' := [(4, .long (ldz k v2)), (0, .ref h0), (1, .int v1), (2, .int v2), (3, .int v3)]) hx hb dz_odd_6 hl (by decide) rfl (fun ls hl => ?_)
  refine lv_iload_n hx hb dz_odd_8 rfl (lv_at hl 2 rfl) ?_
  by_cases h1 : v1 = 168
  · rw [if_pos h1] at hret
    refine lv_tableIn (off := 35) (tgt := 44) hx hb dz_odd_9 (by rw [h1]; decide) (by rw [h1]; decide) (by rw [h1]; rfl) (by decide) ?_
    refine lv_iload_n hx hb dz_odd_44 rfl (lv_at hl 4 rfl) ?_
    refine kz_isGone_in_z E.1 hl.1 (by decide) (Nat.le_of_ble_eq_true rfl) dz_odd_45 ?_
    refine lv_if_eq (tgt := 53) hx hb dz_odd_48 (by decide) (fun h2 => ?_) (fun h2 => ?_)
    · rw [if_pos h2] at hret
      refine lv_aload_n hx hb dz_odd_53 rfl (lv_at hl 1 rfl) ?_
      refine zg_words E hC dz_odd_54 ?_
      refine lv_iload_n hx hb dz_odd_57 rfl (lv_at hl 3 rfl) ?_
      refine lv_aload_n hx hb dz_odd_58 rfl (lv_at hl 1 rfl) ?_
      refine zg_words E hC dz_odd_59 ?_
      refine lv_iload_n hx hb dz_odd_62 rfl (lv_at hl 4 rfl) ?_
      refine zld E hC (vin_gone (hee) h2) dz_odd_63 ?_
      refine zst E hC (hae) dz_odd_64 (fun H locs hC => ?_)
      refine lv_aload_n hx hb dz_odd_65 rfl (lv_at hl 1 rfl) ?_
      refine zg_words E hC dz_odd_66 ?_
      refine lv_iload_n hx hb dz_odd_69 rfl (lv_at hl 4 rfl) ?_
      refine lv_lload hx hb dz_odd_70 (lv_at hl 0 rfl) ?_
      refine zst E hC (vin_gone (hee) h2) dz_odd_72 (fun H locs hC => ?_)
      refine lv_iconst (v := (0 : Int32)) hx hb dz_odd_73 (by decide) ?_
      exact (zwi_out hret) _ _ _ _ dz_odd_74 hC  (nw_i _)
    · rw [if_neg h2] at hret
      refine lv_iconst (v := (2 : Int32)) hx hb dz_odd_51 (by decide) ?_
      exact (zwi_out hret) _ _ _ _ dz_odd_52 hC  (nw_i _)
  · rw [if_neg h1] at hret
    by_cases h3 : v1 = 169
    · rw [if_pos h3] at hret
      refine lv_tableIn (off := 66) (tgt := 75) hx hb dz_odd_9 (by rw [h3]; decide) (by rw [h3]; decide) (by rw [h3]; rfl) (by decide) ?_
      refine lv_lload hx hb dz_odd_75 (lv_at hl 0 rfl) ?_
      refine kz_left_in_z E.1 hl.1 (by decide) (Nat.le_of_ble_eq_true rfl) dz_odd_77 ?_
      refine lv_istore (lv' := [(6, .int (fz_left (ldz k v2))), (4, .long (ldz k v2)), (0, .ref h0), (1, .int v1), (2, .int v2), (3, .int v3)]) hx hb dz_odd_80 hl (by decide) rfl (fun ls hl => ?_)
      refine lv_lload hx hb dz_odd_82 (lv_at hl 1 rfl) ?_
      refine kz_right_in_z E.1 hl.1 (by decide) (Nat.le_of_ble_eq_true rfl) dz_odd_84 ?_
      refine lv_istore (lv' := [(7, .int (fz_right (ldz k v2))), (6, .int (fz_left (ldz k v2))), (4, .long (ldz k v2)), (0, .ref h0), (1, .int v1), (2, .int v2), (3, .int v3)]) hx hb dz_odd_87 hl (by decide) rfl (fun ls hl => ?_)
      refine lv_iload hx hb dz_odd_89 (lv_at hl 0 rfl) ?_
      refine lv_iload_n hx hb dz_odd_91 rfl (lv_at hl 6 rfl) ?_
      refine kjm_max_in_z E.1 hl.1 (by decide) (Nat.le_of_ble_eq_true rfl) dz_odd_92 ?_
      refine lv_istore (lv' := [(8, .int (fjm_max (fz_right (ldz k v2)) v3)), (7, .int (fz_right (ldz k v2))), (6, .int (fz_left (ldz k v2))), (4, .long (ldz k v2)), (0, .ref h0), (1, .int v1), (2, .int v2), (3, .int v3)]) hx hb dz_odd_95 hl (by decide) rfl (fun ls hl => ?_)
      refine lv_iload hx hb dz_odd_97 (lv_at hl 0 rfl) ?_
      refine lv_sipush (v := (4096 : Int32)) hx hb dz_odd_99 (by decide) ?_
      refine lv_icmp_ge (tgt := 119) hx hb dz_odd_102 (by decide) (fun h4 => ?_) (fun h4 => ?_)
      · rw [if_pos h4] at hret
        refine lv_iconst (v := (2 : Int32)) hx hb dz_odd_119 (by decide) ?_
        exact (zwi_out hret) _ _ _ _ dz_odd_120 hC  (nw_i _)
      · rw [if_neg h4] at hret
        refine lv_iload hx hb dz_odd_105 (lv_at hl 2 rfl) ?_
        refine lv_iload hx hb dz_odd_107 (lv_at hl 0 rfl) ?_
        refine lv_iadd hx hb dz_odd_109 ?_
        refine lv_iload hx hb dz_odd_110 (lv_at hl 1 rfl) ?_
        refine lv_isub hx hb dz_odd_112 ?_
        refine lv_sipush (v := (4096 : Int32)) hx hb dz_odd_113 (by decide) ?_
        refine lv_icmp_lt (tgt := 121) hx hb dz_odd_116 (by decide) (fun h5 => ?_) (fun h5 => ?_)
        · rw [if_pos h5] at hret
          refine lv_iload hx hb dz_odd_121 (lv_at hl 1 rfl) ?_
          refine lv_istore (lv' := [(9, .int (fz_right (ldz k v2))), (8, .int (fjm_max (fz_right (ldz k v2)) v3)), (7, .int (fz_right (ldz k v2))), (6, .int (fz_left (ldz k v2))), (4, .long (ldz k v2)), (0, .ref h0), (1, .int v1), (2, .int v2), (3, .int v3)]) hx hb dz_odd_123 hl (by decide) rfl (fun ls hl => ?_)
          exact wz_odd_125 E 4097 _ _ _ _ _ _ _ _ hC (lv_sub hl [5, 3, 2, 1, 0] rfl) (zbl_enter h4 h5) (zbl_mu h4 h5) hret
        · rw [if_neg h5] at hret
          refine lv_iconst (v := (2 : Int32)) hx hb dz_odd_119 (by decide) ?_
          exact (zwi_out hret) _ _ _ _ dz_odd_120 hC  (nw_i _)
    · rw [if_neg h3] at hret
      by_cases h6 : v1 = 170
      · rw [if_pos h6] at hret
        refine lv_tableIn (off := 151) (tgt := 160) hx hb dz_odd_9 (by rw [h6]; decide) (by rw [h6]; decide) (by rw [h6]; rfl) (by decide) ?_
        exact wz_odd_160 E hC (lv_sub hl [1, 2, 3, 4, 0] rfl) (hae) (hee) hret
      · rw [if_neg h6] at hret
        by_cases h7 : v1 = 171
        · rw [if_pos h7] at hret
          refine lv_tableIn (off := 151) (tgt := 160) hx hb dz_odd_9 (by rw [h7]; decide) (by rw [h7]; decide) (by rw [h7]; rfl) (by decide) ?_
          exact wz_odd_160 E hC (lv_sub hl [1, 2, 3, 4, 0] rfl) (hae) (hee) hret
        · rw [if_neg h7] at hret
          by_cases h8 : v1 = 172
          · rw [if_pos h8] at hret
            refine lv_tableIn (off := 204) (tgt := 213) hx hb dz_odd_9 (by rw [h8]; decide) (by rw [h8]; decide) (by rw [h8]; rfl) (by decide) ?_
            refine lv_aload_n hx hb dz_odd_213 rfl (lv_at hl 1 rfl) ?_
            refine lv_iload_n hx hb dz_odd_214 rfl (lv_at hl 4 rfl) ?_
            refine zp_behind E hC dz_odd_215 (fun H locs hC => ?_)
            refine lv_iconst (v := (0 : Int32)) hx hb dz_odd_218 (by decide) ?_
            exact (zwi_out hret) _ _ _ _ dz_odd_219 hC  (nw_i _)
          · rw [if_neg h8] at hret
            refine lv_tableOut (tgt := 220) hx hb dz_odd_9 (by have := lv_neT h1 (show (168 : Int32).toInt = 168 from rfl); have := lv_neT h3 (show (169 : Int32).toInt = 169 from rfl); have := lv_neT h6 (show (170 : Int32).toInt = 170 from rfl); have := lv_neT h7 (show (171 : Int32).toInt = 171 from rfl); have := lv_neT h8 (show (172 : Int32).toInt = 172 from rfl); omega) (by decide) ?_
            refine lv_iload_n hx hb dz_odd_220 rfl (lv_at hl 3 rfl) ?_
            refine lv_bipush (v := (8 : Int32)) hx hb dz_odd_221 (by decide) ?_
            refine lv_iand hx hb dz_odd_223 ?_
            refine lv_if_eq (tgt := 234) hx hb dz_odd_224 (by decide) (fun h9 => ?_) (fun h9 => ?_)
            · rw [if_pos h9] at hret
              refine lv_iconst (v := (0 : Int32)) hx hb dz_odd_234 (by decide) ?_
              exact (zwi_out hret) _ _ _ _ dz_odd_235 hC  (nw_i _)
            · rw [if_neg h9] at hret
              refine lv_aload_n hx hb dz_odd_227 rfl (lv_at hl 1 rfl) ?_
              refine zg_overflow E hC dz_odd_228 ?_
              refine lv_if_ne (tgt := 236) hx hb dz_odd_231 (by decide) (fun h10 => ?_) (fun h10 => ?_)
              · rw [if_neg h10] at hret
                refine lv_aload_n hx hb dz_odd_236 rfl (lv_at hl 1 rfl) ?_
                refine lv_iconst (v := (0 : Int32)) hx hb dz_odd_237 (by decide) ?_
                refine zp_overflow E hC rfl rfl dz_odd_238 (fun H locs hC => ?_)
                refine lv_aload_n hx hb dz_odd_241 rfl (lv_at hl 1 rfl) ?_
                refine lv_iload_n hx hb dz_odd_242 rfl (lv_at hl 4 rfl) ?_
                refine zp_behind E hC dz_odd_243 (fun H locs hC => ?_)
                refine lv_iconst (v := (0 : Int32)) hx hb dz_odd_246 (by decide) ?_
                exact (zwi_out hret) _ _ _ _ dz_odd_247 hC  (nw_i _)
              · rw [if_pos h10] at hret
                refine lv_iconst (v := (0 : Int32)) hx hb dz_odd_234 (by decide) ?_
                exact (zwi_out hret) _ _ _ _ dz_odd_235 hC  (nw_i _)
set_option maxRecDepth 100000 in
set_option maxHeartbeats 4000000 in
theorem mz_odd (l : Launch) (k : kSz) (v1 : Int32) (v2 : Int32) (v3 : Int32) (hae : vp_in v2 4096) (hee : 0 ≤ v3) : zMet l yz_odd cz_odd 10 (some .int) 2 [.int v1, .int v2, .int v3] k (some (.int (fz_odd k v1 v2 v3).1)) (fz_odd k v1 v2 v3).2  :=
  zMet.ofi (by decide) rfl (fun _ => Nat.le_of_ble_eq_true rfl) (fun D cA h0 q p env s m args below meth c ls Q E hC hl hret => wz_odd_0 E hC (lv_sub hl [0, 1, 2, 3] rfl) hae hee hret)
theorem gkz_odd : zYw R_z 120 yz_odd cz_odd 10 (some .int) 3 := ⟨wc_z_odd, wl_z_120, wi_z_odd, ws_z_odd, wn_z, ⟨by decide, by decide, by decide +kernel⟩, by decide⟩
theorem kz_odd {p : Program} {l : Launch} {env : Env} {s : State} {m : MethodId} {args : Array Value} {below : List Frame} {meth : Method} {c : Code} {H : Heap} {locs : List Loc} {Q : State → Prop} {cc : ByteArray} {pc nL d : Nat} {ls : Array Slot} {rest : List Value} {D : va_G} {cA : ClassId} {h0 q : Nat} {k : kSz} {v1 : Int32} {v2 : Int32} {v3 : Int32} (E : zE p s m args c cc nL D cA h0 q) (hls : ls.size = nL) (hC : zC D cA h0 q s.heap k H locs) (hae : vp_in v2 4096) (hee : 0 ≤ v3) (hd : 2 + 1 ≤ d) (hr : (rest.map fun v => v.category).sum ≤ 8) (hdg : decode cc pc = .ok (.invokevirtual 120, 3)) (kk : ∀ (H1 : Heap) (locs1 : List Loc), zC D cA h0 q s.heap (fz_odd k v1 v2 v3).2  H1 locs1 → W p l env (rmD d) s m args below meth c H1 locs1 0 0 Q (F0 m (pc + 3) ls (.int (fz_odd k v1 v2 v3).1 :: rest))) : W p l env (rmD d) s m args below meth c H locs 0 0 Q (F0 m pc ls (.int v3 :: .int v2 :: .int v1 :: .ref h0 :: rest)) :=
  zcall (av := [.int v1, .int v2, .int v3]) E (mz_odd l k v1 v2 v3 hae hee) gkz_odd rfl hls hC hd hr hdg kk
/-! TenMachineModel.calls (III)I -/
def fz_calls (k : kSz) (v1 : Int32) (v2 : Int32) (v3 : Int32) : Int32 × kSz :=
  if v1 = 176 then
    if (fz_isGone (fz_right (fz_both (ldz k v2) (1 : Int32)))) = 0 then
      ((0 : Int32), vz_bh (stz (stz k v2 (fz_both (ldz k v2) (1 : Int32))) (fz_right (fz_both (ldz k v2) (1 : Int32))) ((uz_bh (stz k v2 (fz_both (ldz k v2) (1 : Int32)))).toInt64)) v3)
    else
      ((2 : Int32), k)
  else
    if v1 = 177 then
      if (fz_isGone (fz_right (fz_both (ldz k v2) (1 : Int32)))) = 0 then
        if (fz_isGone v3) = 0 then
          ((0 : Int32), stz (stz k v2 (fz_both (ldz k v2) (1 : Int32))) (fz_right (fz_both (ldz k v2) (1 : Int32))) (ldz k v3))
        else
          ((2 : Int32), k)
      else
        ((2 : Int32), k)
    else
      if v1 = 178 then
        if (fz_isGone (fz_right (ldz k v2))) = 0 then
          if (fz_isGone v3) = 0 then
            ((0 : Int32), stz (stz k v2 (fz_both (ldz k v2) (-1 : Int32))) v3 (ldz k (fz_right (ldz k v2))))
          else
            ((2 : Int32), k)
        else
          ((2 : Int32), k)
      else
        if v1 = 179 then
          if (fz_isGone (fz_right (ldz k v2))) = 0 then
            ((0 : Int32), stz (vz_bh k (fz_right (ldz k (fz_right (ldz k v2))))) v2 (fz_both (ldz k v2) (-1 : Int32)))
          else
            ((2 : Int32), k)
        else
          if v1 = 180 then
            if (fz_isGone v3) = 0 then
              ((0 : Int32), vz_bh (stz k v3 ((uz_bh k).toInt64)) (v3 + (1 : Int32)))
            else
              ((2 : Int32), k)
          else
            ((0 : Int32), vz_bh (stz k v2 ((uz_bh k).toInt64)) v3)
set_option maxRecDepth 100000 in
set_option maxHeartbeats 4000000 in
theorem wz_calls_0 {k : kSz} {v1 : Int32} {v2 : Int32} {v3 : Int32} {H : Heap} {locs : List Loc} {ls : Array Slot} (E : zE p s m args c cz_calls 14 D cA h0 q) (hC : zC D cA h0 q s.heap k H locs) (hl : lv_has ls 14 [(0, .ref h0), (1, .int v1), (2, .int v2), (3, .int v3)]) (hae : vp_in v2 4096) (hee : 0 ≤ v3) (hret : zwi p l env (rmD 2) s m args below meth c cz_calls D cA h0 q .int Q (fz_calls k v1 v2 v3)) : W p l env (rmD 2) s m args below meth c H locs 0 0 Q (F0 m 0 ls []) := by
  have hx := E.1.1; have hb := E.1.2.1
  unfold fz_calls at hret
  refine lv_aload_n hx hb dz_calls_0 rfl (lv_at hl 0 rfl) ?_
  refine zg_words E hC dz_calls_1 ?_
  refine lv_iload_n hx hb dz_calls_4 rfl (lv_at hl 2 rfl) ?_
  refine zld E hC (hae) dz_calls_5 ?_
  refine lv_iconst (v := (1 : Int32)) hx hb dz_calls_6 (by decide) ?_
  refine kz_both_in_z E.1 hl.1 (by decide) (Nat.le_of_ble_eq_true rfl) dz_calls_7 ?_
  refine lv_lstore (lv' := [(4, .long (fz_both (ldz k v2) (1 : Int32))), (0, .ref h0), (1, .int v1), (2, .int v2), (3, .int v3)]) hx hb dz_calls_10 hl (by decide) rfl (fun ls hl => ?_)
  refine lv_aload_n hx hb dz_calls_12 rfl (lv_at hl 1 rfl) ?_
  refine zg_words E hC dz_calls_13 ?_
  refine lv_iload_n hx hb dz_calls_16 rfl (lv_at hl 3 rfl) ?_
  refine zld E hC (hae) dz_calls_17 ?_
  refine lv_iconst (v := (-1 : Int32)) hx hb dz_calls_18 (by decide) ?_
  refine kz_both_in_z E.1 hl.1 (by decide) (Nat.le_of_ble_eq_true rfl) dz_calls_19 ?_
  refine lv_lstore (lv' := [(6, .long (fz_both (ldz k v2) (-1 : Int32))), (4, .long (fz_both (ldz k v2) (1 : Int32))), (0, .ref h0), (1, .int v1), (2, .int v2), (3, .int v3)]) hx hb dz_calls_22 hl (by decide) rfl (fun ls hl => ?_)
  refine lv_aload_n hx hb dz_calls_24 rfl (lv_at hl 2 rfl) ?_
  refine zg_words E hC dz_calls_25 ?_
  refine lv_iload_n hx hb dz_calls_28 rfl (lv_at hl 4 rfl) ?_
  refine zld E hC (hae) dz_calls_29 ?_
  refine kz_right_in_z E.1 hl.1 (by decide) (Nat.le_of_ble_eq_true rfl) dz_calls_30 ?_
  refine lv_istore (lv' := [(8, .int (fz_right (ldz k v2))), (6, .long (fz_both (ldz k v2) (-1 : Int32))), (4, .long (fz_both (ldz k v2) (1 : Int32))), (0, .ref h0), (1, .int v1), (2, .int v2), (3, .int v3)]) hx hb dz_calls_33 hl (by decide) rfl (fun ls hl => ?_)
  refine lv_lload hx hb dz_calls_35 (lv_at hl 2 rfl) ?_
  refine kz_right_in_z E.1 hl.1 (by decide) (Nat.le_of_ble_eq_true rfl) dz_calls_37 ?_
  refine lv_istore (lv' := [(9, .int (fz_right (fz_both (ldz k v2) (1 : Int32)))), (8, .int (fz_right (ldz k v2))), (6, .long (fz_both (ldz k v2) (-1 : Int32))), (4, .long (fz_both (ldz k v2) (1 : Int32))), (0, .ref h0), (1, .int v1), (2, .int v2), (3, .int v3)]) hx hb dz_calls_40 hl (by decide) rfl (fun ls hl => ?_)
  refine lv_iload_n hx hb dz_calls_42 rfl (lv_at hl 5 rfl) ?_
  by_cases h1 : v1 = 176
  · rw [if_pos h1] at hret
    refine lv_tableIn (off := 33) (tgt := 76) hx hb dz_calls_43 (by rw [h1]; decide) (by rw [h1]; decide) (by rw [h1]; rfl) (by decide) ?_
    refine lv_iload hx hb dz_calls_76 (lv_at hl 0 rfl) ?_
    refine kz_isGone_in_z E.1 hl.1 (by decide) (Nat.le_of_ble_eq_true rfl) dz_calls_78 ?_
    refine lv_if_eq (tgt := 86) hx hb dz_calls_81 (by decide) (fun h2 => ?_) (fun h2 => ?_)
    · rw [if_pos h2] at hret
      refine lv_aload_n hx hb dz_calls_86 rfl (lv_at hl 4 rfl) ?_
      refine zg_words E hC dz_calls_87 ?_
      refine lv_iload_n hx hb dz_calls_90 rfl (lv_at hl 6 rfl) ?_
      refine lv_lload hx hb dz_calls_91 (lv_at hl 3 rfl) ?_
      refine zst E hC (hae) dz_calls_93 (fun H locs hC => ?_)
      refine lv_aload_n hx hb dz_calls_94 rfl (lv_at hl 4 rfl) ?_
      refine zg_words E hC dz_calls_95 ?_
      refine lv_iload hx hb dz_calls_98 (lv_at hl 0 rfl) ?_
      refine lv_aload_n hx hb dz_calls_100 rfl (lv_at hl 4 rfl) ?_
      refine zg_behind E hC dz_calls_101 ?_
      refine lv_i2l hx hb dz_calls_104 rfl ?_
      refine zst E hC (vin_gone (rt_nn _) h2) dz_calls_105 (fun H locs hC => ?_)
      refine lv_aload_n hx hb dz_calls_106 rfl (lv_at hl 4 rfl) ?_
      refine lv_iload_n hx hb dz_calls_107 rfl (lv_at hl 7 rfl) ?_
      refine zp_behind E hC dz_calls_108 (fun H locs hC => ?_)
      refine lv_iconst (v := (0 : Int32)) hx hb dz_calls_111 (by decide) ?_
      exact (zwi_out hret) _ _ _ _ dz_calls_112 hC  (nw_i _)
    · rw [if_neg h2] at hret
      refine lv_iconst (v := (2 : Int32)) hx hb dz_calls_84 (by decide) ?_
      exact (zwi_out hret) _ _ _ _ dz_calls_85 hC  (nw_i _)
  · rw [if_neg h1] at hret
    by_cases h3 : v1 = 177
    · rw [if_pos h3] at hret
      refine lv_tableIn (off := 70) (tgt := 113) hx hb dz_calls_43 (by rw [h3]; decide) (by rw [h3]; decide) (by rw [h3]; rfl) (by decide) ?_
      refine lv_iload hx hb dz_calls_113 (lv_at hl 0 rfl) ?_
      refine kz_isGone_in_z E.1 hl.1 (by decide) (Nat.le_of_ble_eq_true rfl) dz_calls_115 ?_
      refine lv_if_ne (tgt := 128) hx hb dz_calls_118 (by decide) (fun h4 => ?_) (fun h4 => ?_)
      · rw [if_neg h4] at hret
        refine lv_iconst (v := (2 : Int32)) hx hb dz_calls_128 (by decide) ?_
        exact (zwi_out hret) _ _ _ _ dz_calls_129 hC  (nw_i _)
      · rw [if_pos h4] at hret
        refine lv_iload_n hx hb dz_calls_121 rfl (lv_at hl 7 rfl) ?_
        refine kz_isGone_in_z E.1 hl.1 (by decide) (Nat.le_of_ble_eq_true rfl) dz_calls_122 ?_
        refine lv_if_eq (tgt := 130) hx hb dz_calls_125 (by decide) (fun h5 => ?_) (fun h5 => ?_)
        · rw [if_pos h5] at hret
          refine lv_aload_n hx hb dz_calls_130 rfl (lv_at hl 4 rfl) ?_
          refine zg_words E hC dz_calls_131 ?_
          refine lv_iload_n hx hb dz_calls_134 rfl (lv_at hl 7 rfl) ?_
          refine zld E hC (vin_gone (hee) h5) dz_calls_135 ?_
          refine lv_lstore (lv' := [(10, .long (ldz k v3)), (9, .int (fz_right (fz_both (ldz k v2) (1 : Int32)))), (8, .int (fz_right (ldz k v2))), (6, .long (fz_both (ldz k v2) (-1 : Int32))), (4, .long (fz_both (ldz k v2) (1 : Int32))), (0, .ref h0), (1, .int v1), (2, .int v2), (3, .int v3)]) hx hb dz_calls_136 hl (by decide) rfl (fun ls hl => ?_)
          refine lv_aload_n hx hb dz_calls_138 rfl (lv_at hl 5 rfl) ?_
          refine zg_words E hC dz_calls_139 ?_
          refine lv_iload_n hx hb dz_calls_142 rfl (lv_at hl 7 rfl) ?_
          refine lv_lload hx hb dz_calls_143 (lv_at hl 4 rfl) ?_
          refine zst E hC (hae) dz_calls_145 (fun H locs hC => ?_)
          refine lv_aload_n hx hb dz_calls_146 rfl (lv_at hl 5 rfl) ?_
          refine zg_words E hC dz_calls_147 ?_
          refine lv_iload hx hb dz_calls_150 (lv_at hl 1 rfl) ?_
          refine lv_lload hx hb dz_calls_152 (lv_at hl 0 rfl) ?_
          refine zst E hC (vin_gone (rt_nn _) h4) dz_calls_154 (fun H locs hC => ?_)
          refine lv_iconst (v := (0 : Int32)) hx hb dz_calls_155 (by decide) ?_
          exact (zwi_out hret) _ _ _ _ dz_calls_156 hC  (nw_i _)
        · rw [if_neg h5] at hret
          refine lv_iconst (v := (2 : Int32)) hx hb dz_calls_128 (by decide) ?_
          exact (zwi_out hret) _ _ _ _ dz_calls_129 hC  (nw_i _)
    · rw [if_neg h3] at hret
      by_cases h6 : v1 = 178
      · rw [if_pos h6] at hret
        refine lv_tableIn (off := 114) (tgt := 157) hx hb dz_calls_43 (by rw [h6]; decide) (by rw [h6]; decide) (by rw [h6]; rfl) (by decide) ?_
        refine lv_iload hx hb dz_calls_157 (lv_at hl 1 rfl) ?_
        refine kz_isGone_in_z E.1 hl.1 (by decide) (Nat.le_of_ble_eq_true rfl) dz_calls_159 ?_
        refine lv_if_ne (tgt := 172) hx hb dz_calls_162 (by decide) (fun h7 => ?_) (fun h7 => ?_)
        · rw [if_neg h7] at hret
          refine lv_iconst (v := (2 : Int32)) hx hb dz_calls_172 (by decide) ?_
          exact (zwi_out hret) _ _ _ _ dz_calls_173 hC  (nw_i _)
        · rw [if_pos h7] at hret
          refine lv_iload_n hx hb dz_calls_165 rfl (lv_at hl 7 rfl) ?_
          refine kz_isGone_in_z E.1 hl.1 (by decide) (Nat.le_of_ble_eq_true rfl) dz_calls_166 ?_
          refine lv_if_eq (tgt := 174) hx hb dz_calls_169 (by decide) (fun h8 => ?_) (fun h8 => ?_)
          · rw [if_pos h8] at hret
            refine lv_aload_n hx hb dz_calls_174 rfl (lv_at hl 4 rfl) ?_
            refine zg_words E hC dz_calls_175 ?_
            refine lv_iload hx hb dz_calls_178 (lv_at hl 1 rfl) ?_
            refine zld E hC (vin_gone (rt_nn _) h7) dz_calls_180 ?_
            refine lv_lstore (lv' := [(12, .long (ldz k (fz_right (ldz k v2)))), (9, .int (fz_right (fz_both (ldz k v2) (1 : Int32)))), (8, .int (fz_right (ldz k v2))), (6, .long (fz_both (ldz k v2) (-1 : Int32))), (4, .long (fz_both (ldz k v2) (1 : Int32))), (0, .ref h0), (1, .int v1), (2, .int v2), (3, .int v3)]) hx hb dz_calls_181 hl (by decide) rfl (fun ls hl => ?_)
            refine lv_aload_n hx hb dz_calls_183 rfl (lv_at hl 5 rfl) ?_
            refine zg_words E hC dz_calls_184 ?_
            refine lv_iload_n hx hb dz_calls_187 rfl (lv_at hl 7 rfl) ?_
            refine lv_lload hx hb dz_calls_188 (lv_at hl 3 rfl) ?_
            refine zst E hC (hae) dz_calls_190 (fun H locs hC => ?_)
            refine lv_aload_n hx hb dz_calls_191 rfl (lv_at hl 5 rfl) ?_
            refine zg_words E hC dz_calls_192 ?_
            refine lv_iload_n hx hb dz_calls_195 rfl (lv_at hl 8 rfl) ?_
            refine lv_lload hx hb dz_calls_196 (lv_at hl 0 rfl) ?_
            refine zst E hC (vin_gone (hee) h8) dz_calls_198 (fun H locs hC => ?_)
            refine lv_iconst (v := (0 : Int32)) hx hb dz_calls_199 (by decide) ?_
            exact (zwi_out hret) _ _ _ _ dz_calls_200 hC  (nw_i _)
          · rw [if_neg h8] at hret
            refine lv_iconst (v := (2 : Int32)) hx hb dz_calls_172 (by decide) ?_
            exact (zwi_out hret) _ _ _ _ dz_calls_173 hC  (nw_i _)
      · rw [if_neg h6] at hret
        by_cases h9 : v1 = 179
        · rw [if_pos h9] at hret
          refine lv_tableIn (off := 158) (tgt := 201) hx hb dz_calls_43 (by rw [h9]; decide) (by rw [h9]; decide) (by rw [h9]; rfl) (by decide) ?_
          refine lv_iload hx hb dz_calls_201 (lv_at hl 1 rfl) ?_
          refine kz_isGone_in_z E.1 hl.1 (by decide) (Nat.le_of_ble_eq_true rfl) dz_calls_203 ?_
          refine lv_if_eq (tgt := 211) hx hb dz_calls_206 (by decide) (fun h10 => ?_) (fun h10 => ?_)
          · rw [if_pos h10] at hret
            refine lv_aload_n hx hb dz_calls_211 rfl (lv_at hl 4 rfl) ?_
            refine lv_aload_n hx hb dz_calls_212 rfl (lv_at hl 4 rfl) ?_
            refine zg_words E hC dz_calls_213 ?_
            refine lv_iload hx hb dz_calls_216 (lv_at hl 1 rfl) ?_
            refine zld E hC (vin_gone (rt_nn _) h10) dz_calls_218 ?_
            refine kz_right_in_z E.1 hl.1 (by decide) (Nat.le_of_ble_eq_true rfl) dz_calls_219 ?_
            refine zp_behind E hC dz_calls_222 (fun H locs hC => ?_)
            refine lv_aload_n hx hb dz_calls_225 rfl (lv_at hl 4 rfl) ?_
            refine zg_words E hC dz_calls_226 ?_
            refine lv_iload_n hx hb dz_calls_229 rfl (lv_at hl 6 rfl) ?_
            refine lv_lload hx hb dz_calls_230 (lv_at hl 2 rfl) ?_
            refine zst E hC (hae) dz_calls_232 (fun H locs hC => ?_)
            refine lv_iconst (v := (0 : Int32)) hx hb dz_calls_233 (by decide) ?_
            exact (zwi_out hret) _ _ _ _ dz_calls_234 hC  (nw_i _)
          · rw [if_neg h10] at hret
            refine lv_iconst (v := (2 : Int32)) hx hb dz_calls_209 (by decide) ?_
            exact (zwi_out hret) _ _ _ _ dz_calls_210 hC  (nw_i _)
        · rw [if_neg h9] at hret
          by_cases h11 : v1 = 180
          · rw [if_pos h11] at hret
            refine lv_tableIn (off := 192) (tgt := 235) hx hb dz_calls_43 (by rw [h11]; decide) (by rw [h11]; decide) (by rw [h11]; rfl) (by decide) ?_
            refine lv_iload_n hx hb dz_calls_235 rfl (lv_at hl 7 rfl) ?_
            refine kz_isGone_in_z E.1 hl.1 (by decide) (Nat.le_of_ble_eq_true rfl) dz_calls_236 ?_
            refine lv_if_eq (tgt := 244) hx hb dz_calls_239 (by decide) (fun h12 => ?_) (fun h12 => ?_)
            · rw [if_pos h12] at hret
              refine lv_aload_n hx hb dz_calls_244 rfl (lv_at hl 4 rfl) ?_
              refine zg_words E hC dz_calls_245 ?_
              refine lv_iload_n hx hb dz_calls_248 rfl (lv_at hl 7 rfl) ?_
              refine lv_aload_n hx hb dz_calls_249 rfl (lv_at hl 4 rfl) ?_
              refine zg_behind E hC dz_calls_250 ?_
              refine lv_i2l hx hb dz_calls_253 rfl ?_
              refine zst E hC (vin_gone (hee) h12) dz_calls_254 (fun H locs hC => ?_)
              refine lv_aload_n hx hb dz_calls_255 rfl (lv_at hl 4 rfl) ?_
              refine lv_iload_n hx hb dz_calls_256 rfl (lv_at hl 7 rfl) ?_
              refine lv_iconst (v := (1 : Int32)) hx hb dz_calls_257 (by decide) ?_
              refine lv_iadd hx hb dz_calls_258 ?_
              refine zp_behind E hC dz_calls_259 (fun H locs hC => ?_)
              refine lv_iconst (v := (0 : Int32)) hx hb dz_calls_262 (by decide) ?_
              exact (zwi_out hret) _ _ _ _ dz_calls_263 hC  (nw_i _)
            · rw [if_neg h12] at hret
              refine lv_iconst (v := (2 : Int32)) hx hb dz_calls_242 (by decide) ?_
              exact (zwi_out hret) _ _ _ _ dz_calls_243 hC  (nw_i _)
          · rw [if_neg h11] at hret
            refine lv_tableOut (tgt := 264) hx hb dz_calls_43 (by have := lv_neT h1 (show (176 : Int32).toInt = 176 from rfl); have := lv_neT h3 (show (177 : Int32).toInt = 177 from rfl); have := lv_neT h6 (show (178 : Int32).toInt = 178 from rfl); have := lv_neT h9 (show (179 : Int32).toInt = 179 from rfl); have := lv_neT h11 (show (180 : Int32).toInt = 180 from rfl); omega) (by decide) ?_
            refine lv_aload_n hx hb dz_calls_264 rfl (lv_at hl 4 rfl) ?_
            refine zg_words E hC dz_calls_265 ?_
            refine lv_iload_n hx hb dz_calls_268 rfl (lv_at hl 6 rfl) ?_
            refine lv_aload_n hx hb dz_calls_269 rfl (lv_at hl 4 rfl) ?_
            refine zg_behind E hC dz_calls_270 ?_
            refine lv_i2l hx hb dz_calls_273 rfl ?_
            refine zst E hC (hae) dz_calls_274 (fun H locs hC => ?_)
            refine lv_aload_n hx hb dz_calls_275 rfl (lv_at hl 4 rfl) ?_
            refine lv_iload_n hx hb dz_calls_276 rfl (lv_at hl 7 rfl) ?_
            refine zp_behind E hC dz_calls_277 (fun H locs hC => ?_)
            refine lv_iconst (v := (0 : Int32)) hx hb dz_calls_280 (by decide) ?_
            exact (zwi_out hret) _ _ _ _ dz_calls_281 hC  (nw_i _)
set_option maxRecDepth 100000 in
set_option maxHeartbeats 4000000 in
theorem mz_calls (l : Launch) (k : kSz) (v1 : Int32) (v2 : Int32) (v3 : Int32) (hae : vp_in v2 4096) (hee : 0 ≤ v3) : zMet l yz_calls cz_calls 14 (some .int) 2 [.int v1, .int v2, .int v3] k (some (.int (fz_calls k v1 v2 v3).1)) (fz_calls k v1 v2 v3).2  :=
  zMet.ofi (by decide) rfl (fun _ => Nat.le_of_ble_eq_true rfl) (fun D cA h0 q p env s m args below meth c ls Q E hC hl hret => wz_calls_0 E hC (lv_sub hl [0, 1, 2, 3] rfl) hae hee hret)
theorem gkz_calls : zYw R_z 127 yz_calls cz_calls 14 (some .int) 3 := ⟨wc_z_calls, wl_z_127, wi_z_calls, ws_z_calls, wn_z, ⟨by decide, by decide, by decide +kernel⟩, by decide⟩
theorem kz_calls {p : Program} {l : Launch} {env : Env} {s : State} {m : MethodId} {args : Array Value} {below : List Frame} {meth : Method} {c : Code} {H : Heap} {locs : List Loc} {Q : State → Prop} {cc : ByteArray} {pc nL d : Nat} {ls : Array Slot} {rest : List Value} {D : va_G} {cA : ClassId} {h0 q : Nat} {k : kSz} {v1 : Int32} {v2 : Int32} {v3 : Int32} (E : zE p s m args c cc nL D cA h0 q) (hls : ls.size = nL) (hC : zC D cA h0 q s.heap k H locs) (hae : vp_in v2 4096) (hee : 0 ≤ v3) (hd : 2 + 1 ≤ d) (hr : (rest.map fun v => v.category).sum ≤ 8) (hdg : decode cc pc = .ok (.invokevirtual 127, 3)) (kk : ∀ (H1 : Heap) (locs1 : List Loc), zC D cA h0 q s.heap (fz_calls k v1 v2 v3).2  H1 locs1 → W p l env (rmD d) s m args below meth c H1 locs1 0 0 Q (F0 m (pc + 3) ls (.int (fz_calls k v1 v2 v3).1 :: rest))) : W p l env (rmD d) s m args below meth c H locs 0 0 Q (F0 m pc ls (.int v3 :: .int v2 :: .int v1 :: .ref h0 :: rest)) :=
  zcall (av := [.int v1, .int v2, .int v3]) E (mz_calls l k v1 v2 v3 hae hee) gkz_calls rfl hls hC hd hr hdg kk
/-! TenMachineModel.move (IIII)I -/
def fz_move_82 (k : kSz) (v3 : Int32) (v5 : Int64) : Int32 × kSz :=
  ((0 : Int32), stz k v3 v5)
set_option maxRecDepth 100000 in
set_option maxHeartbeats 4000000 in
theorem wz_move_82 {k : kSz} {v3 : Int32} {v5 : Int64} {H : Heap} {locs : List Loc} {ls : Array Slot} (E : zE p s m args c cz_move 7 D cA h0 q) (hC : zC D cA h0 q s.heap k H locs) (hl : lv_has ls 7 [(0, .ref h0), (3, .int v3), (5, .long v5)]) (hae : vp_in v3 4096) (hret : zwi p l env (rmD 3) s m args below meth c cz_move D cA h0 q .int Q (fz_move_82 k v3 v5)) : W p l env (rmD 3) s m args below meth c H locs 0 0 Q (F0 m 82 ls []) := by
  have hx := E.1.1; have hb := E.1.2.1
  unfold fz_move_82 at hret
  refine lv_aload_n hx hb dz_move_82 rfl (lv_at hl 0 rfl) ?_
  refine zg_words E hC dz_move_83 ?_
  refine lv_iload_n hx hb dz_move_86 rfl (lv_at hl 1 rfl) ?_
  refine lv_lload hx hb dz_move_87 (lv_at hl 2 rfl) ?_
  refine zst E hC (hae) dz_move_89 (fun H locs hC => ?_)
  refine lv_iconst (v := (0 : Int32)) hx hb dz_move_90 (by decide) ?_
  exact (zwi_out hret) _ _ _ _ dz_move_91 hC  (nw_i _)
def fz_move_68 (k : kSz) (v2 : Int32) (v3 : Int32) (v5 : Int64) : Int32 × kSz :=
  if v2 < (2 : Int32) then
    fz_move_82 k v3 v5
  else
    if v2 = (3 : Int32) then
      if v3 ≤ 0 then
        ((0 : Int32), k)
      else
        fz_move_82 k v3 v5
    else
      ((0 : Int32), k)
set_option maxRecDepth 100000 in
set_option maxHeartbeats 4000000 in
theorem wz_move_68 {k : kSz} {v2 : Int32} {v3 : Int32} {v5 : Int64} {H : Heap} {locs : List Loc} {ls : Array Slot} (E : zE p s m args c cz_move 7 D cA h0 q) (hC : zC D cA h0 q s.heap k H locs) (hl : lv_has ls 7 [(0, .ref h0), (2, .int v2), (3, .int v3), (5, .long v5)]) (hae : vp_in v3 4096) (hret : zwi p l env (rmD 3) s m args below meth c cz_move D cA h0 q .int Q (fz_move_68 k v2 v3 v5)) : W p l env (rmD 3) s m args below meth c H locs 0 0 Q (F0 m 68 ls []) := by
  have hx := E.1.1; have hb := E.1.2.1
  unfold fz_move_68 at hret
  refine lv_iload_n hx hb dz_move_68 rfl (lv_at hl 1 rfl) ?_
  refine lv_iconst (v := (2 : Int32)) hx hb dz_move_69 (by decide) ?_
  refine lv_icmp_lt (tgt := 82) hx hb dz_move_70 (by decide) (fun h1 => ?_) (fun h1 => ?_)
  · rw [if_pos h1] at hret
    exact wz_move_82 E hC (lv_sub hl [0, 2, 3] rfl) (hae) hret
  · rw [if_neg h1] at hret
    refine lv_iload_n hx hb dz_move_73 rfl (lv_at hl 1 rfl) ?_
    refine lv_iconst (v := (3 : Int32)) hx hb dz_move_74 (by decide) ?_
    refine lv_icmp_ne (tgt := 90) hx hb dz_move_75 (by decide) (fun h2 => ?_) (fun h2 => ?_)
    · rw [if_neg h2] at hret
      refine lv_iconst (v := (0 : Int32)) hx hb dz_move_90 (by decide) ?_
      exact (zwi_out hret) _ _ _ _ dz_move_91 hC  (nw_i _)
    · rw [if_pos h2] at hret
      refine lv_iload_n hx hb dz_move_78 rfl (lv_at hl 2 rfl) ?_
      refine lv_if_le (tgt := 90) hx hb dz_move_79 (by decide) (fun h3 => ?_) (fun h3 => ?_)
      · rw [if_pos h3] at hret
        refine lv_iconst (v := (0 : Int32)) hx hb dz_move_90 (by decide) ?_
        exact (zwi_out hret) _ _ _ _ dz_move_91 hC  (nw_i _)
      · rw [if_neg h3] at hret
        exact wz_move_82 E hC (lv_sub hl [0, 2, 3] rfl) (hae) hret
def fz_move_49 (k : kSz) (v2 : Int32) (v3 : Int32) (v4 : Int32) (t1 : Int32) (t2 : Int64) : Int32 × kSz :=
  if v2 < (2 : Int32) then
    fz_move_68 ((fz_turned k t1 t2).2) v2 v3 ((fz_turned k t1 t2).1)
  else
    fz_move_68 (stz ((fz_turned k t1 t2).2) v4 ((fz_turned k t1 t2).1)) v2 v3 ((fz_turned k t1 t2).1)
set_option maxRecDepth 100000 in
set_option maxHeartbeats 4000000 in
theorem wz_move_49 {k : kSz} {v2 : Int32} {v3 : Int32} {v4 : Int32} {t1 : Int32} {t2 : Int64} {H : Heap} {locs : List Loc} {ls : Array Slot} (E : zE p s m args c cz_move 7 D cA h0 q) (hC : zC D cA h0 q s.heap k H locs) (hl : lv_has ls 7 [(0, .ref h0), (2, .int v2), (3, .int v3), (4, .int v4)]) (hae : vp_in v3 4096) (hee : 0 ≤ v4) (he : ¬ v2 = 1 → vp_in v4 4096) (hret : zwi p l env (rmD 3) s m args below meth c cz_move D cA h0 q .int Q (fz_move_49 k v2 v3 v4 t1 t2)) : W p l env (rmD 3) s m args below meth c H locs 0 0 Q (F0 m 49 ls [.long t2, .int t1, .ref h0]) := by
  have hx := E.1.1; have hb := E.1.2.1
  unfold fz_move_49 at hret
  refine kz_turned E hl.1 hC (by decide) (Nat.le_of_ble_eq_true rfl) dz_move_49 (fun H locs hC => ?_)
  refine lv_lstore (lv' := [(5, .long ((fz_turned k t1 t2).1)), (0, .ref h0), (2, .int v2), (3, .int v3), (4, .int v4)]) hx hb dz_move_52 hl (by decide) rfl (fun ls hl => ?_)
  refine lv_iload_n hx hb dz_move_54 rfl (lv_at hl 2 rfl) ?_
  refine lv_iconst (v := (2 : Int32)) hx hb dz_move_55 (by decide) ?_
  refine lv_icmp_lt (tgt := 68) hx hb dz_move_56 (by decide) (fun h1 => ?_) (fun h1 => ?_)
  · rw [if_pos h1] at hret
    exact wz_move_68 E hC (lv_sub hl [1, 2, 3, 0] rfl) (hae) hret
  · rw [if_neg h1] at hret
    refine lv_aload_n hx hb dz_move_59 rfl (lv_at hl 1 rfl) ?_
    refine zg_words E hC dz_move_60 ?_
    refine lv_iload hx hb dz_move_63 (lv_at hl 4 rfl) ?_
    refine lv_lload hx hb dz_move_65 (lv_at hl 0 rfl) ?_
    refine zst E hC (he (ne1_nlt2 h1)) dz_move_67 (fun H locs hC => ?_)
    exact wz_move_68 E hC (lv_sub hl [1, 2, 3, 0] rfl) (hae) hret
def fz_move_15 (k : kSz) (v1 : Int32) (v2 : Int32) (v3 : Int32) (v4 : Int32) : Int32 × kSz :=
  if v2 = (1 : Int32) then
    fz_move_49 k v2 v3 v4 v1 v4.toInt64
  else
    if v2 = (2 : Int32) then
      fz_move_49 k v2 v3 v4 v1 (ldz k v3)
    else
      fz_move_49 k v2 v3 v4 v1 (ldz k v4)
set_option maxRecDepth 100000 in
set_option maxHeartbeats 4000000 in
theorem wz_move_15 {k : kSz} {v1 : Int32} {v2 : Int32} {v3 : Int32} {v4 : Int32} {H : Heap} {locs : List Loc} {ls : Array Slot} (E : zE p s m args c cz_move 7 D cA h0 q) (hC : zC D cA h0 q s.heap k H locs) (hl : lv_has ls 7 [(0, .ref h0), (1, .int v1), (2, .int v2), (3, .int v3), (4, .int v4)]) (hae : vp_in v3 4096) (hee : 0 ≤ v4) (he : ¬ v2 = 1 → vp_in v4 4096) (hret : zwi p l env (rmD 3) s m args below meth c cz_move D cA h0 q .int Q (fz_move_15 k v1 v2 v3 v4)) : W p l env (rmD 3) s m args below meth c H locs 0 0 Q (F0 m 15 ls []) := by
  have hx := E.1.1; have hb := E.1.2.1
  unfold fz_move_15 at hret
  refine lv_aload_n hx hb dz_move_15 rfl (lv_at hl 0 rfl) ?_
  refine lv_iload_n hx hb dz_move_16 rfl (lv_at hl 1 rfl) ?_
  refine lv_iload_n hx hb dz_move_17 rfl (lv_at hl 2 rfl) ?_
  refine lv_iconst (v := (1 : Int32)) hx hb dz_move_18 (by decide) ?_
  refine lv_icmp_ne (tgt := 28) hx hb dz_move_19 (by decide) (fun h1 => ?_) (fun h1 => ?_)
  · rw [if_neg h1] at hret
    refine lv_iload_n hx hb dz_move_28 rfl (lv_at hl 2 rfl) ?_
    refine lv_iconst (v := (2 : Int32)) hx hb dz_move_29 (by decide) ?_
    refine lv_icmp_ne (tgt := 42) hx hb dz_move_30 (by decide) (fun h2 => ?_) (fun h2 => ?_)
    · rw [if_neg h2] at hret
      refine lv_aload_n hx hb dz_move_42 rfl (lv_at hl 0 rfl) ?_
      refine zg_words E hC dz_move_43 ?_
      refine lv_iload hx hb dz_move_46 (lv_at hl 4 rfl) ?_
      refine zld E hC (he h1) dz_move_48 ?_
      exact wz_move_49 E hC (lv_sub hl [0, 2, 3, 4] rfl) (hae) (hee) (he) hret
    · rw [if_pos h2] at hret
      refine lv_aload_n hx hb dz_move_33 rfl (lv_at hl 0 rfl) ?_
      refine zg_words E hC dz_move_34 ?_
      refine lv_iload_n hx hb dz_move_37 rfl (lv_at hl 3 rfl) ?_
      refine zld E hC (hae) dz_move_38 ?_
      refine lv_goto (tgt := 49) hx hb dz_move_39 (by decide) ?_
      exact wz_move_49 E hC (lv_sub hl [0, 2, 3, 4] rfl) (hae) (hee) (he) hret
  · rw [if_pos h1] at hret
    refine lv_iload hx hb dz_move_22 (lv_at hl 4 rfl) ?_
    refine lv_i2l hx hb dz_move_24 rfl ?_
    refine lv_goto (tgt := 49) hx hb dz_move_25 (by decide) ?_
    exact wz_move_49 E hC (lv_sub hl [0, 2, 3, 4] rfl) (hae) (hee) (he) hret
def fz_move (k : kSz) (v1 : Int32) (v2 : Int32) (v3 : Int32) (v4 : Int32) : Int32 × kSz :=
  if v2 = (1 : Int32) then
    fz_move_15 k v1 v2 v3 v4
  else
    if (fz_isGone v4) = 0 then
      fz_move_15 k v1 v2 v3 v4
    else
      ((2 : Int32), k)
set_option maxRecDepth 100000 in
set_option maxHeartbeats 4000000 in
theorem wz_move_0 {k : kSz} {v1 : Int32} {v2 : Int32} {v3 : Int32} {v4 : Int32} {H : Heap} {locs : List Loc} {ls : Array Slot} (E : zE p s m args c cz_move 7 D cA h0 q) (hC : zC D cA h0 q s.heap k H locs) (hl : lv_has ls 7 [(0, .ref h0), (1, .int v1), (2, .int v2), (3, .int v3), (4, .int v4)]) (hae : vp_in v3 4096) (hee : 0 ≤ v4) (hret : zwi p l env (rmD 3) s m args below meth c cz_move D cA h0 q .int Q (fz_move k v1 v2 v3 v4)) : W p l env (rmD 3) s m args below meth c H locs 0 0 Q (F0 m 0 ls []) := by
  have hx := E.1.1; have hb := E.1.2.1
  unfold fz_move at hret
  refine lv_iload_n hx hb dz_move_0 rfl (lv_at hl 2 rfl) ?_
  refine lv_iconst (v := (1 : Int32)) hx hb dz_move_1 (by decide) ?_
  refine lv_icmp_eq (tgt := 15) hx hb dz_move_2 (by decide) (fun h1 => ?_) (fun h1 => ?_)
  · rw [if_pos h1] at hret
    exact wz_move_15 E hC (lv_sub hl [0, 1, 2, 3, 4] rfl) (hae) (hee) (fun hh => absurd h1 hh) hret
  · rw [if_neg h1] at hret
    refine lv_iload hx hb dz_move_5 (lv_at hl 4 rfl) ?_
    refine kz_isGone_in_z E.1 hl.1 (by decide) (Nat.le_of_ble_eq_true rfl) dz_move_7 ?_
    refine lv_if_eq (tgt := 15) hx hb dz_move_10 (by decide) (fun h2 => ?_) (fun h2 => ?_)
    · rw [if_pos h2] at hret
      exact wz_move_15 E hC (lv_sub hl [0, 1, 2, 3, 4] rfl) (hae) (hee) (fun _ => vin_gone hee h2) hret
    · rw [if_neg h2] at hret
      refine lv_iconst (v := (2 : Int32)) hx hb dz_move_13 (by decide) ?_
      exact (zwi_out hret) _ _ _ _ dz_move_14 hC  (nw_i _)
set_option maxRecDepth 100000 in
set_option maxHeartbeats 4000000 in
theorem mz_move (l : Launch) (k : kSz) (v1 : Int32) (v2 : Int32) (v3 : Int32) (v4 : Int32) (hae : vp_in v3 4096) (hee : 0 ≤ v4) : zMet l yz_move cz_move 7 (some .int) 3 [.int v1, .int v2, .int v3, .int v4] k (some (.int (fz_move k v1 v2 v3 v4).1)) (fz_move k v1 v2 v3 v4).2  :=
  zMet.ofi (by decide) rfl (fun _ => Nat.le_of_ble_eq_true rfl) (fun D cA h0 q p env s m args below meth c ls Q E hC hl hret => wz_move_0 E hC (lv_sub hl [0, 1, 2, 3, 4] rfl) hae hee hret)
theorem gkz_move : zYw R_z 62 yz_move cz_move 7 (some .int) 4 := ⟨wc_z_move, wl_z_62, wi_z_move, ws_z_move, wn_z, ⟨by decide, by decide, by decide +kernel⟩, by decide⟩
theorem kz_move {p : Program} {l : Launch} {env : Env} {s : State} {m : MethodId} {args : Array Value} {below : List Frame} {meth : Method} {c : Code} {H : Heap} {locs : List Loc} {Q : State → Prop} {cc : ByteArray} {pc nL d : Nat} {ls : Array Slot} {rest : List Value} {D : va_G} {cA : ClassId} {h0 q : Nat} {k : kSz} {v1 : Int32} {v2 : Int32} {v3 : Int32} {v4 : Int32} (E : zE p s m args c cc nL D cA h0 q) (hls : ls.size = nL) (hC : zC D cA h0 q s.heap k H locs) (hae : vp_in v3 4096) (hee : 0 ≤ v4) (hd : 3 + 1 ≤ d) (hr : (rest.map fun v => v.category).sum ≤ 8) (hdg : decode cc pc = .ok (.invokevirtual 62, 3)) (kk : ∀ (H1 : Heap) (locs1 : List Loc), zC D cA h0 q s.heap (fz_move k v1 v2 v3 v4).2  H1 locs1 → W p l env (rmD d) s m args below meth c H1 locs1 0 0 Q (F0 m (pc + 3) ls (.int (fz_move k v1 v2 v3 v4).1 :: rest))) : W p l env (rmD d) s m args below meth c H locs 0 0 Q (F0 m pc ls (.int v4 :: .int v3 :: .int v2 :: .int v1 :: .ref h0 :: rest)) :=
  zcall (av := [.int v1, .int v2, .int v3, .int v4]) E (mz_move l k v1 v2 v3 v4 hae hee) gkz_move rfl hls hC hd hr hdg kk
end TTV
