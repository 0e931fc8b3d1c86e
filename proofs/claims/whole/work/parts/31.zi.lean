section TTV
variable {p : Program} {l : Launch} {env : Env} {s : State} {m : MethodId} {args : Array Value} {below : List Frame} {meth : Method} {c : Code} {Q : State → Prop} {D : va_G} {cA : ClassId} {h0 q : Nat}
/-! TenMachineModel.half (III)I -/
def fz_half_246 (k : kSz) (v2 : Int32) (v14 : Int64) : Int32 × kSz :=
  ((0 : Int32), stz k v2 v14)
set_option maxRecDepth 100000 in
set_option maxHeartbeats 4000000 in
theorem wz_half_246 {k : kSz} {v2 : Int32} {v14 : Int64} {H : Heap} {locs : List Loc} {ls : Array Slot} (E : zE p s m args c cz_half 16 D cA h0 q) (hC : zC D cA h0 q s.heap k H locs) (hl : lv_has ls 16 [(0, .ref h0), (2, .int v2), (14, .long v14)]) (hae : vp_in v2 4096) (hret : zwi p l env (rmD 1) s m args below meth c cz_half D cA h0 q .int Q (fz_half_246 k v2 v14)) : W p l env (rmD 1) s m args below meth c H locs 0 0 Q (F0 m 246 ls []) := by
  have hx := E.1.1; have hb := E.1.2.1
  unfold fz_half_246 at hret
  refine lv_aload_n hx hb dz_half_246 rfl (lv_at hl 0 rfl) ?_
  refine zg_words E hC dz_half_247 ?_
  refine lv_iload_n hx hb dz_half_250 rfl (lv_at hl 1 rfl) ?_
  refine lv_lload hx hb dz_half_251 (lv_at hl 2 rfl) ?_
  refine zst E hC (hae) dz_half_253 (fun H locs hC => ?_)
  refine lv_iconst (v := (0 : Int32)) hx hb dz_half_254 (by decide) ?_
  exact (zwi_out hret) _ _ _ _ dz_half_255 hC  (nw_i _)
def fz_half_230 (k : kSz) (v2 : Int32) (v4 : Int32) (v14 : Int64) : Int32 × kSz :=
  if v4 < (2 : Int32) then
    fz_half_246 k v2 v14
  else
    if v4 = (3 : Int32) then
      if v2 ≤ 0 then
        ((0 : Int32), k)
      else
        fz_half_246 k v2 v14
    else
      ((0 : Int32), k)
set_option maxRecDepth 100000 in
set_option maxHeartbeats 4000000 in
theorem wz_half_230 {k : kSz} {v2 : Int32} {v4 : Int32} {v14 : Int64} {H : Heap} {locs : List Loc} {ls : Array Slot} (E : zE p s m args c cz_half 16 D cA h0 q) (hC : zC D cA h0 q s.heap k H locs) (hl : lv_has ls 16 [(0, .ref h0), (2, .int v2), (4, .int v4), (14, .long v14)]) (hae : vp_in v2 4096) (hret : zwi p l env (rmD 1) s m args below meth c cz_half D cA h0 q .int Q (fz_half_230 k v2 v4 v14)) : W p l env (rmD 1) s m args below meth c H locs 0 0 Q (F0 m 230 ls []) := by
  have hx := E.1.1; have hb := E.1.2.1
  unfold fz_half_230 at hret
  refine lv_iload hx hb dz_half_230 (lv_at hl 2 rfl) ?_
  refine lv_iconst (v := (2 : Int32)) hx hb dz_half_232 (by decide) ?_
  refine lv_icmp_lt (tgt := 246) hx hb dz_half_233 (by decide) (fun h1 => ?_) (fun h1 => ?_)
  · rw [if_pos h1] at hret
    exact wz_half_246 E hC (lv_sub hl [0, 1, 3] rfl) (hae) hret
  · rw [if_neg h1] at hret
    refine lv_iload hx hb dz_half_236 (lv_at hl 2 rfl) ?_
    refine lv_iconst (v := (3 : Int32)) hx hb dz_half_238 (by decide) ?_
    refine lv_icmp_ne (tgt := 254) hx hb dz_half_239 (by decide) (fun h2 => ?_) (fun h2 => ?_)
    · rw [if_neg h2] at hret
      refine lv_iconst (v := (0 : Int32)) hx hb dz_half_254 (by decide) ?_
      exact (zwi_out hret) _ _ _ _ dz_half_255 hC  (nw_i _)
    · rw [if_pos h2] at hret
      refine lv_iload_n hx hb dz_half_242 rfl (lv_at hl 1 rfl) ?_
      refine lv_if_le (tgt := 254) hx hb dz_half_243 (by decide) (fun h3 => ?_) (fun h3 => ?_)
      · rw [if_pos h3] at hret
        refine lv_iconst (v := (0 : Int32)) hx hb dz_half_254 (by decide) ?_
        exact (zwi_out hret) _ _ _ _ dz_half_255 hC  (nw_i _)
      · rw [if_neg h3] at hret
        exact wz_half_246 E hC (lv_sub hl [0, 1, 3] rfl) (hae) hret
def fz_half_214 (k : kSz) (v2 : Int32) (v3 : Int32) (v4 : Int32) (t0 : Int64) : Int32 × kSz :=
  if v4 < (2 : Int32) then
    fz_half_230 k v2 v4 t0
  else
    fz_half_230 (stz k v3 t0) v2 v4 t0
set_option maxRecDepth 100000 in
set_option maxHeartbeats 4000000 in
theorem wz_half_214 {k : kSz} {v2 : Int32} {v3 : Int32} {v4 : Int32} {t0 : Int64} {H : Heap} {locs : List Loc} {ls : Array Slot} (E : zE p s m args c cz_half 16 D cA h0 q) (hC : zC D cA h0 q s.heap k H locs) (hl : lv_has ls 16 [(0, .ref h0), (2, .int v2), (3, .int v3), (4, .int v4)]) (hae : vp_in v2 4096) (hee : 0 ≤ v3) (he : ¬ v4 = 1 → vp_in v3 4096) (hret : zwi p l env (rmD 1) s m args below meth c cz_half D cA h0 q .int Q (fz_half_214 k v2 v3 v4 t0)) : W p l env (rmD 1) s m args below meth c H locs 0 0 Q (F0 m 214 ls [.long t0]) := by
  have hx := E.1.1; have hb := E.1.2.1
  unfold fz_half_214 at hret
  refine lv_lstore (lv' := [(14, .long t0), (0, .ref h0), (2, .int v2), (3, .int v3), (4, .int v4)]) hx hb dz_half_214 hl (by decide) rfl (fun ls hl => ?_)
  refine lv_iload hx hb dz_half_216 (lv_at hl 4 rfl) ?_
  refine lv_iconst (v := (2 : Int32)) hx hb dz_half_218 (by decide) ?_
  refine lv_icmp_lt (tgt := 230) hx hb dz_half_219 (by decide) (fun h1 => ?_) (fun h1 => ?_)
  · rw [if_pos h1] at hret
    exact wz_half_230 E hC (lv_sub hl [1, 2, 4, 0] rfl) (hae) hret
  · rw [if_neg h1] at hret
    refine lv_aload_n hx hb dz_half_222 rfl (lv_at hl 1 rfl) ?_
    refine zg_words E hC dz_half_223 ?_
    refine lv_iload_n hx hb dz_half_226 rfl (lv_at hl 3 rfl) ?_
    refine lv_lload hx hb dz_half_227 (lv_at hl 0 rfl) ?_
    refine zst E hC (he (ne1_nlt2 h1)) dz_half_229 (fun H locs hC => ?_)
    exact wz_half_230 E hC (lv_sub hl [1, 2, 4, 0] rfl) (hae) hret
def fz_half_190 (k : kSz) (v2 : Int32) (v3 : Int32) (v4 : Int32) (v6 : Int32) (v12 : Int32) (t0 : Int32) : Int32 × kSz :=
  if v6 = 0 then
    fz_half_214 k v2 v3 v4 (fz_halves v12 t0)
  else
    fz_half_214 k v2 v3 v4 (fz_halves t0 v12)
set_option maxRecDepth 100000 in
set_option maxHeartbeats 4000000 in
theorem wz_half_190 {k : kSz} {v2 : Int32} {v3 : Int32} {v4 : Int32} {v6 : Int32} {v12 : Int32} {t0 : Int32} {H : Heap} {locs : List Loc} {ls : Array Slot} (E : zE p s m args c cz_half 16 D cA h0 q) (hC : zC D cA h0 q s.heap k H locs) (hl : lv_has ls 16 [(0, .ref h0), (2, .int v2), (3, .int v3), (4, .int v4), (6, .int v6), (12, .int v12)]) (hae : vp_in v2 4096) (hee : 0 ≤ v3) (he : ¬ v4 = 1 → vp_in v3 4096) (hret : zwi p l env (rmD 1) s m args below meth c cz_half D cA h0 q .int Q (fz_half_190 k v2 v3 v4 v6 v12 t0)) : W p l env (rmD 1) s m args below meth c H locs 0 0 Q (F0 m 190 ls [.int t0]) := by
  have hx := E.1.1; have hb := E.1.2.1
  unfold fz_half_190 at hret
  refine lv_istore (lv' := [(13, .int t0), (0, .ref h0), (2, .int v2), (3, .int v3), (4, .int v4), (6, .int v6), (12, .int v12)]) hx hb dz_half_190 hl (by decide) rfl (fun ls hl => ?_)
  refine lv_iload hx hb dz_half_192 (lv_at hl 5 rfl) ?_
  refine lv_if_eq (tgt := 207) hx hb dz_half_194 (by decide) (fun h1 => ?_) (fun h1 => ?_)
  · rw [if_pos h1] at hret
    refine lv_iload hx hb dz_half_207 (lv_at hl 6 rfl) ?_
    refine lv_iload hx hb dz_half_209 (lv_at hl 0 rfl) ?_
    refine kz_halves_in_z E.1 hl.1 (by decide) (Nat.le_of_ble_eq_true rfl) dz_half_211 ?_
    exact wz_half_214 E hC (lv_sub hl [1, 2, 3, 4] rfl) (hae) (hee) (he) hret
  · rw [if_neg h1] at hret
    refine lv_iload hx hb dz_half_197 (lv_at hl 0 rfl) ?_
    refine lv_iload hx hb dz_half_199 (lv_at hl 6 rfl) ?_
    refine kz_halves_in_z E.1 hl.1 (by decide) (Nat.le_of_ble_eq_true rfl) dz_half_201 ?_
    refine lv_goto (tgt := 214) hx hb dz_half_204 (by decide) ?_
    exact wz_half_214 E hC (lv_sub hl [1, 2, 3, 4] rfl) (hae) (hee) (he) hret
def fz_half_184 (k : kSz) (v2 : Int32) (v3 : Int32) (v4 : Int32) (v6 : Int32) (v12 : Int32) : Int32 × kSz :=
  fz_half_190 k v2 v3 v4 v6 v12 (262143 : Int32)
set_option maxRecDepth 100000 in
set_option maxHeartbeats 4000000 in
theorem wz_half_184 {k : kSz} {v2 : Int32} {v3 : Int32} {v4 : Int32} {v6 : Int32} {v12 : Int32} {H : Heap} {locs : List Loc} {ls : Array Slot} (E : zE p s m args c cz_half 16 D cA h0 q) (hC : zC D cA h0 q s.heap k H locs) (hl : lv_has ls 16 [(0, .ref h0), (2, .int v2), (3, .int v3), (4, .int v4), (6, .int v6), (12, .int v12)]) (hae : vp_in v2 4096) (hee : 0 ≤ v3) (he : ¬ v4 = 1 → vp_in v3 4096) (hret : zwi p l env (rmD 1) s m args below meth c cz_half D cA h0 q .int Q (fz_half_184 k v2 v3 v4 v6 v12)) : W p l env (rmD 1) s m args below meth c H locs 0 0 Q (F0 m 184 ls []) := by
  have hx := E.1.1; have hb := E.1.2.1
  unfold fz_half_184 at hret
  refine lv_ldc hx hb E.1.2.2.2.1 (E.1.2.2.2.2 _ ct_z_9) dz_half_184 ?_
  refine lv_goto (tgt := 190) hx hb dz_half_186 (by decide) ?_
  exact wz_half_190 E hC (lv_sub hl [0, 1, 2, 3, 4, 5] rfl) (hae) (hee) (he) hret
def fz_half_131 (k : kSz) (v2 : Int32) (v3 : Int32) (v4 : Int32) (v5 : Int32) (v6 : Int32) (v10 : Int64) (t0 : Int32) : Int32 × kSz :=
  if v5 = 0 then
    if v6 = 0 then
      fz_half_190 k v2 v3 v4 v6 t0 (fz_right v10)
    else
      fz_half_190 k v2 v3 v4 v6 t0 (fz_left v10)
  else
    if v5 = (1 : Int32) then
      fz_half_190 k v2 v3 v4 v6 t0 (0 : Int32)
    else
      if v5 = (2 : Int32) then
        fz_half_184 k v2 v3 v4 v6 t0
      else
        if (t0 >>> ((17 : Int32) &&& 31)) = (1 : Int32) then
          fz_half_184 k v2 v3 v4 v6 t0
        else
          fz_half_190 k v2 v3 v4 v6 t0 (0 : Int32)
set_option maxRecDepth 100000 in
set_option maxHeartbeats 4000000 in
theorem wz_half_131 {k : kSz} {v2 : Int32} {v3 : Int32} {v4 : Int32} {v5 : Int32} {v6 : Int32} {v10 : Int64} {t0 : Int32} {H : Heap} {locs : List Loc} {ls : Array Slot} (E : zE p s m args c cz_half 16 D cA h0 q) (hC : zC D cA h0 q s.heap k H locs) (hl : lv_has ls 16 [(0, .ref h0), (2, .int v2), (3, .int v3), (4, .int v4), (5, .int v5), (6, .int v6), (10, .long v10)]) (hae : vp_in v2 4096) (hee : 0 ≤ v3) (he : ¬ v4 = 1 → vp_in v3 4096) (hret : zwi p l env (rmD 1) s m args below meth c cz_half D cA h0 q .int Q (fz_half_131 k v2 v3 v4 v5 v6 v10 t0)) : W p l env (rmD 1) s m args below meth c H locs 0 0 Q (F0 m 131 ls [.int t0]) := by
  have hx := E.1.1; have hb := E.1.2.1
  unfold fz_half_131 at hret
  refine lv_istore (lv' := [(12, .int t0), (0, .ref h0), (2, .int v2), (3, .int v3), (4, .int v4), (5, .int v5), (6, .int v6), (10, .long v10)]) hx hb dz_half_131 hl (by decide) rfl (fun ls hl => ?_)
  refine lv_iload hx hb dz_half_133 (lv_at hl 5 rfl) ?_
  refine lv_if_ne (tgt := 159) hx hb dz_half_135 (by decide) (fun h1 => ?_) (fun h1 => ?_)
  · rw [if_neg h1] at hret
    refine lv_iload hx hb dz_half_159 (lv_at hl 5 rfl) ?_
    refine lv_iconst (v := (1 : Int32)) hx hb dz_half_161 (by decide) ?_
    refine lv_icmp_ne (tgt := 169) hx hb dz_half_162 (by decide) (fun h2 => ?_) (fun h2 => ?_)
    · rw [if_neg h2] at hret
      refine lv_iload hx hb dz_half_169 (lv_at hl 5 rfl) ?_
      refine lv_iconst (v := (2 : Int32)) hx hb dz_half_171 (by decide) ?_
      refine lv_icmp_eq (tgt := 184) hx hb dz_half_172 (by decide) (fun h3 => ?_) (fun h3 => ?_)
      · rw [if_pos h3] at hret
        exact wz_half_184 E hC (lv_sub hl [1, 2, 3, 4, 6, 0] rfl) (hae) (hee) (he) hret
      · rw [if_neg h3] at hret
        refine lv_iload hx hb dz_half_175 (lv_at hl 0 rfl) ?_
        refine lv_bipush (v := (17 : Int32)) hx hb dz_half_177 (by decide) ?_
        refine lv_ishr hx hb dz_half_179 ?_
        refine lv_iconst (v := (1 : Int32)) hx hb dz_half_180 (by decide) ?_
        refine lv_icmp_ne (tgt := 189) hx hb dz_half_181 (by decide) (fun h4 => ?_) (fun h4 => ?_)
        · rw [if_neg h4] at hret
          refine lv_iconst (v := (0 : Int32)) hx hb dz_half_189 (by decide) ?_
          exact wz_half_190 E hC (lv_sub hl [1, 2, 3, 4, 6, 0] rfl) (hae) (hee) (he) hret
        · rw [if_pos h4] at hret
          exact wz_half_184 E hC (lv_sub hl [1, 2, 3, 4, 6, 0] rfl) (hae) (hee) (he) hret
    · rw [if_pos h2] at hret
      refine lv_iconst (v := (0 : Int32)) hx hb dz_half_165 (by decide) ?_
      refine lv_goto (tgt := 190) hx hb dz_half_166 (by decide) ?_
      exact wz_half_190 E hC (lv_sub hl [1, 2, 3, 4, 6, 0] rfl) (hae) (hee) (he) hret
  · rw [if_pos h1] at hret
    refine lv_iload hx hb dz_half_138 (lv_at hl 6 rfl) ?_
    refine lv_if_eq (tgt := 151) hx hb dz_half_140 (by decide) (fun h5 => ?_) (fun h5 => ?_)
    · rw [if_pos h5] at hret
      refine lv_lload hx hb dz_half_151 (lv_at hl 7 rfl) ?_
      refine kz_right_in_z E.1 hl.1 (by decide) (Nat.le_of_ble_eq_true rfl) dz_half_153 ?_
      refine lv_goto (tgt := 190) hx hb dz_half_156 (by decide) ?_
      exact wz_half_190 E hC (lv_sub hl [1, 2, 3, 4, 6, 0] rfl) (hae) (hee) (he) hret
    · rw [if_neg h5] at hret
      refine lv_lload hx hb dz_half_143 (lv_at hl 7 rfl) ?_
      refine kz_left_in_z E.1 hl.1 (by decide) (Nat.le_of_ble_eq_true rfl) dz_half_145 ?_
      refine lv_goto (tgt := 190) hx hb dz_half_148 (by decide) ?_
      exact wz_half_190 E hC (lv_sub hl [1, 2, 3, 4, 6, 0] rfl) (hae) (hee) (he) hret
def fz_half_109 (k : kSz) (v2 : Int32) (v3 : Int32) (v4 : Int32) (v5 : Int32) (v6 : Int32) (v7 : Int32) (v8 : Int64) (t0 : Int64) : Int32 × kSz :=
  if v6 = v7 then
    fz_half_131 k v2 v3 v4 v5 v6 t0 (fz_left v8)
  else
    fz_half_131 k v2 v3 v4 v5 v6 t0 (fz_right v8)
set_option maxRecDepth 100000 in
set_option maxHeartbeats 4000000 in
theorem wz_half_109 {k : kSz} {v2 : Int32} {v3 : Int32} {v4 : Int32} {v5 : Int32} {v6 : Int32} {v7 : Int32} {v8 : Int64} {t0 : Int64} {H : Heap} {locs : List Loc} {ls : Array Slot} (E : zE p s m args c cz_half 16 D cA h0 q) (hC : zC D cA h0 q s.heap k H locs) (hl : lv_has ls 16 [(0, .ref h0), (2, .int v2), (3, .int v3), (4, .int v4), (5, .int v5), (6, .int v6), (7, .int v7), (8, .long v8)]) (hae : vp_in v2 4096) (hee : 0 ≤ v3) (he : ¬ v4 = 1 → vp_in v3 4096) (hret : zwi p l env (rmD 1) s m args below meth c cz_half D cA h0 q .int Q (fz_half_109 k v2 v3 v4 v5 v6 v7 v8 t0)) : W p l env (rmD 1) s m args below meth c H locs 0 0 Q (F0 m 109 ls [.long t0]) := by
  have hx := E.1.1; have hb := E.1.2.1
  unfold fz_half_109 at hret
  refine lv_lstore (lv' := [(10, .long t0), (0, .ref h0), (2, .int v2), (3, .int v3), (4, .int v4), (5, .int v5), (6, .int v6), (7, .int v7), (8, .long v8)]) hx hb dz_half_109 hl (by decide) rfl (fun ls hl => ?_)
  refine lv_iload hx hb dz_half_111 (lv_at hl 6 rfl) ?_
  refine lv_iload hx hb dz_half_113 (lv_at hl 7 rfl) ?_
  refine lv_icmp_eq (tgt := 126) hx hb dz_half_115 (by decide) (fun h1 => ?_) (fun h1 => ?_)
  · rw [if_pos h1] at hret
    refine lv_lload hx hb dz_half_126 (lv_at hl 8 rfl) ?_
    refine kz_left_in_z E.1 hl.1 (by decide) (Nat.le_of_ble_eq_true rfl) dz_half_128 ?_
    exact wz_half_131 E hC (lv_sub hl [1, 2, 3, 4, 5, 6, 0] rfl) (hae) (hee) (he) hret
  · rw [if_neg h1] at hret
    refine lv_lload hx hb dz_half_118 (lv_at hl 8 rfl) ?_
    refine kz_right_in_z E.1 hl.1 (by decide) (Nat.le_of_ble_eq_true rfl) dz_half_120 ?_
    refine lv_goto (tgt := 131) hx hb dz_half_123 (by decide) ?_
    exact wz_half_131 E hC (lv_sub hl [1, 2, 3, 4, 5, 6, 0] rfl) (hae) (hee) (he) hret
def fz_half_86 (k : kSz) (v2 : Int32) (v3 : Int32) (v4 : Int32) (v5 : Int32) (v6 : Int32) (v7 : Int32) (t0 : Int64) : Int32 × kSz :=
  if (2 : Int32) ≤ v4 then
    fz_half_109 k v2 v3 v4 v5 v6 v7 t0 (ldz k v3)
  else
    fz_half_109 k v2 v3 v4 v5 v6 v7 t0 (ldz k v2)
set_option maxRecDepth 100000 in
set_option maxHeartbeats 4000000 in
theorem wz_half_86 {k : kSz} {v2 : Int32} {v3 : Int32} {v4 : Int32} {v5 : Int32} {v6 : Int32} {v7 : Int32} {t0 : Int64} {H : Heap} {locs : List Loc} {ls : Array Slot} (E : zE p s m args c cz_half 16 D cA h0 q) (hC : zC D cA h0 q s.heap k H locs) (hl : lv_has ls 16 [(0, .ref h0), (2, .int v2), (3, .int v3), (4, .int v4), (5, .int v5), (6, .int v6), (7, .int v7)]) (hae : vp_in v2 4096) (hee : 0 ≤ v3) (he : ¬ v4 = 1 → vp_in v3 4096) (hret : zwi p l env (rmD 1) s m args below meth c cz_half D cA h0 q .int Q (fz_half_86 k v2 v3 v4 v5 v6 v7 t0)) : W p l env (rmD 1) s m args below meth c H locs 0 0 Q (F0 m 86 ls [.long t0]) := by
  have hx := E.1.1; have hb := E.1.2.1
  unfold fz_half_86 at hret
  refine lv_lstore (lv' := [(8, .long t0), (0, .ref h0), (2, .int v2), (3, .int v3), (4, .int v4), (5, .int v5), (6, .int v6), (7, .int v7)]) hx hb dz_half_86 hl (by decide) rfl (fun ls hl => ?_)
  refine lv_iload hx hb dz_half_88 (lv_at hl 4 rfl) ?_
  refine lv_iconst (v := (2 : Int32)) hx hb dz_half_90 (by decide) ?_
  refine lv_icmp_ge (tgt := 103) hx hb dz_half_91 (by decide) (fun h1 => ?_) (fun h1 => ?_)
  · rw [if_pos h1] at hret
    refine lv_aload_n hx hb dz_half_103 rfl (lv_at hl 1 rfl) ?_
    refine zg_words E hC dz_half_104 ?_
    refine lv_iload_n hx hb dz_half_107 rfl (lv_at hl 3 rfl) ?_
    refine zld E hC (he (ne1_le2 h1)) dz_half_108 ?_
    exact wz_half_109 E hC (lv_sub hl [1, 2, 3, 4, 5, 6, 7, 0] rfl) (hae) (hee) (he) hret
  · rw [if_neg h1] at hret
    refine lv_aload_n hx hb dz_half_94 rfl (lv_at hl 1 rfl) ?_
    refine zg_words E hC dz_half_95 ?_
    refine lv_iload_n hx hb dz_half_98 rfl (lv_at hl 2 rfl) ?_
    refine zld E hC (hae) dz_half_99 ?_
    refine lv_goto (tgt := 109) hx hb dz_half_100 (by decide) ?_
    exact wz_half_109 E hC (lv_sub hl [1, 2, 3, 4, 5, 6, 7, 0] rfl) (hae) (hee) (he) hret
def fz_half_52 (k : kSz) (v2 : Int32) (v3 : Int32) (v4 : Int32) (v5 : Int32) (v6 : Int32) (t0 : Int32) : Int32 × kSz :=
  if v4 = (1 : Int32) then
    fz_half_86 k v2 v3 v4 v5 v6 t0 v3.toInt64
  else
    if v4 = (2 : Int32) then
      fz_half_86 k v2 v3 v4 v5 v6 t0 (ldz k v2)
    else
      fz_half_86 k v2 v3 v4 v5 v6 t0 (ldz k v3)
set_option maxRecDepth 100000 in
set_option maxHeartbeats 4000000 in
theorem wz_half_52 {k : kSz} {v2 : Int32} {v3 : Int32} {v4 : Int32} {v5 : Int32} {v6 : Int32} {t0 : Int32} {H : Heap} {locs : List Loc} {ls : Array Slot} (E : zE p s m args c cz_half 16 D cA h0 q) (hC : zC D cA h0 q s.heap k H locs) (hl : lv_has ls 16 [(0, .ref h0), (2, .int v2), (3, .int v3), (4, .int v4), (5, .int v5), (6, .int v6)]) (hae : vp_in v2 4096) (hee : 0 ≤ v3) (he : ¬ v4 = 1 → vp_in v3 4096) (hret : zwi p l env (rmD 1) s m args below meth c cz_half D cA h0 q .int Q (fz_half_52 k v2 v3 v4 v5 v6 t0)) : W p l env (rmD 1) s m args below meth c H locs 0 0 Q (F0 m 52 ls [.int t0]) := by
  have hx := E.1.1; have hb := E.1.2.1
  unfold fz_half_52 at hret
  refine lv_istore (lv' := [(7, .int t0), (0, .ref h0), (2, .int v2), (3, .int v3), (4, .int v4), (5, .int v5), (6, .int v6)]) hx hb dz_half_52 hl (by decide) rfl (fun ls hl => ?_)
  refine lv_iload hx hb dz_half_54 (lv_at hl 4 rfl) ?_
  refine lv_iconst (v := (1 : Int32)) hx hb dz_half_56 (by decide) ?_
  refine lv_icmp_ne (tgt := 65) hx hb dz_half_57 (by decide) (fun h1 => ?_) (fun h1 => ?_)
  · rw [if_neg h1] at hret
    refine lv_iload hx hb dz_half_65 (lv_at hl 4 rfl) ?_
    refine lv_iconst (v := (2 : Int32)) hx hb dz_half_67 (by decide) ?_
    refine lv_icmp_ne (tgt := 80) hx hb dz_half_68 (by decide) (fun h2 => ?_) (fun h2 => ?_)
    · rw [if_neg h2] at hret
      refine lv_aload_n hx hb dz_half_80 rfl (lv_at hl 1 rfl) ?_
      refine zg_words E hC dz_half_81 ?_
      refine lv_iload_n hx hb dz_half_84 rfl (lv_at hl 3 rfl) ?_
      refine zld E hC (he h1) dz_half_85 ?_
      exact wz_half_86 E hC (lv_sub hl [1, 2, 3, 4, 5, 6, 0] rfl) (hae) (hee) (he) hret
    · rw [if_pos h2] at hret
      refine lv_aload_n hx hb dz_half_71 rfl (lv_at hl 1 rfl) ?_
      refine zg_words E hC dz_half_72 ?_
      refine lv_iload_n hx hb dz_half_75 rfl (lv_at hl 2 rfl) ?_
      refine zld E hC (hae) dz_half_76 ?_
      refine lv_goto (tgt := 86) hx hb dz_half_77 (by decide) ?_
      exact wz_half_86 E hC (lv_sub hl [1, 2, 3, 4, 5, 6, 0] rfl) (hae) (hee) (he) hret
  · rw [if_pos h1] at hret
    refine lv_iload_n hx hb dz_half_60 rfl (lv_at hl 3 rfl) ?_
    refine lv_i2l hx hb dz_half_61 rfl ?_
    refine lv_goto (tgt := 86) hx hb dz_half_62 (by decide) ?_
    exact wz_half_86 E hC (lv_sub hl [1, 2, 3, 4, 5, 6, 0] rfl) (hae) (hee) (he) hret
def fz_half_39 (k : kSz) (v1 : Int32) (v2 : Int32) (v3 : Int32) (v4 : Int32) (v5 : Int32) (t0 : Int32) : Int32 × kSz :=
  if (v1 &&& (4 : Int32)) = 0 then
    fz_half_52 k v2 v3 v4 v5 t0 (0 : Int32)
  else
    fz_half_52 k v2 v3 v4 v5 t0 (1 : Int32)
set_option maxRecDepth 100000 in
set_option maxHeartbeats 4000000 in
theorem wz_half_39 {k : kSz} {v1 : Int32} {v2 : Int32} {v3 : Int32} {v4 : Int32} {v5 : Int32} {t0 : Int32} {H : Heap} {locs : List Loc} {ls : Array Slot} (E : zE p s m args c cz_half 16 D cA h0 q) (hC : zC D cA h0 q s.heap k H locs) (hl : lv_has ls 16 [(0, .ref h0), (1, .int v1), (2, .int v2), (3, .int v3), (4, .int v4), (5, .int v5)]) (hae : vp_in v2 4096) (hee : 0 ≤ v3) (he : ¬ v4 = 1 → vp_in v3 4096) (hret : zwi p l env (rmD 1) s m args below meth c cz_half D cA h0 q .int Q (fz_half_39 k v1 v2 v3 v4 v5 t0)) : W p l env (rmD 1) s m args below meth c H locs 0 0 Q (F0 m 39 ls [.int t0]) := by
  have hx := E.1.1; have hb := E.1.2.1
  unfold fz_half_39 at hret
  refine lv_istore (lv' := [(6, .int t0), (0, .ref h0), (1, .int v1), (2, .int v2), (3, .int v3), (4, .int v4), (5, .int v5)]) hx hb dz_half_39 hl (by decide) rfl (fun ls hl => ?_)
  refine lv_iload_n hx hb dz_half_41 rfl (lv_at hl 2 rfl) ?_
  refine lv_iconst (v := (4 : Int32)) hx hb dz_half_42 (by decide) ?_
  refine lv_iand hx hb dz_half_43 ?_
  refine lv_if_eq (tgt := 51) hx hb dz_half_44 (by decide) (fun h1 => ?_) (fun h1 => ?_)
  · rw [if_pos h1] at hret
    refine lv_iconst (v := (0 : Int32)) hx hb dz_half_51 (by decide) ?_
    exact wz_half_52 E hC (lv_sub hl [1, 3, 4, 5, 6, 0] rfl) (hae) (hee) (he) hret
  · rw [if_neg h1] at hret
    refine lv_iconst (v := (1 : Int32)) hx hb dz_half_47 (by decide) ?_
    refine lv_goto (tgt := 52) hx hb dz_half_48 (by decide) ?_
    exact wz_half_52 E hC (lv_sub hl [1, 3, 4, 5, 6, 0] rfl) (hae) (hee) (he) hret
def fz_half_27 (k : kSz) (v1 : Int32) (v2 : Int32) (v3 : Int32) (v4 : Int32) (v5 : Int32) : Int32 × kSz :=
  if (v1 &&& (32 : Int32)) = 0 then
    fz_half_39 k v1 v2 v3 v4 v5 (0 : Int32)
  else
    fz_half_39 k v1 v2 v3 v4 v5 (1 : Int32)
set_option maxRecDepth 100000 in
set_option maxHeartbeats 4000000 in
theorem wz_half_27 {k : kSz} {v1 : Int32} {v2 : Int32} {v3 : Int32} {v4 : Int32} {v5 : Int32} {H : Heap} {locs : List Loc} {ls : Array Slot} (E : zE p s m args c cz_half 16 D cA h0 q) (hC : zC D cA h0 q s.heap k H locs) (hl : lv_has ls 16 [(0, .ref h0), (1, .int v1), (2, .int v2), (3, .int v3), (4, .int v4), (5, .int v5)]) (hae : vp_in v2 4096) (hee : 0 ≤ v3) (he : ¬ v4 = 1 → vp_in v3 4096) (hret : zwi p l env (rmD 1) s m args below meth c cz_half D cA h0 q .int Q (fz_half_27 k v1 v2 v3 v4 v5)) : W p l env (rmD 1) s m args below meth c H locs 0 0 Q (F0 m 27 ls []) := by
  have hx := E.1.1; have hb := E.1.2.1
  unfold fz_half_27 at hret
  refine lv_iload_n hx hb dz_half_27 rfl (lv_at hl 1 rfl) ?_
  refine lv_bipush (v := (32 : Int32)) hx hb dz_half_28 (by decide) ?_
  refine lv_iand hx hb dz_half_30 ?_
  refine lv_if_eq (tgt := 38) hx hb dz_half_31 (by decide) (fun h1 => ?_) (fun h1 => ?_)
  · rw [if_pos h1] at hret
    refine lv_iconst (v := (0 : Int32)) hx hb dz_half_38 (by decide) ?_
    exact wz_half_39 E hC (lv_sub hl [0, 1, 2, 3, 4, 5] rfl) (hae) (hee) (he) hret
  · rw [if_neg h1] at hret
    refine lv_iconst (v := (1 : Int32)) hx hb dz_half_34 (by decide) ?_
    refine lv_goto (tgt := 39) hx hb dz_half_35 (by decide) ?_
    exact wz_half_39 E hC (lv_sub hl [0, 1, 2, 3, 4, 5] rfl) (hae) (hee) (he) hret
def fz_half (k : kSz) (v1 : Int32) (v2 : Int32) (v3 : Int32) : Int32 × kSz :=
  if (v1 &&& (3 : Int32)) = (1 : Int32) then
    fz_half_27 k v1 v2 v3 (v1 &&& (3 : Int32)) ((v1 >>> ((3 : Int32) &&& 31)) &&& (3 : Int32))
  else
    if (fz_isGone v3) = 0 then
      fz_half_27 k v1 v2 v3 (v1 &&& (3 : Int32)) ((v1 >>> ((3 : Int32) &&& 31)) &&& (3 : Int32))
    else
      ((2 : Int32), k)
set_option maxRecDepth 100000 in
set_option maxHeartbeats 4000000 in
theorem wz_half_0 {k : kSz} {v1 : Int32} {v2 : Int32} {v3 : Int32} {H : Heap} {locs : List Loc} {ls : Array Slot} (E : zE p s m args c cz_half 16 D cA h0 q) (hC : zC D cA h0 q s.heap k H locs) (hl : lv_has ls 16 [(0, .ref h0), (1, .int v1), (2, .int v2), (3, .int v3)]) (hae : vp_in v2 4096) (hee : 0 ≤ v3) (hret : zwi p l env (rmD 1) s m args below meth c cz_half D cA h0 q .int Q (fz_half k v1 v2 v3)) : W p l env (rmD 1) s m args below meth c H locs 0 0 Q (F0 m 0 ls []) := by
  have hx := E.1.1; have hb := E.1.2.1
  unfold fz_half at hret
  refine lv_iload_n hx hb dz_half_0 rfl (lv_at hl 1 rfl) ?_
  refine lv_iconst (v := (3 : Int32)) hx hb dz_half_1 (by decide) ?_
  refine lv_iand hx hb dz_half_2 ?_
  refine lv_istore (lv' := [(4, .int (v1 &&& (3 : Int32))), (0, .ref h0), (1, .int v1), (2, .int v2), (3, .int v3)]) hx hb dz_half_3 hl (by decide) rfl (fun ls hl => ?_)
  refine lv_iload_n hx hb dz_half_5 rfl (lv_at hl 2 rfl) ?_
  refine lv_iconst (v := (3 : Int32)) hx hb dz_half_6 (by decide) ?_
  refine lv_ishr hx hb dz_half_7 ?_
  refine lv_iconst (v := (3 : Int32)) hx hb dz_half_8 (by decide) ?_
  refine lv_iand hx hb dz_half_9 ?_
  refine lv_istore (lv' := [(5, .int ((v1 >>> ((3 : Int32) &&& 31)) &&& (3 : Int32))), (4, .int (v1 &&& (3 : Int32))), (0, .ref h0), (1, .int v1), (2, .int v2), (3, .int v3)]) hx hb dz_half_10 hl (by decide) rfl (fun ls hl => ?_)
  refine lv_iload hx hb dz_half_12 (lv_at hl 1 rfl) ?_
  refine lv_iconst (v := (1 : Int32)) hx hb dz_half_14 (by decide) ?_
  refine lv_icmp_eq (tgt := 27) hx hb dz_half_15 (by decide) (fun h1 => ?_) (fun h1 => ?_)
  · rw [if_pos h1] at hret
    exact wz_half_27 E hC (lv_sub hl [2, 3, 4, 5, 1, 0] rfl) (hae) (hee) (by first | assumption | exact lacks_he (by assumption) | (intro hh; exact absurd (by assumption) hh) | (intro _; exact vin_there (by assumption)) | (intro _; exact vin_gone (by assumption) (by assumption))) hret
  · rw [if_neg h1] at hret
    refine lv_iload_n hx hb dz_half_18 rfl (lv_at hl 5 rfl) ?_
    refine kz_isGone_in_z E.1 hl.1 (by decide) (Nat.le_of_ble_eq_true rfl) dz_half_19 ?_
    refine lv_if_eq (tgt := 27) hx hb dz_half_22 (by decide) (fun h2 => ?_) (fun h2 => ?_)
    · rw [if_pos h2] at hret
      exact wz_half_27 E hC (lv_sub hl [2, 3, 4, 5, 1, 0] rfl) (hae) (hee) (fun _ => vin_gone hee h2) hret
    · rw [if_neg h2] at hret
      refine lv_iconst (v := (2 : Int32)) hx hb dz_half_25 (by decide) ?_
      exact (zwi_out hret) _ _ _ _ dz_half_26 hC  (nw_i _)
set_option maxRecDepth 100000 in
set_option maxHeartbeats 4000000 in
theorem mz_half (l : Launch) (k : kSz) (v1 : Int32) (v2 : Int32) (v3 : Int32) (hae : vp_in v2 4096) (hee : 0 ≤ v3) : zMet l yz_half cz_half 16 (some .int) 1 [.int v1, .int v2, .int v3] k (some (.int (fz_half k v1 v2 v3).1)) (fz_half k v1 v2 v3).2  :=
  zMet.ofi (by decide) rfl (fun _ => Nat.le_of_ble_eq_true rfl) (fun D cA h0 q p env s m args below meth c ls Q E hC hl hret => wz_half_0 E hC (lv_sub hl [0, 1, 2, 3] rfl) hae hee hret)
theorem gkz_half : zYw R_z 92 yz_half cz_half 16 (some .int) 3 := ⟨wc_z_half, wl_z_92, wi_z_half, ws_z_half, wn_z, ⟨by decide, by decide, by decide +kernel⟩, by decide⟩
theorem kz_half {p : Program} {l : Launch} {env : Env} {s : State} {m : MethodId} {args : Array Value} {below : List Frame} {meth : Method} {c : Code} {H : Heap} {locs : List Loc} {Q : State → Prop} {cc : ByteArray} {pc nL d : Nat} {ls : Array Slot} {rest : List Value} {D : va_G} {cA : ClassId} {h0 q : Nat} {k : kSz} {v1 : Int32} {v2 : Int32} {v3 : Int32} (E : zE p s m args c cc nL D cA h0 q) (hls : ls.size = nL) (hC : zC D cA h0 q s.heap k H locs) (hae : vp_in v2 4096) (hee : 0 ≤ v3) (hd : 1 + 1 ≤ d) (hr : (rest.map fun v => v.category).sum ≤ 8) (hdg : decode cc pc = .ok (.invokevirtual 92, 3)) (kk : ∀ (H1 : Heap) (locs1 : List Loc), zC D cA h0 q s.heap (fz_half k v1 v2 v3).2  H1 locs1 → W p l env (rmD d) s m args below meth c H1 locs1 0 0 Q (F0 m (pc + 3) ls (.int (fz_half k v1 v2 v3).1 :: rest))) : W p l env (rmD d) s m args below meth c H locs 0 0 Q (F0 m pc ls (.int v3 :: .int v2 :: .int v1 :: .ref h0 :: rest)) :=
  zcall (av := [.int v1, .int v2, .int v3]) E (mz_half l k v1 v2 v3 hae hee) gkz_half rfl hls hC hd hr hdg kk
/-! TenMachineModel.next (JI)J -/
def fz_next (k : kSz) (v1 : Int64) (v3 : Int32) : Int64 × kSz :=
  if (fz_fits ((fz_signed v1) + v3.toInt64)) = 0 then
    ((((fz_signed v1) + v3.toInt64) &&& (68719476735 : Int64)), vz_ov k (1 : Int32))
  else
    ((((fz_signed v1) + v3.toInt64) &&& (68719476735 : Int64)), k)
set_option maxRecDepth 100000 in
set_option maxHeartbeats 4000000 in
theorem wz_next_0 {k : kSz} {v1 : Int64} {v3 : Int32} {H : Heap} {locs : List Loc} {ls : Array Slot} (E : zE p s m args c cz_next 6 D cA h0 q) (hC : zC D cA h0 q s.heap k H locs) (hl : lv_has ls 6 [(0, .ref h0), (1, .long v1), (3, .int v3)]) (hret : zwl p l env (rmD 1) s m args below meth c cz_next D cA h0 q .long Q (fz_next k v1 v3)) : W p l env (rmD 1) s m args below meth c H locs 0 0 Q (F0 m 0 ls []) := by
  have hx := E.1.1; have hb := E.1.2.1
  unfold fz_next at hret
  refine lv_lload_n hx hb dz_next_0 rfl (lv_at hl 1 rfl) ?_
  refine kz_signed_in_z E.1 hl.1 (by decide) (Nat.le_of_ble_eq_true rfl) dz_next_1 ?_
  refine lv_iload_n hx hb dz_next_4 rfl (lv_at hl 2 rfl) ?_
  refine lv_i2l hx hb dz_next_5 rfl ?_
  refine lv_ladd hx hb dz_next_6 ?_
  refine lv_lstore (lv' := [(4, .long ((fz_signed v1) + v3.toInt64)), (0, .ref h0), (1, .long v1), (3, .int v3)]) hx hb dz_next_7 hl (by decide) rfl (fun ls hl => ?_)
  refine lv_lload hx hb dz_next_9 (lv_at hl 0 rfl) ?_
  refine kz_fits_in_z E.1 hl.1 (by decide) (Nat.le_of_ble_eq_true rfl) dz_next_11 ?_
  refine lv_if_ne (tgt := 22) hx hb dz_next_14 (by decide) (fun h1 => ?_) (fun h1 => ?_)
  · rw [if_neg h1] at hret
    refine lv_lload hx hb dz_next_22 (lv_at hl 0 rfl) ?_
    refine lv_ldc2 hx hb E.1.2.2.2.1 (E.1.2.2.2.2 _ ct_z_7) dz_next_24 ?_
    refine lv_land hx hb dz_next_27 ?_
    exact (zwl_out hret) _ _ _ _ dz_next_28 hC  (nw_l _)
  · rw [if_pos h1] at hret
    refine lv_aload_n hx hb dz_next_17 rfl (lv_at hl 1 rfl) ?_
    refine lv_iconst (v := (1 : Int32)) hx hb dz_next_18 (by decide) ?_
    refine zp_overflow E hC rfl rfl dz_next_19 (fun H locs hC => ?_)
    refine lv_lload hx hb dz_next_22 (lv_at hl 0 rfl) ?_
    refine lv_ldc2 hx hb E.1.2.2.2.1 (E.1.2.2.2.2 _ ct_z_7) dz_next_24 ?_
    refine lv_land hx hb dz_next_27 ?_
    exact (zwl_out hret) _ _ _ _ dz_next_28 hC  (nw_l _)
set_option maxRecDepth 100000 in
set_option maxHeartbeats 4000000 in
theorem mz_next (l : Launch) (k : kSz) (v1 : Int64) (v3 : Int32) : zMet l yz_next cz_next 6 (some .long) 1 [.long v1, .int v3] k (some (.long (fz_next k v1 v3).1)) (fz_next k v1 v3).2  :=
  zMet.ofl (by decide) rfl (fun _ => Nat.le_of_ble_eq_true rfl) (fun D cA h0 q p env s m args below meth c ls Q E hC hl hret => wz_next_0 E hC (lv_sub hl [0, 1, 2] rfl) hret)
theorem gkz_next : zYw R_z 165 yz_next cz_next 6 (some .long) 2 := ⟨wc_z_next, wl_z_165, wi_z_next, ws_z_next, wn_z, ⟨by decide, by decide, by decide +kernel⟩, by decide⟩
theorem kz_next {p : Program} {l : Launch} {env : Env} {s : State} {m : MethodId} {args : Array Value} {below : List Frame} {meth : Method} {c : Code} {H : Heap} {locs : List Loc} {Q : State → Prop} {cc : ByteArray} {pc nL d : Nat} {ls : Array Slot} {rest : List Value} {D : va_G} {cA : ClassId} {h0 q : Nat} {k : kSz} {v1 : Int64} {v3 : Int32} (E : zE p s m args c cc nL D cA h0 q) (hls : ls.size = nL) (hC : zC D cA h0 q s.heap k H locs) (hd : 1 + 1 ≤ d) (hr : (rest.map fun v => v.category).sum ≤ 8) (hdg : decode cc pc = .ok (.invokevirtual 165, 3)) (kk : ∀ (H1 : Heap) (locs1 : List Loc), zC D cA h0 q s.heap (fz_next k v1 v3).2  H1 locs1 → W p l env (rmD d) s m args below meth c H1 locs1 0 0 Q (F0 m (pc + 3) ls (.long (fz_next k v1 v3).1 :: rest))) : W p l env (rmD d) s m args below meth c H locs 0 0 Q (F0 m pc ls (.int v3 :: .long v1 :: .ref h0 :: rest)) :=
  zcall (av := [.long v1, .int v3]) E (mz_next l k v1 v3) gkz_next rfl hls hC hd hr hdg kk
/-! TenMachineModel.shift (III)I -/
def fz_shift_92 (k : kSz) (v3 : Int32) (v7 : Int32) (t1 : Int32) (t2 : Int64) : Int32 × kSz :=
  if (36 : Int32) ≤ v7 then
    ((0 : Int32), stz k t1 t2)
  else
    ((0 : Int32), vz_bh (stz k t1 t2) v3)
set_option maxRecDepth 100000 in
set_option maxHeartbeats 4000000 in
theorem wz_shift_92 {k : kSz} {v3 : Int32} {v7 : Int32} {t1 : Int32} {t2 : Int64} {H : Heap} {locs : List Loc} {ls : Array Slot} (E : zE p s m args c cz_shift 12 D cA h0 q) (hC : zC D cA h0 q s.heap k H locs) (hl : lv_has ls 12 [(0, .ref h0), (3, .int v3), (7, .int v7)]) (hee : 0 ≤ v3) (hv1 : vp_in t1 4096) (hret : zwi p l env (rmD 1) s m args below meth c cz_shift D cA h0 q .int Q (fz_shift_92 k v3 v7 t1 t2)) : W p l env (rmD 1) s m args below meth c H locs 0 0 Q (F0 m 92 ls [.long t2, .int t1, .ref q]) := by
  have hx := E.1.1; have hb := E.1.2.1
  unfold fz_shift_92 at hret
  refine zst E hC (hv1) dz_shift_92 (fun H locs hC => ?_)
  refine lv_iload hx hb dz_shift_93 (lv_at hl 2 rfl) ?_
  refine lv_bipush (v := (36 : Int32)) hx hb dz_shift_95 (by decide) ?_
  refine lv_icmp_ge (tgt := 105) hx hb dz_shift_97 (by decide) (fun h1 => ?_) (fun h1 => ?_)
  · rw [if_pos h1] at hret
    refine lv_iconst (v := (0 : Int32)) hx hb dz_shift_105 (by decide) ?_
    exact (zwi_out hret) _ _ _ _ dz_shift_106 hC  (nw_i _)
  · rw [if_neg h1] at hret
    refine lv_aload_n hx hb dz_shift_100 rfl (lv_at hl 0 rfl) ?_
    refine lv_iload_n hx hb dz_shift_101 rfl (lv_at hl 1 rfl) ?_
    refine zp_behind E hC dz_shift_102 (fun H locs hC => ?_)
    refine lv_iconst (v := (0 : Int32)) hx hb dz_shift_105 (by decide) ?_
    exact (zwi_out hret) _ _ _ _ dz_shift_106 hC  (nw_i _)
def fz_shift_68 (k : kSz) (v2 : Int32) (v3 : Int32) (v7 : Int32) : Int32 × kSz :=
  if v7 = (36 : Int32) then
    fz_shift_92 k v3 v7 ((v2 + (1 : Int32)) &&& (15 : Int32)) (0 : Int64)
  else
    fz_shift_92 k v3 v7 ((v2 + (1 : Int32)) &&& (15 : Int32)) v7.toInt64
set_option maxRecDepth 100000 in
set_option maxHeartbeats 4000000 in
theorem wz_shift_68 {k : kSz} {v2 : Int32} {v3 : Int32} {v7 : Int32} {H : Heap} {locs : List Loc} {ls : Array Slot} (E : zE p s m args c cz_shift 12 D cA h0 q) (hC : zC D cA h0 q s.heap k H locs) (hl : lv_has ls 12 [(0, .ref h0), (2, .int v2), (3, .int v3), (7, .int v7)]) (hae : vp_in v2 4096) (hee : 0 ≤ v3) (hret : zwi p l env (rmD 1) s m args below meth c cz_shift D cA h0 q .int Q (fz_shift_68 k v2 v3 v7)) : W p l env (rmD 1) s m args below meth c H locs 0 0 Q (F0 m 68 ls []) := by
  have hx := E.1.1; have hb := E.1.2.1
  unfold fz_shift_68 at hret
  refine lv_aload_n hx hb dz_shift_68 rfl (lv_at hl 0 rfl) ?_
  refine zg_words E hC dz_shift_69 ?_
  refine lv_iload_n hx hb dz_shift_72 rfl (lv_at hl 1 rfl) ?_
  refine lv_iconst (v := (1 : Int32)) hx hb dz_shift_73 (by decide) ?_
  refine lv_iadd hx hb dz_shift_74 ?_
  refine lv_bipush (v := (15 : Int32)) hx hb dz_shift_75 (by decide) ?_
  refine lv_iand hx hb dz_shift_77 ?_
  refine lv_iload hx hb dz_shift_78 (lv_at hl 3 rfl) ?_
  refine lv_bipush (v := (36 : Int32)) hx hb dz_shift_80 (by decide) ?_
  refine lv_icmp_ne (tgt := 89) hx hb dz_shift_82 (by decide) (fun h1 => ?_) (fun h1 => ?_)
  · rw [if_neg h1] at hret
    refine lv_iload hx hb dz_shift_89 (lv_at hl 3 rfl) ?_
    refine lv_i2l hx hb dz_shift_91 rfl ?_
    exact wz_shift_92 E hC (lv_sub hl [0, 2, 3] rfl) (hee) (vin15 _) hret
  · rw [if_pos h1] at hret
    refine lv_lconst (v := (0 : Int64)) hx hb dz_shift_85 (by decide) ?_
    refine lv_goto (tgt := 92) hx hb dz_shift_86 (by decide) ?_
    exact wz_shift_92 E hC (lv_sub hl [0, 2, 3] rfl) (hee) (vin15 _) hret
def fz_shift_40 : Nat → kSz → Int32 → Int32 → Int64 → Int32 → Int32 × kSz
  | 0, k, v2, v3, v5, v7 => (0, k)
  | n + 1, k, v2, v3, v5, v7 =>
    if (36 : Int32) ≤ v7 then
      fz_shift_68 k v2 v3 v7
    else
      if ((v5 >>> (((35 : Int32) - v7).toInt64 &&& 63)) &&& (1 : Int64)) = (0 : Int64) then
        fz_shift_40 n k v2 v3 v5 (v7 + 1)
      else
        fz_shift_68 k v2 v3 v7
set_option maxRecDepth 100000 in
set_option maxHeartbeats 4000000 in
theorem wz_shift_40 (E : zE p s m args c cz_shift 12 D cA h0 q) : ∀ (n : Nat) (k : kSz) (v2 : Int32) (v3 : Int32) (v5 : Int64) (v7 : Int32) (H : Heap) (locs : List Loc) (ls : Array Slot), zC D cA h0 q s.heap k H locs → lv_has ls 12 [(0, .ref h0), (2, .int v2), (3, .int v3), (5, .long v5), (7, .int v7)] → (vp_in v2 4096) → (0 ≤ v3) → (36 - v7.toInt).toNat < n → zwi p l env (rmD 1) s m args below meth c cz_shift D cA h0 q .int Q (fz_shift_40 n k v2 v3 v5 v7) → W p l env (rmD 1) s m args below meth c H locs 0 0 Q (F0 m 40 ls []) := by
  have hx := E.1.1; have hb := E.1.2.1
  intro n
  induction n with
  | zero => intro k v2 v3 v5 v7 H locs ls hC hl hae hee hmu hret; exact absurd hmu (Nat.not_lt_zero _)
  | succ n ih =>
    intro k v2 v3 v5 v7 H locs ls hC hl hae hee hmu hret
    rw [fz_shift_40] at hret
    refine lv_iload hx hb dz_shift_40 (lv_at hl 4 rfl) ?_
    refine lv_bipush (v := (36 : Int32)) hx hb dz_shift_42 (by decide) ?_
    refine lv_icmp_ge (tgt := 68) hx hb dz_shift_44 (by decide) (fun h1 => ?_) (fun h1 => ?_)
    · rw [if_pos h1] at hret
      exact wz_shift_68 E hC (lv_sub hl [0, 1, 2, 4] rfl) (hae) (hee) hret
    · rw [if_neg h1] at hret
      refine lv_lload hx hb dz_shift_47 (lv_at hl 3 rfl) ?_
      refine lv_bipush (v := (35 : Int32)) hx hb dz_shift_49 (by decide) ?_
      refine lv_iload hx hb dz_shift_51 (lv_at hl 4 rfl) ?_
      refine lv_isub hx hb dz_shift_53 ?_
      refine lv_lshr hx hb dz_shift_54 rfl ?_
      refine lv_lconst (v := (1 : Int64)) hx hb dz_shift_55 (by decide) ?_
      refine lv_land hx hb dz_shift_56 ?_
      refine lv_lconst (v := (0 : Int64)) hx hb dz_shift_57 (by decide) ?_
      refine tt_lcmp_ne (tgt := 68) hx hb dz_shift_58 dz_shift_59 (by decide) (fun h2 => ?_) (fun h2 => ?_)
      · rw [if_neg h2] at hret
        exact wz_shift_68 E hC (lv_sub hl [0, 1, 2, 4] rfl) (hae) (hee) hret
      · rw [if_pos h2] at hret
        refine lv_iinc (v := (v7 + 1)) (lv' := [(7, .int (v7 + 1)), (0, .ref h0), (2, .int v2), (3, .int v3), (5, .long v5)]) hx hb dz_shift_62 hl (k := 4) rfl (by rfl) (by decide) rfl (fun ls hl => ?_)
        refine lv_goto (tgt := 40) hx hb dz_shift_65 (by decide) ?_
        exact ih _ _ _ _ _ _ _ _ hC (lv_sub hl [1, 2, 3, 4, 0] rfl) (by assumption) (by assumption) (mu_up36 (by assumption) hmu) hret
def fz_shift_114 : Nat → kSz → Int32 → Int32 → Int32 → Int64 → Int32 → Int32 × kSz
  | 0, k, v1, v2, v4, v5, v7 => (0, k)
  | n + 1, k, v1, v2, v4, v5, v7 =>
    if v7 ≤ 0 then
      ((0 : Int32), stz k v2 v5)
    else
      if v4 ≤ 0 then
        if v1 = 0 then
          fz_shift_114 n k v1 v2 v4 ((v5 >>> ((1 : Int32).toInt64 &&& 63)) ||| ((v5 >>> ((35 : Int32).toInt64 &&& 63)) <<< ((35 : Int32).toInt64 &&& 63))) (v7 + (-1))
        else
          if v1 = (1 : Int32) then
            fz_shift_114 n k v1 v2 v4 ((v5 >>> ((1 : Int32).toInt64 &&& 63)) ||| ((v5 &&& (1 : Int64)) <<< ((35 : Int32).toInt64 &&& 63))) (v7 + (-1))
          else
            fz_shift_114 n k v1 v2 v4 ((v5 >>> ((1 : Int32).toInt64 &&& 63)) ||| (0 : Int64)) (v7 + (-1))
      else
        if v1 = 0 then
          if ((v5 >>> ((34 : Int32).toInt64 &&& 63)) &&& (1 : Int64)) = (v5 >>> ((35 : Int32).toInt64 &&& 63)) then
            if v1 = 0 then
              fz_shift_114 n k v1 v2 v4 (((v5 >>> ((35 : Int32).toInt64 &&& 63)) <<< ((35 : Int32).toInt64 &&& 63)) ||| ((v5 <<< ((1 : Int32).toInt64 &&& 63)) &&& (34359738367 : Int64))) (v7 + (-1))
            else
              if v1 = (1 : Int32) then
                fz_shift_114 n k v1 v2 v4 (((v5 <<< ((1 : Int32).toInt64 &&& 63)) &&& (68719476735 : Int64)) ||| (v5 >>> ((35 : Int32).toInt64 &&& 63))) (v7 + (-1))
              else
                fz_shift_114 n k v1 v2 v4 (((v5 <<< ((1 : Int32).toInt64 &&& 63)) &&& (68719476735 : Int64)) ||| (0 : Int64)) (v7 + (-1))
          else
            if v1 = 0 then
              fz_shift_114 n (vz_ov k (1 : Int32)) v1 v2 v4 (((v5 >>> ((35 : Int32).toInt64 &&& 63)) <<< ((35 : Int32).toInt64 &&& 63)) ||| ((v5 <<< ((1 : Int32).toInt64 &&& 63)) &&& (34359738367 : Int64))) (v7 + (-1))
            else
              if v1 = (1 : Int32) then
                fz_shift_114 n (vz_ov k (1 : Int32)) v1 v2 v4 (((v5 <<< ((1 : Int32).toInt64 &&& 63)) &&& (68719476735 : Int64)) ||| (v5 >>> ((35 : Int32).toInt64 &&& 63))) (v7 + (-1))
              else
                fz_shift_114 n (vz_ov k (1 : Int32)) v1 v2 v4 (((v5 <<< ((1 : Int32).toInt64 &&& 63)) &&& (68719476735 : Int64)) ||| (0 : Int64)) (v7 + (-1))
        else
          if v1 = 0 then
            fz_shift_114 n k v1 v2 v4 (((v5 >>> ((35 : Int32).toInt64 &&& 63)) <<< ((35 : Int32).toInt64 &&& 63)) ||| ((v5 <<< ((1 : Int32).toInt64 &&& 63)) &&& (34359738367 : Int64))) (v7 + (-1))
          else
            if v1 = (1 : Int32) then
              fz_shift_114 n k v1 v2 v4 (((v5 <<< ((1 : Int32).toInt64 &&& 63)) &&& (68719476735 : Int64)) ||| (v5 >>> ((35 : Int32).toInt64 &&& 63))) (v7 + (-1))
            else
              fz_shift_114 n k v1 v2 v4 (((v5 <<< ((1 : Int32).toInt64 &&& 63)) &&& (68719476735 : Int64)) ||| (0 : Int64)) (v7 + (-1))
set_option maxRecDepth 100000 in
set_option maxHeartbeats 4000000 in
theorem wz_shift_114 (E : zE p s m args c cz_shift 12 D cA h0 q) : ∀ (n : Nat) (k : kSz) (v1 : Int32) (v2 : Int32) (v4 : Int32) (v5 : Int64) (v7 : Int32) (H : Heap) (locs : List Loc) (ls : Array Slot), zC D cA h0 q s.heap k H locs → lv_has ls 12 [(0, .ref h0), (1, .int v1), (2, .int v2), (4, .int v4), (5, .long v5), (7, .int v7)] → (vp_in v2 4096) → v7.toInt.toNat < n → zwi p l env (rmD 1) s m args below meth c cz_shift D cA h0 q .int Q (fz_shift_114 n k v1 v2 v4 v5 v7) → W p l env (rmD 1) s m args below meth c H locs 0 0 Q (F0 m 114 ls []) := by
  have hx := E.1.1; have hb := E.1.2.1
  intro n
  induction n with
  | zero => intro k v1 v2 v4 v5 v7 H locs ls hC hl hae hmu hret; exact absurd hmu (Nat.not_lt_zero _)
  | succ n ih =>
    intro k v1 v2 v4 v5 v7 H locs ls hC hl hae hmu hret
    rw [fz_shift_114] at hret
    refine lv_iload hx hb dz_shift_114 (lv_at hl 5 rfl) ?_
    refine lv_if_le (tgt := 244) hx hb dz_shift_116 (by decide) (fun h1 => ?_) (fun h1 => ?_)
    · rw [if_pos h1] at hret
      refine lv_aload_n hx hb dz_shift_244 rfl (lv_at hl 0 rfl) ?_
      refine zg_words E hC dz_shift_245 ?_
      refine lv_iload_n hx hb dz_shift_248 rfl (lv_at hl 2 rfl) ?_
      refine lv_lload hx hb dz_shift_249 (lv_at hl 4 rfl) ?_
      refine zst E hC (hae) dz_shift_251 (fun H locs hC => ?_)
      refine lv_iconst (v := (0 : Int32)) hx hb dz_shift_252 (by decide) ?_
      exact (zwi_out hret) _ _ _ _ dz_shift_253 hC  (nw_i _)
    · rw [if_neg h1] at hret
      refine lv_lload hx hb dz_shift_119 (lv_at hl 4 rfl) ?_
      refine lv_bipush (v := (35 : Int32)) hx hb dz_shift_121 (by decide) ?_
      refine lv_lshr hx hb dz_shift_123 rfl ?_
      refine lv_lstore (lv' := [(8, .long (v5 >>> ((35 : Int32).toInt64 &&& 63))), (0, .ref h0), (1, .int v1), (2, .int v2), (4, .int v4), (5, .long v5), (7, .int v7)]) hx hb dz_shift_124 hl (by decide) rfl (fun ls hl => ?_)
      refine lv_lload hx hb dz_shift_126 (lv_at hl 5 rfl) ?_
      refine lv_lconst (v := (1 : Int64)) hx hb dz_shift_128 (by decide) ?_
      refine lv_land hx hb dz_shift_129 ?_
      refine lv_lstore (lv' := [(10, .long (v5 &&& (1 : Int64))), (8, .long (v5 >>> ((35 : Int32).toInt64 &&& 63))), (0, .ref h0), (1, .int v1), (2, .int v2), (4, .int v4), (5, .long v5), (7, .int v7)]) hx hb dz_shift_130 hl (by decide) rfl (fun ls hl => ?_)
      refine lv_iload hx hb dz_shift_132 (lv_at hl 5 rfl) ?_
      refine lv_if_le (tgt := 205) hx hb dz_shift_134 (by decide) (fun h2 => ?_) (fun h2 => ?_)
      · rw [if_pos h2] at hret
        refine lv_lload hx hb dz_shift_205 (lv_at hl 6 rfl) ?_
        refine lv_iconst (v := (1 : Int32)) hx hb dz_shift_207 (by decide) ?_
        refine lv_lshr hx hb dz_shift_208 rfl ?_
        refine lv_iload_n hx hb dz_shift_209 rfl (lv_at hl 3 rfl) ?_
        refine lv_if_ne (tgt := 221) hx hb dz_shift_210 (by decide) (fun h3 => ?_) (fun h3 => ?_)
        · rw [if_neg h3] at hret
          refine lv_iload_n hx hb dz_shift_221 rfl (lv_at hl 3 rfl) ?_
          refine lv_iconst (v := (1 : Int32)) hx hb dz_shift_222 (by decide) ?_
          refine lv_icmp_ne (tgt := 234) hx hb dz_shift_223 (by decide) (fun h4 => ?_) (fun h4 => ?_)
          · rw [if_neg h4] at hret
            refine lv_lconst (v := (0 : Int64)) hx hb dz_shift_234 (by decide) ?_
            refine lv_lor hx hb dz_shift_235 ?_
            refine lv_lstore (lv' := [(5, .long ((v5 >>> ((1 : Int32).toInt64 &&& 63)) ||| (0 : Int64))), (10, .long (v5 &&& (1 : Int64))), (8, .long (v5 >>> ((35 : Int32).toInt64 &&& 63))), (0, .ref h0), (1, .int v1), (2, .int v2), (4, .int v4), (7, .int v7)]) hx hb dz_shift_236 hl (by decide) rfl (fun ls hl => ?_)
            refine lv_iinc (v := (v7 + (-1))) (lv' := [(7, .int (v7 + (-1))), (5, .long ((v5 >>> ((1 : Int32).toInt64 &&& 63)) ||| (0 : Int64))), (10, .long (v5 &&& (1 : Int64))), (8, .long (v5 >>> ((35 : Int32).toInt64 &&& 63))), (0, .ref h0), (1, .int v1), (2, .int v2), (4, .int v4)]) hx hb dz_shift_238 hl (k := 7) rfl (by rfl) (by decide) rfl (fun ls hl => ?_)
            refine lv_goto (tgt := 114) hx hb dz_shift_241 (by decide) ?_
            exact ih _ _ _ _ _ _ _ _ _ hC (lv_sub hl [4, 5, 6, 7, 1, 0] rfl) (by assumption) (mu_dn (by assumption) hmu) hret
          · rw [if_pos h4] at hret
            refine lv_lload hx hb dz_shift_226 (lv_at hl 0 rfl) ?_
            refine lv_bipush (v := (35 : Int32)) hx hb dz_shift_228 (by decide) ?_
            refine lv_lshl hx hb dz_shift_230 rfl ?_
            refine lv_goto (tgt := 235) hx hb dz_shift_231 (by decide) ?_
            refine lv_lor hx hb dz_shift_235 ?_
            refine lv_lstore (lv' := [(5, .long ((v5 >>> ((1 : Int32).toInt64 &&& 63)) ||| ((v5 &&& (1 : Int64)) <<< ((35 : Int32).toInt64 &&& 63)))), (10, .long (v5 &&& (1 : Int64))), (8, .long (v5 >>> ((35 : Int32).toInt64 &&& 63))), (0, .ref h0), (1, .int v1), (2, .int v2), (4, .int v4), (7, .int v7)]) hx hb dz_shift_236 hl (by decide) rfl (fun ls hl => ?_)
            refine lv_iinc (v := (v7 + (-1))) (lv' := [(7, .int (v7 + (-1))), (5, .long ((v5 >>> ((1 : Int32).toInt64 &&& 63)) ||| ((v5 &&& (1 : Int64)) <<< ((35 : Int32).toInt64 &&& 63)))), (10, .long (v5 &&& (1 : Int64))), (8, .long (v5 >>> ((35 : Int32).toInt64 &&& 63))), (0, .ref h0), (1, .int v1), (2, .int v2), (4, .int v4)]) hx hb dz_shift_238 hl (k := 7) rfl (by rfl) (by decide) rfl (fun ls hl => ?_)
            refine lv_goto (tgt := 114) hx hb dz_shift_241 (by decide) ?_
            exact ih _ _ _ _ _ _ _ _ _ hC (lv_sub hl [4, 5, 6, 7, 1, 0] rfl) (by assumption) (mu_dn (by assumption) hmu) hret
        · rw [if_pos h3] at hret
          refine lv_lload hx hb dz_shift_213 (lv_at hl 1 rfl) ?_
          refine lv_bipush (v := (35 : Int32)) hx hb dz_shift_215 (by decide) ?_
          refine lv_lshl hx hb dz_shift_217 rfl ?_
          refine lv_goto (tgt := 235) hx hb dz_shift_218 (by decide) ?_
          refine lv_lor hx hb dz_shift_235 ?_
          refine lv_lstore (lv' := [(5, .long ((v5 >>> ((1 : Int32).toInt64 &&& 63)) ||| ((v5 >>> ((35 : Int32).toInt64 &&& 63)) <<< ((35 : Int32).toInt64 &&& 63)))), (10, .long (v5 &&& (1 : Int64))), (8, .long (v5 >>> ((35 : Int32).toInt64 &&& 63))), (0, .ref h0), (1, .int v1), (2, .int v2), (4, .int v4), (7, .int v7)]) hx hb dz_shift_236 hl (by decide) rfl (fun ls hl => ?_)
          refine lv_iinc (v := (v7 + (-1))) (lv' := [(7, .int (v7 + (-1))), (5, .long ((v5 >>> ((1 : Int32).toInt64 &&& 63)) ||| ((v5 >>> ((35 : Int32).toInt64 &&& 63)) <<< ((35 : Int32).toInt64 &&& 63)))), (10, .long (v5 &&& (1 : Int64))), (8, .long (v5 >>> ((35 : Int32).toInt64 &&& 63))), (0, .ref h0), (1, .int v1), (2, .int v2), (4, .int v4)]) hx hb dz_shift_238 hl (k := 7) rfl (by rfl) (by decide) rfl (fun ls hl => ?_)
          refine lv_goto (tgt := 114) hx hb dz_shift_241 (by decide) ?_
          exact ih _ _ _ _ _ _ _ _ _ hC (lv_sub hl [4, 5, 6, 7, 1, 0] rfl) (by assumption) (mu_dn (by assumption) hmu) hret
      · rw [if_neg h2] at hret
        refine lv_iload_n hx hb dz_shift_137 rfl (lv_at hl 3 rfl) ?_
        refine lv_if_ne (tgt := 159) hx hb dz_shift_138 (by decide) (fun h5 => ?_) (fun h5 => ?_)
        · rw [if_neg h5] at hret
          refine lv_iload_n hx hb dz_shift_159 rfl (lv_at hl 3 rfl) ?_
          refine lv_if_ne (tgt := 180) hx hb dz_shift_160 (by decide) (fun h6 => ?_) (fun h6 => ?_)
          · rw [if_neg h6] at hret
            refine lv_lload hx hb dz_shift_180 (lv_at hl 6 rfl) ?_
            refine lv_iconst (v := (1 : Int32)) hx hb dz_shift_182 (by decide) ?_
            refine lv_lshl hx hb dz_shift_183 rfl ?_
            refine lv_ldc2 hx hb E.1.2.2.2.1 (E.1.2.2.2.2 _ ct_z_7) dz_shift_184 ?_
            refine lv_land hx hb dz_shift_187 ?_
            refine lv_iload_n hx hb dz_shift_188 rfl (lv_at hl 3 rfl) ?_
            refine lv_iconst (v := (1 : Int32)) hx hb dz_shift_189 (by decide) ?_
            refine lv_icmp_ne (tgt := 198) hx hb dz_shift_190 (by decide) (fun h7 => ?_) (fun h7 => ?_)
            · rw [if_neg h7] at hret
              refine lv_lconst (v := (0 : Int64)) hx hb dz_shift_198 (by decide) ?_
              refine lv_lor hx hb dz_shift_199 ?_
              refine lv_lstore (lv' := [(5, .long (((v5 <<< ((1 : Int32).toInt64 &&& 63)) &&& (68719476735 : Int64)) ||| (0 : Int64))), (10, .long (v5 &&& (1 : Int64))), (8, .long (v5 >>> ((35 : Int32).toInt64 &&& 63))), (0, .ref h0), (1, .int v1), (2, .int v2), (4, .int v4), (7, .int v7)]) hx hb dz_shift_200 hl (by decide) rfl (fun ls hl => ?_)
              refine lv_goto (tgt := 238) hx hb dz_shift_202 (by decide) ?_
              refine lv_iinc (v := (v7 + (-1))) (lv' := [(7, .int (v7 + (-1))), (5, .long (((v5 <<< ((1 : Int32).toInt64 &&& 63)) &&& (68719476735 : Int64)) ||| (0 : Int64))), (10, .long (v5 &&& (1 : Int64))), (8, .long (v5 >>> ((35 : Int32).toInt64 &&& 63))), (0, .ref h0), (1, .int v1), (2, .int v2), (4, .int v4)]) hx hb dz_shift_238 hl (k := 7) rfl (by rfl) (by decide) rfl (fun ls hl => ?_)
              refine lv_goto (tgt := 114) hx hb dz_shift_241 (by decide) ?_
              exact ih _ _ _ _ _ _ _ _ _ hC (lv_sub hl [4, 5, 6, 7, 1, 0] rfl) (by assumption) (mu_dn (by assumption) hmu) hret
            · rw [if_pos h7] at hret
              refine lv_lload hx hb dz_shift_193 (lv_at hl 1 rfl) ?_
              refine lv_goto (tgt := 199) hx hb dz_shift_195 (by decide) ?_
              refine lv_lor hx hb dz_shift_199 ?_
              refine lv_lstore (lv' := [(5, .long (((v5 <<< ((1 : Int32).toInt64 &&& 63)) &&& (68719476735 : Int64)) ||| (v5 >>> ((35 : Int32).toInt64 &&& 63)))), (10, .long (v5 &&& (1 : Int64))), (8, .long (v5 >>> ((35 : Int32).toInt64 &&& 63))), (0, .ref h0), (1, .int v1), (2, .int v2), (4, .int v4), (7, .int v7)]) hx hb dz_shift_200 hl (by decide) rfl (fun ls hl => ?_)
              refine lv_goto (tgt := 238) hx hb dz_shift_202 (by decide) ?_
              refine lv_iinc (v := (v7 + (-1))) (lv' := [(7, .int (v7 + (-1))), (5, .long (((v5 <<< ((1 : Int32).toInt64 &&& 63)) &&& (68719476735 : Int64)) ||| (v5 >>> ((35 : Int32).toInt64 &&& 63)))), (10, .long (v5 &&& (1 : Int64))), (8, .long (v5 >>> ((35 : Int32).toInt64 &&& 63))), (0, .ref h0), (1, .int v1), (2, .int v2), (4, .int v4)]) hx hb dz_shift_238 hl (k := 7) rfl (by rfl) (by decide) rfl (fun ls hl => ?_)
              refine lv_goto (tgt := 114) hx hb dz_shift_241 (by decide) ?_
              exact ih _ _ _ _ _ _ _ _ _ hC (lv_sub hl [4, 5, 6, 7, 1, 0] rfl) (by assumption) (mu_dn (by assumption) hmu) hret
          · rw [if_pos h6] at hret
            refine lv_lload hx hb dz_shift_163 (lv_at hl 1 rfl) ?_
            refine lv_bipush (v := (35 : Int32)) hx hb dz_shift_165 (by decide) ?_
            refine lv_lshl hx hb dz_shift_167 rfl ?_
            refine lv_lload hx hb dz_shift_168 (lv_at hl 6 rfl) ?_
            refine lv_iconst (v := (1 : Int32)) hx hb dz_shift_170 (by decide) ?_
            refine lv_lshl hx hb dz_shift_171 rfl ?_
            refine lv_ldc2 hx hb E.1.2.2.2.1 (E.1.2.2.2.2 _ ct_z_5) dz_shift_172 ?_
            refine lv_land hx hb dz_shift_175 ?_
            refine lv_lor hx hb dz_shift_176 ?_
            refine lv_goto (tgt := 200) hx hb dz_shift_177 (by decide) ?_
            refine lv_lstore (lv' := [(5, .long (((v5 >>> ((35 : Int32).toInt64 &&& 63)) <<< ((35 : Int32).toInt64 &&& 63)) ||| ((v5 <<< ((1 : Int32).toInt64 &&& 63)) &&& (34359738367 : Int64)))), (10, .long (v5 &&& (1 : Int64))), (8, .long (v5 >>> ((35 : Int32).toInt64 &&& 63))), (0, .ref h0), (1, .int v1), (2, .int v2), (4, .int v4), (7, .int v7)]) hx hb dz_shift_200 hl (by decide) rfl (fun ls hl => ?_)
            refine lv_goto (tgt := 238) hx hb dz_shift_202 (by decide) ?_
            refine lv_iinc (v := (v7 + (-1))) (lv' := [(7, .int (v7 + (-1))), (5, .long (((v5 >>> ((35 : Int32).toInt64 &&& 63)) <<< ((35 : Int32).toInt64 &&& 63)) ||| ((v5 <<< ((1 : Int32).toInt64 &&& 63)) &&& (34359738367 : Int64)))), (10, .long (v5 &&& (1 : Int64))), (8, .long (v5 >>> ((35 : Int32).toInt64 &&& 63))), (0, .ref h0), (1, .int v1), (2, .int v2), (4, .int v4)]) hx hb dz_shift_238 hl (k := 7) rfl (by rfl) (by decide) rfl (fun ls hl => ?_)
            refine lv_goto (tgt := 114) hx hb dz_shift_241 (by decide) ?_
            exact ih _ _ _ _ _ _ _ _ _ hC (lv_sub hl [4, 5, 6, 7, 1, 0] rfl) (by assumption) (mu_dn (by assumption) hmu) hret
        · rw [if_pos h5] at hret
          refine lv_lload hx hb dz_shift_141 (lv_at hl 6 rfl) ?_
          refine lv_bipush (v := (34 : Int32)) hx hb dz_shift_143 (by decide) ?_
          refine lv_lshr hx hb dz_shift_145 rfl ?_
          refine lv_lconst (v := (1 : Int64)) hx hb dz_shift_146 (by decide) ?_
          refine lv_land hx hb dz_shift_147 ?_
          refine lv_lload hx hb dz_shift_148 (lv_at hl 1 rfl) ?_
          refine tt_lcmp_eq (tgt := 159) hx hb dz_shift_150 dz_shift_151 (by decide) (fun h8 => ?_) (fun h8 => ?_)
          · rw [if_pos h8] at hret
            refine lv_iload_n hx hb dz_shift_159 rfl (lv_at hl 3 rfl) ?_
            refine lv_if_ne (tgt := 180) hx hb dz_shift_160 (by decide) (fun h9 => ?_) (fun h9 => ?_)
            · rw [if_neg h9] at hret
              refine lv_lload hx hb dz_shift_180 (lv_at hl 6 rfl) ?_
              refine lv_iconst (v := (1 : Int32)) hx hb dz_shift_182 (by decide) ?_
              refine lv_lshl hx hb dz_shift_183 rfl ?_
              refine lv_ldc2 hx hb E.1.2.2.2.1 (E.1.2.2.2.2 _ ct_z_7) dz_shift_184 ?_
              refine lv_land hx hb dz_shift_187 ?_
              refine lv_iload_n hx hb dz_shift_188 rfl (lv_at hl 3 rfl) ?_
              refine lv_iconst (v := (1 : Int32)) hx hb dz_shift_189 (by decide) ?_
              refine lv_icmp_ne (tgt := 198) hx hb dz_shift_190 (by decide) (fun h10 => ?_) (fun h10 => ?_)
              · rw [if_neg h10] at hret
                refine lv_lconst (v := (0 : Int64)) hx hb dz_shift_198 (by decide) ?_
                refine lv_lor hx hb dz_shift_199 ?_
                refine lv_lstore (lv' := [(5, .long (((v5 <<< ((1 : Int32).toInt64 &&& 63)) &&& (68719476735 : Int64)) ||| (0 : Int64))), (10, .long (v5 &&& (1 : Int64))), (8, .long (v5 >>> ((35 : Int32).toInt64 &&& 63))), (0, .ref h0), (1, .int v1), (2, .int v2), (4, .int v4), (7, .int v7)]) hx hb dz_shift_200 hl (by decide) rfl (fun ls hl => ?_)
                refine lv_goto (tgt := 238) hx hb dz_shift_202 (by decide) ?_
                refine lv_iinc (v := (v7 + (-1))) (lv' := [(7, .int (v7 + (-1))), (5, .long (((v5 <<< ((1 : Int32).toInt64 &&& 63)) &&& (68719476735 : Int64)) ||| (0 : Int64))), (10, .long (v5 &&& (1 : Int64))), (8, .long (v5 >>> ((35 : Int32).toInt64 &&& 63))), (0, .ref h0), (1, .int v1), (2, .int v2), (4, .int v4)]) hx hb dz_shift_238 hl (k := 7) rfl (by rfl) (by decide) rfl (fun ls hl => ?_)
                refine lv_goto (tgt := 114) hx hb dz_shift_241 (by decide) ?_
                exact ih _ _ _ _ _ _ _ _ _ hC (lv_sub hl [4, 5, 6, 7, 1, 0] rfl) (by assumption) (mu_dn (by assumption) hmu) hret
              · rw [if_pos h10] at hret
                refine lv_lload hx hb dz_shift_193 (lv_at hl 1 rfl) ?_
                refine lv_goto (tgt := 199) hx hb dz_shift_195 (by decide) ?_
                refine lv_lor hx hb dz_shift_199 ?_
                refine lv_lstore (lv' := [(5, .long (((v5 <<< ((1 : Int32).toInt64 &&& 63)) &&& (68719476735 : Int64)) ||| (v5 >>> ((35 : Int32).toInt64 &&& 63)))), (10, .long (v5 &&& (1 : Int64))), (8, .long (v5 >>> ((35 : Int32).toInt64 &&& 63))), (0, .ref h0), (1, .int v1), (2, .int v2), (4, .int v4), (7, .int v7)]) hx hb dz_shift_200 hl (by decide) rfl (fun ls hl => ?_)
                refine lv_goto (tgt := 238) hx hb dz_shift_202 (by decide) ?_
                refine lv_iinc (v := (v7 + (-1))) (lv' := [(7, .int (v7 + (-1))), (5, .long (((v5 <<< ((1 : Int32).toInt64 &&& 63)) &&& (68719476735 : Int64)) ||| (v5 >>> ((35 : Int32).toInt64 &&& 63)))), (10, .long (v5 &&& (1 : Int64))), (8, .long (v5 >>> ((35 : Int32).toInt64 &&& 63))), (0, .ref h0), (1, .int v1), (2, .int v2), (4, .int v4)]) hx hb dz_shift_238 hl (k := 7) rfl (by rfl) (by decide) rfl (fun ls hl => ?_)
                refine lv_goto (tgt := 114) hx hb dz_shift_241 (by decide) ?_
                exact ih _ _ _ _ _ _ _ _ _ hC (lv_sub hl [4, 5, 6, 7, 1, 0] rfl) (by assumption) (mu_dn (by assumption) hmu) hret
            · rw [if_pos h9] at hret
              refine lv_lload hx hb dz_shift_163 (lv_at hl 1 rfl) ?_
              refine lv_bipush (v := (35 : Int32)) hx hb dz_shift_165 (by decide) ?_
              refine lv_lshl hx hb dz_shift_167 rfl ?_
              refine lv_lload hx hb dz_shift_168 (lv_at hl 6 rfl) ?_
              refine lv_iconst (v := (1 : Int32)) hx hb dz_shift_170 (by decide) ?_
              refine lv_lshl hx hb dz_shift_171 rfl ?_
              refine lv_ldc2 hx hb E.1.2.2.2.1 (E.1.2.2.2.2 _ ct_z_5) dz_shift_172 ?_
              refine lv_land hx hb dz_shift_175 ?_
              refine lv_lor hx hb dz_shift_176 ?_
              refine lv_goto (tgt := 200) hx hb dz_shift_177 (by decide) ?_
              refine lv_lstore (lv' := [(5, .long (((v5 >>> ((35 : Int32).toInt64 &&& 63)) <<< ((35 : Int32).toInt64 &&& 63)) ||| ((v5 <<< ((1 : Int32).toInt64 &&& 63)) &&& (34359738367 : Int64)))), (10, .long (v5 &&& (1 : Int64))), (8, .long (v5 >>> ((35 : Int32).toInt64 &&& 63))), (0, .ref h0), (1, .int v1), (2, .int v2), (4, .int v4), (7, .int v7)]) hx hb dz_shift_200 hl (by decide) rfl (fun ls hl => ?_)
              refine lv_goto (tgt := 238) hx hb dz_shift_202 (by decide) ?_
              refine lv_iinc (v := (v7 + (-1))) (lv' := [(7, .int (v7 + (-1))), (5, .long (((v5 >>> ((35 : Int32).toInt64 &&& 63)) <<< ((35 : Int32).toInt64 &&& 63)) ||| ((v5 <<< ((1 : Int32).toInt64 &&& 63)) &&& (34359738367 : Int64)))), (10, .long (v5 &&& (1 : Int64))), (8, .long (v5 >>> ((35 : Int32).toInt64 &&& 63))), (0, .ref h0), (1, .int v1), (2, .int v2), (4, .int v4)]) hx hb dz_shift_238 hl (k := 7) rfl (by rfl) (by decide) rfl (fun ls hl => ?_)
              refine lv_goto (tgt := 114) hx hb dz_shift_241 (by decide) ?_
              exact ih _ _ _ _ _ _ _ _ _ hC (lv_sub hl [4, 5, 6, 7, 1, 0] rfl) (by assumption) (mu_dn (by assumption) hmu) hret
          · rw [if_neg h8] at hret
            refine lv_aload_n hx hb dz_shift_154 rfl (lv_at hl 2 rfl) ?_
            refine lv_iconst (v := (1 : Int32)) hx hb dz_shift_155 (by decide) ?_
            refine zp_overflow E hC rfl rfl dz_shift_156 (fun H locs hC => ?_)
            refine lv_iload_n hx hb dz_shift_159 rfl (lv_at hl 3 rfl) ?_
            refine lv_if_ne (tgt := 180) hx hb dz_shift_160 (by decide) (fun h11 => ?_) (fun h11 => ?_)
            · rw [if_neg h11] at hret
              refine lv_lload hx hb dz_shift_180 (lv_at hl 6 rfl) ?_
              refine lv_iconst (v := (1 : Int32)) hx hb dz_shift_182 (by decide) ?_
              refine lv_lshl hx hb dz_shift_183 rfl ?_
              refine lv_ldc2 hx hb E.1.2.2.2.1 (E.1.2.2.2.2 _ ct_z_7) dz_shift_184 ?_
              refine lv_land hx hb dz_shift_187 ?_
              refine lv_iload_n hx hb dz_shift_188 rfl (lv_at hl 3 rfl) ?_
              refine lv_iconst (v := (1 : Int32)) hx hb dz_shift_189 (by decide) ?_
              refine lv_icmp_ne (tgt := 198) hx hb dz_shift_190 (by decide) (fun h12 => ?_) (fun h12 => ?_)
              · rw [if_neg h12] at hret
                refine lv_lconst (v := (0 : Int64)) hx hb dz_shift_198 (by decide) ?_
                refine lv_lor hx hb dz_shift_199 ?_
                refine lv_lstore (lv' := [(5, .long (((v5 <<< ((1 : Int32).toInt64 &&& 63)) &&& (68719476735 : Int64)) ||| (0 : Int64))), (10, .long (v5 &&& (1 : Int64))), (8, .long (v5 >>> ((35 : Int32).toInt64 &&& 63))), (0, .ref h0), (1, .int v1), (2, .int v2), (4, .int v4), (7, .int v7)]) hx hb dz_shift_200 hl (by decide) rfl (fun ls hl => ?_)
                refine lv_goto (tgt := 238) hx hb dz_shift_202 (by decide) ?_
                refine lv_iinc (v := (v7 + (-1))) (lv' := [(7, .int (v7 + (-1))), (5, .long (((v5 <<< ((1 : Int32).toInt64 &&& 63)) &&& (68719476735 : Int64)) ||| (0 : Int64))), (10, .long (v5 &&& (1 : Int64))), (8, .long (v5 >>> ((35 : Int32).toInt64 &&& 63))), (0, .ref h0), (1, .int v1), (2, .int v2), (4, .int v4)]) hx hb dz_shift_238 hl (k := 7) rfl (by rfl) (by decide) rfl (fun ls hl => ?_)
                refine lv_goto (tgt := 114) hx hb dz_shift_241 (by decide) ?_
                exact ih _ _ _ _ _ _ _ _ _ hC (lv_sub hl [4, 5, 6, 7, 1, 0] rfl) (by assumption) (mu_dn (by assumption) hmu) hret
              · rw [if_pos h12] at hret
                refine lv_lload hx hb dz_shift_193 (lv_at hl 1 rfl) ?_
                refine lv_goto (tgt := 199) hx hb dz_shift_195 (by decide) ?_
                refine lv_lor hx hb dz_shift_199 ?_
                refine lv_lstore (lv' := [(5, .long (((v5 <<< ((1 : Int32).toInt64 &&& 63)) &&& (68719476735 : Int64)) ||| (v5 >>> ((35 : Int32).toInt64 &&& 63)))), (10, .long (v5 &&& (1 : Int64))), (8, .long (v5 >>> ((35 : Int32).toInt64 &&& 63))), (0, .ref h0), (1, .int v1), (2, .int v2), (4, .int v4), (7, .int v7)]) hx hb dz_shift_200 hl (by decide) rfl (fun ls hl => ?_)
                refine lv_goto (tgt := 238) hx hb dz_shift_202 (by decide) ?_
                refine lv_iinc (v := (v7 + (-1))) (lv' := [(7, .int (v7 + (-1))), (5, .long (((v5 <<< ((1 : Int32).toInt64 &&& 63)) &&& (68719476735 : Int64)) ||| (v5 >>> ((35 : Int32).toInt64 &&& 63)))), (10, .long (v5 &&& (1 : Int64))), (8, .long (v5 >>> ((35 : Int32).toInt64 &&& 63))), (0, .ref h0), (1, .int v1), (2, .int v2), (4, .int v4)]) hx hb dz_shift_238 hl (k := 7) rfl (by rfl) (by decide) rfl (fun ls hl => ?_)
                refine lv_goto (tgt := 114) hx hb dz_shift_241 (by decide) ?_
                exact ih _ _ _ _ _ _ _ _ _ hC (lv_sub hl [4, 5, 6, 7, 1, 0] rfl) (by assumption) (mu_dn (by assumption) hmu) hret
            · rw [if_pos h11] at hret
              refine lv_lload hx hb dz_shift_163 (lv_at hl 1 rfl) ?_
              refine lv_bipush (v := (35 : Int32)) hx hb dz_shift_165 (by decide) ?_
              refine lv_lshl hx hb dz_shift_167 rfl ?_
              refine lv_lload hx hb dz_shift_168 (lv_at hl 6 rfl) ?_
              refine lv_iconst (v := (1 : Int32)) hx hb dz_shift_170 (by decide) ?_
              refine lv_lshl hx hb dz_shift_171 rfl ?_
              refine lv_ldc2 hx hb E.1.2.2.2.1 (E.1.2.2.2.2 _ ct_z_5) dz_shift_172 ?_
              refine lv_land hx hb dz_shift_175 ?_
              refine lv_lor hx hb dz_shift_176 ?_
              refine lv_goto (tgt := 200) hx hb dz_shift_177 (by decide) ?_
              refine lv_lstore (lv' := [(5, .long (((v5 >>> ((35 : Int32).toInt64 &&& 63)) <<< ((35 : Int32).toInt64 &&& 63)) ||| ((v5 <<< ((1 : Int32).toInt64 &&& 63)) &&& (34359738367 : Int64)))), (10, .long (v5 &&& (1 : Int64))), (8, .long (v5 >>> ((35 : Int32).toInt64 &&& 63))), (0, .ref h0), (1, .int v1), (2, .int v2), (4, .int v4), (7, .int v7)]) hx hb dz_shift_200 hl (by decide) rfl (fun ls hl => ?_)
              refine lv_goto (tgt := 238) hx hb dz_shift_202 (by decide) ?_
              refine lv_iinc (v := (v7 + (-1))) (lv' := [(7, .int (v7 + (-1))), (5, .long (((v5 >>> ((35 : Int32).toInt64 &&& 63)) <<< ((35 : Int32).toInt64 &&& 63)) ||| ((v5 <<< ((1 : Int32).toInt64 &&& 63)) &&& (34359738367 : Int64)))), (10, .long (v5 &&& (1 : Int64))), (8, .long (v5 >>> ((35 : Int32).toInt64 &&& 63))), (0, .ref h0), (1, .int v1), (2, .int v2), (4, .int v4)]) hx hb dz_shift_238 hl (k := 7) rfl (by rfl) (by decide) rfl (fun ls hl => ?_)
              refine lv_goto (tgt := 114) hx hb dz_shift_241 (by decide) ?_
              exact ih _ _ _ _ _ _ _ _ _ hC (lv_sub hl [4, 5, 6, 7, 1, 0] rfl) (by assumption) (mu_dn (by assumption) hmu) hret
def fz_shift_18 (k : kSz) (v1 : Int32) (v2 : Int32) (v3 : Int32) (t0 : Int32) : Int32 × kSz :=
  if v1 = (3 : Int32) then
    fz_shift_40 37 k v2 v3 (ldz k v2) (0 : Int32)
  else
    fz_shift_114 257 k v1 v2 (t0 - t0 / (256 : Int32) * (256 : Int32)) (ldz k v2) (fjm_abs (t0 - t0 / (256 : Int32) * (256 : Int32)))
set_option maxRecDepth 100000 in
set_option maxHeartbeats 4000000 in
theorem wz_shift_18 {k : kSz} {v1 : Int32} {v2 : Int32} {v3 : Int32} {t0 : Int32} {H : Heap} {locs : List Loc} {ls : Array Slot} (E : zE p s m args c cz_shift 12 D cA h0 q) (hC : zC D cA h0 q s.heap k H locs) (hl : lv_has ls 12 [(0, .ref h0), (1, .int v1), (2, .int v2), (3, .int v3)]) (hae : vp_in v2 4096) (hee : 0 ≤ v3) (hret : zwi p l env (rmD 1) s m args below meth c cz_shift D cA h0 q .int Q (fz_shift_18 k v1 v2 v3 t0)) : W p l env (rmD 1) s m args below meth c H locs 0 0 Q (F0 m 18 ls [.int t0]) := by
  have hx := E.1.1; have hb := E.1.2.1
  unfold fz_shift_18 at hret
  refine lv_sipush (v := (256 : Int32)) hx hb dz_shift_18 (by decide) ?_
  refine lv_irem hx hb dz_shift_21 (by decide) ?_
  refine lv_istore (lv' := [(4, .int (t0 - t0 / (256 : Int32) * (256 : Int32))), (0, .ref h0), (1, .int v1), (2, .int v2), (3, .int v3)]) hx hb dz_shift_22 hl (by decide) rfl (fun ls hl => ?_)
  refine lv_aload_n hx hb dz_shift_24 rfl (lv_at hl 1 rfl) ?_
  refine zg_words E hC dz_shift_25 ?_
  refine lv_iload_n hx hb dz_shift_28 rfl (lv_at hl 3 rfl) ?_
  refine zld E hC (hae) dz_shift_29 ?_
  refine lv_lstore (lv' := [(5, .long (ldz k v2)), (4, .int (t0 - t0 / (256 : Int32) * (256 : Int32))), (0, .ref h0), (1, .int v1), (2, .int v2), (3, .int v3)]) hx hb dz_shift_30 hl (by decide) rfl (fun ls hl => ?_)
  refine lv_iload_n hx hb dz_shift_32 rfl (lv_at hl 3 rfl) ?_
  refine lv_iconst (v := (3 : Int32)) hx hb dz_shift_33 (by decide) ?_
  refine lv_icmp_ne (tgt := 107) hx hb dz_shift_34 (by decide) (fun h1 => ?_) (fun h1 => ?_)
  · rw [if_neg h1] at hret
    refine lv_iload hx hb dz_shift_107 (lv_at hl 1 rfl) ?_
    refine kjm_abs_in_z E.1 hl.1 (by decide) (Nat.le_of_ble_eq_true rfl) dz_shift_109 ?_
    refine lv_istore (lv' := [(7, .int (fjm_abs (t0 - t0 / (256 : Int32) * (256 : Int32)))), (5, .long (ldz k v2)), (4, .int (t0 - t0 / (256 : Int32) * (256 : Int32))), (0, .ref h0), (1, .int v1), (2, .int v2), (3, .int v3)]) hx hb dz_shift_112 hl (by decide) rfl (fun ls hl => ?_)
    exact wz_shift_114 E 257 _ _ _ _ _ _ _ _ _ hC (lv_sub hl [3, 4, 5, 2, 1, 0] rfl) (by assumption) (sh_enter _) hret
  · rw [if_pos h1] at hret
    refine lv_iconst (v := (0 : Int32)) hx hb dz_shift_37 (by decide) ?_
    refine lv_istore (lv' := [(7, .int (0 : Int32)), (5, .long (ldz k v2)), (4, .int (t0 - t0 / (256 : Int32) * (256 : Int32))), (0, .ref h0), (1, .int v1), (2, .int v2), (3, .int v3)]) hx hb dz_shift_38 hl (by decide) rfl (fun ls hl => ?_)
    exact wz_shift_40 E 37 _ _ _ _ _ _ _ _ hC (lv_sub hl [3, 5, 6, 1, 0] rfl) (by assumption) (by assumption) (by decide) hret
def fz_shift (k : kSz) (v1 : Int32) (v2 : Int32) (v3 : Int32) : Int32 × kSz :=
  if (v3 >>> ((17 : Int32) &&& 31)) = (1 : Int32) then
    fz_shift_18 k v1 v2 v3 ((v3 - (262143 : Int32)) - (1 : Int32))
  else
    fz_shift_18 k v1 v2 v3 v3
set_option maxRecDepth 100000 in
set_option maxHeartbeats 4000000 in
theorem wz_shift_0 {k : kSz} {v1 : Int32} {v2 : Int32} {v3 : Int32} {H : Heap} {locs : List Loc} {ls : Array Slot} (E : zE p s m args c cz_shift 12 D cA h0 q) (hC : zC D cA h0 q s.heap k H locs) (hl : lv_has ls 12 [(0, .ref h0), (1, .int v1), (2, .int v2), (3, .int v3)]) (hae : vp_in v2 4096) (hee : 0 ≤ v3) (hret : zwi p l env (rmD 1) s m args below meth c cz_shift D cA h0 q .int Q (fz_shift k v1 v2 v3)) : W p l env (rmD 1) s m args below meth c H locs 0 0 Q (F0 m 0 ls []) := by
  have hx := E.1.1; have hb := E.1.2.1
  unfold fz_shift at hret
  refine lv_iload_n hx hb dz_shift_0 rfl (lv_at hl 3 rfl) ?_
  refine lv_bipush (v := (17 : Int32)) hx hb dz_shift_1 (by decide) ?_
  refine lv_ishr hx hb dz_shift_3 ?_
  refine lv_iconst (v := (1 : Int32)) hx hb dz_shift_4 (by decide) ?_
  refine lv_icmp_ne (tgt := 17) hx hb dz_shift_5 (by decide) (fun h1 => ?_) (fun h1 => ?_)
  · rw [if_neg h1] at hret
    refine lv_iload_n hx hb dz_shift_17 rfl (lv_at hl 3 rfl) ?_
    exact wz_shift_18 E hC (lv_sub hl [0, 1, 2, 3] rfl) (hae) (hee) hret
  · rw [if_pos h1] at hret
    refine lv_iload_n hx hb dz_shift_8 rfl (lv_at hl 3 rfl) ?_
    refine lv_ldc hx hb E.1.2.2.2.1 (E.1.2.2.2.2 _ ct_z_9) dz_shift_9 ?_
    refine lv_isub hx hb dz_shift_11 ?_
    refine lv_iconst (v := (1 : Int32)) hx hb dz_shift_12 (by decide) ?_
    refine lv_isub hx hb dz_shift_13 ?_
    refine lv_goto (tgt := 18) hx hb dz_shift_14 (by decide) ?_
    exact wz_shift_18 E hC (lv_sub hl [0, 1, 2, 3] rfl) (hae) (hee) hret
set_option maxRecDepth 100000 in
set_option maxHeartbeats 4000000 in
theorem mz_shift (l : Launch) (k : kSz) (v1 : Int32) (v2 : Int32) (v3 : Int32) (hae : vp_in v2 4096) (hee : 0 ≤ v3) : zMet l yz_shift cz_shift 12 (some .int) 1 [.int v1, .int v2, .int v3] k (some (.int (fz_shift k v1 v2 v3).1)) (fz_shift k v1 v2 v3).2  :=
  zMet.ofi (by decide) rfl (fun _ => Nat.le_of_ble_eq_true rfl) (fun D cA h0 q p env s m args below meth c ls Q E hC hl hret => wz_shift_0 E hC (lv_sub hl [0, 1, 2, 3] rfl) hae hee hret)
theorem gkz_shift : zYw R_z 113 yz_shift cz_shift 12 (some .int) 3 := ⟨wc_z_shift, wl_z_113, wi_z_shift, ws_z_shift, wn_z, ⟨by decide, by decide, by decide +kernel⟩, by decide⟩
theorem kz_shift {p : Program} {l : Launch} {env : Env} {s : State} {m : MethodId} {args : Array Value} {below : List Frame} {meth : Method} {c : Code} {H : Heap} {locs : List Loc} {Q : State → Prop} {cc : ByteArray} {pc nL d : Nat} {ls : Array Slot} {rest : List Value} {D : va_G} {cA : ClassId} {h0 q : Nat} {k : kSz} {v1 : Int32} {v2 : Int32} {v3 : Int32} (E : zE p s m args c cc nL D cA h0 q) (hls : ls.size = nL) (hC : zC D cA h0 q s.heap k H locs) (hae : vp_in v2 4096) (hee : 0 ≤ v3) (hd : 1 + 1 ≤ d) (hr : (rest.map fun v => v.category).sum ≤ 8) (hdg : decode cc pc = .ok (.invokevirtual 113, 3)) (kk : ∀ (H1 : Heap) (locs1 : List Loc), zC D cA h0 q s.heap (fz_shift k v1 v2 v3).2  H1 locs1 → W p l env (rmD d) s m args below meth c H1 locs1 0 0 Q (F0 m (pc + 3) ls (.int (fz_shift k v1 v2 v3).1 :: rest))) : W p l env (rmD d) s m args below meth c H locs 0 0 Q (F0 m pc ls (.int v3 :: .int v2 :: .int v1 :: .ref h0 :: rest)) :=
  zcall (av := [.int v1, .int v2, .int v3]) E (mz_shift l k v1 v2 v3 hae hee) gkz_shift rfl hls hC hd hr hdg kk
end TTV
