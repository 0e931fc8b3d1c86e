section TTV
variable {p : Program} {l : Launch} {env : Env} {s : State} {m : MethodId} {args : Array Value} {below : List Frame} {meth : Method} {c : Code} {Q : State → Prop} {D : va_G} {cA : ClassId} {h0 q : Nat}
/-! TenMachineModel.perform (III)I -/
def fz_perform_75 (k : kSz) (v1 : Int32) (v2 : Int32) (v3 : Int32) (v4 : Int32) : Int32 × kSz :=
  (fz_reckon k (v1 >>> ((2 : Int32) &&& 31)) v4 v2 v3)
set_option maxRecDepth 100000 in
set_option maxHeartbeats 4000000 in
theorem wz_perform_75 {k : kSz} {v1 : Int32} {v2 : Int32} {v3 : Int32} {v4 : Int32} {H : Heap} {locs : List Loc} {ls : Array Slot} (E : zE p s m args c cz_perform 5 D cA h0 q) (hC : zC D cA h0 q s.heap k H locs) (hl : lv_has ls 5 [(0, .ref h0), (1, .int v1), (2, .int v2), (3, .int v3), (4, .int v4)]) (hae : vp_in v2 4096) (hee : 0 ≤ v3) (hret : zwi p l env (rmD 4) s m args below meth c cz_perform D cA h0 q .int Q (fz_perform_75 k v1 v2 v3 v4)) : W p l env (rmD 4) s m args below meth c H locs 0 0 Q (F0 m 75 ls []) := by
  have hx := E.1.1; have hb := E.1.2.1
  unfold fz_perform_75 at hret
  refine lv_aload_n hx hb dz_perform_75 rfl (lv_at hl 0 rfl) ?_
  refine lv_iload_n hx hb dz_perform_76 rfl (lv_at hl 1 rfl) ?_
  refine lv_iconst (v := (2 : Int32)) hx hb dz_perform_77 (by decide) ?_
  refine lv_ishr hx hb dz_perform_78 ?_
  refine lv_iload hx hb dz_perform_79 (lv_at hl 4 rfl) ?_
  refine lv_iload_n hx hb dz_perform_81 rfl (lv_at hl 2 rfl) ?_
  refine lv_iload_n hx hb dz_perform_82 rfl (lv_at hl 3 rfl) ?_
  refine kz_reckon E hl.1 hC (hae) (hee) (by decide) (Nat.le_of_ble_eq_true rfl) dz_perform_83 (fun H locs hC => ?_)
  exact hret _ _ _ _ dz_perform_86 hC  (nw_i _)
def fz_perform (k : kSz) (v1 : Int32) (v2 : Int32) (v3 : Int32) : Int32 × kSz :=
  if (fz_in v1.toInt64 (128 : Int64) (143 : Int64)) = 0 then
    if (fz_in v1.toInt64 (144 : Int64) (147 : Int64)) = 0 then
      if (fz_in v1.toInt64 (152 : Int64) (155 : Int64)) = 0 then
        if (fz_in v1.toInt64 (184 : Int64) (191 : Int64)) = 0 then
          if (fz_in v1.toInt64 (256 : Int64) (319 : Int64)) = 0 then
            if (fz_in v1.toInt64 (320 : Int64) (383 : Int64)) = 0 then
              if (fz_in v1.toInt64 (384 : Int64) (447 : Int64)) = 0 then
                if (fz_in v1.toInt64 (192 : Int64) (255 : Int64)) = 0 then
                  if (fz_in v1.toInt64 (160 : Int64) (163 : Int64)) = 0 then
                    if (fz_in v1.toInt64 (168 : Int64) (173 : Int64)) = 0 then
                      if (fz_in v1.toInt64 (176 : Int64) (181 : Int64)) = 0 then
                        ((1 : Int32), k)
                      else
                        (fz_calls k v1 v2 v3)
                    else
                      (fz_odd k v1 v2 v3)
                  else
                    (fz_shift k (v1 - (160 : Int32)) v2 v3)
                else
                  (fz_compare k ((v1 - (192 : Int32)) >>> ((3 : Int32) &&& 31)) (v1 &&& (7 : Int32)) v2 v3)
              else
                (fz_test k (v1 - (384 : Int32)) v2 v3)
            else
              (fz_half k (v1 - (320 : Int32)) v2 v3)
          else
            (fz_bits k ((v1 >>> ((2 : Int32) &&& 31)) &&& (15 : Int32)) (v1 &&& (3 : Int32)) v2 v3)
        else
          fz_perform_75 k v1 v2 v3 (v1 &&& (3 : Int32))
      else
        fz_perform_75 k v1 v2 v3 (v1 &&& (3 : Int32))
    else
      fz_perform_75 k v1 v2 v3 (v1 &&& (3 : Int32))
  else
    (fz_move k ((v1 >>> ((2 : Int32) &&& 31)) &&& (3 : Int32)) (v1 &&& (3 : Int32)) v2 v3)
set_option maxRecDepth 100000 in
set_option maxHeartbeats 4000000 in
theorem wz_perform_0 {k : kSz} {v1 : Int32} {v2 : Int32} {v3 : Int32} {H : Heap} {locs : List Loc} {ls : Array Slot} (E : zE p s m args c cz_perform 5 D cA h0 q) (hC : zC D cA h0 q s.heap k H locs) (hl : lv_has ls 5 [(0, .ref h0), (1, .int v1), (2, .int v2), (3, .int v3)]) (hae : vp_in v2 4096) (hee : 0 ≤ v3) (hret : zwi p l env (rmD 4) s m args below meth c cz_perform D cA h0 q .int Q (fz_perform k v1 v2 v3)) : W p l env (rmD 4) s m args below meth c H locs 0 0 Q (F0 m 0 ls []) := by
  have hx := E.1.1; have hb := E.1.2.1
  unfold fz_perform at hret
  refine lv_iload_n hx hb dz_perform_0 rfl (lv_at hl 1 rfl) ?_
  refine lv_iconst (v := (3 : Int32)) hx hb dz_perform_1 (by decide) ?_
  refine lv_iand hx hb dz_perform_2 ?_
  refine lv_istore (lv' := [(4, .int (v1 &&& (3 : Int32))), (0, .ref h0), (1, .int v1), (2, .int v2), (3, .int v3)]) hx hb dz_perform_3 hl (by decide) rfl (fun ls hl => ?_)
  refine lv_iload_n hx hb dz_perform_5 rfl (lv_at hl 2 rfl) ?_
  refine lv_i2l hx hb dz_perform_6 rfl ?_
  refine lv_ldc2 hx hb E.1.2.2.2.1 (E.1.2.2.2.2 _ ct_z_58) dz_perform_7 ?_
  refine lv_ldc2 hx hb E.1.2.2.2.1 (E.1.2.2.2.2 _ ct_z_60) dz_perform_10 ?_
  refine kz_in_in_z E.1 hl.1 (by decide) (Nat.le_of_ble_eq_true rfl) dz_perform_13 ?_
  refine lv_if_eq (tgt := 33) hx hb dz_perform_16 (by decide) (fun h1 => ?_) (fun h1 => ?_)
  · rw [if_pos h1] at hret
    refine lv_iload_n hx hb dz_perform_33 rfl (lv_at hl 2 rfl) ?_
    refine lv_i2l hx hb dz_perform_34 rfl ?_
    refine lv_ldc2 hx hb E.1.2.2.2.1 (E.1.2.2.2.2 _ ct_z_66) dz_perform_35 ?_
    refine lv_ldc2 hx hb E.1.2.2.2.1 (E.1.2.2.2.2 _ ct_z_68) dz_perform_38 ?_
    refine kz_in_in_z E.1 hl.1 (by decide) (Nat.le_of_ble_eq_true rfl) dz_perform_41 ?_
    refine lv_if_ne (tgt := 75) hx hb dz_perform_44 (by decide) (fun h2 => ?_) (fun h2 => ?_)
    · rw [if_neg h2] at hret
      exact wz_perform_75 E hC (lv_sub hl [1, 2, 3, 4, 0] rfl) (hae) (hee) hret
    · rw [if_pos h2] at hret
      refine lv_iload_n hx hb dz_perform_47 rfl (lv_at hl 2 rfl) ?_
      refine lv_i2l hx hb dz_perform_48 rfl ?_
      refine lv_ldc2 hx hb E.1.2.2.2.1 (E.1.2.2.2.2 _ ct_z_70) dz_perform_49 ?_
      refine lv_ldc2 hx hb E.1.2.2.2.1 (E.1.2.2.2.2 _ ct_z_72) dz_perform_52 ?_
      refine kz_in_in_z E.1 hl.1 (by decide) (Nat.le_of_ble_eq_true rfl) dz_perform_55 ?_
      refine lv_if_ne (tgt := 75) hx hb dz_perform_58 (by decide) (fun h3 => ?_) (fun h3 => ?_)
      · rw [if_neg h3] at hret
        exact wz_perform_75 E hC (lv_sub hl [1, 2, 3, 4, 0] rfl) (hae) (hee) hret
      · rw [if_pos h3] at hret
        refine lv_iload_n hx hb dz_perform_61 rfl (lv_at hl 2 rfl) ?_
        refine lv_i2l hx hb dz_perform_62 rfl ?_
        refine lv_ldc2 hx hb E.1.2.2.2.1 (E.1.2.2.2.2 _ ct_z_74) dz_perform_63 ?_
        refine lv_ldc2 hx hb E.1.2.2.2.1 (E.1.2.2.2.2 _ ct_z_76) dz_perform_66 ?_
        refine kz_in_in_z E.1 hl.1 (by decide) (Nat.le_of_ble_eq_true rfl) dz_perform_69 ?_
        refine lv_if_eq (tgt := 87) hx hb dz_perform_72 (by decide) (fun h4 => ?_) (fun h4 => ?_)
        · rw [if_pos h4] at hret
          refine lv_iload_n hx hb dz_perform_87 rfl (lv_at hl 2 rfl) ?_
          refine lv_i2l hx hb dz_perform_88 rfl ?_
          refine lv_ldc2 hx hb E.1.2.2.2.1 (E.1.2.2.2.2 _ ct_z_81) dz_perform_89 ?_
          refine lv_ldc2 hx hb E.1.2.2.2.1 (E.1.2.2.2.2 _ ct_z_83) dz_perform_92 ?_
          refine kz_in_in_z E.1 hl.1 (by decide) (Nat.le_of_ble_eq_true rfl) dz_perform_95 ?_
          refine lv_if_eq (tgt := 116) hx hb dz_perform_98 (by decide) (fun h5 => ?_) (fun h5 => ?_)
          · rw [if_pos h5] at hret
            refine lv_iload_n hx hb dz_perform_116 rfl (lv_at hl 2 rfl) ?_
            refine lv_i2l hx hb dz_perform_117 rfl ?_
            refine lv_ldc2 hx hb E.1.2.2.2.1 (E.1.2.2.2.2 _ ct_z_88) dz_perform_118 ?_
            refine lv_ldc2 hx hb E.1.2.2.2.1 (E.1.2.2.2.2 _ ct_z_90) dz_perform_121 ?_
            refine kz_in_in_z E.1 hl.1 (by decide) (Nat.le_of_ble_eq_true rfl) dz_perform_124 ?_
            refine lv_if_eq (tgt := 142) hx hb dz_perform_127 (by decide) (fun h6 => ?_) (fun h6 => ?_)
            · rw [if_pos h6] at hret
              refine lv_iload_n hx hb dz_perform_142 rfl (lv_at hl 2 rfl) ?_
              refine lv_i2l hx hb dz_perform_143 rfl ?_
              refine lv_ldc2 hx hb E.1.2.2.2.1 (E.1.2.2.2.2 _ ct_z_95) dz_perform_144 ?_
              refine lv_ldc2 hx hb E.1.2.2.2.1 (E.1.2.2.2.2 _ ct_z_97) dz_perform_147 ?_
              refine kz_in_in_z E.1 hl.1 (by decide) (Nat.le_of_ble_eq_true rfl) dz_perform_150 ?_
              refine lv_if_eq (tgt := 168) hx hb dz_perform_153 (by decide) (fun h7 => ?_) (fun h7 => ?_)
              · rw [if_pos h7] at hret
                refine lv_iload_n hx hb dz_perform_168 rfl (lv_at hl 2 rfl) ?_
                refine lv_i2l hx hb dz_perform_169 rfl ?_
                refine lv_ldc2 hx hb E.1.2.2.2.1 (E.1.2.2.2.2 _ ct_z_102) dz_perform_170 ?_
                refine lv_ldc2 hx hb E.1.2.2.2.1 (E.1.2.2.2.2 _ ct_z_104) dz_perform_173 ?_
                refine kz_in_in_z E.1 hl.1 (by decide) (Nat.le_of_ble_eq_true rfl) dz_perform_176 ?_
                refine lv_if_eq (tgt := 200) hx hb dz_perform_179 (by decide) (fun h8 => ?_) (fun h8 => ?_)
                · rw [if_pos h8] at hret
                  refine lv_iload_n hx hb dz_perform_200 rfl (lv_at hl 2 rfl) ?_
                  refine lv_i2l hx hb dz_perform_201 rfl ?_
                  refine lv_ldc2 hx hb E.1.2.2.2.1 (E.1.2.2.2.2 _ ct_z_109) dz_perform_202 ?_
                  refine lv_ldc2 hx hb E.1.2.2.2.1 (E.1.2.2.2.2 _ ct_z_111) dz_perform_205 ?_
                  refine kz_in_in_z E.1 hl.1 (by decide) (Nat.le_of_ble_eq_true rfl) dz_perform_208 ?_
                  refine lv_if_eq (tgt := 226) hx hb dz_perform_211 (by decide) (fun h9 => ?_) (fun h9 => ?_)
                  · rw [if_pos h9] at hret
                    refine lv_iload_n hx hb dz_perform_226 rfl (lv_at hl 2 rfl) ?_
                    refine lv_i2l hx hb dz_perform_227 rfl ?_
                    refine lv_ldc2 hx hb E.1.2.2.2.1 (E.1.2.2.2.2 _ ct_z_116) dz_perform_228 ?_
                    refine lv_ldc2 hx hb E.1.2.2.2.1 (E.1.2.2.2.2 _ ct_z_118) dz_perform_231 ?_
                    refine kz_in_in_z E.1 hl.1 (by decide) (Nat.le_of_ble_eq_true rfl) dz_perform_234 ?_
                    refine lv_if_eq (tgt := 248) hx hb dz_perform_237 (by decide) (fun h10 => ?_) (fun h10 => ?_)
                    · rw [if_pos h10] at hret
                      refine lv_iload_n hx hb dz_perform_248 rfl (lv_at hl 2 rfl) ?_
                      refine lv_i2l hx hb dz_perform_249 rfl ?_
                      refine lv_ldc2 hx hb E.1.2.2.2.1 (E.1.2.2.2.2 _ ct_z_123) dz_perform_250 ?_
                      refine lv_ldc2 hx hb E.1.2.2.2.1 (E.1.2.2.2.2 _ ct_z_125) dz_perform_253 ?_
                      refine kz_in_in_z E.1 hl.1 (by decide) (Nat.le_of_ble_eq_true rfl) dz_perform_256 ?_
                      refine lv_if_eq (tgt := 272) hx hb dz_perform_259 (by decide) (fun h11 => ?_) (fun h11 => ?_)
                      · rw [if_pos h11] at hret
                        refine lv_iconst (v := (1 : Int32)) hx hb dz_perform_272 (by decide) ?_
                        exact (zwi_out hret) _ _ _ _ dz_perform_273 hC  (nw_i _)
                      · rw [if_neg h11] at hret
                        refine lv_aload_n hx hb dz_perform_262 rfl (lv_at hl 1 rfl) ?_
                        refine lv_iload_n hx hb dz_perform_263 rfl (lv_at hl 2 rfl) ?_
                        refine lv_iload_n hx hb dz_perform_264 rfl (lv_at hl 3 rfl) ?_
                        refine lv_iload_n hx hb dz_perform_265 rfl (lv_at hl 4 rfl) ?_
                        refine kz_calls E hl.1 hC (hae) (hee) (by decide) (Nat.le_of_ble_eq_true rfl) dz_perform_266 (fun H locs hC => ?_)
                        refine lv_goto (tgt := 273) hx hb dz_perform_269 (by decide) ?_
                        exact hret _ _ _ _ dz_perform_273 hC  (nw_i _)
                    · rw [if_neg h10] at hret
                      refine lv_aload_n hx hb dz_perform_240 rfl (lv_at hl 1 rfl) ?_
                      refine lv_iload_n hx hb dz_perform_241 rfl (lv_at hl 2 rfl) ?_
                      refine lv_iload_n hx hb dz_perform_242 rfl (lv_at hl 3 rfl) ?_
                      refine lv_iload_n hx hb dz_perform_243 rfl (lv_at hl 4 rfl) ?_
                      refine kz_odd E hl.1 hC (hae) (hee) (by decide) (Nat.le_of_ble_eq_true rfl) dz_perform_244 (fun H locs hC => ?_)
                      exact hret _ _ _ _ dz_perform_247 hC  (nw_i _)
                  · rw [if_neg h9] at hret
                    refine lv_aload_n hx hb dz_perform_214 rfl (lv_at hl 1 rfl) ?_
                    refine lv_iload_n hx hb dz_perform_215 rfl (lv_at hl 2 rfl) ?_
                    refine lv_sipush (v := (160 : Int32)) hx hb dz_perform_216 (by decide) ?_
                    refine lv_isub hx hb dz_perform_219 ?_
                    refine lv_iload_n hx hb dz_perform_220 rfl (lv_at hl 3 rfl) ?_
                    refine lv_iload_n hx hb dz_perform_221 rfl (lv_at hl 4 rfl) ?_
                    refine kz_shift E hl.1 hC (hae) (hee) (by decide) (Nat.le_of_ble_eq_true rfl) dz_perform_222 (fun H locs hC => ?_)
                    exact hret _ _ _ _ dz_perform_225 hC  (nw_i _)
                · rw [if_neg h8] at hret
                  refine lv_aload_n hx hb dz_perform_182 rfl (lv_at hl 1 rfl) ?_
                  refine lv_iload_n hx hb dz_perform_183 rfl (lv_at hl 2 rfl) ?_
                  refine lv_sipush (v := (192 : Int32)) hx hb dz_perform_184 (by decide) ?_
                  refine lv_isub hx hb dz_perform_187 ?_
                  refine lv_iconst (v := (3 : Int32)) hx hb dz_perform_188 (by decide) ?_
                  refine lv_ishr hx hb dz_perform_189 ?_
                  refine lv_iload_n hx hb dz_perform_190 rfl (lv_at hl 2 rfl) ?_
                  refine lv_bipush (v := (7 : Int32)) hx hb dz_perform_191 (by decide) ?_
                  refine lv_iand hx hb dz_perform_193 ?_
                  refine lv_iload_n hx hb dz_perform_194 rfl (lv_at hl 3 rfl) ?_
                  refine lv_iload_n hx hb dz_perform_195 rfl (lv_at hl 4 rfl) ?_
                  refine kz_compare E hl.1 hC (hae) (hee) (zc_wh (by assumption)) (by decide) (Nat.le_of_ble_eq_true rfl) dz_perform_196 (fun H locs hC => ?_)
                  exact hret _ _ _ _ dz_perform_199 hC  (nw_i _)
              · rw [if_neg h7] at hret
                refine lv_aload_n hx hb dz_perform_156 rfl (lv_at hl 1 rfl) ?_
                refine lv_iload_n hx hb dz_perform_157 rfl (lv_at hl 2 rfl) ?_
                refine lv_sipush (v := (384 : Int32)) hx hb dz_perform_158 (by decide) ?_
                refine lv_isub hx hb dz_perform_161 ?_
                refine lv_iload_n hx hb dz_perform_162 rfl (lv_at hl 3 rfl) ?_
                refine lv_iload_n hx hb dz_perform_163 rfl (lv_at hl 4 rfl) ?_
                refine kz_test E hl.1 hC (hae) (hee) (by decide) (Nat.le_of_ble_eq_true rfl) dz_perform_164 (fun H locs hC => ?_)
                exact hret _ _ _ _ dz_perform_167 hC  (nw_i _)
            · rw [if_neg h6] at hret
              refine lv_aload_n hx hb dz_perform_130 rfl (lv_at hl 1 rfl) ?_
              refine lv_iload_n hx hb dz_perform_131 rfl (lv_at hl 2 rfl) ?_
              refine lv_sipush (v := (320 : Int32)) hx hb dz_perform_132 (by decide) ?_
              refine lv_isub hx hb dz_perform_135 ?_
              refine lv_iload_n hx hb dz_perform_136 rfl (lv_at hl 3 rfl) ?_
              refine lv_iload_n hx hb dz_perform_137 rfl (lv_at hl 4 rfl) ?_
              refine kz_half E hl.1 hC (hae) (hee) (by decide) (Nat.le_of_ble_eq_true rfl) dz_perform_138 (fun H locs hC => ?_)
              exact hret _ _ _ _ dz_perform_141 hC  (nw_i _)
          · rw [if_neg h5] at hret
            refine lv_aload_n hx hb dz_perform_101 rfl (lv_at hl 1 rfl) ?_
            refine lv_iload_n hx hb dz_perform_102 rfl (lv_at hl 2 rfl) ?_
            refine lv_iconst (v := (2 : Int32)) hx hb dz_perform_103 (by decide) ?_
            refine lv_ishr hx hb dz_perform_104 ?_
            refine lv_bipush (v := (15 : Int32)) hx hb dz_perform_105 (by decide) ?_
            refine lv_iand hx hb dz_perform_107 ?_
            refine lv_iload hx hb dz_perform_108 (lv_at hl 0 rfl) ?_
            refine lv_iload_n hx hb dz_perform_110 rfl (lv_at hl 3 rfl) ?_
            refine lv_iload_n hx hb dz_perform_111 rfl (lv_at hl 4 rfl) ?_
            refine kz_bits E hl.1 hC (hae) (hee) (by decide) (Nat.le_of_ble_eq_true rfl) dz_perform_112 (fun H locs hC => ?_)
            exact hret _ _ _ _ dz_perform_115 hC  (nw_i _)
        · rw [if_neg h4] at hret
          exact wz_perform_75 E hC (lv_sub hl [1, 2, 3, 4, 0] rfl) (hae) (hee) hret
  · rw [if_neg h1] at hret
    refine lv_aload_n hx hb dz_perform_19 rfl (lv_at hl 1 rfl) ?_
    refine lv_iload_n hx hb dz_perform_20 rfl (lv_at hl 2 rfl) ?_
    refine lv_iconst (v := (2 : Int32)) hx hb dz_perform_21 (by decide) ?_
    refine lv_ishr hx hb dz_perform_22 ?_
    refine lv_iconst (v := (3 : Int32)) hx hb dz_perform_23 (by decide) ?_
    refine lv_iand hx hb dz_perform_24 ?_
    refine lv_iload hx hb dz_perform_25 (lv_at hl 0 rfl) ?_
    refine lv_iload_n hx hb dz_perform_27 rfl (lv_at hl 3 rfl) ?_
    refine lv_iload_n hx hb dz_perform_28 rfl (lv_at hl 4 rfl) ?_
    refine kz_move E hl.1 hC (hae) (hee) (by decide) (Nat.le_of_ble_eq_true rfl) dz_perform_29 (fun H locs hC => ?_)
    exact hret _ _ _ _ dz_perform_32 hC  (nw_i _)
set_option maxRecDepth 100000 in
set_option maxHeartbeats 4000000 in
theorem mz_perform (l : Launch) (k : kSz) (v1 : Int32) (v2 : Int32) (v3 : Int32) (hae : vp_in v2 4096) (hee : 0 ≤ v3) : zMet l yz_perform cz_perform 5 (some .int) 4 [.int v1, .int v2, .int v3] k (some (.int (fz_perform k v1 v2 v3).1)) (fz_perform k v1 v2 v3).2  :=
  zMet.ofi (by decide) rfl (fun _ => Nat.le_of_ble_eq_true rfl) (fun D cA h0 q p env s m args below meth c ls Q E hC hl hret => wz_perform_0 E hC (lv_sub hl [0, 1, 2, 3] rfl) hae hee hret)
theorem gkz_perform : zYw R_z 54 yz_perform cz_perform 5 (some .int) 3 := ⟨wc_z_perform, wl_z_54, wi_z_perform, ws_z_perform, wn_z, ⟨by decide, by decide, by decide +kernel⟩, by decide⟩
theorem kz_perform {p : Program} {l : Launch} {env : Env} {s : State} {m : MethodId} {args : Array Value} {below : List Frame} {meth : Method} {c : Code} {H : Heap} {locs : List Loc} {Q : State → Prop} {cc : ByteArray} {pc nL d : Nat} {ls : Array Slot} {rest : List Value} {D : va_G} {cA : ClassId} {h0 q : Nat} {k : kSz} {v1 : Int32} {v2 : Int32} {v3 : Int32} (E : zE p s m args c cc nL D cA h0 q) (hls : ls.size = nL) (hC : zC D cA h0 q s.heap k H locs) (hae : vp_in v2 4096) (hee : 0 ≤ v3) (hd : 4 + 1 ≤ d) (hr : (rest.map fun v => v.category).sum ≤ 8) (hdg : decode cc pc = .ok (.invokevirtual 54, 3)) (kk : ∀ (H1 : Heap) (locs1 : List Loc), zC D cA h0 q s.heap (fz_perform k v1 v2 v3).2  H1 locs1 → W p l env (rmD d) s m args below meth c H1 locs1 0 0 Q (F0 m (pc + 3) ls (.int (fz_perform k v1 v2 v3).1 :: rest))) : W p l env (rmD d) s m args below meth c H locs 0 0 Q (F0 m pc ls (.int v3 :: .int v2 :: .int v1 :: .ref h0 :: rest)) :=
  zcall (av := [.int v1, .int v2, .int v3]) E (mz_perform l k v1 v2 v3 hae hee) gkz_perform rfl hls hC hd hr hdg kk
/-! TenMachineModel.instruction ()I -/
def fz_instruction_34 : Nat → kSz → Int64 → Int32 → Int32 × kSz
  | 0, k, v1, v3 => (0, k)
  | n + 1, k, v1, v3 =>
    if (8 : Int32) < v3 then
      ((2 : Int32), k)
    else
      if 0 ≤ (fz_address k v1) then
        if ((v1 >>> ((27 : Int32).toInt64 &&& 63)).toInt32) = (174 : Int32) then
          if (fz_address k v1) < (4096 : Int32) then
            fz_instruction_34 n k (ldz k (fz_address k v1)) (v3 + 1)
          else
            ((2 : Int32), k)
        else
          (fz_perform k ((v1 >>> ((27 : Int32).toInt64 &&& 63)).toInt32) (((v1 >>> ((23 : Int32).toInt64 &&& 63)).toInt32) &&& (15 : Int32)) (fz_address k v1))
      else
        ((2 : Int32), k)
set_option maxRecDepth 100000 in
set_option maxHeartbeats 4000000 in
theorem wz_instruction_34 (E : zE p s m args c cz_instruction 7 D cA h0 q) : ∀ (n : Nat) (k : kSz) (v1 : Int64) (v3 : Int32) (H : Heap) (locs : List Loc) (ls : Array Slot), zC D cA h0 q s.heap k H locs → lv_has ls 7 [(0, .ref h0), (1, .long v1), (3, .int v3)] → (9 - v3.toInt).toNat < n → zwi p l env (rmD 5) s m args below meth c cz_instruction D cA h0 q .int Q (fz_instruction_34 n k v1 v3) → W p l env (rmD 5) s m args below meth c H locs 0 0 Q (F0 m 34 ls []) := by
  have hx := E.1.1; have hb := E.1.2.1
  intro n
  induction n with
  | zero => intro k v1 v3 H locs ls hC hl  hmu hret; exact absurd hmu (Nat.not_lt_zero _)
  | succ n ih =>
    intro k v1 v3 H locs ls hC hl  hmu hret
    rw [fz_instruction_34] at hret
    refine lv_iload_n hx hb dz_instruction_34 rfl (lv_at hl 2 rfl) ?_
    refine lv_bipush (v := (8 : Int32)) hx hb dz_instruction_35 (by decide) ?_
    refine lv_icmp_gt (tgt := 114) hx hb dz_instruction_37 (by decide) (fun h1 => ?_) (fun h1 => ?_)
    · rw [if_pos h1] at hret
      refine lv_iconst (v := (2 : Int32)) hx hb dz_instruction_114 (by decide) ?_
      exact (zwi_out hret) _ _ _ _ dz_instruction_115 hC  (nw_i _)
    · rw [if_neg h1] at hret
      refine lv_aload_n hx hb dz_instruction_40 rfl (lv_at hl 0 rfl) ?_
      refine lv_lload_n hx hb dz_instruction_41 rfl (lv_at hl 1 rfl) ?_
      refine kz_address E hl.1 hC (by decide) (Nat.le_of_ble_eq_true rfl) dz_instruction_42 (fun H locs hC => ?_)
      refine lv_istore (lv' := [(4, .int (fz_address k v1)), (0, .ref h0), (1, .long v1), (3, .int v3)]) hx hb dz_instruction_45 hl (by decide) rfl (fun ls hl => ?_)
      refine lv_lload_n hx hb dz_instruction_47 rfl (lv_at hl 2 rfl) ?_
      refine lv_bipush (v := (27 : Int32)) hx hb dz_instruction_48 (by decide) ?_
      refine lv_lshr hx hb dz_instruction_50 rfl ?_
      refine lv_l2i hx hb dz_instruction_51 rfl ?_
      refine lv_istore (lv' := [(5, .int ((v1 >>> ((27 : Int32).toInt64 &&& 63)).toInt32)), (4, .int (fz_address k v1)), (0, .ref h0), (1, .long v1), (3, .int v3)]) hx hb dz_instruction_52 hl (by decide) rfl (fun ls hl => ?_)
      refine lv_lload_n hx hb dz_instruction_54 rfl (lv_at hl 3 rfl) ?_
      refine lv_bipush (v := (23 : Int32)) hx hb dz_instruction_55 (by decide) ?_
      refine lv_lshr hx hb dz_instruction_57 rfl ?_
      refine lv_l2i hx hb dz_instruction_58 rfl ?_
      refine lv_bipush (v := (15 : Int32)) hx hb dz_instruction_59 (by decide) ?_
      refine lv_iand hx hb dz_instruction_61 ?_
      refine lv_istore (lv' := [(6, .int (((v1 >>> ((23 : Int32).toInt64 &&& 63)).toInt32) &&& (15 : Int32))), (5, .int ((v1 >>> ((27 : Int32).toInt64 &&& 63)).toInt32)), (4, .int (fz_address k v1)), (0, .ref h0), (1, .long v1), (3, .int v3)]) hx hb dz_instruction_62 hl (by decide) rfl (fun ls hl => ?_)
      refine lv_iload hx hb dz_instruction_64 (lv_at hl 2 rfl) ?_
      refine lv_if_ge (tgt := 71) hx hb dz_instruction_66 (by decide) (fun h2 => ?_) (fun h2 => ?_)
      · rw [if_pos h2] at hret
        refine lv_iload hx hb dz_instruction_71 (lv_at hl 1 rfl) ?_
        refine lv_sipush (v := (174 : Int32)) hx hb dz_instruction_73 (by decide) ?_
        refine lv_icmp_eq (tgt := 90) hx hb dz_instruction_76 (by decide) (fun h3 => ?_) (fun h3 => ?_)
        · rw [if_pos h3] at hret
          refine lv_iload hx hb dz_instruction_90 (lv_at hl 2 rfl) ?_
          refine lv_sipush (v := (4096 : Int32)) hx hb dz_instruction_92 (by decide) ?_
          refine lv_icmp_lt (tgt := 100) hx hb dz_instruction_95 (by decide) (fun h4 => ?_) (fun h4 => ?_)
          · rw [if_pos h4] at hret
            refine lv_aload_n hx hb dz_instruction_100 rfl (lv_at hl 3 rfl) ?_
            refine zg_words E hC dz_instruction_101 ?_
            refine lv_iload hx hb dz_instruction_104 (lv_at hl 2 rfl) ?_
            refine zld E hC (vin_lt (h2) h4) dz_instruction_106 ?_
            refine lv_lstore_n (lv' := [(1, .long (ldz k (fz_address k v1))), (6, .int (((v1 >>> ((23 : Int32).toInt64 &&& 63)).toInt32) &&& (15 : Int32))), (5, .int ((v1 >>> ((27 : Int32).toInt64 &&& 63)).toInt32)), (4, .int (fz_address k v1)), (0, .ref h0), (3, .int v3)]) hx hb dz_instruction_107 rfl hl (by decide) rfl (fun ls hl => ?_)
            refine lv_iinc (v := (v3 + 1)) (lv' := [(3, .int (v3 + 1)), (1, .long (ldz k (fz_address k v1))), (6, .int (((v1 >>> ((23 : Int32).toInt64 &&& 63)).toInt32) &&& (15 : Int32))), (5, .int ((v1 >>> ((27 : Int32).toInt64 &&& 63)).toInt32)), (4, .int (fz_address k v1)), (0, .ref h0)]) hx hb dz_instruction_108 hl (k := 5) rfl (by rfl) (by decide) rfl (fun ls hl => ?_)
            refine lv_goto (tgt := 34) hx hb dz_instruction_111 (by decide) ?_
            exact ih _ _ _ _ _ _ hC (lv_sub hl [5, 1, 0] rfl) (mu_up9 (by assumption) hmu) hret
          · rw [if_neg h4] at hret
            refine lv_iconst (v := (2 : Int32)) hx hb dz_instruction_98 (by decide) ?_
            exact (zwi_out hret) _ _ _ _ dz_instruction_99 hC  (nw_i _)
        · rw [if_neg h3] at hret
          refine lv_aload_n hx hb dz_instruction_79 rfl (lv_at hl 3 rfl) ?_
          refine lv_iload hx hb dz_instruction_80 (lv_at hl 1 rfl) ?_
          refine lv_iload hx hb dz_instruction_82 (lv_at hl 0 rfl) ?_
          refine lv_iload hx hb dz_instruction_84 (lv_at hl 2 rfl) ?_
          refine kz_perform E hl.1 hC (vin15 _) (by assumption) (by decide) (Nat.le_of_ble_eq_true rfl) dz_instruction_86 (fun H locs hC => ?_)
          exact hret _ _ _ _ dz_instruction_89 hC  (nw_i _)
      · rw [if_neg h2] at hret
        refine lv_iconst (v := (2 : Int32)) hx hb dz_instruction_69 (by decide) ?_
        exact (zwi_out hret) _ _ _ _ dz_instruction_70 hC  (nw_i _)
def fz_instruction (k : kSz)  : Int32 × kSz :=
  if (uz_ct k) < (4096 : Int32) then
    fz_instruction_34 10 (vz_bh k ((uz_ct k) + (1 : Int32))) (ldz k (uz_ct k)) (0 : Int32)
  else
    ((2 : Int32), k)
set_option maxRecDepth 100000 in
set_option maxHeartbeats 4000000 in
theorem wz_instruction_0 {k : kSz} {H : Heap} {locs : List Loc} {ls : Array Slot} (E : zE p s m args c cz_instruction 7 D cA h0 q) (hC : zC D cA h0 q s.heap k H locs) (hl : lv_has ls 7 [(0, .ref h0)]) (hct : 0 ≤ uz_ct k) (hret : zwi p l env (rmD 5) s m args below meth c cz_instruction D cA h0 q .int Q (fz_instruction k)) : W p l env (rmD 5) s m args below meth c H locs 0 0 Q (F0 m 0 ls []) := by
  have hx := E.1.1; have hb := E.1.2.1
  unfold fz_instruction at hret
  refine lv_aload_n hx hb dz_instruction_0 rfl (lv_at hl 0 rfl) ?_
  refine zg_counter E hC dz_instruction_1 ?_
  refine lv_sipush (v := (4096 : Int32)) hx hb dz_instruction_4 (by decide) ?_
  refine lv_icmp_lt (tgt := 12) hx hb dz_instruction_7 (by decide) (fun h1 => ?_) (fun h1 => ?_)
  · rw [if_pos h1] at hret
    refine lv_aload_n hx hb dz_instruction_12 rfl (lv_at hl 0 rfl) ?_
    refine zg_words E hC dz_instruction_13 ?_
    refine lv_aload_n hx hb dz_instruction_16 rfl (lv_at hl 0 rfl) ?_
    refine zg_counter E hC dz_instruction_17 ?_
    refine zld E hC (vin_lt (hct) h1) dz_instruction_20 ?_
    refine lv_lstore_n (lv' := [(1, .long (ldz k (uz_ct k))), (0, .ref h0)]) hx hb dz_instruction_21 rfl hl (by decide) rfl (fun ls hl => ?_)
    refine lv_aload_n hx hb dz_instruction_22 rfl (lv_at hl 1 rfl) ?_
    refine lv_aload_n hx hb dz_instruction_23 rfl (lv_at hl 1 rfl) ?_
    refine zg_counter E hC dz_instruction_24 ?_
    refine lv_iconst (v := (1 : Int32)) hx hb dz_instruction_27 (by decide) ?_
    refine lv_iadd hx hb dz_instruction_28 ?_
    refine zp_behind E hC dz_instruction_29 (fun H locs hC => ?_)
    refine lv_iconst (v := (0 : Int32)) hx hb dz_instruction_32 (by decide) ?_
    refine lv_istore_n (lv' := [(3, .int (0 : Int32)), (1, .long (ldz k (uz_ct k))), (0, .ref h0)]) hx hb dz_instruction_33 rfl hl (by decide) rfl (fun ls hl => ?_)
    exact wz_instruction_34 E 10 _ _ _ _ _ _ hC (lv_sub hl [2, 1, 0] rfl) (by decide) hret
  · rw [if_neg h1] at hret
    refine lv_iconst (v := (2 : Int32)) hx hb dz_instruction_10 (by decide) ?_
    exact (zwi_out hret) _ _ _ _ dz_instruction_11 hC  (nw_i _)
set_option maxRecDepth 100000 in
set_option maxHeartbeats 4000000 in
theorem mz_instruction (l : Launch) (k : kSz) (hct : 0 ≤ uz_ct k) : zMet l yz_instruction cz_instruction 7 (some .int) 5 [] k (some (.int (fz_instruction k).1)) (fz_instruction k).2  :=
  zMet.ofi (by decide) rfl (fun _ => Nat.le_of_ble_eq_true rfl) (fun D cA h0 q p env s m args below meth c ls Q E hC hl hret => wz_instruction_0 E hC (lv_sub hl [0] rfl) hct hret)
theorem gkz_instruction : zYw R_z 40 yz_instruction cz_instruction 7 (some .int) 0 := ⟨wc_z_instruction, wl_z_40, wi_z_instruction, ws_z_instruction, wn_z, ⟨by decide, by decide, by decide +kernel⟩, by decide⟩
theorem kz_instruction {p : Program} {l : Launch} {env : Env} {s : State} {m : MethodId} {args : Array Value} {below : List Frame} {meth : Method} {c : Code} {H : Heap} {locs : List Loc} {Q : State → Prop} {cc : ByteArray} {pc nL d : Nat} {ls : Array Slot} {rest : List Value} {D : va_G} {cA : ClassId} {h0 q : Nat} {k : kSz} (E : zE p s m args c cc nL D cA h0 q) (hls : ls.size = nL) (hC : zC D cA h0 q s.heap k H locs) (hct : 0 ≤ uz_ct k) (hd : 5 + 1 ≤ d) (hr : (rest.map fun v => v.category).sum ≤ 8) (hdg : decode cc pc = .ok (.invokevirtual 40, 3)) (kk : ∀ (H1 : Heap) (locs1 : List Loc), zC D cA h0 q s.heap (fz_instruction k).2  H1 locs1 → W p l env (rmD d) s m args below meth c H1 locs1 0 0 Q (F0 m (pc + 3) ls (.int (fz_instruction k).1 :: rest))) : W p l env (rmD d) s m args below meth c H locs 0 0 Q (F0 m pc ls (.ref h0 :: rest)) :=
  zcall (av := []) E (mz_instruction l k  hct) gkz_instruction rfl hls hC hd hr hdg kk

/-- the state in which the reference's go begins its next round -/
def znext (k : kSz) : kSz := vz_ct (vz_dn ((fz_instruction k).2) ((uz_dn ((fz_instruction k).2)) + (1 : Int32))) (uz_bh (vz_dn ((fz_instruction k).2) ((uz_dn ((fz_instruction k).2)) + (1 : Int32))))
/-- the counter stays at 0 or more through n rounds -/
def zgood : Nat → kSz → Prop
  | 0, _ => True
  | n + 1, k => 0 ≤ uz_ct k ∧ (¬ ((fz_instruction k).1) = (2 : Int32) → ¬ ((fz_instruction k).1) = (1 : Int32) → zgood n (znext k))
/-! TenMachineModel.go (IIZ)I -/
def fz_go_48 : Nat → kSz → Int32 → Int32 → Int32 × kSz
  | 0, k, v2, v4 => (0, k)
  | n + 1, k, v2, v4 =>
    if v2 ≤ v4 then
      ((0 : Int32), k)
    else
      if ((fz_instruction k).1) = (2 : Int32) then
        ((2 : Int32), (fz_instruction k).2)
      else
        if ((fz_instruction k).1) = (1 : Int32) then
          ((1 : Int32), vz_ct (vz_dn ((fz_instruction k).2) ((uz_dn ((fz_instruction k).2)) + (1 : Int32))) (uz_bh (vz_dn ((fz_instruction k).2) ((uz_dn ((fz_instruction k).2)) + (1 : Int32)))))
        else
          fz_go_48 n (vz_ct (vz_dn ((fz_instruction k).2) ((uz_dn ((fz_instruction k).2)) + (1 : Int32))) (uz_bh (vz_dn ((fz_instruction k).2) ((uz_dn ((fz_instruction k).2)) + (1 : Int32))))) v2 (v4 + 1)
set_option maxRecDepth 100000 in
set_option maxHeartbeats 4000000 in
theorem wz_go_48 (E : zE p s m args c cz_go 6 D cA h0 q) : ∀ (n : Nat) (k : kSz) (v2 : Int32) (v4 : Int32) (H : Heap) (locs : List Loc) (ls : Array Slot), zC D cA h0 q s.heap k H locs → lv_has ls 6 [(0, .ref h0), (2, .int v2), (4, .int v4)] → (zgood n k) → (v2.toInt - v4.toInt).toNat < n → zwi p l env (rmD 6) s m args below meth c cz_go D cA h0 q .int Q (fz_go_48 n k v2 v4) → W p l env (rmD 6) s m args below meth c H locs 0 0 Q (F0 m 48 ls []) := by
  have hx := E.1.1; have hb := E.1.2.1
  intro n
  induction n with
  | zero => intro k v2 v4 H locs ls hC hl hgo hmu hret; exact absurd hmu (Nat.not_lt_zero _)
  | succ n ih =>
    intro k v2 v4 H locs ls hC hl hgo hmu hret
    rw [fz_go_48] at hret
    refine lv_iload hx hb dz_go_48 (lv_at hl 2 rfl) ?_
    refine lv_iload_n hx hb dz_go_50 rfl (lv_at hl 1 rfl) ?_
    refine lv_icmp_ge (tgt := 100) hx hb dz_go_51 (by decide) (fun h1 => ?_) (fun h1 => ?_)
    · rw [if_pos h1] at hret
      refine lv_iconst (v := (0 : Int32)) hx hb dz_go_100 (by decide) ?_
      exact (zwi_out hret) _ _ _ _ dz_go_101 hC  (nw_i _)
    · rw [if_neg h1] at hret
      refine lv_aload_n hx hb dz_go_54 rfl (lv_at hl 0 rfl) ?_
      refine kz_instruction E hl.1 hC (hgo.1) (by decide) (Nat.le_of_ble_eq_true rfl) dz_go_55 (fun H locs hC => ?_)
      refine lv_istore (lv' := [(5, .int ((fz_instruction k).1)), (0, .ref h0), (2, .int v2), (4, .int v4)]) hx hb dz_go_58 hl (by decide) rfl (fun ls hl => ?_)
      refine lv_iload hx hb dz_go_60 (lv_at hl 0 rfl) ?_
      refine lv_iconst (v := (2 : Int32)) hx hb dz_go_62 (by decide) ?_
      refine lv_icmp_ne (tgt := 68) hx hb dz_go_63 (by decide) (fun h2 => ?_) (fun h2 => ?_)
      · rw [if_neg h2] at hret
        refine lv_aload_n hx hb dz_go_68 rfl (lv_at hl 1 rfl) ?_
        refine lv_dup hx hb dz_go_69 rfl ?_
        refine zg_done E hC dz_go_70 ?_
        refine lv_iconst (v := (1 : Int32)) hx hb dz_go_73 (by decide) ?_
        refine lv_iadd hx hb dz_go_74 ?_
        refine zp_done E hC dz_go_75 (fun H locs hC => ?_)
        refine lv_aload_n hx hb dz_go_78 rfl (lv_at hl 1 rfl) ?_
        refine lv_aload_n hx hb dz_go_79 rfl (lv_at hl 1 rfl) ?_
        refine zg_behind E hC dz_go_80 ?_
        refine zp_counter E hC dz_go_83 (fun H locs hC => ?_)
        refine lv_iload hx hb dz_go_86 (lv_at hl 0 rfl) ?_
        refine lv_iconst (v := (1 : Int32)) hx hb dz_go_88 (by decide) ?_
        refine lv_icmp_ne (tgt := 94) hx hb dz_go_89 (by decide) (fun h3 => ?_) (fun h3 => ?_)
        · rw [if_neg h3] at hret
          refine lv_iinc (v := (v4 + 1)) (lv' := [(4, .int (v4 + 1)), (5, .int ((fz_instruction k).1)), (0, .ref h0), (2, .int v2)]) hx hb dz_go_94 hl (k := 3) rfl (by rfl) (by decide) rfl (fun ls hl => ?_)
          refine lv_goto (tgt := 48) hx hb dz_go_97 (by decide) ?_
          exact ih _ _ _ _ _ _ hC (lv_sub hl [2, 3, 0] rfl) (hgo.2 h2 h3) (mu_up (by assumption) hmu) hret
        · rw [if_pos h3] at hret
          refine lv_iconst (v := (1 : Int32)) hx hb dz_go_92 (by decide) ?_
          exact (zwi_out hret) _ _ _ _ dz_go_93 hC  (nw_i _)
      · rw [if_pos h2] at hret
        refine lv_iconst (v := (2 : Int32)) hx hb dz_go_66 (by decide) ?_
        exact (zwi_out hret) _ _ _ _ dz_go_67 hC  (nw_i _)
def fz_go_40 (k : kSz) (v2 : Int32) : Int32 × kSz :=
  fz_go_48 501 (vz_dn k (0 : Int32)) v2 (0 : Int32)
set_option maxRecDepth 100000 in
set_option maxHeartbeats 4000000 in
theorem wz_go_40 {k : kSz} {v2 : Int32} {H : Heap} {locs : List Loc} {ls : Array Slot} (E : zE p s m args c cz_go 6 D cA h0 q) (hC : zC D cA h0 q s.heap k H locs) (hl : lv_has ls 6 [(0, .ref h0), (2, .int v2)]) (hn5 : v2 ≤ 500) (hg4 : zgood 501 (vz_dn k (0 : Int32))) (hret : zwi p l env (rmD 6) s m args below meth c cz_go D cA h0 q .int Q (fz_go_40 k v2)) : W p l env (rmD 6) s m args below meth c H locs 0 0 Q (F0 m 40 ls []) := by
  have hx := E.1.1; have hb := E.1.2.1
  unfold fz_go_40 at hret
  refine lv_aload_n hx hb dz_go_40 rfl (lv_at hl 0 rfl) ?_
  refine lv_iconst (v := (0 : Int32)) hx hb dz_go_41 (by decide) ?_
  refine zp_done E hC dz_go_42 (fun H locs hC => ?_)
  refine lv_iconst (v := (0 : Int32)) hx hb dz_go_45 (by decide) ?_
  refine lv_istore (lv' := [(4, .int (0 : Int32)), (0, .ref h0), (2, .int v2)]) hx hb dz_go_46 hl (by decide) rfl (fun ls hl => ?_)
  exact wz_go_48 E 501 _ _ _ _ _ _ hC (lv_sub hl [1, 2, 0] rfl) (hg4) (mu_go (by assumption)) hret
def fz_go (k : kSz) (v1 : Int32) (v2 : Int32) (v3 : Int32) : Int32 × kSz :=
  if (fz_in v1.toInt64 (0 : Int64) (4095 : Int64)) = 0 then
    ((-1 : Int32), k)
  else
    if (fz_in v2.toInt64 (0 : Int64) (500 : Int64)) = 0 then
      ((-1 : Int32), k)
    else
      if v3 = 0 then
        fz_go_40 (vz_ct k v1) v2
      else
        fz_go_40 (vz_ov (vz_ct k v1) (0 : Int32)) v2
set_option maxRecDepth 100000 in
set_option maxHeartbeats 4000000 in
theorem wz_go_0 {k : kSz} {v1 : Int32} {v2 : Int32} {v3 : Int32} {H : Heap} {locs : List Loc} {ls : Array Slot} (E : zE p s m args c cz_go 6 D cA h0 q) (hC : zC D cA h0 q s.heap k H locs) (hl : lv_has ls 6 [(0, .ref h0), (1, .int v1), (2, .int v2), (3, .int v3)]) (hgd : ¬ (fz_in v1.toInt64 (0 : Int64) (4095 : Int64)) = 0 → zgood 501 (vz_dn (vz_ct k v1) (0 : Int32)) ∧ zgood 501 (vz_dn (vz_ov (vz_ct k v1) (0 : Int32)) (0 : Int32))) (hret : zwi p l env (rmD 6) s m args below meth c cz_go D cA h0 q .int Q (fz_go k v1 v2 v3)) : W p l env (rmD 6) s m args below meth c H locs 0 0 Q (F0 m 0 ls []) := by
  have hx := E.1.1; have hb := E.1.2.1
  unfold fz_go at hret
  refine lv_iload_n hx hb dz_go_0 rfl (lv_at hl 1 rfl) ?_
  refine lv_i2l hx hb dz_go_1 rfl ?_
  refine lv_lconst (v := (0 : Int64)) hx hb dz_go_2 (by decide) ?_
  refine lv_ldc2 hx hb E.1.2.2.2.1 (E.1.2.2.2.2 _ ct_z_21) dz_go_3 ?_
  refine kz_in_in_z E.1 hl.1 (by decide) (Nat.le_of_ble_eq_true rfl) dz_go_6 ?_
  refine lv_if_eq (tgt := 24) hx hb dz_go_9 (by decide) (fun h1 => ?_) (fun h1 => ?_)
  · rw [if_pos h1] at hret
    refine lv_iconst (v := (-1 : Int32)) hx hb dz_go_24 (by decide) ?_
    exact (zwi_out hret) _ _ _ _ dz_go_25 hC  (nw_i _)
  · rw [if_neg h1] at hret
    refine lv_iload_n hx hb dz_go_12 rfl (lv_at hl 2 rfl) ?_
    refine lv_i2l hx hb dz_go_13 rfl ?_
    refine lv_lconst (v := (0 : Int64)) hx hb dz_go_14 (by decide) ?_
    refine lv_ldc2 hx hb E.1.2.2.2.1 (E.1.2.2.2.2 _ ct_z_27) dz_go_15 ?_
    refine kz_in_in_z E.1 hl.1 (by decide) (Nat.le_of_ble_eq_true rfl) dz_go_18 ?_
    refine lv_if_ne (tgt := 26) hx hb dz_go_21 (by decide) (fun h2 => ?_) (fun h2 => ?_)
    · rw [if_neg h2] at hret
      refine lv_aload_n hx hb dz_go_26 rfl (lv_at hl 0 rfl) ?_
      refine lv_iload_n hx hb dz_go_27 rfl (lv_at hl 1 rfl) ?_
      refine zp_counter E hC dz_go_28 (fun H locs hC => ?_)
      refine lv_iload_n hx hb dz_go_31 rfl (lv_at hl 3 rfl) ?_
      refine lv_if_eq (tgt := 40) hx hb dz_go_32 (by decide) (fun h3 => ?_) (fun h3 => ?_)
      · rw [if_pos h3] at hret
        exact wz_go_40 E hC (lv_sub hl [0, 2] rfl) (zin_500 h2) ((hgd h1).1) hret
      · rw [if_neg h3] at hret
        refine lv_aload_n hx hb dz_go_35 rfl (lv_at hl 0 rfl) ?_
        refine lv_iconst (v := (0 : Int32)) hx hb dz_go_36 (by decide) ?_
        refine zp_overflow E hC rfl rfl dz_go_37 (fun H locs hC => ?_)
        exact wz_go_40 E hC (lv_sub hl [0, 2] rfl) (zin_500 h2) ((hgd h1).2) hret
    · rw [if_pos h2] at hret
      refine lv_iconst (v := (-1 : Int32)) hx hb dz_go_24 (by decide) ?_
      exact (zwi_out hret) _ _ _ _ dz_go_25 hC  (nw_i _)
set_option maxRecDepth 100000 in
set_option maxHeartbeats 4000000 in
theorem mz_go (l : Launch) (k : kSz) (v1 : Int32) (v2 : Int32) (v3 : Int32) (hgd : ¬ (fz_in v1.toInt64 (0 : Int64) (4095 : Int64)) = 0 → zgood 501 (vz_dn (vz_ct k v1) (0 : Int32)) ∧ zgood 501 (vz_dn (vz_ov (vz_ct k v1) (0 : Int32)) (0 : Int32))) : zMet l yz_go cz_go 6 (some .int) 6 [.int v1, .int v2, .int v3] k (some (.int (fz_go k v1 v2 v3).1)) (fz_go k v1 v2 v3).2  :=
  zMet.ofi (by decide) rfl (fun _ => Nat.le_of_ble_eq_true rfl) (fun D cA h0 q p env s m args below meth c ls Q E hC hl hret => wz_go_0 E hC (lv_sub hl [0, 1, 2, 3] rfl) hgd hret)
end TTV
