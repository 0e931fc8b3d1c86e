section LOOP
variable {p : Program} {l : Launch} {e : Env} {s : State} {m : MethodId} {below : List Frame} {meth : Method} {c : Code} {D : va_G} {A : Nat → Prop} {cA cB : ClassId} {hx qx hz qz b L : Nat} {xs : Nat → Int32}
theorem l_off {i j L : Nat} {x : Int32} (hx : x = nI j) (h : i + j < L) (hL : L ≤ 2048) : vp_in (nI i + x) L := by
  rw [hx, nI_add]; exact vp_in_nI h (by omega)
set_option maxRecDepth 100000 in
set_option maxHeartbeats 4000000 in
theorem law_loop (E : lE p s m c D A cA cB hx qx hz qz b L xs) (hr : meth.sig.returnType = ret) (hlocks : meth.locks = false) (hAs : ∀ x, A x → s.heap.size ≤ x) : ∀ (n i : Nat) (kx : kSx) (op ac ea : Int32) (kz : kSz) (H : Heap) (locs : List Loc) (ls : Array Slot), L - i < n → i ≤ L → va_P D clT (xW cA hx qx kx op ac ea) H → va_P D clT (zW cB hz qz kz) H → va_S A s.heap H locs → Rel kx kz → lv_has ls 4 [(0, .ref b), (1, .ref hx), (2, .ref hz), (3, .int (nI i))] →
    W p l e room_1 s m #[Value.ref b] below meth c H locs 4 8204 (lw_Z below #[Value.ref b] s) (F0 m 18 ls []) := by
  have hx0 := E.1.1; have hb0 := E.1.2.1
  have hL : L ≤ 2048 := E.2.2.2.2.2.2.2.2.2.2.2.2.2.2
  intro n
  induction n with
  | zero => intro i kx op ac ea kz H locs ls hn; exact absurd hn (Nat.not_lt_zero _)
  | succ n ih =>
    intro i kx op ac ea kz H locs ls hn hiL hPx hPz hS hRel hl
    refine lv_iload_n hx0 hb0 dl_18 rfl (lv_at hl 3 rfl) ?_
    refine lv_aload_n hx0 hb0 dl_19 rfl (lv_at hl 0 rfl) ?_
    refine l_slen E hS dl_20 ?_
    refine lv_iconst (v := 4) hx0 hb0 dl_21 (by decide) ?_
    refine lv_isub hx0 hb0 dl_22 ?_
    have e4 : (nI L - 4).toInt = (L : Int) - 4 := by
      have h1 : (nI L).toInt = (L : Int) := nI_toInt (by omega)
      rw [t32_sub (by rw [h1, show (4 : Int32).toInt = 4 from rfl]; omega) (by rw [h1, show (4 : Int32).toInt = 4 from rfl]; omega), h1]; rfl
    have ei : (nI i).toInt = (i : Int) := nI_toInt (by omega)
    refine lv_icmp_gt (tgt := 235) hx0 hb0 dl_23 (by decide) (fun hc => ?_) (fun hc => ?_)
    · refine lv_iconst (v := 1) hx0 hb0 dl_235 (by decide) ?_
      exact va_forget (fun q hq => hAs _ (hS.2.2 q hq)) (lw_ret hx0 hb0 hr hlocks dl_236)
    · rw [i32_lt, e4, ei] at hc
      have h4 : i + 4 ≤ L := by omega
      have hi0 : vp_in (nI i) L := vp_in_nI (by omega) (by omega)
      have hi1 : vp_in (nI i + 1) L := l_off (j := 1) rfl (by omega) hL
      have hi2 : vp_in (nI i + 2) L := l_off (j := 2) rfl (by omega) hL
      have hi3 : vp_in (nI i + 3) L := l_off (j := 3) rfl (by omega) hL
      have hend : ∀ (kx : kSx) (op ac ea : Int32) (kz : kSz) (H : Heap) (locs : List Loc), va_P D clT (xW cA hx qx kx op ac ea) H → va_P D clT (zW cB hz qz kz) H → va_S A s.heap H locs → Rel kx kz → W p l e room_1 s m #[Value.ref b] below meth c H locs 4 8204 (lw_Z below #[Value.ref b] s) (F0 m 229 ls []) := by
        intro kx op ac ea kz H locs hPx hPz hS hRel
        refine lv_iinc (v := nI (i + 4)) (lv' := [(3, .int (nI (i + 4))), (0, .ref b), (1, .ref hx), (2, .ref hz)]) hx0 hb0 dl_229 hl (k := 3) rfl (by rw [show Int32.ofInt 4 = nI 4 from rfl, nI_add]) (by decide) rfl (fun ls hl => ?_)
        refine lv_goto (tgt := 18) hx0 hb0 dl_232 (by decide) ?_
        exact ih (i + 4) kx op ac ea kz H locs ls (by omega) (by omega) hPx hPz hS hRel (lv_sub hl [1, 2, 3, 0] rfl)
      refine lv_aload_n hx0 hb0 dl_26 rfl (lv_at hl 0 rfl) ?_
      refine lv_iload_n hx0 hb0 dl_27 rfl (lv_at hl 3 rfl) ?_
      refine l_sld E hS hi0 dl_28 ?_
      refine lv_iconst (v := 3) hx0 hb0 dl_29 (by decide) ?_
      refine lv_iand hx0 hb0 dl_30 ?_
      by_cases hk0 : (xs (nI i).toNatClampNeg &&& 3) = 0
      · refine lv_tableIn (off := 29) (tgt := 60) hx0 hb0 dl_31 (by rw [hk0]; decide) (by rw [hk0]; decide) (by rw [hk0]; rfl) (by decide) ?_
        refine lv_aload_n hx0 hb0 dl_60 rfl (lv_at hl 1 rfl) ?_
        refine lv_aload_n hx0 hb0 dl_61 rfl (lv_at hl 0 rfl) ?_
        refine lv_iload_n hx0 hb0 dl_62 rfl (lv_at hl 3 rfl) ?_
        refine lv_iconst (v := 1) hx0 hb0 dl_63 (by decide) ?_
        refine lv_iadd hx0 hb0 dl_64 ?_
        refine l_sld E hS hi1 dl_65 ?_
        refine lv_aload_n hx0 hb0 dl_66 rfl (lv_at hl 0 rfl) ?_
        refine lv_iload_n hx0 hb0 dl_67 rfl (lv_at hl 3 rfl) ?_
        refine lv_iconst (v := 2) hx0 hb0 dl_68 (by decide) ?_
        refine lv_iadd hx0 hb0 dl_69 ?_
        refine l_sld E hS hi2 dl_70 ?_
        refine lv_i2l hx0 hb0 dl_71 rfl ?_
        refine lv_bipush (v := 32) hx0 hb0 dl_72 (by decide) ?_
        refine lv_lshl hx0 hb0 dl_74 rfl ?_
        refine lv_aload_n hx0 hb0 dl_75 rfl (lv_at hl 0 rfl) ?_
        refine lv_iload_n hx0 hb0 dl_76 rfl (lv_at hl 3 rfl) ?_
        refine lv_iconst (v := 3) hx0 hb0 dl_77 (by decide) ?_
        refine lv_iadd hx0 hb0 dl_78 ?_
        refine l_sld E hS hi3 dl_79 ?_
        refine lv_i2l hx0 hb0 dl_80 rfl ?_
        refine lv_ldc2 hx0 hb0 E.1.2.2.2.1 (E.1.2.2.2.2 _ ct_l_13) dl_81 ?_
        refine lv_land hx0 hb0 dl_84 ?_
        refine lv_lor hx0 hb0 dl_85 ?_
        refine l_xput (kx := _) (kz := _) E hl.1 hPx hPz hS (Nat.le_of_ble_eq_true rfl) dl_86 (fun H locs hPx hPz hS => ?_)
        refine lv_aload_n hx0 hb0 dl_89 rfl (lv_at hl 2 rfl) ?_
        refine lv_aload_n hx0 hb0 dl_90 rfl (lv_at hl 0 rfl) ?_
        refine lv_iload_n hx0 hb0 dl_91 rfl (lv_at hl 3 rfl) ?_
        refine lv_iconst (v := 1) hx0 hb0 dl_92 (by decide) ?_
        refine lv_iadd hx0 hb0 dl_93 ?_
        refine l_sld E hS hi1 dl_94 ?_
        refine lv_aload_n hx0 hb0 dl_95 rfl (lv_at hl 0 rfl) ?_
        refine lv_iload_n hx0 hb0 dl_96 rfl (lv_at hl 3 rfl) ?_
        refine lv_iconst (v := 2) hx0 hb0 dl_97 (by decide) ?_
        refine lv_iadd hx0 hb0 dl_98 ?_
        refine l_sld E hS hi2 dl_99 ?_
        refine lv_i2l hx0 hb0 dl_100 rfl ?_
        refine lv_bipush (v := 32) hx0 hb0 dl_101 (by decide) ?_
        refine lv_lshl hx0 hb0 dl_103 rfl ?_
        refine lv_aload_n hx0 hb0 dl_104 rfl (lv_at hl 0 rfl) ?_
        refine lv_iload_n hx0 hb0 dl_105 rfl (lv_at hl 3 rfl) ?_
        refine lv_iconst (v := 3) hx0 hb0 dl_106 (by decide) ?_
        refine lv_iadd hx0 hb0 dl_107 ?_
        refine l_sld E hS hi3 dl_108 ?_
        refine lv_i2l hx0 hb0 dl_109 rfl ?_
        refine lv_ldc2 hx0 hb0 E.1.2.2.2.1 (E.1.2.2.2.2 _ ct_l_13) dl_110 ?_
        refine lv_land hx0 hb0 dl_113 ?_
        refine lv_lor hx0 hb0 dl_114 ?_
        refine l_zput (kx := _) (kz := _) E hl.1 hPx hPz hS (Nat.le_of_ble_eq_true rfl) dl_115 (fun H locs hPx hPz hS => ?_)
        have sm := sim_put op ac ea (xs (nI i + 1).toNatClampNeg) (((xs (nI i + 2).toNatClampNeg).toInt64 <<< ((32 : Int32).toInt64 &&& 63)) ||| ((xs (nI i + 3).toNatClampNeg).toInt64 &&& (4294967295 : Int64))) hRel
        exact lv_icmp_eq (tgt := 229) hx0 hb0 dl_118 (by decide) (fun _ => hend _ _ _ _ _ _ _ hPx hPz hS sm.2) (fun h => absurd sm.1 h)
      · by_cases hk1 : (xs (nI i).toNatClampNeg &&& 3) = 1
        · refine lv_tableIn (off := 92) (tgt := 123) hx0 hb0 dl_31 (by rw [hk1]; decide) (by rw [hk1]; decide) (by rw [hk1]; rfl) (by decide) ?_
          refine lv_aload_n hx0 hb0 dl_123 rfl (lv_at hl 1 rfl) ?_
          refine lv_aload_n hx0 hb0 dl_124 rfl (lv_at hl 0 rfl) ?_
          refine lv_iload_n hx0 hb0 dl_125 rfl (lv_at hl 3 rfl) ?_
          refine lv_iconst (v := 1) hx0 hb0 dl_126 (by decide) ?_
          refine lv_iadd hx0 hb0 dl_127 ?_
          refine l_sld E hS hi1 dl_128 ?_
          refine l_xget (kx := _) (kz := _) E hl.1 hPx hPz hS (Nat.le_of_ble_eq_true rfl) dl_129 (fun H locs hPx hPz hS => ?_)
          refine lv_aload_n hx0 hb0 dl_132 rfl (lv_at hl 2 rfl) ?_
          refine lv_aload_n hx0 hb0 dl_133 rfl (lv_at hl 0 rfl) ?_
          refine lv_iload_n hx0 hb0 dl_134 rfl (lv_at hl 3 rfl) ?_
          refine lv_iconst (v := 1) hx0 hb0 dl_135 (by decide) ?_
          refine lv_iadd hx0 hb0 dl_136 ?_
          refine l_sld E hS hi1 dl_137 ?_
          refine l_zget (kx := _) (kz := _) E hl.1 hPx hPz hS (Nat.le_of_ble_eq_true rfl) dl_138 (fun H locs hPx hPz hS => ?_)
          have sm := sim_get op ac ea (xs (nI i + 1).toNatClampNeg) hRel
          exact tt_lcmp_eq (tgt := 229) hx0 hb0 dl_141 dl_142 (by decide) (fun _ => hend _ _ _ _ _ _ _ hPx hPz hS hRel) (fun h => absurd sm h)
        · by_cases hk2 : (xs (nI i).toNatClampNeg &&& 3) = 2
          · refine lv_tableIn (off := 116) (tgt := 147) hx0 hb0 dl_31 (by rw [hk2]; decide) (by rw [hk2]; decide) (by rw [hk2]; rfl) (by decide) ?_
            refine lv_aload_n hx0 hb0 dl_147 rfl (lv_at hl 1 rfl) ?_
            refine lv_aload_n hx0 hb0 dl_148 rfl (lv_at hl 0 rfl) ?_
            refine lv_iload_n hx0 hb0 dl_149 rfl (lv_at hl 3 rfl) ?_
            refine lv_iconst (v := 1) hx0 hb0 dl_150 (by decide) ?_
            refine lv_iadd hx0 hb0 dl_151 ?_
            refine l_sld E hS hi1 dl_152 ?_
            refine lv_aload_n hx0 hb0 dl_153 rfl (lv_at hl 0 rfl) ?_
            refine lv_iload_n hx0 hb0 dl_154 rfl (lv_at hl 3 rfl) ?_
            refine lv_iconst (v := 2) hx0 hb0 dl_155 (by decide) ?_
            refine lv_iadd hx0 hb0 dl_156 ?_
            refine l_sld E hS hi2 dl_157 ?_
            refine lv_aload_n hx0 hb0 dl_158 rfl (lv_at hl 0 rfl) ?_
            refine lv_iload_n hx0 hb0 dl_159 rfl (lv_at hl 3 rfl) ?_
            refine lv_iconst (v := 3) hx0 hb0 dl_160 (by decide) ?_
            refine lv_iadd hx0 hb0 dl_161 ?_
            refine l_sld E hS hi3 dl_162 ?_
            refine lv_if_eq (tgt := 170) hx0 hb0 dl_163 (by decide) (fun hf => ?_) (fun hf => ?_)
            · refine lv_iconst (v := 0) hx0 hb0 dl_170 (by decide) ?_
              refine l_xgo (kx := _) (kz := _) E hl.1 hPx hPz hS (Nat.le_of_ble_eq_true rfl) dl_171 (fun H locs hPx hPz hS => ?_)
              refine lv_aload_n hx0 hb0 dl_174 rfl (lv_at hl 2 rfl) ?_
              refine lv_aload_n hx0 hb0 dl_175 rfl (lv_at hl 0 rfl) ?_
              refine lv_iload_n hx0 hb0 dl_176 rfl (lv_at hl 3 rfl) ?_
              refine lv_iconst (v := 1) hx0 hb0 dl_177 (by decide) ?_
              refine lv_iadd hx0 hb0 dl_178 ?_
              refine l_sld E hS hi1 dl_179 ?_
              refine lv_aload_n hx0 hb0 dl_180 rfl (lv_at hl 0 rfl) ?_
              refine lv_iload_n hx0 hb0 dl_181 rfl (lv_at hl 3 rfl) ?_
              refine lv_iconst (v := 2) hx0 hb0 dl_182 (by decide) ?_
              refine lv_iadd hx0 hb0 dl_183 ?_
              refine l_sld E hS hi2 dl_184 ?_
              refine lv_aload_n hx0 hb0 dl_185 rfl (lv_at hl 0 rfl) ?_
              refine lv_iload_n hx0 hb0 dl_186 rfl (lv_at hl 3 rfl) ?_
              refine lv_iconst (v := 3) hx0 hb0 dl_187 (by decide) ?_
              refine lv_iadd hx0 hb0 dl_188 ?_
              refine l_sld E hS hi3 dl_189 ?_
              refine lv_if_eq (tgt := 197) hx0 hb0 dl_190 (by decide) (fun _ => ?_) (fun h => absurd hf h)
              refine lv_iconst (v := 0) hx0 hb0 dl_197 (by decide) ?_
              refine l_zgo (kx := _) (kz := _) E hl.1 hPx hPz hS (sim_good _ hRel) (Nat.le_of_ble_eq_true rfl) dl_198 (fun H locs hPx hPz hS => ?_)
              have sm := sim_go op ac ea (xs (nI i + 1).toNatClampNeg) (xs (nI i + 2).toNatClampNeg) 0 hRel
              exact lv_icmp_eq (tgt := 229) hx0 hb0 dl_201 (by decide) (fun _ => hend _ _ _ _ _ _ _ hPx hPz hS sm.2) (fun h => absurd sm.1 h)
            · refine lv_iconst (v := 1) hx0 hb0 dl_166 (by decide) ?_
              refine lv_goto (tgt := 171) hx0 hb0 dl_167 (by decide) ?_
              refine l_xgo (kx := _) (kz := _) E hl.1 hPx hPz hS (Nat.le_of_ble_eq_true rfl) dl_171 (fun H locs hPx hPz hS => ?_)
              refine lv_aload_n hx0 hb0 dl_174 rfl (lv_at hl 2 rfl) ?_
              refine lv_aload_n hx0 hb0 dl_175 rfl (lv_at hl 0 rfl) ?_
              refine lv_iload_n hx0 hb0 dl_176 rfl (lv_at hl 3 rfl) ?_
              refine lv_iconst (v := 1) hx0 hb0 dl_177 (by decide) ?_
              refine lv_iadd hx0 hb0 dl_178 ?_
              refine l_sld E hS hi1 dl_179 ?_
              refine lv_aload_n hx0 hb0 dl_180 rfl (lv_at hl 0 rfl) ?_
              refine lv_iload_n hx0 hb0 dl_181 rfl (lv_at hl 3 rfl) ?_
              refine lv_iconst (v := 2) hx0 hb0 dl_182 (by decide) ?_
              refine lv_iadd hx0 hb0 dl_183 ?_
              refine l_sld E hS hi2 dl_184 ?_
              refine lv_aload_n hx0 hb0 dl_185 rfl (lv_at hl 0 rfl) ?_
              refine lv_iload_n hx0 hb0 dl_186 rfl (lv_at hl 3 rfl) ?_
              refine lv_iconst (v := 3) hx0 hb0 dl_187 (by decide) ?_
              refine lv_iadd hx0 hb0 dl_188 ?_
              refine l_sld E hS hi3 dl_189 ?_
              refine lv_if_eq (tgt := 197) hx0 hb0 dl_190 (by decide) (fun h => absurd h hf) (fun _ => ?_)
              refine lv_iconst (v := 1) hx0 hb0 dl_193 (by decide) ?_
              refine lv_goto (tgt := 198) hx0 hb0 dl_194 (by decide) ?_
              refine l_zgo (kx := _) (kz := _) E hl.1 hPx hPz hS (sim_good _ hRel) (Nat.le_of_ble_eq_true rfl) dl_198 (fun H locs hPx hPz hS => ?_)
              have sm := sim_go op ac ea (xs (nI i + 1).toNatClampNeg) (xs (nI i + 2).toNatClampNeg) 1 hRel
              exact lv_icmp_eq (tgt := 229) hx0 hb0 dl_201 (by decide) (fun _ => hend _ _ _ _ _ _ _ hPx hPz hS sm.2) (fun h => absurd sm.1 h)
          · by_cases hk3 : (xs (nI i).toNatClampNeg &&& 3) = 3
            · refine lv_tableIn (off := 175) (tgt := 206) hx0 hb0 dl_31 (by rw [hk3]; decide) (by rw [hk3]; decide) (by rw [hk3]; rfl) (by decide) ?_
              refine lv_aload_n hx0 hb0 dl_206 rfl (lv_at hl 1 rfl) ?_
              refine lv_aload_n hx0 hb0 dl_207 rfl (lv_at hl 0 rfl) ?_
              refine lv_iload_n hx0 hb0 dl_208 rfl (lv_at hl 3 rfl) ?_
              refine lv_iconst (v := 1) hx0 hb0 dl_209 (by decide) ?_
              refine lv_iadd hx0 hb0 dl_210 ?_
              refine l_sld E hS hi1 dl_211 ?_
              refine l_xlook (kx := _) (kz := _) E hl.1 hPx hPz hS (Nat.le_of_ble_eq_true rfl) dl_212 (fun H locs hPx hPz hS => ?_)
              refine lv_aload_n hx0 hb0 dl_215 rfl (lv_at hl 2 rfl) ?_
              refine lv_aload_n hx0 hb0 dl_216 rfl (lv_at hl 0 rfl) ?_
              refine lv_iload_n hx0 hb0 dl_217 rfl (lv_at hl 3 rfl) ?_
              refine lv_iconst (v := 1) hx0 hb0 dl_218 (by decide) ?_
              refine lv_iadd hx0 hb0 dl_219 ?_
              refine l_sld E hS hi1 dl_220 ?_
              refine l_zlook (kx := _) (kz := _) E hl.1 hPx hPz hS (Nat.le_of_ble_eq_true rfl) dl_221 (fun H locs hPx hPz hS => ?_)
              have sm := sim_look op ac ea (xs (nI i + 1).toNatClampNeg) hRel
              exact lv_icmp_eq (tgt := 229) hx0 hb0 dl_224 (by decide) (fun _ => hend _ _ _ _ _ _ _ hPx hPz hS hRel) (fun h => absurd sm h)
            · refine lv_tableOut (tgt := 229) hx0 hb0 dl_31 (by have := lv_neT hk0 (show (0 : Int32).toInt = 0 from rfl); have := lv_neT hk1 (show (1 : Int32).toInt = 1 from rfl); have := lv_neT hk2 (show (2 : Int32).toInt = 2 from rfl); have := lv_neT hk3 (show (3 : Int32).toInt = 3 from rfl); omega) (by decide) ?_
              exact hend _ _ _ _ _ _ _ hPx hPz hS hRel
end LOOP

theorem rel_0 : Rel k0x k0z := ⟨fun _ => 0#36, fun _ => rfl, fun _ => rfl, rfl, rfl, rfl⟩

