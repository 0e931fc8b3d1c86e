theorem in_x0 : ∀ w ∈ u_ws R_x F_x 7, w ∈ tables_1 := by decide +kernel
theorem in_xg : ∀ w ∈ u_ws R_x F_x 7, goodWord w = true := by decide +kernel
theorem in_z0 : ∀ w ∈ u_ws R_z F_z 5, w ∈ tables_1 := by decide +kernel
theorem in_zg : ∀ w ∈ u_ws R_z F_z 5, goodWord w = true := by decide +kernel
theorem ct_x_174 : Cond.constant R_x 174 131072 ∈ tw := tw_of (List.mem_append_right _ (List.mem_of_getElem? (i := 152) (by decide +kernel))) rfl
theorem ct_x_175 : Cond.constant R_x 175 262143 ∈ tw := tw_of (List.mem_append_right _ (List.mem_of_getElem? (i := 71) (by decide +kernel))) rfl
theorem ct_x_151 : Cond.constantLong R_x 151 (-1) ∈ tw := tw_of (List.mem_append_right _ (List.mem_of_getElem? (i := 138) (by decide +kernel))) rfl
theorem ct_z_3 : Cond.constantLong R_z 3 (-34359738368) ∈ tw := tw_of (List.mem_append_right _ (List.mem_of_getElem? (i := 339) (by decide +kernel))) rfl
theorem ct_z_5 : Cond.constantLong R_z 5 34359738367 ∈ tw := tw_of (List.mem_append_right _ (List.mem_of_getElem? (i := 362) (by decide +kernel))) rfl
theorem ct_z_7 : Cond.constantLong R_z 7 68719476735 ∈ tw := tw_of (List.mem_append_right _ (List.mem_of_getElem? (i := 329) (by decide +kernel))) rfl
theorem ct_z_9 : Cond.constant R_z 9 262143 ∈ tw := tw_of (List.mem_append_right _ (List.mem_of_getElem? (i := 308) (by decide +kernel))) rfl
theorem ct_jm_138 : Cond.constantLong R_jm 138 4294967295 ∈ tw := tw_of (List.mem_append_right _ (List.mem_of_getElem? (i := 358) (by decide +kernel))) rfl
theorem ct_ji_264 : Cond.constant R_ji 264 65536 ∈ tw := tw_of (List.mem_append_right _ (List.mem_of_getElem? (i := 181) (by decide +kernel))) rfl
theorem ct_x_21 : Cond.constantLong R_x 21 1099511627776 ∈ tw := tw_of (List.mem_append_right _ (List.mem_of_getElem? (i := 51) (by decide +kernel))) rfl
theorem ct_x_60 : Cond.constantLong R_x 60 4194304 ∈ tw := tw_of (List.mem_append_right _ (List.mem_of_getElem? (i := 72) (by decide +kernel))) rfl
theorem ct_x_149 : Cond.constantLong R_x 149 34359738368 ∈ tw := tw_of (List.mem_append_right _ (List.mem_of_getElem? (i := 133) (by decide +kernel))) rfl
theorem ct_x_180 : Cond.constantLong R_x 180 34359738367 ∈ tw := tw_of (List.mem_append_right _ (List.mem_of_getElem? (i := 160) (by decide +kernel))) rfl
theorem ct_x_182 : Cond.constantLong R_x 182 68719476735 ∈ tw := tw_of (List.mem_append_right _ (List.mem_of_getElem? (i := 164) (by decide +kernel))) rfl
theorem ct_z_145 : Cond.constantLong R_z 145 (-1) ∈ tw := tw_of (List.mem_append_right _ (List.mem_of_getElem? (i := 350) (by decide +kernel))) rfl
theorem ct_z_21 : Cond.constantLong R_z 21 4095 ∈ tw := tw_of (List.mem_append_right _ (List.mem_of_getElem? (i := 291) (by decide +kernel))) rfl
theorem ct_z_186 : Cond.constantLong R_z 186 1099511627776 ∈ tw := tw_of (List.mem_append_right _ (List.mem_of_getElem? (i := 448) (by decide +kernel))) rfl
theorem ct_x_153 : Cond.constantLong R_x 153 (-34359738368) ∈ tw := tw_of (List.mem_append_right _ (List.mem_of_getElem? (i := 139) (by decide +kernel))) rfl
theorem ct_z_58 : Cond.constantLong R_z 58 128 ∈ tw := tw_of (List.mem_append_right _ (List.mem_of_getElem? (i := 313) (by decide +kernel))) rfl
theorem ct_z_60 : Cond.constantLong R_z 60 143 ∈ tw := tw_of (List.mem_append_right _ (List.mem_of_getElem? (i := 314) (by decide +kernel))) rfl
theorem ct_z_66 : Cond.constantLong R_z 66 144 ∈ tw := tw_of (List.mem_append_right _ (List.mem_of_getElem? (i := 340) (by decide +kernel))) rfl
theorem ct_z_68 : Cond.constantLong R_z 68 147 ∈ tw := tw_of (List.mem_append_right _ (List.mem_of_getElem? (i := 341) (by decide +kernel))) rfl
theorem ct_z_70 : Cond.constantLong R_z 70 152 ∈ tw := tw_of (List.mem_append_right _ (List.mem_of_getElem? (i := 342) (by decide +kernel))) rfl
theorem ct_z_72 : Cond.constantLong R_z 72 155 ∈ tw := tw_of (List.mem_append_right _ (List.mem_of_getElem? (i := 343) (by decide +kernel))) rfl
theorem ct_z_74 : Cond.constantLong R_z 74 184 ∈ tw := tw_of (List.mem_append_right _ (List.mem_of_getElem? (i := 344) (by decide +kernel))) rfl
theorem ct_z_76 : Cond.constantLong R_z 76 191 ∈ tw := tw_of (List.mem_append_right _ (List.mem_of_getElem? (i := 345) (by decide +kernel))) rfl
theorem ct_z_81 : Cond.constantLong R_z 81 256 ∈ tw := tw_of (List.mem_append_right _ (List.mem_of_getElem? (i := 363) (by decide +kernel))) rfl
theorem ct_z_83 : Cond.constantLong R_z 83 319 ∈ tw := tw_of (List.mem_append_right _ (List.mem_of_getElem? (i := 364) (by decide +kernel))) rfl
theorem ct_z_88 : Cond.constantLong R_z 88 320 ∈ tw := tw_of (List.mem_append_right _ (List.mem_of_getElem? (i := 369) (by decide +kernel))) rfl
theorem ct_z_90 : Cond.constantLong R_z 90 383 ∈ tw := tw_of (List.mem_append_right _ (List.mem_of_getElem? (i := 370) (by decide +kernel))) rfl
theorem ct_z_95 : Cond.constantLong R_z 95 384 ∈ tw := tw_of (List.mem_append_right _ (List.mem_of_getElem? (i := 375) (by decide +kernel))) rfl
theorem ct_z_97 : Cond.constantLong R_z 97 447 ∈ tw := tw_of (List.mem_append_right _ (List.mem_of_getElem? (i := 376) (by decide +kernel))) rfl
theorem ct_z_102 : Cond.constantLong R_z 102 192 ∈ tw := tw_of (List.mem_append_right _ (List.mem_of_getElem? (i := 381) (by decide +kernel))) rfl
theorem ct_z_104 : Cond.constantLong R_z 104 255 ∈ tw := tw_of (List.mem_append_right _ (List.mem_of_getElem? (i := 382) (by decide +kernel))) rfl
theorem ct_z_109 : Cond.constantLong R_z 109 160 ∈ tw := tw_of (List.mem_append_right _ (List.mem_of_getElem? (i := 394) (by decide +kernel))) rfl
theorem ct_z_111 : Cond.constantLong R_z 111 163 ∈ tw := tw_of (List.mem_append_right _ (List.mem_of_getElem? (i := 395) (by decide +kernel))) rfl
theorem ct_z_116 : Cond.constantLong R_z 116 168 ∈ tw := tw_of (List.mem_append_right _ (List.mem_of_getElem? (i := 403) (by decide +kernel))) rfl
theorem ct_z_118 : Cond.constantLong R_z 118 173 ∈ tw := tw_of (List.mem_append_right _ (List.mem_of_getElem? (i := 404) (by decide +kernel))) rfl
theorem ct_z_123 : Cond.constantLong R_z 123 176 ∈ tw := tw_of (List.mem_append_right _ (List.mem_of_getElem? (i := 413) (by decide +kernel))) rfl
theorem ct_z_125 : Cond.constantLong R_z 125 181 ∈ tw := tw_of (List.mem_append_right _ (List.mem_of_getElem? (i := 414) (by decide +kernel))) rfl
theorem ct_z_27 : Cond.constantLong R_z 27 500 ∈ tw := tw_of (List.mem_append_right _ (List.mem_of_getElem? (i := 295) (by decide +kernel))) rfl
theorem wc_x_isThere : Cond.code yx_isThere cx_isThere 1 (some .boolean) ∈ tw := tw_of (List.mem_append_right _ (List.mem_of_getElem? (i := 43) (by decide +kernel))) rfl
theorem wl_x_13 : Cond.methodLink R_x 13 yx_isThere ∈ tw := tw_of (List.mem_append_right _ (List.mem_of_getElem? (i := 41) (by decide +kernel))) rfl
theorem wt_x_isThere : Cond.static yx_isThere ∈ tw := tw_of (List.mem_append_right _ (List.mem_of_getElem? (i := 42) (by decide +kernel))) rfl
theorem wn_x : Cond.initialized R_x ∈ tw := tw_of (List.mem_append_right _ (List.mem_of_getElem? (i := 1) (by decide +kernel))) rfl
theorem wc_x_signed : Cond.code yx_signed cx_signed 2 (some .long) ∈ tw := tw_of (List.mem_append_right _ (List.mem_of_getElem? (i := 46) (by decide +kernel))) rfl
theorem wl_x_17 : Cond.methodLink R_x 17 yx_signed ∈ tw := tw_of (List.mem_append_right _ (List.mem_of_getElem? (i := 44) (by decide +kernel))) rfl
theorem wt_x_signed : Cond.static yx_signed ∈ tw := tw_of (List.mem_append_right _ (List.mem_of_getElem? (i := 45) (by decide +kernel))) rfl
theorem wc_x_right : Cond.code yx_right cx_right 2 (some .int) ∈ tw := tw_of (List.mem_append_right _ (List.mem_of_getElem? (i := 70) (by decide +kernel))) rfl
theorem wl_x_57 : Cond.methodLink R_x 57 yx_right ∈ tw := tw_of (List.mem_append_right _ (List.mem_of_getElem? (i := 68) (by decide +kernel))) rfl
theorem wt_x_right : Cond.static yx_right ∈ tw := tw_of (List.mem_append_right _ (List.mem_of_getElem? (i := 69) (by decide +kernel))) rfl
theorem wc_x_mode : Cond.code yx_mode cx_mode 1 (some .int) ∈ tw := tw_of (List.mem_append_right _ (List.mem_of_getElem? (i := 96) (by decide +kernel))) rfl
theorem wl_x_117 : Cond.methodLink R_x 117 yx_mode ∈ tw := tw_of (List.mem_append_right _ (List.mem_of_getElem? (i := 93) (by decide +kernel))) rfl
theorem wi_x_mode : Cond.instanceMethod yx_mode ∈ tw := tw_of (List.mem_append_right _ (List.mem_of_getElem? (i := 95) (by decide +kernel))) rfl
theorem ws_x_mode : Cond.selects R_x yx_mode yx_mode ∈ tw := tw_of (List.mem_append_left _ (List.mem_of_getElem? (i := 8) (by decide +kernel))) rfl
theorem wc_jm_min : Cond.code yjm_min cjm_min 2 (some .int) ∈ tw := tw_of (List.mem_append_right _ (List.mem_of_getElem? (i := 159) (by decide +kernel))) rfl
theorem wl_x_176 : Cond.methodLink R_x 176 yjm_min ∈ tw := tw_of (List.mem_append_right _ (List.mem_of_getElem? (i := 157) (by decide +kernel))) rfl
theorem wt_jm_min : Cond.static yjm_min ∈ tw := tw_of (List.mem_append_right _ (List.mem_of_getElem? (i := 158) (by decide +kernel))) rfl
theorem wn_jm : Cond.initialized R_jm ∈ tw := tw_of (List.mem_append_right _ (List.mem_of_getElem? (i := 3) (by decide +kernel))) rfl
theorem wc_jm_floorMod : Cond.code yjm_floorMod cjm_floorMod 3 (some .int) ∈ tw := tw_of (List.mem_append_right _ (List.mem_of_getElem? (i := 167) (by decide +kernel))) rfl
theorem wl_x_184 : Cond.methodLink R_x 184 yjm_floorMod ∈ tw := tw_of (List.mem_append_right _ (List.mem_of_getElem? (i := 165) (by decide +kernel))) rfl
theorem wt_jm_floorMod : Cond.static yjm_floorMod ∈ tw := tw_of (List.mem_append_right _ (List.mem_of_getElem? (i := 166) (by decide +kernel))) rfl
theorem wc_x_left : Cond.code yx_left cx_left 2 (some .int) ∈ tw := tw_of (List.mem_append_right _ (List.mem_of_getElem? (i := 106) (by decide +kernel))) rfl
theorem wl_x_192 : Cond.methodLink R_x 192 yx_left ∈ tw := tw_of (List.mem_append_right _ (List.mem_of_getElem? (i := 104) (by decide +kernel))) rfl
theorem wt_x_left : Cond.static yx_left ∈ tw := tw_of (List.mem_append_right _ (List.mem_of_getElem? (i := 105) (by decide +kernel))) rfl
theorem wc_jm_max : Cond.code yjm_max cjm_max 2 (some .int) ∈ tw := tw_of (List.mem_append_right _ (List.mem_of_getElem? (i := 219) (by decide +kernel))) rfl
theorem wl_x_195 : Cond.methodLink R_x 195 yjm_max ∈ tw := tw_of (List.mem_append_right _ (List.mem_of_getElem? (i := 217) (by decide +kernel))) rfl
theorem wt_jm_max : Cond.static yjm_max ∈ tw := tw_of (List.mem_append_right _ (List.mem_of_getElem? (i := 218) (by decide +kernel))) rfl
theorem wc_x_jumpIf : Cond.code yx_jumpIf cx_jumpIf 2 (some .int) ∈ tw := tw_of (List.mem_append_right _ (List.mem_of_getElem? (i := 185) (by decide +kernel))) rfl
theorem wl_x_108 : Cond.methodLink R_x 108 yx_jumpIf ∈ tw := tw_of (List.mem_append_right _ (List.mem_of_getElem? (i := 182) (by decide +kernel))) rfl
theorem wi_x_jumpIf : Cond.instanceMethod yx_jumpIf ∈ tw := tw_of (List.mem_append_right _ (List.mem_of_getElem? (i := 184) (by decide +kernel))) rfl
theorem ws_x_jumpIf : Cond.selects R_x yx_jumpIf yx_jumpIf ∈ tw := tw_of (List.mem_append_left _ (List.mem_of_getElem? (i := 21) (by decide +kernel))) rfl
theorem wc_x_holds : Cond.code yx_holds cx_holds 7 (some .boolean) ∈ tw := tw_of (List.mem_append_right _ (List.mem_of_getElem? (i := 239) (by decide +kernel))) rfl
theorem wl_x_211 : Cond.methodLink R_x 211 yx_holds ∈ tw := tw_of (List.mem_append_right _ (List.mem_of_getElem? (i := 236) (by decide +kernel))) rfl
theorem wi_x_holds : Cond.instanceMethod yx_holds ∈ tw := tw_of (List.mem_append_right _ (List.mem_of_getElem? (i := 238) (by decide +kernel))) rfl
theorem ws_x_holds : Cond.selects R_x yx_holds yx_holds ∈ tw := tw_of (List.mem_append_left _ (List.mem_of_getElem? (i := 33) (by decide +kernel))) rfl
theorem wc_x_skipIf : Cond.code yx_skipIf cx_skipIf 2 (some .int) ∈ tw := tw_of (List.mem_append_right _ (List.mem_of_getElem? (i := 243) (by decide +kernel))) rfl
theorem wl_x_215 : Cond.methodLink R_x 215 yx_skipIf ∈ tw := tw_of (List.mem_append_right _ (List.mem_of_getElem? (i := 240) (by decide +kernel))) rfl
theorem wi_x_skipIf : Cond.instanceMethod yx_skipIf ∈ tw := tw_of (List.mem_append_right _ (List.mem_of_getElem? (i := 242) (by decide +kernel))) rfl
theorem ws_x_skipIf : Cond.selects R_x yx_skipIf yx_skipIf ∈ tw := tw_of (List.mem_append_left _ (List.mem_of_getElem? (i := 34) (by decide +kernel))) rfl
theorem wc_x_otherHalf : Cond.code yx_otherHalf cx_otherHalf 3 (some .int) ∈ tw := tw_of (List.mem_append_right _ (List.mem_of_getElem? (i := 274) (by decide +kernel))) rfl
theorem wl_x_238 : Cond.methodLink R_x 238 yx_otherHalf ∈ tw := tw_of (List.mem_append_right _ (List.mem_of_getElem? (i := 271) (by decide +kernel))) rfl
theorem wi_x_otherHalf : Cond.instanceMethod yx_otherHalf ∈ tw := tw_of (List.mem_append_right _ (List.mem_of_getElem? (i := 273) (by decide +kernel))) rfl
theorem ws_x_otherHalf : Cond.selects R_x yx_otherHalf yx_otherHalf ∈ tw := tw_of (List.mem_append_left _ (List.mem_of_getElem? (i := 41) (by decide +kernel))) rfl
theorem wc_x_joined : Cond.code yx_joined cx_joined 2 (some .long) ∈ tw := tw_of (List.mem_append_right _ (List.mem_of_getElem? (i := 109) (by decide +kernel))) rfl
theorem wl_x_241 : Cond.methodLink R_x 241 yx_joined ∈ tw := tw_of (List.mem_append_right _ (List.mem_of_getElem? (i := 107) (by decide +kernel))) rfl
theorem wt_x_joined : Cond.static yx_joined ∈ tw := tw_of (List.mem_append_right _ (List.mem_of_getElem? (i := 108) (by decide +kernel))) rfl
theorem wc_z_right : Cond.code yz_right cz_right 2 (some .int) ∈ tw := tw_of (List.mem_append_right _ (List.mem_of_getElem? (i := 307) (by decide +kernel))) rfl
theorem wl_z_10 : Cond.methodLink R_z 10 yz_right ∈ tw := tw_of (List.mem_append_right _ (List.mem_of_getElem? (i := 305) (by decide +kernel))) rfl
theorem wt_z_right : Cond.static yz_right ∈ tw := tw_of (List.mem_append_right _ (List.mem_of_getElem? (i := 306) (by decide +kernel))) rfl
theorem wn_z : Cond.initialized R_z ∈ tw := tw_of (List.mem_append_right _ (List.mem_of_getElem? (i := 2) (by decide +kernel))) rfl
theorem wc_z_left : Cond.code yz_left cz_left 2 (some .int) ∈ tw := tw_of (List.mem_append_right _ (List.mem_of_getElem? (i := 335) (by decide +kernel))) rfl
theorem wl_z_14 : Cond.methodLink R_z 14 yz_left ∈ tw := tw_of (List.mem_append_right _ (List.mem_of_getElem? (i := 333) (by decide +kernel))) rfl
theorem wt_z_left : Cond.static yz_left ∈ tw := tw_of (List.mem_append_right _ (List.mem_of_getElem? (i := 334) (by decide +kernel))) rfl
theorem wc_z_halves : Cond.code yz_halves cz_halves 2 (some .long) ∈ tw := tw_of (List.mem_append_right _ (List.mem_of_getElem? (i := 338) (by decide +kernel))) rfl
theorem wl_z_17 : Cond.methodLink R_z 17 yz_halves ∈ tw := tw_of (List.mem_append_right _ (List.mem_of_getElem? (i := 336) (by decide +kernel))) rfl
theorem wt_z_halves : Cond.static yz_halves ∈ tw := tw_of (List.mem_append_right _ (List.mem_of_getElem? (i := 337) (by decide +kernel))) rfl
theorem wc_z_give : Cond.code yz_give cz_give 6 none ∈ tw := tw_of (List.mem_append_right _ (List.mem_of_getElem? (i := 354) (by decide +kernel))) rfl
theorem wl_z_147 : Cond.methodLink R_z 147 yz_give ∈ tw := tw_of (List.mem_append_right _ (List.mem_of_getElem? (i := 351) (by decide +kernel))) rfl
theorem wi_z_give : Cond.instanceMethod yz_give ∈ tw := tw_of (List.mem_append_right _ (List.mem_of_getElem? (i := 353) (by decide +kernel))) rfl
theorem ws_z_give : Cond.selects R_z yz_give yz_give ∈ tw := tw_of (List.mem_append_left _ (List.mem_of_getElem? (i := 50) (by decide +kernel))) rfl
theorem wc_z_fits : Cond.code yz_fits cz_fits 2 (some .boolean) ∈ tw := tw_of (List.mem_append_right _ (List.mem_of_getElem? (i := 361) (by decide +kernel))) rfl
theorem wl_z_157 : Cond.methodLink R_z 157 yz_fits ∈ tw := tw_of (List.mem_append_right _ (List.mem_of_getElem? (i := 359) (by decide +kernel))) rfl
theorem wt_z_fits : Cond.static yz_fits ∈ tw := tw_of (List.mem_append_right _ (List.mem_of_getElem? (i := 360) (by decide +kernel))) rfl
theorem wc_jm_multiplyHigh : Cond.code yjm_multiplyHigh cjm_multiplyHigh 20 (some .long) ∈ tw := tw_of (List.mem_append_right _ (List.mem_of_getElem? (i := 357) (by decide +kernel))) rfl
theorem wl_z_151 : Cond.methodLink R_z 151 yjm_multiplyHigh ∈ tw := tw_of (List.mem_append_right _ (List.mem_of_getElem? (i := 355) (by decide +kernel))) rfl
theorem wt_jm_multiplyHigh : Cond.static yjm_multiplyHigh ∈ tw := tw_of (List.mem_append_right _ (List.mem_of_getElem? (i := 356) (by decide +kernel))) rfl
theorem wc_z_signed : Cond.code yz_signed cz_signed 2 (some .long) ∈ tw := tw_of (List.mem_append_right _ (List.mem_of_getElem? (i := 328) (by decide +kernel))) rfl
theorem wl_z_130 : Cond.methodLink R_z 130 yz_signed ∈ tw := tw_of (List.mem_append_right _ (List.mem_of_getElem? (i := 326) (by decide +kernel))) rfl
theorem wt_z_signed : Cond.static yz_signed ∈ tw := tw_of (List.mem_append_right _ (List.mem_of_getElem? (i := 327) (by decide +kernel))) rfl
theorem wc_z_isGone : Cond.code yz_isGone cz_isGone 1 (some .boolean) ∈ tw := tw_of (List.mem_append_right _ (List.mem_of_getElem? (i := 321) (by decide +kernel))) rfl
theorem wl_z_137 : Cond.methodLink R_z 137 yz_isGone ∈ tw := tw_of (List.mem_append_right _ (List.mem_of_getElem? (i := 319) (by decide +kernel))) rfl
theorem wt_z_isGone : Cond.static yz_isGone ∈ tw := tw_of (List.mem_append_right _ (List.mem_of_getElem? (i := 320) (by decide +kernel))) rfl
theorem wc_jm_abs : Cond.code yjm_abs cjm_abs 1 (some .int) ∈ tw := tw_of (List.mem_append_right _ (List.mem_of_getElem? (i := 402) (by decide +kernel))) rfl
theorem wl_z_169 : Cond.methodLink R_z 169 yjm_abs ∈ tw := tw_of (List.mem_append_right _ (List.mem_of_getElem? (i := 400) (by decide +kernel))) rfl
theorem wt_jm_abs : Cond.static yjm_abs ∈ tw := tw_of (List.mem_append_right _ (List.mem_of_getElem? (i := 401) (by decide +kernel))) rfl
theorem wc_z_in : Cond.code yz_in cz_in 6 (some .boolean) ∈ tw := tw_of (List.mem_append_right _ (List.mem_of_getElem? (i := 294) (by decide +kernel))) rfl
theorem wl_z_23 : Cond.methodLink R_z 23 yz_in ∈ tw := tw_of (List.mem_append_right _ (List.mem_of_getElem? (i := 292) (by decide +kernel))) rfl
theorem wt_z_in : Cond.static yz_in ∈ tw := tw_of (List.mem_append_right _ (List.mem_of_getElem? (i := 293) (by decide +kernel))) rfl
theorem wc_ji_numberOfLeadingZeros : Cond.code yji_numberOfLeadingZeros cji_numberOfLeadingZeros 2 (some .int) ∈ tw := tw_of (List.mem_append_right _ (List.mem_of_getElem? (i := 180) (by decide +kernel))) rfl
theorem wl_jl_308 : Cond.methodLink R_jl 308 yji_numberOfLeadingZeros ∈ tw := tw_of (List.mem_append_right _ (List.mem_of_getElem? (i := 178) (by decide +kernel))) rfl
theorem wt_ji_numberOfLeadingZeros : Cond.static yji_numberOfLeadingZeros ∈ tw := tw_of (List.mem_append_right _ (List.mem_of_getElem? (i := 179) (by decide +kernel))) rfl
theorem wn_ji : Cond.initialized R_ji ∈ tw := tw_of (List.mem_append_right _ (List.mem_of_getElem? (i := 5) (by decide +kernel))) rfl
theorem wc_x_address : Cond.code yx_address cx_address 8 (some .int) ∈ tw := tw_of (List.mem_append_right _ (List.mem_of_getElem? (i := 67) (by decide +kernel))) rfl
theorem wl_x_50 : Cond.methodLink R_x 50 yx_address ∈ tw := tw_of (List.mem_append_right _ (List.mem_of_getElem? (i := 64) (by decide +kernel))) rfl
theorem wi_x_address : Cond.instanceMethod yx_address ∈ tw := tw_of (List.mem_append_right _ (List.mem_of_getElem? (i := 66) (by decide +kernel))) rfl
theorem ws_x_address : Cond.selects R_x yx_address yx_address ∈ tw := tw_of (List.mem_append_left _ (List.mem_of_getElem? (i := 2) (by decide +kernel))) rfl
theorem wc_x_result : Cond.code yx_result cx_result 5 (some .long) ∈ tw := tw_of (List.mem_append_right _ (List.mem_of_getElem? (i := 117) (by decide +kernel))) rfl
theorem wl_x_134 : Cond.methodLink R_x 134 yx_result ∈ tw := tw_of (List.mem_append_right _ (List.mem_of_getElem? (i := 114) (by decide +kernel))) rfl
theorem wi_x_result : Cond.instanceMethod yx_result ∈ tw := tw_of (List.mem_append_right _ (List.mem_of_getElem? (i := 116) (by decide +kernel))) rfl
theorem ws_x_result : Cond.selects R_x yx_result yx_result ∈ tw := tw_of (List.mem_append_left _ (List.mem_of_getElem? (i := 11) (by decide +kernel))) rfl
theorem wc_x_storeSelf : Cond.code yx_storeSelf cx_storeSelf 3 (some .int) ∈ tw := tw_of (List.mem_append_right _ (List.mem_of_getElem? (i := 113) (by decide +kernel))) rfl
theorem wl_x_131 : Cond.methodLink R_x 131 yx_storeSelf ∈ tw := tw_of (List.mem_append_right _ (List.mem_of_getElem? (i := 110) (by decide +kernel))) rfl
theorem wi_x_storeSelf : Cond.instanceMethod yx_storeSelf ∈ tw := tw_of (List.mem_append_right _ (List.mem_of_getElem? (i := 112) (by decide +kernel))) rfl
theorem ws_x_storeSelf : Cond.selects R_x yx_storeSelf yx_storeSelf ∈ tw := tw_of (List.mem_append_left _ (List.mem_of_getElem? (i := 10) (by decide +kernel))) rfl
theorem wc_x_family : Cond.code yx_family cx_family 1 (some .int) ∈ tw := tw_of (List.mem_append_right _ (List.mem_of_getElem? (i := 84) (by decide +kernel))) rfl
theorem wl_x_77 : Cond.methodLink R_x 77 yx_family ∈ tw := tw_of (List.mem_append_right _ (List.mem_of_getElem? (i := 81) (by decide +kernel))) rfl
theorem wi_x_family : Cond.instanceMethod yx_family ∈ tw := tw_of (List.mem_append_right _ (List.mem_of_getElem? (i := 83) (by decide +kernel))) rfl
theorem ws_x_family : Cond.selects R_x yx_family yx_family ∈ tw := tw_of (List.mem_append_left _ (List.mem_of_getElem? (i := 5) (by decide +kernel))) rfl
theorem wc_x_swapped : Cond.code yx_swapped cx_swapped 2 (some .long) ∈ tw := tw_of (List.mem_append_right _ (List.mem_of_getElem? (i := 103) (by decide +kernel))) rfl
theorem wl_x_128 : Cond.methodLink R_x 128 yx_swapped ∈ tw := tw_of (List.mem_append_right _ (List.mem_of_getElem? (i := 101) (by decide +kernel))) rfl
theorem wt_x_swapped : Cond.static yx_swapped ∈ tw := tw_of (List.mem_append_right _ (List.mem_of_getElem? (i := 102) (by decide +kernel))) rfl
theorem wc_x_lacksOperand : Cond.code yx_lacksOperand cx_lacksOperand 1 (some .boolean) ∈ tw := tw_of (List.mem_append_right _ (List.mem_of_getElem? (i := 92) (by decide +kernel))) rfl
theorem wl_x_120 : Cond.methodLink R_x 120 yx_lacksOperand ∈ tw := tw_of (List.mem_append_right _ (List.mem_of_getElem? (i := 89) (by decide +kernel))) rfl
theorem wi_x_lacksOperand : Cond.instanceMethod yx_lacksOperand ∈ tw := tw_of (List.mem_append_right _ (List.mem_of_getElem? (i := 91) (by decide +kernel))) rfl
theorem ws_x_lacksOperand : Cond.selects R_x yx_lacksOperand yx_lacksOperand ∈ tw := tw_of (List.mem_append_left _ (List.mem_of_getElem? (i := 7) (by decide +kernel))) rfl
theorem wc_x_operand : Cond.code yx_operand cx_operand 1 (some .long) ∈ tw := tw_of (List.mem_append_right _ (List.mem_of_getElem? (i := 100) (by decide +kernel))) rfl
theorem wl_x_124 : Cond.methodLink R_x 124 yx_operand ∈ tw := tw_of (List.mem_append_right _ (List.mem_of_getElem? (i := 97) (by decide +kernel))) rfl
theorem wi_x_operand : Cond.instanceMethod yx_operand ∈ tw := tw_of (List.mem_append_right _ (List.mem_of_getElem? (i := 99) (by decide +kernel))) rfl
theorem ws_x_operand : Cond.selects R_x yx_operand yx_operand ∈ tw := tw_of (List.mem_append_left _ (List.mem_of_getElem? (i := 9) (by decide +kernel))) rfl
theorem wc_jm_absJ : Cond.code yjm_absJ cjm_absJ 2 (some .long) ∈ tw := tw_of (List.mem_append_right _ (List.mem_of_getElem? (i := 132) (by decide +kernel))) rfl
theorem wl_x_144 : Cond.methodLink R_x 144 yjm_absJ ∈ tw := tw_of (List.mem_append_right _ (List.mem_of_getElem? (i := 130) (by decide +kernel))) rfl
theorem wt_jm_absJ : Cond.static yjm_absJ ∈ tw := tw_of (List.mem_append_right _ (List.mem_of_getElem? (i := 131) (by decide +kernel))) rfl
theorem wc_x_storeBoth : Cond.code yx_storeBoth cx_storeBoth 3 (some .int) ∈ tw := tw_of (List.mem_append_right _ (List.mem_of_getElem? (i := 125) (by decide +kernel))) rfl
theorem wl_x_137 : Cond.methodLink R_x 137 yx_storeBoth ∈ tw := tw_of (List.mem_append_right _ (List.mem_of_getElem? (i := 122) (by decide +kernel))) rfl
theorem wi_x_storeBoth : Cond.instanceMethod yx_storeBoth ∈ tw := tw_of (List.mem_append_right _ (List.mem_of_getElem? (i := 124) (by decide +kernel))) rfl
theorem ws_x_storeBoth : Cond.selects R_x yx_storeBoth yx_storeBoth ∈ tw := tw_of (List.mem_append_left _ (List.mem_of_getElem? (i := 13) (by decide +kernel))) rfl
theorem wc_x_acAfter : Cond.code yx_acAfter cx_acAfter 1 (some .int) ∈ tw := tw_of (List.mem_append_right _ (List.mem_of_getElem? (i := 143) (by decide +kernel))) rfl
theorem wl_x_155 : Cond.methodLink R_x 155 yx_acAfter ∈ tw := tw_of (List.mem_append_right _ (List.mem_of_getElem? (i := 140) (by decide +kernel))) rfl
theorem wi_x_acAfter : Cond.instanceMethod yx_acAfter ∈ tw := tw_of (List.mem_append_right _ (List.mem_of_getElem? (i := 142) (by decide +kernel))) rfl
theorem ws_x_acAfter : Cond.selects R_x yx_acAfter yx_acAfter ∈ tw := tw_of (List.mem_append_left _ (List.mem_of_getElem? (i := 16) (by decide +kernel))) rfl
theorem wc_jl_numberOfLeadingZeros : Cond.code yjl_numberOfLeadingZeros cjl_numberOfLeadingZeros 3 (some .int) ∈ tw := tw_of (List.mem_append_right _ (List.mem_of_getElem? (i := 177) (by decide +kernel))) rfl
theorem wl_x_187 : Cond.methodLink R_x 187 yjl_numberOfLeadingZeros ∈ tw := tw_of (List.mem_append_right _ (List.mem_of_getElem? (i := 175) (by decide +kernel))) rfl
theorem wt_jl_numberOfLeadingZeros : Cond.static yjl_numberOfLeadingZeros ∈ tw := tw_of (List.mem_append_right _ (List.mem_of_getElem? (i := 176) (by decide +kernel))) rfl
theorem wn_jl : Cond.initialized R_jl ∈ tw := tw_of (List.mem_append_right _ (List.mem_of_getElem? (i := 4) (by decide +kernel))) rfl
theorem wc_x_bothHalvesMore : Cond.code yx_bothHalvesMore cx_bothHalvesMore 3 (some .long) ∈ tw := tw_of (List.mem_append_right _ (List.mem_of_getElem? (i := 196) (by decide +kernel))) rfl
theorem wl_x_198 : Cond.methodLink R_x 198 yx_bothHalvesMore ∈ tw := tw_of (List.mem_append_right _ (List.mem_of_getElem? (i := 194) (by decide +kernel))) rfl
theorem wt_x_bothHalvesMore : Cond.static yx_bothHalvesMore ∈ tw := tw_of (List.mem_append_right _ (List.mem_of_getElem? (i := 195) (by decide +kernel))) rfl
theorem wc_x_skipOnWord : Cond.code yx_skipOnWord cx_skipOnWord 3 (some .int) ∈ tw := tw_of (List.mem_append_right _ (List.mem_of_getElem? (i := 247) (by decide +kernel))) rfl
theorem wl_x_218 : Cond.methodLink R_x 218 yx_skipOnWord ∈ tw := tw_of (List.mem_append_right _ (List.mem_of_getElem? (i := 244) (by decide +kernel))) rfl
theorem wi_x_skipOnWord : Cond.instanceMethod yx_skipOnWord ∈ tw := tw_of (List.mem_append_right _ (List.mem_of_getElem? (i := 246) (by decide +kernel))) rfl
theorem ws_x_skipOnWord : Cond.selects R_x yx_skipOnWord yx_skipOnWord ∈ tw := tw_of (List.mem_append_left _ (List.mem_of_getElem? (i := 35) (by decide +kernel))) rfl
theorem wc_x_combined : Cond.code yx_combined cx_combined 5 (some .long) ∈ tw := tw_of (List.mem_append_right _ (List.mem_of_getElem? (i := 262) (by decide +kernel))) rfl
theorem wl_x_228 : Cond.methodLink R_x 228 yx_combined ∈ tw := tw_of (List.mem_append_right _ (List.mem_of_getElem? (i := 260) (by decide +kernel))) rfl
theorem wt_x_combined : Cond.static yx_combined ∈ tw := tw_of (List.mem_append_right _ (List.mem_of_getElem? (i := 261) (by decide +kernel))) rfl
theorem wc_x_changed : Cond.code yx_changed cx_changed 5 (some .long) ∈ tw := tw_of (List.mem_append_right _ (List.mem_of_getElem? (i := 282) (by decide +kernel))) rfl
theorem wl_x_232 : Cond.methodLink R_x 232 yx_changed ∈ tw := tw_of (List.mem_append_right _ (List.mem_of_getElem? (i := 279) (by decide +kernel))) rfl
theorem wi_x_changed : Cond.instanceMethod yx_changed ∈ tw := tw_of (List.mem_append_right _ (List.mem_of_getElem? (i := 281) (by decide +kernel))) rfl
theorem ws_x_changed : Cond.selects R_x yx_changed yx_changed ∈ tw := tw_of (List.mem_append_left _ (List.mem_of_getElem? (i := 43) (by decide +kernel))) rfl
theorem wc_x_withHalfMoved : Cond.code yx_withHalfMoved cx_withHalfMoved 9 (some .long) ∈ tw := tw_of (List.mem_append_right _ (List.mem_of_getElem? (i := 270) (by decide +kernel))) rfl
theorem wl_x_235 : Cond.methodLink R_x 235 yx_withHalfMoved ∈ tw := tw_of (List.mem_append_right _ (List.mem_of_getElem? (i := 267) (by decide +kernel))) rfl
theorem wi_x_withHalfMoved : Cond.instanceMethod yx_withHalfMoved ∈ tw := tw_of (List.mem_append_right _ (List.mem_of_getElem? (i := 269) (by decide +kernel))) rfl
theorem ws_x_withHalfMoved : Cond.selects R_x yx_withHalfMoved yx_withHalfMoved ∈ tw := tw_of (List.mem_append_left _ (List.mem_of_getElem? (i := 40) (by decide +kernel))) rfl
theorem wc_z_opposite : Cond.code yz_opposite cz_opposite 2 (some .long) ∈ tw := tw_of (List.mem_append_right _ (List.mem_of_getElem? (i := 332) (by decide +kernel))) rfl
theorem wl_z_134 : Cond.methodLink R_z 134 yz_opposite ∈ tw := tw_of (List.mem_append_right _ (List.mem_of_getElem? (i := 330) (by decide +kernel))) rfl
theorem wt_z_opposite : Cond.static yz_opposite ∈ tw := tw_of (List.mem_append_right _ (List.mem_of_getElem? (i := 331) (by decide +kernel))) rfl
theorem wc_z_holds : Cond.code yz_holds cz_holds 5 (some .boolean) ∈ tw := tw_of (List.mem_append_right _ (List.mem_of_getElem? (i := 389) (by decide +kernel))) rfl
theorem wl_z_161 : Cond.methodLink R_z 161 yz_holds ∈ tw := tw_of (List.mem_append_right _ (List.mem_of_getElem? (i := 387) (by decide +kernel))) rfl
theorem wt_z_holds : Cond.static yz_holds ∈ tw := tw_of (List.mem_append_right _ (List.mem_of_getElem? (i := 388) (by decide +kernel))) rfl
theorem wc_z_next : Cond.code yz_next cz_next 6 (some .long) ∈ tw := tw_of (List.mem_append_right _ (List.mem_of_getElem? (i := 393) (by decide +kernel))) rfl
theorem wl_z_165 : Cond.methodLink R_z 165 yz_next ∈ tw := tw_of (List.mem_append_right _ (List.mem_of_getElem? (i := 390) (by decide +kernel))) rfl
theorem wi_z_next : Cond.instanceMethod yz_next ∈ tw := tw_of (List.mem_append_right _ (List.mem_of_getElem? (i := 392) (by decide +kernel))) rfl
theorem ws_z_next : Cond.selects R_z yz_next yz_next ∈ tw := tw_of (List.mem_append_left _ (List.mem_of_getElem? (i := 55) (by decide +kernel))) rfl
theorem wc_z_both : Cond.code yz_both cz_both 3 (some .long) ∈ tw := tw_of (List.mem_append_right _ (List.mem_of_getElem? (i := 412) (by decide +kernel))) rfl
theorem wl_z_177 : Cond.methodLink R_z 177 yz_both ∈ tw := tw_of (List.mem_append_right _ (List.mem_of_getElem? (i := 410) (by decide +kernel))) rfl
theorem wt_z_both : Cond.static yz_both ∈ tw := tw_of (List.mem_append_right _ (List.mem_of_getElem? (i := 411) (by decide +kernel))) rfl
theorem wl_z_173 : Cond.methodLink R_z 173 yjm_max ∈ tw := tw_of (List.mem_append_right _ (List.mem_of_getElem? (i := 409) (by decide +kernel))) rfl
theorem wc_x_exchange : Cond.code yx_exchange cx_exchange 3 (some .int) ∈ tw := tw_of (List.mem_append_right _ (List.mem_of_getElem? (i := 212) (by decide +kernel))) rfl
theorem wl_x_98 : Cond.methodLink R_x 98 yx_exchange ∈ tw := tw_of (List.mem_append_right _ (List.mem_of_getElem? (i := 209) (by decide +kernel))) rfl
theorem wi_x_exchange : Cond.instanceMethod yx_exchange ∈ tw := tw_of (List.mem_append_right _ (List.mem_of_getElem? (i := 211) (by decide +kernel))) rfl
theorem ws_x_exchange : Cond.selects R_x yx_exchange yx_exchange ∈ tw := tw_of (List.mem_append_left _ (List.mem_of_getElem? (i := 27) (by decide +kernel))) rfl
theorem wc_x_transferBlock : Cond.code yx_transferBlock cx_transferBlock 5 (some .int) ∈ tw := tw_of (List.mem_append_right _ (List.mem_of_getElem? (i := 216) (by decide +kernel))) rfl
theorem wl_x_101 : Cond.methodLink R_x 101 yx_transferBlock ∈ tw := tw_of (List.mem_append_right _ (List.mem_of_getElem? (i := 213) (by decide +kernel))) rfl
theorem wi_x_transferBlock : Cond.instanceMethod yx_transferBlock ∈ tw := tw_of (List.mem_append_right _ (List.mem_of_getElem? (i := 215) (by decide +kernel))) rfl
theorem ws_x_transferBlock : Cond.selects R_x yx_transferBlock yx_transferBlock ∈ tw := tw_of (List.mem_append_left _ (List.mem_of_getElem? (i := 28) (by decide +kernel))) rfl
theorem wc_x_countBothHalves : Cond.code yx_countBothHalves cx_countBothHalves 2 (some .int) ∈ tw := tw_of (List.mem_append_right _ (List.mem_of_getElem? (i := 223) (by decide +kernel))) rfl
theorem wl_x_104 : Cond.methodLink R_x 104 yx_countBothHalves ∈ tw := tw_of (List.mem_append_right _ (List.mem_of_getElem? (i := 220) (by decide +kernel))) rfl
theorem wi_x_countBothHalves : Cond.instanceMethod yx_countBothHalves ∈ tw := tw_of (List.mem_append_right _ (List.mem_of_getElem? (i := 222) (by decide +kernel))) rfl
theorem ws_x_countBothHalves : Cond.selects R_x yx_countBothHalves yx_countBothHalves ∈ tw := tw_of (List.mem_append_left _ (List.mem_of_getElem? (i := 29) (by decide +kernel))) rfl
theorem wc_x_jumpOnOverflow : Cond.code yx_jumpOnOverflow cx_jumpOnOverflow 2 (some .int) ∈ tw := tw_of (List.mem_append_right _ (List.mem_of_getElem? (i := 227) (by decide +kernel))) rfl
theorem wl_x_111 : Cond.methodLink R_x 111 yx_jumpOnOverflow ∈ tw := tw_of (List.mem_append_right _ (List.mem_of_getElem? (i := 224) (by decide +kernel))) rfl
theorem wi_x_jumpOnOverflow : Cond.instanceMethod yx_jumpOnOverflow ∈ tw := tw_of (List.mem_append_right _ (List.mem_of_getElem? (i := 226) (by decide +kernel))) rfl
theorem ws_x_jumpOnOverflow : Cond.selects R_x yx_jumpOnOverflow yx_jumpOnOverflow ∈ tw := tw_of (List.mem_append_left _ (List.mem_of_getElem? (i := 30) (by decide +kernel))) rfl
theorem wc_x_callStoringAtE : Cond.code yx_callStoringAtE cx_callStoringAtE 1 (some .int) ∈ tw := tw_of (List.mem_append_right _ (List.mem_of_getElem? (i := 231) (by decide +kernel))) rfl
theorem wl_x_114 : Cond.methodLink R_x 114 yx_callStoringAtE ∈ tw := tw_of (List.mem_append_right _ (List.mem_of_getElem? (i := 228) (by decide +kernel))) rfl
theorem wi_x_callStoringAtE : Cond.instanceMethod yx_callStoringAtE ∈ tw := tw_of (List.mem_append_right _ (List.mem_of_getElem? (i := 230) (by decide +kernel))) rfl
theorem ws_x_callStoringAtE : Cond.selects R_x yx_callStoringAtE yx_callStoringAtE ∈ tw := tw_of (List.mem_append_left _ (List.mem_of_getElem? (i := 31) (by decide +kernel))) rfl
theorem wc_x_product : Cond.code yx_product cx_product 5 (some .long) ∈ tw := tw_of (List.mem_append_right _ (List.mem_of_getElem? (i := 129) (by decide +kernel))) rfl
theorem wl_x_140 : Cond.methodLink R_x 140 yx_product ∈ tw := tw_of (List.mem_append_right _ (List.mem_of_getElem? (i := 126) (by decide +kernel))) rfl
theorem wi_x_product : Cond.instanceMethod yx_product ∈ tw := tw_of (List.mem_append_right _ (List.mem_of_getElem? (i := 128) (by decide +kernel))) rfl
theorem ws_x_product : Cond.selects R_x yx_product yx_product ∈ tw := tw_of (List.mem_append_left _ (List.mem_of_getElem? (i := 14) (by decide +kernel))) rfl
theorem wc_x_findFirstOne : Cond.code yx_findFirstOne cx_findFirstOne 3 (some .int) ∈ tw := tw_of (List.mem_append_right _ (List.mem_of_getElem? (i := 174) (by decide +kernel))) rfl
theorem wl_x_171 : Cond.methodLink R_x 171 yx_findFirstOne ∈ tw := tw_of (List.mem_append_right _ (List.mem_of_getElem? (i := 171) (by decide +kernel))) rfl
theorem wi_x_findFirstOne : Cond.instanceMethod yx_findFirstOne ∈ tw := tw_of (List.mem_append_right _ (List.mem_of_getElem? (i := 173) (by decide +kernel))) rfl
theorem ws_x_findFirstOne : Cond.selects R_x yx_findFirstOne yx_findFirstOne ∈ tw := tw_of (List.mem_append_left _ (List.mem_of_getElem? (i := 20) (by decide +kernel))) rfl
theorem wc_x_places : Cond.code yx_places cx_places 2 (some .int) ∈ tw := tw_of (List.mem_append_right _ (List.mem_of_getElem? (i := 151) (by decide +kernel))) rfl
theorem wl_x_158 : Cond.methodLink R_x 158 yx_places ∈ tw := tw_of (List.mem_append_right _ (List.mem_of_getElem? (i := 148) (by decide +kernel))) rfl
theorem wi_x_places : Cond.instanceMethod yx_places ∈ tw := tw_of (List.mem_append_right _ (List.mem_of_getElem? (i := 150) (by decide +kernel))) rfl
theorem ws_x_places : Cond.selects R_x yx_places yx_places ∈ tw := tw_of (List.mem_append_left _ (List.mem_of_getElem? (i := 18) (by decide +kernel))) rfl
theorem wc_x_shiftedWithSign : Cond.code yx_shiftedWithSign cx_shiftedWithSign 5 (some .long) ∈ tw := tw_of (List.mem_append_right _ (List.mem_of_getElem? (i := 156) (by decide +kernel))) rfl
theorem wl_x_161 : Cond.methodLink R_x 161 yx_shiftedWithSign ∈ tw := tw_of (List.mem_append_right _ (List.mem_of_getElem? (i := 153) (by decide +kernel))) rfl
theorem wi_x_shiftedWithSign : Cond.instanceMethod yx_shiftedWithSign ∈ tw := tw_of (List.mem_append_right _ (List.mem_of_getElem? (i := 155) (by decide +kernel))) rfl
theorem ws_x_shiftedWithSign : Cond.selects R_x yx_shiftedWithSign yx_shiftedWithSign ∈ tw := tw_of (List.mem_append_left _ (List.mem_of_getElem? (i := 19) (by decide +kernel))) rfl
theorem wc_x_turnedRound : Cond.code yx_turnedRound cx_turnedRound 6 (some .long) ∈ tw := tw_of (List.mem_append_right _ (List.mem_of_getElem? (i := 163) (by decide +kernel))) rfl
theorem wl_x_165 : Cond.methodLink R_x 165 yx_turnedRound ∈ tw := tw_of (List.mem_append_right _ (List.mem_of_getElem? (i := 161) (by decide +kernel))) rfl
theorem wt_x_turnedRound : Cond.static yx_turnedRound ∈ tw := tw_of (List.mem_append_right _ (List.mem_of_getElem? (i := 162) (by decide +kernel))) rfl
theorem wc_x_shiftedWithoutSign : Cond.code yx_shiftedWithoutSign cx_shiftedWithoutSign 5 (some .long) ∈ tw := tw_of (List.mem_append_right _ (List.mem_of_getElem? (i := 170) (by decide +kernel))) rfl
theorem wl_x_168 : Cond.methodLink R_x 168 yx_shiftedWithoutSign ∈ tw := tw_of (List.mem_append_right _ (List.mem_of_getElem? (i := 168) (by decide +kernel))) rfl
theorem wt_x_shiftedWithoutSign : Cond.static yx_shiftedWithoutSign ∈ tw := tw_of (List.mem_append_right _ (List.mem_of_getElem? (i := 169) (by decide +kernel))) rfl
theorem wc_x_popToPc : Cond.code yx_popToPc cx_popToPc 2 (some .int) ∈ tw := tw_of (List.mem_append_right _ (List.mem_of_getElem? (i := 204) (by decide +kernel))) rfl
theorem wl_x_208 : Cond.methodLink R_x 208 yx_popToPc ∈ tw := tw_of (List.mem_append_right _ (List.mem_of_getElem? (i := 201) (by decide +kernel))) rfl
theorem wi_x_popToPc : Cond.instanceMethod yx_popToPc ∈ tw := tw_of (List.mem_append_right _ (List.mem_of_getElem? (i := 203) (by decide +kernel))) rfl
theorem ws_x_popToPc : Cond.selects R_x yx_popToPc yx_popToPc ∈ tw := tw_of (List.mem_append_left _ (List.mem_of_getElem? (i := 25) (by decide +kernel))) rfl
theorem wc_x_push : Cond.code yx_push cx_push 6 (some .boolean) ∈ tw := tw_of (List.mem_append_right _ (List.mem_of_getElem? (i := 193) (by decide +kernel))) rfl
theorem wl_x_201 : Cond.methodLink R_x 201 yx_push ∈ tw := tw_of (List.mem_append_right _ (List.mem_of_getElem? (i := 190) (by decide +kernel))) rfl
theorem wi_x_push : Cond.instanceMethod yx_push ∈ tw := tw_of (List.mem_append_right _ (List.mem_of_getElem? (i := 192) (by decide +kernel))) rfl
theorem ws_x_push : Cond.selects R_x yx_push yx_push ∈ tw := tw_of (List.mem_append_left _ (List.mem_of_getElem? (i := 23) (by decide +kernel))) rfl
theorem wc_x_pop : Cond.code yx_pop cx_pop 4 (some .int) ∈ tw := tw_of (List.mem_append_right _ (List.mem_of_getElem? (i := 200) (by decide +kernel))) rfl
theorem wl_x_205 : Cond.methodLink R_x 205 yx_pop ∈ tw := tw_of (List.mem_append_right _ (List.mem_of_getElem? (i := 197) (by decide +kernel))) rfl
theorem wi_x_pop : Cond.instanceMethod yx_pop ∈ tw := tw_of (List.mem_append_right _ (List.mem_of_getElem? (i := 199) (by decide +kernel))) rfl
theorem ws_x_pop : Cond.selects R_x yx_pop yx_pop ∈ tw := tw_of (List.mem_append_left _ (List.mem_of_getElem? (i := 24) (by decide +kernel))) rfl
theorem wc_x_countAc : Cond.code yx_countAc cx_countAc 2 (some .int) ∈ tw := tw_of (List.mem_append_right _ (List.mem_of_getElem? (i := 251) (by decide +kernel))) rfl
theorem wl_x_221 : Cond.methodLink R_x 221 yx_countAc ∈ tw := tw_of (List.mem_append_right _ (List.mem_of_getElem? (i := 248) (by decide +kernel))) rfl
theorem wi_x_countAc : Cond.instanceMethod yx_countAc ∈ tw := tw_of (List.mem_append_right _ (List.mem_of_getElem? (i := 250) (by decide +kernel))) rfl
theorem ws_x_countAc : Cond.selects R_x yx_countAc yx_countAc ∈ tw := tw_of (List.mem_append_left _ (List.mem_of_getElem? (i := 36) (by decide +kernel))) rfl
theorem wc_x_countWord : Cond.code yx_countWord cx_countWord 4 (some .int) ∈ tw := tw_of (List.mem_append_right _ (List.mem_of_getElem? (i := 255) (by decide +kernel))) rfl
theorem wl_x_225 : Cond.methodLink R_x 225 yx_countWord ∈ tw := tw_of (List.mem_append_right _ (List.mem_of_getElem? (i := 252) (by decide +kernel))) rfl
theorem wi_x_countWord : Cond.instanceMethod yx_countWord ∈ tw := tw_of (List.mem_append_right _ (List.mem_of_getElem? (i := 254) (by decide +kernel))) rfl
theorem ws_x_countWord : Cond.selects R_x yx_countWord yx_countWord ∈ tw := tw_of (List.mem_append_left _ (List.mem_of_getElem? (i := 37) (by decide +kernel))) rfl
theorem wc_z_turned : Cond.code yz_turned cz_turned 6 (some .long) ∈ tw := tw_of (List.mem_append_right _ (List.mem_of_getElem? (i := 325) (by decide +kernel))) rfl
theorem wl_z_141 : Cond.methodLink R_z 141 yz_turned ∈ tw := tw_of (List.mem_append_right _ (List.mem_of_getElem? (i := 322) (by decide +kernel))) rfl
theorem wi_z_turned : Cond.instanceMethod yz_turned ∈ tw := tw_of (List.mem_append_right _ (List.mem_of_getElem? (i := 324) (by decide +kernel))) rfl
theorem ws_z_turned : Cond.selects R_z yz_turned yz_turned ∈ tw := tw_of (List.mem_append_left _ (List.mem_of_getElem? (i := 48) (by decide +kernel))) rfl
theorem wc_x_move : Cond.code yx_move cx_move 3 (some .int) ∈ tw := tw_of (List.mem_append_right _ (List.mem_of_getElem? (i := 88) (by decide +kernel))) rfl
theorem wl_x_80 : Cond.methodLink R_x 80 yx_move ∈ tw := tw_of (List.mem_append_right _ (List.mem_of_getElem? (i := 85) (by decide +kernel))) rfl
theorem wi_x_move : Cond.instanceMethod yx_move ∈ tw := tw_of (List.mem_append_right _ (List.mem_of_getElem? (i := 87) (by decide +kernel))) rfl
theorem ws_x_move : Cond.selects R_x yx_move yx_move ∈ tw := tw_of (List.mem_append_left _ (List.mem_of_getElem? (i := 6) (by decide +kernel))) rfl
theorem wc_x_calculate : Cond.code yx_calculate cx_calculate 5 (some .int) ∈ tw := tw_of (List.mem_append_right _ (List.mem_of_getElem? (i := 121) (by decide +kernel))) rfl
theorem wl_x_83 : Cond.methodLink R_x 83 yx_calculate ∈ tw := tw_of (List.mem_append_right _ (List.mem_of_getElem? (i := 118) (by decide +kernel))) rfl
theorem wi_x_calculate : Cond.instanceMethod yx_calculate ∈ tw := tw_of (List.mem_append_right _ (List.mem_of_getElem? (i := 120) (by decide +kernel))) rfl
theorem ws_x_calculate : Cond.selects R_x yx_calculate yx_calculate ∈ tw := tw_of (List.mem_append_left _ (List.mem_of_getElem? (i := 12) (by decide +kernel))) rfl
theorem wc_x_divide : Cond.code yx_divide cx_divide 5 (some .int) ∈ tw := tw_of (List.mem_append_right _ (List.mem_of_getElem? (i := 137) (by decide +kernel))) rfl
theorem wl_x_86 : Cond.methodLink R_x 86 yx_divide ∈ tw := tw_of (List.mem_append_right _ (List.mem_of_getElem? (i := 134) (by decide +kernel))) rfl
theorem wi_x_divide : Cond.instanceMethod yx_divide ∈ tw := tw_of (List.mem_append_right _ (List.mem_of_getElem? (i := 136) (by decide +kernel))) rfl
theorem ws_x_divide : Cond.selects R_x yx_divide yx_divide ∈ tw := tw_of (List.mem_append_left _ (List.mem_of_getElem? (i := 15) (by decide +kernel))) rfl
theorem wc_x_shiftOrFindFirstOne : Cond.code yx_shiftOrFindFirstOne cx_shiftOrFindFirstOne 1 (some .int) ∈ tw := tw_of (List.mem_append_right _ (List.mem_of_getElem? (i := 147) (by decide +kernel))) rfl
theorem wl_x_89 : Cond.methodLink R_x 89 yx_shiftOrFindFirstOne ∈ tw := tw_of (List.mem_append_right _ (List.mem_of_getElem? (i := 144) (by decide +kernel))) rfl
theorem wi_x_shiftOrFindFirstOne : Cond.instanceMethod yx_shiftOrFindFirstOne ∈ tw := tw_of (List.mem_append_right _ (List.mem_of_getElem? (i := 146) (by decide +kernel))) rfl
theorem ws_x_shiftOrFindFirstOne : Cond.selects R_x yx_shiftOrFindFirstOne yx_shiftOrFindFirstOne ∈ tw := tw_of (List.mem_append_left _ (List.mem_of_getElem? (i := 17) (by decide +kernel))) rfl
theorem wc_x_useStack : Cond.code yx_useStack cx_useStack 1 (some .int) ∈ tw := tw_of (List.mem_append_right _ (List.mem_of_getElem? (i := 189) (by decide +kernel))) rfl
theorem wl_x_92 : Cond.methodLink R_x 92 yx_useStack ∈ tw := tw_of (List.mem_append_right _ (List.mem_of_getElem? (i := 186) (by decide +kernel))) rfl
theorem wi_x_useStack : Cond.instanceMethod yx_useStack ∈ tw := tw_of (List.mem_append_right _ (List.mem_of_getElem? (i := 188) (by decide +kernel))) rfl
theorem ws_x_useStack : Cond.selects R_x yx_useStack yx_useStack ∈ tw := tw_of (List.mem_append_left _ (List.mem_of_getElem? (i := 22) (by decide +kernel))) rfl
theorem wc_x_performSingle : Cond.code yx_performSingle cx_performSingle 1 (some .int) ∈ tw := tw_of (List.mem_append_right _ (List.mem_of_getElem? (i := 208) (by decide +kernel))) rfl
theorem wl_x_95 : Cond.methodLink R_x 95 yx_performSingle ∈ tw := tw_of (List.mem_append_right _ (List.mem_of_getElem? (i := 205) (by decide +kernel))) rfl
theorem wi_x_performSingle : Cond.instanceMethod yx_performSingle ∈ tw := tw_of (List.mem_append_right _ (List.mem_of_getElem? (i := 207) (by decide +kernel))) rfl
theorem ws_x_performSingle : Cond.selects R_x yx_performSingle yx_performSingle ∈ tw := tw_of (List.mem_append_left _ (List.mem_of_getElem? (i := 26) (by decide +kernel))) rfl
theorem wc_z_reckon : Cond.code yz_reckon cz_reckon 11 (some .int) ∈ tw := tw_of (List.mem_append_right _ (List.mem_of_getElem? (i := 349) (by decide +kernel))) rfl
theorem wl_z_78 : Cond.methodLink R_z 78 yz_reckon ∈ tw := tw_of (List.mem_append_right _ (List.mem_of_getElem? (i := 346) (by decide +kernel))) rfl
theorem wi_z_reckon : Cond.instanceMethod yz_reckon ∈ tw := tw_of (List.mem_append_right _ (List.mem_of_getElem? (i := 348) (by decide +kernel))) rfl
theorem ws_z_reckon : Cond.selects R_z yz_reckon yz_reckon ∈ tw := tw_of (List.mem_append_left _ (List.mem_of_getElem? (i := 49) (by decide +kernel))) rfl
theorem wc_z_calls : Cond.code yz_calls cz_calls 14 (some .int) ∈ tw := tw_of (List.mem_append_right _ (List.mem_of_getElem? (i := 418) (by decide +kernel))) rfl
theorem wl_z_127 : Cond.methodLink R_z 127 yz_calls ∈ tw := tw_of (List.mem_append_right _ (List.mem_of_getElem? (i := 415) (by decide +kernel))) rfl
theorem wi_z_calls : Cond.instanceMethod yz_calls ∈ tw := tw_of (List.mem_append_right _ (List.mem_of_getElem? (i := 417) (by decide +kernel))) rfl
theorem ws_z_calls : Cond.selects R_z yz_calls yz_calls ∈ tw := tw_of (List.mem_append_left _ (List.mem_of_getElem? (i := 58) (by decide +kernel))) rfl
theorem wc_z_odd : Cond.code yz_odd cz_odd 10 (some .int) ∈ tw := tw_of (List.mem_append_right _ (List.mem_of_getElem? (i := 408) (by decide +kernel))) rfl
theorem wl_z_120 : Cond.methodLink R_z 120 yz_odd ∈ tw := tw_of (List.mem_append_right _ (List.mem_of_getElem? (i := 405) (by decide +kernel))) rfl
theorem wi_z_odd : Cond.instanceMethod yz_odd ∈ tw := tw_of (List.mem_append_right _ (List.mem_of_getElem? (i := 407) (by decide +kernel))) rfl
theorem ws_z_odd : Cond.selects R_z yz_odd yz_odd ∈ tw := tw_of (List.mem_append_left _ (List.mem_of_getElem? (i := 57) (by decide +kernel))) rfl
theorem wc_z_shift : Cond.code yz_shift cz_shift 12 (some .int) ∈ tw := tw_of (List.mem_append_right _ (List.mem_of_getElem? (i := 399) (by decide +kernel))) rfl
theorem wl_z_113 : Cond.methodLink R_z 113 yz_shift ∈ tw := tw_of (List.mem_append_right _ (List.mem_of_getElem? (i := 396) (by decide +kernel))) rfl
theorem wi_z_shift : Cond.instanceMethod yz_shift ∈ tw := tw_of (List.mem_append_right _ (List.mem_of_getElem? (i := 398) (by decide +kernel))) rfl
theorem ws_z_shift : Cond.selects R_z yz_shift yz_shift ∈ tw := tw_of (List.mem_append_left _ (List.mem_of_getElem? (i := 56) (by decide +kernel))) rfl
theorem wc_z_compare : Cond.code yz_compare cz_compare 9 (some .int) ∈ tw := tw_of (List.mem_append_right _ (List.mem_of_getElem? (i := 386) (by decide +kernel))) rfl
theorem wl_z_106 : Cond.methodLink R_z 106 yz_compare ∈ tw := tw_of (List.mem_append_right _ (List.mem_of_getElem? (i := 383) (by decide +kernel))) rfl
theorem wi_z_compare : Cond.instanceMethod yz_compare ∈ tw := tw_of (List.mem_append_right _ (List.mem_of_getElem? (i := 385) (by decide +kernel))) rfl
theorem ws_z_compare : Cond.selects R_z yz_compare yz_compare ∈ tw := tw_of (List.mem_append_left _ (List.mem_of_getElem? (i := 54) (by decide +kernel))) rfl
theorem wc_z_test : Cond.code yz_test cz_test 12 (some .int) ∈ tw := tw_of (List.mem_append_right _ (List.mem_of_getElem? (i := 380) (by decide +kernel))) rfl
theorem wl_z_99 : Cond.methodLink R_z 99 yz_test ∈ tw := tw_of (List.mem_append_right _ (List.mem_of_getElem? (i := 377) (by decide +kernel))) rfl
theorem wi_z_test : Cond.instanceMethod yz_test ∈ tw := tw_of (List.mem_append_right _ (List.mem_of_getElem? (i := 379) (by decide +kernel))) rfl
theorem ws_z_test : Cond.selects R_z yz_test yz_test ∈ tw := tw_of (List.mem_append_left _ (List.mem_of_getElem? (i := 53) (by decide +kernel))) rfl
theorem wc_z_half : Cond.code yz_half cz_half 16 (some .int) ∈ tw := tw_of (List.mem_append_right _ (List.mem_of_getElem? (i := 374) (by decide +kernel))) rfl
theorem wl_z_92 : Cond.methodLink R_z 92 yz_half ∈ tw := tw_of (List.mem_append_right _ (List.mem_of_getElem? (i := 371) (by decide +kernel))) rfl
theorem wi_z_half : Cond.instanceMethod yz_half ∈ tw := tw_of (List.mem_append_right _ (List.mem_of_getElem? (i := 373) (by decide +kernel))) rfl
theorem ws_z_half : Cond.selects R_z yz_half yz_half ∈ tw := tw_of (List.mem_append_left _ (List.mem_of_getElem? (i := 52) (by decide +kernel))) rfl
theorem wc_z_bits : Cond.code yz_bits cz_bits 11 (some .int) ∈ tw := tw_of (List.mem_append_right _ (List.mem_of_getElem? (i := 368) (by decide +kernel))) rfl
theorem wl_z_85 : Cond.methodLink R_z 85 yz_bits ∈ tw := tw_of (List.mem_append_right _ (List.mem_of_getElem? (i := 365) (by decide +kernel))) rfl
theorem wi_z_bits : Cond.instanceMethod yz_bits ∈ tw := tw_of (List.mem_append_right _ (List.mem_of_getElem? (i := 367) (by decide +kernel))) rfl
theorem ws_z_bits : Cond.selects R_z yz_bits yz_bits ∈ tw := tw_of (List.mem_append_left _ (List.mem_of_getElem? (i := 51) (by decide +kernel))) rfl
theorem wc_z_move : Cond.code yz_move cz_move 7 (some .int) ∈ tw := tw_of (List.mem_append_right _ (List.mem_of_getElem? (i := 318) (by decide +kernel))) rfl
theorem wl_z_62 : Cond.methodLink R_z 62 yz_move ∈ tw := tw_of (List.mem_append_right _ (List.mem_of_getElem? (i := 315) (by decide +kernel))) rfl
theorem wi_z_move : Cond.instanceMethod yz_move ∈ tw := tw_of (List.mem_append_right _ (List.mem_of_getElem? (i := 317) (by decide +kernel))) rfl
theorem ws_z_move : Cond.selects R_z yz_move yz_move ∈ tw := tw_of (List.mem_append_left _ (List.mem_of_getElem? (i := 47) (by decide +kernel))) rfl
theorem wc_x_performTwoHundreds : Cond.code yx_performTwoHundreds cx_performTwoHundreds 1 (some .int) ∈ tw := tw_of (List.mem_append_right _ (List.mem_of_getElem? (i := 80) (by decide +kernel))) rfl
theorem wl_x_62 : Cond.methodLink R_x 62 yx_performTwoHundreds ∈ tw := tw_of (List.mem_append_right _ (List.mem_of_getElem? (i := 77) (by decide +kernel))) rfl
theorem wi_x_performTwoHundreds : Cond.instanceMethod yx_performTwoHundreds ∈ tw := tw_of (List.mem_append_right _ (List.mem_of_getElem? (i := 79) (by decide +kernel))) rfl
theorem ws_x_performTwoHundreds : Cond.selects R_x yx_performTwoHundreds yx_performTwoHundreds ∈ tw := tw_of (List.mem_append_left _ (List.mem_of_getElem? (i := 4) (by decide +kernel))) rfl
theorem wc_x_compare : Cond.code yx_compare cx_compare 2 (some .int) ∈ tw := tw_of (List.mem_append_right _ (List.mem_of_getElem? (i := 235) (by decide +kernel))) rfl
theorem wl_x_65 : Cond.methodLink R_x 65 yx_compare ∈ tw := tw_of (List.mem_append_right _ (List.mem_of_getElem? (i := 232) (by decide +kernel))) rfl
theorem wi_x_compare : Cond.instanceMethod yx_compare ∈ tw := tw_of (List.mem_append_right _ (List.mem_of_getElem? (i := 234) (by decide +kernel))) rfl
theorem ws_x_compare : Cond.selects R_x yx_compare yx_compare ∈ tw := tw_of (List.mem_append_left _ (List.mem_of_getElem? (i := 32) (by decide +kernel))) rfl
theorem wc_x_combineBits : Cond.code yx_combineBits cx_combineBits 2 (some .int) ∈ tw := tw_of (List.mem_append_right _ (List.mem_of_getElem? (i := 259) (by decide +kernel))) rfl
theorem wl_x_68 : Cond.methodLink R_x 68 yx_combineBits ∈ tw := tw_of (List.mem_append_right _ (List.mem_of_getElem? (i := 256) (by decide +kernel))) rfl
theorem wi_x_combineBits : Cond.instanceMethod yx_combineBits ∈ tw := tw_of (List.mem_append_right _ (List.mem_of_getElem? (i := 258) (by decide +kernel))) rfl
theorem ws_x_combineBits : Cond.selects R_x yx_combineBits yx_combineBits ∈ tw := tw_of (List.mem_append_left _ (List.mem_of_getElem? (i := 38) (by decide +kernel))) rfl
theorem wc_x_moveHalf : Cond.code yx_moveHalf cx_moveHalf 5 (some .int) ∈ tw := tw_of (List.mem_append_right _ (List.mem_of_getElem? (i := 266) (by decide +kernel))) rfl
theorem wl_x_71 : Cond.methodLink R_x 71 yx_moveHalf ∈ tw := tw_of (List.mem_append_right _ (List.mem_of_getElem? (i := 263) (by decide +kernel))) rfl
theorem wi_x_moveHalf : Cond.instanceMethod yx_moveHalf ∈ tw := tw_of (List.mem_append_right _ (List.mem_of_getElem? (i := 265) (by decide +kernel))) rfl
theorem ws_x_moveHalf : Cond.selects R_x yx_moveHalf yx_moveHalf ∈ tw := tw_of (List.mem_append_left _ (List.mem_of_getElem? (i := 39) (by decide +kernel))) rfl
theorem wc_x_testBits : Cond.code yx_testBits cx_testBits 7 (some .int) ∈ tw := tw_of (List.mem_append_right _ (List.mem_of_getElem? (i := 278) (by decide +kernel))) rfl
theorem wl_x_74 : Cond.methodLink R_x 74 yx_testBits ∈ tw := tw_of (List.mem_append_right _ (List.mem_of_getElem? (i := 275) (by decide +kernel))) rfl
theorem wi_x_testBits : Cond.instanceMethod yx_testBits ∈ tw := tw_of (List.mem_append_right _ (List.mem_of_getElem? (i := 277) (by decide +kernel))) rfl
theorem ws_x_testBits : Cond.selects R_x yx_testBits yx_testBits ∈ tw := tw_of (List.mem_append_left _ (List.mem_of_getElem? (i := 42) (by decide +kernel))) rfl
theorem wc_z_address : Cond.code yz_address cz_address 8 (some .int) ∈ tw := tw_of (List.mem_append_right _ (List.mem_of_getElem? (i := 304) (by decide +kernel))) rfl
theorem wl_z_51 : Cond.methodLink R_z 51 yz_address ∈ tw := tw_of (List.mem_append_right _ (List.mem_of_getElem? (i := 301) (by decide +kernel))) rfl
theorem wi_z_address : Cond.instanceMethod yz_address ∈ tw := tw_of (List.mem_append_right _ (List.mem_of_getElem? (i := 303) (by decide +kernel))) rfl
theorem ws_z_address : Cond.selects R_z yz_address yz_address ∈ tw := tw_of (List.mem_append_left _ (List.mem_of_getElem? (i := 45) (by decide +kernel))) rfl
theorem wc_z_perform : Cond.code yz_perform cz_perform 5 (some .int) ∈ tw := tw_of (List.mem_append_right _ (List.mem_of_getElem? (i := 312) (by decide +kernel))) rfl
theorem wl_z_54 : Cond.methodLink R_z 54 yz_perform ∈ tw := tw_of (List.mem_append_right _ (List.mem_of_getElem? (i := 309) (by decide +kernel))) rfl
theorem wi_z_perform : Cond.instanceMethod yz_perform ∈ tw := tw_of (List.mem_append_right _ (List.mem_of_getElem? (i := 311) (by decide +kernel))) rfl
theorem ws_z_perform : Cond.selects R_z yz_perform yz_perform ∈ tw := tw_of (List.mem_append_left _ (List.mem_of_getElem? (i := 46) (by decide +kernel))) rfl
theorem wc_x_perform : Cond.code yx_perform cx_perform 1 (some .int) ∈ tw := tw_of (List.mem_append_right _ (List.mem_of_getElem? (i := 76) (by decide +kernel))) rfl
theorem wl_x_41 : Cond.methodLink R_x 41 yx_perform ∈ tw := tw_of (List.mem_append_right _ (List.mem_of_getElem? (i := 73) (by decide +kernel))) rfl
theorem wi_x_perform : Cond.instanceMethod yx_perform ∈ tw := tw_of (List.mem_append_right _ (List.mem_of_getElem? (i := 75) (by decide +kernel))) rfl
theorem ws_x_perform : Cond.selects R_x yx_perform yx_perform ∈ tw := tw_of (List.mem_append_left _ (List.mem_of_getElem? (i := 3) (by decide +kernel))) rfl
theorem wc_x_fetch : Cond.code yx_fetch cx_fetch 6 (some .boolean) ∈ tw := tw_of (List.mem_append_right _ (List.mem_of_getElem? (i := 63) (by decide +kernel))) rfl
theorem wl_x_38 : Cond.methodLink R_x 38 yx_fetch ∈ tw := tw_of (List.mem_append_right _ (List.mem_of_getElem? (i := 60) (by decide +kernel))) rfl
theorem wi_x_fetch : Cond.instanceMethod yx_fetch ∈ tw := tw_of (List.mem_append_right _ (List.mem_of_getElem? (i := 62) (by decide +kernel))) rfl
theorem ws_x_fetch : Cond.selects R_x yx_fetch yx_fetch ∈ tw := tw_of (List.mem_append_left _ (List.mem_of_getElem? (i := 1) (by decide +kernel))) rfl
theorem wc_z_instruction : Cond.code yz_instruction cz_instruction 7 (some .int) ∈ tw := tw_of (List.mem_append_right _ (List.mem_of_getElem? (i := 300) (by decide +kernel))) rfl
theorem wl_z_40 : Cond.methodLink R_z 40 yz_instruction ∈ tw := tw_of (List.mem_append_right _ (List.mem_of_getElem? (i := 296) (by decide +kernel))) rfl
theorem wi_z_instruction : Cond.instanceMethod yz_instruction ∈ tw := tw_of (List.mem_append_right _ (List.mem_of_getElem? (i := 298) (by decide +kernel))) rfl
theorem ws_z_instruction : Cond.selects R_z yz_instruction yz_instruction ∈ tw := tw_of (List.mem_append_left _ (List.mem_of_getElem? (i := 44) (by decide +kernel))) rfl
theorem wc_x_step : Cond.code yx_step cx_step 3 (some .int) ∈ tw := tw_of (List.mem_append_right _ (List.mem_of_getElem? (i := 59) (by decide +kernel))) rfl
theorem wl_x_34 : Cond.methodLink R_x 34 yx_step ∈ tw := tw_of (List.mem_append_right _ (List.mem_of_getElem? (i := 56) (by decide +kernel))) rfl
theorem wi_x_step : Cond.instanceMethod yx_step ∈ tw := tw_of (List.mem_append_right _ (List.mem_of_getElem? (i := 58) (by decide +kernel))) rfl
theorem ws_x_step : Cond.selects R_x yx_step yx_step ∈ tw := tw_of (List.mem_append_left _ (List.mem_of_getElem? (i := 0) (by decide +kernel))) rfl
theorem fl_x_word : Cond.fieldLink R_x 9 "TenMachine" "word" "[J" ∈ tw := tw_of (List.mem_append_right _ (List.mem_of_getElem? (i := 14) (by decide +kernel))) rfl
theorem fl_x_pc : Cond.fieldLink R_x 23 "TenMachine" "pc" "I" ∈ tw := tw_of (List.mem_append_right _ (List.mem_of_getElem? (i := 15) (by decide +kernel))) rfl
theorem fl_x_overflow : Cond.fieldLink R_x 27 "TenMachine" "overflow" "Z" ∈ tw := tw_of (List.mem_append_right _ (List.mem_of_getElem? (i := 16) (by decide +kernel))) rfl
theorem fl_x_doneByLatestGo : Cond.fieldLink R_x 31 "TenMachine" "doneByLatestGo" "I" ∈ tw := tw_of (List.mem_append_right _ (List.mem_of_getElem? (i := 17) (by decide +kernel))) rfl
theorem fl_x_op : Cond.fieldLink R_x 44 "TenMachine" "op" "I" ∈ tw := tw_of (List.mem_append_right _ (List.mem_of_getElem? (i := 18) (by decide +kernel))) rfl
theorem fl_x_ac : Cond.fieldLink R_x 47 "TenMachine" "ac" "I" ∈ tw := tw_of (List.mem_append_right _ (List.mem_of_getElem? (i := 19) (by decide +kernel))) rfl
theorem fl_x_e : Cond.fieldLink R_x 54 "TenMachine" "e" "I" ∈ tw := tw_of (List.mem_append_right _ (List.mem_of_getElem? (i := 20) (by decide +kernel))) rfl
theorem fl_z_words : Cond.fieldLink R_z 47 "TenMachineModel" "words" "[J" ∈ tw := tw_of (List.mem_append_right _ (List.mem_of_getElem? (i := 424) (by decide +kernel))) rfl
theorem fl_z_counter : Cond.fieldLink R_z 29 "TenMachineModel" "counter" "I" ∈ tw := tw_of (List.mem_append_right _ (List.mem_of_getElem? (i := 425) (by decide +kernel))) rfl
theorem fl_z_behind : Cond.fieldLink R_z 44 "TenMachineModel" "behind" "I" ∈ tw := tw_of (List.mem_append_right _ (List.mem_of_getElem? (i := 426) (by decide +kernel))) rfl
theorem fl_z_done : Cond.fieldLink R_z 37 "TenMachineModel" "done" "I" ∈ tw := tw_of (List.mem_append_right _ (List.mem_of_getElem? (i := 427) (by decide +kernel))) rfl
theorem fl_z_overflow : Cond.fieldLink R_z 33 "TenMachineModel" "overflow" "Z" ∈ tw := tw_of (List.mem_append_right _ (List.mem_of_getElem? (i := 428) (by decide +kernel))) rfl
theorem in_x : ∀ w ∈ u_ws R_x F_x 7, w ∈ tw := fun w h => tw_of (List.mem_append_right _ (in_x0 w h)) (in_xg w h)
theorem in_z : ∀ w ∈ u_ws R_z F_z 5, w ∈ tw := fun w h => tw_of (List.mem_append_right _ (in_z0 w h)) (in_zg w h)
