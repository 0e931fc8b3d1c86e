theorem djm_abs_0 : decode cjm_abs 0 = .ok (.iload_n 0, 1) := by decide +kernel
theorem djm_abs_1 : decode cjm_abs 1 = .ok (.ifCond .ge 8, 3) := by decide +kernel
theorem djm_abs_4 : decode cjm_abs 4 = .ok (.iload_n 0, 1) := by decide +kernel
theorem djm_abs_5 : decode cjm_abs 5 = .ok (.ineg, 1) := by decide +kernel
theorem djm_abs_6 : decode cjm_abs 6 = .ok (.goto 4, 3) := by decide +kernel
theorem djm_abs_9 : decode cjm_abs 9 = .ok (.iload_n 0, 1) := by decide +kernel
theorem djm_abs_10 : decode cjm_abs 10 = .ok (.ireturn, 1) := by decide +kernel
theorem djm_absJ_0 : decode cjm_absJ 0 = .ok (.lload_n 0, 1) := by decide +kernel
theorem djm_absJ_1 : decode cjm_absJ 1 = .ok (.lconst 0, 1) := by decide +kernel
theorem djm_absJ_2 : decode cjm_absJ 2 = .ok (.lcmp, 1) := by decide +kernel
theorem djm_absJ_3 : decode cjm_absJ 3 = .ok (.ifCond .ge 8, 3) := by decide +kernel
theorem djm_absJ_6 : decode cjm_absJ 6 = .ok (.lload_n 0, 1) := by decide +kernel
theorem djm_absJ_7 : decode cjm_absJ 7 = .ok (.lneg, 1) := by decide +kernel
theorem djm_absJ_8 : decode cjm_absJ 8 = .ok (.goto 4, 3) := by decide +kernel
theorem djm_absJ_11 : decode cjm_absJ 11 = .ok (.lload_n 0, 1) := by decide +kernel
theorem djm_absJ_12 : decode cjm_absJ 12 = .ok (.lreturn, 1) := by decide +kernel
theorem djm_floorMod_0 : decode cjm_floorMod 0 = .ok (.iload_n 0, 1) := by decide +kernel
theorem djm_floorMod_1 : decode cjm_floorMod 1 = .ok (.iload_n 1, 1) := by decide +kernel
theorem djm_floorMod_2 : decode cjm_floorMod 2 = .ok (.irem, 1) := by decide +kernel
theorem djm_floorMod_3 : decode cjm_floorMod 3 = .ok (.istore_n 2, 1) := by decide +kernel
theorem djm_floorMod_4 : decode cjm_floorMod 4 = .ok (.iload_n 0, 1) := by decide +kernel
theorem djm_floorMod_5 : decode cjm_floorMod 5 = .ok (.iload_n 1, 1) := by decide +kernel
theorem djm_floorMod_6 : decode cjm_floorMod 6 = .ok (.ixor, 1) := by decide +kernel
theorem djm_floorMod_7 : decode cjm_floorMod 7 = .ok (.ifCond .ge 11, 3) := by decide +kernel
theorem djm_floorMod_10 : decode cjm_floorMod 10 = .ok (.iload_n 2, 1) := by decide +kernel
theorem djm_floorMod_11 : decode cjm_floorMod 11 = .ok (.ifCond .eq 7, 3) := by decide +kernel
theorem djm_floorMod_14 : decode cjm_floorMod 14 = .ok (.iload_n 2, 1) := by decide +kernel
theorem djm_floorMod_15 : decode cjm_floorMod 15 = .ok (.iload_n 1, 1) := by decide +kernel
theorem djm_floorMod_16 : decode cjm_floorMod 16 = .ok (.iadd, 1) := by decide +kernel
theorem djm_floorMod_17 : decode cjm_floorMod 17 = .ok (.ireturn, 1) := by decide +kernel
theorem djm_floorMod_18 : decode cjm_floorMod 18 = .ok (.iload_n 2, 1) := by decide +kernel
theorem djm_floorMod_19 : decode cjm_floorMod 19 = .ok (.ireturn, 1) := by decide +kernel
theorem djm_max_0 : decode cjm_max 0 = .ok (.iload_n 0, 1) := by decide +kernel
theorem djm_max_1 : decode cjm_max 1 = .ok (.iload_n 1, 1) := by decide +kernel
theorem djm_max_2 : decode cjm_max 2 = .ok (.if_icmp .lt 7, 3) := by decide +kernel
theorem djm_max_5 : decode cjm_max 5 = .ok (.iload_n 0, 1) := by decide +kernel
theorem djm_max_6 : decode cjm_max 6 = .ok (.goto 4, 3) := by decide +kernel
theorem djm_max_9 : decode cjm_max 9 = .ok (.iload_n 1, 1) := by decide +kernel
theorem djm_max_10 : decode cjm_max 10 = .ok (.ireturn, 1) := by decide +kernel
theorem djm_min_0 : decode cjm_min 0 = .ok (.iload_n 0, 1) := by decide +kernel
theorem djm_min_1 : decode cjm_min 1 = .ok (.iload_n 1, 1) := by decide +kernel
theorem djm_min_2 : decode cjm_min 2 = .ok (.if_icmp .gt 7, 3) := by decide +kernel
theorem djm_min_5 : decode cjm_min 5 = .ok (.iload_n 0, 1) := by decide +kernel
theorem djm_min_6 : decode cjm_min 6 = .ok (.goto 4, 3) := by decide +kernel
theorem djm_min_9 : decode cjm_min 9 = .ok (.iload_n 1, 1) := by decide +kernel
theorem djm_min_10 : decode cjm_min 10 = .ok (.ireturn, 1) := by decide +kernel
theorem djm_multiplyHigh_0 : decode cjm_multiplyHigh 0 = .ok (.lload_n 0, 1) := by decide +kernel
theorem djm_multiplyHigh_1 : decode cjm_multiplyHigh 1 = .ok (.bipush 32, 2) := by decide +kernel
theorem djm_multiplyHigh_3 : decode cjm_multiplyHigh 3 = .ok (.lshr, 1) := by decide +kernel
theorem djm_multiplyHigh_4 : decode cjm_multiplyHigh 4 = .ok (.lstore 4, 2) := by decide +kernel
theorem djm_multiplyHigh_6 : decode cjm_multiplyHigh 6 = .ok (.lload_n 0, 1) := by decide +kernel
theorem djm_multiplyHigh_7 : decode cjm_multiplyHigh 7 = .ok (.ldc2_w 138, 3) := by decide +kernel
theorem djm_multiplyHigh_10 : decode cjm_multiplyHigh 10 = .ok (.land, 1) := by decide +kernel
theorem djm_multiplyHigh_11 : decode cjm_multiplyHigh 11 = .ok (.lstore 6, 2) := by decide +kernel
theorem djm_multiplyHigh_13 : decode cjm_multiplyHigh 13 = .ok (.lload_n 2, 1) := by decide +kernel
theorem djm_multiplyHigh_14 : decode cjm_multiplyHigh 14 = .ok (.bipush 32, 2) := by decide +kernel
theorem djm_multiplyHigh_16 : decode cjm_multiplyHigh 16 = .ok (.lshr, 1) := by decide +kernel
theorem djm_multiplyHigh_17 : decode cjm_multiplyHigh 17 = .ok (.lstore 8, 2) := by decide +kernel
theorem djm_multiplyHigh_19 : decode cjm_multiplyHigh 19 = .ok (.lload_n 2, 1) := by decide +kernel
theorem djm_multiplyHigh_20 : decode cjm_multiplyHigh 20 = .ok (.ldc2_w 138, 3) := by decide +kernel
theorem djm_multiplyHigh_23 : decode cjm_multiplyHigh 23 = .ok (.land, 1) := by decide +kernel
theorem djm_multiplyHigh_24 : decode cjm_multiplyHigh 24 = .ok (.lstore 10, 2) := by decide +kernel
theorem djm_multiplyHigh_26 : decode cjm_multiplyHigh 26 = .ok (.lload 6, 2) := by decide +kernel
theorem djm_multiplyHigh_28 : decode cjm_multiplyHigh 28 = .ok (.lload 10, 2) := by decide +kernel
theorem djm_multiplyHigh_30 : decode cjm_multiplyHigh 30 = .ok (.lmul, 1) := by decide +kernel
theorem djm_multiplyHigh_31 : decode cjm_multiplyHigh 31 = .ok (.lstore 12, 2) := by decide +kernel
theorem djm_multiplyHigh_33 : decode cjm_multiplyHigh 33 = .ok (.lload 4, 2) := by decide +kernel
theorem djm_multiplyHigh_35 : decode cjm_multiplyHigh 35 = .ok (.lload 10, 2) := by decide +kernel
theorem djm_multiplyHigh_37 : decode cjm_multiplyHigh 37 = .ok (.lmul, 1) := by decide +kernel
theorem djm_multiplyHigh_38 : decode cjm_multiplyHigh 38 = .ok (.lload 12, 2) := by decide +kernel
theorem djm_multiplyHigh_40 : decode cjm_multiplyHigh 40 = .ok (.bipush 32, 2) := by decide +kernel
theorem djm_multiplyHigh_42 : decode cjm_multiplyHigh 42 = .ok (.lushr, 1) := by decide +kernel
theorem djm_multiplyHigh_43 : decode cjm_multiplyHigh 43 = .ok (.ladd, 1) := by decide +kernel
theorem djm_multiplyHigh_44 : decode cjm_multiplyHigh 44 = .ok (.lstore 14, 2) := by decide +kernel
theorem djm_multiplyHigh_46 : decode cjm_multiplyHigh 46 = .ok (.lload 14, 2) := by decide +kernel
theorem djm_multiplyHigh_48 : decode cjm_multiplyHigh 48 = .ok (.ldc2_w 138, 3) := by decide +kernel
theorem djm_multiplyHigh_51 : decode cjm_multiplyHigh 51 = .ok (.land, 1) := by decide +kernel
theorem djm_multiplyHigh_52 : decode cjm_multiplyHigh 52 = .ok (.lstore 16, 2) := by decide +kernel
theorem djm_multiplyHigh_54 : decode cjm_multiplyHigh 54 = .ok (.lload 14, 2) := by decide +kernel
theorem djm_multiplyHigh_56 : decode cjm_multiplyHigh 56 = .ok (.bipush 32, 2) := by decide +kernel
theorem djm_multiplyHigh_58 : decode cjm_multiplyHigh 58 = .ok (.lshr, 1) := by decide +kernel
theorem djm_multiplyHigh_59 : decode cjm_multiplyHigh 59 = .ok (.lstore 18, 2) := by decide +kernel
theorem djm_multiplyHigh_61 : decode cjm_multiplyHigh 61 = .ok (.lload 16, 2) := by decide +kernel
theorem djm_multiplyHigh_63 : decode cjm_multiplyHigh 63 = .ok (.lload 6, 2) := by decide +kernel
theorem djm_multiplyHigh_65 : decode cjm_multiplyHigh 65 = .ok (.lload 8, 2) := by decide +kernel
theorem djm_multiplyHigh_67 : decode cjm_multiplyHigh 67 = .ok (.lmul, 1) := by decide +kernel
theorem djm_multiplyHigh_68 : decode cjm_multiplyHigh 68 = .ok (.ladd, 1) := by decide +kernel
theorem djm_multiplyHigh_69 : decode cjm_multiplyHigh 69 = .ok (.lstore 16, 2) := by decide +kernel
theorem djm_multiplyHigh_71 : decode cjm_multiplyHigh 71 = .ok (.lload 4, 2) := by decide +kernel
theorem djm_multiplyHigh_73 : decode cjm_multiplyHigh 73 = .ok (.lload 8, 2) := by decide +kernel
theorem djm_multiplyHigh_75 : decode cjm_multiplyHigh 75 = .ok (.lmul, 1) := by decide +kernel
theorem djm_multiplyHigh_76 : decode cjm_multiplyHigh 76 = .ok (.lload 18, 2) := by decide +kernel
theorem djm_multiplyHigh_78 : decode cjm_multiplyHigh 78 = .ok (.ladd, 1) := by decide +kernel
theorem djm_multiplyHigh_79 : decode cjm_multiplyHigh 79 = .ok (.lload 16, 2) := by decide +kernel
theorem djm_multiplyHigh_81 : decode cjm_multiplyHigh 81 = .ok (.bipush 32, 2) := by decide +kernel
theorem djm_multiplyHigh_83 : decode cjm_multiplyHigh 83 = .ok (.lshr, 1) := by decide +kernel
theorem djm_multiplyHigh_84 : decode cjm_multiplyHigh 84 = .ok (.ladd, 1) := by decide +kernel
theorem djm_multiplyHigh_85 : decode cjm_multiplyHigh 85 = .ok (.lreturn, 1) := by decide +kernel
theorem djl_numberOfLeadingZeros_0 : decode cjl_numberOfLeadingZeros 0 = .ok (.lload_n 0, 1) := by decide +kernel
theorem djl_numberOfLeadingZeros_1 : decode cjl_numberOfLeadingZeros 1 = .ok (.bipush 32, 2) := by decide +kernel
theorem djl_numberOfLeadingZeros_3 : decode cjl_numberOfLeadingZeros 3 = .ok (.lushr, 1) := by decide +kernel
theorem djl_numberOfLeadingZeros_4 : decode cjl_numberOfLeadingZeros 4 = .ok (.l2i, 1) := by decide +kernel
theorem djl_numberOfLeadingZeros_5 : decode cjl_numberOfLeadingZeros 5 = .ok (.istore_n 2, 1) := by decide +kernel
theorem djl_numberOfLeadingZeros_6 : decode cjl_numberOfLeadingZeros 6 = .ok (.iload_n 2, 1) := by decide +kernel
theorem djl_numberOfLeadingZeros_7 : decode cjl_numberOfLeadingZeros 7 = .ok (.ifCond .ne 14, 3) := by decide +kernel
theorem djl_numberOfLeadingZeros_10 : decode cjl_numberOfLeadingZeros 10 = .ok (.bipush 32, 2) := by decide +kernel
theorem djl_numberOfLeadingZeros_12 : decode cjl_numberOfLeadingZeros 12 = .ok (.lload_n 0, 1) := by decide +kernel
theorem djl_numberOfLeadingZeros_13 : decode cjl_numberOfLeadingZeros 13 = .ok (.l2i, 1) := by decide +kernel
theorem djl_numberOfLeadingZeros_14 : decode cjl_numberOfLeadingZeros 14 = .ok (.invokestatic 308, 3) := by decide +kernel
theorem djl_numberOfLeadingZeros_17 : decode cjl_numberOfLeadingZeros 17 = .ok (.iadd, 1) := by decide +kernel
theorem djl_numberOfLeadingZeros_18 : decode cjl_numberOfLeadingZeros 18 = .ok (.goto 7, 3) := by decide +kernel
theorem djl_numberOfLeadingZeros_21 : decode cjl_numberOfLeadingZeros 21 = .ok (.iload_n 2, 1) := by decide +kernel
theorem djl_numberOfLeadingZeros_22 : decode cjl_numberOfLeadingZeros 22 = .ok (.invokestatic 308, 3) := by decide +kernel
theorem djl_numberOfLeadingZeros_25 : decode cjl_numberOfLeadingZeros 25 = .ok (.ireturn, 1) := by decide +kernel
theorem dji_numberOfLeadingZeros_0 : decode cji_numberOfLeadingZeros 0 = .ok (.iload_n 0, 1) := by decide +kernel
theorem dji_numberOfLeadingZeros_1 : decode cji_numberOfLeadingZeros 1 = .ok (.ifCond .gt 14, 3) := by decide +kernel
theorem dji_numberOfLeadingZeros_4 : decode cji_numberOfLeadingZeros 4 = .ok (.iload_n 0, 1) := by decide +kernel
theorem dji_numberOfLeadingZeros_5 : decode cji_numberOfLeadingZeros 5 = .ok (.ifCond .ne 8, 3) := by decide +kernel
theorem dji_numberOfLeadingZeros_8 : decode cji_numberOfLeadingZeros 8 = .ok (.bipush 32, 2) := by decide +kernel
theorem dji_numberOfLeadingZeros_10 : decode cji_numberOfLeadingZeros 10 = .ok (.goto 4, 3) := by decide +kernel
theorem dji_numberOfLeadingZeros_13 : decode cji_numberOfLeadingZeros 13 = .ok (.iconst 0, 1) := by decide +kernel
theorem dji_numberOfLeadingZeros_14 : decode cji_numberOfLeadingZeros 14 = .ok (.ireturn, 1) := by decide +kernel
theorem dji_numberOfLeadingZeros_15 : decode cji_numberOfLeadingZeros 15 = .ok (.bipush 31, 2) := by decide +kernel
theorem dji_numberOfLeadingZeros_17 : decode cji_numberOfLeadingZeros 17 = .ok (.istore_n 1, 1) := by decide +kernel
theorem dji_numberOfLeadingZeros_18 : decode cji_numberOfLeadingZeros 18 = .ok (.iload_n 0, 1) := by decide +kernel
theorem dji_numberOfLeadingZeros_19 : decode cji_numberOfLeadingZeros 19 = .ok (.ldc_w 264, 3) := by decide +kernel
theorem dji_numberOfLeadingZeros_22 : decode cji_numberOfLeadingZeros 22 = .ok (.if_icmp .lt 11, 3) := by decide +kernel
theorem dji_numberOfLeadingZeros_25 : decode cji_numberOfLeadingZeros 25 = .ok (.iinc 1 (-16), 3) := by decide +kernel
theorem dji_numberOfLeadingZeros_28 : decode cji_numberOfLeadingZeros 28 = .ok (.iload_n 0, 1) := by decide +kernel
theorem dji_numberOfLeadingZeros_29 : decode cji_numberOfLeadingZeros 29 = .ok (.bipush 16, 2) := by decide +kernel
theorem dji_numberOfLeadingZeros_31 : decode cji_numberOfLeadingZeros 31 = .ok (.iushr, 1) := by decide +kernel
theorem dji_numberOfLeadingZeros_32 : decode cji_numberOfLeadingZeros 32 = .ok (.istore_n 0, 1) := by decide +kernel
theorem dji_numberOfLeadingZeros_33 : decode cji_numberOfLeadingZeros 33 = .ok (.iload_n 0, 1) := by decide +kernel
theorem dji_numberOfLeadingZeros_34 : decode cji_numberOfLeadingZeros 34 = .ok (.sipush 256, 3) := by decide +kernel
theorem dji_numberOfLeadingZeros_37 : decode cji_numberOfLeadingZeros 37 = .ok (.if_icmp .lt 11, 3) := by decide +kernel
theorem dji_numberOfLeadingZeros_40 : decode cji_numberOfLeadingZeros 40 = .ok (.iinc 1 (-8), 3) := by decide +kernel
theorem dji_numberOfLeadingZeros_43 : decode cji_numberOfLeadingZeros 43 = .ok (.iload_n 0, 1) := by decide +kernel
theorem dji_numberOfLeadingZeros_44 : decode cji_numberOfLeadingZeros 44 = .ok (.bipush 8, 2) := by decide +kernel
theorem dji_numberOfLeadingZeros_46 : decode cji_numberOfLeadingZeros 46 = .ok (.iushr, 1) := by decide +kernel
theorem dji_numberOfLeadingZeros_47 : decode cji_numberOfLeadingZeros 47 = .ok (.istore_n 0, 1) := by decide +kernel
theorem dji_numberOfLeadingZeros_48 : decode cji_numberOfLeadingZeros 48 = .ok (.iload_n 0, 1) := by decide +kernel
theorem dji_numberOfLeadingZeros_49 : decode cji_numberOfLeadingZeros 49 = .ok (.bipush 16, 2) := by decide +kernel
theorem dji_numberOfLeadingZeros_51 : decode cji_numberOfLeadingZeros 51 = .ok (.if_icmp .lt 10, 3) := by decide +kernel
theorem dji_numberOfLeadingZeros_54 : decode cji_numberOfLeadingZeros 54 = .ok (.iinc 1 (-4), 3) := by decide +kernel
theorem dji_numberOfLeadingZeros_57 : decode cji_numberOfLeadingZeros 57 = .ok (.iload_n 0, 1) := by decide +kernel
theorem dji_numberOfLeadingZeros_58 : decode cji_numberOfLeadingZeros 58 = .ok (.iconst 4, 1) := by decide +kernel
theorem dji_numberOfLeadingZeros_59 : decode cji_numberOfLeadingZeros 59 = .ok (.iushr, 1) := by decide +kernel
theorem dji_numberOfLeadingZeros_60 : decode cji_numberOfLeadingZeros 60 = .ok (.istore_n 0, 1) := by decide +kernel
theorem dji_numberOfLeadingZeros_61 : decode cji_numberOfLeadingZeros 61 = .ok (.iload_n 0, 1) := by decide +kernel
theorem dji_numberOfLeadingZeros_62 : decode cji_numberOfLeadingZeros 62 = .ok (.iconst 4, 1) := by decide +kernel
theorem dji_numberOfLeadingZeros_63 : decode cji_numberOfLeadingZeros 63 = .ok (.if_icmp .lt 10, 3) := by decide +kernel
theorem dji_numberOfLeadingZeros_66 : decode cji_numberOfLeadingZeros 66 = .ok (.iinc 1 (-2), 3) := by decide +kernel
theorem dji_numberOfLeadingZeros_69 : decode cji_numberOfLeadingZeros 69 = .ok (.iload_n 0, 1) := by decide +kernel
theorem dji_numberOfLeadingZeros_70 : decode cji_numberOfLeadingZeros 70 = .ok (.iconst 2, 1) := by decide +kernel
theorem dji_numberOfLeadingZeros_71 : decode cji_numberOfLeadingZeros 71 = .ok (.iushr, 1) := by decide +kernel
theorem dji_numberOfLeadingZeros_72 : decode cji_numberOfLeadingZeros 72 = .ok (.istore_n 0, 1) := by decide +kernel
theorem dji_numberOfLeadingZeros_73 : decode cji_numberOfLeadingZeros 73 = .ok (.iload_n 1, 1) := by decide +kernel
theorem dji_numberOfLeadingZeros_74 : decode cji_numberOfLeadingZeros 74 = .ok (.iload_n 0, 1) := by decide +kernel
theorem dji_numberOfLeadingZeros_75 : decode cji_numberOfLeadingZeros 75 = .ok (.iconst 1, 1) := by decide +kernel
theorem dji_numberOfLeadingZeros_76 : decode cji_numberOfLeadingZeros 76 = .ok (.iushr, 1) := by decide +kernel
theorem dji_numberOfLeadingZeros_77 : decode cji_numberOfLeadingZeros 77 = .ok (.isub, 1) := by decide +kernel
theorem dji_numberOfLeadingZeros_78 : decode cji_numberOfLeadingZeros 78 = .ok (.ireturn, 1) := by decide +kernel
