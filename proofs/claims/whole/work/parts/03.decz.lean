theorem dz_in_0 : decode cz_in 0 = .ok (.lload_n 0, 1) := by decide +kernel
theorem dz_in_1 : decode cz_in 1 = .ok (.lload_n 2, 1) := by decide +kernel
theorem dz_in_2 : decode cz_in 2 = .ok (.lcmp, 1) := by decide +kernel
theorem dz_in_3 : decode cz_in 3 = .ok (.ifCond .lt 14, 3) := by decide +kernel
theorem dz_in_6 : decode cz_in 6 = .ok (.lload_n 0, 1) := by decide +kernel
theorem dz_in_7 : decode cz_in 7 = .ok (.lload 4, 2) := by decide +kernel
theorem dz_in_9 : decode cz_in 9 = .ok (.lcmp, 1) := by decide +kernel
theorem dz_in_10 : decode cz_in 10 = .ok (.ifCond .gt 7, 3) := by decide +kernel
theorem dz_in_13 : decode cz_in 13 = .ok (.iconst 1, 1) := by decide +kernel
theorem dz_in_14 : decode cz_in 14 = .ok (.goto 4, 3) := by decide +kernel
theorem dz_in_17 : decode cz_in 17 = .ok (.iconst 0, 1) := by decide +kernel
theorem dz_in_18 : decode cz_in 18 = .ok (.ireturn, 1) := by decide +kernel
theorem dz_fits_0 : decode cz_fits 0 = .ok (.lload_n 0, 1) := by decide +kernel
theorem dz_fits_1 : decode cz_fits 1 = .ok (.ldc2_w 3, 3) := by decide +kernel
theorem dz_fits_4 : decode cz_fits 4 = .ok (.lcmp, 1) := by decide +kernel
theorem dz_fits_5 : decode cz_fits 5 = .ok (.ifCond .lt 15, 3) := by decide +kernel
theorem dz_fits_8 : decode cz_fits 8 = .ok (.lload_n 0, 1) := by decide +kernel
theorem dz_fits_9 : decode cz_fits 9 = .ok (.ldc2_w 5, 3) := by decide +kernel
theorem dz_fits_12 : decode cz_fits 12 = .ok (.lcmp, 1) := by decide +kernel
theorem dz_fits_13 : decode cz_fits 13 = .ok (.ifCond .gt 7, 3) := by decide +kernel
theorem dz_fits_16 : decode cz_fits 16 = .ok (.iconst 1, 1) := by decide +kernel
theorem dz_fits_17 : decode cz_fits 17 = .ok (.goto 4, 3) := by decide +kernel
theorem dz_fits_20 : decode cz_fits 20 = .ok (.iconst 0, 1) := by decide +kernel
theorem dz_fits_21 : decode cz_fits 21 = .ok (.ireturn, 1) := by decide +kernel
theorem dz_signed_0 : decode cz_signed 0 = .ok (.lload_n 0, 1) := by decide +kernel
theorem dz_signed_1 : decode cz_signed 1 = .ok (.bipush 35, 2) := by decide +kernel
theorem dz_signed_3 : decode cz_signed 3 = .ok (.lshr, 1) := by decide +kernel
theorem dz_signed_4 : decode cz_signed 4 = .ok (.lconst 1, 1) := by decide +kernel
theorem dz_signed_5 : decode cz_signed 5 = .ok (.lcmp, 1) := by decide +kernel
theorem dz_signed_6 : decode cz_signed 6 = .ok (.ifCond .ne 13, 3) := by decide +kernel
theorem dz_signed_9 : decode cz_signed 9 = .ok (.lload_n 0, 1) := by decide +kernel
theorem dz_signed_10 : decode cz_signed 10 = .ok (.ldc2_w 7, 3) := by decide +kernel
theorem dz_signed_13 : decode cz_signed 13 = .ok (.lsub, 1) := by decide +kernel
theorem dz_signed_14 : decode cz_signed 14 = .ok (.lconst 1, 1) := by decide +kernel
theorem dz_signed_15 : decode cz_signed 15 = .ok (.lsub, 1) := by decide +kernel
theorem dz_signed_16 : decode cz_signed 16 = .ok (.goto 4, 3) := by decide +kernel
theorem dz_signed_19 : decode cz_signed 19 = .ok (.lload_n 0, 1) := by decide +kernel
theorem dz_signed_20 : decode cz_signed 20 = .ok (.lreturn, 1) := by decide +kernel
theorem dz_left_0 : decode cz_left 0 = .ok (.lload_n 0, 1) := by decide +kernel
theorem dz_left_1 : decode cz_left 1 = .ok (.bipush 18, 2) := by decide +kernel
theorem dz_left_3 : decode cz_left 3 = .ok (.lshr, 1) := by decide +kernel
theorem dz_left_4 : decode cz_left 4 = .ok (.l2i, 1) := by decide +kernel
theorem dz_left_5 : decode cz_left 5 = .ok (.ldc 9, 2) := by decide +kernel
theorem dz_left_7 : decode cz_left 7 = .ok (.iand, 1) := by decide +kernel
theorem dz_left_8 : decode cz_left 8 = .ok (.ireturn, 1) := by decide +kernel
theorem dz_right_0 : decode cz_right 0 = .ok (.lload_n 0, 1) := by decide +kernel
theorem dz_right_1 : decode cz_right 1 = .ok (.l2i, 1) := by decide +kernel
theorem dz_right_2 : decode cz_right 2 = .ok (.ldc 9, 2) := by decide +kernel
theorem dz_right_4 : decode cz_right 4 = .ok (.iand, 1) := by decide +kernel
theorem dz_right_5 : decode cz_right 5 = .ok (.ireturn, 1) := by decide +kernel
theorem dz_halves_0 : decode cz_halves 0 = .ok (.iload_n 0, 1) := by decide +kernel
theorem dz_halves_1 : decode cz_halves 1 = .ok (.ldc 9, 2) := by decide +kernel
theorem dz_halves_3 : decode cz_halves 3 = .ok (.iand, 1) := by decide +kernel
theorem dz_halves_4 : decode cz_halves 4 = .ok (.i2l, 1) := by decide +kernel
theorem dz_halves_5 : decode cz_halves 5 = .ok (.bipush 18, 2) := by decide +kernel
theorem dz_halves_7 : decode cz_halves 7 = .ok (.lshl, 1) := by decide +kernel
theorem dz_halves_8 : decode cz_halves 8 = .ok (.iload_n 1, 1) := by decide +kernel
theorem dz_halves_9 : decode cz_halves 9 = .ok (.ldc 9, 2) := by decide +kernel
theorem dz_halves_11 : decode cz_halves 11 = .ok (.iand, 1) := by decide +kernel
theorem dz_halves_12 : decode cz_halves 12 = .ok (.i2l, 1) := by decide +kernel
theorem dz_halves_13 : decode cz_halves 13 = .ok (.lor, 1) := by decide +kernel
theorem dz_halves_14 : decode cz_halves 14 = .ok (.lreturn, 1) := by decide +kernel
theorem dz_opposite_0 : decode cz_opposite 0 = .ok (.lload_n 0, 1) := by decide +kernel
theorem dz_opposite_1 : decode cz_opposite 1 = .ok (.invokestatic 10, 3) := by decide +kernel
theorem dz_opposite_4 : decode cz_opposite 4 = .ok (.lload_n 0, 1) := by decide +kernel
theorem dz_opposite_5 : decode cz_opposite 5 = .ok (.invokestatic 14, 3) := by decide +kernel
theorem dz_opposite_8 : decode cz_opposite 8 = .ok (.invokestatic 17, 3) := by decide +kernel
theorem dz_opposite_11 : decode cz_opposite 11 = .ok (.lreturn, 1) := by decide +kernel
theorem dz_go_0 : decode cz_go 0 = .ok (.iload_n 1, 1) := by decide +kernel
theorem dz_go_1 : decode cz_go 1 = .ok (.i2l, 1) := by decide +kernel
theorem dz_go_2 : decode cz_go 2 = .ok (.lconst 0, 1) := by decide +kernel
theorem dz_go_3 : decode cz_go 3 = .ok (.ldc2_w 21, 3) := by decide +kernel
theorem dz_go_6 : decode cz_go 6 = .ok (.invokestatic 23, 3) := by decide +kernel
theorem dz_go_9 : decode cz_go 9 = .ok (.ifCond .eq 15, 3) := by decide +kernel
theorem dz_go_12 : decode cz_go 12 = .ok (.iload_n 2, 1) := by decide +kernel
theorem dz_go_13 : decode cz_go 13 = .ok (.i2l, 1) := by decide +kernel
theorem dz_go_14 : decode cz_go 14 = .ok (.lconst 0, 1) := by decide +kernel
theorem dz_go_15 : decode cz_go 15 = .ok (.ldc2_w 27, 3) := by decide +kernel
theorem dz_go_18 : decode cz_go 18 = .ok (.invokestatic 23, 3) := by decide +kernel
theorem dz_go_21 : decode cz_go 21 = .ok (.ifCond .ne 5, 3) := by decide +kernel
theorem dz_go_24 : decode cz_go 24 = .ok (.iconst (-1), 1) := by decide +kernel
theorem dz_go_25 : decode cz_go 25 = .ok (.ireturn, 1) := by decide +kernel
theorem dz_go_26 : decode cz_go 26 = .ok (.aload_n 0, 1) := by decide +kernel
theorem dz_go_27 : decode cz_go 27 = .ok (.iload_n 1, 1) := by decide +kernel
theorem dz_go_28 : decode cz_go 28 = .ok (.putfield 29, 3) := by decide +kernel
theorem dz_go_31 : decode cz_go 31 = .ok (.iload_n 3, 1) := by decide +kernel
theorem dz_go_32 : decode cz_go 32 = .ok (.ifCond .eq 8, 3) := by decide +kernel
theorem dz_go_35 : decode cz_go 35 = .ok (.aload_n 0, 1) := by decide +kernel
theorem dz_go_36 : decode cz_go 36 = .ok (.iconst 0, 1) := by decide +kernel
theorem dz_go_37 : decode cz_go 37 = .ok (.putfield 33, 3) := by decide +kernel
theorem dz_go_40 : decode cz_go 40 = .ok (.aload_n 0, 1) := by decide +kernel
theorem dz_go_41 : decode cz_go 41 = .ok (.iconst 0, 1) := by decide +kernel
theorem dz_go_42 : decode cz_go 42 = .ok (.putfield 37, 3) := by decide +kernel
theorem dz_go_45 : decode cz_go 45 = .ok (.iconst 0, 1) := by decide +kernel
theorem dz_go_46 : decode cz_go 46 = .ok (.istore 4, 2) := by decide +kernel
theorem dz_go_48 : decode cz_go 48 = .ok (.iload 4, 2) := by decide +kernel
theorem dz_go_50 : decode cz_go 50 = .ok (.iload_n 2, 1) := by decide +kernel
theorem dz_go_51 : decode cz_go 51 = .ok (.if_icmp .ge 49, 3) := by decide +kernel
theorem dz_go_54 : decode cz_go 54 = .ok (.aload_n 0, 1) := by decide +kernel
theorem dz_go_55 : decode cz_go 55 = .ok (.invokevirtual 40, 3) := by decide +kernel
theorem dz_go_58 : decode cz_go 58 = .ok (.istore 5, 2) := by decide +kernel
theorem dz_go_60 : decode cz_go 60 = .ok (.iload 5, 2) := by decide +kernel
theorem dz_go_62 : decode cz_go 62 = .ok (.iconst 2, 1) := by decide +kernel
theorem dz_go_63 : decode cz_go 63 = .ok (.if_icmp .ne 5, 3) := by decide +kernel
theorem dz_go_66 : decode cz_go 66 = .ok (.iconst 2, 1) := by decide +kernel
theorem dz_go_67 : decode cz_go 67 = .ok (.ireturn, 1) := by decide +kernel
theorem dz_go_68 : decode cz_go 68 = .ok (.aload_n 0, 1) := by decide +kernel
theorem dz_go_69 : decode cz_go 69 = .ok (.dup, 1) := by decide +kernel
theorem dz_go_70 : decode cz_go 70 = .ok (.getfield 37, 3) := by decide +kernel
theorem dz_go_73 : decode cz_go 73 = .ok (.iconst 1, 1) := by decide +kernel
theorem dz_go_74 : decode cz_go 74 = .ok (.iadd, 1) := by decide +kernel
theorem dz_go_75 : decode cz_go 75 = .ok (.putfield 37, 3) := by decide +kernel
theorem dz_go_78 : decode cz_go 78 = .ok (.aload_n 0, 1) := by decide +kernel
theorem dz_go_79 : decode cz_go 79 = .ok (.aload_n 0, 1) := by decide +kernel
theorem dz_go_80 : decode cz_go 80 = .ok (.getfield 44, 3) := by decide +kernel
theorem dz_go_83 : decode cz_go 83 = .ok (.putfield 29, 3) := by decide +kernel
theorem dz_go_86 : decode cz_go 86 = .ok (.iload 5, 2) := by decide +kernel
theorem dz_go_88 : decode cz_go 88 = .ok (.iconst 1, 1) := by decide +kernel
theorem dz_go_89 : decode cz_go 89 = .ok (.if_icmp .ne 5, 3) := by decide +kernel
theorem dz_go_92 : decode cz_go 92 = .ok (.iconst 1, 1) := by decide +kernel
theorem dz_go_93 : decode cz_go 93 = .ok (.ireturn, 1) := by decide +kernel
theorem dz_go_94 : decode cz_go 94 = .ok (.iinc 4 1, 3) := by decide +kernel
theorem dz_go_97 : decode cz_go 97 = .ok (.goto (-49), 3) := by decide +kernel
theorem dz_go_100 : decode cz_go 100 = .ok (.iconst 0, 1) := by decide +kernel
theorem dz_go_101 : decode cz_go 101 = .ok (.ireturn, 1) := by decide +kernel
theorem dz_address_0 : decode cz_address 0 = .ok (.lload_n 1, 1) := by decide +kernel
theorem dz_address_1 : decode cz_address 1 = .ok (.lstore_n 3, 1) := by decide +kernel
theorem dz_address_2 : decode cz_address 2 = .ok (.iconst 0, 1) := by decide +kernel
theorem dz_address_3 : decode cz_address 3 = .ok (.istore 5, 2) := by decide +kernel
theorem dz_address_5 : decode cz_address 5 = .ok (.iload 5, 2) := by decide +kernel
theorem dz_address_7 : decode cz_address 7 = .ok (.bipush 8, 2) := by decide +kernel
theorem dz_address_9 : decode cz_address 9 = .ok (.if_icmp .gt 80, 3) := by decide +kernel
theorem dz_address_12 : decode cz_address 12 = .ok (.lload_n 3, 1) := by decide +kernel
theorem dz_address_13 : decode cz_address 13 = .ok (.bipush 18, 2) := by decide +kernel
theorem dz_address_15 : decode cz_address 15 = .ok (.lshr, 1) := by decide +kernel
theorem dz_address_16 : decode cz_address 16 = .ok (.l2i, 1) := by decide +kernel
theorem dz_address_17 : decode cz_address 17 = .ok (.bipush 15, 2) := by decide +kernel
theorem dz_address_19 : decode cz_address 19 = .ok (.iand, 1) := by decide +kernel
theorem dz_address_20 : decode cz_address 20 = .ok (.istore 6, 2) := by decide +kernel
theorem dz_address_22 : decode cz_address 22 = .ok (.lload_n 3, 1) := by decide +kernel
theorem dz_address_23 : decode cz_address 23 = .ok (.invokestatic 10, 3) := by decide +kernel
theorem dz_address_26 : decode cz_address 26 = .ok (.istore 7, 2) := by decide +kernel
theorem dz_address_28 : decode cz_address 28 = .ok (.iload 6, 2) := by decide +kernel
theorem dz_address_30 : decode cz_address 30 = .ok (.ifCond .le 21, 3) := by decide +kernel
theorem dz_address_33 : decode cz_address 33 = .ok (.iload 7, 2) := by decide +kernel
theorem dz_address_35 : decode cz_address 35 = .ok (.aload_n 0, 1) := by decide +kernel
theorem dz_address_36 : decode cz_address 36 = .ok (.getfield 47, 3) := by decide +kernel
theorem dz_address_39 : decode cz_address 39 = .ok (.iload 6, 2) := by decide +kernel
theorem dz_address_41 : decode cz_address 41 = .ok (.laload, 1) := by decide +kernel
theorem dz_address_42 : decode cz_address 42 = .ok (.invokestatic 10, 3) := by decide +kernel
theorem dz_address_45 : decode cz_address 45 = .ok (.iadd, 1) := by decide +kernel
theorem dz_address_46 : decode cz_address 46 = .ok (.ldc 9, 2) := by decide +kernel
theorem dz_address_48 : decode cz_address 48 = .ok (.iand, 1) := by decide +kernel
theorem dz_address_49 : decode cz_address 49 = .ok (.istore 7, 2) := by decide +kernel
theorem dz_address_51 : decode cz_address 51 = .ok (.lload_n 3, 1) := by decide +kernel
theorem dz_address_52 : decode cz_address 52 = .ok (.bipush 22, 2) := by decide +kernel
theorem dz_address_54 : decode cz_address 54 = .ok (.lshr, 1) := by decide +kernel
theorem dz_address_55 : decode cz_address 55 = .ok (.lconst 1, 1) := by decide +kernel
theorem dz_address_56 : decode cz_address 56 = .ok (.land, 1) := by decide +kernel
theorem dz_address_57 : decode cz_address 57 = .ok (.lconst 0, 1) := by decide +kernel
theorem dz_address_58 : decode cz_address 58 = .ok (.lcmp, 1) := by decide +kernel
theorem dz_address_59 : decode cz_address 59 = .ok (.ifCond .ne 6, 3) := by decide +kernel
theorem dz_address_62 : decode cz_address 62 = .ok (.iload 7, 2) := by decide +kernel
theorem dz_address_64 : decode cz_address 64 = .ok (.ireturn, 1) := by decide +kernel
theorem dz_address_65 : decode cz_address 65 = .ok (.iload 7, 2) := by decide +kernel
theorem dz_address_67 : decode cz_address 67 = .ok (.sipush 4096, 3) := by decide +kernel
theorem dz_address_70 : decode cz_address 70 = .ok (.if_icmp .lt 5, 3) := by decide +kernel
theorem dz_address_73 : decode cz_address 73 = .ok (.iconst (-1), 1) := by decide +kernel
theorem dz_address_74 : decode cz_address 74 = .ok (.ireturn, 1) := by decide +kernel
theorem dz_address_75 : decode cz_address 75 = .ok (.aload_n 0, 1) := by decide +kernel
theorem dz_address_76 : decode cz_address 76 = .ok (.getfield 47, 3) := by decide +kernel
theorem dz_address_79 : decode cz_address 79 = .ok (.iload 7, 2) := by decide +kernel
theorem dz_address_81 : decode cz_address 81 = .ok (.laload, 1) := by decide +kernel
theorem dz_address_82 : decode cz_address 82 = .ok (.lstore_n 3, 1) := by decide +kernel
theorem dz_address_83 : decode cz_address 83 = .ok (.iinc 5 1, 3) := by decide +kernel
theorem dz_address_86 : decode cz_address 86 = .ok (.goto (-81), 3) := by decide +kernel
theorem dz_address_89 : decode cz_address 89 = .ok (.iconst (-1), 1) := by decide +kernel
theorem dz_address_90 : decode cz_address 90 = .ok (.ireturn, 1) := by decide +kernel
theorem dz_instruction_0 : decode cz_instruction 0 = .ok (.aload_n 0, 1) := by decide +kernel
theorem dz_instruction_1 : decode cz_instruction 1 = .ok (.getfield 29, 3) := by decide +kernel
theorem dz_instruction_4 : decode cz_instruction 4 = .ok (.sipush 4096, 3) := by decide +kernel
theorem dz_instruction_7 : decode cz_instruction 7 = .ok (.if_icmp .lt 5, 3) := by decide +kernel
theorem dz_instruction_10 : decode cz_instruction 10 = .ok (.iconst 2, 1) := by decide +kernel
theorem dz_instruction_11 : decode cz_instruction 11 = .ok (.ireturn, 1) := by decide +kernel
theorem dz_instruction_12 : decode cz_instruction 12 = .ok (.aload_n 0, 1) := by decide +kernel
theorem dz_instruction_13 : decode cz_instruction 13 = .ok (.getfield 47, 3) := by decide +kernel
theorem dz_instruction_16 : decode cz_instruction 16 = .ok (.aload_n 0, 1) := by decide +kernel
theorem dz_instruction_17 : decode cz_instruction 17 = .ok (.getfield 29, 3) := by decide +kernel
theorem dz_instruction_20 : decode cz_instruction 20 = .ok (.laload, 1) := by decide +kernel
theorem dz_instruction_21 : decode cz_instruction 21 = .ok (.lstore_n 1, 1) := by decide +kernel
theorem dz_instruction_22 : decode cz_instruction 22 = .ok (.aload_n 0, 1) := by decide +kernel
theorem dz_instruction_23 : decode cz_instruction 23 = .ok (.aload_n 0, 1) := by decide +kernel
theorem dz_instruction_24 : decode cz_instruction 24 = .ok (.getfield 29, 3) := by decide +kernel
theorem dz_instruction_27 : decode cz_instruction 27 = .ok (.iconst 1, 1) := by decide +kernel
theorem dz_instruction_28 : decode cz_instruction 28 = .ok (.iadd, 1) := by decide +kernel
theorem dz_instruction_29 : decode cz_instruction 29 = .ok (.putfield 44, 3) := by decide +kernel
theorem dz_instruction_32 : decode cz_instruction 32 = .ok (.iconst 0, 1) := by decide +kernel
theorem dz_instruction_33 : decode cz_instruction 33 = .ok (.istore_n 3, 1) := by decide +kernel
theorem dz_instruction_34 : decode cz_instruction 34 = .ok (.iload_n 3, 1) := by decide +kernel
theorem dz_instruction_35 : decode cz_instruction 35 = .ok (.bipush 8, 2) := by decide +kernel
theorem dz_instruction_37 : decode cz_instruction 37 = .ok (.if_icmp .gt 77, 3) := by decide +kernel
theorem dz_instruction_40 : decode cz_instruction 40 = .ok (.aload_n 0, 1) := by decide +kernel
theorem dz_instruction_41 : decode cz_instruction 41 = .ok (.lload_n 1, 1) := by decide +kernel
theorem dz_instruction_42 : decode cz_instruction 42 = .ok (.invokevirtual 51, 3) := by decide +kernel
theorem dz_instruction_45 : decode cz_instruction 45 = .ok (.istore 4, 2) := by decide +kernel
theorem dz_instruction_47 : decode cz_instruction 47 = .ok (.lload_n 1, 1) := by decide +kernel
theorem dz_instruction_48 : decode cz_instruction 48 = .ok (.bipush 27, 2) := by decide +kernel
theorem dz_instruction_50 : decode cz_instruction 50 = .ok (.lshr, 1) := by decide +kernel
theorem dz_instruction_51 : decode cz_instruction 51 = .ok (.l2i, 1) := by decide +kernel
theorem dz_instruction_52 : decode cz_instruction 52 = .ok (.istore 5, 2) := by decide +kernel
theorem dz_instruction_54 : decode cz_instruction 54 = .ok (.lload_n 1, 1) := by decide +kernel
theorem dz_instruction_55 : decode cz_instruction 55 = .ok (.bipush 23, 2) := by decide +kernel
theorem dz_instruction_57 : decode cz_instruction 57 = .ok (.lshr, 1) := by decide +kernel
theorem dz_instruction_58 : decode cz_instruction 58 = .ok (.l2i, 1) := by decide +kernel
theorem dz_instruction_59 : decode cz_instruction 59 = .ok (.bipush 15, 2) := by decide +kernel
theorem dz_instruction_61 : decode cz_instruction 61 = .ok (.iand, 1) := by decide +kernel
theorem dz_instruction_62 : decode cz_instruction 62 = .ok (.istore 6, 2) := by decide +kernel
theorem dz_instruction_64 : decode cz_instruction 64 = .ok (.iload 4, 2) := by decide +kernel
theorem dz_instruction_66 : decode cz_instruction 66 = .ok (.ifCond .ge 5, 3) := by decide +kernel
theorem dz_instruction_69 : decode cz_instruction 69 = .ok (.iconst 2, 1) := by decide +kernel
theorem dz_instruction_70 : decode cz_instruction 70 = .ok (.ireturn, 1) := by decide +kernel
theorem dz_instruction_71 : decode cz_instruction 71 = .ok (.iload 5, 2) := by decide +kernel
theorem dz_instruction_73 : decode cz_instruction 73 = .ok (.sipush 174, 3) := by decide +kernel
theorem dz_instruction_76 : decode cz_instruction 76 = .ok (.if_icmp .eq 14, 3) := by decide +kernel
theorem dz_instruction_79 : decode cz_instruction 79 = .ok (.aload_n 0, 1) := by decide +kernel
theorem dz_instruction_80 : decode cz_instruction 80 = .ok (.iload 5, 2) := by decide +kernel
theorem dz_instruction_82 : decode cz_instruction 82 = .ok (.iload 6, 2) := by decide +kernel
theorem dz_instruction_84 : decode cz_instruction 84 = .ok (.iload 4, 2) := by decide +kernel
theorem dz_instruction_86 : decode cz_instruction 86 = .ok (.invokevirtual 54, 3) := by decide +kernel
theorem dz_instruction_89 : decode cz_instruction 89 = .ok (.ireturn, 1) := by decide +kernel
theorem dz_instruction_90 : decode cz_instruction 90 = .ok (.iload 4, 2) := by decide +kernel
theorem dz_instruction_92 : decode cz_instruction 92 = .ok (.sipush 4096, 3) := by decide +kernel
theorem dz_instruction_95 : decode cz_instruction 95 = .ok (.if_icmp .lt 5, 3) := by decide +kernel
theorem dz_instruction_98 : decode cz_instruction 98 = .ok (.iconst 2, 1) := by decide +kernel
theorem dz_instruction_99 : decode cz_instruction 99 = .ok (.ireturn, 1) := by decide +kernel
theorem dz_instruction_100 : decode cz_instruction 100 = .ok (.aload_n 0, 1) := by decide +kernel
theorem dz_instruction_101 : decode cz_instruction 101 = .ok (.getfield 47, 3) := by decide +kernel
theorem dz_instruction_104 : decode cz_instruction 104 = .ok (.iload 4, 2) := by decide +kernel
theorem dz_instruction_106 : decode cz_instruction 106 = .ok (.laload, 1) := by decide +kernel
theorem dz_instruction_107 : decode cz_instruction 107 = .ok (.lstore_n 1, 1) := by decide +kernel
theorem dz_instruction_108 : decode cz_instruction 108 = .ok (.iinc 3 1, 3) := by decide +kernel
theorem dz_instruction_111 : decode cz_instruction 111 = .ok (.goto (-77), 3) := by decide +kernel
theorem dz_instruction_114 : decode cz_instruction 114 = .ok (.iconst 2, 1) := by decide +kernel
theorem dz_instruction_115 : decode cz_instruction 115 = .ok (.ireturn, 1) := by decide +kernel
theorem dz_isGone_0 : decode cz_isGone 0 = .ok (.iload_n 0, 1) := by decide +kernel
theorem dz_isGone_1 : decode cz_isGone 1 = .ok (.sipush 4096, 3) := by decide +kernel
theorem dz_isGone_4 : decode cz_isGone 4 = .ok (.if_icmp .lt 7, 3) := by decide +kernel
theorem dz_isGone_7 : decode cz_isGone 7 = .ok (.iconst 1, 1) := by decide +kernel
theorem dz_isGone_8 : decode cz_isGone 8 = .ok (.goto 4, 3) := by decide +kernel
theorem dz_isGone_11 : decode cz_isGone 11 = .ok (.iconst 0, 1) := by decide +kernel
theorem dz_isGone_12 : decode cz_isGone 12 = .ok (.ireturn, 1) := by decide +kernel
theorem dz_perform_0 : decode cz_perform 0 = .ok (.iload_n 1, 1) := by decide +kernel
theorem dz_perform_1 : decode cz_perform 1 = .ok (.iconst 3, 1) := by decide +kernel
theorem dz_perform_2 : decode cz_perform 2 = .ok (.iand, 1) := by decide +kernel
theorem dz_perform_3 : decode cz_perform 3 = .ok (.istore 4, 2) := by decide +kernel
theorem dz_perform_5 : decode cz_perform 5 = .ok (.iload_n 1, 1) := by decide +kernel
theorem dz_perform_6 : decode cz_perform 6 = .ok (.i2l, 1) := by decide +kernel
theorem dz_perform_7 : decode cz_perform 7 = .ok (.ldc2_w 58, 3) := by decide +kernel
theorem dz_perform_10 : decode cz_perform 10 = .ok (.ldc2_w 60, 3) := by decide +kernel
theorem dz_perform_13 : decode cz_perform 13 = .ok (.invokestatic 23, 3) := by decide +kernel
theorem dz_perform_16 : decode cz_perform 16 = .ok (.ifCond .eq 17, 3) := by decide +kernel
theorem dz_perform_19 : decode cz_perform 19 = .ok (.aload_n 0, 1) := by decide +kernel
theorem dz_perform_20 : decode cz_perform 20 = .ok (.iload_n 1, 1) := by decide +kernel
theorem dz_perform_21 : decode cz_perform 21 = .ok (.iconst 2, 1) := by decide +kernel
theorem dz_perform_22 : decode cz_perform 22 = .ok (.ishr, 1) := by decide +kernel
theorem dz_perform_23 : decode cz_perform 23 = .ok (.iconst 3, 1) := by decide +kernel
theorem dz_perform_24 : decode cz_perform 24 = .ok (.iand, 1) := by decide +kernel
theorem dz_perform_25 : decode cz_perform 25 = .ok (.iload 4, 2) := by decide +kernel
theorem dz_perform_27 : decode cz_perform 27 = .ok (.iload_n 2, 1) := by decide +kernel
theorem dz_perform_28 : decode cz_perform 28 = .ok (.iload_n 3, 1) := by decide +kernel
theorem dz_perform_29 : decode cz_perform 29 = .ok (.invokevirtual 62, 3) := by decide +kernel
theorem dz_perform_32 : decode cz_perform 32 = .ok (.ireturn, 1) := by decide +kernel
theorem dz_perform_33 : decode cz_perform 33 = .ok (.iload_n 1, 1) := by decide +kernel
theorem dz_perform_34 : decode cz_perform 34 = .ok (.i2l, 1) := by decide +kernel
theorem dz_perform_35 : decode cz_perform 35 = .ok (.ldc2_w 66, 3) := by decide +kernel
theorem dz_perform_38 : decode cz_perform 38 = .ok (.ldc2_w 68, 3) := by decide +kernel
theorem dz_perform_41 : decode cz_perform 41 = .ok (.invokestatic 23, 3) := by decide +kernel
theorem dz_perform_44 : decode cz_perform 44 = .ok (.ifCond .ne 31, 3) := by decide +kernel
theorem dz_perform_47 : decode cz_perform 47 = .ok (.iload_n 1, 1) := by decide +kernel
theorem dz_perform_48 : decode cz_perform 48 = .ok (.i2l, 1) := by decide +kernel
theorem dz_perform_49 : decode cz_perform 49 = .ok (.ldc2_w 70, 3) := by decide +kernel
theorem dz_perform_52 : decode cz_perform 52 = .ok (.ldc2_w 72, 3) := by decide +kernel
theorem dz_perform_55 : decode cz_perform 55 = .ok (.invokestatic 23, 3) := by decide +kernel
theorem dz_perform_58 : decode cz_perform 58 = .ok (.ifCond .ne 17, 3) := by decide +kernel
theorem dz_perform_61 : decode cz_perform 61 = .ok (.iload_n 1, 1) := by decide +kernel
theorem dz_perform_62 : decode cz_perform 62 = .ok (.i2l, 1) := by decide +kernel
theorem dz_perform_63 : decode cz_perform 63 = .ok (.ldc2_w 74, 3) := by decide +kernel
theorem dz_perform_66 : decode cz_perform 66 = .ok (.ldc2_w 76, 3) := by decide +kernel
theorem dz_perform_69 : decode cz_perform 69 = .ok (.invokestatic 23, 3) := by decide +kernel
theorem dz_perform_72 : decode cz_perform 72 = .ok (.ifCond .eq 15, 3) := by decide +kernel
theorem dz_perform_75 : decode cz_perform 75 = .ok (.aload_n 0, 1) := by decide +kernel
theorem dz_perform_76 : decode cz_perform 76 = .ok (.iload_n 1, 1) := by decide +kernel
theorem dz_perform_77 : decode cz_perform 77 = .ok (.iconst 2, 1) := by decide +kernel
theorem dz_perform_78 : decode cz_perform 78 = .ok (.ishr, 1) := by decide +kernel
theorem dz_perform_79 : decode cz_perform 79 = .ok (.iload 4, 2) := by decide +kernel
theorem dz_perform_81 : decode cz_perform 81 = .ok (.iload_n 2, 1) := by decide +kernel
theorem dz_perform_82 : decode cz_perform 82 = .ok (.iload_n 3, 1) := by decide +kernel
theorem dz_perform_83 : decode cz_perform 83 = .ok (.invokevirtual 78, 3) := by decide +kernel
theorem dz_perform_86 : decode cz_perform 86 = .ok (.ireturn, 1) := by decide +kernel
theorem dz_perform_87 : decode cz_perform 87 = .ok (.iload_n 1, 1) := by decide +kernel
theorem dz_perform_88 : decode cz_perform 88 = .ok (.i2l, 1) := by decide +kernel
theorem dz_perform_89 : decode cz_perform 89 = .ok (.ldc2_w 81, 3) := by decide +kernel
theorem dz_perform_92 : decode cz_perform 92 = .ok (.ldc2_w 83, 3) := by decide +kernel
theorem dz_perform_95 : decode cz_perform 95 = .ok (.invokestatic 23, 3) := by decide +kernel
theorem dz_perform_98 : decode cz_perform 98 = .ok (.ifCond .eq 18, 3) := by decide +kernel
theorem dz_perform_101 : decode cz_perform 101 = .ok (.aload_n 0, 1) := by decide +kernel
theorem dz_perform_102 : decode cz_perform 102 = .ok (.iload_n 1, 1) := by decide +kernel
theorem dz_perform_103 : decode cz_perform 103 = .ok (.iconst 2, 1) := by decide +kernel
theorem dz_perform_104 : decode cz_perform 104 = .ok (.ishr, 1) := by decide +kernel
theorem dz_perform_105 : decode cz_perform 105 = .ok (.bipush 15, 2) := by decide +kernel
theorem dz_perform_107 : decode cz_perform 107 = .ok (.iand, 1) := by decide +kernel
theorem dz_perform_108 : decode cz_perform 108 = .ok (.iload 4, 2) := by decide +kernel
theorem dz_perform_110 : decode cz_perform 110 = .ok (.iload_n 2, 1) := by decide +kernel
theorem dz_perform_111 : decode cz_perform 111 = .ok (.iload_n 3, 1) := by decide +kernel
theorem dz_perform_112 : decode cz_perform 112 = .ok (.invokevirtual 85, 3) := by decide +kernel
theorem dz_perform_115 : decode cz_perform 115 = .ok (.ireturn, 1) := by decide +kernel
theorem dz_perform_116 : decode cz_perform 116 = .ok (.iload_n 1, 1) := by decide +kernel
theorem dz_perform_117 : decode cz_perform 117 = .ok (.i2l, 1) := by decide +kernel
theorem dz_perform_118 : decode cz_perform 118 = .ok (.ldc2_w 88, 3) := by decide +kernel
theorem dz_perform_121 : decode cz_perform 121 = .ok (.ldc2_w 90, 3) := by decide +kernel
theorem dz_perform_124 : decode cz_perform 124 = .ok (.invokestatic 23, 3) := by decide +kernel
theorem dz_perform_127 : decode cz_perform 127 = .ok (.ifCond .eq 15, 3) := by decide +kernel
theorem dz_perform_130 : decode cz_perform 130 = .ok (.aload_n 0, 1) := by decide +kernel
theorem dz_perform_131 : decode cz_perform 131 = .ok (.iload_n 1, 1) := by decide +kernel
theorem dz_perform_132 : decode cz_perform 132 = .ok (.sipush 320, 3) := by decide +kernel
theorem dz_perform_135 : decode cz_perform 135 = .ok (.isub, 1) := by decide +kernel
theorem dz_perform_136 : decode cz_perform 136 = .ok (.iload_n 2, 1) := by decide +kernel
theorem dz_perform_137 : decode cz_perform 137 = .ok (.iload_n 3, 1) := by decide +kernel
theorem dz_perform_138 : decode cz_perform 138 = .ok (.invokevirtual 92, 3) := by decide +kernel
theorem dz_perform_141 : decode cz_perform 141 = .ok (.ireturn, 1) := by decide +kernel
theorem dz_perform_142 : decode cz_perform 142 = .ok (.iload_n 1, 1) := by decide +kernel
theorem dz_perform_143 : decode cz_perform 143 = .ok (.i2l, 1) := by decide +kernel
theorem dz_perform_144 : decode cz_perform 144 = .ok (.ldc2_w 95, 3) := by decide +kernel
theorem dz_perform_147 : decode cz_perform 147 = .ok (.ldc2_w 97, 3) := by decide +kernel
theorem dz_perform_150 : decode cz_perform 150 = .ok (.invokestatic 23, 3) := by decide +kernel
theorem dz_perform_153 : decode cz_perform 153 = .ok (.ifCond .eq 15, 3) := by decide +kernel
theorem dz_perform_156 : decode cz_perform 156 = .ok (.aload_n 0, 1) := by decide +kernel
theorem dz_perform_157 : decode cz_perform 157 = .ok (.iload_n 1, 1) := by decide +kernel
theorem dz_perform_158 : decode cz_perform 158 = .ok (.sipush 384, 3) := by decide +kernel
theorem dz_perform_161 : decode cz_perform 161 = .ok (.isub, 1) := by decide +kernel
theorem dz_perform_162 : decode cz_perform 162 = .ok (.iload_n 2, 1) := by decide +kernel
theorem dz_perform_163 : decode cz_perform 163 = .ok (.iload_n 3, 1) := by decide +kernel
theorem dz_perform_164 : decode cz_perform 164 = .ok (.invokevirtual 99, 3) := by decide +kernel
theorem dz_perform_167 : decode cz_perform 167 = .ok (.ireturn, 1) := by decide +kernel
theorem dz_perform_168 : decode cz_perform 168 = .ok (.iload_n 1, 1) := by decide +kernel
theorem dz_perform_169 : decode cz_perform 169 = .ok (.i2l, 1) := by decide +kernel
theorem dz_perform_170 : decode cz_perform 170 = .ok (.ldc2_w 102, 3) := by decide +kernel
theorem dz_perform_173 : decode cz_perform 173 = .ok (.ldc2_w 104, 3) := by decide +kernel
theorem dz_perform_176 : decode cz_perform 176 = .ok (.invokestatic 23, 3) := by decide +kernel
theorem dz_perform_179 : decode cz_perform 179 = .ok (.ifCond .eq 21, 3) := by decide +kernel
theorem dz_perform_182 : decode cz_perform 182 = .ok (.aload_n 0, 1) := by decide +kernel
theorem dz_perform_183 : decode cz_perform 183 = .ok (.iload_n 1, 1) := by decide +kernel
theorem dz_perform_184 : decode cz_perform 184 = .ok (.sipush 192, 3) := by decide +kernel
theorem dz_perform_187 : decode cz_perform 187 = .ok (.isub, 1) := by decide +kernel
theorem dz_perform_188 : decode cz_perform 188 = .ok (.iconst 3, 1) := by decide +kernel
theorem dz_perform_189 : decode cz_perform 189 = .ok (.ishr, 1) := by decide +kernel
theorem dz_perform_190 : decode cz_perform 190 = .ok (.iload_n 1, 1) := by decide +kernel
theorem dz_perform_191 : decode cz_perform 191 = .ok (.bipush 7, 2) := by decide +kernel
theorem dz_perform_193 : decode cz_perform 193 = .ok (.iand, 1) := by decide +kernel
theorem dz_perform_194 : decode cz_perform 194 = .ok (.iload_n 2, 1) := by decide +kernel
theorem dz_perform_195 : decode cz_perform 195 = .ok (.iload_n 3, 1) := by decide +kernel
theorem dz_perform_196 : decode cz_perform 196 = .ok (.invokevirtual 106, 3) := by decide +kernel
theorem dz_perform_199 : decode cz_perform 199 = .ok (.ireturn, 1) := by decide +kernel
theorem dz_perform_200 : decode cz_perform 200 = .ok (.iload_n 1, 1) := by decide +kernel
theorem dz_perform_201 : decode cz_perform 201 = .ok (.i2l, 1) := by decide +kernel
theorem dz_perform_202 : decode cz_perform 202 = .ok (.ldc2_w 109, 3) := by decide +kernel
theorem dz_perform_205 : decode cz_perform 205 = .ok (.ldc2_w 111, 3) := by decide +kernel
theorem dz_perform_208 : decode cz_perform 208 = .ok (.invokestatic 23, 3) := by decide +kernel
theorem dz_perform_211 : decode cz_perform 211 = .ok (.ifCond .eq 15, 3) := by decide +kernel
theorem dz_perform_214 : decode cz_perform 214 = .ok (.aload_n 0, 1) := by decide +kernel
theorem dz_perform_215 : decode cz_perform 215 = .ok (.iload_n 1, 1) := by decide +kernel
theorem dz_perform_216 : decode cz_perform 216 = .ok (.sipush 160, 3) := by decide +kernel
theorem dz_perform_219 : decode cz_perform 219 = .ok (.isub, 1) := by decide +kernel
theorem dz_perform_220 : decode cz_perform 220 = .ok (.iload_n 2, 1) := by decide +kernel
theorem dz_perform_221 : decode cz_perform 221 = .ok (.iload_n 3, 1) := by decide +kernel
theorem dz_perform_222 : decode cz_perform 222 = .ok (.invokevirtual 113, 3) := by decide +kernel
theorem dz_perform_225 : decode cz_perform 225 = .ok (.ireturn, 1) := by decide +kernel
theorem dz_perform_226 : decode cz_perform 226 = .ok (.iload_n 1, 1) := by decide +kernel
theorem dz_perform_227 : decode cz_perform 227 = .ok (.i2l, 1) := by decide +kernel
theorem dz_perform_228 : decode cz_perform 228 = .ok (.ldc2_w 116, 3) := by decide +kernel
theorem dz_perform_231 : decode cz_perform 231 = .ok (.ldc2_w 118, 3) := by decide +kernel
theorem dz_perform_234 : decode cz_perform 234 = .ok (.invokestatic 23, 3) := by decide +kernel
theorem dz_perform_237 : decode cz_perform 237 = .ok (.ifCond .eq 11, 3) := by decide +kernel
theorem dz_perform_240 : decode cz_perform 240 = .ok (.aload_n 0, 1) := by decide +kernel
theorem dz_perform_241 : decode cz_perform 241 = .ok (.iload_n 1, 1) := by decide +kernel
theorem dz_perform_242 : decode cz_perform 242 = .ok (.iload_n 2, 1) := by decide +kernel
theorem dz_perform_243 : decode cz_perform 243 = .ok (.iload_n 3, 1) := by decide +kernel
theorem dz_perform_244 : decode cz_perform 244 = .ok (.invokevirtual 120, 3) := by decide +kernel
theorem dz_perform_247 : decode cz_perform 247 = .ok (.ireturn, 1) := by decide +kernel
theorem dz_perform_248 : decode cz_perform 248 = .ok (.iload_n 1, 1) := by decide +kernel
theorem dz_perform_249 : decode cz_perform 249 = .ok (.i2l, 1) := by decide +kernel
theorem dz_perform_250 : decode cz_perform 250 = .ok (.ldc2_w 123, 3) := by decide +kernel
theorem dz_perform_253 : decode cz_perform 253 = .ok (.ldc2_w 125, 3) := by decide +kernel
theorem dz_perform_256 : decode cz_perform 256 = .ok (.invokestatic 23, 3) := by decide +kernel
theorem dz_perform_259 : decode cz_perform 259 = .ok (.ifCond .eq 13, 3) := by decide +kernel
theorem dz_perform_262 : decode cz_perform 262 = .ok (.aload_n 0, 1) := by decide +kernel
theorem dz_perform_263 : decode cz_perform 263 = .ok (.iload_n 1, 1) := by decide +kernel
theorem dz_perform_264 : decode cz_perform 264 = .ok (.iload_n 2, 1) := by decide +kernel
theorem dz_perform_265 : decode cz_perform 265 = .ok (.iload_n 3, 1) := by decide +kernel
theorem dz_perform_266 : decode cz_perform 266 = .ok (.invokevirtual 127, 3) := by decide +kernel
theorem dz_perform_269 : decode cz_perform 269 = .ok (.goto 4, 3) := by decide +kernel
theorem dz_perform_272 : decode cz_perform 272 = .ok (.iconst 1, 1) := by decide +kernel
theorem dz_perform_273 : decode cz_perform 273 = .ok (.ireturn, 1) := by decide +kernel
theorem dz_turned_0 : decode cz_turned 0 = .ok (.lload_n 2, 1) := by decide +kernel
theorem dz_turned_1 : decode cz_turned 1 = .ok (.invokestatic 130, 3) := by decide +kernel
theorem dz_turned_4 : decode cz_turned 4 = .ok (.lstore 4, 2) := by decide +kernel
theorem dz_turned_6 : decode cz_turned 6 = .ok (.iload_n 1, 1) := by decide +kernel
theorem dz_turned_7 : decode cz_turned 7 = .ok (.iconst 1, 1) := by decide +kernel
theorem dz_turned_8 : decode cz_turned 8 = .ok (.if_icmp .ne 8, 3) := by decide +kernel
theorem dz_turned_11 : decode cz_turned 11 = .ok (.lload_n 2, 1) := by decide +kernel
theorem dz_turned_12 : decode cz_turned 12 = .ok (.invokestatic 134, 3) := by decide +kernel
theorem dz_turned_15 : decode cz_turned 15 = .ok (.lreturn, 1) := by decide +kernel
theorem dz_turned_16 : decode cz_turned 16 = .ok (.iload_n 1, 1) := by decide +kernel
theorem dz_turned_17 : decode cz_turned 17 = .ok (.ifCond .eq 15, 3) := by decide +kernel
theorem dz_turned_20 : decode cz_turned 20 = .ok (.iload_n 1, 1) := by decide +kernel
theorem dz_turned_21 : decode cz_turned 21 = .ok (.iconst 3, 1) := by decide +kernel
theorem dz_turned_22 : decode cz_turned 22 = .ok (.if_icmp .ne 12, 3) := by decide +kernel
theorem dz_turned_25 : decode cz_turned 25 = .ok (.lload 4, 2) := by decide +kernel
theorem dz_turned_27 : decode cz_turned 27 = .ok (.lconst 0, 1) := by decide +kernel
theorem dz_turned_28 : decode cz_turned 28 = .ok (.lcmp, 1) := by decide +kernel
theorem dz_turned_29 : decode cz_turned 29 = .ok (.ifCond .lt 5, 3) := by decide +kernel
theorem dz_turned_32 : decode cz_turned 32 = .ok (.lload_n 2, 1) := by decide +kernel
theorem dz_turned_33 : decode cz_turned 33 = .ok (.lreturn, 1) := by decide +kernel
theorem dz_turned_34 : decode cz_turned 34 = .ok (.lload 4, 2) := by decide +kernel
theorem dz_turned_36 : decode cz_turned 36 = .ok (.ldc2_w 3, 3) := by decide +kernel
theorem dz_turned_39 : decode cz_turned 39 = .ok (.lcmp, 1) := by decide +kernel
theorem dz_turned_40 : decode cz_turned 40 = .ok (.ifCond .ne 8, 3) := by decide +kernel
theorem dz_turned_43 : decode cz_turned 43 = .ok (.aload_n 0, 1) := by decide +kernel
theorem dz_turned_44 : decode cz_turned 44 = .ok (.iconst 1, 1) := by decide +kernel
theorem dz_turned_45 : decode cz_turned 45 = .ok (.putfield 33, 3) := by decide +kernel
theorem dz_turned_48 : decode cz_turned 48 = .ok (.lload 4, 2) := by decide +kernel
theorem dz_turned_50 : decode cz_turned 50 = .ok (.lneg, 1) := by decide +kernel
theorem dz_turned_51 : decode cz_turned 51 = .ok (.ldc2_w 7, 3) := by decide +kernel
theorem dz_turned_54 : decode cz_turned 54 = .ok (.land, 1) := by decide +kernel
theorem dz_turned_55 : decode cz_turned 55 = .ok (.lreturn, 1) := by decide +kernel
theorem dz_move_0 : decode cz_move 0 = .ok (.iload_n 2, 1) := by decide +kernel
theorem dz_move_1 : decode cz_move 1 = .ok (.iconst 1, 1) := by decide +kernel
theorem dz_move_2 : decode cz_move 2 = .ok (.if_icmp .eq 13, 3) := by decide +kernel
theorem dz_move_5 : decode cz_move 5 = .ok (.iload 4, 2) := by decide +kernel
theorem dz_move_7 : decode cz_move 7 = .ok (.invokestatic 137, 3) := by decide +kernel
theorem dz_move_10 : decode cz_move 10 = .ok (.ifCond .eq 5, 3) := by decide +kernel
theorem dz_move_13 : decode cz_move 13 = .ok (.iconst 2, 1) := by decide +kernel
theorem dz_move_14 : decode cz_move 14 = .ok (.ireturn, 1) := by decide +kernel
theorem dz_move_15 : decode cz_move 15 = .ok (.aload_n 0, 1) := by decide +kernel
theorem dz_move_16 : decode cz_move 16 = .ok (.iload_n 1, 1) := by decide +kernel
theorem dz_move_17 : decode cz_move 17 = .ok (.iload_n 2, 1) := by decide +kernel
theorem dz_move_18 : decode cz_move 18 = .ok (.iconst 1, 1) := by decide +kernel
theorem dz_move_19 : decode cz_move 19 = .ok (.if_icmp .ne 9, 3) := by decide +kernel
theorem dz_move_22 : decode cz_move 22 = .ok (.iload 4, 2) := by decide +kernel
theorem dz_move_24 : decode cz_move 24 = .ok (.i2l, 1) := by decide +kernel
theorem dz_move_25 : decode cz_move 25 = .ok (.goto 24, 3) := by decide +kernel
theorem dz_move_28 : decode cz_move 28 = .ok (.iload_n 2, 1) := by decide +kernel
theorem dz_move_29 : decode cz_move 29 = .ok (.iconst 2, 1) := by decide +kernel
theorem dz_move_30 : decode cz_move 30 = .ok (.if_icmp .ne 12, 3) := by decide +kernel
theorem dz_move_33 : decode cz_move 33 = .ok (.aload_n 0, 1) := by decide +kernel
theorem dz_move_34 : decode cz_move 34 = .ok (.getfield 47, 3) := by decide +kernel
theorem dz_move_37 : decode cz_move 37 = .ok (.iload_n 3, 1) := by decide +kernel
theorem dz_move_38 : decode cz_move 38 = .ok (.laload, 1) := by decide +kernel
theorem dz_move_39 : decode cz_move 39 = .ok (.goto 10, 3) := by decide +kernel
theorem dz_move_42 : decode cz_move 42 = .ok (.aload_n 0, 1) := by decide +kernel
theorem dz_move_43 : decode cz_move 43 = .ok (.getfield 47, 3) := by decide +kernel
theorem dz_move_46 : decode cz_move 46 = .ok (.iload 4, 2) := by decide +kernel
theorem dz_move_48 : decode cz_move 48 = .ok (.laload, 1) := by decide +kernel
theorem dz_move_49 : decode cz_move 49 = .ok (.invokevirtual 141, 3) := by decide +kernel
theorem dz_move_52 : decode cz_move 52 = .ok (.lstore 5, 2) := by decide +kernel
theorem dz_move_54 : decode cz_move 54 = .ok (.iload_n 2, 1) := by decide +kernel
theorem dz_move_55 : decode cz_move 55 = .ok (.iconst 2, 1) := by decide +kernel
theorem dz_move_56 : decode cz_move 56 = .ok (.if_icmp .lt 12, 3) := by decide +kernel
theorem dz_move_59 : decode cz_move 59 = .ok (.aload_n 0, 1) := by decide +kernel
theorem dz_move_60 : decode cz_move 60 = .ok (.getfield 47, 3) := by decide +kernel
theorem dz_move_63 : decode cz_move 63 = .ok (.iload 4, 2) := by decide +kernel
theorem dz_move_65 : decode cz_move 65 = .ok (.lload 5, 2) := by decide +kernel
theorem dz_move_67 : decode cz_move 67 = .ok (.lastore, 1) := by decide +kernel
theorem dz_move_68 : decode cz_move 68 = .ok (.iload_n 2, 1) := by decide +kernel
theorem dz_move_69 : decode cz_move 69 = .ok (.iconst 2, 1) := by decide +kernel
theorem dz_move_70 : decode cz_move 70 = .ok (.if_icmp .lt 12, 3) := by decide +kernel
theorem dz_move_73 : decode cz_move 73 = .ok (.iload_n 2, 1) := by decide +kernel
theorem dz_move_74 : decode cz_move 74 = .ok (.iconst 3, 1) := by decide +kernel
theorem dz_move_75 : decode cz_move 75 = .ok (.if_icmp .ne 15, 3) := by decide +kernel
theorem dz_move_78 : decode cz_move 78 = .ok (.iload_n 3, 1) := by decide +kernel
theorem dz_move_79 : decode cz_move 79 = .ok (.ifCond .le 11, 3) := by decide +kernel
theorem dz_move_82 : decode cz_move 82 = .ok (.aload_n 0, 1) := by decide +kernel
theorem dz_move_83 : decode cz_move 83 = .ok (.getfield 47, 3) := by decide +kernel
theorem dz_move_86 : decode cz_move 86 = .ok (.iload_n 3, 1) := by decide +kernel
theorem dz_move_87 : decode cz_move 87 = .ok (.lload 5, 2) := by decide +kernel
theorem dz_move_89 : decode cz_move 89 = .ok (.lastore, 1) := by decide +kernel
theorem dz_move_90 : decode cz_move 90 = .ok (.iconst 0, 1) := by decide +kernel
theorem dz_move_91 : decode cz_move 91 = .ok (.ireturn, 1) := by decide +kernel
theorem dz_give_0 : decode cz_give 0 = .ok (.iload_n 1, 1) := by decide +kernel
theorem dz_give_1 : decode cz_give 1 = .ok (.iconst 2, 1) := by decide +kernel
theorem dz_give_2 : decode cz_give 2 = .ok (.if_icmp .lt 15, 3) := by decide +kernel
theorem dz_give_5 : decode cz_give 5 = .ok (.aload_n 0, 1) := by decide +kernel
theorem dz_give_6 : decode cz_give 6 = .ok (.getfield 47, 3) := by decide +kernel
theorem dz_give_9 : decode cz_give 9 = .ok (.iload_n 3, 1) := by decide +kernel
theorem dz_give_10 : decode cz_give 10 = .ok (.lload 4, 2) := by decide +kernel
theorem dz_give_12 : decode cz_give 12 = .ok (.ldc2_w 7, 3) := by decide +kernel
theorem dz_give_15 : decode cz_give 15 = .ok (.land, 1) := by decide +kernel
theorem dz_give_16 : decode cz_give 16 = .ok (.lastore, 1) := by decide +kernel
theorem dz_give_17 : decode cz_give 17 = .ok (.iload_n 1, 1) := by decide +kernel
theorem dz_give_18 : decode cz_give 18 = .ok (.iconst 2, 1) := by decide +kernel
theorem dz_give_19 : decode cz_give 19 = .ok (.if_icmp .eq 15, 3) := by decide +kernel
theorem dz_give_22 : decode cz_give 22 = .ok (.aload_n 0, 1) := by decide +kernel
theorem dz_give_23 : decode cz_give 23 = .ok (.getfield 47, 3) := by decide +kernel
theorem dz_give_26 : decode cz_give 26 = .ok (.iload_n 2, 1) := by decide +kernel
theorem dz_give_27 : decode cz_give 27 = .ok (.lload 4, 2) := by decide +kernel
theorem dz_give_29 : decode cz_give 29 = .ok (.ldc2_w 7, 3) := by decide +kernel
theorem dz_give_32 : decode cz_give 32 = .ok (.land, 1) := by decide +kernel
theorem dz_give_33 : decode cz_give 33 = .ok (.lastore, 1) := by decide +kernel
theorem dz_give_34 : decode cz_give 34 = .ok (.return_, 1) := by decide +kernel
theorem dz_reckon_0 : decode cz_reckon 0 = .ok (.iload_n 2, 1) := by decide +kernel
theorem dz_reckon_1 : decode cz_reckon 1 = .ok (.iconst 1, 1) := by decide +kernel
theorem dz_reckon_2 : decode cz_reckon 2 = .ok (.if_icmp .eq 13, 3) := by decide +kernel
theorem dz_reckon_5 : decode cz_reckon 5 = .ok (.iload 4, 2) := by decide +kernel
theorem dz_reckon_7 : decode cz_reckon 7 = .ok (.invokestatic 137, 3) := by decide +kernel
theorem dz_reckon_10 : decode cz_reckon 10 = .ok (.ifCond .eq 5, 3) := by decide +kernel
theorem dz_reckon_13 : decode cz_reckon 13 = .ok (.iconst 2, 1) := by decide +kernel
theorem dz_reckon_14 : decode cz_reckon 14 = .ok (.ireturn, 1) := by decide +kernel
theorem dz_reckon_15 : decode cz_reckon 15 = .ok (.aload_n 0, 1) := by decide +kernel
theorem dz_reckon_16 : decode cz_reckon 16 = .ok (.getfield 47, 3) := by decide +kernel
theorem dz_reckon_19 : decode cz_reckon 19 = .ok (.iload_n 3, 1) := by decide +kernel
theorem dz_reckon_20 : decode cz_reckon 20 = .ok (.laload, 1) := by decide +kernel
theorem dz_reckon_21 : decode cz_reckon 21 = .ok (.invokestatic 130, 3) := by decide +kernel
theorem dz_reckon_24 : decode cz_reckon 24 = .ok (.lstore 5, 2) := by decide +kernel
theorem dz_reckon_26 : decode cz_reckon 26 = .ok (.iload_n 2, 1) := by decide +kernel
theorem dz_reckon_27 : decode cz_reckon 27 = .ok (.iconst 1, 1) := by decide +kernel
theorem dz_reckon_28 : decode cz_reckon 28 = .ok (.if_icmp .ne 9, 3) := by decide +kernel
theorem dz_reckon_31 : decode cz_reckon 31 = .ok (.iload 4, 2) := by decide +kernel
theorem dz_reckon_33 : decode cz_reckon 33 = .ok (.i2l, 1) := by decide +kernel
theorem dz_reckon_34 : decode cz_reckon 34 = .ok (.goto 13, 3) := by decide +kernel
theorem dz_reckon_37 : decode cz_reckon 37 = .ok (.aload_n 0, 1) := by decide +kernel
theorem dz_reckon_38 : decode cz_reckon 38 = .ok (.getfield 47, 3) := by decide +kernel
theorem dz_reckon_41 : decode cz_reckon 41 = .ok (.iload 4, 2) := by decide +kernel
theorem dz_reckon_43 : decode cz_reckon 43 = .ok (.laload, 1) := by decide +kernel
theorem dz_reckon_44 : decode cz_reckon 44 = .ok (.invokestatic 130, 3) := by decide +kernel
theorem dz_reckon_47 : decode cz_reckon 47 = .ok (.lstore 7, 2) := by decide +kernel
theorem dz_reckon_49 : decode cz_reckon 49 = .ok (.iload_n 1, 1) := by decide +kernel
theorem dz_reckon_50 : decode cz_reckon 50 = .ok (.bipush 38, 2) := by decide +kernel
theorem dz_reckon_52 : decode cz_reckon 52 = .ok (.if_icmp .ne 75, 3) := by decide +kernel
theorem dz_reckon_55 : decode cz_reckon 55 = .ok (.lload 7, 2) := by decide +kernel
theorem dz_reckon_57 : decode cz_reckon 57 = .ok (.lconst 0, 1) := by decide +kernel
theorem dz_reckon_58 : decode cz_reckon 58 = .ok (.lcmp, 1) := by decide +kernel
theorem dz_reckon_59 : decode cz_reckon 59 = .ok (.ifCond .eq 21, 3) := by decide +kernel
theorem dz_reckon_62 : decode cz_reckon 62 = .ok (.lload 5, 2) := by decide +kernel
theorem dz_reckon_64 : decode cz_reckon 64 = .ok (.ldc2_w 3, 3) := by decide +kernel
theorem dz_reckon_67 : decode cz_reckon 67 = .ok (.lcmp, 1) := by decide +kernel
theorem dz_reckon_68 : decode cz_reckon 68 = .ok (.ifCond .ne 19, 3) := by decide +kernel
theorem dz_reckon_71 : decode cz_reckon 71 = .ok (.lload 7, 2) := by decide +kernel
theorem dz_reckon_73 : decode cz_reckon 73 = .ok (.ldc2_w 145, 3) := by decide +kernel
theorem dz_reckon_76 : decode cz_reckon 76 = .ok (.lcmp, 1) := by decide +kernel
theorem dz_reckon_77 : decode cz_reckon 77 = .ok (.ifCond .ne 10, 3) := by decide +kernel
theorem dz_reckon_80 : decode cz_reckon 80 = .ok (.aload_n 0, 1) := by decide +kernel
theorem dz_reckon_81 : decode cz_reckon 81 = .ok (.iconst 1, 1) := by decide +kernel
theorem dz_reckon_82 : decode cz_reckon 82 = .ok (.putfield 33, 3) := by decide +kernel
theorem dz_reckon_85 : decode cz_reckon 85 = .ok (.iconst 0, 1) := by decide +kernel
theorem dz_reckon_86 : decode cz_reckon 86 = .ok (.ireturn, 1) := by decide +kernel
theorem dz_reckon_87 : decode cz_reckon 87 = .ok (.aload_n 0, 1) := by decide +kernel
theorem dz_reckon_88 : decode cz_reckon 88 = .ok (.iload_n 2, 1) := by decide +kernel
theorem dz_reckon_89 : decode cz_reckon 89 = .ok (.iload_n 3, 1) := by decide +kernel
theorem dz_reckon_90 : decode cz_reckon 90 = .ok (.iload 4, 2) := by decide +kernel
theorem dz_reckon_92 : decode cz_reckon 92 = .ok (.lload 5, 2) := by decide +kernel
theorem dz_reckon_94 : decode cz_reckon 94 = .ok (.lload 7, 2) := by decide +kernel
theorem dz_reckon_96 : decode cz_reckon 96 = .ok (.ldiv, 1) := by decide +kernel
theorem dz_reckon_97 : decode cz_reckon 97 = .ok (.invokevirtual 147, 3) := by decide +kernel
theorem dz_reckon_100 : decode cz_reckon 100 = .ok (.iload_n 2, 1) := by decide +kernel
theorem dz_reckon_101 : decode cz_reckon 101 = .ok (.iconst 2, 1) := by decide +kernel
theorem dz_reckon_102 : decode cz_reckon 102 = .ok (.if_icmp .eq 23, 3) := by decide +kernel
theorem dz_reckon_105 : decode cz_reckon 105 = .ok (.aload_n 0, 1) := by decide +kernel
theorem dz_reckon_106 : decode cz_reckon 106 = .ok (.getfield 47, 3) := by decide +kernel
theorem dz_reckon_109 : decode cz_reckon 109 = .ok (.iload_n 3, 1) := by decide +kernel
theorem dz_reckon_110 : decode cz_reckon 110 = .ok (.iconst 1, 1) := by decide +kernel
theorem dz_reckon_111 : decode cz_reckon 111 = .ok (.iadd, 1) := by decide +kernel
theorem dz_reckon_112 : decode cz_reckon 112 = .ok (.bipush 15, 2) := by decide +kernel
theorem dz_reckon_114 : decode cz_reckon 114 = .ok (.iand, 1) := by decide +kernel
theorem dz_reckon_115 : decode cz_reckon 115 = .ok (.lload 5, 2) := by decide +kernel
theorem dz_reckon_117 : decode cz_reckon 117 = .ok (.lload 7, 2) := by decide +kernel
theorem dz_reckon_119 : decode cz_reckon 119 = .ok (.lrem, 1) := by decide +kernel
theorem dz_reckon_120 : decode cz_reckon 120 = .ok (.ldc2_w 7, 3) := by decide +kernel
theorem dz_reckon_123 : decode cz_reckon 123 = .ok (.land, 1) := by decide +kernel
theorem dz_reckon_124 : decode cz_reckon 124 = .ok (.lastore, 1) := by decide +kernel
theorem dz_reckon_125 : decode cz_reckon 125 = .ok (.iconst 0, 1) := by decide +kernel
theorem dz_reckon_126 : decode cz_reckon 126 = .ok (.ireturn, 1) := by decide +kernel
theorem dz_reckon_127 : decode cz_reckon 127 = .ok (.iload_n 1, 1) := by decide +kernel
theorem dz_reckon_128 : decode cz_reckon 128 = .ok (.bipush 36, 2) := by decide +kernel
theorem dz_reckon_130 : decode cz_reckon 130 = .ok (.if_icmp .ne 42, 3) := by decide +kernel
theorem dz_reckon_133 : decode cz_reckon 133 = .ok (.lload 5, 2) := by decide +kernel
theorem dz_reckon_135 : decode cz_reckon 135 = .ok (.lload 7, 2) := by decide +kernel
theorem dz_reckon_137 : decode cz_reckon 137 = .ok (.lmul, 1) := by decide +kernel
theorem dz_reckon_138 : decode cz_reckon 138 = .ok (.lstore 9, 2) := by decide +kernel
theorem dz_reckon_140 : decode cz_reckon 140 = .ok (.lload 5, 2) := by decide +kernel
theorem dz_reckon_142 : decode cz_reckon 142 = .ok (.lload 7, 2) := by decide +kernel
theorem dz_reckon_144 : decode cz_reckon 144 = .ok (.invokestatic 151, 3) := by decide +kernel
theorem dz_reckon_147 : decode cz_reckon 147 = .ok (.lload 9, 2) := by decide +kernel
theorem dz_reckon_149 : decode cz_reckon 149 = .ok (.bipush 63, 2) := by decide +kernel
theorem dz_reckon_151 : decode cz_reckon 151 = .ok (.lshr, 1) := by decide +kernel
theorem dz_reckon_152 : decode cz_reckon 152 = .ok (.lcmp, 1) := by decide +kernel
theorem dz_reckon_153 : decode cz_reckon 153 = .ok (.ifCond .ne 11, 3) := by decide +kernel
theorem dz_reckon_156 : decode cz_reckon 156 = .ok (.lload 9, 2) := by decide +kernel
theorem dz_reckon_158 : decode cz_reckon 158 = .ok (.invokestatic 157, 3) := by decide +kernel
theorem dz_reckon_161 : decode cz_reckon 161 = .ok (.ifCond .ne 45, 3) := by decide +kernel
theorem dz_reckon_164 : decode cz_reckon 164 = .ok (.aload_n 0, 1) := by decide +kernel
theorem dz_reckon_165 : decode cz_reckon 165 = .ok (.iconst 1, 1) := by decide +kernel
theorem dz_reckon_166 : decode cz_reckon 166 = .ok (.putfield 33, 3) := by decide +kernel
theorem dz_reckon_169 : decode cz_reckon 169 = .ok (.goto 37, 3) := by decide +kernel
theorem dz_reckon_172 : decode cz_reckon 172 = .ok (.iload_n 1, 1) := by decide +kernel
theorem dz_reckon_173 : decode cz_reckon 173 = .ok (.bipush 46, 2) := by decide +kernel
theorem dz_reckon_175 : decode cz_reckon 175 = .ok (.if_icmp .ne 11, 3) := by decide +kernel
theorem dz_reckon_178 : decode cz_reckon 178 = .ok (.lload 5, 2) := by decide +kernel
theorem dz_reckon_180 : decode cz_reckon 180 = .ok (.lload 7, 2) := by decide +kernel
theorem dz_reckon_182 : decode cz_reckon 182 = .ok (.ladd, 1) := by decide +kernel
theorem dz_reckon_183 : decode cz_reckon 183 = .ok (.goto 8, 3) := by decide +kernel
theorem dz_reckon_186 : decode cz_reckon 186 = .ok (.lload 5, 2) := by decide +kernel
theorem dz_reckon_188 : decode cz_reckon 188 = .ok (.lload 7, 2) := by decide +kernel
theorem dz_reckon_190 : decode cz_reckon 190 = .ok (.lsub, 1) := by decide +kernel
theorem dz_reckon_191 : decode cz_reckon 191 = .ok (.lstore 9, 2) := by decide +kernel
theorem dz_reckon_193 : decode cz_reckon 193 = .ok (.lload 9, 2) := by decide +kernel
theorem dz_reckon_195 : decode cz_reckon 195 = .ok (.invokestatic 157, 3) := by decide +kernel
theorem dz_reckon_198 : decode cz_reckon 198 = .ok (.ifCond .ne 8, 3) := by decide +kernel
theorem dz_reckon_201 : decode cz_reckon 201 = .ok (.aload_n 0, 1) := by decide +kernel
theorem dz_reckon_202 : decode cz_reckon 202 = .ok (.iconst 1, 1) := by decide +kernel
theorem dz_reckon_203 : decode cz_reckon 203 = .ok (.putfield 33, 3) := by decide +kernel
theorem dz_reckon_206 : decode cz_reckon 206 = .ok (.aload_n 0, 1) := by decide +kernel
theorem dz_reckon_207 : decode cz_reckon 207 = .ok (.iload_n 2, 1) := by decide +kernel
theorem dz_reckon_208 : decode cz_reckon 208 = .ok (.iload_n 3, 1) := by decide +kernel
theorem dz_reckon_209 : decode cz_reckon 209 = .ok (.iload 4, 2) := by decide +kernel
theorem dz_reckon_211 : decode cz_reckon 211 = .ok (.lload 9, 2) := by decide +kernel
theorem dz_reckon_213 : decode cz_reckon 213 = .ok (.invokevirtual 147, 3) := by decide +kernel
theorem dz_reckon_216 : decode cz_reckon 216 = .ok (.iconst 0, 1) := by decide +kernel
theorem dz_reckon_217 : decode cz_reckon 217 = .ok (.ireturn, 1) := by decide +kernel
theorem dz_bits_0 : decode cz_bits 0 = .ok (.iload_n 2, 1) := by decide +kernel
theorem dz_bits_1 : decode cz_bits 1 = .ok (.iconst 1, 1) := by decide +kernel
theorem dz_bits_2 : decode cz_bits 2 = .ok (.if_icmp .eq 13, 3) := by decide +kernel
theorem dz_bits_5 : decode cz_bits 5 = .ok (.iload 4, 2) := by decide +kernel
theorem dz_bits_7 : decode cz_bits 7 = .ok (.invokestatic 137, 3) := by decide +kernel
theorem dz_bits_10 : decode cz_bits 10 = .ok (.ifCond .eq 5, 3) := by decide +kernel
theorem dz_bits_13 : decode cz_bits 13 = .ok (.iconst 2, 1) := by decide +kernel
theorem dz_bits_14 : decode cz_bits 14 = .ok (.ireturn, 1) := by decide +kernel
theorem dz_bits_15 : decode cz_bits 15 = .ok (.aload_n 0, 1) := by decide +kernel
theorem dz_bits_16 : decode cz_bits 16 = .ok (.getfield 47, 3) := by decide +kernel
theorem dz_bits_19 : decode cz_bits 19 = .ok (.iload_n 3, 1) := by decide +kernel
theorem dz_bits_20 : decode cz_bits 20 = .ok (.laload, 1) := by decide +kernel
theorem dz_bits_21 : decode cz_bits 21 = .ok (.lstore 5, 2) := by decide +kernel
theorem dz_bits_23 : decode cz_bits 23 = .ok (.iload_n 2, 1) := by decide +kernel
theorem dz_bits_24 : decode cz_bits 24 = .ok (.iconst 1, 1) := by decide +kernel
theorem dz_bits_25 : decode cz_bits 25 = .ok (.if_icmp .ne 9, 3) := by decide +kernel
theorem dz_bits_28 : decode cz_bits 28 = .ok (.iload 4, 2) := by decide +kernel
theorem dz_bits_30 : decode cz_bits 30 = .ok (.i2l, 1) := by decide +kernel
theorem dz_bits_31 : decode cz_bits 31 = .ok (.goto 10, 3) := by decide +kernel
theorem dz_bits_34 : decode cz_bits 34 = .ok (.aload_n 0, 1) := by decide +kernel
theorem dz_bits_35 : decode cz_bits 35 = .ok (.getfield 47, 3) := by decide +kernel
theorem dz_bits_38 : decode cz_bits 38 = .ok (.iload 4, 2) := by decide +kernel
theorem dz_bits_40 : decode cz_bits 40 = .ok (.laload, 1) := by decide +kernel
theorem dz_bits_41 : decode cz_bits 41 = .ok (.lstore 7, 2) := by decide +kernel
theorem dz_bits_43 : decode cz_bits 43 = .ok (.iload_n 1, 1) := by decide +kernel
theorem dz_bits_44 : decode cz_bits 44 = .ok (.tableswitch 246 0 14 #[76, 82, 92, 106, 113, 127, 134, 144, 154, 168, 182, 193, 207, 218, 232], 76) := by decide +kernel
theorem dz_bits_120 : decode cz_bits 120 = .ok (.lconst 0, 1) := by decide +kernel
theorem dz_bits_121 : decode cz_bits 121 = .ok (.lstore 9, 2) := by decide +kernel
theorem dz_bits_123 : decode cz_bits 123 = .ok (.goto 172, 3) := by decide +kernel
theorem dz_bits_126 : decode cz_bits 126 = .ok (.lload 5, 2) := by decide +kernel
theorem dz_bits_128 : decode cz_bits 128 = .ok (.lload 7, 2) := by decide +kernel
theorem dz_bits_130 : decode cz_bits 130 = .ok (.land, 1) := by decide +kernel
theorem dz_bits_131 : decode cz_bits 131 = .ok (.lstore 9, 2) := by decide +kernel
theorem dz_bits_133 : decode cz_bits 133 = .ok (.goto 162, 3) := by decide +kernel
theorem dz_bits_136 : decode cz_bits 136 = .ok (.lload 5, 2) := by decide +kernel
theorem dz_bits_138 : decode cz_bits 138 = .ok (.ldc2_w 145, 3) := by decide +kernel
theorem dz_bits_141 : decode cz_bits 141 = .ok (.lxor, 1) := by decide +kernel
theorem dz_bits_142 : decode cz_bits 142 = .ok (.lload 7, 2) := by decide +kernel
theorem dz_bits_144 : decode cz_bits 144 = .ok (.land, 1) := by decide +kernel
theorem dz_bits_145 : decode cz_bits 145 = .ok (.lstore 9, 2) := by decide +kernel
theorem dz_bits_147 : decode cz_bits 147 = .ok (.goto 148, 3) := by decide +kernel
theorem dz_bits_150 : decode cz_bits 150 = .ok (.lload 7, 2) := by decide +kernel
theorem dz_bits_152 : decode cz_bits 152 = .ok (.lstore 9, 2) := by decide +kernel
theorem dz_bits_154 : decode cz_bits 154 = .ok (.goto 141, 3) := by decide +kernel
theorem dz_bits_157 : decode cz_bits 157 = .ok (.lload 5, 2) := by decide +kernel
theorem dz_bits_159 : decode cz_bits 159 = .ok (.lload 7, 2) := by decide +kernel
theorem dz_bits_161 : decode cz_bits 161 = .ok (.ldc2_w 145, 3) := by decide +kernel
theorem dz_bits_164 : decode cz_bits 164 = .ok (.lxor, 1) := by decide +kernel
theorem dz_bits_165 : decode cz_bits 165 = .ok (.land, 1) := by decide +kernel
theorem dz_bits_166 : decode cz_bits 166 = .ok (.lstore 9, 2) := by decide +kernel
theorem dz_bits_168 : decode cz_bits 168 = .ok (.goto 127, 3) := by decide +kernel
theorem dz_bits_171 : decode cz_bits 171 = .ok (.lload 5, 2) := by decide +kernel
theorem dz_bits_173 : decode cz_bits 173 = .ok (.lstore 9, 2) := by decide +kernel
theorem dz_bits_175 : decode cz_bits 175 = .ok (.goto 120, 3) := by decide +kernel
theorem dz_bits_178 : decode cz_bits 178 = .ok (.lload 5, 2) := by decide +kernel
theorem dz_bits_180 : decode cz_bits 180 = .ok (.lload 7, 2) := by decide +kernel
theorem dz_bits_182 : decode cz_bits 182 = .ok (.lxor, 1) := by decide +kernel
theorem dz_bits_183 : decode cz_bits 183 = .ok (.lstore 9, 2) := by decide +kernel
theorem dz_bits_185 : decode cz_bits 185 = .ok (.goto 110, 3) := by decide +kernel
theorem dz_bits_188 : decode cz_bits 188 = .ok (.lload 5, 2) := by decide +kernel
theorem dz_bits_190 : decode cz_bits 190 = .ok (.lload 7, 2) := by decide +kernel
theorem dz_bits_192 : decode cz_bits 192 = .ok (.lor, 1) := by decide +kernel
theorem dz_bits_193 : decode cz_bits 193 = .ok (.lstore 9, 2) := by decide +kernel
theorem dz_bits_195 : decode cz_bits 195 = .ok (.goto 100, 3) := by decide +kernel
theorem dz_bits_198 : decode cz_bits 198 = .ok (.lload 5, 2) := by decide +kernel
theorem dz_bits_200 : decode cz_bits 200 = .ok (.lload 7, 2) := by decide +kernel
theorem dz_bits_202 : decode cz_bits 202 = .ok (.lor, 1) := by decide +kernel
theorem dz_bits_203 : decode cz_bits 203 = .ok (.ldc2_w 145, 3) := by decide +kernel
theorem dz_bits_206 : decode cz_bits 206 = .ok (.lxor, 1) := by decide +kernel
theorem dz_bits_207 : decode cz_bits 207 = .ok (.lstore 9, 2) := by decide +kernel
theorem dz_bits_209 : decode cz_bits 209 = .ok (.goto 86, 3) := by decide +kernel
theorem dz_bits_212 : decode cz_bits 212 = .ok (.lload 5, 2) := by decide +kernel
theorem dz_bits_214 : decode cz_bits 214 = .ok (.lload 7, 2) := by decide +kernel
theorem dz_bits_216 : decode cz_bits 216 = .ok (.lxor, 1) := by decide +kernel
theorem dz_bits_217 : decode cz_bits 217 = .ok (.ldc2_w 145, 3) := by decide +kernel
theorem dz_bits_220 : decode cz_bits 220 = .ok (.lxor, 1) := by decide +kernel
theorem dz_bits_221 : decode cz_bits 221 = .ok (.lstore 9, 2) := by decide +kernel
theorem dz_bits_223 : decode cz_bits 223 = .ok (.goto 72, 3) := by decide +kernel
theorem dz_bits_226 : decode cz_bits 226 = .ok (.lload 5, 2) := by decide +kernel
theorem dz_bits_228 : decode cz_bits 228 = .ok (.ldc2_w 145, 3) := by decide +kernel
theorem dz_bits_231 : decode cz_bits 231 = .ok (.lxor, 1) := by decide +kernel
theorem dz_bits_232 : decode cz_bits 232 = .ok (.lstore 9, 2) := by decide +kernel
theorem dz_bits_234 : decode cz_bits 234 = .ok (.goto 61, 3) := by decide +kernel
theorem dz_bits_237 : decode cz_bits 237 = .ok (.lload 5, 2) := by decide +kernel
theorem dz_bits_239 : decode cz_bits 239 = .ok (.ldc2_w 145, 3) := by decide +kernel
theorem dz_bits_242 : decode cz_bits 242 = .ok (.lxor, 1) := by decide +kernel
theorem dz_bits_243 : decode cz_bits 243 = .ok (.lload 7, 2) := by decide +kernel
theorem dz_bits_245 : decode cz_bits 245 = .ok (.lor, 1) := by decide +kernel
theorem dz_bits_246 : decode cz_bits 246 = .ok (.lstore 9, 2) := by decide +kernel
theorem dz_bits_248 : decode cz_bits 248 = .ok (.goto 47, 3) := by decide +kernel
theorem dz_bits_251 : decode cz_bits 251 = .ok (.lload 7, 2) := by decide +kernel
theorem dz_bits_253 : decode cz_bits 253 = .ok (.ldc2_w 145, 3) := by decide +kernel
theorem dz_bits_256 : decode cz_bits 256 = .ok (.lxor, 1) := by decide +kernel
theorem dz_bits_257 : decode cz_bits 257 = .ok (.lstore 9, 2) := by decide +kernel
theorem dz_bits_259 : decode cz_bits 259 = .ok (.goto 36, 3) := by decide +kernel
theorem dz_bits_262 : decode cz_bits 262 = .ok (.lload 5, 2) := by decide +kernel
theorem dz_bits_264 : decode cz_bits 264 = .ok (.lload 7, 2) := by decide +kernel
theorem dz_bits_266 : decode cz_bits 266 = .ok (.ldc2_w 145, 3) := by decide +kernel
theorem dz_bits_269 : decode cz_bits 269 = .ok (.lxor, 1) := by decide +kernel
theorem dz_bits_270 : decode cz_bits 270 = .ok (.lor, 1) := by decide +kernel
theorem dz_bits_271 : decode cz_bits 271 = .ok (.lstore 9, 2) := by decide +kernel
theorem dz_bits_273 : decode cz_bits 273 = .ok (.goto 22, 3) := by decide +kernel
theorem dz_bits_276 : decode cz_bits 276 = .ok (.lload 5, 2) := by decide +kernel
theorem dz_bits_278 : decode cz_bits 278 = .ok (.lload 7, 2) := by decide +kernel
theorem dz_bits_280 : decode cz_bits 280 = .ok (.land, 1) := by decide +kernel
theorem dz_bits_281 : decode cz_bits 281 = .ok (.ldc2_w 145, 3) := by decide +kernel
theorem dz_bits_284 : decode cz_bits 284 = .ok (.lxor, 1) := by decide +kernel
theorem dz_bits_285 : decode cz_bits 285 = .ok (.lstore 9, 2) := by decide +kernel
theorem dz_bits_287 : decode cz_bits 287 = .ok (.goto 8, 3) := by decide +kernel
theorem dz_bits_290 : decode cz_bits 290 = .ok (.ldc2_w 145, 3) := by decide +kernel
theorem dz_bits_293 : decode cz_bits 293 = .ok (.lstore 9, 2) := by decide +kernel
theorem dz_bits_295 : decode cz_bits 295 = .ok (.aload_n 0, 1) := by decide +kernel
theorem dz_bits_296 : decode cz_bits 296 = .ok (.iload_n 2, 1) := by decide +kernel
theorem dz_bits_297 : decode cz_bits 297 = .ok (.iload_n 3, 1) := by decide +kernel
theorem dz_bits_298 : decode cz_bits 298 = .ok (.iload 4, 2) := by decide +kernel
theorem dz_bits_300 : decode cz_bits 300 = .ok (.lload 9, 2) := by decide +kernel
theorem dz_bits_302 : decode cz_bits 302 = .ok (.invokevirtual 147, 3) := by decide +kernel
theorem dz_bits_305 : decode cz_bits 305 = .ok (.iconst 0, 1) := by decide +kernel
theorem dz_bits_306 : decode cz_bits 306 = .ok (.ireturn, 1) := by decide +kernel
theorem dz_half_0 : decode cz_half 0 = .ok (.iload_n 1, 1) := by decide +kernel
theorem dz_half_1 : decode cz_half 1 = .ok (.iconst 3, 1) := by decide +kernel
theorem dz_half_2 : decode cz_half 2 = .ok (.iand, 1) := by decide +kernel
theorem dz_half_3 : decode cz_half 3 = .ok (.istore 4, 2) := by decide +kernel
theorem dz_half_5 : decode cz_half 5 = .ok (.iload_n 1, 1) := by decide +kernel
theorem dz_half_6 : decode cz_half 6 = .ok (.iconst 3, 1) := by decide +kernel
theorem dz_half_7 : decode cz_half 7 = .ok (.ishr, 1) := by decide +kernel
theorem dz_half_8 : decode cz_half 8 = .ok (.iconst 3, 1) := by decide +kernel
theorem dz_half_9 : decode cz_half 9 = .ok (.iand, 1) := by decide +kernel
theorem dz_half_10 : decode cz_half 10 = .ok (.istore 5, 2) := by decide +kernel
theorem dz_half_12 : decode cz_half 12 = .ok (.iload 4, 2) := by decide +kernel
theorem dz_half_14 : decode cz_half 14 = .ok (.iconst 1, 1) := by decide +kernel
theorem dz_half_15 : decode cz_half 15 = .ok (.if_icmp .eq 12, 3) := by decide +kernel
theorem dz_half_18 : decode cz_half 18 = .ok (.iload_n 3, 1) := by decide +kernel
theorem dz_half_19 : decode cz_half 19 = .ok (.invokestatic 137, 3) := by decide +kernel
theorem dz_half_22 : decode cz_half 22 = .ok (.ifCond .eq 5, 3) := by decide +kernel
theorem dz_half_25 : decode cz_half 25 = .ok (.iconst 2, 1) := by decide +kernel
theorem dz_half_26 : decode cz_half 26 = .ok (.ireturn, 1) := by decide +kernel
theorem dz_half_27 : decode cz_half 27 = .ok (.iload_n 1, 1) := by decide +kernel
theorem dz_half_28 : decode cz_half 28 = .ok (.bipush 32, 2) := by decide +kernel
theorem dz_half_30 : decode cz_half 30 = .ok (.iand, 1) := by decide +kernel
theorem dz_half_31 : decode cz_half 31 = .ok (.ifCond .eq 7, 3) := by decide +kernel
theorem dz_half_34 : decode cz_half 34 = .ok (.iconst 1, 1) := by decide +kernel
theorem dz_half_35 : decode cz_half 35 = .ok (.goto 4, 3) := by decide +kernel
theorem dz_half_38 : decode cz_half 38 = .ok (.iconst 0, 1) := by decide +kernel
theorem dz_half_39 : decode cz_half 39 = .ok (.istore 6, 2) := by decide +kernel
theorem dz_half_41 : decode cz_half 41 = .ok (.iload_n 1, 1) := by decide +kernel
theorem dz_half_42 : decode cz_half 42 = .ok (.iconst 4, 1) := by decide +kernel
theorem dz_half_43 : decode cz_half 43 = .ok (.iand, 1) := by decide +kernel
theorem dz_half_44 : decode cz_half 44 = .ok (.ifCond .eq 7, 3) := by decide +kernel
theorem dz_half_47 : decode cz_half 47 = .ok (.iconst 1, 1) := by decide +kernel
theorem dz_half_48 : decode cz_half 48 = .ok (.goto 4, 3) := by decide +kernel
theorem dz_half_51 : decode cz_half 51 = .ok (.iconst 0, 1) := by decide +kernel
theorem dz_half_52 : decode cz_half 52 = .ok (.istore 7, 2) := by decide +kernel
theorem dz_half_54 : decode cz_half 54 = .ok (.iload 4, 2) := by decide +kernel
theorem dz_half_56 : decode cz_half 56 = .ok (.iconst 1, 1) := by decide +kernel
theorem dz_half_57 : decode cz_half 57 = .ok (.if_icmp .ne 8, 3) := by decide +kernel
theorem dz_half_60 : decode cz_half 60 = .ok (.iload_n 3, 1) := by decide +kernel
theorem dz_half_61 : decode cz_half 61 = .ok (.i2l, 1) := by decide +kernel
theorem dz_half_62 : decode cz_half 62 = .ok (.goto 24, 3) := by decide +kernel
theorem dz_half_65 : decode cz_half 65 = .ok (.iload 4, 2) := by decide +kernel
theorem dz_half_67 : decode cz_half 67 = .ok (.iconst 2, 1) := by decide +kernel
theorem dz_half_68 : decode cz_half 68 = .ok (.if_icmp .ne 12, 3) := by decide +kernel
theorem dz_half_71 : decode cz_half 71 = .ok (.aload_n 0, 1) := by decide +kernel
theorem dz_half_72 : decode cz_half 72 = .ok (.getfield 47, 3) := by decide +kernel
theorem dz_half_75 : decode cz_half 75 = .ok (.iload_n 2, 1) := by decide +kernel
theorem dz_half_76 : decode cz_half 76 = .ok (.laload, 1) := by decide +kernel
theorem dz_half_77 : decode cz_half 77 = .ok (.goto 9, 3) := by decide +kernel
theorem dz_half_80 : decode cz_half 80 = .ok (.aload_n 0, 1) := by decide +kernel
theorem dz_half_81 : decode cz_half 81 = .ok (.getfield 47, 3) := by decide +kernel
theorem dz_half_84 : decode cz_half 84 = .ok (.iload_n 3, 1) := by decide +kernel
theorem dz_half_85 : decode cz_half 85 = .ok (.laload, 1) := by decide +kernel
theorem dz_half_86 : decode cz_half 86 = .ok (.lstore 8, 2) := by decide +kernel
theorem dz_half_88 : decode cz_half 88 = .ok (.iload 4, 2) := by decide +kernel
theorem dz_half_90 : decode cz_half 90 = .ok (.iconst 2, 1) := by decide +kernel
theorem dz_half_91 : decode cz_half 91 = .ok (.if_icmp .ge 12, 3) := by decide +kernel
theorem dz_half_94 : decode cz_half 94 = .ok (.aload_n 0, 1) := by decide +kernel
theorem dz_half_95 : decode cz_half 95 = .ok (.getfield 47, 3) := by decide +kernel
theorem dz_half_98 : decode cz_half 98 = .ok (.iload_n 2, 1) := by decide +kernel
theorem dz_half_99 : decode cz_half 99 = .ok (.laload, 1) := by decide +kernel
theorem dz_half_100 : decode cz_half 100 = .ok (.goto 9, 3) := by decide +kernel
theorem dz_half_103 : decode cz_half 103 = .ok (.aload_n 0, 1) := by decide +kernel
theorem dz_half_104 : decode cz_half 104 = .ok (.getfield 47, 3) := by decide +kernel
theorem dz_half_107 : decode cz_half 107 = .ok (.iload_n 3, 1) := by decide +kernel
theorem dz_half_108 : decode cz_half 108 = .ok (.laload, 1) := by decide +kernel
theorem dz_half_109 : decode cz_half 109 = .ok (.lstore 10, 2) := by decide +kernel
theorem dz_half_111 : decode cz_half 111 = .ok (.iload 6, 2) := by decide +kernel
theorem dz_half_113 : decode cz_half 113 = .ok (.iload 7, 2) := by decide +kernel
theorem dz_half_115 : decode cz_half 115 = .ok (.if_icmp .eq 11, 3) := by decide +kernel
theorem dz_half_118 : decode cz_half 118 = .ok (.lload 8, 2) := by decide +kernel
theorem dz_half_120 : decode cz_half 120 = .ok (.invokestatic 10, 3) := by decide +kernel
theorem dz_half_123 : decode cz_half 123 = .ok (.goto 8, 3) := by decide +kernel
theorem dz_half_126 : decode cz_half 126 = .ok (.lload 8, 2) := by decide +kernel
theorem dz_half_128 : decode cz_half 128 = .ok (.invokestatic 14, 3) := by decide +kernel
theorem dz_half_131 : decode cz_half 131 = .ok (.istore 12, 2) := by decide +kernel
theorem dz_half_133 : decode cz_half 133 = .ok (.iload 5, 2) := by decide +kernel
theorem dz_half_135 : decode cz_half 135 = .ok (.ifCond .ne 24, 3) := by decide +kernel
theorem dz_half_138 : decode cz_half 138 = .ok (.iload 6, 2) := by decide +kernel
theorem dz_half_140 : decode cz_half 140 = .ok (.ifCond .eq 11, 3) := by decide +kernel
theorem dz_half_143 : decode cz_half 143 = .ok (.lload 10, 2) := by decide +kernel
theorem dz_half_145 : decode cz_half 145 = .ok (.invokestatic 14, 3) := by decide +kernel
theorem dz_half_148 : decode cz_half 148 = .ok (.goto 42, 3) := by decide +kernel
theorem dz_half_151 : decode cz_half 151 = .ok (.lload 10, 2) := by decide +kernel
theorem dz_half_153 : decode cz_half 153 = .ok (.invokestatic 10, 3) := by decide +kernel
theorem dz_half_156 : decode cz_half 156 = .ok (.goto 34, 3) := by decide +kernel
theorem dz_half_159 : decode cz_half 159 = .ok (.iload 5, 2) := by decide +kernel
theorem dz_half_161 : decode cz_half 161 = .ok (.iconst 1, 1) := by decide +kernel
theorem dz_half_162 : decode cz_half 162 = .ok (.if_icmp .ne 7, 3) := by decide +kernel
theorem dz_half_165 : decode cz_half 165 = .ok (.iconst 0, 1) := by decide +kernel
theorem dz_half_166 : decode cz_half 166 = .ok (.goto 24, 3) := by decide +kernel
theorem dz_half_169 : decode cz_half 169 = .ok (.iload 5, 2) := by decide +kernel
theorem dz_half_171 : decode cz_half 171 = .ok (.iconst 2, 1) := by decide +kernel
theorem dz_half_172 : decode cz_half 172 = .ok (.if_icmp .eq 12, 3) := by decide +kernel
theorem dz_half_175 : decode cz_half 175 = .ok (.iload 12, 2) := by decide +kernel
theorem dz_half_177 : decode cz_half 177 = .ok (.bipush 17, 2) := by decide +kernel
theorem dz_half_179 : decode cz_half 179 = .ok (.ishr, 1) := by decide +kernel
theorem dz_half_180 : decode cz_half 180 = .ok (.iconst 1, 1) := by decide +kernel
theorem dz_half_181 : decode cz_half 181 = .ok (.if_icmp .ne 8, 3) := by decide +kernel
theorem dz_half_184 : decode cz_half 184 = .ok (.ldc 9, 2) := by decide +kernel
theorem dz_half_186 : decode cz_half 186 = .ok (.goto 4, 3) := by decide +kernel
theorem dz_half_189 : decode cz_half 189 = .ok (.iconst 0, 1) := by decide +kernel
theorem dz_half_190 : decode cz_half 190 = .ok (.istore 13, 2) := by decide +kernel
theorem dz_half_192 : decode cz_half 192 = .ok (.iload 6, 2) := by decide +kernel
theorem dz_half_194 : decode cz_half 194 = .ok (.ifCond .eq 13, 3) := by decide +kernel
theorem dz_half_197 : decode cz_half 197 = .ok (.iload 13, 2) := by decide +kernel
theorem dz_half_199 : decode cz_half 199 = .ok (.iload 12, 2) := by decide +kernel
theorem dz_half_201 : decode cz_half 201 = .ok (.invokestatic 17, 3) := by decide +kernel
theorem dz_half_204 : decode cz_half 204 = .ok (.goto 10, 3) := by decide +kernel
theorem dz_half_207 : decode cz_half 207 = .ok (.iload 12, 2) := by decide +kernel
theorem dz_half_209 : decode cz_half 209 = .ok (.iload 13, 2) := by decide +kernel
theorem dz_half_211 : decode cz_half 211 = .ok (.invokestatic 17, 3) := by decide +kernel
theorem dz_half_214 : decode cz_half 214 = .ok (.lstore 14, 2) := by decide +kernel
theorem dz_half_216 : decode cz_half 216 = .ok (.iload 4, 2) := by decide +kernel
theorem dz_half_218 : decode cz_half 218 = .ok (.iconst 2, 1) := by decide +kernel
theorem dz_half_219 : decode cz_half 219 = .ok (.if_icmp .lt 11, 3) := by decide +kernel
theorem dz_half_222 : decode cz_half 222 = .ok (.aload_n 0, 1) := by decide +kernel
theorem dz_half_223 : decode cz_half 223 = .ok (.getfield 47, 3) := by decide +kernel
theorem dz_half_226 : decode cz_half 226 = .ok (.iload_n 3, 1) := by decide +kernel
theorem dz_half_227 : decode cz_half 227 = .ok (.lload 14, 2) := by decide +kernel
theorem dz_half_229 : decode cz_half 229 = .ok (.lastore, 1) := by decide +kernel
theorem dz_half_230 : decode cz_half 230 = .ok (.iload 4, 2) := by decide +kernel
theorem dz_half_232 : decode cz_half 232 = .ok (.iconst 2, 1) := by decide +kernel
theorem dz_half_233 : decode cz_half 233 = .ok (.if_icmp .lt 13, 3) := by decide +kernel
theorem dz_half_236 : decode cz_half 236 = .ok (.iload 4, 2) := by decide +kernel
theorem dz_half_238 : decode cz_half 238 = .ok (.iconst 3, 1) := by decide +kernel
theorem dz_half_239 : decode cz_half 239 = .ok (.if_icmp .ne 15, 3) := by decide +kernel
theorem dz_half_242 : decode cz_half 242 = .ok (.iload_n 2, 1) := by decide +kernel
theorem dz_half_243 : decode cz_half 243 = .ok (.ifCond .le 11, 3) := by decide +kernel
theorem dz_half_246 : decode cz_half 246 = .ok (.aload_n 0, 1) := by decide +kernel
theorem dz_half_247 : decode cz_half 247 = .ok (.getfield 47, 3) := by decide +kernel
theorem dz_half_250 : decode cz_half 250 = .ok (.iload_n 2, 1) := by decide +kernel
theorem dz_half_251 : decode cz_half 251 = .ok (.lload 14, 2) := by decide +kernel
theorem dz_half_253 : decode cz_half 253 = .ok (.lastore, 1) := by decide +kernel
theorem dz_half_254 : decode cz_half 254 = .ok (.iconst 0, 1) := by decide +kernel
theorem dz_half_255 : decode cz_half 255 = .ok (.ireturn, 1) := by decide +kernel
theorem dz_test_0 : decode cz_test 0 = .ok (.iload_n 1, 1) := by decide +kernel
theorem dz_test_1 : decode cz_test 1 = .ok (.bipush 8, 2) := by decide +kernel
theorem dz_test_3 : decode cz_test 3 = .ok (.iand, 1) := by decide +kernel
theorem dz_test_4 : decode cz_test 4 = .ok (.ifCond .eq 7, 3) := by decide +kernel
theorem dz_test_7 : decode cz_test 7 = .ok (.iconst 1, 1) := by decide +kernel
theorem dz_test_8 : decode cz_test 8 = .ok (.goto 4, 3) := by decide +kernel
theorem dz_test_11 : decode cz_test 11 = .ok (.iconst 0, 1) := by decide +kernel
theorem dz_test_12 : decode cz_test 12 = .ok (.istore 4, 2) := by decide +kernel
theorem dz_test_14 : decode cz_test 14 = .ok (.iload_n 1, 1) := by decide +kernel
theorem dz_test_15 : decode cz_test 15 = .ok (.iconst 1, 1) := by decide +kernel
theorem dz_test_16 : decode cz_test 16 = .ok (.iand, 1) := by decide +kernel
theorem dz_test_17 : decode cz_test 17 = .ok (.ifCond .eq 7, 3) := by decide +kernel
theorem dz_test_20 : decode cz_test 20 = .ok (.iconst 1, 1) := by decide +kernel
theorem dz_test_21 : decode cz_test 21 = .ok (.goto 4, 3) := by decide +kernel
theorem dz_test_24 : decode cz_test 24 = .ok (.iconst 0, 1) := by decide +kernel
theorem dz_test_25 : decode cz_test 25 = .ok (.istore 5, 2) := by decide +kernel
theorem dz_test_27 : decode cz_test 27 = .ok (.iload 4, 2) := by decide +kernel
theorem dz_test_29 : decode cz_test 29 = .ok (.ifCond .eq 12, 3) := by decide +kernel
theorem dz_test_32 : decode cz_test 32 = .ok (.iload_n 3, 1) := by decide +kernel
theorem dz_test_33 : decode cz_test 33 = .ok (.invokestatic 137, 3) := by decide +kernel
theorem dz_test_36 : decode cz_test 36 = .ok (.ifCond .eq 5, 3) := by decide +kernel
theorem dz_test_39 : decode cz_test 39 = .ok (.iconst 2, 1) := by decide +kernel
theorem dz_test_40 : decode cz_test 40 = .ok (.ireturn, 1) := by decide +kernel
theorem dz_test_41 : decode cz_test 41 = .ok (.iload 4, 2) := by decide +kernel
theorem dz_test_43 : decode cz_test 43 = .ok (.ifCond .eq 12, 3) := by decide +kernel
theorem dz_test_46 : decode cz_test 46 = .ok (.aload_n 0, 1) := by decide +kernel
theorem dz_test_47 : decode cz_test 47 = .ok (.getfield 47, 3) := by decide +kernel
theorem dz_test_50 : decode cz_test 50 = .ok (.iload_n 3, 1) := by decide +kernel
theorem dz_test_51 : decode cz_test 51 = .ok (.laload, 1) := by decide +kernel
theorem dz_test_52 : decode cz_test 52 = .ok (.goto 5, 3) := by decide +kernel
theorem dz_test_55 : decode cz_test 55 = .ok (.iload_n 3, 1) := by decide +kernel
theorem dz_test_56 : decode cz_test 56 = .ok (.i2l, 1) := by decide +kernel
theorem dz_test_57 : decode cz_test 57 = .ok (.lstore 6, 2) := by decide +kernel
theorem dz_test_59 : decode cz_test 59 = .ok (.aload_n 0, 1) := by decide +kernel
theorem dz_test_60 : decode cz_test 60 = .ok (.getfield 47, 3) := by decide +kernel
theorem dz_test_63 : decode cz_test 63 = .ok (.iload_n 2, 1) := by decide +kernel
theorem dz_test_64 : decode cz_test 64 = .ok (.laload, 1) := by decide +kernel
theorem dz_test_65 : decode cz_test 65 = .ok (.lstore 8, 2) := by decide +kernel
theorem dz_test_67 : decode cz_test 67 = .ok (.iload 5, 2) := by decide +kernel
theorem dz_test_69 : decode cz_test 69 = .ok (.ifCond .eq 10, 3) := by decide +kernel
theorem dz_test_72 : decode cz_test 72 = .ok (.lload 6, 2) := by decide +kernel
theorem dz_test_74 : decode cz_test 74 = .ok (.invokestatic 134, 3) := by decide +kernel
theorem dz_test_77 : decode cz_test 77 = .ok (.lstore 6, 2) := by decide +kernel
theorem dz_test_79 : decode cz_test 79 = .ok (.iload_n 1, 1) := by decide +kernel
theorem dz_test_80 : decode cz_test 80 = .ok (.iconst 1, 1) := by decide +kernel
theorem dz_test_81 : decode cz_test 81 = .ok (.ishr, 1) := by decide +kernel
theorem dz_test_82 : decode cz_test 82 = .ok (.iconst 3, 1) := by decide +kernel
theorem dz_test_83 : decode cz_test 83 = .ok (.iand, 1) := by decide +kernel
theorem dz_test_84 : decode cz_test 84 = .ok (.istore 10, 2) := by decide +kernel
theorem dz_test_86 : decode cz_test 86 = .ok (.iload_n 1, 1) := by decide +kernel
theorem dz_test_87 : decode cz_test 87 = .ok (.iconst 4, 1) := by decide +kernel
theorem dz_test_88 : decode cz_test 88 = .ok (.ishr, 1) := by decide +kernel
theorem dz_test_89 : decode cz_test 89 = .ok (.istore 11, 2) := by decide +kernel
theorem dz_test_91 : decode cz_test 91 = .ok (.iload 10, 2) := by decide +kernel
theorem dz_test_93 : decode cz_test 93 = .ok (.iconst 2, 1) := by decide +kernel
theorem dz_test_94 : decode cz_test 94 = .ok (.if_icmp .eq 35, 3) := by decide +kernel
theorem dz_test_97 : decode cz_test 97 = .ok (.iload 10, 2) := by decide +kernel
theorem dz_test_99 : decode cz_test 99 = .ok (.iconst 1, 1) := by decide +kernel
theorem dz_test_100 : decode cz_test 100 = .ok (.if_icmp .ne 13, 3) := by decide +kernel
theorem dz_test_103 : decode cz_test 103 = .ok (.lload 8, 2) := by decide +kernel
theorem dz_test_105 : decode cz_test 105 = .ok (.lload 6, 2) := by decide +kernel
theorem dz_test_107 : decode cz_test 107 = .ok (.land, 1) := by decide +kernel
theorem dz_test_108 : decode cz_test 108 = .ok (.lconst 0, 1) := by decide +kernel
theorem dz_test_109 : decode cz_test 109 = .ok (.lcmp, 1) := by decide +kernel
theorem dz_test_110 : decode cz_test 110 = .ok (.ifCond .eq 19, 3) := by decide +kernel
theorem dz_test_113 : decode cz_test 113 = .ok (.iload 10, 2) := by decide +kernel
theorem dz_test_115 : decode cz_test 115 = .ok (.iconst 3, 1) := by decide +kernel
theorem dz_test_116 : decode cz_test 116 = .ok (.if_icmp .ne 23, 3) := by decide +kernel
theorem dz_test_119 : decode cz_test 119 = .ok (.lload 8, 2) := by decide +kernel
theorem dz_test_121 : decode cz_test 121 = .ok (.lload 6, 2) := by decide +kernel
theorem dz_test_123 : decode cz_test 123 = .ok (.land, 1) := by decide +kernel
theorem dz_test_124 : decode cz_test 124 = .ok (.lconst 0, 1) := by decide +kernel
theorem dz_test_125 : decode cz_test 125 = .ok (.lcmp, 1) := by decide +kernel
theorem dz_test_126 : decode cz_test 126 = .ok (.ifCond .eq 13, 3) := by decide +kernel
theorem dz_test_129 : decode cz_test 129 = .ok (.aload_n 0, 1) := by decide +kernel
theorem dz_test_130 : decode cz_test 130 = .ok (.dup, 1) := by decide +kernel
theorem dz_test_131 : decode cz_test 131 = .ok (.getfield 44, 3) := by decide +kernel
theorem dz_test_134 : decode cz_test 134 = .ok (.iconst 1, 1) := by decide +kernel
theorem dz_test_135 : decode cz_test 135 = .ok (.iadd, 1) := by decide +kernel
theorem dz_test_136 : decode cz_test 136 = .ok (.putfield 44, 3) := by decide +kernel
theorem dz_test_139 : decode cz_test 139 = .ok (.iload 11, 2) := by decide +kernel
theorem dz_test_141 : decode cz_test 141 = .ok (.iconst 1, 1) := by decide +kernel
theorem dz_test_142 : decode cz_test 142 = .ok (.if_icmp .ne 22, 3) := by decide +kernel
theorem dz_test_145 : decode cz_test 145 = .ok (.aload_n 0, 1) := by decide +kernel
theorem dz_test_146 : decode cz_test 146 = .ok (.getfield 47, 3) := by decide +kernel
theorem dz_test_149 : decode cz_test 149 = .ok (.iload_n 2, 1) := by decide +kernel
theorem dz_test_150 : decode cz_test 150 = .ok (.lload 8, 2) := by decide +kernel
theorem dz_test_152 : decode cz_test 152 = .ok (.lload 6, 2) := by decide +kernel
theorem dz_test_154 : decode cz_test 154 = .ok (.ldc2_w 145, 3) := by decide +kernel
theorem dz_test_157 : decode cz_test 157 = .ok (.lxor, 1) := by decide +kernel
theorem dz_test_158 : decode cz_test 158 = .ok (.land, 1) := by decide +kernel
theorem dz_test_159 : decode cz_test 159 = .ok (.ldc2_w 7, 3) := by decide +kernel
theorem dz_test_162 : decode cz_test 162 = .ok (.land, 1) := by decide +kernel
theorem dz_test_163 : decode cz_test 163 = .ok (.lastore, 1) := by decide +kernel
theorem dz_test_164 : decode cz_test 164 = .ok (.iload 11, 2) := by decide +kernel
theorem dz_test_166 : decode cz_test 166 = .ok (.iconst 2, 1) := by decide +kernel
theorem dz_test_167 : decode cz_test 167 = .ok (.if_icmp .ne 14, 3) := by decide +kernel
theorem dz_test_170 : decode cz_test 170 = .ok (.aload_n 0, 1) := by decide +kernel
theorem dz_test_171 : decode cz_test 171 = .ok (.getfield 47, 3) := by decide +kernel
theorem dz_test_174 : decode cz_test 174 = .ok (.iload_n 2, 1) := by decide +kernel
theorem dz_test_175 : decode cz_test 175 = .ok (.lload 8, 2) := by decide +kernel
theorem dz_test_177 : decode cz_test 177 = .ok (.lload 6, 2) := by decide +kernel
theorem dz_test_179 : decode cz_test 179 = .ok (.lxor, 1) := by decide +kernel
theorem dz_test_180 : decode cz_test 180 = .ok (.lastore, 1) := by decide +kernel
theorem dz_test_181 : decode cz_test 181 = .ok (.iload 11, 2) := by decide +kernel
theorem dz_test_183 : decode cz_test 183 = .ok (.iconst 3, 1) := by decide +kernel
theorem dz_test_184 : decode cz_test 184 = .ok (.if_icmp .ne 14, 3) := by decide +kernel
theorem dz_test_187 : decode cz_test 187 = .ok (.aload_n 0, 1) := by decide +kernel
theorem dz_test_188 : decode cz_test 188 = .ok (.getfield 47, 3) := by decide +kernel
theorem dz_test_191 : decode cz_test 191 = .ok (.iload_n 2, 1) := by decide +kernel
theorem dz_test_192 : decode cz_test 192 = .ok (.lload 8, 2) := by decide +kernel
theorem dz_test_194 : decode cz_test 194 = .ok (.lload 6, 2) := by decide +kernel
theorem dz_test_196 : decode cz_test 196 = .ok (.lor, 1) := by decide +kernel
theorem dz_test_197 : decode cz_test 197 = .ok (.lastore, 1) := by decide +kernel
theorem dz_test_198 : decode cz_test 198 = .ok (.iconst 0, 1) := by decide +kernel
theorem dz_test_199 : decode cz_test 199 = .ok (.ireturn, 1) := by decide +kernel
theorem dz_holds_0 : decode cz_holds 0 = .ok (.iload_n 0, 1) := by decide +kernel
theorem dz_holds_1 : decode cz_holds 1 = .ok (.tableswitch 107 0 6 #[43, 45, 57, 69, 81, 83, 95], 43) := by decide +kernel
theorem dz_holds_44 : decode cz_holds 44 = .ok (.iconst 0, 1) := by decide +kernel
theorem dz_holds_45 : decode cz_holds 45 = .ok (.ireturn, 1) := by decide +kernel
theorem dz_holds_46 : decode cz_holds 46 = .ok (.lload_n 1, 1) := by decide +kernel
theorem dz_holds_47 : decode cz_holds 47 = .ok (.lload_n 3, 1) := by decide +kernel
theorem dz_holds_48 : decode cz_holds 48 = .ok (.lcmp, 1) := by decide +kernel
theorem dz_holds_49 : decode cz_holds 49 = .ok (.ifCond .ge 7, 3) := by decide +kernel
theorem dz_holds_52 : decode cz_holds 52 = .ok (.iconst 1, 1) := by decide +kernel
theorem dz_holds_53 : decode cz_holds 53 = .ok (.goto 4, 3) := by decide +kernel
theorem dz_holds_56 : decode cz_holds 56 = .ok (.iconst 0, 1) := by decide +kernel
theorem dz_holds_57 : decode cz_holds 57 = .ok (.ireturn, 1) := by decide +kernel
theorem dz_holds_58 : decode cz_holds 58 = .ok (.lload_n 1, 1) := by decide +kernel
theorem dz_holds_59 : decode cz_holds 59 = .ok (.lload_n 3, 1) := by decide +kernel
theorem dz_holds_60 : decode cz_holds 60 = .ok (.lcmp, 1) := by decide +kernel
theorem dz_holds_61 : decode cz_holds 61 = .ok (.ifCond .ne 7, 3) := by decide +kernel
theorem dz_holds_64 : decode cz_holds 64 = .ok (.iconst 1, 1) := by decide +kernel
theorem dz_holds_65 : decode cz_holds 65 = .ok (.goto 4, 3) := by decide +kernel
theorem dz_holds_68 : decode cz_holds 68 = .ok (.iconst 0, 1) := by decide +kernel
theorem dz_holds_69 : decode cz_holds 69 = .ok (.ireturn, 1) := by decide +kernel
theorem dz_holds_70 : decode cz_holds 70 = .ok (.lload_n 1, 1) := by decide +kernel
theorem dz_holds_71 : decode cz_holds 71 = .ok (.lload_n 3, 1) := by decide +kernel
theorem dz_holds_72 : decode cz_holds 72 = .ok (.lcmp, 1) := by decide +kernel
theorem dz_holds_73 : decode cz_holds 73 = .ok (.ifCond .gt 7, 3) := by decide +kernel
theorem dz_holds_76 : decode cz_holds 76 = .ok (.iconst 1, 1) := by decide +kernel
theorem dz_holds_77 : decode cz_holds 77 = .ok (.goto 4, 3) := by decide +kernel
theorem dz_holds_80 : decode cz_holds 80 = .ok (.iconst 0, 1) := by decide +kernel
theorem dz_holds_81 : decode cz_holds 81 = .ok (.ireturn, 1) := by decide +kernel
theorem dz_holds_82 : decode cz_holds 82 = .ok (.iconst 1, 1) := by decide +kernel
theorem dz_holds_83 : decode cz_holds 83 = .ok (.ireturn, 1) := by decide +kernel
theorem dz_holds_84 : decode cz_holds 84 = .ok (.lload_n 1, 1) := by decide +kernel
theorem dz_holds_85 : decode cz_holds 85 = .ok (.lload_n 3, 1) := by decide +kernel
theorem dz_holds_86 : decode cz_holds 86 = .ok (.lcmp, 1) := by decide +kernel
theorem dz_holds_87 : decode cz_holds 87 = .ok (.ifCond .lt 7, 3) := by decide +kernel
theorem dz_holds_90 : decode cz_holds 90 = .ok (.iconst 1, 1) := by decide +kernel
theorem dz_holds_91 : decode cz_holds 91 = .ok (.goto 4, 3) := by decide +kernel
theorem dz_holds_94 : decode cz_holds 94 = .ok (.iconst 0, 1) := by decide +kernel
theorem dz_holds_95 : decode cz_holds 95 = .ok (.ireturn, 1) := by decide +kernel
theorem dz_holds_96 : decode cz_holds 96 = .ok (.lload_n 1, 1) := by decide +kernel
theorem dz_holds_97 : decode cz_holds 97 = .ok (.lload_n 3, 1) := by decide +kernel
theorem dz_holds_98 : decode cz_holds 98 = .ok (.lcmp, 1) := by decide +kernel
theorem dz_holds_99 : decode cz_holds 99 = .ok (.ifCond .eq 7, 3) := by decide +kernel
theorem dz_holds_102 : decode cz_holds 102 = .ok (.iconst 1, 1) := by decide +kernel
theorem dz_holds_103 : decode cz_holds 103 = .ok (.goto 4, 3) := by decide +kernel
theorem dz_holds_106 : decode cz_holds 106 = .ok (.iconst 0, 1) := by decide +kernel
theorem dz_holds_107 : decode cz_holds 107 = .ok (.ireturn, 1) := by decide +kernel
theorem dz_holds_108 : decode cz_holds 108 = .ok (.lload_n 1, 1) := by decide +kernel
theorem dz_holds_109 : decode cz_holds 109 = .ok (.lload_n 3, 1) := by decide +kernel
theorem dz_holds_110 : decode cz_holds 110 = .ok (.lcmp, 1) := by decide +kernel
theorem dz_holds_111 : decode cz_holds 111 = .ok (.ifCond .le 7, 3) := by decide +kernel
theorem dz_holds_114 : decode cz_holds 114 = .ok (.iconst 1, 1) := by decide +kernel
theorem dz_holds_115 : decode cz_holds 115 = .ok (.goto 4, 3) := by decide +kernel
theorem dz_holds_118 : decode cz_holds 118 = .ok (.iconst 0, 1) := by decide +kernel
theorem dz_holds_119 : decode cz_holds 119 = .ok (.ireturn, 1) := by decide +kernel
theorem dz_next_0 : decode cz_next 0 = .ok (.lload_n 1, 1) := by decide +kernel
theorem dz_next_1 : decode cz_next 1 = .ok (.invokestatic 130, 3) := by decide +kernel
theorem dz_next_4 : decode cz_next 4 = .ok (.iload_n 3, 1) := by decide +kernel
theorem dz_next_5 : decode cz_next 5 = .ok (.i2l, 1) := by decide +kernel
theorem dz_next_6 : decode cz_next 6 = .ok (.ladd, 1) := by decide +kernel
theorem dz_next_7 : decode cz_next 7 = .ok (.lstore 4, 2) := by decide +kernel
theorem dz_next_9 : decode cz_next 9 = .ok (.lload 4, 2) := by decide +kernel
theorem dz_next_11 : decode cz_next 11 = .ok (.invokestatic 157, 3) := by decide +kernel
theorem dz_next_14 : decode cz_next 14 = .ok (.ifCond .ne 8, 3) := by decide +kernel
theorem dz_next_17 : decode cz_next 17 = .ok (.aload_n 0, 1) := by decide +kernel
theorem dz_next_18 : decode cz_next 18 = .ok (.iconst 1, 1) := by decide +kernel
theorem dz_next_19 : decode cz_next 19 = .ok (.putfield 33, 3) := by decide +kernel
theorem dz_next_22 : decode cz_next 22 = .ok (.lload 4, 2) := by decide +kernel
theorem dz_next_24 : decode cz_next 24 = .ok (.ldc2_w 7, 3) := by decide +kernel
theorem dz_next_27 : decode cz_next 27 = .ok (.land, 1) := by decide +kernel
theorem dz_next_28 : decode cz_next 28 = .ok (.lreturn, 1) := by decide +kernel
theorem dz_compare_0 : decode cz_compare 0 = .ok (.iload_n 1, 1) := by decide +kernel
theorem dz_compare_1 : decode cz_compare 1 = .ok (.iconst 1, 1) := by decide +kernel
theorem dz_compare_2 : decode cz_compare 2 = .ok (.if_icmp .eq 19, 3) := by decide +kernel
theorem dz_compare_5 : decode cz_compare 5 = .ok (.iload_n 1, 1) := by decide +kernel
theorem dz_compare_6 : decode cz_compare 6 = .ok (.iconst 3, 1) := by decide +kernel
theorem dz_compare_7 : decode cz_compare 7 = .ok (.if_icmp .eq 14, 3) := by decide +kernel
theorem dz_compare_10 : decode cz_compare 10 = .ok (.iload_n 1, 1) := by decide +kernel
theorem dz_compare_11 : decode cz_compare 11 = .ok (.iconst 5, 1) := by decide +kernel
theorem dz_compare_12 : decode cz_compare 12 = .ok (.if_icmp .eq 9, 3) := by decide +kernel
theorem dz_compare_15 : decode cz_compare 15 = .ok (.iload_n 1, 1) := by decide +kernel
theorem dz_compare_16 : decode cz_compare 16 = .ok (.bipush 7, 2) := by decide +kernel
theorem dz_compare_18 : decode cz_compare 18 = .ok (.if_icmp .ne 7, 3) := by decide +kernel
theorem dz_compare_21 : decode cz_compare 21 = .ok (.iconst 1, 1) := by decide +kernel
theorem dz_compare_22 : decode cz_compare 22 = .ok (.goto 4, 3) := by decide +kernel
theorem dz_compare_25 : decode cz_compare 25 = .ok (.iconst 0, 1) := by decide +kernel
theorem dz_compare_26 : decode cz_compare 26 = .ok (.istore 5, 2) := by decide +kernel
theorem dz_compare_28 : decode cz_compare 28 = .ok (.iload 5, 2) := by decide +kernel
theorem dz_compare_30 : decode cz_compare 30 = .ok (.ifCond .eq 13, 3) := by decide +kernel
theorem dz_compare_33 : decode cz_compare 33 = .ok (.iload 4, 2) := by decide +kernel
theorem dz_compare_35 : decode cz_compare 35 = .ok (.invokestatic 137, 3) := by decide +kernel
theorem dz_compare_38 : decode cz_compare 38 = .ok (.ifCond .eq 5, 3) := by decide +kernel
theorem dz_compare_41 : decode cz_compare 41 = .ok (.iconst 2, 1) := by decide +kernel
theorem dz_compare_42 : decode cz_compare 42 = .ok (.ireturn, 1) := by decide +kernel
theorem dz_compare_43 : decode cz_compare 43 = .ok (.iload_n 1, 1) := by decide +kernel
theorem dz_compare_44 : decode cz_compare 44 = .ok (.bipush 6, 2) := by decide +kernel
theorem dz_compare_46 : decode cz_compare 46 = .ok (.if_icmp .ge 7, 3) := by decide +kernel
theorem dz_compare_49 : decode cz_compare 49 = .ok (.iconst 1, 1) := by decide +kernel
theorem dz_compare_50 : decode cz_compare 50 = .ok (.goto 4, 3) := by decide +kernel
theorem dz_compare_53 : decode cz_compare 53 = .ok (.iconst (-1), 1) := by decide +kernel
theorem dz_compare_54 : decode cz_compare 54 = .ok (.istore 6, 2) := by decide +kernel
theorem dz_compare_56 : decode cz_compare 56 = .ok (.iload_n 1, 1) := by decide +kernel
theorem dz_compare_57 : decode cz_compare 57 = .ok (.tableswitch 139 0 6 #[43, 43, 91, 139, 91, 139, 91], 43) := by decide +kernel
theorem dz_compare_100 : decode cz_compare 100 = .ok (.iload_n 2, 1) := by decide +kernel
theorem dz_compare_101 : decode cz_compare 101 = .ok (.aload_n 0, 1) := by decide +kernel
theorem dz_compare_102 : decode cz_compare 102 = .ok (.getfield 47, 3) := by decide +kernel
theorem dz_compare_105 : decode cz_compare 105 = .ok (.iload_n 3, 1) := by decide +kernel
theorem dz_compare_106 : decode cz_compare 106 = .ok (.laload, 1) := by decide +kernel
theorem dz_compare_107 : decode cz_compare 107 = .ok (.invokestatic 130, 3) := by decide +kernel
theorem dz_compare_110 : decode cz_compare 110 = .ok (.iload_n 1, 1) := by decide +kernel
theorem dz_compare_111 : decode cz_compare 111 = .ok (.ifCond .ne 9, 3) := by decide +kernel
theorem dz_compare_114 : decode cz_compare 114 = .ok (.iload 4, 2) := by decide +kernel
theorem dz_compare_116 : decode cz_compare 116 = .ok (.i2l, 1) := by decide +kernel
theorem dz_compare_117 : decode cz_compare 117 = .ok (.goto 13, 3) := by decide +kernel
theorem dz_compare_120 : decode cz_compare 120 = .ok (.aload_n 0, 1) := by decide +kernel
theorem dz_compare_121 : decode cz_compare 121 = .ok (.getfield 47, 3) := by decide +kernel
theorem dz_compare_124 : decode cz_compare 124 = .ok (.iload 4, 2) := by decide +kernel
theorem dz_compare_126 : decode cz_compare 126 = .ok (.laload, 1) := by decide +kernel
theorem dz_compare_127 : decode cz_compare 127 = .ok (.invokestatic 130, 3) := by decide +kernel
theorem dz_compare_130 : decode cz_compare 130 = .ok (.invokestatic 161, 3) := by decide +kernel
theorem dz_compare_133 : decode cz_compare 133 = .ok (.ifCond .eq 13, 3) := by decide +kernel
theorem dz_compare_136 : decode cz_compare 136 = .ok (.aload_n 0, 1) := by decide +kernel
theorem dz_compare_137 : decode cz_compare 137 = .ok (.dup, 1) := by decide +kernel
theorem dz_compare_138 : decode cz_compare 138 = .ok (.getfield 44, 3) := by decide +kernel
theorem dz_compare_141 : decode cz_compare 141 = .ok (.iconst 1, 1) := by decide +kernel
theorem dz_compare_142 : decode cz_compare 142 = .ok (.iadd, 1) := by decide +kernel
theorem dz_compare_143 : decode cz_compare 143 = .ok (.putfield 44, 3) := by decide +kernel
theorem dz_compare_146 : decode cz_compare 146 = .ok (.iconst 0, 1) := by decide +kernel
theorem dz_compare_147 : decode cz_compare 147 = .ok (.ireturn, 1) := by decide +kernel
theorem dz_compare_148 : decode cz_compare 148 = .ok (.iload_n 1, 1) := by decide +kernel
theorem dz_compare_149 : decode cz_compare 149 = .ok (.iconst 2, 1) := by decide +kernel
theorem dz_compare_150 : decode cz_compare 150 = .ok (.if_icmp .le 21, 3) := by decide +kernel
theorem dz_compare_153 : decode cz_compare 153 = .ok (.aload_n 0, 1) := by decide +kernel
theorem dz_compare_154 : decode cz_compare 154 = .ok (.getfield 47, 3) := by decide +kernel
theorem dz_compare_157 : decode cz_compare 157 = .ok (.iload_n 3, 1) := by decide +kernel
theorem dz_compare_158 : decode cz_compare 158 = .ok (.aload_n 0, 1) := by decide +kernel
theorem dz_compare_159 : decode cz_compare 159 = .ok (.aload_n 0, 1) := by decide +kernel
theorem dz_compare_160 : decode cz_compare 160 = .ok (.getfield 47, 3) := by decide +kernel
theorem dz_compare_163 : decode cz_compare 163 = .ok (.iload_n 3, 1) := by decide +kernel
theorem dz_compare_164 : decode cz_compare 164 = .ok (.laload, 1) := by decide +kernel
theorem dz_compare_165 : decode cz_compare 165 = .ok (.iload 6, 2) := by decide +kernel
theorem dz_compare_167 : decode cz_compare 167 = .ok (.invokevirtual 165, 3) := by decide +kernel
theorem dz_compare_170 : decode cz_compare 170 = .ok (.lastore, 1) := by decide +kernel
theorem dz_compare_171 : decode cz_compare 171 = .ok (.iload_n 2, 1) := by decide +kernel
theorem dz_compare_172 : decode cz_compare 172 = .ok (.aload_n 0, 1) := by decide +kernel
theorem dz_compare_173 : decode cz_compare 173 = .ok (.getfield 47, 3) := by decide +kernel
theorem dz_compare_176 : decode cz_compare 176 = .ok (.iload_n 3, 1) := by decide +kernel
theorem dz_compare_177 : decode cz_compare 177 = .ok (.laload, 1) := by decide +kernel
theorem dz_compare_178 : decode cz_compare 178 = .ok (.invokestatic 130, 3) := by decide +kernel
theorem dz_compare_181 : decode cz_compare 181 = .ok (.lconst 0, 1) := by decide +kernel
theorem dz_compare_182 : decode cz_compare 182 = .ok (.invokestatic 161, 3) := by decide +kernel
theorem dz_compare_185 : decode cz_compare 185 = .ok (.ifCond .eq 9, 3) := by decide +kernel
theorem dz_compare_188 : decode cz_compare 188 = .ok (.aload_n 0, 1) := by decide +kernel
theorem dz_compare_189 : decode cz_compare 189 = .ok (.iload 4, 2) := by decide +kernel
theorem dz_compare_191 : decode cz_compare 191 = .ok (.putfield 44, 3) := by decide +kernel
theorem dz_compare_194 : decode cz_compare 194 = .ok (.iconst 0, 1) := by decide +kernel
theorem dz_compare_195 : decode cz_compare 195 = .ok (.ireturn, 1) := by decide +kernel
theorem dz_compare_196 : decode cz_compare 196 = .ok (.iload_n 1, 1) := by decide +kernel
theorem dz_compare_197 : decode cz_compare 197 = .ok (.iconst 3, 1) := by decide +kernel
theorem dz_compare_198 : decode cz_compare 198 = .ok (.if_icmp .le 19, 3) := by decide +kernel
theorem dz_compare_201 : decode cz_compare 201 = .ok (.aload_n 0, 1) := by decide +kernel
theorem dz_compare_202 : decode cz_compare 202 = .ok (.aload_n 0, 1) := by decide +kernel
theorem dz_compare_203 : decode cz_compare 203 = .ok (.getfield 47, 3) := by decide +kernel
theorem dz_compare_206 : decode cz_compare 206 = .ok (.iload 4, 2) := by decide +kernel
theorem dz_compare_208 : decode cz_compare 208 = .ok (.laload, 1) := by decide +kernel
theorem dz_compare_209 : decode cz_compare 209 = .ok (.iload 6, 2) := by decide +kernel
theorem dz_compare_211 : decode cz_compare 211 = .ok (.invokevirtual 165, 3) := by decide +kernel
theorem dz_compare_214 : decode cz_compare 214 = .ok (.goto 10, 3) := by decide +kernel
theorem dz_compare_217 : decode cz_compare 217 = .ok (.aload_n 0, 1) := by decide +kernel
theorem dz_compare_218 : decode cz_compare 218 = .ok (.getfield 47, 3) := by decide +kernel
theorem dz_compare_221 : decode cz_compare 221 = .ok (.iload 4, 2) := by decide +kernel
theorem dz_compare_223 : decode cz_compare 223 = .ok (.laload, 1) := by decide +kernel
theorem dz_compare_224 : decode cz_compare 224 = .ok (.lstore 7, 2) := by decide +kernel
theorem dz_compare_226 : decode cz_compare 226 = .ok (.aload_n 0, 1) := by decide +kernel
theorem dz_compare_227 : decode cz_compare 227 = .ok (.getfield 47, 3) := by decide +kernel
theorem dz_compare_230 : decode cz_compare 230 = .ok (.iload 4, 2) := by decide +kernel
theorem dz_compare_232 : decode cz_compare 232 = .ok (.lload 7, 2) := by decide +kernel
theorem dz_compare_234 : decode cz_compare 234 = .ok (.lastore, 1) := by decide +kernel
theorem dz_compare_235 : decode cz_compare 235 = .ok (.iload_n 3, 1) := by decide +kernel
theorem dz_compare_236 : decode cz_compare 236 = .ok (.ifCond .le 11, 3) := by decide +kernel
theorem dz_compare_239 : decode cz_compare 239 = .ok (.aload_n 0, 1) := by decide +kernel
theorem dz_compare_240 : decode cz_compare 240 = .ok (.getfield 47, 3) := by decide +kernel
theorem dz_compare_243 : decode cz_compare 243 = .ok (.iload_n 3, 1) := by decide +kernel
theorem dz_compare_244 : decode cz_compare 244 = .ok (.lload 7, 2) := by decide +kernel
theorem dz_compare_246 : decode cz_compare 246 = .ok (.lastore, 1) := by decide +kernel
theorem dz_compare_247 : decode cz_compare 247 = .ok (.iload_n 2, 1) := by decide +kernel
theorem dz_compare_248 : decode cz_compare 248 = .ok (.lload 7, 2) := by decide +kernel
theorem dz_compare_250 : decode cz_compare 250 = .ok (.invokestatic 130, 3) := by decide +kernel
theorem dz_compare_253 : decode cz_compare 253 = .ok (.lconst 0, 1) := by decide +kernel
theorem dz_compare_254 : decode cz_compare 254 = .ok (.invokestatic 161, 3) := by decide +kernel
theorem dz_compare_257 : decode cz_compare 257 = .ok (.ifCond .eq 13, 3) := by decide +kernel
theorem dz_compare_260 : decode cz_compare 260 = .ok (.aload_n 0, 1) := by decide +kernel
theorem dz_compare_261 : decode cz_compare 261 = .ok (.dup, 1) := by decide +kernel
theorem dz_compare_262 : decode cz_compare 262 = .ok (.getfield 44, 3) := by decide +kernel
theorem dz_compare_265 : decode cz_compare 265 = .ok (.iconst 1, 1) := by decide +kernel
theorem dz_compare_266 : decode cz_compare 266 = .ok (.iadd, 1) := by decide +kernel
theorem dz_compare_267 : decode cz_compare 267 = .ok (.putfield 44, 3) := by decide +kernel
theorem dz_compare_270 : decode cz_compare 270 = .ok (.iconst 0, 1) := by decide +kernel
theorem dz_compare_271 : decode cz_compare 271 = .ok (.ireturn, 1) := by decide +kernel
theorem dz_shift_0 : decode cz_shift 0 = .ok (.iload_n 3, 1) := by decide +kernel
theorem dz_shift_1 : decode cz_shift 1 = .ok (.bipush 17, 2) := by decide +kernel
theorem dz_shift_3 : decode cz_shift 3 = .ok (.ishr, 1) := by decide +kernel
theorem dz_shift_4 : decode cz_shift 4 = .ok (.iconst 1, 1) := by decide +kernel
theorem dz_shift_5 : decode cz_shift 5 = .ok (.if_icmp .ne 12, 3) := by decide +kernel
theorem dz_shift_8 : decode cz_shift 8 = .ok (.iload_n 3, 1) := by decide +kernel
theorem dz_shift_9 : decode cz_shift 9 = .ok (.ldc 9, 2) := by decide +kernel
theorem dz_shift_11 : decode cz_shift 11 = .ok (.isub, 1) := by decide +kernel
theorem dz_shift_12 : decode cz_shift 12 = .ok (.iconst 1, 1) := by decide +kernel
theorem dz_shift_13 : decode cz_shift 13 = .ok (.isub, 1) := by decide +kernel
theorem dz_shift_14 : decode cz_shift 14 = .ok (.goto 4, 3) := by decide +kernel
theorem dz_shift_17 : decode cz_shift 17 = .ok (.iload_n 3, 1) := by decide +kernel
theorem dz_shift_18 : decode cz_shift 18 = .ok (.sipush 256, 3) := by decide +kernel
theorem dz_shift_21 : decode cz_shift 21 = .ok (.irem, 1) := by decide +kernel
theorem dz_shift_22 : decode cz_shift 22 = .ok (.istore 4, 2) := by decide +kernel
theorem dz_shift_24 : decode cz_shift 24 = .ok (.aload_n 0, 1) := by decide +kernel
theorem dz_shift_25 : decode cz_shift 25 = .ok (.getfield 47, 3) := by decide +kernel
theorem dz_shift_28 : decode cz_shift 28 = .ok (.iload_n 2, 1) := by decide +kernel
theorem dz_shift_29 : decode cz_shift 29 = .ok (.laload, 1) := by decide +kernel
theorem dz_shift_30 : decode cz_shift 30 = .ok (.lstore 5, 2) := by decide +kernel
theorem dz_shift_32 : decode cz_shift 32 = .ok (.iload_n 1, 1) := by decide +kernel
theorem dz_shift_33 : decode cz_shift 33 = .ok (.iconst 3, 1) := by decide +kernel
theorem dz_shift_34 : decode cz_shift 34 = .ok (.if_icmp .ne 73, 3) := by decide +kernel
theorem dz_shift_37 : decode cz_shift 37 = .ok (.iconst 0, 1) := by decide +kernel
theorem dz_shift_38 : decode cz_shift 38 = .ok (.istore 7, 2) := by decide +kernel
theorem dz_shift_40 : decode cz_shift 40 = .ok (.iload 7, 2) := by decide +kernel
theorem dz_shift_42 : decode cz_shift 42 = .ok (.bipush 36, 2) := by decide +kernel
theorem dz_shift_44 : decode cz_shift 44 = .ok (.if_icmp .ge 24, 3) := by decide +kernel
theorem dz_shift_47 : decode cz_shift 47 = .ok (.lload 5, 2) := by decide +kernel
theorem dz_shift_49 : decode cz_shift 49 = .ok (.bipush 35, 2) := by decide +kernel
theorem dz_shift_51 : decode cz_shift 51 = .ok (.iload 7, 2) := by decide +kernel
theorem dz_shift_53 : decode cz_shift 53 = .ok (.isub, 1) := by decide +kernel
theorem dz_shift_54 : decode cz_shift 54 = .ok (.lshr, 1) := by decide +kernel
theorem dz_shift_55 : decode cz_shift 55 = .ok (.lconst 1, 1) := by decide +kernel
theorem dz_shift_56 : decode cz_shift 56 = .ok (.land, 1) := by decide +kernel
theorem dz_shift_57 : decode cz_shift 57 = .ok (.lconst 0, 1) := by decide +kernel
theorem dz_shift_58 : decode cz_shift 58 = .ok (.lcmp, 1) := by decide +kernel
theorem dz_shift_59 : decode cz_shift 59 = .ok (.ifCond .ne 9, 3) := by decide +kernel
theorem dz_shift_62 : decode cz_shift 62 = .ok (.iinc 7 1, 3) := by decide +kernel
theorem dz_shift_65 : decode cz_shift 65 = .ok (.goto (-25), 3) := by decide +kernel
theorem dz_shift_68 : decode cz_shift 68 = .ok (.aload_n 0, 1) := by decide +kernel
theorem dz_shift_69 : decode cz_shift 69 = .ok (.getfield 47, 3) := by decide +kernel
theorem dz_shift_72 : decode cz_shift 72 = .ok (.iload_n 2, 1) := by decide +kernel
theorem dz_shift_73 : decode cz_shift 73 = .ok (.iconst 1, 1) := by decide +kernel
theorem dz_shift_74 : decode cz_shift 74 = .ok (.iadd, 1) := by decide +kernel
theorem dz_shift_75 : decode cz_shift 75 = .ok (.bipush 15, 2) := by decide +kernel
theorem dz_shift_77 : decode cz_shift 77 = .ok (.iand, 1) := by decide +kernel
theorem dz_shift_78 : decode cz_shift 78 = .ok (.iload 7, 2) := by decide +kernel
theorem dz_shift_80 : decode cz_shift 80 = .ok (.bipush 36, 2) := by decide +kernel
theorem dz_shift_82 : decode cz_shift 82 = .ok (.if_icmp .ne 7, 3) := by decide +kernel
theorem dz_shift_85 : decode cz_shift 85 = .ok (.lconst 0, 1) := by decide +kernel
theorem dz_shift_86 : decode cz_shift 86 = .ok (.goto 6, 3) := by decide +kernel
theorem dz_shift_89 : decode cz_shift 89 = .ok (.iload 7, 2) := by decide +kernel
theorem dz_shift_91 : decode cz_shift 91 = .ok (.i2l, 1) := by decide +kernel
theorem dz_shift_92 : decode cz_shift 92 = .ok (.lastore, 1) := by decide +kernel
theorem dz_shift_93 : decode cz_shift 93 = .ok (.iload 7, 2) := by decide +kernel
theorem dz_shift_95 : decode cz_shift 95 = .ok (.bipush 36, 2) := by decide +kernel
theorem dz_shift_97 : decode cz_shift 97 = .ok (.if_icmp .ge 8, 3) := by decide +kernel
theorem dz_shift_100 : decode cz_shift 100 = .ok (.aload_n 0, 1) := by decide +kernel
theorem dz_shift_101 : decode cz_shift 101 = .ok (.iload_n 3, 1) := by decide +kernel
theorem dz_shift_102 : decode cz_shift 102 = .ok (.putfield 44, 3) := by decide +kernel
theorem dz_shift_105 : decode cz_shift 105 = .ok (.iconst 0, 1) := by decide +kernel
theorem dz_shift_106 : decode cz_shift 106 = .ok (.ireturn, 1) := by decide +kernel
theorem dz_shift_107 : decode cz_shift 107 = .ok (.iload 4, 2) := by decide +kernel
theorem dz_shift_109 : decode cz_shift 109 = .ok (.invokestatic 169, 3) := by decide +kernel
theorem dz_shift_112 : decode cz_shift 112 = .ok (.istore 7, 2) := by decide +kernel
theorem dz_shift_114 : decode cz_shift 114 = .ok (.iload 7, 2) := by decide +kernel
theorem dz_shift_116 : decode cz_shift 116 = .ok (.ifCond .le 128, 3) := by decide +kernel
theorem dz_shift_119 : decode cz_shift 119 = .ok (.lload 5, 2) := by decide +kernel
theorem dz_shift_121 : decode cz_shift 121 = .ok (.bipush 35, 2) := by decide +kernel
theorem dz_shift_123 : decode cz_shift 123 = .ok (.lshr, 1) := by decide +kernel
theorem dz_shift_124 : decode cz_shift 124 = .ok (.lstore 8, 2) := by decide +kernel
theorem dz_shift_126 : decode cz_shift 126 = .ok (.lload 5, 2) := by decide +kernel
theorem dz_shift_128 : decode cz_shift 128 = .ok (.lconst 1, 1) := by decide +kernel
theorem dz_shift_129 : decode cz_shift 129 = .ok (.land, 1) := by decide +kernel
theorem dz_shift_130 : decode cz_shift 130 = .ok (.lstore 10, 2) := by decide +kernel
theorem dz_shift_132 : decode cz_shift 132 = .ok (.iload 4, 2) := by decide +kernel
theorem dz_shift_134 : decode cz_shift 134 = .ok (.ifCond .le 71, 3) := by decide +kernel
theorem dz_shift_137 : decode cz_shift 137 = .ok (.iload_n 1, 1) := by decide +kernel
theorem dz_shift_138 : decode cz_shift 138 = .ok (.ifCond .ne 21, 3) := by decide +kernel
theorem dz_shift_141 : decode cz_shift 141 = .ok (.lload 5, 2) := by decide +kernel
theorem dz_shift_143 : decode cz_shift 143 = .ok (.bipush 34, 2) := by decide +kernel
theorem dz_shift_145 : decode cz_shift 145 = .ok (.lshr, 1) := by decide +kernel
theorem dz_shift_146 : decode cz_shift 146 = .ok (.lconst 1, 1) := by decide +kernel
theorem dz_shift_147 : decode cz_shift 147 = .ok (.land, 1) := by decide +kernel
theorem dz_shift_148 : decode cz_shift 148 = .ok (.lload 8, 2) := by decide +kernel
theorem dz_shift_150 : decode cz_shift 150 = .ok (.lcmp, 1) := by decide +kernel
theorem dz_shift_151 : decode cz_shift 151 = .ok (.ifCond .eq 8, 3) := by decide +kernel
theorem dz_shift_154 : decode cz_shift 154 = .ok (.aload_n 0, 1) := by decide +kernel
theorem dz_shift_155 : decode cz_shift 155 = .ok (.iconst 1, 1) := by decide +kernel
theorem dz_shift_156 : decode cz_shift 156 = .ok (.putfield 33, 3) := by decide +kernel
theorem dz_shift_159 : decode cz_shift 159 = .ok (.iload_n 1, 1) := by decide +kernel
theorem dz_shift_160 : decode cz_shift 160 = .ok (.ifCond .ne 20, 3) := by decide +kernel
theorem dz_shift_163 : decode cz_shift 163 = .ok (.lload 8, 2) := by decide +kernel
theorem dz_shift_165 : decode cz_shift 165 = .ok (.bipush 35, 2) := by decide +kernel
theorem dz_shift_167 : decode cz_shift 167 = .ok (.lshl, 1) := by decide +kernel
theorem dz_shift_168 : decode cz_shift 168 = .ok (.lload 5, 2) := by decide +kernel
theorem dz_shift_170 : decode cz_shift 170 = .ok (.iconst 1, 1) := by decide +kernel
theorem dz_shift_171 : decode cz_shift 171 = .ok (.lshl, 1) := by decide +kernel
theorem dz_shift_172 : decode cz_shift 172 = .ok (.ldc2_w 5, 3) := by decide +kernel
theorem dz_shift_175 : decode cz_shift 175 = .ok (.land, 1) := by decide +kernel
theorem dz_shift_176 : decode cz_shift 176 = .ok (.lor, 1) := by decide +kernel
theorem dz_shift_177 : decode cz_shift 177 = .ok (.goto 23, 3) := by decide +kernel
theorem dz_shift_180 : decode cz_shift 180 = .ok (.lload 5, 2) := by decide +kernel
theorem dz_shift_182 : decode cz_shift 182 = .ok (.iconst 1, 1) := by decide +kernel
theorem dz_shift_183 : decode cz_shift 183 = .ok (.lshl, 1) := by decide +kernel
theorem dz_shift_184 : decode cz_shift 184 = .ok (.ldc2_w 7, 3) := by decide +kernel
theorem dz_shift_187 : decode cz_shift 187 = .ok (.land, 1) := by decide +kernel
theorem dz_shift_188 : decode cz_shift 188 = .ok (.iload_n 1, 1) := by decide +kernel
theorem dz_shift_189 : decode cz_shift 189 = .ok (.iconst 1, 1) := by decide +kernel
theorem dz_shift_190 : decode cz_shift 190 = .ok (.if_icmp .ne 8, 3) := by decide +kernel
theorem dz_shift_193 : decode cz_shift 193 = .ok (.lload 8, 2) := by decide +kernel
theorem dz_shift_195 : decode cz_shift 195 = .ok (.goto 4, 3) := by decide +kernel
theorem dz_shift_198 : decode cz_shift 198 = .ok (.lconst 0, 1) := by decide +kernel
theorem dz_shift_199 : decode cz_shift 199 = .ok (.lor, 1) := by decide +kernel
theorem dz_shift_200 : decode cz_shift 200 = .ok (.lstore 5, 2) := by decide +kernel
theorem dz_shift_202 : decode cz_shift 202 = .ok (.goto 36, 3) := by decide +kernel
theorem dz_shift_205 : decode cz_shift 205 = .ok (.lload 5, 2) := by decide +kernel
theorem dz_shift_207 : decode cz_shift 207 = .ok (.iconst 1, 1) := by decide +kernel
theorem dz_shift_208 : decode cz_shift 208 = .ok (.lshr, 1) := by decide +kernel
theorem dz_shift_209 : decode cz_shift 209 = .ok (.iload_n 1, 1) := by decide +kernel
theorem dz_shift_210 : decode cz_shift 210 = .ok (.ifCond .ne 11, 3) := by decide +kernel
theorem dz_shift_213 : decode cz_shift 213 = .ok (.lload 8, 2) := by decide +kernel
theorem dz_shift_215 : decode cz_shift 215 = .ok (.bipush 35, 2) := by decide +kernel
theorem dz_shift_217 : decode cz_shift 217 = .ok (.lshl, 1) := by decide +kernel
theorem dz_shift_218 : decode cz_shift 218 = .ok (.goto 17, 3) := by decide +kernel
theorem dz_shift_221 : decode cz_shift 221 = .ok (.iload_n 1, 1) := by decide +kernel
theorem dz_shift_222 : decode cz_shift 222 = .ok (.iconst 1, 1) := by decide +kernel
theorem dz_shift_223 : decode cz_shift 223 = .ok (.if_icmp .ne 11, 3) := by decide +kernel
theorem dz_shift_226 : decode cz_shift 226 = .ok (.lload 10, 2) := by decide +kernel
theorem dz_shift_228 : decode cz_shift 228 = .ok (.bipush 35, 2) := by decide +kernel
theorem dz_shift_230 : decode cz_shift 230 = .ok (.lshl, 1) := by decide +kernel
theorem dz_shift_231 : decode cz_shift 231 = .ok (.goto 4, 3) := by decide +kernel
theorem dz_shift_234 : decode cz_shift 234 = .ok (.lconst 0, 1) := by decide +kernel
theorem dz_shift_235 : decode cz_shift 235 = .ok (.lor, 1) := by decide +kernel
theorem dz_shift_236 : decode cz_shift 236 = .ok (.lstore 5, 2) := by decide +kernel
theorem dz_shift_238 : decode cz_shift 238 = .ok (.iinc 7 (-1), 3) := by decide +kernel
theorem dz_shift_241 : decode cz_shift 241 = .ok (.goto (-127), 3) := by decide +kernel
theorem dz_shift_244 : decode cz_shift 244 = .ok (.aload_n 0, 1) := by decide +kernel
theorem dz_shift_245 : decode cz_shift 245 = .ok (.getfield 47, 3) := by decide +kernel
theorem dz_shift_248 : decode cz_shift 248 = .ok (.iload_n 2, 1) := by decide +kernel
theorem dz_shift_249 : decode cz_shift 249 = .ok (.lload 5, 2) := by decide +kernel
theorem dz_shift_251 : decode cz_shift 251 = .ok (.lastore, 1) := by decide +kernel
theorem dz_shift_252 : decode cz_shift 252 = .ok (.iconst 0, 1) := by decide +kernel
theorem dz_shift_253 : decode cz_shift 253 = .ok (.ireturn, 1) := by decide +kernel
theorem dz_both_0 : decode cz_both 0 = .ok (.lload_n 0, 1) := by decide +kernel
theorem dz_both_1 : decode cz_both 1 = .ok (.invokestatic 14, 3) := by decide +kernel
theorem dz_both_4 : decode cz_both 4 = .ok (.iload_n 2, 1) := by decide +kernel
theorem dz_both_5 : decode cz_both 5 = .ok (.iadd, 1) := by decide +kernel
theorem dz_both_6 : decode cz_both 6 = .ok (.lload_n 0, 1) := by decide +kernel
theorem dz_both_7 : decode cz_both 7 = .ok (.invokestatic 10, 3) := by decide +kernel
theorem dz_both_10 : decode cz_both 10 = .ok (.iload_n 2, 1) := by decide +kernel
theorem dz_both_11 : decode cz_both 11 = .ok (.iadd, 1) := by decide +kernel
theorem dz_both_12 : decode cz_both 12 = .ok (.invokestatic 17, 3) := by decide +kernel
theorem dz_both_15 : decode cz_both 15 = .ok (.lreturn, 1) := by decide +kernel
theorem dz_odd_0 : decode cz_odd 0 = .ok (.aload_n 0, 1) := by decide +kernel
theorem dz_odd_1 : decode cz_odd 1 = .ok (.getfield 47, 3) := by decide +kernel
theorem dz_odd_4 : decode cz_odd 4 = .ok (.iload_n 2, 1) := by decide +kernel
theorem dz_odd_5 : decode cz_odd 5 = .ok (.laload, 1) := by decide +kernel
theorem dz_odd_6 : decode cz_odd 6 = .ok (.lstore 4, 2) := by decide +kernel
theorem dz_odd_8 : decode cz_odd 8 = .ok (.iload_n 1, 1) := by decide +kernel
theorem dz_odd_9 : decode cz_odd 9 = .ok (.tableswitch 211 168 172 #[35, 66, 151, 151, 204], 35) := by decide +kernel
theorem dz_odd_44 : decode cz_odd 44 = .ok (.iload_n 3, 1) := by decide +kernel
theorem dz_odd_45 : decode cz_odd 45 = .ok (.invokestatic 137, 3) := by decide +kernel
theorem dz_odd_48 : decode cz_odd 48 = .ok (.ifCond .eq 5, 3) := by decide +kernel
theorem dz_odd_51 : decode cz_odd 51 = .ok (.iconst 2, 1) := by decide +kernel
theorem dz_odd_52 : decode cz_odd 52 = .ok (.ireturn, 1) := by decide +kernel
theorem dz_odd_53 : decode cz_odd 53 = .ok (.aload_n 0, 1) := by decide +kernel
theorem dz_odd_54 : decode cz_odd 54 = .ok (.getfield 47, 3) := by decide +kernel
theorem dz_odd_57 : decode cz_odd 57 = .ok (.iload_n 2, 1) := by decide +kernel
theorem dz_odd_58 : decode cz_odd 58 = .ok (.aload_n 0, 1) := by decide +kernel
theorem dz_odd_59 : decode cz_odd 59 = .ok (.getfield 47, 3) := by decide +kernel
theorem dz_odd_62 : decode cz_odd 62 = .ok (.iload_n 3, 1) := by decide +kernel
theorem dz_odd_63 : decode cz_odd 63 = .ok (.laload, 1) := by decide +kernel
theorem dz_odd_64 : decode cz_odd 64 = .ok (.lastore, 1) := by decide +kernel
theorem dz_odd_65 : decode cz_odd 65 = .ok (.aload_n 0, 1) := by decide +kernel
theorem dz_odd_66 : decode cz_odd 66 = .ok (.getfield 47, 3) := by decide +kernel
theorem dz_odd_69 : decode cz_odd 69 = .ok (.iload_n 3, 1) := by decide +kernel
theorem dz_odd_70 : decode cz_odd 70 = .ok (.lload 4, 2) := by decide +kernel
theorem dz_odd_72 : decode cz_odd 72 = .ok (.lastore, 1) := by decide +kernel
theorem dz_odd_73 : decode cz_odd 73 = .ok (.iconst 0, 1) := by decide +kernel
theorem dz_odd_74 : decode cz_odd 74 = .ok (.ireturn, 1) := by decide +kernel
theorem dz_odd_75 : decode cz_odd 75 = .ok (.lload 4, 2) := by decide +kernel
theorem dz_odd_77 : decode cz_odd 77 = .ok (.invokestatic 14, 3) := by decide +kernel
theorem dz_odd_80 : decode cz_odd 80 = .ok (.istore 6, 2) := by decide +kernel
theorem dz_odd_82 : decode cz_odd 82 = .ok (.lload 4, 2) := by decide +kernel
theorem dz_odd_84 : decode cz_odd 84 = .ok (.invokestatic 10, 3) := by decide +kernel
theorem dz_odd_87 : decode cz_odd 87 = .ok (.istore 7, 2) := by decide +kernel
theorem dz_odd_89 : decode cz_odd 89 = .ok (.iload 7, 2) := by decide +kernel
theorem dz_odd_91 : decode cz_odd 91 = .ok (.iload_n 3, 1) := by decide +kernel
theorem dz_odd_92 : decode cz_odd 92 = .ok (.invokestatic 173, 3) := by decide +kernel
theorem dz_odd_95 : decode cz_odd 95 = .ok (.istore 8, 2) := by decide +kernel
theorem dz_odd_97 : decode cz_odd 97 = .ok (.iload 8, 2) := by decide +kernel
theorem dz_odd_99 : decode cz_odd 99 = .ok (.sipush 4096, 3) := by decide +kernel
theorem dz_odd_102 : decode cz_odd 102 = .ok (.if_icmp .ge 17, 3) := by decide +kernel
theorem dz_odd_105 : decode cz_odd 105 = .ok (.iload 6, 2) := by decide +kernel
theorem dz_odd_107 : decode cz_odd 107 = .ok (.iload 8, 2) := by decide +kernel
theorem dz_odd_109 : decode cz_odd 109 = .ok (.iadd, 1) := by decide +kernel
theorem dz_odd_110 : decode cz_odd 110 = .ok (.iload 7, 2) := by decide +kernel
theorem dz_odd_112 : decode cz_odd 112 = .ok (.isub, 1) := by decide +kernel
theorem dz_odd_113 : decode cz_odd 113 = .ok (.sipush 4096, 3) := by decide +kernel
theorem dz_odd_116 : decode cz_odd 116 = .ok (.if_icmp .lt 5, 3) := by decide +kernel
theorem dz_odd_119 : decode cz_odd 119 = .ok (.iconst 2, 1) := by decide +kernel
theorem dz_odd_120 : decode cz_odd 120 = .ok (.ireturn, 1) := by decide +kernel
theorem dz_odd_121 : decode cz_odd 121 = .ok (.iload 7, 2) := by decide +kernel
theorem dz_odd_123 : decode cz_odd 123 = .ok (.istore 9, 2) := by decide +kernel
theorem dz_odd_125 : decode cz_odd 125 = .ok (.iload 9, 2) := by decide +kernel
theorem dz_odd_127 : decode cz_odd 127 = .ok (.iload 8, 2) := by decide +kernel
theorem dz_odd_129 : decode cz_odd 129 = .ok (.if_icmp .gt 29, 3) := by decide +kernel
theorem dz_odd_132 : decode cz_odd 132 = .ok (.aload_n 0, 1) := by decide +kernel
theorem dz_odd_133 : decode cz_odd 133 = .ok (.getfield 47, 3) := by decide +kernel
theorem dz_odd_136 : decode cz_odd 136 = .ok (.iload 9, 2) := by decide +kernel
theorem dz_odd_138 : decode cz_odd 138 = .ok (.aload_n 0, 1) := by decide +kernel
theorem dz_odd_139 : decode cz_odd 139 = .ok (.getfield 47, 3) := by decide +kernel
theorem dz_odd_142 : decode cz_odd 142 = .ok (.iload 6, 2) := by decide +kernel
theorem dz_odd_144 : decode cz_odd 144 = .ok (.iload 9, 2) := by decide +kernel
theorem dz_odd_146 : decode cz_odd 146 = .ok (.iadd, 1) := by decide +kernel
theorem dz_odd_147 : decode cz_odd 147 = .ok (.iload 7, 2) := by decide +kernel
theorem dz_odd_149 : decode cz_odd 149 = .ok (.isub, 1) := by decide +kernel
theorem dz_odd_150 : decode cz_odd 150 = .ok (.laload, 1) := by decide +kernel
theorem dz_odd_151 : decode cz_odd 151 = .ok (.lastore, 1) := by decide +kernel
theorem dz_odd_152 : decode cz_odd 152 = .ok (.iinc 9 1, 3) := by decide +kernel
theorem dz_odd_155 : decode cz_odd 155 = .ok (.goto (-30), 3) := by decide +kernel
theorem dz_odd_158 : decode cz_odd 158 = .ok (.iconst 0, 1) := by decide +kernel
theorem dz_odd_159 : decode cz_odd 159 = .ok (.ireturn, 1) := by decide +kernel
theorem dz_odd_160 : decode cz_odd 160 = .ok (.aload_n 0, 1) := by decide +kernel
theorem dz_odd_161 : decode cz_odd 161 = .ok (.getfield 47, 3) := by decide +kernel
theorem dz_odd_164 : decode cz_odd 164 = .ok (.iload_n 2, 1) := by decide +kernel
theorem dz_odd_165 : decode cz_odd 165 = .ok (.lload 4, 2) := by decide +kernel
theorem dz_odd_167 : decode cz_odd 167 = .ok (.iconst 1, 1) := by decide +kernel
theorem dz_odd_168 : decode cz_odd 168 = .ok (.invokestatic 177, 3) := by decide +kernel
theorem dz_odd_171 : decode cz_odd 171 = .ok (.lastore, 1) := by decide +kernel
theorem dz_odd_172 : decode cz_odd 172 = .ok (.aload_n 0, 1) := by decide +kernel
theorem dz_odd_173 : decode cz_odd 173 = .ok (.getfield 47, 3) := by decide +kernel
theorem dz_odd_176 : decode cz_odd 176 = .ok (.iload_n 2, 1) := by decide +kernel
theorem dz_odd_177 : decode cz_odd 177 = .ok (.laload, 1) := by decide +kernel
theorem dz_odd_178 : decode cz_odd 178 = .ok (.invokestatic 130, 3) := by decide +kernel
theorem dz_odd_181 : decode cz_odd 181 = .ok (.lconst 0, 1) := by decide +kernel
theorem dz_odd_182 : decode cz_odd 182 = .ok (.lcmp, 1) := by decide +kernel
theorem dz_odd_183 : decode cz_odd 183 = .ok (.ifCond .lt 7, 3) := by decide +kernel
theorem dz_odd_186 : decode cz_odd 186 = .ok (.iconst 1, 1) := by decide +kernel
theorem dz_odd_187 : decode cz_odd 187 = .ok (.goto 4, 3) := by decide +kernel
theorem dz_odd_190 : decode cz_odd 190 = .ok (.iconst 0, 1) := by decide +kernel
theorem dz_odd_191 : decode cz_odd 191 = .ok (.iload_n 1, 1) := by decide +kernel
theorem dz_odd_192 : decode cz_odd 192 = .ok (.sipush 170, 3) := by decide +kernel
theorem dz_odd_195 : decode cz_odd 195 = .ok (.if_icmp .ne 7, 3) := by decide +kernel
theorem dz_odd_198 : decode cz_odd 198 = .ok (.iconst 1, 1) := by decide +kernel
theorem dz_odd_199 : decode cz_odd 199 = .ok (.goto 4, 3) := by decide +kernel
theorem dz_odd_202 : decode cz_odd 202 = .ok (.iconst 0, 1) := by decide +kernel
theorem dz_odd_203 : decode cz_odd 203 = .ok (.if_icmp .ne 8, 3) := by decide +kernel
theorem dz_odd_206 : decode cz_odd 206 = .ok (.aload_n 0, 1) := by decide +kernel
theorem dz_odd_207 : decode cz_odd 207 = .ok (.iload_n 3, 1) := by decide +kernel
theorem dz_odd_208 : decode cz_odd 208 = .ok (.putfield 44, 3) := by decide +kernel
theorem dz_odd_211 : decode cz_odd 211 = .ok (.iconst 0, 1) := by decide +kernel
theorem dz_odd_212 : decode cz_odd 212 = .ok (.ireturn, 1) := by decide +kernel
theorem dz_odd_213 : decode cz_odd 213 = .ok (.aload_n 0, 1) := by decide +kernel
theorem dz_odd_214 : decode cz_odd 214 = .ok (.iload_n 3, 1) := by decide +kernel
theorem dz_odd_215 : decode cz_odd 215 = .ok (.putfield 44, 3) := by decide +kernel
theorem dz_odd_218 : decode cz_odd 218 = .ok (.iconst 0, 1) := by decide +kernel
theorem dz_odd_219 : decode cz_odd 219 = .ok (.ireturn, 1) := by decide +kernel
theorem dz_odd_220 : decode cz_odd 220 = .ok (.iload_n 2, 1) := by decide +kernel
theorem dz_odd_221 : decode cz_odd 221 = .ok (.bipush 8, 2) := by decide +kernel
theorem dz_odd_223 : decode cz_odd 223 = .ok (.iand, 1) := by decide +kernel
theorem dz_odd_224 : decode cz_odd 224 = .ok (.ifCond .eq 10, 3) := by decide +kernel
theorem dz_odd_227 : decode cz_odd 227 = .ok (.aload_n 0, 1) := by decide +kernel
theorem dz_odd_228 : decode cz_odd 228 = .ok (.getfield 33, 3) := by decide +kernel
theorem dz_odd_231 : decode cz_odd 231 = .ok (.ifCond .ne 5, 3) := by decide +kernel
theorem dz_odd_234 : decode cz_odd 234 = .ok (.iconst 0, 1) := by decide +kernel
theorem dz_odd_235 : decode cz_odd 235 = .ok (.ireturn, 1) := by decide +kernel
theorem dz_odd_236 : decode cz_odd 236 = .ok (.aload_n 0, 1) := by decide +kernel
theorem dz_odd_237 : decode cz_odd 237 = .ok (.iconst 0, 1) := by decide +kernel
theorem dz_odd_238 : decode cz_odd 238 = .ok (.putfield 33, 3) := by decide +kernel
theorem dz_odd_241 : decode cz_odd 241 = .ok (.aload_n 0, 1) := by decide +kernel
theorem dz_odd_242 : decode cz_odd 242 = .ok (.iload_n 3, 1) := by decide +kernel
theorem dz_odd_243 : decode cz_odd 243 = .ok (.putfield 44, 3) := by decide +kernel
theorem dz_odd_246 : decode cz_odd 246 = .ok (.iconst 0, 1) := by decide +kernel
theorem dz_odd_247 : decode cz_odd 247 = .ok (.ireturn, 1) := by decide +kernel
theorem dz_calls_0 : decode cz_calls 0 = .ok (.aload_n 0, 1) := by decide +kernel
theorem dz_calls_1 : decode cz_calls 1 = .ok (.getfield 47, 3) := by decide +kernel
theorem dz_calls_4 : decode cz_calls 4 = .ok (.iload_n 2, 1) := by decide +kernel
theorem dz_calls_5 : decode cz_calls 5 = .ok (.laload, 1) := by decide +kernel
theorem dz_calls_6 : decode cz_calls 6 = .ok (.iconst 1, 1) := by decide +kernel
theorem dz_calls_7 : decode cz_calls 7 = .ok (.invokestatic 177, 3) := by decide +kernel
theorem dz_calls_10 : decode cz_calls 10 = .ok (.lstore 4, 2) := by decide +kernel
theorem dz_calls_12 : decode cz_calls 12 = .ok (.aload_n 0, 1) := by decide +kernel
theorem dz_calls_13 : decode cz_calls 13 = .ok (.getfield 47, 3) := by decide +kernel
theorem dz_calls_16 : decode cz_calls 16 = .ok (.iload_n 2, 1) := by decide +kernel
theorem dz_calls_17 : decode cz_calls 17 = .ok (.laload, 1) := by decide +kernel
theorem dz_calls_18 : decode cz_calls 18 = .ok (.iconst (-1), 1) := by decide +kernel
theorem dz_calls_19 : decode cz_calls 19 = .ok (.invokestatic 177, 3) := by decide +kernel
theorem dz_calls_22 : decode cz_calls 22 = .ok (.lstore 6, 2) := by decide +kernel
theorem dz_calls_24 : decode cz_calls 24 = .ok (.aload_n 0, 1) := by decide +kernel
theorem dz_calls_25 : decode cz_calls 25 = .ok (.getfield 47, 3) := by decide +kernel
theorem dz_calls_28 : decode cz_calls 28 = .ok (.iload_n 2, 1) := by decide +kernel
theorem dz_calls_29 : decode cz_calls 29 = .ok (.laload, 1) := by decide +kernel
theorem dz_calls_30 : decode cz_calls 30 = .ok (.invokestatic 10, 3) := by decide +kernel
theorem dz_calls_33 : decode cz_calls 33 = .ok (.istore 8, 2) := by decide +kernel
theorem dz_calls_35 : decode cz_calls 35 = .ok (.lload 4, 2) := by decide +kernel
theorem dz_calls_37 : decode cz_calls 37 = .ok (.invokestatic 10, 3) := by decide +kernel
theorem dz_calls_40 : decode cz_calls 40 = .ok (.istore 9, 2) := by decide +kernel
theorem dz_calls_42 : decode cz_calls 42 = .ok (.iload_n 1, 1) := by decide +kernel
theorem dz_calls_43 : decode cz_calls 43 = .ok (.tableswitch 221 176 180 #[33, 70, 114, 158, 192], 33) := by decide +kernel
theorem dz_calls_76 : decode cz_calls 76 = .ok (.iload 9, 2) := by decide +kernel
theorem dz_calls_78 : decode cz_calls 78 = .ok (.invokestatic 137, 3) := by decide +kernel
theorem dz_calls_81 : decode cz_calls 81 = .ok (.ifCond .eq 5, 3) := by decide +kernel
theorem dz_calls_84 : decode cz_calls 84 = .ok (.iconst 2, 1) := by decide +kernel
theorem dz_calls_85 : decode cz_calls 85 = .ok (.ireturn, 1) := by decide +kernel
theorem dz_calls_86 : decode cz_calls 86 = .ok (.aload_n 0, 1) := by decide +kernel
theorem dz_calls_87 : decode cz_calls 87 = .ok (.getfield 47, 3) := by decide +kernel
theorem dz_calls_90 : decode cz_calls 90 = .ok (.iload_n 2, 1) := by decide +kernel
theorem dz_calls_91 : decode cz_calls 91 = .ok (.lload 4, 2) := by decide +kernel
theorem dz_calls_93 : decode cz_calls 93 = .ok (.lastore, 1) := by decide +kernel
theorem dz_calls_94 : decode cz_calls 94 = .ok (.aload_n 0, 1) := by decide +kernel
theorem dz_calls_95 : decode cz_calls 95 = .ok (.getfield 47, 3) := by decide +kernel
theorem dz_calls_98 : decode cz_calls 98 = .ok (.iload 9, 2) := by decide +kernel
theorem dz_calls_100 : decode cz_calls 100 = .ok (.aload_n 0, 1) := by decide +kernel
theorem dz_calls_101 : decode cz_calls 101 = .ok (.getfield 44, 3) := by decide +kernel
theorem dz_calls_104 : decode cz_calls 104 = .ok (.i2l, 1) := by decide +kernel
theorem dz_calls_105 : decode cz_calls 105 = .ok (.lastore, 1) := by decide +kernel
theorem dz_calls_106 : decode cz_calls 106 = .ok (.aload_n 0, 1) := by decide +kernel
theorem dz_calls_107 : decode cz_calls 107 = .ok (.iload_n 3, 1) := by decide +kernel
theorem dz_calls_108 : decode cz_calls 108 = .ok (.putfield 44, 3) := by decide +kernel
theorem dz_calls_111 : decode cz_calls 111 = .ok (.iconst 0, 1) := by decide +kernel
theorem dz_calls_112 : decode cz_calls 112 = .ok (.ireturn, 1) := by decide +kernel
theorem dz_calls_113 : decode cz_calls 113 = .ok (.iload 9, 2) := by decide +kernel
theorem dz_calls_115 : decode cz_calls 115 = .ok (.invokestatic 137, 3) := by decide +kernel
theorem dz_calls_118 : decode cz_calls 118 = .ok (.ifCond .ne 10, 3) := by decide +kernel
theorem dz_calls_121 : decode cz_calls 121 = .ok (.iload_n 3, 1) := by decide +kernel
theorem dz_calls_122 : decode cz_calls 122 = .ok (.invokestatic 137, 3) := by decide +kernel
theorem dz_calls_125 : decode cz_calls 125 = .ok (.ifCond .eq 5, 3) := by decide +kernel
theorem dz_calls_128 : decode cz_calls 128 = .ok (.iconst 2, 1) := by decide +kernel
theorem dz_calls_129 : decode cz_calls 129 = .ok (.ireturn, 1) := by decide +kernel
theorem dz_calls_130 : decode cz_calls 130 = .ok (.aload_n 0, 1) := by decide +kernel
theorem dz_calls_131 : decode cz_calls 131 = .ok (.getfield 47, 3) := by decide +kernel
theorem dz_calls_134 : decode cz_calls 134 = .ok (.iload_n 3, 1) := by decide +kernel
theorem dz_calls_135 : decode cz_calls 135 = .ok (.laload, 1) := by decide +kernel
theorem dz_calls_136 : decode cz_calls 136 = .ok (.lstore 10, 2) := by decide +kernel
theorem dz_calls_138 : decode cz_calls 138 = .ok (.aload_n 0, 1) := by decide +kernel
theorem dz_calls_139 : decode cz_calls 139 = .ok (.getfield 47, 3) := by decide +kernel
theorem dz_calls_142 : decode cz_calls 142 = .ok (.iload_n 2, 1) := by decide +kernel
theorem dz_calls_143 : decode cz_calls 143 = .ok (.lload 4, 2) := by decide +kernel
theorem dz_calls_145 : decode cz_calls 145 = .ok (.lastore, 1) := by decide +kernel
theorem dz_calls_146 : decode cz_calls 146 = .ok (.aload_n 0, 1) := by decide +kernel
theorem dz_calls_147 : decode cz_calls 147 = .ok (.getfield 47, 3) := by decide +kernel
theorem dz_calls_150 : decode cz_calls 150 = .ok (.iload 9, 2) := by decide +kernel
theorem dz_calls_152 : decode cz_calls 152 = .ok (.lload 10, 2) := by decide +kernel
theorem dz_calls_154 : decode cz_calls 154 = .ok (.lastore, 1) := by decide +kernel
theorem dz_calls_155 : decode cz_calls 155 = .ok (.iconst 0, 1) := by decide +kernel
theorem dz_calls_156 : decode cz_calls 156 = .ok (.ireturn, 1) := by decide +kernel
theorem dz_calls_157 : decode cz_calls 157 = .ok (.iload 8, 2) := by decide +kernel
theorem dz_calls_159 : decode cz_calls 159 = .ok (.invokestatic 137, 3) := by decide +kernel
theorem dz_calls_162 : decode cz_calls 162 = .ok (.ifCond .ne 10, 3) := by decide +kernel
theorem dz_calls_165 : decode cz_calls 165 = .ok (.iload_n 3, 1) := by decide +kernel
theorem dz_calls_166 : decode cz_calls 166 = .ok (.invokestatic 137, 3) := by decide +kernel
theorem dz_calls_169 : decode cz_calls 169 = .ok (.ifCond .eq 5, 3) := by decide +kernel
theorem dz_calls_172 : decode cz_calls 172 = .ok (.iconst 2, 1) := by decide +kernel
theorem dz_calls_173 : decode cz_calls 173 = .ok (.ireturn, 1) := by decide +kernel
theorem dz_calls_174 : decode cz_calls 174 = .ok (.aload_n 0, 1) := by decide +kernel
theorem dz_calls_175 : decode cz_calls 175 = .ok (.getfield 47, 3) := by decide +kernel
theorem dz_calls_178 : decode cz_calls 178 = .ok (.iload 8, 2) := by decide +kernel
theorem dz_calls_180 : decode cz_calls 180 = .ok (.laload, 1) := by decide +kernel
theorem dz_calls_181 : decode cz_calls 181 = .ok (.lstore 12, 2) := by decide +kernel
theorem dz_calls_183 : decode cz_calls 183 = .ok (.aload_n 0, 1) := by decide +kernel
theorem dz_calls_184 : decode cz_calls 184 = .ok (.getfield 47, 3) := by decide +kernel
theorem dz_calls_187 : decode cz_calls 187 = .ok (.iload_n 2, 1) := by decide +kernel
theorem dz_calls_188 : decode cz_calls 188 = .ok (.lload 6, 2) := by decide +kernel
theorem dz_calls_190 : decode cz_calls 190 = .ok (.lastore, 1) := by decide +kernel
theorem dz_calls_191 : decode cz_calls 191 = .ok (.aload_n 0, 1) := by decide +kernel
theorem dz_calls_192 : decode cz_calls 192 = .ok (.getfield 47, 3) := by decide +kernel
theorem dz_calls_195 : decode cz_calls 195 = .ok (.iload_n 3, 1) := by decide +kernel
theorem dz_calls_196 : decode cz_calls 196 = .ok (.lload 12, 2) := by decide +kernel
theorem dz_calls_198 : decode cz_calls 198 = .ok (.lastore, 1) := by decide +kernel
theorem dz_calls_199 : decode cz_calls 199 = .ok (.iconst 0, 1) := by decide +kernel
theorem dz_calls_200 : decode cz_calls 200 = .ok (.ireturn, 1) := by decide +kernel
theorem dz_calls_201 : decode cz_calls 201 = .ok (.iload 8, 2) := by decide +kernel
theorem dz_calls_203 : decode cz_calls 203 = .ok (.invokestatic 137, 3) := by decide +kernel
theorem dz_calls_206 : decode cz_calls 206 = .ok (.ifCond .eq 5, 3) := by decide +kernel
theorem dz_calls_209 : decode cz_calls 209 = .ok (.iconst 2, 1) := by decide +kernel
theorem dz_calls_210 : decode cz_calls 210 = .ok (.ireturn, 1) := by decide +kernel
theorem dz_calls_211 : decode cz_calls 211 = .ok (.aload_n 0, 1) := by decide +kernel
theorem dz_calls_212 : decode cz_calls 212 = .ok (.aload_n 0, 1) := by decide +kernel
theorem dz_calls_213 : decode cz_calls 213 = .ok (.getfield 47, 3) := by decide +kernel
theorem dz_calls_216 : decode cz_calls 216 = .ok (.iload 8, 2) := by decide +kernel
theorem dz_calls_218 : decode cz_calls 218 = .ok (.laload, 1) := by decide +kernel
theorem dz_calls_219 : decode cz_calls 219 = .ok (.invokestatic 10, 3) := by decide +kernel
theorem dz_calls_222 : decode cz_calls 222 = .ok (.putfield 44, 3) := by decide +kernel
theorem dz_calls_225 : decode cz_calls 225 = .ok (.aload_n 0, 1) := by decide +kernel
theorem dz_calls_226 : decode cz_calls 226 = .ok (.getfield 47, 3) := by decide +kernel
theorem dz_calls_229 : decode cz_calls 229 = .ok (.iload_n 2, 1) := by decide +kernel
theorem dz_calls_230 : decode cz_calls 230 = .ok (.lload 6, 2) := by decide +kernel
theorem dz_calls_232 : decode cz_calls 232 = .ok (.lastore, 1) := by decide +kernel
theorem dz_calls_233 : decode cz_calls 233 = .ok (.iconst 0, 1) := by decide +kernel
theorem dz_calls_234 : decode cz_calls 234 = .ok (.ireturn, 1) := by decide +kernel
theorem dz_calls_235 : decode cz_calls 235 = .ok (.iload_n 3, 1) := by decide +kernel
theorem dz_calls_236 : decode cz_calls 236 = .ok (.invokestatic 137, 3) := by decide +kernel
theorem dz_calls_239 : decode cz_calls 239 = .ok (.ifCond .eq 5, 3) := by decide +kernel
theorem dz_calls_242 : decode cz_calls 242 = .ok (.iconst 2, 1) := by decide +kernel
theorem dz_calls_243 : decode cz_calls 243 = .ok (.ireturn, 1) := by decide +kernel
theorem dz_calls_244 : decode cz_calls 244 = .ok (.aload_n 0, 1) := by decide +kernel
theorem dz_calls_245 : decode cz_calls 245 = .ok (.getfield 47, 3) := by decide +kernel
theorem dz_calls_248 : decode cz_calls 248 = .ok (.iload_n 3, 1) := by decide +kernel
theorem dz_calls_249 : decode cz_calls 249 = .ok (.aload_n 0, 1) := by decide +kernel
theorem dz_calls_250 : decode cz_calls 250 = .ok (.getfield 44, 3) := by decide +kernel
theorem dz_calls_253 : decode cz_calls 253 = .ok (.i2l, 1) := by decide +kernel
theorem dz_calls_254 : decode cz_calls 254 = .ok (.lastore, 1) := by decide +kernel
theorem dz_calls_255 : decode cz_calls 255 = .ok (.aload_n 0, 1) := by decide +kernel
theorem dz_calls_256 : decode cz_calls 256 = .ok (.iload_n 3, 1) := by decide +kernel
theorem dz_calls_257 : decode cz_calls 257 = .ok (.iconst 1, 1) := by decide +kernel
theorem dz_calls_258 : decode cz_calls 258 = .ok (.iadd, 1) := by decide +kernel
theorem dz_calls_259 : decode cz_calls 259 = .ok (.putfield 44, 3) := by decide +kernel
theorem dz_calls_262 : decode cz_calls 262 = .ok (.iconst 0, 1) := by decide +kernel
theorem dz_calls_263 : decode cz_calls 263 = .ok (.ireturn, 1) := by decide +kernel
theorem dz_calls_264 : decode cz_calls 264 = .ok (.aload_n 0, 1) := by decide +kernel
theorem dz_calls_265 : decode cz_calls 265 = .ok (.getfield 47, 3) := by decide +kernel
theorem dz_calls_268 : decode cz_calls 268 = .ok (.iload_n 2, 1) := by decide +kernel
theorem dz_calls_269 : decode cz_calls 269 = .ok (.aload_n 0, 1) := by decide +kernel
theorem dz_calls_270 : decode cz_calls 270 = .ok (.getfield 44, 3) := by decide +kernel
theorem dz_calls_273 : decode cz_calls 273 = .ok (.i2l, 1) := by decide +kernel
theorem dz_calls_274 : decode cz_calls 274 = .ok (.lastore, 1) := by decide +kernel
theorem dz_calls_275 : decode cz_calls 275 = .ok (.aload_n 0, 1) := by decide +kernel
theorem dz_calls_276 : decode cz_calls 276 = .ok (.iload_n 3, 1) := by decide +kernel
theorem dz_calls_277 : decode cz_calls 277 = .ok (.putfield 44, 3) := by decide +kernel
theorem dz_calls_280 : decode cz_calls 280 = .ok (.iconst 0, 1) := by decide +kernel
theorem dz_calls_281 : decode cz_calls 281 = .ok (.ireturn, 1) := by decide +kernel
theorem dz_put_0 : decode cz_put 0 = .ok (.iload_n 1, 1) := by decide +kernel
theorem dz_put_1 : decode cz_put 1 = .ok (.i2l, 1) := by decide +kernel
theorem dz_put_2 : decode cz_put 2 = .ok (.lconst 0, 1) := by decide +kernel
theorem dz_put_3 : decode cz_put 3 = .ok (.ldc2_w 21, 3) := by decide +kernel
theorem dz_put_6 : decode cz_put 6 = .ok (.invokestatic 23, 3) := by decide +kernel
theorem dz_put_9 : decode cz_put 9 = .ok (.ifCond .ne 5, 3) := by decide +kernel
theorem dz_put_12 : decode cz_put 12 = .ok (.iconst (-1), 1) := by decide +kernel
theorem dz_put_13 : decode cz_put 13 = .ok (.ireturn, 1) := by decide +kernel
theorem dz_put_14 : decode cz_put 14 = .ok (.aload_n 0, 1) := by decide +kernel
theorem dz_put_15 : decode cz_put 15 = .ok (.getfield 47, 3) := by decide +kernel
theorem dz_put_18 : decode cz_put 18 = .ok (.iload_n 1, 1) := by decide +kernel
theorem dz_put_19 : decode cz_put 19 = .ok (.lload_n 2, 1) := by decide +kernel
theorem dz_put_20 : decode cz_put 20 = .ok (.ldc2_w 7, 3) := by decide +kernel
theorem dz_put_23 : decode cz_put 23 = .ok (.land, 1) := by decide +kernel
theorem dz_put_24 : decode cz_put 24 = .ok (.lastore, 1) := by decide +kernel
theorem dz_put_25 : decode cz_put 25 = .ok (.iconst 0, 1) := by decide +kernel
theorem dz_put_26 : decode cz_put 26 = .ok (.ireturn, 1) := by decide +kernel
theorem dz_get_0 : decode cz_get 0 = .ok (.iload_n 1, 1) := by decide +kernel
theorem dz_get_1 : decode cz_get 1 = .ok (.i2l, 1) := by decide +kernel
theorem dz_get_2 : decode cz_get 2 = .ok (.lconst 0, 1) := by decide +kernel
theorem dz_get_3 : decode cz_get 3 = .ok (.ldc2_w 21, 3) := by decide +kernel
theorem dz_get_6 : decode cz_get 6 = .ok (.invokestatic 23, 3) := by decide +kernel
theorem dz_get_9 : decode cz_get 9 = .ok (.ifCond .eq 15, 3) := by decide +kernel
theorem dz_get_12 : decode cz_get 12 = .ok (.aload_n 0, 1) := by decide +kernel
theorem dz_get_13 : decode cz_get 13 = .ok (.getfield 47, 3) := by decide +kernel
theorem dz_get_16 : decode cz_get 16 = .ok (.iload_n 1, 1) := by decide +kernel
theorem dz_get_17 : decode cz_get 17 = .ok (.laload, 1) := by decide +kernel
theorem dz_get_18 : decode cz_get 18 = .ok (.invokestatic 130, 3) := by decide +kernel
theorem dz_get_21 : decode cz_get 21 = .ok (.goto 6, 3) := by decide +kernel
theorem dz_get_24 : decode cz_get 24 = .ok (.ldc2_w 186, 3) := by decide +kernel
theorem dz_get_27 : decode cz_get 27 = .ok (.lreturn, 1) := by decide +kernel
theorem dz_look_0 : decode cz_look 0 = .ok (.iload_n 1, 1) := by decide +kernel
theorem dz_look_1 : decode cz_look 1 = .ok (.ifCond .ne 10, 3) := by decide +kernel
theorem dz_look_4 : decode cz_look 4 = .ok (.aload_n 0, 1) := by decide +kernel
theorem dz_look_5 : decode cz_look 5 = .ok (.getfield 29, 3) := by decide +kernel
theorem dz_look_8 : decode cz_look 8 = .ok (.goto 36, 3) := by decide +kernel
theorem dz_look_11 : decode cz_look 11 = .ok (.iload_n 1, 1) := by decide +kernel
theorem dz_look_12 : decode cz_look 12 = .ok (.iconst 1, 1) := by decide +kernel
theorem dz_look_13 : decode cz_look 13 = .ok (.if_icmp .ne 18, 3) := by decide +kernel
theorem dz_look_16 : decode cz_look 16 = .ok (.aload_n 0, 1) := by decide +kernel
theorem dz_look_17 : decode cz_look 17 = .ok (.getfield 33, 3) := by decide +kernel
theorem dz_look_20 : decode cz_look 20 = .ok (.ifCond .eq 7, 3) := by decide +kernel
theorem dz_look_23 : decode cz_look 23 = .ok (.iconst 1, 1) := by decide +kernel
theorem dz_look_24 : decode cz_look 24 = .ok (.goto 20, 3) := by decide +kernel
theorem dz_look_27 : decode cz_look 27 = .ok (.iconst 0, 1) := by decide +kernel
theorem dz_look_28 : decode cz_look 28 = .ok (.goto 16, 3) := by decide +kernel
theorem dz_look_31 : decode cz_look 31 = .ok (.iload_n 1, 1) := by decide +kernel
theorem dz_look_32 : decode cz_look 32 = .ok (.iconst 2, 1) := by decide +kernel
theorem dz_look_33 : decode cz_look 33 = .ok (.if_icmp .ne 10, 3) := by decide +kernel
theorem dz_look_36 : decode cz_look 36 = .ok (.aload_n 0, 1) := by decide +kernel
theorem dz_look_37 : decode cz_look 37 = .ok (.getfield 37, 3) := by decide +kernel
theorem dz_look_40 : decode cz_look 40 = .ok (.goto 4, 3) := by decide +kernel
theorem dz_look_43 : decode cz_look 43 = .ok (.iconst (-1), 1) := by decide +kernel
theorem dz_look_44 : decode cz_look 44 = .ok (.ireturn, 1) := by decide +kernel
theorem dz_init_0 : decode cz_init 0 = .ok (.aload_n 0, 1) := by decide +kernel
theorem dz_init_1 : decode cz_init 1 = .ok (.invokespecial 180, 3) := by decide +kernel
theorem dz_init_4 : decode cz_init 4 = .ok (.aload_n 0, 1) := by decide +kernel
theorem dz_init_5 : decode cz_init 5 = .ok (.sipush 4096, 3) := by decide +kernel
theorem dz_init_8 : decode cz_init 8 = .ok (.newarray .long, 2) := by decide +kernel
theorem dz_init_10 : decode cz_init 10 = .ok (.putfield 47, 3) := by decide +kernel
theorem dz_init_13 : decode cz_init 13 = .ok (.return_, 1) := by decide +kernel
