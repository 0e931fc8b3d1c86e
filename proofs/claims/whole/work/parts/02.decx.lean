theorem dx_put_0 : decode cx_put 0 = .ok (.iload_n 1, 1) := by decide +kernel
theorem dx_put_1 : decode cx_put 1 = .ok (.invokestatic 13, 3) := by decide +kernel
theorem dx_put_4 : decode cx_put 4 = .ok (.ifCond .ne 5, 3) := by decide +kernel
theorem dx_put_7 : decode cx_put 7 = .ok (.iconst (-1), 1) := by decide +kernel
theorem dx_put_8 : decode cx_put 8 = .ok (.ireturn, 1) := by decide +kernel
theorem dx_put_9 : decode cx_put 9 = .ok (.aload_n 0, 1) := by decide +kernel
theorem dx_put_10 : decode cx_put 10 = .ok (.getfield 9, 3) := by decide +kernel
theorem dx_put_13 : decode cx_put 13 = .ok (.iload_n 1, 1) := by decide +kernel
theorem dx_put_14 : decode cx_put 14 = .ok (.lload_n 2, 1) := by decide +kernel
theorem dx_put_15 : decode cx_put 15 = .ok (.invokestatic 17, 3) := by decide +kernel
theorem dx_put_18 : decode cx_put 18 = .ok (.lastore, 1) := by decide +kernel
theorem dx_put_19 : decode cx_put 19 = .ok (.iconst 0, 1) := by decide +kernel
theorem dx_put_20 : decode cx_put 20 = .ok (.ireturn, 1) := by decide +kernel
theorem dx_get_0 : decode cx_get 0 = .ok (.iload_n 1, 1) := by decide +kernel
theorem dx_get_1 : decode cx_get 1 = .ok (.invokestatic 13, 3) := by decide +kernel
theorem dx_get_4 : decode cx_get 4 = .ok (.ifCond .eq 12, 3) := by decide +kernel
theorem dx_get_7 : decode cx_get 7 = .ok (.aload_n 0, 1) := by decide +kernel
theorem dx_get_8 : decode cx_get 8 = .ok (.getfield 9, 3) := by decide +kernel
theorem dx_get_11 : decode cx_get 11 = .ok (.iload_n 1, 1) := by decide +kernel
theorem dx_get_12 : decode cx_get 12 = .ok (.laload, 1) := by decide +kernel
theorem dx_get_13 : decode cx_get 13 = .ok (.goto 6, 3) := by decide +kernel
theorem dx_get_16 : decode cx_get 16 = .ok (.ldc2_w 21, 3) := by decide +kernel
theorem dx_get_19 : decode cx_get 19 = .ok (.lreturn, 1) := by decide +kernel
theorem dx_go_0 : decode cx_go 0 = .ok (.iload_n 1, 1) := by decide +kernel
theorem dx_go_1 : decode cx_go 1 = .ok (.invokestatic 13, 3) := by decide +kernel
theorem dx_go_4 : decode cx_go 4 = .ok (.ifCond .eq 14, 3) := by decide +kernel
theorem dx_go_7 : decode cx_go 7 = .ok (.iload_n 2, 1) := by decide +kernel
theorem dx_go_8 : decode cx_go 8 = .ok (.ifCond .lt 10, 3) := by decide +kernel
theorem dx_go_11 : decode cx_go 11 = .ok (.iload_n 2, 1) := by decide +kernel
theorem dx_go_12 : decode cx_go 12 = .ok (.sipush 500, 3) := by decide +kernel
theorem dx_go_15 : decode cx_go 15 = .ok (.if_icmp .le 5, 3) := by decide +kernel
theorem dx_go_18 : decode cx_go 18 = .ok (.iconst (-1), 1) := by decide +kernel
theorem dx_go_19 : decode cx_go 19 = .ok (.ireturn, 1) := by decide +kernel
theorem dx_go_20 : decode cx_go 20 = .ok (.aload_n 0, 1) := by decide +kernel
theorem dx_go_21 : decode cx_go 21 = .ok (.iload_n 1, 1) := by decide +kernel
theorem dx_go_22 : decode cx_go 22 = .ok (.putfield 23, 3) := by decide +kernel
theorem dx_go_25 : decode cx_go 25 = .ok (.iload_n 3, 1) := by decide +kernel
theorem dx_go_26 : decode cx_go 26 = .ok (.ifCond .eq 8, 3) := by decide +kernel
theorem dx_go_29 : decode cx_go 29 = .ok (.aload_n 0, 1) := by decide +kernel
theorem dx_go_30 : decode cx_go 30 = .ok (.iconst 0, 1) := by decide +kernel
theorem dx_go_31 : decode cx_go 31 = .ok (.putfield 27, 3) := by decide +kernel
theorem dx_go_34 : decode cx_go 34 = .ok (.aload_n 0, 1) := by decide +kernel
theorem dx_go_35 : decode cx_go 35 = .ok (.iconst 0, 1) := by decide +kernel
theorem dx_go_36 : decode cx_go 36 = .ok (.putfield 31, 3) := by decide +kernel
theorem dx_go_39 : decode cx_go 39 = .ok (.iconst 0, 1) := by decide +kernel
theorem dx_go_40 : decode cx_go 40 = .ok (.istore 4, 2) := by decide +kernel
theorem dx_go_42 : decode cx_go 42 = .ok (.iconst 0, 1) := by decide +kernel
theorem dx_go_43 : decode cx_go 43 = .ok (.istore 5, 2) := by decide +kernel
theorem dx_go_45 : decode cx_go 45 = .ok (.iload 5, 2) := by decide +kernel
theorem dx_go_47 : decode cx_go 47 = .ok (.iload_n 2, 1) := by decide +kernel
theorem dx_go_48 : decode cx_go 48 = .ok (.if_icmp .ge 36, 3) := by decide +kernel
theorem dx_go_51 : decode cx_go 51 = .ok (.iload 4, 2) := by decide +kernel
theorem dx_go_53 : decode cx_go 53 = .ok (.ifCond .ne 31, 3) := by decide +kernel
theorem dx_go_56 : decode cx_go 56 = .ok (.aload_n 0, 1) := by decide +kernel
theorem dx_go_57 : decode cx_go 57 = .ok (.invokevirtual 34, 3) := by decide +kernel
theorem dx_go_60 : decode cx_go 60 = .ok (.istore 4, 2) := by decide +kernel
theorem dx_go_62 : decode cx_go 62 = .ok (.iload 4, 2) := by decide +kernel
theorem dx_go_64 : decode cx_go 64 = .ok (.iconst 2, 1) := by decide +kernel
theorem dx_go_65 : decode cx_go 65 = .ok (.if_icmp .eq 13, 3) := by decide +kernel
theorem dx_go_68 : decode cx_go 68 = .ok (.aload_n 0, 1) := by decide +kernel
theorem dx_go_69 : decode cx_go 69 = .ok (.dup, 1) := by decide +kernel
theorem dx_go_70 : decode cx_go 70 = .ok (.getfield 31, 3) := by decide +kernel
theorem dx_go_73 : decode cx_go 73 = .ok (.iconst 1, 1) := by decide +kernel
theorem dx_go_74 : decode cx_go 74 = .ok (.iadd, 1) := by decide +kernel
theorem dx_go_75 : decode cx_go 75 = .ok (.putfield 31, 3) := by decide +kernel
theorem dx_go_78 : decode cx_go 78 = .ok (.iinc 5 1, 3) := by decide +kernel
theorem dx_go_81 : decode cx_go 81 = .ok (.goto (-36), 3) := by decide +kernel
theorem dx_go_84 : decode cx_go 84 = .ok (.iload 4, 2) := by decide +kernel
theorem dx_go_86 : decode cx_go 86 = .ok (.ireturn, 1) := by decide +kernel
theorem dx_look_0 : decode cx_look 0 = .ok (.iload_n 1, 1) := by decide +kernel
theorem dx_look_1 : decode cx_look 1 = .ok (.tableswitch 50 0 2 #[27, 32, 45], 27) := by decide +kernel
theorem dx_look_28 : decode cx_look 28 = .ok (.aload_n 0, 1) := by decide +kernel
theorem dx_look_29 : decode cx_look 29 = .ok (.getfield 23, 3) := by decide +kernel
theorem dx_look_32 : decode cx_look 32 = .ok (.ireturn, 1) := by decide +kernel
theorem dx_look_33 : decode cx_look 33 = .ok (.aload_n 0, 1) := by decide +kernel
theorem dx_look_34 : decode cx_look 34 = .ok (.getfield 27, 3) := by decide +kernel
theorem dx_look_37 : decode cx_look 37 = .ok (.ifCond .eq 7, 3) := by decide +kernel
theorem dx_look_40 : decode cx_look 40 = .ok (.iconst 1, 1) := by decide +kernel
theorem dx_look_41 : decode cx_look 41 = .ok (.goto 4, 3) := by decide +kernel
theorem dx_look_44 : decode cx_look 44 = .ok (.iconst 0, 1) := by decide +kernel
theorem dx_look_45 : decode cx_look 45 = .ok (.ireturn, 1) := by decide +kernel
theorem dx_look_46 : decode cx_look 46 = .ok (.aload_n 0, 1) := by decide +kernel
theorem dx_look_47 : decode cx_look 47 = .ok (.getfield 31, 3) := by decide +kernel
theorem dx_look_50 : decode cx_look 50 = .ok (.ireturn, 1) := by decide +kernel
theorem dx_look_51 : decode cx_look 51 = .ok (.iconst (-1), 1) := by decide +kernel
theorem dx_look_52 : decode cx_look 52 = .ok (.ireturn, 1) := by decide +kernel
theorem dx_step_0 : decode cx_step 0 = .ok (.aload_n 0, 1) := by decide +kernel
theorem dx_step_1 : decode cx_step 1 = .ok (.getfield 23, 3) := by decide +kernel
theorem dx_step_4 : decode cx_step 4 = .ok (.istore_n 1, 1) := by decide +kernel
theorem dx_step_5 : decode cx_step 5 = .ok (.aload_n 0, 1) := by decide +kernel
theorem dx_step_6 : decode cx_step 6 = .ok (.iload_n 1, 1) := by decide +kernel
theorem dx_step_7 : decode cx_step 7 = .ok (.invokevirtual 38, 3) := by decide +kernel
theorem dx_step_10 : decode cx_step 10 = .ok (.ifCond .ne 5, 3) := by decide +kernel
theorem dx_step_13 : decode cx_step 13 = .ok (.iconst 2, 1) := by decide +kernel
theorem dx_step_14 : decode cx_step 14 = .ok (.ireturn, 1) := by decide +kernel
theorem dx_step_15 : decode cx_step 15 = .ok (.aload_n 0, 1) := by decide +kernel
theorem dx_step_16 : decode cx_step 16 = .ok (.iload_n 1, 1) := by decide +kernel
theorem dx_step_17 : decode cx_step 17 = .ok (.iconst 1, 1) := by decide +kernel
theorem dx_step_18 : decode cx_step 18 = .ok (.iadd, 1) := by decide +kernel
theorem dx_step_19 : decode cx_step 19 = .ok (.putfield 23, 3) := by decide +kernel
theorem dx_step_22 : decode cx_step 22 = .ok (.aload_n 0, 1) := by decide +kernel
theorem dx_step_23 : decode cx_step 23 = .ok (.invokevirtual 41, 3) := by decide +kernel
theorem dx_step_26 : decode cx_step 26 = .ok (.istore_n 2, 1) := by decide +kernel
theorem dx_step_27 : decode cx_step 27 = .ok (.iload_n 2, 1) := by decide +kernel
theorem dx_step_28 : decode cx_step 28 = .ok (.iconst 2, 1) := by decide +kernel
theorem dx_step_29 : decode cx_step 29 = .ok (.if_icmp .ne 8, 3) := by decide +kernel
theorem dx_step_32 : decode cx_step 32 = .ok (.aload_n 0, 1) := by decide +kernel
theorem dx_step_33 : decode cx_step 33 = .ok (.iload_n 1, 1) := by decide +kernel
theorem dx_step_34 : decode cx_step 34 = .ok (.putfield 23, 3) := by decide +kernel
theorem dx_step_37 : decode cx_step 37 = .ok (.iload_n 2, 1) := by decide +kernel
theorem dx_step_38 : decode cx_step 38 = .ok (.ireturn, 1) := by decide +kernel
theorem dx_fetch_0 : decode cx_fetch 0 = .ok (.iload_n 1, 1) := by decide +kernel
theorem dx_fetch_1 : decode cx_fetch 1 = .ok (.istore_n 2, 1) := by decide +kernel
theorem dx_fetch_2 : decode cx_fetch 2 = .ok (.iconst 0, 1) := by decide +kernel
theorem dx_fetch_3 : decode cx_fetch 3 = .ok (.istore_n 3, 1) := by decide +kernel
theorem dx_fetch_4 : decode cx_fetch 4 = .ok (.iload_n 3, 1) := by decide +kernel
theorem dx_fetch_5 : decode cx_fetch 5 = .ok (.bipush 8, 2) := by decide +kernel
theorem dx_fetch_7 : decode cx_fetch 7 = .ok (.if_icmp .gt 90, 3) := by decide +kernel
theorem dx_fetch_10 : decode cx_fetch 10 = .ok (.iload_n 2, 1) := by decide +kernel
theorem dx_fetch_11 : decode cx_fetch 11 = .ok (.invokestatic 13, 3) := by decide +kernel
theorem dx_fetch_14 : decode cx_fetch 14 = .ok (.ifCond .ne 5, 3) := by decide +kernel
theorem dx_fetch_17 : decode cx_fetch 17 = .ok (.iconst 0, 1) := by decide +kernel
theorem dx_fetch_18 : decode cx_fetch 18 = .ok (.ireturn, 1) := by decide +kernel
theorem dx_fetch_19 : decode cx_fetch 19 = .ok (.aload_n 0, 1) := by decide +kernel
theorem dx_fetch_20 : decode cx_fetch 20 = .ok (.getfield 9, 3) := by decide +kernel
theorem dx_fetch_23 : decode cx_fetch 23 = .ok (.iload_n 2, 1) := by decide +kernel
theorem dx_fetch_24 : decode cx_fetch 24 = .ok (.laload, 1) := by decide +kernel
theorem dx_fetch_25 : decode cx_fetch 25 = .ok (.lstore 4, 2) := by decide +kernel
theorem dx_fetch_27 : decode cx_fetch 27 = .ok (.aload_n 0, 1) := by decide +kernel
theorem dx_fetch_28 : decode cx_fetch 28 = .ok (.lload 4, 2) := by decide +kernel
theorem dx_fetch_30 : decode cx_fetch 30 = .ok (.bipush 27, 2) := by decide +kernel
theorem dx_fetch_32 : decode cx_fetch 32 = .ok (.lshr, 1) := by decide +kernel
theorem dx_fetch_33 : decode cx_fetch 33 = .ok (.l2i, 1) := by decide +kernel
theorem dx_fetch_34 : decode cx_fetch 34 = .ok (.sipush 511, 3) := by decide +kernel
theorem dx_fetch_37 : decode cx_fetch 37 = .ok (.iand, 1) := by decide +kernel
theorem dx_fetch_38 : decode cx_fetch 38 = .ok (.putfield 44, 3) := by decide +kernel
theorem dx_fetch_41 : decode cx_fetch 41 = .ok (.aload_n 0, 1) := by decide +kernel
theorem dx_fetch_42 : decode cx_fetch 42 = .ok (.lload 4, 2) := by decide +kernel
theorem dx_fetch_44 : decode cx_fetch 44 = .ok (.bipush 23, 2) := by decide +kernel
theorem dx_fetch_46 : decode cx_fetch 46 = .ok (.lshr, 1) := by decide +kernel
theorem dx_fetch_47 : decode cx_fetch 47 = .ok (.l2i, 1) := by decide +kernel
theorem dx_fetch_48 : decode cx_fetch 48 = .ok (.bipush 15, 2) := by decide +kernel
theorem dx_fetch_50 : decode cx_fetch 50 = .ok (.iand, 1) := by decide +kernel
theorem dx_fetch_51 : decode cx_fetch 51 = .ok (.putfield 47, 3) := by decide +kernel
theorem dx_fetch_54 : decode cx_fetch 54 = .ok (.aload_n 0, 1) := by decide +kernel
theorem dx_fetch_55 : decode cx_fetch 55 = .ok (.aload_n 0, 1) := by decide +kernel
theorem dx_fetch_56 : decode cx_fetch 56 = .ok (.lload 4, 2) := by decide +kernel
theorem dx_fetch_58 : decode cx_fetch 58 = .ok (.invokevirtual 50, 3) := by decide +kernel
theorem dx_fetch_61 : decode cx_fetch 61 = .ok (.putfield 54, 3) := by decide +kernel
theorem dx_fetch_64 : decode cx_fetch 64 = .ok (.aload_n 0, 1) := by decide +kernel
theorem dx_fetch_65 : decode cx_fetch 65 = .ok (.getfield 54, 3) := by decide +kernel
theorem dx_fetch_68 : decode cx_fetch 68 = .ok (.iconst (-1), 1) := by decide +kernel
theorem dx_fetch_69 : decode cx_fetch 69 = .ok (.if_icmp .ne 5, 3) := by decide +kernel
theorem dx_fetch_72 : decode cx_fetch 72 = .ok (.iconst 0, 1) := by decide +kernel
theorem dx_fetch_73 : decode cx_fetch 73 = .ok (.ireturn, 1) := by decide +kernel
theorem dx_fetch_74 : decode cx_fetch 74 = .ok (.aload_n 0, 1) := by decide +kernel
theorem dx_fetch_75 : decode cx_fetch 75 = .ok (.getfield 44, 3) := by decide +kernel
theorem dx_fetch_78 : decode cx_fetch 78 = .ok (.sipush 174, 3) := by decide +kernel
theorem dx_fetch_81 : decode cx_fetch 81 = .ok (.if_icmp .eq 5, 3) := by decide +kernel
theorem dx_fetch_84 : decode cx_fetch 84 = .ok (.iconst 1, 1) := by decide +kernel
theorem dx_fetch_85 : decode cx_fetch 85 = .ok (.ireturn, 1) := by decide +kernel
theorem dx_fetch_86 : decode cx_fetch 86 = .ok (.aload_n 0, 1) := by decide +kernel
theorem dx_fetch_87 : decode cx_fetch 87 = .ok (.getfield 54, 3) := by decide +kernel
theorem dx_fetch_90 : decode cx_fetch 90 = .ok (.istore_n 2, 1) := by decide +kernel
theorem dx_fetch_91 : decode cx_fetch 91 = .ok (.iinc 3 1, 3) := by decide +kernel
theorem dx_fetch_94 : decode cx_fetch 94 = .ok (.goto (-90), 3) := by decide +kernel
theorem dx_fetch_97 : decode cx_fetch 97 = .ok (.iconst 0, 1) := by decide +kernel
theorem dx_fetch_98 : decode cx_fetch 98 = .ok (.ireturn, 1) := by decide +kernel
theorem dx_address_0 : decode cx_address 0 = .ok (.lload_n 1, 1) := by decide +kernel
theorem dx_address_1 : decode cx_address 1 = .ok (.lstore_n 3, 1) := by decide +kernel
theorem dx_address_2 : decode cx_address 2 = .ok (.iconst 0, 1) := by decide +kernel
theorem dx_address_3 : decode cx_address 3 = .ok (.istore 5, 2) := by decide +kernel
theorem dx_address_5 : decode cx_address 5 = .ok (.iload 5, 2) := by decide +kernel
theorem dx_address_7 : decode cx_address 7 = .ok (.bipush 8, 2) := by decide +kernel
theorem dx_address_9 : decode cx_address 9 = .ok (.if_icmp .gt 73, 3) := by decide +kernel
theorem dx_address_12 : decode cx_address 12 = .ok (.lload_n 3, 1) := by decide +kernel
theorem dx_address_13 : decode cx_address 13 = .ok (.bipush 18, 2) := by decide +kernel
theorem dx_address_15 : decode cx_address 15 = .ok (.lshr, 1) := by decide +kernel
theorem dx_address_16 : decode cx_address 16 = .ok (.l2i, 1) := by decide +kernel
theorem dx_address_17 : decode cx_address 17 = .ok (.bipush 15, 2) := by decide +kernel
theorem dx_address_19 : decode cx_address 19 = .ok (.iand, 1) := by decide +kernel
theorem dx_address_20 : decode cx_address 20 = .ok (.istore 6, 2) := by decide +kernel
theorem dx_address_22 : decode cx_address 22 = .ok (.iload 6, 2) := by decide +kernel
theorem dx_address_24 : decode cx_address 24 = .ok (.ifCond .ne 7, 3) := by decide +kernel
theorem dx_address_27 : decode cx_address 27 = .ok (.lload_n 3, 1) := by decide +kernel
theorem dx_address_28 : decode cx_address 28 = .ok (.goto 12, 3) := by decide +kernel
theorem dx_address_31 : decode cx_address 31 = .ok (.lload_n 3, 1) := by decide +kernel
theorem dx_address_32 : decode cx_address 32 = .ok (.aload_n 0, 1) := by decide +kernel
theorem dx_address_33 : decode cx_address 33 = .ok (.getfield 9, 3) := by decide +kernel
theorem dx_address_36 : decode cx_address 36 = .ok (.iload 6, 2) := by decide +kernel
theorem dx_address_38 : decode cx_address 38 = .ok (.laload, 1) := by decide +kernel
theorem dx_address_39 : decode cx_address 39 = .ok (.ladd, 1) := by decide +kernel
theorem dx_address_40 : decode cx_address 40 = .ok (.invokestatic 57, 3) := by decide +kernel
theorem dx_address_43 : decode cx_address 43 = .ok (.istore 7, 2) := by decide +kernel
theorem dx_address_45 : decode cx_address 45 = .ok (.lload_n 3, 1) := by decide +kernel
theorem dx_address_46 : decode cx_address 46 = .ok (.ldc2_w 60, 3) := by decide +kernel
theorem dx_address_49 : decode cx_address 49 = .ok (.land, 1) := by decide +kernel
theorem dx_address_50 : decode cx_address 50 = .ok (.lconst 0, 1) := by decide +kernel
theorem dx_address_51 : decode cx_address 51 = .ok (.lcmp, 1) := by decide +kernel
theorem dx_address_52 : decode cx_address 52 = .ok (.ifCond .ne 6, 3) := by decide +kernel
theorem dx_address_55 : decode cx_address 55 = .ok (.iload 7, 2) := by decide +kernel
theorem dx_address_57 : decode cx_address 57 = .ok (.ireturn, 1) := by decide +kernel
theorem dx_address_58 : decode cx_address 58 = .ok (.iload 7, 2) := by decide +kernel
theorem dx_address_60 : decode cx_address 60 = .ok (.invokestatic 13, 3) := by decide +kernel
theorem dx_address_63 : decode cx_address 63 = .ok (.ifCond .ne 5, 3) := by decide +kernel
theorem dx_address_66 : decode cx_address 66 = .ok (.iconst (-1), 1) := by decide +kernel
theorem dx_address_67 : decode cx_address 67 = .ok (.ireturn, 1) := by decide +kernel
theorem dx_address_68 : decode cx_address 68 = .ok (.aload_n 0, 1) := by decide +kernel
theorem dx_address_69 : decode cx_address 69 = .ok (.getfield 9, 3) := by decide +kernel
theorem dx_address_72 : decode cx_address 72 = .ok (.iload 7, 2) := by decide +kernel
theorem dx_address_74 : decode cx_address 74 = .ok (.laload, 1) := by decide +kernel
theorem dx_address_75 : decode cx_address 75 = .ok (.lstore_n 3, 1) := by decide +kernel
theorem dx_address_76 : decode cx_address 76 = .ok (.iinc 5 1, 3) := by decide +kernel
theorem dx_address_79 : decode cx_address 79 = .ok (.goto (-74), 3) := by decide +kernel
theorem dx_address_82 : decode cx_address 82 = .ok (.iconst (-1), 1) := by decide +kernel
theorem dx_address_83 : decode cx_address 83 = .ok (.ireturn, 1) := by decide +kernel
theorem dx_perform_0 : decode cx_perform 0 = .ok (.aload_n 0, 1) := by decide +kernel
theorem dx_perform_1 : decode cx_perform 1 = .ok (.getfield 44, 3) := by decide +kernel
theorem dx_perform_4 : decode cx_perform 4 = .ok (.bipush 6, 2) := by decide +kernel
theorem dx_perform_6 : decode cx_perform 6 = .ok (.ishr, 1) := by decide +kernel
theorem dx_perform_7 : decode cx_perform 7 = .ok (.tableswitch 58 2 6 #[33, 38, 43, 48, 53], 33) := by decide +kernel
theorem dx_perform_40 : decode cx_perform 40 = .ok (.aload_n 0, 1) := by decide +kernel
theorem dx_perform_41 : decode cx_perform 41 = .ok (.invokevirtual 62, 3) := by decide +kernel
theorem dx_perform_44 : decode cx_perform 44 = .ok (.ireturn, 1) := by decide +kernel
theorem dx_perform_45 : decode cx_perform 45 = .ok (.aload_n 0, 1) := by decide +kernel
theorem dx_perform_46 : decode cx_perform 46 = .ok (.invokevirtual 65, 3) := by decide +kernel
theorem dx_perform_49 : decode cx_perform 49 = .ok (.ireturn, 1) := by decide +kernel
theorem dx_perform_50 : decode cx_perform 50 = .ok (.aload_n 0, 1) := by decide +kernel
theorem dx_perform_51 : decode cx_perform 51 = .ok (.invokevirtual 68, 3) := by decide +kernel
theorem dx_perform_54 : decode cx_perform 54 = .ok (.ireturn, 1) := by decide +kernel
theorem dx_perform_55 : decode cx_perform 55 = .ok (.aload_n 0, 1) := by decide +kernel
theorem dx_perform_56 : decode cx_perform 56 = .ok (.invokevirtual 71, 3) := by decide +kernel
theorem dx_perform_59 : decode cx_perform 59 = .ok (.ireturn, 1) := by decide +kernel
theorem dx_perform_60 : decode cx_perform 60 = .ok (.aload_n 0, 1) := by decide +kernel
theorem dx_perform_61 : decode cx_perform 61 = .ok (.invokevirtual 74, 3) := by decide +kernel
theorem dx_perform_64 : decode cx_perform 64 = .ok (.ireturn, 1) := by decide +kernel
theorem dx_perform_65 : decode cx_perform 65 = .ok (.iconst 1, 1) := by decide +kernel
theorem dx_perform_66 : decode cx_perform 66 = .ok (.ireturn, 1) := by decide +kernel
theorem dx_performTwoHundreds_0 : decode cx_performTwoHundreds 0 = .ok (.aload_n 0, 1) := by decide +kernel
theorem dx_performTwoHundreds_1 : decode cx_performTwoHundreds 1 = .ok (.invokevirtual 77, 3) := by decide +kernel
theorem dx_performTwoHundreds_4 : decode cx_performTwoHundreds 4 = .ok (.lookupswitch 117 #[(128, 92), (132, 92), (136, 92), (140, 92), (144, 97), (152, 102), (160, 107), (176, 112), (184, 97), (188, 97)], 92) := by decide +kernel
theorem dx_performTwoHundreds_96 : decode cx_performTwoHundreds 96 = .ok (.aload_n 0, 1) := by decide +kernel
theorem dx_performTwoHundreds_97 : decode cx_performTwoHundreds 97 = .ok (.invokevirtual 80, 3) := by decide +kernel
theorem dx_performTwoHundreds_100 : decode cx_performTwoHundreds 100 = .ok (.ireturn, 1) := by decide +kernel
theorem dx_performTwoHundreds_101 : decode cx_performTwoHundreds 101 = .ok (.aload_n 0, 1) := by decide +kernel
theorem dx_performTwoHundreds_102 : decode cx_performTwoHundreds 102 = .ok (.invokevirtual 83, 3) := by decide +kernel
theorem dx_performTwoHundreds_105 : decode cx_performTwoHundreds 105 = .ok (.ireturn, 1) := by decide +kernel
theorem dx_performTwoHundreds_106 : decode cx_performTwoHundreds 106 = .ok (.aload_n 0, 1) := by decide +kernel
theorem dx_performTwoHundreds_107 : decode cx_performTwoHundreds 107 = .ok (.invokevirtual 86, 3) := by decide +kernel
theorem dx_performTwoHundreds_110 : decode cx_performTwoHundreds 110 = .ok (.ireturn, 1) := by decide +kernel
theorem dx_performTwoHundreds_111 : decode cx_performTwoHundreds 111 = .ok (.aload_n 0, 1) := by decide +kernel
theorem dx_performTwoHundreds_112 : decode cx_performTwoHundreds 112 = .ok (.invokevirtual 89, 3) := by decide +kernel
theorem dx_performTwoHundreds_115 : decode cx_performTwoHundreds 115 = .ok (.ireturn, 1) := by decide +kernel
theorem dx_performTwoHundreds_116 : decode cx_performTwoHundreds 116 = .ok (.aload_n 0, 1) := by decide +kernel
theorem dx_performTwoHundreds_117 : decode cx_performTwoHundreds 117 = .ok (.invokevirtual 92, 3) := by decide +kernel
theorem dx_performTwoHundreds_120 : decode cx_performTwoHundreds 120 = .ok (.ireturn, 1) := by decide +kernel
theorem dx_performTwoHundreds_121 : decode cx_performTwoHundreds 121 = .ok (.aload_n 0, 1) := by decide +kernel
theorem dx_performTwoHundreds_122 : decode cx_performTwoHundreds 122 = .ok (.invokevirtual 95, 3) := by decide +kernel
theorem dx_performTwoHundreds_125 : decode cx_performTwoHundreds 125 = .ok (.ireturn, 1) := by decide +kernel
theorem dx_performSingle_0 : decode cx_performSingle 0 = .ok (.aload_n 0, 1) := by decide +kernel
theorem dx_performSingle_1 : decode cx_performSingle 1 = .ok (.getfield 44, 3) := by decide +kernel
theorem dx_performSingle_4 : decode cx_performSingle 4 = .ok (.tableswitch 130 168 181 #[72, 77, 82, 88, 94, 100, 130, 130, 130, 130, 130, 130, 105, 110], 72) := by decide +kernel
theorem dx_performSingle_76 : decode cx_performSingle 76 = .ok (.aload_n 0, 1) := by decide +kernel
theorem dx_performSingle_77 : decode cx_performSingle 77 = .ok (.invokevirtual 98, 3) := by decide +kernel
theorem dx_performSingle_80 : decode cx_performSingle 80 = .ok (.ireturn, 1) := by decide +kernel
theorem dx_performSingle_81 : decode cx_performSingle 81 = .ok (.aload_n 0, 1) := by decide +kernel
theorem dx_performSingle_82 : decode cx_performSingle 82 = .ok (.invokevirtual 101, 3) := by decide +kernel
theorem dx_performSingle_85 : decode cx_performSingle 85 = .ok (.ireturn, 1) := by decide +kernel
theorem dx_performSingle_86 : decode cx_performSingle 86 = .ok (.aload_n 0, 1) := by decide +kernel
theorem dx_performSingle_87 : decode cx_performSingle 87 = .ok (.iconst 0, 1) := by decide +kernel
theorem dx_performSingle_88 : decode cx_performSingle 88 = .ok (.invokevirtual 104, 3) := by decide +kernel
theorem dx_performSingle_91 : decode cx_performSingle 91 = .ok (.ireturn, 1) := by decide +kernel
theorem dx_performSingle_92 : decode cx_performSingle 92 = .ok (.aload_n 0, 1) := by decide +kernel
theorem dx_performSingle_93 : decode cx_performSingle 93 = .ok (.iconst 1, 1) := by decide +kernel
theorem dx_performSingle_94 : decode cx_performSingle 94 = .ok (.invokevirtual 104, 3) := by decide +kernel
theorem dx_performSingle_97 : decode cx_performSingle 97 = .ok (.ireturn, 1) := by decide +kernel
theorem dx_performSingle_98 : decode cx_performSingle 98 = .ok (.aload_n 0, 1) := by decide +kernel
theorem dx_performSingle_99 : decode cx_performSingle 99 = .ok (.iconst 1, 1) := by decide +kernel
theorem dx_performSingle_100 : decode cx_performSingle 100 = .ok (.invokevirtual 108, 3) := by decide +kernel
theorem dx_performSingle_103 : decode cx_performSingle 103 = .ok (.ireturn, 1) := by decide +kernel
theorem dx_performSingle_104 : decode cx_performSingle 104 = .ok (.aload_n 0, 1) := by decide +kernel
theorem dx_performSingle_105 : decode cx_performSingle 105 = .ok (.invokevirtual 111, 3) := by decide +kernel
theorem dx_performSingle_108 : decode cx_performSingle 108 = .ok (.ireturn, 1) := by decide +kernel
theorem dx_performSingle_109 : decode cx_performSingle 109 = .ok (.aload_n 0, 1) := by decide +kernel
theorem dx_performSingle_110 : decode cx_performSingle 110 = .ok (.invokevirtual 114, 3) := by decide +kernel
theorem dx_performSingle_113 : decode cx_performSingle 113 = .ok (.ireturn, 1) := by decide +kernel
theorem dx_performSingle_114 : decode cx_performSingle 114 = .ok (.aload_n 0, 1) := by decide +kernel
theorem dx_performSingle_115 : decode cx_performSingle 115 = .ok (.getfield 9, 3) := by decide +kernel
theorem dx_performSingle_118 : decode cx_performSingle 118 = .ok (.aload_n 0, 1) := by decide +kernel
theorem dx_performSingle_119 : decode cx_performSingle 119 = .ok (.getfield 47, 3) := by decide +kernel
theorem dx_performSingle_122 : decode cx_performSingle 122 = .ok (.aload_n 0, 1) := by decide +kernel
theorem dx_performSingle_123 : decode cx_performSingle 123 = .ok (.getfield 23, 3) := by decide +kernel
theorem dx_performSingle_126 : decode cx_performSingle 126 = .ok (.i2l, 1) := by decide +kernel
theorem dx_performSingle_127 : decode cx_performSingle 127 = .ok (.lastore, 1) := by decide +kernel
theorem dx_performSingle_128 : decode cx_performSingle 128 = .ok (.aload_n 0, 1) := by decide +kernel
theorem dx_performSingle_129 : decode cx_performSingle 129 = .ok (.iconst 1, 1) := by decide +kernel
theorem dx_performSingle_130 : decode cx_performSingle 130 = .ok (.invokevirtual 108, 3) := by decide +kernel
theorem dx_performSingle_133 : decode cx_performSingle 133 = .ok (.ireturn, 1) := by decide +kernel
theorem dx_performSingle_134 : decode cx_performSingle 134 = .ok (.iconst 1, 1) := by decide +kernel
theorem dx_performSingle_135 : decode cx_performSingle 135 = .ok (.ireturn, 1) := by decide +kernel
theorem dx_family_0 : decode cx_family 0 = .ok (.aload_n 0, 1) := by decide +kernel
theorem dx_family_1 : decode cx_family 1 = .ok (.getfield 44, 3) := by decide +kernel
theorem dx_family_4 : decode cx_family 4 = .ok (.sipush 508, 3) := by decide +kernel
theorem dx_family_7 : decode cx_family 7 = .ok (.iand, 1) := by decide +kernel
theorem dx_family_8 : decode cx_family 8 = .ok (.ireturn, 1) := by decide +kernel
theorem dx_mode_0 : decode cx_mode 0 = .ok (.aload_n 0, 1) := by decide +kernel
theorem dx_mode_1 : decode cx_mode 1 = .ok (.getfield 44, 3) := by decide +kernel
theorem dx_mode_4 : decode cx_mode 4 = .ok (.iconst 3, 1) := by decide +kernel
theorem dx_mode_5 : decode cx_mode 5 = .ok (.iand, 1) := by decide +kernel
theorem dx_mode_6 : decode cx_mode 6 = .ok (.ireturn, 1) := by decide +kernel
theorem dx_lacksOperand_0 : decode cx_lacksOperand 0 = .ok (.aload_n 0, 1) := by decide +kernel
theorem dx_lacksOperand_1 : decode cx_lacksOperand 1 = .ok (.invokevirtual 117, 3) := by decide +kernel
theorem dx_lacksOperand_4 : decode cx_lacksOperand 4 = .ok (.iconst 1, 1) := by decide +kernel
theorem dx_lacksOperand_5 : decode cx_lacksOperand 5 = .ok (.if_icmp .eq 17, 3) := by decide +kernel
theorem dx_lacksOperand_8 : decode cx_lacksOperand 8 = .ok (.aload_n 0, 1) := by decide +kernel
theorem dx_lacksOperand_9 : decode cx_lacksOperand 9 = .ok (.getfield 54, 3) := by decide +kernel
theorem dx_lacksOperand_12 : decode cx_lacksOperand 12 = .ok (.invokestatic 13, 3) := by decide +kernel
theorem dx_lacksOperand_15 : decode cx_lacksOperand 15 = .ok (.ifCond .ne 7, 3) := by decide +kernel
theorem dx_lacksOperand_18 : decode cx_lacksOperand 18 = .ok (.iconst 1, 1) := by decide +kernel
theorem dx_lacksOperand_19 : decode cx_lacksOperand 19 = .ok (.goto 4, 3) := by decide +kernel
theorem dx_lacksOperand_22 : decode cx_lacksOperand 22 = .ok (.iconst 0, 1) := by decide +kernel
theorem dx_lacksOperand_23 : decode cx_lacksOperand 23 = .ok (.ireturn, 1) := by decide +kernel
theorem dx_operand_0 : decode cx_operand 0 = .ok (.aload_n 0, 1) := by decide +kernel
theorem dx_operand_1 : decode cx_operand 1 = .ok (.invokevirtual 117, 3) := by decide +kernel
theorem dx_operand_4 : decode cx_operand 4 = .ok (.iconst 1, 1) := by decide +kernel
theorem dx_operand_5 : decode cx_operand 5 = .ok (.if_icmp .ne 11, 3) := by decide +kernel
theorem dx_operand_8 : decode cx_operand 8 = .ok (.aload_n 0, 1) := by decide +kernel
theorem dx_operand_9 : decode cx_operand 9 = .ok (.getfield 54, 3) := by decide +kernel
theorem dx_operand_12 : decode cx_operand 12 = .ok (.i2l, 1) := by decide +kernel
theorem dx_operand_13 : decode cx_operand 13 = .ok (.goto 12, 3) := by decide +kernel
theorem dx_operand_16 : decode cx_operand 16 = .ok (.aload_n 0, 1) := by decide +kernel
theorem dx_operand_17 : decode cx_operand 17 = .ok (.getfield 9, 3) := by decide +kernel
theorem dx_operand_20 : decode cx_operand 20 = .ok (.aload_n 0, 1) := by decide +kernel
theorem dx_operand_21 : decode cx_operand 21 = .ok (.getfield 54, 3) := by decide +kernel
theorem dx_operand_24 : decode cx_operand 24 = .ok (.laload, 1) := by decide +kernel
theorem dx_operand_25 : decode cx_operand 25 = .ok (.lreturn, 1) := by decide +kernel
theorem dx_storeBoth_0 : decode cx_storeBoth 0 = .ok (.aload_n 0, 1) := by decide +kernel
theorem dx_storeBoth_1 : decode cx_storeBoth 1 = .ok (.invokevirtual 117, 3) := by decide +kernel
theorem dx_storeBoth_4 : decode cx_storeBoth 4 = .ok (.iconst 2, 1) := by decide +kernel
theorem dx_storeBoth_5 : decode cx_storeBoth 5 = .ok (.if_icmp .lt 13, 3) := by decide +kernel
theorem dx_storeBoth_8 : decode cx_storeBoth 8 = .ok (.aload_n 0, 1) := by decide +kernel
theorem dx_storeBoth_9 : decode cx_storeBoth 9 = .ok (.getfield 9, 3) := by decide +kernel
theorem dx_storeBoth_12 : decode cx_storeBoth 12 = .ok (.aload_n 0, 1) := by decide +kernel
theorem dx_storeBoth_13 : decode cx_storeBoth 13 = .ok (.getfield 54, 3) := by decide +kernel
theorem dx_storeBoth_16 : decode cx_storeBoth 16 = .ok (.lload_n 1, 1) := by decide +kernel
theorem dx_storeBoth_17 : decode cx_storeBoth 17 = .ok (.lastore, 1) := by decide +kernel
theorem dx_storeBoth_18 : decode cx_storeBoth 18 = .ok (.aload_n 0, 1) := by decide +kernel
theorem dx_storeBoth_19 : decode cx_storeBoth 19 = .ok (.invokevirtual 117, 3) := by decide +kernel
theorem dx_storeBoth_22 : decode cx_storeBoth 22 = .ok (.iconst 2, 1) := by decide +kernel
theorem dx_storeBoth_23 : decode cx_storeBoth 23 = .ok (.if_icmp .eq 13, 3) := by decide +kernel
theorem dx_storeBoth_26 : decode cx_storeBoth 26 = .ok (.aload_n 0, 1) := by decide +kernel
theorem dx_storeBoth_27 : decode cx_storeBoth 27 = .ok (.getfield 9, 3) := by decide +kernel
theorem dx_storeBoth_30 : decode cx_storeBoth 30 = .ok (.aload_n 0, 1) := by decide +kernel
theorem dx_storeBoth_31 : decode cx_storeBoth 31 = .ok (.getfield 47, 3) := by decide +kernel
theorem dx_storeBoth_34 : decode cx_storeBoth 34 = .ok (.lload_n 1, 1) := by decide +kernel
theorem dx_storeBoth_35 : decode cx_storeBoth 35 = .ok (.lastore, 1) := by decide +kernel
theorem dx_storeBoth_36 : decode cx_storeBoth 36 = .ok (.iconst 0, 1) := by decide +kernel
theorem dx_storeBoth_37 : decode cx_storeBoth 37 = .ok (.ireturn, 1) := by decide +kernel
theorem dx_storeSelf_0 : decode cx_storeSelf 0 = .ok (.aload_n 0, 1) := by decide +kernel
theorem dx_storeSelf_1 : decode cx_storeSelf 1 = .ok (.invokevirtual 117, 3) := by decide +kernel
theorem dx_storeSelf_4 : decode cx_storeSelf 4 = .ok (.iconst 2, 1) := by decide +kernel
theorem dx_storeSelf_5 : decode cx_storeSelf 5 = .ok (.if_icmp .lt 13, 3) := by decide +kernel
theorem dx_storeSelf_8 : decode cx_storeSelf 8 = .ok (.aload_n 0, 1) := by decide +kernel
theorem dx_storeSelf_9 : decode cx_storeSelf 9 = .ok (.getfield 9, 3) := by decide +kernel
theorem dx_storeSelf_12 : decode cx_storeSelf 12 = .ok (.aload_n 0, 1) := by decide +kernel
theorem dx_storeSelf_13 : decode cx_storeSelf 13 = .ok (.getfield 54, 3) := by decide +kernel
theorem dx_storeSelf_16 : decode cx_storeSelf 16 = .ok (.lload_n 1, 1) := by decide +kernel
theorem dx_storeSelf_17 : decode cx_storeSelf 17 = .ok (.lastore, 1) := by decide +kernel
theorem dx_storeSelf_18 : decode cx_storeSelf 18 = .ok (.aload_n 0, 1) := by decide +kernel
theorem dx_storeSelf_19 : decode cx_storeSelf 19 = .ok (.invokevirtual 117, 3) := by decide +kernel
theorem dx_storeSelf_22 : decode cx_storeSelf 22 = .ok (.iconst 2, 1) := by decide +kernel
theorem dx_storeSelf_23 : decode cx_storeSelf 23 = .ok (.if_icmp .lt 18, 3) := by decide +kernel
theorem dx_storeSelf_26 : decode cx_storeSelf 26 = .ok (.aload_n 0, 1) := by decide +kernel
theorem dx_storeSelf_27 : decode cx_storeSelf 27 = .ok (.invokevirtual 117, 3) := by decide +kernel
theorem dx_storeSelf_30 : decode cx_storeSelf 30 = .ok (.iconst 3, 1) := by decide +kernel
theorem dx_storeSelf_31 : decode cx_storeSelf 31 = .ok (.if_icmp .ne 20, 3) := by decide +kernel
theorem dx_storeSelf_34 : decode cx_storeSelf 34 = .ok (.aload_n 0, 1) := by decide +kernel
theorem dx_storeSelf_35 : decode cx_storeSelf 35 = .ok (.getfield 47, 3) := by decide +kernel
theorem dx_storeSelf_38 : decode cx_storeSelf 38 = .ok (.ifCond .eq 13, 3) := by decide +kernel
theorem dx_storeSelf_41 : decode cx_storeSelf 41 = .ok (.aload_n 0, 1) := by decide +kernel
theorem dx_storeSelf_42 : decode cx_storeSelf 42 = .ok (.getfield 9, 3) := by decide +kernel
theorem dx_storeSelf_45 : decode cx_storeSelf 45 = .ok (.aload_n 0, 1) := by decide +kernel
theorem dx_storeSelf_46 : decode cx_storeSelf 46 = .ok (.getfield 47, 3) := by decide +kernel
theorem dx_storeSelf_49 : decode cx_storeSelf 49 = .ok (.lload_n 1, 1) := by decide +kernel
theorem dx_storeSelf_50 : decode cx_storeSelf 50 = .ok (.lastore, 1) := by decide +kernel
theorem dx_storeSelf_51 : decode cx_storeSelf 51 = .ok (.iconst 0, 1) := by decide +kernel
theorem dx_storeSelf_52 : decode cx_storeSelf 52 = .ok (.ireturn, 1) := by decide +kernel
theorem dx_move_0 : decode cx_move 0 = .ok (.aload_n 0, 1) := by decide +kernel
theorem dx_move_1 : decode cx_move 1 = .ok (.invokevirtual 120, 3) := by decide +kernel
theorem dx_move_4 : decode cx_move 4 = .ok (.ifCond .eq 5, 3) := by decide +kernel
theorem dx_move_7 : decode cx_move 7 = .ok (.iconst 2, 1) := by decide +kernel
theorem dx_move_8 : decode cx_move 8 = .ok (.ireturn, 1) := by decide +kernel
theorem dx_move_9 : decode cx_move 9 = .ok (.aload_n 0, 1) := by decide +kernel
theorem dx_move_10 : decode cx_move 10 = .ok (.invokevirtual 117, 3) := by decide +kernel
theorem dx_move_13 : decode cx_move 13 = .ok (.iconst 2, 1) := by decide +kernel
theorem dx_move_14 : decode cx_move 14 = .ok (.if_icmp .ne 15, 3) := by decide +kernel
theorem dx_move_17 : decode cx_move 17 = .ok (.aload_n 0, 1) := by decide +kernel
theorem dx_move_18 : decode cx_move 18 = .ok (.getfield 9, 3) := by decide +kernel
theorem dx_move_21 : decode cx_move 21 = .ok (.aload_n 0, 1) := by decide +kernel
theorem dx_move_22 : decode cx_move 22 = .ok (.getfield 47, 3) := by decide +kernel
theorem dx_move_25 : decode cx_move 25 = .ok (.laload, 1) := by decide +kernel
theorem dx_move_26 : decode cx_move 26 = .ok (.goto 7, 3) := by decide +kernel
theorem dx_move_29 : decode cx_move 29 = .ok (.aload_n 0, 1) := by decide +kernel
theorem dx_move_30 : decode cx_move 30 = .ok (.invokevirtual 124, 3) := by decide +kernel
theorem dx_move_33 : decode cx_move 33 = .ok (.lstore_n 1, 1) := by decide +kernel
theorem dx_move_34 : decode cx_move 34 = .ok (.aload_n 0, 1) := by decide +kernel
theorem dx_move_35 : decode cx_move 35 = .ok (.invokevirtual 77, 3) := by decide +kernel
theorem dx_move_38 : decode cx_move 38 = .ok (.lookupswitch 75 #[(132, 34), (136, 43), (140, 54)], 34) := by decide +kernel
theorem dx_move_72 : decode cx_move 72 = .ok (.aload_n 0, 1) := by decide +kernel
theorem dx_move_73 : decode cx_move 73 = .ok (.lload_n 1, 1) := by decide +kernel
theorem dx_move_74 : decode cx_move 74 = .ok (.invokestatic 128, 3) := by decide +kernel
theorem dx_move_77 : decode cx_move 77 = .ok (.invokevirtual 131, 3) := by decide +kernel
theorem dx_move_80 : decode cx_move 80 = .ok (.ireturn, 1) := by decide +kernel
theorem dx_move_81 : decode cx_move 81 = .ok (.aload_n 0, 1) := by decide +kernel
theorem dx_move_82 : decode cx_move 82 = .ok (.aload_n 0, 1) := by decide +kernel
theorem dx_move_83 : decode cx_move 83 = .ok (.lload_n 1, 1) := by decide +kernel
theorem dx_move_84 : decode cx_move 84 = .ok (.lneg, 1) := by decide +kernel
theorem dx_move_85 : decode cx_move 85 = .ok (.invokevirtual 134, 3) := by decide +kernel
theorem dx_move_88 : decode cx_move 88 = .ok (.invokevirtual 131, 3) := by decide +kernel
theorem dx_move_91 : decode cx_move 91 = .ok (.ireturn, 1) := by decide +kernel
theorem dx_move_92 : decode cx_move 92 = .ok (.aload_n 0, 1) := by decide +kernel
theorem dx_move_93 : decode cx_move 93 = .ok (.aload_n 0, 1) := by decide +kernel
theorem dx_move_94 : decode cx_move 94 = .ok (.lload_n 1, 1) := by decide +kernel
theorem dx_move_95 : decode cx_move 95 = .ok (.lconst 0, 1) := by decide +kernel
theorem dx_move_96 : decode cx_move 96 = .ok (.lcmp, 1) := by decide +kernel
theorem dx_move_97 : decode cx_move 97 = .ok (.ifCond .ge 8, 3) := by decide +kernel
theorem dx_move_100 : decode cx_move 100 = .ok (.lload_n 1, 1) := by decide +kernel
theorem dx_move_101 : decode cx_move 101 = .ok (.lneg, 1) := by decide +kernel
theorem dx_move_102 : decode cx_move 102 = .ok (.goto 4, 3) := by decide +kernel
theorem dx_move_105 : decode cx_move 105 = .ok (.lload_n 1, 1) := by decide +kernel
theorem dx_move_106 : decode cx_move 106 = .ok (.invokevirtual 134, 3) := by decide +kernel
theorem dx_move_109 : decode cx_move 109 = .ok (.invokevirtual 131, 3) := by decide +kernel
theorem dx_move_112 : decode cx_move 112 = .ok (.ireturn, 1) := by decide +kernel
theorem dx_move_113 : decode cx_move 113 = .ok (.aload_n 0, 1) := by decide +kernel
theorem dx_move_114 : decode cx_move 114 = .ok (.lload_n 1, 1) := by decide +kernel
theorem dx_move_115 : decode cx_move 115 = .ok (.invokevirtual 131, 3) := by decide +kernel
theorem dx_move_118 : decode cx_move 118 = .ok (.ireturn, 1) := by decide +kernel
theorem dx_calculate_0 : decode cx_calculate 0 = .ok (.aload_n 0, 1) := by decide +kernel
theorem dx_calculate_1 : decode cx_calculate 1 = .ok (.invokevirtual 120, 3) := by decide +kernel
theorem dx_calculate_4 : decode cx_calculate 4 = .ok (.ifCond .eq 5, 3) := by decide +kernel
theorem dx_calculate_7 : decode cx_calculate 7 = .ok (.iconst 2, 1) := by decide +kernel
theorem dx_calculate_8 : decode cx_calculate 8 = .ok (.ireturn, 1) := by decide +kernel
theorem dx_calculate_9 : decode cx_calculate 9 = .ok (.aload_n 0, 1) := by decide +kernel
theorem dx_calculate_10 : decode cx_calculate 10 = .ok (.getfield 9, 3) := by decide +kernel
theorem dx_calculate_13 : decode cx_calculate 13 = .ok (.aload_n 0, 1) := by decide +kernel
theorem dx_calculate_14 : decode cx_calculate 14 = .ok (.getfield 47, 3) := by decide +kernel
theorem dx_calculate_17 : decode cx_calculate 17 = .ok (.laload, 1) := by decide +kernel
theorem dx_calculate_18 : decode cx_calculate 18 = .ok (.lstore_n 1, 1) := by decide +kernel
theorem dx_calculate_19 : decode cx_calculate 19 = .ok (.aload_n 0, 1) := by decide +kernel
theorem dx_calculate_20 : decode cx_calculate 20 = .ok (.invokevirtual 124, 3) := by decide +kernel
theorem dx_calculate_23 : decode cx_calculate 23 = .ok (.lstore_n 3, 1) := by decide +kernel
theorem dx_calculate_24 : decode cx_calculate 24 = .ok (.aload_n 0, 1) := by decide +kernel
theorem dx_calculate_25 : decode cx_calculate 25 = .ok (.invokevirtual 77, 3) := by decide +kernel
theorem dx_calculate_28 : decode cx_calculate 28 = .ok (.lookupswitch 52 #[(184, 28), (188, 40)], 28) := by decide +kernel
theorem dx_calculate_56 : decode cx_calculate 56 = .ok (.aload_n 0, 1) := by decide +kernel
theorem dx_calculate_57 : decode cx_calculate 57 = .ok (.aload_n 0, 1) := by decide +kernel
theorem dx_calculate_58 : decode cx_calculate 58 = .ok (.lload_n 1, 1) := by decide +kernel
theorem dx_calculate_59 : decode cx_calculate 59 = .ok (.lload_n 3, 1) := by decide +kernel
theorem dx_calculate_60 : decode cx_calculate 60 = .ok (.ladd, 1) := by decide +kernel
theorem dx_calculate_61 : decode cx_calculate 61 = .ok (.invokevirtual 134, 3) := by decide +kernel
theorem dx_calculate_64 : decode cx_calculate 64 = .ok (.invokevirtual 137, 3) := by decide +kernel
theorem dx_calculate_67 : decode cx_calculate 67 = .ok (.ireturn, 1) := by decide +kernel
theorem dx_calculate_68 : decode cx_calculate 68 = .ok (.aload_n 0, 1) := by decide +kernel
theorem dx_calculate_69 : decode cx_calculate 69 = .ok (.aload_n 0, 1) := by decide +kernel
theorem dx_calculate_70 : decode cx_calculate 70 = .ok (.lload_n 1, 1) := by decide +kernel
theorem dx_calculate_71 : decode cx_calculate 71 = .ok (.lload_n 3, 1) := by decide +kernel
theorem dx_calculate_72 : decode cx_calculate 72 = .ok (.lsub, 1) := by decide +kernel
theorem dx_calculate_73 : decode cx_calculate 73 = .ok (.invokevirtual 134, 3) := by decide +kernel
theorem dx_calculate_76 : decode cx_calculate 76 = .ok (.invokevirtual 137, 3) := by decide +kernel
theorem dx_calculate_79 : decode cx_calculate 79 = .ok (.ireturn, 1) := by decide +kernel
theorem dx_calculate_80 : decode cx_calculate 80 = .ok (.aload_n 0, 1) := by decide +kernel
theorem dx_calculate_81 : decode cx_calculate 81 = .ok (.aload_n 0, 1) := by decide +kernel
theorem dx_calculate_82 : decode cx_calculate 82 = .ok (.lload_n 1, 1) := by decide +kernel
theorem dx_calculate_83 : decode cx_calculate 83 = .ok (.lload_n 3, 1) := by decide +kernel
theorem dx_calculate_84 : decode cx_calculate 84 = .ok (.invokevirtual 140, 3) := by decide +kernel
theorem dx_calculate_87 : decode cx_calculate 87 = .ok (.invokevirtual 137, 3) := by decide +kernel
theorem dx_calculate_90 : decode cx_calculate 90 = .ok (.ireturn, 1) := by decide +kernel
theorem dx_product_0 : decode cx_product 0 = .ok (.lload_n 1, 1) := by decide +kernel
theorem dx_product_1 : decode cx_product 1 = .ok (.lconst 0, 1) := by decide +kernel
theorem dx_product_2 : decode cx_product 2 = .ok (.lcmp, 1) := by decide +kernel
theorem dx_product_3 : decode cx_product 3 = .ok (.ifCond .eq 31, 3) := by decide +kernel
theorem dx_product_6 : decode cx_product 6 = .ok (.lload_n 3, 1) := by decide +kernel
theorem dx_product_7 : decode cx_product 7 = .ok (.invokestatic 144, 3) := by decide +kernel
theorem dx_product_10 : decode cx_product 10 = .ok (.ldc2_w 149, 3) := by decide +kernel
theorem dx_product_13 : decode cx_product 13 = .ok (.lload_n 1, 1) := by decide +kernel
theorem dx_product_14 : decode cx_product 14 = .ok (.invokestatic 144, 3) := by decide +kernel
theorem dx_product_17 : decode cx_product 17 = .ok (.ldiv, 1) := by decide +kernel
theorem dx_product_18 : decode cx_product 18 = .ok (.lcmp, 1) := by decide +kernel
theorem dx_product_19 : decode cx_product 19 = .ok (.ifCond .le 15, 3) := by decide +kernel
theorem dx_product_22 : decode cx_product 22 = .ok (.aload_n 0, 1) := by decide +kernel
theorem dx_product_23 : decode cx_product 23 = .ok (.iconst 1, 1) := by decide +kernel
theorem dx_product_24 : decode cx_product 24 = .ok (.putfield 27, 3) := by decide +kernel
theorem dx_product_27 : decode cx_product 27 = .ok (.lload_n 1, 1) := by decide +kernel
theorem dx_product_28 : decode cx_product 28 = .ok (.lload_n 3, 1) := by decide +kernel
theorem dx_product_29 : decode cx_product 29 = .ok (.lmul, 1) := by decide +kernel
theorem dx_product_30 : decode cx_product 30 = .ok (.invokestatic 17, 3) := by decide +kernel
theorem dx_product_33 : decode cx_product 33 = .ok (.lreturn, 1) := by decide +kernel
theorem dx_product_34 : decode cx_product 34 = .ok (.aload_n 0, 1) := by decide +kernel
theorem dx_product_35 : decode cx_product 35 = .ok (.lload_n 1, 1) := by decide +kernel
theorem dx_product_36 : decode cx_product 36 = .ok (.lload_n 3, 1) := by decide +kernel
theorem dx_product_37 : decode cx_product 37 = .ok (.lmul, 1) := by decide +kernel
theorem dx_product_38 : decode cx_product 38 = .ok (.invokevirtual 134, 3) := by decide +kernel
theorem dx_product_41 : decode cx_product 41 = .ok (.lreturn, 1) := by decide +kernel
theorem dx_divide_0 : decode cx_divide 0 = .ok (.aload_n 0, 1) := by decide +kernel
theorem dx_divide_1 : decode cx_divide 1 = .ok (.invokevirtual 120, 3) := by decide +kernel
theorem dx_divide_4 : decode cx_divide 4 = .ok (.ifCond .eq 5, 3) := by decide +kernel
theorem dx_divide_7 : decode cx_divide 7 = .ok (.iconst 2, 1) := by decide +kernel
theorem dx_divide_8 : decode cx_divide 8 = .ok (.ireturn, 1) := by decide +kernel
theorem dx_divide_9 : decode cx_divide 9 = .ok (.aload_n 0, 1) := by decide +kernel
theorem dx_divide_10 : decode cx_divide 10 = .ok (.getfield 9, 3) := by decide +kernel
theorem dx_divide_13 : decode cx_divide 13 = .ok (.aload_n 0, 1) := by decide +kernel
theorem dx_divide_14 : decode cx_divide 14 = .ok (.getfield 47, 3) := by decide +kernel
theorem dx_divide_17 : decode cx_divide 17 = .ok (.laload, 1) := by decide +kernel
theorem dx_divide_18 : decode cx_divide 18 = .ok (.lstore_n 1, 1) := by decide +kernel
theorem dx_divide_19 : decode cx_divide 19 = .ok (.aload_n 0, 1) := by decide +kernel
theorem dx_divide_20 : decode cx_divide 20 = .ok (.invokevirtual 124, 3) := by decide +kernel
theorem dx_divide_23 : decode cx_divide 23 = .ok (.lstore_n 3, 1) := by decide +kernel
theorem dx_divide_24 : decode cx_divide 24 = .ok (.lload_n 3, 1) := by decide +kernel
theorem dx_divide_25 : decode cx_divide 25 = .ok (.lconst 0, 1) := by decide +kernel
theorem dx_divide_26 : decode cx_divide 26 = .ok (.lcmp, 1) := by decide +kernel
theorem dx_divide_27 : decode cx_divide 27 = .ok (.ifCond .eq 19, 3) := by decide +kernel
theorem dx_divide_30 : decode cx_divide 30 = .ok (.lload_n 3, 1) := by decide +kernel
theorem dx_divide_31 : decode cx_divide 31 = .ok (.ldc2_w 151, 3) := by decide +kernel
theorem dx_divide_34 : decode cx_divide 34 = .ok (.lcmp, 1) := by decide +kernel
theorem dx_divide_35 : decode cx_divide 35 = .ok (.ifCond .ne 18, 3) := by decide +kernel
theorem dx_divide_38 : decode cx_divide 38 = .ok (.lload_n 1, 1) := by decide +kernel
theorem dx_divide_39 : decode cx_divide 39 = .ok (.ldc2_w 153, 3) := by decide +kernel
theorem dx_divide_42 : decode cx_divide 42 = .ok (.lcmp, 1) := by decide +kernel
theorem dx_divide_43 : decode cx_divide 43 = .ok (.ifCond .ne 10, 3) := by decide +kernel
theorem dx_divide_46 : decode cx_divide 46 = .ok (.aload_n 0, 1) := by decide +kernel
theorem dx_divide_47 : decode cx_divide 47 = .ok (.iconst 1, 1) := by decide +kernel
theorem dx_divide_48 : decode cx_divide 48 = .ok (.putfield 27, 3) := by decide +kernel
theorem dx_divide_51 : decode cx_divide 51 = .ok (.iconst 0, 1) := by decide +kernel
theorem dx_divide_52 : decode cx_divide 52 = .ok (.ireturn, 1) := by decide +kernel
theorem dx_divide_53 : decode cx_divide 53 = .ok (.aload_n 0, 1) := by decide +kernel
theorem dx_divide_54 : decode cx_divide 54 = .ok (.lload_n 1, 1) := by decide +kernel
theorem dx_divide_55 : decode cx_divide 55 = .ok (.lload_n 3, 1) := by decide +kernel
theorem dx_divide_56 : decode cx_divide 56 = .ok (.ldiv, 1) := by decide +kernel
theorem dx_divide_57 : decode cx_divide 57 = .ok (.invokevirtual 137, 3) := by decide +kernel
theorem dx_divide_60 : decode cx_divide 60 = .ok (.pop, 1) := by decide +kernel
theorem dx_divide_61 : decode cx_divide 61 = .ok (.aload_n 0, 1) := by decide +kernel
theorem dx_divide_62 : decode cx_divide 62 = .ok (.invokevirtual 117, 3) := by decide +kernel
theorem dx_divide_65 : decode cx_divide 65 = .ok (.iconst 2, 1) := by decide +kernel
theorem dx_divide_66 : decode cx_divide 66 = .ok (.if_icmp .eq 15, 3) := by decide +kernel
theorem dx_divide_69 : decode cx_divide 69 = .ok (.aload_n 0, 1) := by decide +kernel
theorem dx_divide_70 : decode cx_divide 70 = .ok (.getfield 9, 3) := by decide +kernel
theorem dx_divide_73 : decode cx_divide 73 = .ok (.aload_n 0, 1) := by decide +kernel
theorem dx_divide_74 : decode cx_divide 74 = .ok (.invokevirtual 155, 3) := by decide +kernel
theorem dx_divide_77 : decode cx_divide 77 = .ok (.lload_n 1, 1) := by decide +kernel
theorem dx_divide_78 : decode cx_divide 78 = .ok (.lload_n 3, 1) := by decide +kernel
theorem dx_divide_79 : decode cx_divide 79 = .ok (.lrem, 1) := by decide +kernel
theorem dx_divide_80 : decode cx_divide 80 = .ok (.lastore, 1) := by decide +kernel
theorem dx_divide_81 : decode cx_divide 81 = .ok (.iconst 0, 1) := by decide +kernel
theorem dx_divide_82 : decode cx_divide 82 = .ok (.ireturn, 1) := by decide +kernel
theorem dx_acAfter_0 : decode cx_acAfter 0 = .ok (.aload_n 0, 1) := by decide +kernel
theorem dx_acAfter_1 : decode cx_acAfter 1 = .ok (.getfield 47, 3) := by decide +kernel
theorem dx_acAfter_4 : decode cx_acAfter 4 = .ok (.iconst 1, 1) := by decide +kernel
theorem dx_acAfter_5 : decode cx_acAfter 5 = .ok (.iadd, 1) := by decide +kernel
theorem dx_acAfter_6 : decode cx_acAfter 6 = .ok (.bipush 15, 2) := by decide +kernel
theorem dx_acAfter_8 : decode cx_acAfter 8 = .ok (.iand, 1) := by decide +kernel
theorem dx_acAfter_9 : decode cx_acAfter 9 = .ok (.ireturn, 1) := by decide +kernel
theorem dx_result_0 : decode cx_result 0 = .ok (.lload_n 1, 1) := by decide +kernel
theorem dx_result_1 : decode cx_result 1 = .ok (.invokestatic 17, 3) := by decide +kernel
theorem dx_result_4 : decode cx_result 4 = .ok (.lstore_n 3, 1) := by decide +kernel
theorem dx_result_5 : decode cx_result 5 = .ok (.lload_n 3, 1) := by decide +kernel
theorem dx_result_6 : decode cx_result 6 = .ok (.lload_n 1, 1) := by decide +kernel
theorem dx_result_7 : decode cx_result 7 = .ok (.lcmp, 1) := by decide +kernel
theorem dx_result_8 : decode cx_result 8 = .ok (.ifCond .eq 8, 3) := by decide +kernel
theorem dx_result_11 : decode cx_result 11 = .ok (.aload_n 0, 1) := by decide +kernel
theorem dx_result_12 : decode cx_result 12 = .ok (.iconst 1, 1) := by decide +kernel
theorem dx_result_13 : decode cx_result 13 = .ok (.putfield 27, 3) := by decide +kernel
theorem dx_result_16 : decode cx_result 16 = .ok (.lload_n 3, 1) := by decide +kernel
theorem dx_result_17 : decode cx_result 17 = .ok (.lreturn, 1) := by decide +kernel
theorem dx_shiftOrFindFirstOne_0 : decode cx_shiftOrFindFirstOne 0 = .ok (.aload_n 0, 1) := by decide +kernel
theorem dx_shiftOrFindFirstOne_1 : decode cx_shiftOrFindFirstOne 1 = .ok (.getfield 44, 3) := by decide +kernel
theorem dx_shiftOrFindFirstOne_4 : decode cx_shiftOrFindFirstOne 4 = .ok (.tableswitch 114 160 163 #[32, 60, 87, 114], 32) := by decide +kernel
theorem dx_shiftOrFindFirstOne_36 : decode cx_shiftOrFindFirstOne 36 = .ok (.aload_n 0, 1) := by decide +kernel
theorem dx_shiftOrFindFirstOne_37 : decode cx_shiftOrFindFirstOne 37 = .ok (.getfield 9, 3) := by decide +kernel
theorem dx_shiftOrFindFirstOne_40 : decode cx_shiftOrFindFirstOne 40 = .ok (.aload_n 0, 1) := by decide +kernel
theorem dx_shiftOrFindFirstOne_41 : decode cx_shiftOrFindFirstOne 41 = .ok (.getfield 47, 3) := by decide +kernel
theorem dx_shiftOrFindFirstOne_44 : decode cx_shiftOrFindFirstOne 44 = .ok (.aload_n 0, 1) := by decide +kernel
theorem dx_shiftOrFindFirstOne_45 : decode cx_shiftOrFindFirstOne 45 = .ok (.aload_n 0, 1) := by decide +kernel
theorem dx_shiftOrFindFirstOne_46 : decode cx_shiftOrFindFirstOne 46 = .ok (.getfield 9, 3) := by decide +kernel
theorem dx_shiftOrFindFirstOne_49 : decode cx_shiftOrFindFirstOne 49 = .ok (.aload_n 0, 1) := by decide +kernel
theorem dx_shiftOrFindFirstOne_50 : decode cx_shiftOrFindFirstOne 50 = .ok (.getfield 47, 3) := by decide +kernel
theorem dx_shiftOrFindFirstOne_53 : decode cx_shiftOrFindFirstOne 53 = .ok (.laload, 1) := by decide +kernel
theorem dx_shiftOrFindFirstOne_54 : decode cx_shiftOrFindFirstOne 54 = .ok (.aload_n 0, 1) := by decide +kernel
theorem dx_shiftOrFindFirstOne_55 : decode cx_shiftOrFindFirstOne 55 = .ok (.invokevirtual 158, 3) := by decide +kernel
theorem dx_shiftOrFindFirstOne_58 : decode cx_shiftOrFindFirstOne 58 = .ok (.invokevirtual 161, 3) := by decide +kernel
theorem dx_shiftOrFindFirstOne_61 : decode cx_shiftOrFindFirstOne 61 = .ok (.lastore, 1) := by decide +kernel
theorem dx_shiftOrFindFirstOne_62 : decode cx_shiftOrFindFirstOne 62 = .ok (.iconst 0, 1) := by decide +kernel
theorem dx_shiftOrFindFirstOne_63 : decode cx_shiftOrFindFirstOne 63 = .ok (.ireturn, 1) := by decide +kernel
theorem dx_shiftOrFindFirstOne_64 : decode cx_shiftOrFindFirstOne 64 = .ok (.aload_n 0, 1) := by decide +kernel
theorem dx_shiftOrFindFirstOne_65 : decode cx_shiftOrFindFirstOne 65 = .ok (.getfield 9, 3) := by decide +kernel
theorem dx_shiftOrFindFirstOne_68 : decode cx_shiftOrFindFirstOne 68 = .ok (.aload_n 0, 1) := by decide +kernel
theorem dx_shiftOrFindFirstOne_69 : decode cx_shiftOrFindFirstOne 69 = .ok (.getfield 47, 3) := by decide +kernel
theorem dx_shiftOrFindFirstOne_72 : decode cx_shiftOrFindFirstOne 72 = .ok (.aload_n 0, 1) := by decide +kernel
theorem dx_shiftOrFindFirstOne_73 : decode cx_shiftOrFindFirstOne 73 = .ok (.getfield 9, 3) := by decide +kernel
theorem dx_shiftOrFindFirstOne_76 : decode cx_shiftOrFindFirstOne 76 = .ok (.aload_n 0, 1) := by decide +kernel
theorem dx_shiftOrFindFirstOne_77 : decode cx_shiftOrFindFirstOne 77 = .ok (.getfield 47, 3) := by decide +kernel
theorem dx_shiftOrFindFirstOne_80 : decode cx_shiftOrFindFirstOne 80 = .ok (.laload, 1) := by decide +kernel
theorem dx_shiftOrFindFirstOne_81 : decode cx_shiftOrFindFirstOne 81 = .ok (.aload_n 0, 1) := by decide +kernel
theorem dx_shiftOrFindFirstOne_82 : decode cx_shiftOrFindFirstOne 82 = .ok (.invokevirtual 158, 3) := by decide +kernel
theorem dx_shiftOrFindFirstOne_85 : decode cx_shiftOrFindFirstOne 85 = .ok (.invokestatic 165, 3) := by decide +kernel
theorem dx_shiftOrFindFirstOne_88 : decode cx_shiftOrFindFirstOne 88 = .ok (.lastore, 1) := by decide +kernel
theorem dx_shiftOrFindFirstOne_89 : decode cx_shiftOrFindFirstOne 89 = .ok (.iconst 0, 1) := by decide +kernel
theorem dx_shiftOrFindFirstOne_90 : decode cx_shiftOrFindFirstOne 90 = .ok (.ireturn, 1) := by decide +kernel
theorem dx_shiftOrFindFirstOne_91 : decode cx_shiftOrFindFirstOne 91 = .ok (.aload_n 0, 1) := by decide +kernel
theorem dx_shiftOrFindFirstOne_92 : decode cx_shiftOrFindFirstOne 92 = .ok (.getfield 9, 3) := by decide +kernel
theorem dx_shiftOrFindFirstOne_95 : decode cx_shiftOrFindFirstOne 95 = .ok (.aload_n 0, 1) := by decide +kernel
theorem dx_shiftOrFindFirstOne_96 : decode cx_shiftOrFindFirstOne 96 = .ok (.getfield 47, 3) := by decide +kernel
theorem dx_shiftOrFindFirstOne_99 : decode cx_shiftOrFindFirstOne 99 = .ok (.aload_n 0, 1) := by decide +kernel
theorem dx_shiftOrFindFirstOne_100 : decode cx_shiftOrFindFirstOne 100 = .ok (.getfield 9, 3) := by decide +kernel
theorem dx_shiftOrFindFirstOne_103 : decode cx_shiftOrFindFirstOne 103 = .ok (.aload_n 0, 1) := by decide +kernel
theorem dx_shiftOrFindFirstOne_104 : decode cx_shiftOrFindFirstOne 104 = .ok (.getfield 47, 3) := by decide +kernel
theorem dx_shiftOrFindFirstOne_107 : decode cx_shiftOrFindFirstOne 107 = .ok (.laload, 1) := by decide +kernel
theorem dx_shiftOrFindFirstOne_108 : decode cx_shiftOrFindFirstOne 108 = .ok (.aload_n 0, 1) := by decide +kernel
theorem dx_shiftOrFindFirstOne_109 : decode cx_shiftOrFindFirstOne 109 = .ok (.invokevirtual 158, 3) := by decide +kernel
theorem dx_shiftOrFindFirstOne_112 : decode cx_shiftOrFindFirstOne 112 = .ok (.invokestatic 168, 3) := by decide +kernel
theorem dx_shiftOrFindFirstOne_115 : decode cx_shiftOrFindFirstOne 115 = .ok (.lastore, 1) := by decide +kernel
theorem dx_shiftOrFindFirstOne_116 : decode cx_shiftOrFindFirstOne 116 = .ok (.iconst 0, 1) := by decide +kernel
theorem dx_shiftOrFindFirstOne_117 : decode cx_shiftOrFindFirstOne 117 = .ok (.ireturn, 1) := by decide +kernel
theorem dx_shiftOrFindFirstOne_118 : decode cx_shiftOrFindFirstOne 118 = .ok (.aload_n 0, 1) := by decide +kernel
theorem dx_shiftOrFindFirstOne_119 : decode cx_shiftOrFindFirstOne 119 = .ok (.invokevirtual 171, 3) := by decide +kernel
theorem dx_shiftOrFindFirstOne_122 : decode cx_shiftOrFindFirstOne 122 = .ok (.ireturn, 1) := by decide +kernel
theorem dx_places_0 : decode cx_places 0 = .ok (.aload_n 0, 1) := by decide +kernel
theorem dx_places_1 : decode cx_places 1 = .ok (.getfield 54, 3) := by decide +kernel
theorem dx_places_4 : decode cx_places 4 = .ok (.ldc 174, 2) := by decide +kernel
theorem dx_places_6 : decode cx_places 6 = .ok (.iand, 1) := by decide +kernel
theorem dx_places_7 : decode cx_places 7 = .ok (.ifCond .ne 10, 3) := by decide +kernel
theorem dx_places_10 : decode cx_places 10 = .ok (.aload_n 0, 1) := by decide +kernel
theorem dx_places_11 : decode cx_places 11 = .ok (.getfield 54, 3) := by decide +kernel
theorem dx_places_14 : decode cx_places 14 = .ok (.goto 12, 3) := by decide +kernel
theorem dx_places_17 : decode cx_places 17 = .ok (.aload_n 0, 1) := by decide +kernel
theorem dx_places_18 : decode cx_places 18 = .ok (.getfield 54, 3) := by decide +kernel
theorem dx_places_21 : decode cx_places 21 = .ok (.ldc 175, 2) := by decide +kernel
theorem dx_places_23 : decode cx_places 23 = .ok (.isub, 1) := by decide +kernel
theorem dx_places_24 : decode cx_places 24 = .ok (.iconst 1, 1) := by decide +kernel
theorem dx_places_25 : decode cx_places 25 = .ok (.isub, 1) := by decide +kernel
theorem dx_places_26 : decode cx_places 26 = .ok (.istore_n 1, 1) := by decide +kernel
theorem dx_places_27 : decode cx_places 27 = .ok (.iload_n 1, 1) := by decide +kernel
theorem dx_places_28 : decode cx_places 28 = .ok (.sipush 256, 3) := by decide +kernel
theorem dx_places_31 : decode cx_places 31 = .ok (.irem, 1) := by decide +kernel
theorem dx_places_32 : decode cx_places 32 = .ok (.ireturn, 1) := by decide +kernel
theorem dx_shiftedWithSign_0 : decode cx_shiftedWithSign 0 = .ok (.iload_n 3, 1) := by decide +kernel
theorem dx_shiftedWithSign_1 : decode cx_shiftedWithSign 1 = .ok (.ifCond .ge 13, 3) := by decide +kernel
theorem dx_shiftedWithSign_4 : decode cx_shiftedWithSign 4 = .ok (.lload_n 1, 1) := by decide +kernel
theorem dx_shiftedWithSign_5 : decode cx_shiftedWithSign 5 = .ok (.iload_n 3, 1) := by decide +kernel
theorem dx_shiftedWithSign_6 : decode cx_shiftedWithSign 6 = .ok (.ineg, 1) := by decide +kernel
theorem dx_shiftedWithSign_7 : decode cx_shiftedWithSign 7 = .ok (.bipush 63, 2) := by decide +kernel
theorem dx_shiftedWithSign_9 : decode cx_shiftedWithSign 9 = .ok (.invokestatic 176, 3) := by decide +kernel
theorem dx_shiftedWithSign_12 : decode cx_shiftedWithSign 12 = .ok (.lshr, 1) := by decide +kernel
theorem dx_shiftedWithSign_13 : decode cx_shiftedWithSign 13 = .ok (.lreturn, 1) := by decide +kernel
theorem dx_shiftedWithSign_14 : decode cx_shiftedWithSign 14 = .ok (.iload_n 3, 1) := by decide +kernel
theorem dx_shiftedWithSign_15 : decode cx_shiftedWithSign 15 = .ok (.bipush 63, 2) := by decide +kernel
theorem dx_shiftedWithSign_17 : decode cx_shiftedWithSign 17 = .ok (.invokestatic 176, 3) := by decide +kernel
theorem dx_shiftedWithSign_20 : decode cx_shiftedWithSign 20 = .ok (.istore 4, 2) := by decide +kernel
theorem dx_shiftedWithSign_22 : decode cx_shiftedWithSign 22 = .ok (.lload_n 1, 1) := by decide +kernel
theorem dx_shiftedWithSign_23 : decode cx_shiftedWithSign 23 = .ok (.ldc2_w 149, 3) := by decide +kernel
theorem dx_shiftedWithSign_26 : decode cx_shiftedWithSign 26 = .ok (.iload 4, 2) := by decide +kernel
theorem dx_shiftedWithSign_28 : decode cx_shiftedWithSign 28 = .ok (.lshr, 1) := by decide +kernel
theorem dx_shiftedWithSign_29 : decode cx_shiftedWithSign 29 = .ok (.lneg, 1) := by decide +kernel
theorem dx_shiftedWithSign_30 : decode cx_shiftedWithSign 30 = .ok (.lcmp, 1) := by decide +kernel
theorem dx_shiftedWithSign_31 : decode cx_shiftedWithSign 31 = .ok (.ifCond .lt 14, 3) := by decide +kernel
theorem dx_shiftedWithSign_34 : decode cx_shiftedWithSign 34 = .ok (.lload_n 1, 1) := by decide +kernel
theorem dx_shiftedWithSign_35 : decode cx_shiftedWithSign 35 = .ok (.ldc2_w 180, 3) := by decide +kernel
theorem dx_shiftedWithSign_38 : decode cx_shiftedWithSign 38 = .ok (.iload 4, 2) := by decide +kernel
theorem dx_shiftedWithSign_40 : decode cx_shiftedWithSign 40 = .ok (.lshr, 1) := by decide +kernel
theorem dx_shiftedWithSign_41 : decode cx_shiftedWithSign 41 = .ok (.lcmp, 1) := by decide +kernel
theorem dx_shiftedWithSign_42 : decode cx_shiftedWithSign 42 = .ok (.ifCond .le 8, 3) := by decide +kernel
theorem dx_shiftedWithSign_45 : decode cx_shiftedWithSign 45 = .ok (.aload_n 0, 1) := by decide +kernel
theorem dx_shiftedWithSign_46 : decode cx_shiftedWithSign 46 = .ok (.iconst 1, 1) := by decide +kernel
theorem dx_shiftedWithSign_47 : decode cx_shiftedWithSign 47 = .ok (.putfield 27, 3) := by decide +kernel
theorem dx_shiftedWithSign_50 : decode cx_shiftedWithSign 50 = .ok (.lload_n 1, 1) := by decide +kernel
theorem dx_shiftedWithSign_51 : decode cx_shiftedWithSign 51 = .ok (.ldc2_w 149, 3) := by decide +kernel
theorem dx_shiftedWithSign_54 : decode cx_shiftedWithSign 54 = .ok (.land, 1) := by decide +kernel
theorem dx_shiftedWithSign_55 : decode cx_shiftedWithSign 55 = .ok (.lload_n 1, 1) := by decide +kernel
theorem dx_shiftedWithSign_56 : decode cx_shiftedWithSign 56 = .ok (.iload 4, 2) := by decide +kernel
theorem dx_shiftedWithSign_58 : decode cx_shiftedWithSign 58 = .ok (.lshl, 1) := by decide +kernel
theorem dx_shiftedWithSign_59 : decode cx_shiftedWithSign 59 = .ok (.ldc2_w 180, 3) := by decide +kernel
theorem dx_shiftedWithSign_62 : decode cx_shiftedWithSign 62 = .ok (.land, 1) := by decide +kernel
theorem dx_shiftedWithSign_63 : decode cx_shiftedWithSign 63 = .ok (.lor, 1) := by decide +kernel
theorem dx_shiftedWithSign_64 : decode cx_shiftedWithSign 64 = .ok (.invokestatic 17, 3) := by decide +kernel
theorem dx_shiftedWithSign_67 : decode cx_shiftedWithSign 67 = .ok (.lreturn, 1) := by decide +kernel
theorem dx_turnedRound_0 : decode cx_turnedRound 0 = .ok (.lload_n 0, 1) := by decide +kernel
theorem dx_turnedRound_1 : decode cx_turnedRound 1 = .ok (.ldc2_w 182, 3) := by decide +kernel
theorem dx_turnedRound_4 : decode cx_turnedRound 4 = .ok (.land, 1) := by decide +kernel
theorem dx_turnedRound_5 : decode cx_turnedRound 5 = .ok (.lstore_n 3, 1) := by decide +kernel
theorem dx_turnedRound_6 : decode cx_turnedRound 6 = .ok (.iload_n 2, 1) := by decide +kernel
theorem dx_turnedRound_7 : decode cx_turnedRound 7 = .ok (.bipush 36, 2) := by decide +kernel
theorem dx_turnedRound_9 : decode cx_turnedRound 9 = .ok (.invokestatic 184, 3) := by decide +kernel
theorem dx_turnedRound_12 : decode cx_turnedRound 12 = .ok (.istore 5, 2) := by decide +kernel
theorem dx_turnedRound_14 : decode cx_turnedRound 14 = .ok (.lload_n 3, 1) := by decide +kernel
theorem dx_turnedRound_15 : decode cx_turnedRound 15 = .ok (.iload 5, 2) := by decide +kernel
theorem dx_turnedRound_17 : decode cx_turnedRound 17 = .ok (.lshl, 1) := by decide +kernel
theorem dx_turnedRound_18 : decode cx_turnedRound 18 = .ok (.lload_n 3, 1) := by decide +kernel
theorem dx_turnedRound_19 : decode cx_turnedRound 19 = .ok (.bipush 36, 2) := by decide +kernel
theorem dx_turnedRound_21 : decode cx_turnedRound 21 = .ok (.iload 5, 2) := by decide +kernel
theorem dx_turnedRound_23 : decode cx_turnedRound 23 = .ok (.isub, 1) := by decide +kernel
theorem dx_turnedRound_24 : decode cx_turnedRound 24 = .ok (.lshr, 1) := by decide +kernel
theorem dx_turnedRound_25 : decode cx_turnedRound 25 = .ok (.lor, 1) := by decide +kernel
theorem dx_turnedRound_26 : decode cx_turnedRound 26 = .ok (.invokestatic 17, 3) := by decide +kernel
theorem dx_turnedRound_29 : decode cx_turnedRound 29 = .ok (.lreturn, 1) := by decide +kernel
theorem dx_shiftedWithoutSign_0 : decode cx_shiftedWithoutSign 0 = .ok (.lload_n 0, 1) := by decide +kernel
theorem dx_shiftedWithoutSign_1 : decode cx_shiftedWithoutSign 1 = .ok (.ldc2_w 182, 3) := by decide +kernel
theorem dx_shiftedWithoutSign_4 : decode cx_shiftedWithoutSign 4 = .ok (.land, 1) := by decide +kernel
theorem dx_shiftedWithoutSign_5 : decode cx_shiftedWithoutSign 5 = .ok (.lstore_n 3, 1) := by decide +kernel
theorem dx_shiftedWithoutSign_6 : decode cx_shiftedWithoutSign 6 = .ok (.iload_n 2, 1) := by decide +kernel
theorem dx_shiftedWithoutSign_7 : decode cx_shiftedWithoutSign 7 = .ok (.ifCond .ge 15, 3) := by decide +kernel
theorem dx_shiftedWithoutSign_10 : decode cx_shiftedWithoutSign 10 = .ok (.lload_n 3, 1) := by decide +kernel
theorem dx_shiftedWithoutSign_11 : decode cx_shiftedWithoutSign 11 = .ok (.iload_n 2, 1) := by decide +kernel
theorem dx_shiftedWithoutSign_12 : decode cx_shiftedWithoutSign 12 = .ok (.ineg, 1) := by decide +kernel
theorem dx_shiftedWithoutSign_13 : decode cx_shiftedWithoutSign 13 = .ok (.bipush 63, 2) := by decide +kernel
theorem dx_shiftedWithoutSign_15 : decode cx_shiftedWithoutSign 15 = .ok (.invokestatic 176, 3) := by decide +kernel
theorem dx_shiftedWithoutSign_18 : decode cx_shiftedWithoutSign 18 = .ok (.lshr, 1) := by decide +kernel
theorem dx_shiftedWithoutSign_19 : decode cx_shiftedWithoutSign 19 = .ok (.goto 11, 3) := by decide +kernel
theorem dx_shiftedWithoutSign_22 : decode cx_shiftedWithoutSign 22 = .ok (.lload_n 3, 1) := by decide +kernel
theorem dx_shiftedWithoutSign_23 : decode cx_shiftedWithoutSign 23 = .ok (.iload_n 2, 1) := by decide +kernel
theorem dx_shiftedWithoutSign_24 : decode cx_shiftedWithoutSign 24 = .ok (.bipush 63, 2) := by decide +kernel
theorem dx_shiftedWithoutSign_26 : decode cx_shiftedWithoutSign 26 = .ok (.invokestatic 176, 3) := by decide +kernel
theorem dx_shiftedWithoutSign_29 : decode cx_shiftedWithoutSign 29 = .ok (.lshl, 1) := by decide +kernel
theorem dx_shiftedWithoutSign_30 : decode cx_shiftedWithoutSign 30 = .ok (.invokestatic 17, 3) := by decide +kernel
theorem dx_shiftedWithoutSign_33 : decode cx_shiftedWithoutSign 33 = .ok (.lreturn, 1) := by decide +kernel
theorem dx_findFirstOne_0 : decode cx_findFirstOne 0 = .ok (.aload_n 0, 1) := by decide +kernel
theorem dx_findFirstOne_1 : decode cx_findFirstOne 1 = .ok (.getfield 9, 3) := by decide +kernel
theorem dx_findFirstOne_4 : decode cx_findFirstOne 4 = .ok (.aload_n 0, 1) := by decide +kernel
theorem dx_findFirstOne_5 : decode cx_findFirstOne 5 = .ok (.getfield 47, 3) := by decide +kernel
theorem dx_findFirstOne_8 : decode cx_findFirstOne 8 = .ok (.laload, 1) := by decide +kernel
theorem dx_findFirstOne_9 : decode cx_findFirstOne 9 = .ok (.ldc2_w 182, 3) := by decide +kernel
theorem dx_findFirstOne_12 : decode cx_findFirstOne 12 = .ok (.land, 1) := by decide +kernel
theorem dx_findFirstOne_13 : decode cx_findFirstOne 13 = .ok (.lstore_n 1, 1) := by decide +kernel
theorem dx_findFirstOne_14 : decode cx_findFirstOne 14 = .ok (.aload_n 0, 1) := by decide +kernel
theorem dx_findFirstOne_15 : decode cx_findFirstOne 15 = .ok (.getfield 9, 3) := by decide +kernel
theorem dx_findFirstOne_18 : decode cx_findFirstOne 18 = .ok (.aload_n 0, 1) := by decide +kernel
theorem dx_findFirstOne_19 : decode cx_findFirstOne 19 = .ok (.invokevirtual 155, 3) := by decide +kernel
theorem dx_findFirstOne_22 : decode cx_findFirstOne 22 = .ok (.lload_n 1, 1) := by decide +kernel
theorem dx_findFirstOne_23 : decode cx_findFirstOne 23 = .ok (.lconst 0, 1) := by decide +kernel
theorem dx_findFirstOne_24 : decode cx_findFirstOne 24 = .ok (.lcmp, 1) := by decide +kernel
theorem dx_findFirstOne_25 : decode cx_findFirstOne 25 = .ok (.ifCond .ne 7, 3) := by decide +kernel
theorem dx_findFirstOne_28 : decode cx_findFirstOne 28 = .ok (.lconst 0, 1) := by decide +kernel
theorem dx_findFirstOne_29 : decode cx_findFirstOne 29 = .ok (.goto 11, 3) := by decide +kernel
theorem dx_findFirstOne_32 : decode cx_findFirstOne 32 = .ok (.lload_n 1, 1) := by decide +kernel
theorem dx_findFirstOne_33 : decode cx_findFirstOne 33 = .ok (.invokestatic 187, 3) := by decide +kernel
theorem dx_findFirstOne_36 : decode cx_findFirstOne 36 = .ok (.bipush 28, 2) := by decide +kernel
theorem dx_findFirstOne_38 : decode cx_findFirstOne 38 = .ok (.isub, 1) := by decide +kernel
theorem dx_findFirstOne_39 : decode cx_findFirstOne 39 = .ok (.i2l, 1) := by decide +kernel
theorem dx_findFirstOne_40 : decode cx_findFirstOne 40 = .ok (.lastore, 1) := by decide +kernel
theorem dx_findFirstOne_41 : decode cx_findFirstOne 41 = .ok (.aload_n 0, 1) := by decide +kernel
theorem dx_findFirstOne_42 : decode cx_findFirstOne 42 = .ok (.lload_n 1, 1) := by decide +kernel
theorem dx_findFirstOne_43 : decode cx_findFirstOne 43 = .ok (.lconst 0, 1) := by decide +kernel
theorem dx_findFirstOne_44 : decode cx_findFirstOne 44 = .ok (.lcmp, 1) := by decide +kernel
theorem dx_findFirstOne_45 : decode cx_findFirstOne 45 = .ok (.ifCond .eq 7, 3) := by decide +kernel
theorem dx_findFirstOne_48 : decode cx_findFirstOne 48 = .ok (.iconst 1, 1) := by decide +kernel
theorem dx_findFirstOne_49 : decode cx_findFirstOne 49 = .ok (.goto 4, 3) := by decide +kernel
theorem dx_findFirstOne_52 : decode cx_findFirstOne 52 = .ok (.iconst 0, 1) := by decide +kernel
theorem dx_findFirstOne_53 : decode cx_findFirstOne 53 = .ok (.invokevirtual 108, 3) := by decide +kernel
theorem dx_findFirstOne_56 : decode cx_findFirstOne 56 = .ok (.ireturn, 1) := by decide +kernel
theorem dx_exchange_0 : decode cx_exchange 0 = .ok (.aload_n 0, 1) := by decide +kernel
theorem dx_exchange_1 : decode cx_exchange 1 = .ok (.getfield 54, 3) := by decide +kernel
theorem dx_exchange_4 : decode cx_exchange 4 = .ok (.invokestatic 13, 3) := by decide +kernel
theorem dx_exchange_7 : decode cx_exchange 7 = .ok (.ifCond .ne 5, 3) := by decide +kernel
theorem dx_exchange_10 : decode cx_exchange 10 = .ok (.iconst 2, 1) := by decide +kernel
theorem dx_exchange_11 : decode cx_exchange 11 = .ok (.ireturn, 1) := by decide +kernel
theorem dx_exchange_12 : decode cx_exchange 12 = .ok (.aload_n 0, 1) := by decide +kernel
theorem dx_exchange_13 : decode cx_exchange 13 = .ok (.getfield 9, 3) := by decide +kernel
theorem dx_exchange_16 : decode cx_exchange 16 = .ok (.aload_n 0, 1) := by decide +kernel
theorem dx_exchange_17 : decode cx_exchange 17 = .ok (.getfield 54, 3) := by decide +kernel
theorem dx_exchange_20 : decode cx_exchange 20 = .ok (.laload, 1) := by decide +kernel
theorem dx_exchange_21 : decode cx_exchange 21 = .ok (.lstore_n 1, 1) := by decide +kernel
theorem dx_exchange_22 : decode cx_exchange 22 = .ok (.aload_n 0, 1) := by decide +kernel
theorem dx_exchange_23 : decode cx_exchange 23 = .ok (.getfield 9, 3) := by decide +kernel
theorem dx_exchange_26 : decode cx_exchange 26 = .ok (.aload_n 0, 1) := by decide +kernel
theorem dx_exchange_27 : decode cx_exchange 27 = .ok (.getfield 54, 3) := by decide +kernel
theorem dx_exchange_30 : decode cx_exchange 30 = .ok (.aload_n 0, 1) := by decide +kernel
theorem dx_exchange_31 : decode cx_exchange 31 = .ok (.getfield 9, 3) := by decide +kernel
theorem dx_exchange_34 : decode cx_exchange 34 = .ok (.aload_n 0, 1) := by decide +kernel
theorem dx_exchange_35 : decode cx_exchange 35 = .ok (.getfield 47, 3) := by decide +kernel
theorem dx_exchange_38 : decode cx_exchange 38 = .ok (.laload, 1) := by decide +kernel
theorem dx_exchange_39 : decode cx_exchange 39 = .ok (.lastore, 1) := by decide +kernel
theorem dx_exchange_40 : decode cx_exchange 40 = .ok (.aload_n 0, 1) := by decide +kernel
theorem dx_exchange_41 : decode cx_exchange 41 = .ok (.getfield 9, 3) := by decide +kernel
theorem dx_exchange_44 : decode cx_exchange 44 = .ok (.aload_n 0, 1) := by decide +kernel
theorem dx_exchange_45 : decode cx_exchange 45 = .ok (.getfield 47, 3) := by decide +kernel
theorem dx_exchange_48 : decode cx_exchange 48 = .ok (.lload_n 1, 1) := by decide +kernel
theorem dx_exchange_49 : decode cx_exchange 49 = .ok (.lastore, 1) := by decide +kernel
theorem dx_exchange_50 : decode cx_exchange 50 = .ok (.iconst 0, 1) := by decide +kernel
theorem dx_exchange_51 : decode cx_exchange 51 = .ok (.ireturn, 1) := by decide +kernel
theorem dx_transferBlock_0 : decode cx_transferBlock 0 = .ok (.aload_n 0, 1) := by decide +kernel
theorem dx_transferBlock_1 : decode cx_transferBlock 1 = .ok (.getfield 9, 3) := by decide +kernel
theorem dx_transferBlock_4 : decode cx_transferBlock 4 = .ok (.aload_n 0, 1) := by decide +kernel
theorem dx_transferBlock_5 : decode cx_transferBlock 5 = .ok (.getfield 47, 3) := by decide +kernel
theorem dx_transferBlock_8 : decode cx_transferBlock 8 = .ok (.laload, 1) := by decide +kernel
theorem dx_transferBlock_9 : decode cx_transferBlock 9 = .ok (.invokestatic 192, 3) := by decide +kernel
theorem dx_transferBlock_12 : decode cx_transferBlock 12 = .ok (.istore_n 1, 1) := by decide +kernel
theorem dx_transferBlock_13 : decode cx_transferBlock 13 = .ok (.aload_n 0, 1) := by decide +kernel
theorem dx_transferBlock_14 : decode cx_transferBlock 14 = .ok (.getfield 9, 3) := by decide +kernel
theorem dx_transferBlock_17 : decode cx_transferBlock 17 = .ok (.aload_n 0, 1) := by decide +kernel
theorem dx_transferBlock_18 : decode cx_transferBlock 18 = .ok (.getfield 47, 3) := by decide +kernel
theorem dx_transferBlock_21 : decode cx_transferBlock 21 = .ok (.laload, 1) := by decide +kernel
theorem dx_transferBlock_22 : decode cx_transferBlock 22 = .ok (.invokestatic 57, 3) := by decide +kernel
theorem dx_transferBlock_25 : decode cx_transferBlock 25 = .ok (.istore_n 2, 1) := by decide +kernel
theorem dx_transferBlock_26 : decode cx_transferBlock 26 = .ok (.aload_n 0, 1) := by decide +kernel
theorem dx_transferBlock_27 : decode cx_transferBlock 27 = .ok (.getfield 54, 3) := by decide +kernel
theorem dx_transferBlock_30 : decode cx_transferBlock 30 = .ok (.iload_n 2, 1) := by decide +kernel
theorem dx_transferBlock_31 : decode cx_transferBlock 31 = .ok (.isub, 1) := by decide +kernel
theorem dx_transferBlock_32 : decode cx_transferBlock 32 = .ok (.iconst 0, 1) := by decide +kernel
theorem dx_transferBlock_33 : decode cx_transferBlock 33 = .ok (.invokestatic 195, 3) := by decide +kernel
theorem dx_transferBlock_36 : decode cx_transferBlock 36 = .ok (.istore_n 3, 1) := by decide +kernel
theorem dx_transferBlock_37 : decode cx_transferBlock 37 = .ok (.iload_n 1, 1) := by decide +kernel
theorem dx_transferBlock_38 : decode cx_transferBlock 38 = .ok (.iload_n 3, 1) := by decide +kernel
theorem dx_transferBlock_39 : decode cx_transferBlock 39 = .ok (.iadd, 1) := by decide +kernel
theorem dx_transferBlock_40 : decode cx_transferBlock 40 = .ok (.invokestatic 13, 3) := by decide +kernel
theorem dx_transferBlock_43 : decode cx_transferBlock 43 = .ok (.ifCond .eq 12, 3) := by decide +kernel
theorem dx_transferBlock_46 : decode cx_transferBlock 46 = .ok (.iload_n 2, 1) := by decide +kernel
theorem dx_transferBlock_47 : decode cx_transferBlock 47 = .ok (.iload_n 3, 1) := by decide +kernel
theorem dx_transferBlock_48 : decode cx_transferBlock 48 = .ok (.iadd, 1) := by decide +kernel
theorem dx_transferBlock_49 : decode cx_transferBlock 49 = .ok (.invokestatic 13, 3) := by decide +kernel
theorem dx_transferBlock_52 : decode cx_transferBlock 52 = .ok (.ifCond .ne 5, 3) := by decide +kernel
theorem dx_transferBlock_55 : decode cx_transferBlock 55 = .ok (.iconst 2, 1) := by decide +kernel
theorem dx_transferBlock_56 : decode cx_transferBlock 56 = .ok (.ireturn, 1) := by decide +kernel
theorem dx_transferBlock_57 : decode cx_transferBlock 57 = .ok (.iconst 0, 1) := by decide +kernel
theorem dx_transferBlock_58 : decode cx_transferBlock 58 = .ok (.istore 4, 2) := by decide +kernel
theorem dx_transferBlock_60 : decode cx_transferBlock 60 = .ok (.iload 4, 2) := by decide +kernel
theorem dx_transferBlock_62 : decode cx_transferBlock 62 = .ok (.iload_n 3, 1) := by decide +kernel
theorem dx_transferBlock_63 : decode cx_transferBlock 63 = .ok (.if_icmp .gt 27, 3) := by decide +kernel
theorem dx_transferBlock_66 : decode cx_transferBlock 66 = .ok (.aload_n 0, 1) := by decide +kernel
theorem dx_transferBlock_67 : decode cx_transferBlock 67 = .ok (.getfield 9, 3) := by decide +kernel
theorem dx_transferBlock_70 : decode cx_transferBlock 70 = .ok (.iload_n 2, 1) := by decide +kernel
theorem dx_transferBlock_71 : decode cx_transferBlock 71 = .ok (.iload 4, 2) := by decide +kernel
theorem dx_transferBlock_73 : decode cx_transferBlock 73 = .ok (.iadd, 1) := by decide +kernel
theorem dx_transferBlock_74 : decode cx_transferBlock 74 = .ok (.aload_n 0, 1) := by decide +kernel
theorem dx_transferBlock_75 : decode cx_transferBlock 75 = .ok (.getfield 9, 3) := by decide +kernel
theorem dx_transferBlock_78 : decode cx_transferBlock 78 = .ok (.iload_n 1, 1) := by decide +kernel
theorem dx_transferBlock_79 : decode cx_transferBlock 79 = .ok (.iload 4, 2) := by decide +kernel
theorem dx_transferBlock_81 : decode cx_transferBlock 81 = .ok (.iadd, 1) := by decide +kernel
theorem dx_transferBlock_82 : decode cx_transferBlock 82 = .ok (.laload, 1) := by decide +kernel
theorem dx_transferBlock_83 : decode cx_transferBlock 83 = .ok (.lastore, 1) := by decide +kernel
theorem dx_transferBlock_84 : decode cx_transferBlock 84 = .ok (.iinc 4 1, 3) := by decide +kernel
theorem dx_transferBlock_87 : decode cx_transferBlock 87 = .ok (.goto (-27), 3) := by decide +kernel
theorem dx_transferBlock_90 : decode cx_transferBlock 90 = .ok (.iconst 0, 1) := by decide +kernel
theorem dx_transferBlock_91 : decode cx_transferBlock 91 = .ok (.ireturn, 1) := by decide +kernel
theorem dx_countBothHalves_0 : decode cx_countBothHalves 0 = .ok (.aload_n 0, 1) := by decide +kernel
theorem dx_countBothHalves_1 : decode cx_countBothHalves 1 = .ok (.getfield 9, 3) := by decide +kernel
theorem dx_countBothHalves_4 : decode cx_countBothHalves 4 = .ok (.aload_n 0, 1) := by decide +kernel
theorem dx_countBothHalves_5 : decode cx_countBothHalves 5 = .ok (.getfield 47, 3) := by decide +kernel
theorem dx_countBothHalves_8 : decode cx_countBothHalves 8 = .ok (.aload_n 0, 1) := by decide +kernel
theorem dx_countBothHalves_9 : decode cx_countBothHalves 9 = .ok (.getfield 9, 3) := by decide +kernel
theorem dx_countBothHalves_12 : decode cx_countBothHalves 12 = .ok (.aload_n 0, 1) := by decide +kernel
theorem dx_countBothHalves_13 : decode cx_countBothHalves 13 = .ok (.getfield 47, 3) := by decide +kernel
theorem dx_countBothHalves_16 : decode cx_countBothHalves 16 = .ok (.laload, 1) := by decide +kernel
theorem dx_countBothHalves_17 : decode cx_countBothHalves 17 = .ok (.iconst 1, 1) := by decide +kernel
theorem dx_countBothHalves_18 : decode cx_countBothHalves 18 = .ok (.invokestatic 198, 3) := by decide +kernel
theorem dx_countBothHalves_21 : decode cx_countBothHalves 21 = .ok (.lastore, 1) := by decide +kernel
theorem dx_countBothHalves_22 : decode cx_countBothHalves 22 = .ok (.aload_n 0, 1) := by decide +kernel
theorem dx_countBothHalves_23 : decode cx_countBothHalves 23 = .ok (.aload_n 0, 1) := by decide +kernel
theorem dx_countBothHalves_24 : decode cx_countBothHalves 24 = .ok (.getfield 9, 3) := by decide +kernel
theorem dx_countBothHalves_27 : decode cx_countBothHalves 27 = .ok (.aload_n 0, 1) := by decide +kernel
theorem dx_countBothHalves_28 : decode cx_countBothHalves 28 = .ok (.getfield 47, 3) := by decide +kernel
theorem dx_countBothHalves_31 : decode cx_countBothHalves 31 = .ok (.laload, 1) := by decide +kernel
theorem dx_countBothHalves_32 : decode cx_countBothHalves 32 = .ok (.lconst 0, 1) := by decide +kernel
theorem dx_countBothHalves_33 : decode cx_countBothHalves 33 = .ok (.lcmp, 1) := by decide +kernel
theorem dx_countBothHalves_34 : decode cx_countBothHalves 34 = .ok (.ifCond .ge 7, 3) := by decide +kernel
theorem dx_countBothHalves_37 : decode cx_countBothHalves 37 = .ok (.iconst 1, 1) := by decide +kernel
theorem dx_countBothHalves_38 : decode cx_countBothHalves 38 = .ok (.goto 4, 3) := by decide +kernel
theorem dx_countBothHalves_41 : decode cx_countBothHalves 41 = .ok (.iconst 0, 1) := by decide +kernel
theorem dx_countBothHalves_42 : decode cx_countBothHalves 42 = .ok (.iload_n 1, 1) := by decide +kernel
theorem dx_countBothHalves_43 : decode cx_countBothHalves 43 = .ok (.if_icmp .ne 7, 3) := by decide +kernel
theorem dx_countBothHalves_46 : decode cx_countBothHalves 46 = .ok (.iconst 1, 1) := by decide +kernel
theorem dx_countBothHalves_47 : decode cx_countBothHalves 47 = .ok (.goto 4, 3) := by decide +kernel
theorem dx_countBothHalves_50 : decode cx_countBothHalves 50 = .ok (.iconst 0, 1) := by decide +kernel
theorem dx_countBothHalves_51 : decode cx_countBothHalves 51 = .ok (.invokevirtual 108, 3) := by decide +kernel
theorem dx_countBothHalves_54 : decode cx_countBothHalves 54 = .ok (.ireturn, 1) := by decide +kernel
theorem dx_jumpOnOverflow_0 : decode cx_jumpOnOverflow 0 = .ok (.aload_n 0, 1) := by decide +kernel
theorem dx_jumpOnOverflow_1 : decode cx_jumpOnOverflow 1 = .ok (.getfield 47, 3) := by decide +kernel
theorem dx_jumpOnOverflow_4 : decode cx_jumpOnOverflow 4 = .ok (.bipush 8, 2) := by decide +kernel
theorem dx_jumpOnOverflow_6 : decode cx_jumpOnOverflow 6 = .ok (.iand, 1) := by decide +kernel
theorem dx_jumpOnOverflow_7 : decode cx_jumpOnOverflow 7 = .ok (.ifCond .eq 14, 3) := by decide +kernel
theorem dx_jumpOnOverflow_10 : decode cx_jumpOnOverflow 10 = .ok (.aload_n 0, 1) := by decide +kernel
theorem dx_jumpOnOverflow_11 : decode cx_jumpOnOverflow 11 = .ok (.getfield 27, 3) := by decide +kernel
theorem dx_jumpOnOverflow_14 : decode cx_jumpOnOverflow 14 = .ok (.ifCond .eq 7, 3) := by decide +kernel
theorem dx_jumpOnOverflow_17 : decode cx_jumpOnOverflow 17 = .ok (.iconst 1, 1) := by decide +kernel
theorem dx_jumpOnOverflow_18 : decode cx_jumpOnOverflow 18 = .ok (.goto 4, 3) := by decide +kernel
theorem dx_jumpOnOverflow_21 : decode cx_jumpOnOverflow 21 = .ok (.iconst 0, 1) := by decide +kernel
theorem dx_jumpOnOverflow_22 : decode cx_jumpOnOverflow 22 = .ok (.istore_n 1, 1) := by decide +kernel
theorem dx_jumpOnOverflow_23 : decode cx_jumpOnOverflow 23 = .ok (.iload_n 1, 1) := by decide +kernel
theorem dx_jumpOnOverflow_24 : decode cx_jumpOnOverflow 24 = .ok (.ifCond .eq 8, 3) := by decide +kernel
theorem dx_jumpOnOverflow_27 : decode cx_jumpOnOverflow 27 = .ok (.aload_n 0, 1) := by decide +kernel
theorem dx_jumpOnOverflow_28 : decode cx_jumpOnOverflow 28 = .ok (.iconst 0, 1) := by decide +kernel
theorem dx_jumpOnOverflow_29 : decode cx_jumpOnOverflow 29 = .ok (.putfield 27, 3) := by decide +kernel
theorem dx_jumpOnOverflow_32 : decode cx_jumpOnOverflow 32 = .ok (.aload_n 0, 1) := by decide +kernel
theorem dx_jumpOnOverflow_33 : decode cx_jumpOnOverflow 33 = .ok (.iload_n 1, 1) := by decide +kernel
theorem dx_jumpOnOverflow_34 : decode cx_jumpOnOverflow 34 = .ok (.invokevirtual 108, 3) := by decide +kernel
theorem dx_jumpOnOverflow_37 : decode cx_jumpOnOverflow 37 = .ok (.ireturn, 1) := by decide +kernel
theorem dx_callStoringAtE_0 : decode cx_callStoringAtE 0 = .ok (.aload_n 0, 1) := by decide +kernel
theorem dx_callStoringAtE_1 : decode cx_callStoringAtE 1 = .ok (.getfield 54, 3) := by decide +kernel
theorem dx_callStoringAtE_4 : decode cx_callStoringAtE 4 = .ok (.invokestatic 13, 3) := by decide +kernel
theorem dx_callStoringAtE_7 : decode cx_callStoringAtE 7 = .ok (.ifCond .ne 5, 3) := by decide +kernel
theorem dx_callStoringAtE_10 : decode cx_callStoringAtE 10 = .ok (.iconst 2, 1) := by decide +kernel
theorem dx_callStoringAtE_11 : decode cx_callStoringAtE 11 = .ok (.ireturn, 1) := by decide +kernel
theorem dx_callStoringAtE_12 : decode cx_callStoringAtE 12 = .ok (.aload_n 0, 1) := by decide +kernel
theorem dx_callStoringAtE_13 : decode cx_callStoringAtE 13 = .ok (.getfield 9, 3) := by decide +kernel
theorem dx_callStoringAtE_16 : decode cx_callStoringAtE 16 = .ok (.aload_n 0, 1) := by decide +kernel
theorem dx_callStoringAtE_17 : decode cx_callStoringAtE 17 = .ok (.getfield 54, 3) := by decide +kernel
theorem dx_callStoringAtE_20 : decode cx_callStoringAtE 20 = .ok (.aload_n 0, 1) := by decide +kernel
theorem dx_callStoringAtE_21 : decode cx_callStoringAtE 21 = .ok (.getfield 23, 3) := by decide +kernel
theorem dx_callStoringAtE_24 : decode cx_callStoringAtE 24 = .ok (.i2l, 1) := by decide +kernel
theorem dx_callStoringAtE_25 : decode cx_callStoringAtE 25 = .ok (.lastore, 1) := by decide +kernel
theorem dx_callStoringAtE_26 : decode cx_callStoringAtE 26 = .ok (.aload_n 0, 1) := by decide +kernel
theorem dx_callStoringAtE_27 : decode cx_callStoringAtE 27 = .ok (.aload_n 0, 1) := by decide +kernel
theorem dx_callStoringAtE_28 : decode cx_callStoringAtE 28 = .ok (.getfield 54, 3) := by decide +kernel
theorem dx_callStoringAtE_31 : decode cx_callStoringAtE 31 = .ok (.iconst 1, 1) := by decide +kernel
theorem dx_callStoringAtE_32 : decode cx_callStoringAtE 32 = .ok (.iadd, 1) := by decide +kernel
theorem dx_callStoringAtE_33 : decode cx_callStoringAtE 33 = .ok (.putfield 23, 3) := by decide +kernel
theorem dx_callStoringAtE_36 : decode cx_callStoringAtE 36 = .ok (.iconst 0, 1) := by decide +kernel
theorem dx_callStoringAtE_37 : decode cx_callStoringAtE 37 = .ok (.ireturn, 1) := by decide +kernel
theorem dx_useStack_0 : decode cx_useStack 0 = .ok (.aload_n 0, 1) := by decide +kernel
theorem dx_useStack_1 : decode cx_useStack 1 = .ok (.getfield 44, 3) := by decide +kernel
theorem dx_useStack_4 : decode cx_useStack 4 = .ok (.tableswitch 91 176 179 #[32, 54, 86, 91], 32) := by decide +kernel
theorem dx_useStack_36 : decode cx_useStack 36 = .ok (.aload_n 0, 1) := by decide +kernel
theorem dx_useStack_37 : decode cx_useStack 37 = .ok (.aload_n 0, 1) := by decide +kernel
theorem dx_useStack_38 : decode cx_useStack 38 = .ok (.getfield 23, 3) := by decide +kernel
theorem dx_useStack_41 : decode cx_useStack 41 = .ok (.i2l, 1) := by decide +kernel
theorem dx_useStack_42 : decode cx_useStack 42 = .ok (.invokevirtual 201, 3) := by decide +kernel
theorem dx_useStack_45 : decode cx_useStack 45 = .ok (.ifCond .eq 11, 3) := by decide +kernel
theorem dx_useStack_48 : decode cx_useStack 48 = .ok (.aload_n 0, 1) := by decide +kernel
theorem dx_useStack_49 : decode cx_useStack 49 = .ok (.iconst 1, 1) := by decide +kernel
theorem dx_useStack_50 : decode cx_useStack 50 = .ok (.invokevirtual 108, 3) := by decide +kernel
theorem dx_useStack_53 : decode cx_useStack 53 = .ok (.goto 4, 3) := by decide +kernel
theorem dx_useStack_56 : decode cx_useStack 56 = .ok (.iconst 2, 1) := by decide +kernel
theorem dx_useStack_57 : decode cx_useStack 57 = .ok (.ireturn, 1) := by decide +kernel
theorem dx_useStack_58 : decode cx_useStack 58 = .ok (.aload_n 0, 1) := by decide +kernel
theorem dx_useStack_59 : decode cx_useStack 59 = .ok (.getfield 54, 3) := by decide +kernel
theorem dx_useStack_62 : decode cx_useStack 62 = .ok (.invokestatic 13, 3) := by decide +kernel
theorem dx_useStack_65 : decode cx_useStack 65 = .ok (.ifCond .eq 23, 3) := by decide +kernel
theorem dx_useStack_68 : decode cx_useStack 68 = .ok (.aload_n 0, 1) := by decide +kernel
theorem dx_useStack_69 : decode cx_useStack 69 = .ok (.aload_n 0, 1) := by decide +kernel
theorem dx_useStack_70 : decode cx_useStack 70 = .ok (.getfield 9, 3) := by decide +kernel
theorem dx_useStack_73 : decode cx_useStack 73 = .ok (.aload_n 0, 1) := by decide +kernel
theorem dx_useStack_74 : decode cx_useStack 74 = .ok (.getfield 54, 3) := by decide +kernel
theorem dx_useStack_77 : decode cx_useStack 77 = .ok (.laload, 1) := by decide +kernel
theorem dx_useStack_78 : decode cx_useStack 78 = .ok (.invokevirtual 201, 3) := by decide +kernel
theorem dx_useStack_81 : decode cx_useStack 81 = .ok (.ifCond .eq 7, 3) := by decide +kernel
theorem dx_useStack_84 : decode cx_useStack 84 = .ok (.iconst 0, 1) := by decide +kernel
theorem dx_useStack_85 : decode cx_useStack 85 = .ok (.goto 4, 3) := by decide +kernel
theorem dx_useStack_88 : decode cx_useStack 88 = .ok (.iconst 2, 1) := by decide +kernel
theorem dx_useStack_89 : decode cx_useStack 89 = .ok (.ireturn, 1) := by decide +kernel
theorem dx_useStack_90 : decode cx_useStack 90 = .ok (.aload_n 0, 1) := by decide +kernel
theorem dx_useStack_91 : decode cx_useStack 91 = .ok (.invokevirtual 205, 3) := by decide +kernel
theorem dx_useStack_94 : decode cx_useStack 94 = .ok (.ireturn, 1) := by decide +kernel
theorem dx_useStack_95 : decode cx_useStack 95 = .ok (.aload_n 0, 1) := by decide +kernel
theorem dx_useStack_96 : decode cx_useStack 96 = .ok (.invokevirtual 208, 3) := by decide +kernel
theorem dx_useStack_99 : decode cx_useStack 99 = .ok (.ireturn, 1) := by decide +kernel
theorem dx_push_0 : decode cx_push 0 = .ok (.aload_n 0, 1) := by decide +kernel
theorem dx_push_1 : decode cx_push 1 = .ok (.getfield 9, 3) := by decide +kernel
theorem dx_push_4 : decode cx_push 4 = .ok (.aload_n 0, 1) := by decide +kernel
theorem dx_push_5 : decode cx_push 5 = .ok (.getfield 47, 3) := by decide +kernel
theorem dx_push_8 : decode cx_push 8 = .ok (.laload, 1) := by decide +kernel
theorem dx_push_9 : decode cx_push 9 = .ok (.iconst 1, 1) := by decide +kernel
theorem dx_push_10 : decode cx_push 10 = .ok (.invokestatic 198, 3) := by decide +kernel
theorem dx_push_13 : decode cx_push 13 = .ok (.lstore_n 3, 1) := by decide +kernel
theorem dx_push_14 : decode cx_push 14 = .ok (.lload_n 3, 1) := by decide +kernel
theorem dx_push_15 : decode cx_push 15 = .ok (.invokestatic 57, 3) := by decide +kernel
theorem dx_push_18 : decode cx_push 18 = .ok (.istore 5, 2) := by decide +kernel
theorem dx_push_20 : decode cx_push 20 = .ok (.iload 5, 2) := by decide +kernel
theorem dx_push_22 : decode cx_push 22 = .ok (.invokestatic 13, 3) := by decide +kernel
theorem dx_push_25 : decode cx_push 25 = .ok (.ifCond .ne 5, 3) := by decide +kernel
theorem dx_push_28 : decode cx_push 28 = .ok (.iconst 0, 1) := by decide +kernel
theorem dx_push_29 : decode cx_push 29 = .ok (.ireturn, 1) := by decide +kernel
theorem dx_push_30 : decode cx_push 30 = .ok (.aload_n 0, 1) := by decide +kernel
theorem dx_push_31 : decode cx_push 31 = .ok (.getfield 9, 3) := by decide +kernel
theorem dx_push_34 : decode cx_push 34 = .ok (.aload_n 0, 1) := by decide +kernel
theorem dx_push_35 : decode cx_push 35 = .ok (.getfield 47, 3) := by decide +kernel
theorem dx_push_38 : decode cx_push 38 = .ok (.lload_n 3, 1) := by decide +kernel
theorem dx_push_39 : decode cx_push 39 = .ok (.lastore, 1) := by decide +kernel
theorem dx_push_40 : decode cx_push 40 = .ok (.aload_n 0, 1) := by decide +kernel
theorem dx_push_41 : decode cx_push 41 = .ok (.getfield 9, 3) := by decide +kernel
theorem dx_push_44 : decode cx_push 44 = .ok (.iload 5, 2) := by decide +kernel
theorem dx_push_46 : decode cx_push 46 = .ok (.lload_n 1, 1) := by decide +kernel
theorem dx_push_47 : decode cx_push 47 = .ok (.lastore, 1) := by decide +kernel
theorem dx_push_48 : decode cx_push 48 = .ok (.iconst 1, 1) := by decide +kernel
theorem dx_push_49 : decode cx_push 49 = .ok (.ireturn, 1) := by decide +kernel
theorem dx_pop_0 : decode cx_pop 0 = .ok (.aload_n 0, 1) := by decide +kernel
theorem dx_pop_1 : decode cx_pop 1 = .ok (.getfield 9, 3) := by decide +kernel
theorem dx_pop_4 : decode cx_pop 4 = .ok (.aload_n 0, 1) := by decide +kernel
theorem dx_pop_5 : decode cx_pop 5 = .ok (.getfield 47, 3) := by decide +kernel
theorem dx_pop_8 : decode cx_pop 8 = .ok (.laload, 1) := by decide +kernel
theorem dx_pop_9 : decode cx_pop 9 = .ok (.invokestatic 57, 3) := by decide +kernel
theorem dx_pop_12 : decode cx_pop 12 = .ok (.istore_n 1, 1) := by decide +kernel
theorem dx_pop_13 : decode cx_pop 13 = .ok (.aload_n 0, 1) := by decide +kernel
theorem dx_pop_14 : decode cx_pop 14 = .ok (.getfield 54, 3) := by decide +kernel
theorem dx_pop_17 : decode cx_pop 17 = .ok (.invokestatic 13, 3) := by decide +kernel
theorem dx_pop_20 : decode cx_pop 20 = .ok (.ifCond .eq 10, 3) := by decide +kernel
theorem dx_pop_23 : decode cx_pop 23 = .ok (.iload_n 1, 1) := by decide +kernel
theorem dx_pop_24 : decode cx_pop 24 = .ok (.invokestatic 13, 3) := by decide +kernel
theorem dx_pop_27 : decode cx_pop 27 = .ok (.ifCond .ne 5, 3) := by decide +kernel
theorem dx_pop_30 : decode cx_pop 30 = .ok (.iconst 2, 1) := by decide +kernel
theorem dx_pop_31 : decode cx_pop 31 = .ok (.ireturn, 1) := by decide +kernel
theorem dx_pop_32 : decode cx_pop 32 = .ok (.aload_n 0, 1) := by decide +kernel
theorem dx_pop_33 : decode cx_pop 33 = .ok (.getfield 9, 3) := by decide +kernel
theorem dx_pop_36 : decode cx_pop 36 = .ok (.iload_n 1, 1) := by decide +kernel
theorem dx_pop_37 : decode cx_pop 37 = .ok (.laload, 1) := by decide +kernel
theorem dx_pop_38 : decode cx_pop 38 = .ok (.lstore_n 2, 1) := by decide +kernel
theorem dx_pop_39 : decode cx_pop 39 = .ok (.aload_n 0, 1) := by decide +kernel
theorem dx_pop_40 : decode cx_pop 40 = .ok (.getfield 9, 3) := by decide +kernel
theorem dx_pop_43 : decode cx_pop 43 = .ok (.aload_n 0, 1) := by decide +kernel
theorem dx_pop_44 : decode cx_pop 44 = .ok (.getfield 47, 3) := by decide +kernel
theorem dx_pop_47 : decode cx_pop 47 = .ok (.aload_n 0, 1) := by decide +kernel
theorem dx_pop_48 : decode cx_pop 48 = .ok (.getfield 9, 3) := by decide +kernel
theorem dx_pop_51 : decode cx_pop 51 = .ok (.aload_n 0, 1) := by decide +kernel
theorem dx_pop_52 : decode cx_pop 52 = .ok (.getfield 47, 3) := by decide +kernel
theorem dx_pop_55 : decode cx_pop 55 = .ok (.laload, 1) := by decide +kernel
theorem dx_pop_56 : decode cx_pop 56 = .ok (.iconst (-1), 1) := by decide +kernel
theorem dx_pop_57 : decode cx_pop 57 = .ok (.invokestatic 198, 3) := by decide +kernel
theorem dx_pop_60 : decode cx_pop 60 = .ok (.lastore, 1) := by decide +kernel
theorem dx_pop_61 : decode cx_pop 61 = .ok (.aload_n 0, 1) := by decide +kernel
theorem dx_pop_62 : decode cx_pop 62 = .ok (.getfield 9, 3) := by decide +kernel
theorem dx_pop_65 : decode cx_pop 65 = .ok (.aload_n 0, 1) := by decide +kernel
theorem dx_pop_66 : decode cx_pop 66 = .ok (.getfield 54, 3) := by decide +kernel
theorem dx_pop_69 : decode cx_pop 69 = .ok (.lload_n 2, 1) := by decide +kernel
theorem dx_pop_70 : decode cx_pop 70 = .ok (.lastore, 1) := by decide +kernel
theorem dx_pop_71 : decode cx_pop 71 = .ok (.iconst 0, 1) := by decide +kernel
theorem dx_pop_72 : decode cx_pop 72 = .ok (.ireturn, 1) := by decide +kernel
theorem dx_popToPc_0 : decode cx_popToPc 0 = .ok (.aload_n 0, 1) := by decide +kernel
theorem dx_popToPc_1 : decode cx_popToPc 1 = .ok (.getfield 9, 3) := by decide +kernel
theorem dx_popToPc_4 : decode cx_popToPc 4 = .ok (.aload_n 0, 1) := by decide +kernel
theorem dx_popToPc_5 : decode cx_popToPc 5 = .ok (.getfield 47, 3) := by decide +kernel
theorem dx_popToPc_8 : decode cx_popToPc 8 = .ok (.laload, 1) := by decide +kernel
theorem dx_popToPc_9 : decode cx_popToPc 9 = .ok (.invokestatic 57, 3) := by decide +kernel
theorem dx_popToPc_12 : decode cx_popToPc 12 = .ok (.istore_n 1, 1) := by decide +kernel
theorem dx_popToPc_13 : decode cx_popToPc 13 = .ok (.iload_n 1, 1) := by decide +kernel
theorem dx_popToPc_14 : decode cx_popToPc 14 = .ok (.invokestatic 13, 3) := by decide +kernel
theorem dx_popToPc_17 : decode cx_popToPc 17 = .ok (.ifCond .ne 5, 3) := by decide +kernel
theorem dx_popToPc_20 : decode cx_popToPc 20 = .ok (.iconst 2, 1) := by decide +kernel
theorem dx_popToPc_21 : decode cx_popToPc 21 = .ok (.ireturn, 1) := by decide +kernel
theorem dx_popToPc_22 : decode cx_popToPc 22 = .ok (.aload_n 0, 1) := by decide +kernel
theorem dx_popToPc_23 : decode cx_popToPc 23 = .ok (.aload_n 0, 1) := by decide +kernel
theorem dx_popToPc_24 : decode cx_popToPc 24 = .ok (.getfield 9, 3) := by decide +kernel
theorem dx_popToPc_27 : decode cx_popToPc 27 = .ok (.iload_n 1, 1) := by decide +kernel
theorem dx_popToPc_28 : decode cx_popToPc 28 = .ok (.laload, 1) := by decide +kernel
theorem dx_popToPc_29 : decode cx_popToPc 29 = .ok (.invokestatic 57, 3) := by decide +kernel
theorem dx_popToPc_32 : decode cx_popToPc 32 = .ok (.putfield 23, 3) := by decide +kernel
theorem dx_popToPc_35 : decode cx_popToPc 35 = .ok (.aload_n 0, 1) := by decide +kernel
theorem dx_popToPc_36 : decode cx_popToPc 36 = .ok (.getfield 9, 3) := by decide +kernel
theorem dx_popToPc_39 : decode cx_popToPc 39 = .ok (.aload_n 0, 1) := by decide +kernel
theorem dx_popToPc_40 : decode cx_popToPc 40 = .ok (.getfield 47, 3) := by decide +kernel
theorem dx_popToPc_43 : decode cx_popToPc 43 = .ok (.aload_n 0, 1) := by decide +kernel
theorem dx_popToPc_44 : decode cx_popToPc 44 = .ok (.getfield 9, 3) := by decide +kernel
theorem dx_popToPc_47 : decode cx_popToPc 47 = .ok (.aload_n 0, 1) := by decide +kernel
theorem dx_popToPc_48 : decode cx_popToPc 48 = .ok (.getfield 47, 3) := by decide +kernel
theorem dx_popToPc_51 : decode cx_popToPc 51 = .ok (.laload, 1) := by decide +kernel
theorem dx_popToPc_52 : decode cx_popToPc 52 = .ok (.iconst (-1), 1) := by decide +kernel
theorem dx_popToPc_53 : decode cx_popToPc 53 = .ok (.invokestatic 198, 3) := by decide +kernel
theorem dx_popToPc_56 : decode cx_popToPc 56 = .ok (.lastore, 1) := by decide +kernel
theorem dx_popToPc_57 : decode cx_popToPc 57 = .ok (.iconst 0, 1) := by decide +kernel
theorem dx_popToPc_58 : decode cx_popToPc 58 = .ok (.ireturn, 1) := by decide +kernel
theorem dx_compare_0 : decode cx_compare 0 = .ok (.aload_n 0, 1) := by decide +kernel
theorem dx_compare_1 : decode cx_compare 1 = .ok (.getfield 44, 3) := by decide +kernel
theorem dx_compare_4 : decode cx_compare 4 = .ok (.bipush 8, 2) := by decide +kernel
theorem dx_compare_6 : decode cx_compare 6 = .ok (.iand, 1) := by decide +kernel
theorem dx_compare_7 : decode cx_compare 7 = .ok (.ifCond .eq 7, 3) := by decide +kernel
theorem dx_compare_10 : decode cx_compare 10 = .ok (.iconst 1, 1) := by decide +kernel
theorem dx_compare_11 : decode cx_compare 11 = .ok (.goto 4, 3) := by decide +kernel
theorem dx_compare_14 : decode cx_compare 14 = .ok (.iconst 0, 1) := by decide +kernel
theorem dx_compare_15 : decode cx_compare 15 = .ok (.istore_n 1, 1) := by decide +kernel
theorem dx_compare_16 : decode cx_compare 16 = .ok (.iload_n 1, 1) := by decide +kernel
theorem dx_compare_17 : decode cx_compare 17 = .ok (.ifCond .eq 15, 3) := by decide +kernel
theorem dx_compare_20 : decode cx_compare 20 = .ok (.aload_n 0, 1) := by decide +kernel
theorem dx_compare_21 : decode cx_compare 21 = .ok (.getfield 54, 3) := by decide +kernel
theorem dx_compare_24 : decode cx_compare 24 = .ok (.invokestatic 13, 3) := by decide +kernel
theorem dx_compare_27 : decode cx_compare 27 = .ok (.ifCond .ne 5, 3) := by decide +kernel
theorem dx_compare_30 : decode cx_compare 30 = .ok (.iconst 2, 1) := by decide +kernel
theorem dx_compare_31 : decode cx_compare 31 = .ok (.ireturn, 1) := by decide +kernel
theorem dx_compare_32 : decode cx_compare 32 = .ok (.aload_n 0, 1) := by decide +kernel
theorem dx_compare_33 : decode cx_compare 33 = .ok (.getfield 44, 3) := by decide +kernel
theorem dx_compare_36 : decode cx_compare 36 = .ok (.sipush 504, 3) := by decide +kernel
theorem dx_compare_39 : decode cx_compare 39 = .ok (.iand, 1) := by decide +kernel
theorem dx_compare_40 : decode cx_compare 40 = .ok (.lookupswitch 169 #[(192, 68), (200, 91), (208, 118), (216, 137), (224, 151), (232, 157), (240, 163)], 68) := by decide +kernel
theorem dx_compare_108 : decode cx_compare 108 = .ok (.aload_n 0, 1) := by decide +kernel
theorem dx_compare_109 : decode cx_compare 109 = .ok (.aload_n 0, 1) := by decide +kernel
theorem dx_compare_110 : decode cx_compare 110 = .ok (.aload_n 0, 1) := by decide +kernel
theorem dx_compare_111 : decode cx_compare 111 = .ok (.getfield 9, 3) := by decide +kernel
theorem dx_compare_114 : decode cx_compare 114 = .ok (.aload_n 0, 1) := by decide +kernel
theorem dx_compare_115 : decode cx_compare 115 = .ok (.getfield 47, 3) := by decide +kernel
theorem dx_compare_118 : decode cx_compare 118 = .ok (.laload, 1) := by decide +kernel
theorem dx_compare_119 : decode cx_compare 119 = .ok (.aload_n 0, 1) := by decide +kernel
theorem dx_compare_120 : decode cx_compare 120 = .ok (.getfield 54, 3) := by decide +kernel
theorem dx_compare_123 : decode cx_compare 123 = .ok (.i2l, 1) := by decide +kernel
theorem dx_compare_124 : decode cx_compare 124 = .ok (.invokevirtual 211, 3) := by decide +kernel
theorem dx_compare_127 : decode cx_compare 127 = .ok (.invokevirtual 215, 3) := by decide +kernel
theorem dx_compare_130 : decode cx_compare 130 = .ok (.ireturn, 1) := by decide +kernel
theorem dx_compare_131 : decode cx_compare 131 = .ok (.aload_n 0, 1) := by decide +kernel
theorem dx_compare_132 : decode cx_compare 132 = .ok (.aload_n 0, 1) := by decide +kernel
theorem dx_compare_133 : decode cx_compare 133 = .ok (.aload_n 0, 1) := by decide +kernel
theorem dx_compare_134 : decode cx_compare 134 = .ok (.getfield 9, 3) := by decide +kernel
theorem dx_compare_137 : decode cx_compare 137 = .ok (.aload_n 0, 1) := by decide +kernel
theorem dx_compare_138 : decode cx_compare 138 = .ok (.getfield 47, 3) := by decide +kernel
theorem dx_compare_141 : decode cx_compare 141 = .ok (.laload, 1) := by decide +kernel
theorem dx_compare_142 : decode cx_compare 142 = .ok (.aload_n 0, 1) := by decide +kernel
theorem dx_compare_143 : decode cx_compare 143 = .ok (.getfield 9, 3) := by decide +kernel
theorem dx_compare_146 : decode cx_compare 146 = .ok (.aload_n 0, 1) := by decide +kernel
theorem dx_compare_147 : decode cx_compare 147 = .ok (.getfield 54, 3) := by decide +kernel
theorem dx_compare_150 : decode cx_compare 150 = .ok (.laload, 1) := by decide +kernel
theorem dx_compare_151 : decode cx_compare 151 = .ok (.invokevirtual 211, 3) := by decide +kernel
theorem dx_compare_154 : decode cx_compare 154 = .ok (.invokevirtual 215, 3) := by decide +kernel
theorem dx_compare_157 : decode cx_compare 157 = .ok (.ireturn, 1) := by decide +kernel
theorem dx_compare_158 : decode cx_compare 158 = .ok (.aload_n 0, 1) := by decide +kernel
theorem dx_compare_159 : decode cx_compare 159 = .ok (.aload_n 0, 1) := by decide +kernel
theorem dx_compare_160 : decode cx_compare 160 = .ok (.aload_n 0, 1) := by decide +kernel
theorem dx_compare_161 : decode cx_compare 161 = .ok (.getfield 9, 3) := by decide +kernel
theorem dx_compare_164 : decode cx_compare 164 = .ok (.aload_n 0, 1) := by decide +kernel
theorem dx_compare_165 : decode cx_compare 165 = .ok (.getfield 47, 3) := by decide +kernel
theorem dx_compare_168 : decode cx_compare 168 = .ok (.laload, 1) := by decide +kernel
theorem dx_compare_169 : decode cx_compare 169 = .ok (.lconst 0, 1) := by decide +kernel
theorem dx_compare_170 : decode cx_compare 170 = .ok (.invokevirtual 211, 3) := by decide +kernel
theorem dx_compare_173 : decode cx_compare 173 = .ok (.invokevirtual 108, 3) := by decide +kernel
theorem dx_compare_176 : decode cx_compare 176 = .ok (.ireturn, 1) := by decide +kernel
theorem dx_compare_177 : decode cx_compare 177 = .ok (.aload_n 0, 1) := by decide +kernel
theorem dx_compare_178 : decode cx_compare 178 = .ok (.aload_n 0, 1) := by decide +kernel
theorem dx_compare_179 : decode cx_compare 179 = .ok (.getfield 9, 3) := by decide +kernel
theorem dx_compare_182 : decode cx_compare 182 = .ok (.aload_n 0, 1) := by decide +kernel
theorem dx_compare_183 : decode cx_compare 183 = .ok (.getfield 54, 3) := by decide +kernel
theorem dx_compare_186 : decode cx_compare 186 = .ok (.laload, 1) := by decide +kernel
theorem dx_compare_187 : decode cx_compare 187 = .ok (.invokevirtual 218, 3) := by decide +kernel
theorem dx_compare_190 : decode cx_compare 190 = .ok (.ireturn, 1) := by decide +kernel
theorem dx_compare_191 : decode cx_compare 191 = .ok (.aload_n 0, 1) := by decide +kernel
theorem dx_compare_192 : decode cx_compare 192 = .ok (.iconst 1, 1) := by decide +kernel
theorem dx_compare_193 : decode cx_compare 193 = .ok (.invokevirtual 221, 3) := by decide +kernel
theorem dx_compare_196 : decode cx_compare 196 = .ok (.ireturn, 1) := by decide +kernel
theorem dx_compare_197 : decode cx_compare 197 = .ok (.aload_n 0, 1) := by decide +kernel
theorem dx_compare_198 : decode cx_compare 198 = .ok (.iconst 1, 1) := by decide +kernel
theorem dx_compare_199 : decode cx_compare 199 = .ok (.invokevirtual 225, 3) := by decide +kernel
theorem dx_compare_202 : decode cx_compare 202 = .ok (.ireturn, 1) := by decide +kernel
theorem dx_compare_203 : decode cx_compare 203 = .ok (.aload_n 0, 1) := by decide +kernel
theorem dx_compare_204 : decode cx_compare 204 = .ok (.iconst (-1), 1) := by decide +kernel
theorem dx_compare_205 : decode cx_compare 205 = .ok (.invokevirtual 221, 3) := by decide +kernel
theorem dx_compare_208 : decode cx_compare 208 = .ok (.ireturn, 1) := by decide +kernel
theorem dx_compare_209 : decode cx_compare 209 = .ok (.aload_n 0, 1) := by decide +kernel
theorem dx_compare_210 : decode cx_compare 210 = .ok (.iconst (-1), 1) := by decide +kernel
theorem dx_compare_211 : decode cx_compare 211 = .ok (.invokevirtual 225, 3) := by decide +kernel
theorem dx_compare_214 : decode cx_compare 214 = .ok (.ireturn, 1) := by decide +kernel
theorem dx_skipOnWord_0 : decode cx_skipOnWord 0 = .ok (.aload_n 0, 1) := by decide +kernel
theorem dx_skipOnWord_1 : decode cx_skipOnWord 1 = .ok (.getfield 47, 3) := by decide +kernel
theorem dx_skipOnWord_4 : decode cx_skipOnWord 4 = .ok (.ifCond .eq 13, 3) := by decide +kernel
theorem dx_skipOnWord_7 : decode cx_skipOnWord 7 = .ok (.aload_n 0, 1) := by decide +kernel
theorem dx_skipOnWord_8 : decode cx_skipOnWord 8 = .ok (.getfield 9, 3) := by decide +kernel
theorem dx_skipOnWord_11 : decode cx_skipOnWord 11 = .ok (.aload_n 0, 1) := by decide +kernel
theorem dx_skipOnWord_12 : decode cx_skipOnWord 12 = .ok (.getfield 47, 3) := by decide +kernel
theorem dx_skipOnWord_15 : decode cx_skipOnWord 15 = .ok (.lload_n 1, 1) := by decide +kernel
theorem dx_skipOnWord_16 : decode cx_skipOnWord 16 = .ok (.lastore, 1) := by decide +kernel
theorem dx_skipOnWord_17 : decode cx_skipOnWord 17 = .ok (.aload_n 0, 1) := by decide +kernel
theorem dx_skipOnWord_18 : decode cx_skipOnWord 18 = .ok (.aload_n 0, 1) := by decide +kernel
theorem dx_skipOnWord_19 : decode cx_skipOnWord 19 = .ok (.lload_n 1, 1) := by decide +kernel
theorem dx_skipOnWord_20 : decode cx_skipOnWord 20 = .ok (.lconst 0, 1) := by decide +kernel
theorem dx_skipOnWord_21 : decode cx_skipOnWord 21 = .ok (.invokevirtual 211, 3) := by decide +kernel
theorem dx_skipOnWord_24 : decode cx_skipOnWord 24 = .ok (.invokevirtual 215, 3) := by decide +kernel
theorem dx_skipOnWord_27 : decode cx_skipOnWord 27 = .ok (.ireturn, 1) := by decide +kernel
theorem dx_countAc_0 : decode cx_countAc 0 = .ok (.aload_n 0, 1) := by decide +kernel
theorem dx_countAc_1 : decode cx_countAc 1 = .ok (.getfield 9, 3) := by decide +kernel
theorem dx_countAc_4 : decode cx_countAc 4 = .ok (.aload_n 0, 1) := by decide +kernel
theorem dx_countAc_5 : decode cx_countAc 5 = .ok (.getfield 47, 3) := by decide +kernel
theorem dx_countAc_8 : decode cx_countAc 8 = .ok (.aload_n 0, 1) := by decide +kernel
theorem dx_countAc_9 : decode cx_countAc 9 = .ok (.aload_n 0, 1) := by decide +kernel
theorem dx_countAc_10 : decode cx_countAc 10 = .ok (.getfield 9, 3) := by decide +kernel
theorem dx_countAc_13 : decode cx_countAc 13 = .ok (.aload_n 0, 1) := by decide +kernel
theorem dx_countAc_14 : decode cx_countAc 14 = .ok (.getfield 47, 3) := by decide +kernel
theorem dx_countAc_17 : decode cx_countAc 17 = .ok (.laload, 1) := by decide +kernel
theorem dx_countAc_18 : decode cx_countAc 18 = .ok (.iload_n 1, 1) := by decide +kernel
theorem dx_countAc_19 : decode cx_countAc 19 = .ok (.i2l, 1) := by decide +kernel
theorem dx_countAc_20 : decode cx_countAc 20 = .ok (.ladd, 1) := by decide +kernel
theorem dx_countAc_21 : decode cx_countAc 21 = .ok (.invokevirtual 134, 3) := by decide +kernel
theorem dx_countAc_24 : decode cx_countAc 24 = .ok (.lastore, 1) := by decide +kernel
theorem dx_countAc_25 : decode cx_countAc 25 = .ok (.aload_n 0, 1) := by decide +kernel
theorem dx_countAc_26 : decode cx_countAc 26 = .ok (.aload_n 0, 1) := by decide +kernel
theorem dx_countAc_27 : decode cx_countAc 27 = .ok (.aload_n 0, 1) := by decide +kernel
theorem dx_countAc_28 : decode cx_countAc 28 = .ok (.getfield 9, 3) := by decide +kernel
theorem dx_countAc_31 : decode cx_countAc 31 = .ok (.aload_n 0, 1) := by decide +kernel
theorem dx_countAc_32 : decode cx_countAc 32 = .ok (.getfield 47, 3) := by decide +kernel
theorem dx_countAc_35 : decode cx_countAc 35 = .ok (.laload, 1) := by decide +kernel
theorem dx_countAc_36 : decode cx_countAc 36 = .ok (.lconst 0, 1) := by decide +kernel
theorem dx_countAc_37 : decode cx_countAc 37 = .ok (.invokevirtual 211, 3) := by decide +kernel
theorem dx_countAc_40 : decode cx_countAc 40 = .ok (.invokevirtual 108, 3) := by decide +kernel
theorem dx_countAc_43 : decode cx_countAc 43 = .ok (.ireturn, 1) := by decide +kernel
theorem dx_countWord_0 : decode cx_countWord 0 = .ok (.aload_n 0, 1) := by decide +kernel
theorem dx_countWord_1 : decode cx_countWord 1 = .ok (.aload_n 0, 1) := by decide +kernel
theorem dx_countWord_2 : decode cx_countWord 2 = .ok (.getfield 9, 3) := by decide +kernel
theorem dx_countWord_5 : decode cx_countWord 5 = .ok (.aload_n 0, 1) := by decide +kernel
theorem dx_countWord_6 : decode cx_countWord 6 = .ok (.getfield 54, 3) := by decide +kernel
theorem dx_countWord_9 : decode cx_countWord 9 = .ok (.laload, 1) := by decide +kernel
theorem dx_countWord_10 : decode cx_countWord 10 = .ok (.iload_n 1, 1) := by decide +kernel
theorem dx_countWord_11 : decode cx_countWord 11 = .ok (.i2l, 1) := by decide +kernel
theorem dx_countWord_12 : decode cx_countWord 12 = .ok (.ladd, 1) := by decide +kernel
theorem dx_countWord_13 : decode cx_countWord 13 = .ok (.invokevirtual 134, 3) := by decide +kernel
theorem dx_countWord_16 : decode cx_countWord 16 = .ok (.lstore_n 2, 1) := by decide +kernel
theorem dx_countWord_17 : decode cx_countWord 17 = .ok (.aload_n 0, 1) := by decide +kernel
theorem dx_countWord_18 : decode cx_countWord 18 = .ok (.getfield 9, 3) := by decide +kernel
theorem dx_countWord_21 : decode cx_countWord 21 = .ok (.aload_n 0, 1) := by decide +kernel
theorem dx_countWord_22 : decode cx_countWord 22 = .ok (.getfield 54, 3) := by decide +kernel
theorem dx_countWord_25 : decode cx_countWord 25 = .ok (.lload_n 2, 1) := by decide +kernel
theorem dx_countWord_26 : decode cx_countWord 26 = .ok (.lastore, 1) := by decide +kernel
theorem dx_countWord_27 : decode cx_countWord 27 = .ok (.aload_n 0, 1) := by decide +kernel
theorem dx_countWord_28 : decode cx_countWord 28 = .ok (.lload_n 2, 1) := by decide +kernel
theorem dx_countWord_29 : decode cx_countWord 29 = .ok (.invokevirtual 218, 3) := by decide +kernel
theorem dx_countWord_32 : decode cx_countWord 32 = .ok (.ireturn, 1) := by decide +kernel
theorem dx_holds_0 : decode cx_holds 0 = .ok (.aload_n 0, 1) := by decide +kernel
theorem dx_holds_1 : decode cx_holds 1 = .ok (.getfield 44, 3) := by decide +kernel
theorem dx_holds_4 : decode cx_holds 4 = .ok (.iconst 1, 1) := by decide +kernel
theorem dx_holds_5 : decode cx_holds 5 = .ok (.iand, 1) := by decide +kernel
theorem dx_holds_6 : decode cx_holds 6 = .ok (.ifCond .eq 13, 3) := by decide +kernel
theorem dx_holds_9 : decode cx_holds 9 = .ok (.lload_n 1, 1) := by decide +kernel
theorem dx_holds_10 : decode cx_holds 10 = .ok (.lload_n 3, 1) := by decide +kernel
theorem dx_holds_11 : decode cx_holds 11 = .ok (.lcmp, 1) := by decide +kernel
theorem dx_holds_12 : decode cx_holds 12 = .ok (.ifCond .ge 7, 3) := by decide +kernel
theorem dx_holds_15 : decode cx_holds 15 = .ok (.iconst 1, 1) := by decide +kernel
theorem dx_holds_16 : decode cx_holds 16 = .ok (.goto 4, 3) := by decide +kernel
theorem dx_holds_19 : decode cx_holds 19 = .ok (.iconst 0, 1) := by decide +kernel
theorem dx_holds_20 : decode cx_holds 20 = .ok (.istore 5, 2) := by decide +kernel
theorem dx_holds_22 : decode cx_holds 22 = .ok (.aload_n 0, 1) := by decide +kernel
theorem dx_holds_23 : decode cx_holds 23 = .ok (.getfield 44, 3) := by decide +kernel
theorem dx_holds_26 : decode cx_holds 26 = .ok (.iconst 2, 1) := by decide +kernel
theorem dx_holds_27 : decode cx_holds 27 = .ok (.iand, 1) := by decide +kernel
theorem dx_holds_28 : decode cx_holds 28 = .ok (.ifCond .eq 13, 3) := by decide +kernel
theorem dx_holds_31 : decode cx_holds 31 = .ok (.lload_n 1, 1) := by decide +kernel
theorem dx_holds_32 : decode cx_holds 32 = .ok (.lload_n 3, 1) := by decide +kernel
theorem dx_holds_33 : decode cx_holds 33 = .ok (.lcmp, 1) := by decide +kernel
theorem dx_holds_34 : decode cx_holds 34 = .ok (.ifCond .ne 7, 3) := by decide +kernel
theorem dx_holds_37 : decode cx_holds 37 = .ok (.iconst 1, 1) := by decide +kernel
theorem dx_holds_38 : decode cx_holds 38 = .ok (.goto 4, 3) := by decide +kernel
theorem dx_holds_41 : decode cx_holds 41 = .ok (.iconst 0, 1) := by decide +kernel
theorem dx_holds_42 : decode cx_holds 42 = .ok (.istore 6, 2) := by decide +kernel
theorem dx_holds_44 : decode cx_holds 44 = .ok (.iload 5, 2) := by decide +kernel
theorem dx_holds_46 : decode cx_holds 46 = .ok (.ifCond .ne 8, 3) := by decide +kernel
theorem dx_holds_49 : decode cx_holds 49 = .ok (.iload 6, 2) := by decide +kernel
theorem dx_holds_51 : decode cx_holds 51 = .ok (.ifCond .eq 7, 3) := by decide +kernel
theorem dx_holds_54 : decode cx_holds 54 = .ok (.iconst 1, 1) := by decide +kernel
theorem dx_holds_55 : decode cx_holds 55 = .ok (.goto 4, 3) := by decide +kernel
theorem dx_holds_58 : decode cx_holds 58 = .ok (.iconst 0, 1) := by decide +kernel
theorem dx_holds_59 : decode cx_holds 59 = .ok (.aload_n 0, 1) := by decide +kernel
theorem dx_holds_60 : decode cx_holds 60 = .ok (.getfield 44, 3) := by decide +kernel
theorem dx_holds_63 : decode cx_holds 63 = .ok (.iconst 4, 1) := by decide +kernel
theorem dx_holds_64 : decode cx_holds 64 = .ok (.iand, 1) := by decide +kernel
theorem dx_holds_65 : decode cx_holds 65 = .ok (.ifCond .eq 7, 3) := by decide +kernel
theorem dx_holds_68 : decode cx_holds 68 = .ok (.iconst 1, 1) := by decide +kernel
theorem dx_holds_69 : decode cx_holds 69 = .ok (.goto 4, 3) := by decide +kernel
theorem dx_holds_72 : decode cx_holds 72 = .ok (.iconst 0, 1) := by decide +kernel
theorem dx_holds_73 : decode cx_holds 73 = .ok (.if_icmp .eq 7, 3) := by decide +kernel
theorem dx_holds_76 : decode cx_holds 76 = .ok (.iconst 1, 1) := by decide +kernel
theorem dx_holds_77 : decode cx_holds 77 = .ok (.goto 4, 3) := by decide +kernel
theorem dx_holds_80 : decode cx_holds 80 = .ok (.iconst 0, 1) := by decide +kernel
theorem dx_holds_81 : decode cx_holds 81 = .ok (.ireturn, 1) := by decide +kernel
theorem dx_skipIf_0 : decode cx_skipIf 0 = .ok (.iload_n 1, 1) := by decide +kernel
theorem dx_skipIf_1 : decode cx_skipIf 1 = .ok (.ifCond .eq 13, 3) := by decide +kernel
theorem dx_skipIf_4 : decode cx_skipIf 4 = .ok (.aload_n 0, 1) := by decide +kernel
theorem dx_skipIf_5 : decode cx_skipIf 5 = .ok (.dup, 1) := by decide +kernel
theorem dx_skipIf_6 : decode cx_skipIf 6 = .ok (.getfield 23, 3) := by decide +kernel
theorem dx_skipIf_9 : decode cx_skipIf 9 = .ok (.iconst 1, 1) := by decide +kernel
theorem dx_skipIf_10 : decode cx_skipIf 10 = .ok (.iadd, 1) := by decide +kernel
theorem dx_skipIf_11 : decode cx_skipIf 11 = .ok (.putfield 23, 3) := by decide +kernel
theorem dx_skipIf_14 : decode cx_skipIf 14 = .ok (.iconst 0, 1) := by decide +kernel
theorem dx_skipIf_15 : decode cx_skipIf 15 = .ok (.ireturn, 1) := by decide +kernel
theorem dx_jumpIf_0 : decode cx_jumpIf 0 = .ok (.iload_n 1, 1) := by decide +kernel
theorem dx_jumpIf_1 : decode cx_jumpIf 1 = .ok (.ifCond .eq 11, 3) := by decide +kernel
theorem dx_jumpIf_4 : decode cx_jumpIf 4 = .ok (.aload_n 0, 1) := by decide +kernel
theorem dx_jumpIf_5 : decode cx_jumpIf 5 = .ok (.aload_n 0, 1) := by decide +kernel
theorem dx_jumpIf_6 : decode cx_jumpIf 6 = .ok (.getfield 54, 3) := by decide +kernel
theorem dx_jumpIf_9 : decode cx_jumpIf 9 = .ok (.putfield 23, 3) := by decide +kernel
theorem dx_jumpIf_12 : decode cx_jumpIf 12 = .ok (.iconst 0, 1) := by decide +kernel
theorem dx_jumpIf_13 : decode cx_jumpIf 13 = .ok (.ireturn, 1) := by decide +kernel
theorem dx_combineBits_0 : decode cx_combineBits 0 = .ok (.aload_n 0, 1) := by decide +kernel
theorem dx_combineBits_1 : decode cx_combineBits 1 = .ok (.invokevirtual 120, 3) := by decide +kernel
theorem dx_combineBits_4 : decode cx_combineBits 4 = .ok (.ifCond .eq 5, 3) := by decide +kernel
theorem dx_combineBits_7 : decode cx_combineBits 7 = .ok (.iconst 2, 1) := by decide +kernel
theorem dx_combineBits_8 : decode cx_combineBits 8 = .ok (.ireturn, 1) := by decide +kernel
theorem dx_combineBits_9 : decode cx_combineBits 9 = .ok (.aload_n 0, 1) := by decide +kernel
theorem dx_combineBits_10 : decode cx_combineBits 10 = .ok (.getfield 44, 3) := by decide +kernel
theorem dx_combineBits_13 : decode cx_combineBits 13 = .ok (.iconst 2, 1) := by decide +kernel
theorem dx_combineBits_14 : decode cx_combineBits 14 = .ok (.ishr, 1) := by decide +kernel
theorem dx_combineBits_15 : decode cx_combineBits 15 = .ok (.bipush 15, 2) := by decide +kernel
theorem dx_combineBits_17 : decode cx_combineBits 17 = .ok (.iand, 1) := by decide +kernel
theorem dx_combineBits_18 : decode cx_combineBits 18 = .ok (.istore_n 1, 1) := by decide +kernel
theorem dx_combineBits_19 : decode cx_combineBits 19 = .ok (.aload_n 0, 1) := by decide +kernel
theorem dx_combineBits_20 : decode cx_combineBits 20 = .ok (.iload_n 1, 1) := by decide +kernel
theorem dx_combineBits_21 : decode cx_combineBits 21 = .ok (.bipush 8, 2) := by decide +kernel
theorem dx_combineBits_23 : decode cx_combineBits 23 = .ok (.if_icmp .ge 23, 3) := by decide +kernel
theorem dx_combineBits_26 : decode cx_combineBits 26 = .ok (.iload_n 1, 1) := by decide +kernel
theorem dx_combineBits_27 : decode cx_combineBits 27 = .ok (.aload_n 0, 1) := by decide +kernel
theorem dx_combineBits_28 : decode cx_combineBits 28 = .ok (.getfield 9, 3) := by decide +kernel
theorem dx_combineBits_31 : decode cx_combineBits 31 = .ok (.aload_n 0, 1) := by decide +kernel
theorem dx_combineBits_32 : decode cx_combineBits 32 = .ok (.getfield 47, 3) := by decide +kernel
theorem dx_combineBits_35 : decode cx_combineBits 35 = .ok (.laload, 1) := by decide +kernel
theorem dx_combineBits_36 : decode cx_combineBits 36 = .ok (.aload_n 0, 1) := by decide +kernel
theorem dx_combineBits_37 : decode cx_combineBits 37 = .ok (.invokevirtual 124, 3) := by decide +kernel
theorem dx_combineBits_40 : decode cx_combineBits 40 = .ok (.invokestatic 228, 3) := by decide +kernel
theorem dx_combineBits_43 : decode cx_combineBits 43 = .ok (.goto 27, 3) := by decide +kernel
theorem dx_combineBits_46 : decode cx_combineBits 46 = .ok (.bipush 15, 2) := by decide +kernel
theorem dx_combineBits_48 : decode cx_combineBits 48 = .ok (.iload_n 1, 1) := by decide +kernel
theorem dx_combineBits_49 : decode cx_combineBits 49 = .ok (.isub, 1) := by decide +kernel
theorem dx_combineBits_50 : decode cx_combineBits 50 = .ok (.aload_n 0, 1) := by decide +kernel
theorem dx_combineBits_51 : decode cx_combineBits 51 = .ok (.getfield 9, 3) := by decide +kernel
theorem dx_combineBits_54 : decode cx_combineBits 54 = .ok (.aload_n 0, 1) := by decide +kernel
theorem dx_combineBits_55 : decode cx_combineBits 55 = .ok (.getfield 47, 3) := by decide +kernel
theorem dx_combineBits_58 : decode cx_combineBits 58 = .ok (.laload, 1) := by decide +kernel
theorem dx_combineBits_59 : decode cx_combineBits 59 = .ok (.aload_n 0, 1) := by decide +kernel
theorem dx_combineBits_60 : decode cx_combineBits 60 = .ok (.invokevirtual 124, 3) := by decide +kernel
theorem dx_combineBits_63 : decode cx_combineBits 63 = .ok (.invokestatic 228, 3) := by decide +kernel
theorem dx_combineBits_66 : decode cx_combineBits 66 = .ok (.ldc2_w 151, 3) := by decide +kernel
theorem dx_combineBits_69 : decode cx_combineBits 69 = .ok (.lxor, 1) := by decide +kernel
theorem dx_combineBits_70 : decode cx_combineBits 70 = .ok (.invokevirtual 137, 3) := by decide +kernel
theorem dx_combineBits_73 : decode cx_combineBits 73 = .ok (.ireturn, 1) := by decide +kernel
theorem dx_combined_0 : decode cx_combined 0 = .ok (.iload_n 0, 1) := by decide +kernel
theorem dx_combined_1 : decode cx_combined 1 = .ok (.tableswitch 75 1 7 #[43, 47, 55, 57, 65, 67, 71], 43) := by decide +kernel
theorem dx_combined_44 : decode cx_combined 44 = .ok (.lload_n 1, 1) := by decide +kernel
theorem dx_combined_45 : decode cx_combined 45 = .ok (.lload_n 3, 1) := by decide +kernel
theorem dx_combined_46 : decode cx_combined 46 = .ok (.land, 1) := by decide +kernel
theorem dx_combined_47 : decode cx_combined 47 = .ok (.lreturn, 1) := by decide +kernel
theorem dx_combined_48 : decode cx_combined 48 = .ok (.lload_n 1, 1) := by decide +kernel
theorem dx_combined_49 : decode cx_combined 49 = .ok (.ldc2_w 151, 3) := by decide +kernel
theorem dx_combined_52 : decode cx_combined 52 = .ok (.lxor, 1) := by decide +kernel
theorem dx_combined_53 : decode cx_combined 53 = .ok (.lload_n 3, 1) := by decide +kernel
theorem dx_combined_54 : decode cx_combined 54 = .ok (.land, 1) := by decide +kernel
theorem dx_combined_55 : decode cx_combined 55 = .ok (.lreturn, 1) := by decide +kernel
theorem dx_combined_56 : decode cx_combined 56 = .ok (.lload_n 3, 1) := by decide +kernel
theorem dx_combined_57 : decode cx_combined 57 = .ok (.lreturn, 1) := by decide +kernel
theorem dx_combined_58 : decode cx_combined 58 = .ok (.lload_n 1, 1) := by decide +kernel
theorem dx_combined_59 : decode cx_combined 59 = .ok (.lload_n 3, 1) := by decide +kernel
theorem dx_combined_60 : decode cx_combined 60 = .ok (.ldc2_w 151, 3) := by decide +kernel
theorem dx_combined_63 : decode cx_combined 63 = .ok (.lxor, 1) := by decide +kernel
theorem dx_combined_64 : decode cx_combined 64 = .ok (.land, 1) := by decide +kernel
theorem dx_combined_65 : decode cx_combined 65 = .ok (.lreturn, 1) := by decide +kernel
theorem dx_combined_66 : decode cx_combined 66 = .ok (.lload_n 1, 1) := by decide +kernel
theorem dx_combined_67 : decode cx_combined 67 = .ok (.lreturn, 1) := by decide +kernel
theorem dx_combined_68 : decode cx_combined 68 = .ok (.lload_n 1, 1) := by decide +kernel
theorem dx_combined_69 : decode cx_combined 69 = .ok (.lload_n 3, 1) := by decide +kernel
theorem dx_combined_70 : decode cx_combined 70 = .ok (.lxor, 1) := by decide +kernel
theorem dx_combined_71 : decode cx_combined 71 = .ok (.lreturn, 1) := by decide +kernel
theorem dx_combined_72 : decode cx_combined 72 = .ok (.lload_n 1, 1) := by decide +kernel
theorem dx_combined_73 : decode cx_combined 73 = .ok (.lload_n 3, 1) := by decide +kernel
theorem dx_combined_74 : decode cx_combined 74 = .ok (.lor, 1) := by decide +kernel
theorem dx_combined_75 : decode cx_combined 75 = .ok (.lreturn, 1) := by decide +kernel
theorem dx_combined_76 : decode cx_combined 76 = .ok (.lconst 0, 1) := by decide +kernel
theorem dx_combined_77 : decode cx_combined 77 = .ok (.lreturn, 1) := by decide +kernel
theorem dx_testBits_0 : decode cx_testBits 0 = .ok (.aload_n 0, 1) := by decide +kernel
theorem dx_testBits_1 : decode cx_testBits 1 = .ok (.getfield 44, 3) := by decide +kernel
theorem dx_testBits_4 : decode cx_testBits 4 = .ok (.bipush 8, 2) := by decide +kernel
theorem dx_testBits_6 : decode cx_testBits 6 = .ok (.iand, 1) := by decide +kernel
theorem dx_testBits_7 : decode cx_testBits 7 = .ok (.ifCond .eq 7, 3) := by decide +kernel
theorem dx_testBits_10 : decode cx_testBits 10 = .ok (.iconst 1, 1) := by decide +kernel
theorem dx_testBits_11 : decode cx_testBits 11 = .ok (.goto 4, 3) := by decide +kernel
theorem dx_testBits_14 : decode cx_testBits 14 = .ok (.iconst 0, 1) := by decide +kernel
theorem dx_testBits_15 : decode cx_testBits 15 = .ok (.istore_n 1, 1) := by decide +kernel
theorem dx_testBits_16 : decode cx_testBits 16 = .ok (.iload_n 1, 1) := by decide +kernel
theorem dx_testBits_17 : decode cx_testBits 17 = .ok (.ifCond .eq 15, 3) := by decide +kernel
theorem dx_testBits_20 : decode cx_testBits 20 = .ok (.aload_n 0, 1) := by decide +kernel
theorem dx_testBits_21 : decode cx_testBits 21 = .ok (.getfield 54, 3) := by decide +kernel
theorem dx_testBits_24 : decode cx_testBits 24 = .ok (.invokestatic 13, 3) := by decide +kernel
theorem dx_testBits_27 : decode cx_testBits 27 = .ok (.ifCond .ne 5, 3) := by decide +kernel
theorem dx_testBits_30 : decode cx_testBits 30 = .ok (.iconst 2, 1) := by decide +kernel
theorem dx_testBits_31 : decode cx_testBits 31 = .ok (.ireturn, 1) := by decide +kernel
theorem dx_testBits_32 : decode cx_testBits 32 = .ok (.iload_n 1, 1) := by decide +kernel
theorem dx_testBits_33 : decode cx_testBits 33 = .ok (.ifCond .eq 15, 3) := by decide +kernel
theorem dx_testBits_36 : decode cx_testBits 36 = .ok (.aload_n 0, 1) := by decide +kernel
theorem dx_testBits_37 : decode cx_testBits 37 = .ok (.getfield 9, 3) := by decide +kernel
theorem dx_testBits_40 : decode cx_testBits 40 = .ok (.aload_n 0, 1) := by decide +kernel
theorem dx_testBits_41 : decode cx_testBits 41 = .ok (.getfield 54, 3) := by decide +kernel
theorem dx_testBits_44 : decode cx_testBits 44 = .ok (.laload, 1) := by decide +kernel
theorem dx_testBits_45 : decode cx_testBits 45 = .ok (.goto 8, 3) := by decide +kernel
theorem dx_testBits_48 : decode cx_testBits 48 = .ok (.aload_n 0, 1) := by decide +kernel
theorem dx_testBits_49 : decode cx_testBits 49 = .ok (.getfield 54, 3) := by decide +kernel
theorem dx_testBits_52 : decode cx_testBits 52 = .ok (.i2l, 1) := by decide +kernel
theorem dx_testBits_53 : decode cx_testBits 53 = .ok (.lstore_n 2, 1) := by decide +kernel
theorem dx_testBits_54 : decode cx_testBits 54 = .ok (.aload_n 0, 1) := by decide +kernel
theorem dx_testBits_55 : decode cx_testBits 55 = .ok (.getfield 44, 3) := by decide +kernel
theorem dx_testBits_58 : decode cx_testBits 58 = .ok (.iconst 1, 1) := by decide +kernel
theorem dx_testBits_59 : decode cx_testBits 59 = .ok (.iand, 1) := by decide +kernel
theorem dx_testBits_60 : decode cx_testBits 60 = .ok (.ifCond .ne 7, 3) := by decide +kernel
theorem dx_testBits_63 : decode cx_testBits 63 = .ok (.lload_n 2, 1) := by decide +kernel
theorem dx_testBits_64 : decode cx_testBits 64 = .ok (.goto 7, 3) := by decide +kernel
theorem dx_testBits_67 : decode cx_testBits 67 = .ok (.lload_n 2, 1) := by decide +kernel
theorem dx_testBits_68 : decode cx_testBits 68 = .ok (.invokestatic 128, 3) := by decide +kernel
theorem dx_testBits_71 : decode cx_testBits 71 = .ok (.lstore 4, 2) := by decide +kernel
theorem dx_testBits_73 : decode cx_testBits 73 = .ok (.aload_n 0, 1) := by decide +kernel
theorem dx_testBits_74 : decode cx_testBits 74 = .ok (.getfield 44, 3) := by decide +kernel
theorem dx_testBits_77 : decode cx_testBits 77 = .ok (.iconst 2, 1) := by decide +kernel
theorem dx_testBits_78 : decode cx_testBits 78 = .ok (.iand, 1) := by decide +kernel
theorem dx_testBits_79 : decode cx_testBits 79 = .ok (.ifCond .eq 24, 3) := by decide +kernel
theorem dx_testBits_82 : decode cx_testBits 82 = .ok (.aload_n 0, 1) := by decide +kernel
theorem dx_testBits_83 : decode cx_testBits 83 = .ok (.getfield 9, 3) := by decide +kernel
theorem dx_testBits_86 : decode cx_testBits 86 = .ok (.aload_n 0, 1) := by decide +kernel
theorem dx_testBits_87 : decode cx_testBits 87 = .ok (.getfield 47, 3) := by decide +kernel
theorem dx_testBits_90 : decode cx_testBits 90 = .ok (.laload, 1) := by decide +kernel
theorem dx_testBits_91 : decode cx_testBits 91 = .ok (.lload 4, 2) := by decide +kernel
theorem dx_testBits_93 : decode cx_testBits 93 = .ok (.land, 1) := by decide +kernel
theorem dx_testBits_94 : decode cx_testBits 94 = .ok (.lconst 0, 1) := by decide +kernel
theorem dx_testBits_95 : decode cx_testBits 95 = .ok (.lcmp, 1) := by decide +kernel
theorem dx_testBits_96 : decode cx_testBits 96 = .ok (.ifCond .ne 7, 3) := by decide +kernel
theorem dx_testBits_99 : decode cx_testBits 99 = .ok (.iconst 1, 1) := by decide +kernel
theorem dx_testBits_100 : decode cx_testBits 100 = .ok (.goto 4, 3) := by decide +kernel
theorem dx_testBits_103 : decode cx_testBits 103 = .ok (.iconst 0, 1) := by decide +kernel
theorem dx_testBits_104 : decode cx_testBits 104 = .ok (.istore 6, 2) := by decide +kernel
theorem dx_testBits_106 : decode cx_testBits 106 = .ok (.aload_n 0, 1) := by decide +kernel
theorem dx_testBits_107 : decode cx_testBits 107 = .ok (.getfield 9, 3) := by decide +kernel
theorem dx_testBits_110 : decode cx_testBits 110 = .ok (.aload_n 0, 1) := by decide +kernel
theorem dx_testBits_111 : decode cx_testBits 111 = .ok (.getfield 47, 3) := by decide +kernel
theorem dx_testBits_114 : decode cx_testBits 114 = .ok (.aload_n 0, 1) := by decide +kernel
theorem dx_testBits_115 : decode cx_testBits 115 = .ok (.aload_n 0, 1) := by decide +kernel
theorem dx_testBits_116 : decode cx_testBits 116 = .ok (.getfield 9, 3) := by decide +kernel
theorem dx_testBits_119 : decode cx_testBits 119 = .ok (.aload_n 0, 1) := by decide +kernel
theorem dx_testBits_120 : decode cx_testBits 120 = .ok (.getfield 47, 3) := by decide +kernel
theorem dx_testBits_123 : decode cx_testBits 123 = .ok (.laload, 1) := by decide +kernel
theorem dx_testBits_124 : decode cx_testBits 124 = .ok (.lload 4, 2) := by decide +kernel
theorem dx_testBits_126 : decode cx_testBits 126 = .ok (.invokevirtual 232, 3) := by decide +kernel
theorem dx_testBits_129 : decode cx_testBits 129 = .ok (.lastore, 1) := by decide +kernel
theorem dx_testBits_130 : decode cx_testBits 130 = .ok (.aload_n 0, 1) := by decide +kernel
theorem dx_testBits_131 : decode cx_testBits 131 = .ok (.iload 6, 2) := by decide +kernel
theorem dx_testBits_133 : decode cx_testBits 133 = .ok (.aload_n 0, 1) := by decide +kernel
theorem dx_testBits_134 : decode cx_testBits 134 = .ok (.getfield 44, 3) := by decide +kernel
theorem dx_testBits_137 : decode cx_testBits 137 = .ok (.iconst 4, 1) := by decide +kernel
theorem dx_testBits_138 : decode cx_testBits 138 = .ok (.iand, 1) := by decide +kernel
theorem dx_testBits_139 : decode cx_testBits 139 = .ok (.ifCond .eq 7, 3) := by decide +kernel
theorem dx_testBits_142 : decode cx_testBits 142 = .ok (.iconst 1, 1) := by decide +kernel
theorem dx_testBits_143 : decode cx_testBits 143 = .ok (.goto 4, 3) := by decide +kernel
theorem dx_testBits_146 : decode cx_testBits 146 = .ok (.iconst 0, 1) := by decide +kernel
theorem dx_testBits_147 : decode cx_testBits 147 = .ok (.if_icmp .eq 7, 3) := by decide +kernel
theorem dx_testBits_150 : decode cx_testBits 150 = .ok (.iconst 1, 1) := by decide +kernel
theorem dx_testBits_151 : decode cx_testBits 151 = .ok (.goto 4, 3) := by decide +kernel
theorem dx_testBits_154 : decode cx_testBits 154 = .ok (.iconst 0, 1) := by decide +kernel
theorem dx_testBits_155 : decode cx_testBits 155 = .ok (.invokevirtual 215, 3) := by decide +kernel
theorem dx_testBits_158 : decode cx_testBits 158 = .ok (.ireturn, 1) := by decide +kernel
theorem dx_changed_0 : decode cx_changed 0 = .ok (.aload_n 0, 1) := by decide +kernel
theorem dx_changed_1 : decode cx_changed 1 = .ok (.getfield 44, 3) := by decide +kernel
theorem dx_changed_4 : decode cx_changed 4 = .ok (.iconst 4, 1) := by decide +kernel
theorem dx_changed_5 : decode cx_changed 5 = .ok (.ishr, 1) := by decide +kernel
theorem dx_changed_6 : decode cx_changed 6 = .ok (.iconst 3, 1) := by decide +kernel
theorem dx_changed_7 : decode cx_changed 7 = .ok (.iand, 1) := by decide +kernel
theorem dx_changed_8 : decode cx_changed 8 = .ok (.tableswitch 44 1 3 #[28, 36, 40], 28) := by decide +kernel
theorem dx_changed_36 : decode cx_changed 36 = .ok (.lload_n 1, 1) := by decide +kernel
theorem dx_changed_37 : decode cx_changed 37 = .ok (.lload_n 3, 1) := by decide +kernel
theorem dx_changed_38 : decode cx_changed 38 = .ok (.ldc2_w 151, 3) := by decide +kernel
theorem dx_changed_41 : decode cx_changed 41 = .ok (.lxor, 1) := by decide +kernel
theorem dx_changed_42 : decode cx_changed 42 = .ok (.land, 1) := by decide +kernel
theorem dx_changed_43 : decode cx_changed 43 = .ok (.lreturn, 1) := by decide +kernel
theorem dx_changed_44 : decode cx_changed 44 = .ok (.lload_n 1, 1) := by decide +kernel
theorem dx_changed_45 : decode cx_changed 45 = .ok (.lload_n 3, 1) := by decide +kernel
theorem dx_changed_46 : decode cx_changed 46 = .ok (.lxor, 1) := by decide +kernel
theorem dx_changed_47 : decode cx_changed 47 = .ok (.lreturn, 1) := by decide +kernel
theorem dx_changed_48 : decode cx_changed 48 = .ok (.lload_n 1, 1) := by decide +kernel
theorem dx_changed_49 : decode cx_changed 49 = .ok (.lload_n 3, 1) := by decide +kernel
theorem dx_changed_50 : decode cx_changed 50 = .ok (.lor, 1) := by decide +kernel
theorem dx_changed_51 : decode cx_changed 51 = .ok (.lreturn, 1) := by decide +kernel
theorem dx_changed_52 : decode cx_changed 52 = .ok (.lload_n 1, 1) := by decide +kernel
theorem dx_changed_53 : decode cx_changed 53 = .ok (.lreturn, 1) := by decide +kernel
theorem dx_moveHalf_0 : decode cx_moveHalf 0 = .ok (.aload_n 0, 1) := by decide +kernel
theorem dx_moveHalf_1 : decode cx_moveHalf 1 = .ok (.invokevirtual 120, 3) := by decide +kernel
theorem dx_moveHalf_4 : decode cx_moveHalf 4 = .ok (.ifCond .eq 5, 3) := by decide +kernel
theorem dx_moveHalf_7 : decode cx_moveHalf 7 = .ok (.iconst 2, 1) := by decide +kernel
theorem dx_moveHalf_8 : decode cx_moveHalf 8 = .ok (.ireturn, 1) := by decide +kernel
theorem dx_moveHalf_9 : decode cx_moveHalf 9 = .ok (.aload_n 0, 1) := by decide +kernel
theorem dx_moveHalf_10 : decode cx_moveHalf 10 = .ok (.invokevirtual 117, 3) := by decide +kernel
theorem dx_moveHalf_13 : decode cx_moveHalf 13 = .ok (.iconst 2, 1) := by decide +kernel
theorem dx_moveHalf_14 : decode cx_moveHalf 14 = .ok (.if_icmp .ne 15, 3) := by decide +kernel
theorem dx_moveHalf_17 : decode cx_moveHalf 17 = .ok (.aload_n 0, 1) := by decide +kernel
theorem dx_moveHalf_18 : decode cx_moveHalf 18 = .ok (.getfield 9, 3) := by decide +kernel
theorem dx_moveHalf_21 : decode cx_moveHalf 21 = .ok (.aload_n 0, 1) := by decide +kernel
theorem dx_moveHalf_22 : decode cx_moveHalf 22 = .ok (.getfield 47, 3) := by decide +kernel
theorem dx_moveHalf_25 : decode cx_moveHalf 25 = .ok (.laload, 1) := by decide +kernel
theorem dx_moveHalf_26 : decode cx_moveHalf 26 = .ok (.goto 7, 3) := by decide +kernel
theorem dx_moveHalf_29 : decode cx_moveHalf 29 = .ok (.aload_n 0, 1) := by decide +kernel
theorem dx_moveHalf_30 : decode cx_moveHalf 30 = .ok (.invokevirtual 124, 3) := by decide +kernel
theorem dx_moveHalf_33 : decode cx_moveHalf 33 = .ok (.lstore_n 1, 1) := by decide +kernel
theorem dx_moveHalf_34 : decode cx_moveHalf 34 = .ok (.aload_n 0, 1) := by decide +kernel
theorem dx_moveHalf_35 : decode cx_moveHalf 35 = .ok (.invokevirtual 117, 3) := by decide +kernel
theorem dx_moveHalf_38 : decode cx_moveHalf 38 = .ok (.iconst 2, 1) := by decide +kernel
theorem dx_moveHalf_39 : decode cx_moveHalf 39 = .ok (.if_icmp .ge 15, 3) := by decide +kernel
theorem dx_moveHalf_42 : decode cx_moveHalf 42 = .ok (.aload_n 0, 1) := by decide +kernel
theorem dx_moveHalf_43 : decode cx_moveHalf 43 = .ok (.getfield 9, 3) := by decide +kernel
theorem dx_moveHalf_46 : decode cx_moveHalf 46 = .ok (.aload_n 0, 1) := by decide +kernel
theorem dx_moveHalf_47 : decode cx_moveHalf 47 = .ok (.getfield 47, 3) := by decide +kernel
theorem dx_moveHalf_50 : decode cx_moveHalf 50 = .ok (.laload, 1) := by decide +kernel
theorem dx_moveHalf_51 : decode cx_moveHalf 51 = .ok (.goto 12, 3) := by decide +kernel
theorem dx_moveHalf_54 : decode cx_moveHalf 54 = .ok (.aload_n 0, 1) := by decide +kernel
theorem dx_moveHalf_55 : decode cx_moveHalf 55 = .ok (.getfield 9, 3) := by decide +kernel
theorem dx_moveHalf_58 : decode cx_moveHalf 58 = .ok (.aload_n 0, 1) := by decide +kernel
theorem dx_moveHalf_59 : decode cx_moveHalf 59 = .ok (.getfield 54, 3) := by decide +kernel
theorem dx_moveHalf_62 : decode cx_moveHalf 62 = .ok (.laload, 1) := by decide +kernel
theorem dx_moveHalf_63 : decode cx_moveHalf 63 = .ok (.lstore_n 3, 1) := by decide +kernel
theorem dx_moveHalf_64 : decode cx_moveHalf 64 = .ok (.aload_n 0, 1) := by decide +kernel
theorem dx_moveHalf_65 : decode cx_moveHalf 65 = .ok (.aload_n 0, 1) := by decide +kernel
theorem dx_moveHalf_66 : decode cx_moveHalf 66 = .ok (.lload_n 1, 1) := by decide +kernel
theorem dx_moveHalf_67 : decode cx_moveHalf 67 = .ok (.lload_n 3, 1) := by decide +kernel
theorem dx_moveHalf_68 : decode cx_moveHalf 68 = .ok (.invokevirtual 235, 3) := by decide +kernel
theorem dx_moveHalf_71 : decode cx_moveHalf 71 = .ok (.invokevirtual 131, 3) := by decide +kernel
theorem dx_moveHalf_74 : decode cx_moveHalf 74 = .ok (.ireturn, 1) := by decide +kernel
theorem dx_withHalfMoved_0 : decode cx_withHalfMoved 0 = .ok (.aload_n 0, 1) := by decide +kernel
theorem dx_withHalfMoved_1 : decode cx_withHalfMoved 1 = .ok (.getfield 44, 3) := by decide +kernel
theorem dx_withHalfMoved_4 : decode cx_withHalfMoved 4 = .ok (.bipush 32, 2) := by decide +kernel
theorem dx_withHalfMoved_6 : decode cx_withHalfMoved 6 = .ok (.iand, 1) := by decide +kernel
theorem dx_withHalfMoved_7 : decode cx_withHalfMoved 7 = .ok (.ifCond .eq 7, 3) := by decide +kernel
theorem dx_withHalfMoved_10 : decode cx_withHalfMoved 10 = .ok (.iconst 1, 1) := by decide +kernel
theorem dx_withHalfMoved_11 : decode cx_withHalfMoved 11 = .ok (.goto 4, 3) := by decide +kernel
theorem dx_withHalfMoved_14 : decode cx_withHalfMoved 14 = .ok (.iconst 0, 1) := by decide +kernel
theorem dx_withHalfMoved_15 : decode cx_withHalfMoved 15 = .ok (.istore 5, 2) := by decide +kernel
theorem dx_withHalfMoved_17 : decode cx_withHalfMoved 17 = .ok (.aload_n 0, 1) := by decide +kernel
theorem dx_withHalfMoved_18 : decode cx_withHalfMoved 18 = .ok (.getfield 44, 3) := by decide +kernel
theorem dx_withHalfMoved_21 : decode cx_withHalfMoved 21 = .ok (.iconst 4, 1) := by decide +kernel
theorem dx_withHalfMoved_22 : decode cx_withHalfMoved 22 = .ok (.iand, 1) := by decide +kernel
theorem dx_withHalfMoved_23 : decode cx_withHalfMoved 23 = .ok (.ifCond .eq 7, 3) := by decide +kernel
theorem dx_withHalfMoved_26 : decode cx_withHalfMoved 26 = .ok (.iconst 1, 1) := by decide +kernel
theorem dx_withHalfMoved_27 : decode cx_withHalfMoved 27 = .ok (.goto 4, 3) := by decide +kernel
theorem dx_withHalfMoved_30 : decode cx_withHalfMoved 30 = .ok (.iconst 0, 1) := by decide +kernel
theorem dx_withHalfMoved_31 : decode cx_withHalfMoved 31 = .ok (.istore 6, 2) := by decide +kernel
theorem dx_withHalfMoved_33 : decode cx_withHalfMoved 33 = .ok (.iload 5, 2) := by decide +kernel
theorem dx_withHalfMoved_35 : decode cx_withHalfMoved 35 = .ok (.iload 6, 2) := by decide +kernel
theorem dx_withHalfMoved_37 : decode cx_withHalfMoved 37 = .ok (.if_icmp .eq 10, 3) := by decide +kernel
theorem dx_withHalfMoved_40 : decode cx_withHalfMoved 40 = .ok (.lload_n 1, 1) := by decide +kernel
theorem dx_withHalfMoved_41 : decode cx_withHalfMoved 41 = .ok (.invokestatic 57, 3) := by decide +kernel
theorem dx_withHalfMoved_44 : decode cx_withHalfMoved 44 = .ok (.goto 7, 3) := by decide +kernel
theorem dx_withHalfMoved_47 : decode cx_withHalfMoved 47 = .ok (.lload_n 1, 1) := by decide +kernel
theorem dx_withHalfMoved_48 : decode cx_withHalfMoved 48 = .ok (.invokestatic 192, 3) := by decide +kernel
theorem dx_withHalfMoved_51 : decode cx_withHalfMoved 51 = .ok (.istore 7, 2) := by decide +kernel
theorem dx_withHalfMoved_53 : decode cx_withHalfMoved 53 = .ok (.aload_n 0, 1) := by decide +kernel
theorem dx_withHalfMoved_54 : decode cx_withHalfMoved 54 = .ok (.iload 7, 2) := by decide +kernel
theorem dx_withHalfMoved_56 : decode cx_withHalfMoved 56 = .ok (.iload 5, 2) := by decide +kernel
theorem dx_withHalfMoved_58 : decode cx_withHalfMoved 58 = .ok (.ifCond .eq 10, 3) := by decide +kernel
theorem dx_withHalfMoved_61 : decode cx_withHalfMoved 61 = .ok (.lload_n 3, 1) := by decide +kernel
theorem dx_withHalfMoved_62 : decode cx_withHalfMoved 62 = .ok (.invokestatic 192, 3) := by decide +kernel
theorem dx_withHalfMoved_65 : decode cx_withHalfMoved 65 = .ok (.goto 7, 3) := by decide +kernel
theorem dx_withHalfMoved_68 : decode cx_withHalfMoved 68 = .ok (.lload_n 3, 1) := by decide +kernel
theorem dx_withHalfMoved_69 : decode cx_withHalfMoved 69 = .ok (.invokestatic 57, 3) := by decide +kernel
theorem dx_withHalfMoved_72 : decode cx_withHalfMoved 72 = .ok (.invokevirtual 238, 3) := by decide +kernel
theorem dx_withHalfMoved_75 : decode cx_withHalfMoved 75 = .ok (.istore 8, 2) := by decide +kernel
theorem dx_withHalfMoved_77 : decode cx_withHalfMoved 77 = .ok (.iload 5, 2) := by decide +kernel
theorem dx_withHalfMoved_79 : decode cx_withHalfMoved 79 = .ok (.ifCond .eq 13, 3) := by decide +kernel
theorem dx_withHalfMoved_82 : decode cx_withHalfMoved 82 = .ok (.iload 8, 2) := by decide +kernel
theorem dx_withHalfMoved_84 : decode cx_withHalfMoved 84 = .ok (.iload 7, 2) := by decide +kernel
theorem dx_withHalfMoved_86 : decode cx_withHalfMoved 86 = .ok (.invokestatic 241, 3) := by decide +kernel
theorem dx_withHalfMoved_89 : decode cx_withHalfMoved 89 = .ok (.goto 10, 3) := by decide +kernel
theorem dx_withHalfMoved_92 : decode cx_withHalfMoved 92 = .ok (.iload 7, 2) := by decide +kernel
theorem dx_withHalfMoved_94 : decode cx_withHalfMoved 94 = .ok (.iload 8, 2) := by decide +kernel
theorem dx_withHalfMoved_96 : decode cx_withHalfMoved 96 = .ok (.invokestatic 241, 3) := by decide +kernel
theorem dx_withHalfMoved_99 : decode cx_withHalfMoved 99 = .ok (.lreturn, 1) := by decide +kernel
theorem dx_otherHalf_0 : decode cx_otherHalf 0 = .ok (.aload_n 0, 1) := by decide +kernel
theorem dx_otherHalf_1 : decode cx_otherHalf 1 = .ok (.getfield 44, 3) := by decide +kernel
theorem dx_otherHalf_4 : decode cx_otherHalf 4 = .ok (.iconst 3, 1) := by decide +kernel
theorem dx_otherHalf_5 : decode cx_otherHalf 5 = .ok (.ishr, 1) := by decide +kernel
theorem dx_otherHalf_6 : decode cx_otherHalf 6 = .ok (.iconst 3, 1) := by decide +kernel
theorem dx_otherHalf_7 : decode cx_otherHalf 7 = .ok (.iand, 1) := by decide +kernel
theorem dx_otherHalf_8 : decode cx_otherHalf 8 = .ok (.tableswitch 35 0 2 #[28, 30, 32], 28) := by decide +kernel
theorem dx_otherHalf_36 : decode cx_otherHalf 36 = .ok (.iload_n 2, 1) := by decide +kernel
theorem dx_otherHalf_37 : decode cx_otherHalf 37 = .ok (.ireturn, 1) := by decide +kernel
theorem dx_otherHalf_38 : decode cx_otherHalf 38 = .ok (.iconst 0, 1) := by decide +kernel
theorem dx_otherHalf_39 : decode cx_otherHalf 39 = .ok (.ireturn, 1) := by decide +kernel
theorem dx_otherHalf_40 : decode cx_otherHalf 40 = .ok (.ldc 175, 2) := by decide +kernel
theorem dx_otherHalf_42 : decode cx_otherHalf 42 = .ok (.ireturn, 1) := by decide +kernel
theorem dx_otherHalf_43 : decode cx_otherHalf 43 = .ok (.iload_n 1, 1) := by decide +kernel
theorem dx_otherHalf_44 : decode cx_otherHalf 44 = .ok (.ldc 174, 2) := by decide +kernel
theorem dx_otherHalf_46 : decode cx_otherHalf 46 = .ok (.iand, 1) := by decide +kernel
theorem dx_otherHalf_47 : decode cx_otherHalf 47 = .ok (.ifCond .ne 7, 3) := by decide +kernel
theorem dx_otherHalf_50 : decode cx_otherHalf 50 = .ok (.iconst 0, 1) := by decide +kernel
theorem dx_otherHalf_51 : decode cx_otherHalf 51 = .ok (.goto 5, 3) := by decide +kernel
theorem dx_otherHalf_54 : decode cx_otherHalf 54 = .ok (.ldc 175, 2) := by decide +kernel
theorem dx_otherHalf_56 : decode cx_otherHalf 56 = .ok (.ireturn, 1) := by decide +kernel
theorem dx_isThere_0 : decode cx_isThere 0 = .ok (.iload_n 0, 1) := by decide +kernel
theorem dx_isThere_1 : decode cx_isThere 1 = .ok (.ifCond .lt 14, 3) := by decide +kernel
theorem dx_isThere_4 : decode cx_isThere 4 = .ok (.iload_n 0, 1) := by decide +kernel
theorem dx_isThere_5 : decode cx_isThere 5 = .ok (.sipush 4096, 3) := by decide +kernel
theorem dx_isThere_8 : decode cx_isThere 8 = .ok (.if_icmp .ge 7, 3) := by decide +kernel
theorem dx_isThere_11 : decode cx_isThere 11 = .ok (.iconst 1, 1) := by decide +kernel
theorem dx_isThere_12 : decode cx_isThere 12 = .ok (.goto 4, 3) := by decide +kernel
theorem dx_isThere_15 : decode cx_isThere 15 = .ok (.iconst 0, 1) := by decide +kernel
theorem dx_isThere_16 : decode cx_isThere 16 = .ok (.ireturn, 1) := by decide +kernel
theorem dx_signed_0 : decode cx_signed 0 = .ok (.lload_n 0, 1) := by decide +kernel
theorem dx_signed_1 : decode cx_signed 1 = .ok (.bipush 28, 2) := by decide +kernel
theorem dx_signed_3 : decode cx_signed 3 = .ok (.lshl, 1) := by decide +kernel
theorem dx_signed_4 : decode cx_signed 4 = .ok (.bipush 28, 2) := by decide +kernel
theorem dx_signed_6 : decode cx_signed 6 = .ok (.lshr, 1) := by decide +kernel
theorem dx_signed_7 : decode cx_signed 7 = .ok (.lreturn, 1) := by decide +kernel
theorem dx_left_0 : decode cx_left 0 = .ok (.lload_n 0, 1) := by decide +kernel
theorem dx_left_1 : decode cx_left 1 = .ok (.bipush 18, 2) := by decide +kernel
theorem dx_left_3 : decode cx_left 3 = .ok (.lshr, 1) := by decide +kernel
theorem dx_left_4 : decode cx_left 4 = .ok (.l2i, 1) := by decide +kernel
theorem dx_left_5 : decode cx_left 5 = .ok (.ldc 175, 2) := by decide +kernel
theorem dx_left_7 : decode cx_left 7 = .ok (.iand, 1) := by decide +kernel
theorem dx_left_8 : decode cx_left 8 = .ok (.ireturn, 1) := by decide +kernel
theorem dx_right_0 : decode cx_right 0 = .ok (.lload_n 0, 1) := by decide +kernel
theorem dx_right_1 : decode cx_right 1 = .ok (.l2i, 1) := by decide +kernel
theorem dx_right_2 : decode cx_right 2 = .ok (.ldc 175, 2) := by decide +kernel
theorem dx_right_4 : decode cx_right 4 = .ok (.iand, 1) := by decide +kernel
theorem dx_right_5 : decode cx_right 5 = .ok (.ireturn, 1) := by decide +kernel
theorem dx_joined_0 : decode cx_joined 0 = .ok (.iload_n 0, 1) := by decide +kernel
theorem dx_joined_1 : decode cx_joined 1 = .ok (.i2l, 1) := by decide +kernel
theorem dx_joined_2 : decode cx_joined 2 = .ok (.bipush 46, 2) := by decide +kernel
theorem dx_joined_4 : decode cx_joined 4 = .ok (.lshl, 1) := by decide +kernel
theorem dx_joined_5 : decode cx_joined 5 = .ok (.bipush 28, 2) := by decide +kernel
theorem dx_joined_7 : decode cx_joined 7 = .ok (.lshr, 1) := by decide +kernel
theorem dx_joined_8 : decode cx_joined 8 = .ok (.iload_n 1, 1) := by decide +kernel
theorem dx_joined_9 : decode cx_joined 9 = .ok (.ldc 175, 2) := by decide +kernel
theorem dx_joined_11 : decode cx_joined 11 = .ok (.iand, 1) := by decide +kernel
theorem dx_joined_12 : decode cx_joined 12 = .ok (.i2l, 1) := by decide +kernel
theorem dx_joined_13 : decode cx_joined 13 = .ok (.lor, 1) := by decide +kernel
theorem dx_joined_14 : decode cx_joined 14 = .ok (.lreturn, 1) := by decide +kernel
theorem dx_swapped_0 : decode cx_swapped 0 = .ok (.lload_n 0, 1) := by decide +kernel
theorem dx_swapped_1 : decode cx_swapped 1 = .ok (.invokestatic 57, 3) := by decide +kernel
theorem dx_swapped_4 : decode cx_swapped 4 = .ok (.lload_n 0, 1) := by decide +kernel
theorem dx_swapped_5 : decode cx_swapped 5 = .ok (.invokestatic 192, 3) := by decide +kernel
theorem dx_swapped_8 : decode cx_swapped 8 = .ok (.invokestatic 241, 3) := by decide +kernel
theorem dx_swapped_11 : decode cx_swapped 11 = .ok (.lreturn, 1) := by decide +kernel
theorem dx_bothHalvesMore_0 : decode cx_bothHalvesMore 0 = .ok (.lload_n 0, 1) := by decide +kernel
theorem dx_bothHalvesMore_1 : decode cx_bothHalvesMore 1 = .ok (.invokestatic 192, 3) := by decide +kernel
theorem dx_bothHalvesMore_4 : decode cx_bothHalvesMore 4 = .ok (.iload_n 2, 1) := by decide +kernel
theorem dx_bothHalvesMore_5 : decode cx_bothHalvesMore 5 = .ok (.iadd, 1) := by decide +kernel
theorem dx_bothHalvesMore_6 : decode cx_bothHalvesMore 6 = .ok (.lload_n 0, 1) := by decide +kernel
theorem dx_bothHalvesMore_7 : decode cx_bothHalvesMore 7 = .ok (.invokestatic 57, 3) := by decide +kernel
theorem dx_bothHalvesMore_10 : decode cx_bothHalvesMore 10 = .ok (.iload_n 2, 1) := by decide +kernel
theorem dx_bothHalvesMore_11 : decode cx_bothHalvesMore 11 = .ok (.iadd, 1) := by decide +kernel
theorem dx_bothHalvesMore_12 : decode cx_bothHalvesMore 12 = .ok (.invokestatic 241, 3) := by decide +kernel
theorem dx_bothHalvesMore_15 : decode cx_bothHalvesMore 15 = .ok (.lreturn, 1) := by decide +kernel
theorem dx_init_0 : decode cx_init 0 = .ok (.aload_n 0, 1) := by decide +kernel
theorem dx_init_1 : decode cx_init 1 = .ok (.invokespecial 3, 3) := by decide +kernel
theorem dx_init_4 : decode cx_init 4 = .ok (.aload_n 0, 1) := by decide +kernel
theorem dx_init_5 : decode cx_init 5 = .ok (.sipush 4096, 3) := by decide +kernel
theorem dx_init_8 : decode cx_init 8 = .ok (.newarray .long, 2) := by decide +kernel
theorem dx_init_10 : decode cx_init 10 = .ok (.putfield 9, 3) := by decide +kernel
theorem dx_init_13 : decode cx_init 13 = .ok (.return_, 1) := by decide +kernel
