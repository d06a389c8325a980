theorem d_S_init_0 : decode b_S_init 0 = .ok (.aload_n 0, 1) := by decide +kernel
theorem d_S_init_1 : decode b_S_init 1 = .ok (.invokespecial 1, 3) := by decide +kernel
theorem d_S_init_4 : decode b_S_init 4 = .ok (.aload_n 0, 1) := by decide +kernel
theorem d_S_init_5 : decode b_S_init 5 = .ok (.new 7, 3) := by decide +kernel
theorem d_S_init_8 : decode b_S_init 8 = .ok (.dup, 1) := by decide +kernel
theorem d_S_init_9 : decode b_S_init 9 = .ok (.invokespecial 9, 3) := by decide +kernel
theorem d_S_init_12 : decode b_S_init 12 = .ok (.putfield 10, 3) := by decide +kernel
theorem d_S_init_15 : decode b_S_init 15 = .ok (.aload_n 0, 1) := by decide +kernel
theorem d_S_init_16 : decode b_S_init 16 = .ok (.bipush 6, 2) := by decide +kernel
theorem d_S_init_18 : decode b_S_init 18 = .ok (.anewarray 16, 3) := by decide +kernel
theorem d_S_init_21 : decode b_S_init 21 = .ok (.putfield 18, 3) := by decide +kernel
theorem d_S_init_24 : decode b_S_init 24 = .ok (.aload_n 0, 1) := by decide +kernel
theorem d_S_init_25 : decode b_S_init 25 = .ok (.new 22, 3) := by decide +kernel
theorem d_S_init_28 : decode b_S_init 28 = .ok (.dup, 1) := by decide +kernel
theorem d_S_init_29 : decode b_S_init 29 = .ok (.invokespecial 24, 3) := by decide +kernel
theorem d_S_init_32 : decode b_S_init 32 = .ok (.putfield 25, 3) := by decide +kernel
theorem d_S_init_35 : decode b_S_init 35 = .ok (.aload_n 0, 1) := by decide +kernel
theorem d_S_init_36 : decode b_S_init 36 = .ok (.new 29, 3) := by decide +kernel
theorem d_S_init_39 : decode b_S_init 39 = .ok (.dup, 1) := by decide +kernel
theorem d_S_init_40 : decode b_S_init 40 = .ok (.invokespecial 31, 3) := by decide +kernel
theorem d_S_init_43 : decode b_S_init 43 = .ok (.putfield 32, 3) := by decide +kernel
theorem d_S_init_46 : decode b_S_init 46 = .ok (.aload_n 0, 1) := by decide +kernel
theorem d_S_init_47 : decode b_S_init 47 = .ok (.iconst 0, 1) := by decide +kernel
theorem d_S_init_48 : decode b_S_init 48 = .ok (.putfield 36, 3) := by decide +kernel
theorem d_S_init_51 : decode b_S_init 51 = .ok (.aload_n 0, 1) := by decide +kernel
theorem d_S_init_52 : decode b_S_init 52 = .ok (.iconst (-1), 1) := by decide +kernel
theorem d_S_init_53 : decode b_S_init 53 = .ok (.putfield 40, 3) := by decide +kernel
theorem d_S_init_56 : decode b_S_init 56 = .ok (.aload_n 0, 1) := by decide +kernel
theorem d_S_init_57 : decode b_S_init 57 = .ok (.iconst 0, 1) := by decide +kernel
theorem d_S_init_58 : decode b_S_init 58 = .ok (.putfield 43, 3) := by decide +kernel
theorem d_S_init_61 : decode b_S_init 61 = .ok (.aload_n 0, 1) := by decide +kernel
theorem d_S_init_62 : decode b_S_init 62 = .ok (.iconst 0, 1) := by decide +kernel
theorem d_S_init_63 : decode b_S_init 63 = .ok (.putfield 46, 3) := by decide +kernel
theorem d_S_init_66 : decode b_S_init 66 = .ok (.aload_n 0, 1) := by decide +kernel
theorem d_S_init_67 : decode b_S_init 67 = .ok (.iconst (-1), 1) := by decide +kernel
theorem d_S_init_68 : decode b_S_init 68 = .ok (.putfield 49, 3) := by decide +kernel
theorem d_S_init_71 : decode b_S_init 71 = .ok (.aload_n 0, 1) := by decide +kernel
theorem d_S_init_72 : decode b_S_init 72 = .ok (.iconst (-1), 1) := by decide +kernel
theorem d_S_init_73 : decode b_S_init 73 = .ok (.putfield 52, 3) := by decide +kernel
theorem d_S_init_76 : decode b_S_init 76 = .ok (.iconst 0, 1) := by decide +kernel
theorem d_S_init_77 : decode b_S_init 77 = .ok (.istore_n 1, 1) := by decide +kernel
theorem d_S_init_78 : decode b_S_init 78 = .ok (.iload_n 1, 1) := by decide +kernel
theorem d_S_init_79 : decode b_S_init 79 = .ok (.bipush 6, 2) := by decide +kernel
theorem d_S_init_81 : decode b_S_init 81 = .ok (.if_icmp .ge 22, 3) := by decide +kernel
theorem d_S_init_84 : decode b_S_init 84 = .ok (.aload_n 0, 1) := by decide +kernel
theorem d_S_init_85 : decode b_S_init 85 = .ok (.getfield 18, 3) := by decide +kernel
theorem d_S_init_88 : decode b_S_init 88 = .ok (.iload_n 1, 1) := by decide +kernel
theorem d_S_init_89 : decode b_S_init 89 = .ok (.new 16, 3) := by decide +kernel
theorem d_S_init_92 : decode b_S_init 92 = .ok (.dup, 1) := by decide +kernel
theorem d_S_init_93 : decode b_S_init 93 = .ok (.invokespecial 55, 3) := by decide +kernel
theorem d_S_init_96 : decode b_S_init 96 = .ok (.aastore, 1) := by decide +kernel
theorem d_S_init_97 : decode b_S_init 97 = .ok (.iinc 1 1, 3) := by decide +kernel
theorem d_S_init_100 : decode b_S_init 100 = .ok (.goto (-22), 3) := by decide +kernel
theorem d_S_init_103 : decode b_S_init 103 = .ok (.return_, 1) := by decide +kernel
theorem d_C_init_0 : decode b_C_init 0 = .ok (.aload_n 0, 1) := by decide +kernel
theorem d_C_init_1 : decode b_C_init 1 = .ok (.invokespecial 3, 3) := by decide +kernel
theorem d_C_init_4 : decode b_C_init 4 = .ok (.aload_n 0, 1) := by decide +kernel
theorem d_C_init_5 : decode b_C_init 5 = .ok (.bipush 20, 2) := by decide +kernel
theorem d_C_init_7 : decode b_C_init 7 = .ok (.newarray .int, 2) := by decide +kernel
theorem d_C_init_9 : decode b_C_init 9 = .ok (.putfield 9, 3) := by decide +kernel
theorem d_C_init_12 : decode b_C_init 12 = .ok (.aload_n 0, 1) := by decide +kernel
theorem d_C_init_13 : decode b_C_init 13 = .ok (.bipush 20, 2) := by decide +kernel
theorem d_C_init_15 : decode b_C_init 15 = .ok (.newarray .int, 2) := by decide +kernel
theorem d_C_init_17 : decode b_C_init 17 = .ok (.putfield 15, 3) := by decide +kernel
theorem d_C_init_20 : decode b_C_init 20 = .ok (.aload_n 0, 1) := by decide +kernel
theorem d_C_init_21 : decode b_C_init 21 = .ok (.bipush 80, 2) := by decide +kernel
theorem d_C_init_23 : decode b_C_init 23 = .ok (.newarray .int, 2) := by decide +kernel
theorem d_C_init_25 : decode b_C_init 25 = .ok (.putfield 18, 3) := by decide +kernel
theorem d_C_init_28 : decode b_C_init 28 = .ok (.aload_n 0, 1) := by decide +kernel
theorem d_C_init_29 : decode b_C_init 29 = .ok (.iconst 0, 1) := by decide +kernel
theorem d_C_init_30 : decode b_C_init 30 = .ok (.putfield 21, 3) := by decide +kernel
theorem d_C_init_33 : decode b_C_init 33 = .ok (.aload_n 0, 1) := by decide +kernel
theorem d_C_init_34 : decode b_C_init 34 = .ok (.getfield 18, 3) := by decide +kernel
theorem d_C_init_37 : decode b_C_init 37 = .ok (.iconst (-1), 1) := by decide +kernel
theorem d_C_init_38 : decode b_C_init 38 = .ok (.invokestatic 25, 3) := by decide +kernel
theorem d_C_init_41 : decode b_C_init 41 = .ok (.return_, 1) := by decide +kernel
theorem d_A_fill_0 : decode b_A_fill 0 = .ok (.iconst 0, 1) := by decide +kernel
theorem d_A_fill_1 : decode b_A_fill 1 = .ok (.istore_n 2, 1) := by decide +kernel
theorem d_A_fill_2 : decode b_A_fill 2 = .ok (.aload_n 0, 1) := by decide +kernel
theorem d_A_fill_3 : decode b_A_fill 3 = .ok (.arraylength, 1) := by decide +kernel
theorem d_A_fill_4 : decode b_A_fill 4 = .ok (.istore_n 3, 1) := by decide +kernel
theorem d_A_fill_5 : decode b_A_fill 5 = .ok (.iload_n 2, 1) := by decide +kernel
theorem d_A_fill_6 : decode b_A_fill 6 = .ok (.iload_n 3, 1) := by decide +kernel
theorem d_A_fill_7 : decode b_A_fill 7 = .ok (.if_icmp .ge 13, 3) := by decide +kernel
theorem d_A_fill_10 : decode b_A_fill 10 = .ok (.aload_n 0, 1) := by decide +kernel
theorem d_A_fill_11 : decode b_A_fill 11 = .ok (.iload_n 2, 1) := by decide +kernel
theorem d_A_fill_12 : decode b_A_fill 12 = .ok (.iload_n 1, 1) := by decide +kernel
theorem d_A_fill_13 : decode b_A_fill 13 = .ok (.iastore, 1) := by decide +kernel
theorem d_A_fill_14 : decode b_A_fill 14 = .ok (.iinc 2 1, 3) := by decide +kernel
theorem d_A_fill_17 : decode b_A_fill 17 = .ok (.goto (-12), 3) := by decide +kernel
theorem d_A_fill_20 : decode b_A_fill 20 = .ok (.return_, 1) := by decide +kernel
theorem d_K_init_0 : decode b_K_init 0 = .ok (.aload_n 0, 1) := by decide +kernel
theorem d_K_init_1 : decode b_K_init 1 = .ok (.invokespecial 3, 3) := by decide +kernel
theorem d_K_init_4 : decode b_K_init 4 = .ok (.aload_n 0, 1) := by decide +kernel
theorem d_K_init_5 : decode b_K_init 5 = .ok (.iconst 4, 1) := by decide +kernel
theorem d_K_init_6 : decode b_K_init 6 = .ok (.newarray .int, 2) := by decide +kernel
theorem d_K_init_8 : decode b_K_init 8 = .ok (.putfield 9, 3) := by decide +kernel
theorem d_K_init_11 : decode b_K_init 11 = .ok (.aload_n 0, 1) := by decide +kernel
theorem d_K_init_12 : decode b_K_init 12 = .ok (.bipush 8, 2) := by decide +kernel
theorem d_K_init_14 : decode b_K_init 14 = .ok (.newarray .int, 2) := by decide +kernel
theorem d_K_init_16 : decode b_K_init 16 = .ok (.putfield 15, 3) := by decide +kernel
theorem d_K_init_19 : decode b_K_init 19 = .ok (.aload_n 0, 1) := by decide +kernel
theorem d_K_init_20 : decode b_K_init 20 = .ok (.bipush 8, 2) := by decide +kernel
theorem d_K_init_22 : decode b_K_init 22 = .ok (.newarray .int, 2) := by decide +kernel
theorem d_K_init_24 : decode b_K_init 24 = .ok (.putfield 18, 3) := by decide +kernel
theorem d_K_init_27 : decode b_K_init 27 = .ok (.aload_n 0, 1) := by decide +kernel
theorem d_K_init_28 : decode b_K_init 28 = .ok (.bipush 8, 2) := by decide +kernel
theorem d_K_init_30 : decode b_K_init 30 = .ok (.newarray .int, 2) := by decide +kernel
theorem d_K_init_32 : decode b_K_init 32 = .ok (.putfield 21, 3) := by decide +kernel
theorem d_K_init_35 : decode b_K_init 35 = .ok (.return_, 1) := by decide +kernel
theorem d_E_init_0 : decode b_E_init 0 = .ok (.aload_n 0, 1) := by decide +kernel
theorem d_E_init_1 : decode b_E_init 1 = .ok (.invokespecial 3, 3) := by decide +kernel
theorem d_E_init_4 : decode b_E_init 4 = .ok (.aload_n 0, 1) := by decide +kernel
theorem d_E_init_5 : decode b_E_init 5 = .ok (.iconst 0, 1) := by decide +kernel
theorem d_E_init_6 : decode b_E_init 6 = .ok (.putfield 9, 3) := by decide +kernel
theorem d_E_init_9 : decode b_E_init 9 = .ok (.aload_n 0, 1) := by decide +kernel
theorem d_E_init_10 : decode b_E_init 10 = .ok (.iconst 0, 1) := by decide +kernel
theorem d_E_init_11 : decode b_E_init 11 = .ok (.putfield 15, 3) := by decide +kernel
theorem d_E_init_14 : decode b_E_init 14 = .ok (.aload_n 0, 1) := by decide +kernel
theorem d_E_init_15 : decode b_E_init 15 = .ok (.iconst 0, 1) := by decide +kernel
theorem d_E_init_16 : decode b_E_init 16 = .ok (.putfield 18, 3) := by decide +kernel
theorem d_E_init_19 : decode b_E_init 19 = .ok (.aload_n 0, 1) := by decide +kernel
theorem d_E_init_20 : decode b_E_init 20 = .ok (.bipush 8, 2) := by decide +kernel
theorem d_E_init_22 : decode b_E_init 22 = .ok (.newarray .int, 2) := by decide +kernel
theorem d_E_init_24 : decode b_E_init 24 = .ok (.putfield 21, 3) := by decide +kernel
theorem d_E_init_27 : decode b_E_init 27 = .ok (.aload_n 0, 1) := by decide +kernel
theorem d_E_init_28 : decode b_E_init 28 = .ok (.bipush 8, 2) := by decide +kernel
theorem d_E_init_30 : decode b_E_init 30 = .ok (.newarray .int, 2) := by decide +kernel
theorem d_E_init_32 : decode b_E_init 32 = .ok (.putfield 25, 3) := by decide +kernel
theorem d_E_init_35 : decode b_E_init 35 = .ok (.aload_n 0, 1) := by decide +kernel
theorem d_E_init_36 : decode b_E_init 36 = .ok (.bipush 8, 2) := by decide +kernel
theorem d_E_init_38 : decode b_E_init 38 = .ok (.anewarray 28, 3) := by decide +kernel
theorem d_E_init_41 : decode b_E_init 41 = .ok (.putfield 30, 3) := by decide +kernel
theorem d_E_init_44 : decode b_E_init 44 = .ok (.return_, 1) := by decide +kernel
theorem d_S_place_0 : decode b_S_place 0 = .ok (.aload_n 0, 1) := by decide +kernel
theorem d_S_place_1 : decode b_S_place 1 = .ok (.getfield 40, 3) := by decide +kernel
theorem d_S_place_4 : decode b_S_place 4 = .ok (.ireturn, 1) := by decide +kernel
theorem d_S_sign_0 : decode b_S_sign 0 = .ok (.iload_n 3, 1) := by decide +kernel
theorem d_S_sign_1 : decode b_S_sign 1 = .ok (.iconst 1, 1) := by decide +kernel
theorem d_S_sign_2 : decode b_S_sign 2 = .ok (.bipush 8, 2) := by decide +kernel
theorem d_S_sign_4 : decode b_S_sign 4 = .ok (.invokestatic 56, 3) := by decide +kernel
theorem d_S_sign_7 : decode b_S_sign 7 = .ok (.invokestatic 60, 3) := by decide +kernel
theorem d_S_sign_10 : decode b_S_sign 10 = .ok (.aload_n 0, 1) := by decide +kernel
theorem d_S_sign_11 : decode b_S_sign 11 = .ok (.getfield 10, 3) := by decide +kernel
theorem d_S_sign_14 : decode b_S_sign 14 = .ok (.getfield 64, 3) := by decide +kernel
theorem d_S_sign_17 : decode b_S_sign 17 = .ok (.iload_n 3, 1) := by decide +kernel
theorem d_S_sign_18 : decode b_S_sign 18 = .ok (.iadd, 1) := by decide +kernel
theorem d_S_sign_19 : decode b_S_sign 19 = .ok (.sipush 200, 3) := by decide +kernel
theorem d_S_sign_22 : decode b_S_sign 22 = .ok (.if_icmp .gt 7, 3) := by decide +kernel
theorem d_S_sign_25 : decode b_S_sign 25 = .ok (.iconst 1, 1) := by decide +kernel
theorem d_S_sign_26 : decode b_S_sign 26 = .ok (.goto 4, 3) := by decide +kernel
theorem d_S_sign_29 : decode b_S_sign 29 = .ok (.iconst 0, 1) := by decide +kernel
theorem d_S_sign_30 : decode b_S_sign 30 = .ok (.invokestatic 67, 3) := by decide +kernel
theorem d_S_sign_33 : decode b_S_sign 33 = .ok (.aload_n 0, 1) := by decide +kernel
theorem d_S_sign_34 : decode b_S_sign 34 = .ok (.getfield 10, 3) := by decide +kernel
theorem d_S_sign_37 : decode b_S_sign 37 = .ok (.lload_n 1, 1) := by decide +kernel
theorem d_S_sign_38 : decode b_S_sign 38 = .ok (.iload_n 3, 1) := by decide +kernel
theorem d_S_sign_39 : decode b_S_sign 39 = .ok (.invokevirtual 70, 3) := by decide +kernel
theorem d_S_sign_42 : decode b_S_sign 42 = .ok (.aload_n 0, 1) := by decide +kernel
theorem d_S_sign_43 : decode b_S_sign 43 = .ok (.getfield 10, 3) := by decide +kernel
theorem d_S_sign_46 : decode b_S_sign 46 = .ok (.getfield 64, 3) := by decide +kernel
theorem d_S_sign_49 : decode b_S_sign 49 = .ok (.ireturn, 1) := by decide +kernel
theorem d_S_within_0 : decode b_S_within 0 = .ok (.iload_n 0, 1) := by decide +kernel
theorem d_S_within_1 : decode b_S_within 1 = .ok (.iload_n 1, 1) := by decide +kernel
theorem d_S_within_2 : decode b_S_within 2 = .ok (.if_icmp .lt 12, 3) := by decide +kernel
theorem d_S_within_5 : decode b_S_within 5 = .ok (.iload_n 0, 1) := by decide +kernel
theorem d_S_within_6 : decode b_S_within 6 = .ok (.iload_n 2, 1) := by decide +kernel
theorem d_S_within_7 : decode b_S_within 7 = .ok (.if_icmp .gt 7, 3) := by decide +kernel
theorem d_S_within_10 : decode b_S_within 10 = .ok (.iconst 1, 1) := by decide +kernel
theorem d_S_within_11 : decode b_S_within 11 = .ok (.goto 4, 3) := by decide +kernel
theorem d_S_within_14 : decode b_S_within 14 = .ok (.iconst 0, 1) := by decide +kernel
theorem d_S_within_15 : decode b_S_within 15 = .ok (.ireturn, 1) := by decide +kernel
theorem d_S_needRange_0 : decode b_S_needRange 0 = .ok (.iload_n 0, 1) := by decide +kernel
theorem d_S_needRange_1 : decode b_S_needRange 1 = .ok (.ifCond .ne 13, 3) := by decide +kernel
theorem d_S_needRange_4 : decode b_S_needRange 4 = .ok (.new 168, 3) := by decide +kernel
theorem d_S_needRange_7 : decode b_S_needRange 7 = .ok (.dup, 1) := by decide +kernel
theorem d_S_needRange_8 : decode b_S_needRange 8 = .ok (.ldc 170, 2) := by decide +kernel
theorem d_S_needRange_10 : decode b_S_needRange 10 = .ok (.invokespecial 172, 3) := by decide +kernel
theorem d_S_needRange_13 : decode b_S_needRange 13 = .ok (.athrow, 1) := by decide +kernel
theorem d_S_needRange_14 : decode b_S_needRange 14 = .ok (.return_, 1) := by decide +kernel
theorem d_S_needMeaning_0 : decode b_S_needMeaning 0 = .ok (.iload_n 0, 1) := by decide +kernel
theorem d_S_needMeaning_1 : decode b_S_needMeaning 1 = .ok (.ifCond .ne 13, 3) := by decide +kernel
theorem d_S_needMeaning_4 : decode b_S_needMeaning 4 = .ok (.new 173, 3) := by decide +kernel
theorem d_S_needMeaning_7 : decode b_S_needMeaning 7 = .ok (.dup, 1) := by decide +kernel
theorem d_S_needMeaning_8 : decode b_S_needMeaning 8 = .ok (.ldc 175, 2) := by decide +kernel
theorem d_S_needMeaning_10 : decode b_S_needMeaning 10 = .ok (.invokespecial 177, 3) := by decide +kernel
theorem d_S_needMeaning_13 : decode b_S_needMeaning 13 = .ok (.athrow, 1) := by decide +kernel
theorem d_S_needMeaning_14 : decode b_S_needMeaning 14 = .ok (.return_, 1) := by decide +kernel
theorem d_S_edition_0 : decode b_S_edition 0 = .ok (.aload_n 0, 1) := by decide +kernel
theorem d_S_edition_1 : decode b_S_edition 1 = .ok (.getfield 36, 3) := by decide +kernel
theorem d_S_edition_4 : decode b_S_edition 4 = .ok (.bipush 6, 2) := by decide +kernel
theorem d_S_edition_6 : decode b_S_edition 6 = .ok (.if_icmp .ge 7, 3) := by decide +kernel
theorem d_S_edition_9 : decode b_S_edition 9 = .ok (.iconst 1, 1) := by decide +kernel
theorem d_S_edition_10 : decode b_S_edition 10 = .ok (.goto 4, 3) := by decide +kernel
theorem d_S_edition_13 : decode b_S_edition 13 = .ok (.iconst 0, 1) := by decide +kernel
theorem d_S_edition_14 : decode b_S_edition 14 = .ok (.invokestatic 74, 3) := by decide +kernel
theorem d_S_edition_17 : decode b_S_edition 17 = .ok (.iload_n 1, 1) := by decide +kernel
theorem d_S_edition_18 : decode b_S_edition 18 = .ok (.iconst 0, 1) := by decide +kernel
theorem d_S_edition_19 : decode b_S_edition 19 = .ok (.sipush 9999, 3) := by decide +kernel
theorem d_S_edition_22 : decode b_S_edition 22 = .ok (.invokestatic 56, 3) := by decide +kernel
theorem d_S_edition_25 : decode b_S_edition 25 = .ok (.invokestatic 60, 3) := by decide +kernel
theorem d_S_edition_28 : decode b_S_edition 28 = .ok (.aload_n 0, 1) := by decide +kernel
theorem d_S_edition_29 : decode b_S_edition 29 = .ok (.getfield 18, 3) := by decide +kernel
theorem d_S_edition_32 : decode b_S_edition 32 = .ok (.aload_n 0, 1) := by decide +kernel
theorem d_S_edition_33 : decode b_S_edition 33 = .ok (.getfield 36, 3) := by decide +kernel
theorem d_S_edition_36 : decode b_S_edition 36 = .ok (.aaload, 1) := by decide +kernel
theorem d_S_edition_37 : decode b_S_edition 37 = .ok (.astore_n 2, 1) := by decide +kernel
theorem d_S_edition_38 : decode b_S_edition 38 = .ok (.aload_n 0, 1) := by decide +kernel
theorem d_S_edition_39 : decode b_S_edition 39 = .ok (.aload_n 0, 1) := by decide +kernel
theorem d_S_edition_40 : decode b_S_edition 40 = .ok (.getfield 10, 3) := by decide +kernel
theorem d_S_edition_43 : decode b_S_edition 43 = .ok (.aload_n 2, 1) := by decide +kernel
theorem d_S_edition_44 : decode b_S_edition 44 = .ok (.invokevirtual 77, 3) := by decide +kernel
theorem d_S_edition_47 : decode b_S_edition 47 = .ok (.putfield 40, 3) := by decide +kernel
theorem d_S_edition_50 : decode b_S_edition 50 = .ok (.aload_n 0, 1) := by decide +kernel
theorem d_S_edition_51 : decode b_S_edition 51 = .ok (.getfield 40, 3) := by decide +kernel
theorem d_S_edition_54 : decode b_S_edition 54 = .ok (.iconst (-1), 1) := by decide +kernel
theorem d_S_edition_55 : decode b_S_edition 55 = .ok (.if_icmp .ne 7, 3) := by decide +kernel
theorem d_S_edition_58 : decode b_S_edition 58 = .ok (.iconst 1, 1) := by decide +kernel
theorem d_S_edition_59 : decode b_S_edition 59 = .ok (.goto 4, 3) := by decide +kernel
theorem d_S_edition_62 : decode b_S_edition 62 = .ok (.iconst 0, 1) := by decide +kernel
theorem d_S_edition_63 : decode b_S_edition 63 = .ok (.invokestatic 67, 3) := by decide +kernel
theorem d_S_edition_66 : decode b_S_edition 66 = .ok (.aload_n 2, 1) := by decide +kernel
theorem d_S_edition_67 : decode b_S_edition 67 = .ok (.iload_n 1, 1) := by decide +kernel
theorem d_S_edition_68 : decode b_S_edition 68 = .ok (.putfield 81, 3) := by decide +kernel
theorem d_S_edition_71 : decode b_S_edition 71 = .ok (.aload_n 0, 1) := by decide +kernel
theorem d_S_edition_72 : decode b_S_edition 72 = .ok (.dup, 1) := by decide +kernel
theorem d_S_edition_73 : decode b_S_edition 73 = .ok (.getfield 36, 3) := by decide +kernel
theorem d_S_edition_76 : decode b_S_edition 76 = .ok (.iconst 1, 1) := by decide +kernel
theorem d_S_edition_77 : decode b_S_edition 77 = .ok (.iadd, 1) := by decide +kernel
theorem d_S_edition_78 : decode b_S_edition 78 = .ok (.putfield 36, 3) := by decide +kernel
theorem d_S_edition_81 : decode b_S_edition 81 = .ok (.aload_n 0, 1) := by decide +kernel
theorem d_S_edition_82 : decode b_S_edition 82 = .ok (.getfield 36, 3) := by decide +kernel
theorem d_S_edition_85 : decode b_S_edition 85 = .ok (.iconst 1, 1) := by decide +kernel
theorem d_S_edition_86 : decode b_S_edition 86 = .ok (.isub, 1) := by decide +kernel
theorem d_S_edition_87 : decode b_S_edition 87 = .ok (.ireturn, 1) := by decide +kernel
theorem d_S_needTurn_0 : decode b_S_needTurn 0 = .ok (.iload_n 0, 1) := by decide +kernel
theorem d_S_needTurn_1 : decode b_S_needTurn 1 = .ok (.ifCond .ne 13, 3) := by decide +kernel
theorem d_S_needTurn_4 : decode b_S_needTurn 4 = .ok (.new 163, 3) := by decide +kernel
theorem d_S_needTurn_7 : decode b_S_needTurn 7 = .ok (.dup, 1) := by decide +kernel
theorem d_S_needTurn_8 : decode b_S_needTurn 8 = .ok (.ldc 165, 2) := by decide +kernel
theorem d_S_needTurn_10 : decode b_S_needTurn 10 = .ok (.invokespecial 167, 3) := by decide +kernel
theorem d_S_needTurn_13 : decode b_S_needTurn 13 = .ok (.athrow, 1) := by decide +kernel
theorem d_S_needTurn_14 : decode b_S_needTurn 14 = .ok (.return_, 1) := by decide +kernel
theorem d_E_clear_0 : decode b_E_clear 0 = .ok (.aload_n 0, 1) := by decide +kernel
theorem d_E_clear_1 : decode b_E_clear 1 = .ok (.iconst 0, 1) := by decide +kernel
theorem d_E_clear_2 : decode b_E_clear 2 = .ok (.putfield 15, 3) := by decide +kernel
theorem d_E_clear_5 : decode b_E_clear 5 = .ok (.aload_n 0, 1) := by decide +kernel
theorem d_E_clear_6 : decode b_E_clear 6 = .ok (.iconst 0, 1) := by decide +kernel
theorem d_E_clear_7 : decode b_E_clear 7 = .ok (.putfield 18, 3) := by decide +kernel
theorem d_E_clear_10 : decode b_E_clear 10 = .ok (.iconst 0, 1) := by decide +kernel
theorem d_E_clear_11 : decode b_E_clear 11 = .ok (.istore_n 1, 1) := by decide +kernel
theorem d_E_clear_12 : decode b_E_clear 12 = .ok (.iload_n 1, 1) := by decide +kernel
theorem d_E_clear_13 : decode b_E_clear 13 = .ok (.bipush 8, 2) := by decide +kernel
theorem d_E_clear_15 : decode b_E_clear 15 = .ok (.if_icmp .ge 16, 3) := by decide +kernel
theorem d_E_clear_18 : decode b_E_clear 18 = .ok (.aload_n 0, 1) := by decide +kernel
theorem d_E_clear_19 : decode b_E_clear 19 = .ok (.getfield 30, 3) := by decide +kernel
theorem d_E_clear_22 : decode b_E_clear 22 = .ok (.iload_n 1, 1) := by decide +kernel
theorem d_E_clear_23 : decode b_E_clear 23 = .ok (.aconst_null, 1) := by decide +kernel
theorem d_E_clear_24 : decode b_E_clear 24 = .ok (.aastore, 1) := by decide +kernel
theorem d_E_clear_25 : decode b_E_clear 25 = .ok (.iinc 1 1, 3) := by decide +kernel
theorem d_E_clear_28 : decode b_E_clear 28 = .ok (.goto (-16), 3) := by decide +kernel
theorem d_E_clear_31 : decode b_E_clear 31 = .ok (.return_, 1) := by decide +kernel
theorem d_E_addNumber_0 : decode b_E_addNumber 0 = .ok (.aload_n 0, 1) := by decide +kernel
theorem d_E_addNumber_1 : decode b_E_addNumber 1 = .ok (.getfield 15, 3) := by decide +kernel
theorem d_E_addNumber_4 : decode b_E_addNumber 4 = .ok (.bipush 8, 2) := by decide +kernel
theorem d_E_addNumber_6 : decode b_E_addNumber 6 = .ok (.if_icmp .ge 23, 3) := by decide +kernel
theorem d_E_addNumber_9 : decode b_E_addNumber 9 = .ok (.aload_n 0, 1) := by decide +kernel
theorem d_E_addNumber_10 : decode b_E_addNumber 10 = .ok (.getfield 21, 3) := by decide +kernel
theorem d_E_addNumber_13 : decode b_E_addNumber 13 = .ok (.aload_n 0, 1) := by decide +kernel
theorem d_E_addNumber_14 : decode b_E_addNumber 14 = .ok (.getfield 15, 3) := by decide +kernel
theorem d_E_addNumber_17 : decode b_E_addNumber 17 = .ok (.iload_n 1, 1) := by decide +kernel
theorem d_E_addNumber_18 : decode b_E_addNumber 18 = .ok (.iastore, 1) := by decide +kernel
theorem d_E_addNumber_19 : decode b_E_addNumber 19 = .ok (.aload_n 0, 1) := by decide +kernel
theorem d_E_addNumber_20 : decode b_E_addNumber 20 = .ok (.dup, 1) := by decide +kernel
theorem d_E_addNumber_21 : decode b_E_addNumber 21 = .ok (.getfield 15, 3) := by decide +kernel
theorem d_E_addNumber_24 : decode b_E_addNumber 24 = .ok (.iconst 1, 1) := by decide +kernel
theorem d_E_addNumber_25 : decode b_E_addNumber 25 = .ok (.iadd, 1) := by decide +kernel
theorem d_E_addNumber_26 : decode b_E_addNumber 26 = .ok (.putfield 15, 3) := by decide +kernel
theorem d_E_addNumber_29 : decode b_E_addNumber 29 = .ok (.return_, 1) := by decide +kernel
theorem d_S_isRule_0 : decode b_S_isRule 0 = .ok (.iload_n 0, 1) := by decide +kernel
theorem d_S_isRule_1 : decode b_S_isRule 1 = .ok (.iconst 0, 1) := by decide +kernel
theorem d_S_isRule_2 : decode b_S_isRule 2 = .ok (.bipush 7, 2) := by decide +kernel
theorem d_S_isRule_4 : decode b_S_isRule 4 = .ok (.invokestatic 56, 3) := by decide +kernel
theorem d_S_isRule_7 : decode b_S_isRule 7 = .ok (.ireturn, 1) := by decide +kernel
theorem d_P_init_0 : decode b_P_init 0 = .ok (.aload_n 0, 1) := by decide +kernel
theorem d_P_init_1 : decode b_P_init 1 = .ok (.invokespecial 1, 3) := by decide +kernel
theorem d_P_init_4 : decode b_P_init 4 = .ok (.aload_n 0, 1) := by decide +kernel
theorem d_P_init_5 : decode b_P_init 5 = .ok (.aconst_null, 1) := by decide +kernel
theorem d_P_init_6 : decode b_P_init 6 = .ok (.putfield 7, 3) := by decide +kernel
theorem d_P_init_9 : decode b_P_init 9 = .ok (.aload_n 0, 1) := by decide +kernel
theorem d_P_init_10 : decode b_P_init 10 = .ok (.iload_n 1, 1) := by decide +kernel
theorem d_P_init_11 : decode b_P_init 11 = .ok (.putfield 13, 3) := by decide +kernel
theorem d_P_init_14 : decode b_P_init 14 = .ok (.aload_n 0, 1) := by decide +kernel
theorem d_P_init_15 : decode b_P_init 15 = .ok (.iload_n 2, 1) := by decide +kernel
theorem d_P_init_16 : decode b_P_init 16 = .ok (.putfield 17, 3) := by decide +kernel
theorem d_P_init_19 : decode b_P_init 19 = .ok (.aload_n 0, 1) := by decide +kernel
theorem d_P_init_20 : decode b_P_init 20 = .ok (.iload_n 3, 1) := by decide +kernel
theorem d_P_init_21 : decode b_P_init 21 = .ok (.putfield 21, 3) := by decide +kernel
theorem d_P_init_24 : decode b_P_init 24 = .ok (.aload_n 0, 1) := by decide +kernel
theorem d_P_init_25 : decode b_P_init 25 = .ok (.iload 4, 2) := by decide +kernel
theorem d_P_init_27 : decode b_P_init 27 = .ok (.putfield 24, 3) := by decide +kernel
theorem d_P_init_30 : decode b_P_init 30 = .ok (.return_, 1) := by decide +kernel
theorem d_E_addRule_0 : decode b_E_addRule 0 = .ok (.aload_n 0, 1) := by decide +kernel
theorem d_E_addRule_1 : decode b_E_addRule 1 = .ok (.getfield 18, 3) := by decide +kernel
theorem d_E_addRule_4 : decode b_E_addRule 4 = .ok (.bipush 8, 2) := by decide +kernel
theorem d_E_addRule_6 : decode b_E_addRule 6 = .ok (.if_icmp .ge 30, 3) := by decide +kernel
theorem d_E_addRule_9 : decode b_E_addRule 9 = .ok (.aload_n 0, 1) := by decide +kernel
theorem d_E_addRule_10 : decode b_E_addRule 10 = .ok (.getfield 25, 3) := by decide +kernel
theorem d_E_addRule_13 : decode b_E_addRule 13 = .ok (.aload_n 0, 1) := by decide +kernel
theorem d_E_addRule_14 : decode b_E_addRule 14 = .ok (.getfield 18, 3) := by decide +kernel
theorem d_E_addRule_17 : decode b_E_addRule 17 = .ok (.iload_n 1, 1) := by decide +kernel
theorem d_E_addRule_18 : decode b_E_addRule 18 = .ok (.iastore, 1) := by decide +kernel
theorem d_E_addRule_19 : decode b_E_addRule 19 = .ok (.aload_n 0, 1) := by decide +kernel
theorem d_E_addRule_20 : decode b_E_addRule 20 = .ok (.getfield 30, 3) := by decide +kernel
theorem d_E_addRule_23 : decode b_E_addRule 23 = .ok (.iload_n 1, 1) := by decide +kernel
theorem d_E_addRule_24 : decode b_E_addRule 24 = .ok (.aload_n 2, 1) := by decide +kernel
theorem d_E_addRule_25 : decode b_E_addRule 25 = .ok (.aastore, 1) := by decide +kernel
theorem d_E_addRule_26 : decode b_E_addRule 26 = .ok (.aload_n 0, 1) := by decide +kernel
theorem d_E_addRule_27 : decode b_E_addRule 27 = .ok (.dup, 1) := by decide +kernel
theorem d_E_addRule_28 : decode b_E_addRule 28 = .ok (.getfield 18, 3) := by decide +kernel
theorem d_E_addRule_31 : decode b_E_addRule 31 = .ok (.iconst 1, 1) := by decide +kernel
theorem d_E_addRule_32 : decode b_E_addRule 32 = .ok (.iadd, 1) := by decide +kernel
theorem d_E_addRule_33 : decode b_E_addRule 33 = .ok (.putfield 18, 3) := by decide +kernel
theorem d_E_addRule_36 : decode b_E_addRule 36 = .ok (.return_, 1) := by decide +kernel
theorem d_S_change_0 : decode b_S_change 0 = .ok (.iload_n 1, 1) := by decide +kernel
theorem d_S_change_1 : decode b_S_change 1 = .ok (.invokestatic 84, 3) := by decide +kernel
theorem d_S_change_4 : decode b_S_change 4 = .ok (.ifCond .eq 14, 3) := by decide +kernel
theorem d_S_change_7 : decode b_S_change 7 = .ok (.iload_n 2, 1) := by decide +kernel
theorem d_S_change_8 : decode b_S_change 8 = .ok (.invokestatic 88, 3) := by decide +kernel
theorem d_S_change_11 : decode b_S_change 11 = .ok (.ifCond .eq 7, 3) := by decide +kernel
theorem d_S_change_14 : decode b_S_change 14 = .ok (.iconst 1, 1) := by decide +kernel
theorem d_S_change_15 : decode b_S_change 15 = .ok (.goto 4, 3) := by decide +kernel
theorem d_S_change_18 : decode b_S_change 18 = .ok (.iconst 0, 1) := by decide +kernel
theorem d_S_change_19 : decode b_S_change 19 = .ok (.invokestatic 91, 3) := by decide +kernel
theorem d_S_change_22 : decode b_S_change 22 = .ok (.aload_n 0, 1) := by decide +kernel
theorem d_S_change_23 : decode b_S_change 23 = .ok (.getfield 25, 3) := by decide +kernel
theorem d_S_change_26 : decode b_S_change 26 = .ok (.getfield 94, 3) := by decide +kernel
theorem d_S_change_29 : decode b_S_change 29 = .ok (.bipush 20, 2) := by decide +kernel
theorem d_S_change_31 : decode b_S_change 31 = .ok (.if_icmp .ge 7, 3) := by decide +kernel
theorem d_S_change_34 : decode b_S_change 34 = .ok (.iconst 1, 1) := by decide +kernel
theorem d_S_change_35 : decode b_S_change 35 = .ok (.goto 4, 3) := by decide +kernel
theorem d_S_change_38 : decode b_S_change 38 = .ok (.iconst 0, 1) := by decide +kernel
theorem d_S_change_39 : decode b_S_change 39 = .ok (.invokestatic 74, 3) := by decide +kernel
theorem d_S_change_42 : decode b_S_change 42 = .ok (.iload_n 3, 1) := by decide +kernel
theorem d_S_change_43 : decode b_S_change 43 = .ok (.iconst 0, 1) := by decide +kernel
theorem d_S_change_44 : decode b_S_change 44 = .ok (.bipush 9, 2) := by decide +kernel
theorem d_S_change_46 : decode b_S_change 46 = .ok (.invokestatic 56, 3) := by decide +kernel
theorem d_S_change_49 : decode b_S_change 49 = .ok (.ifCond .eq 21, 3) := by decide +kernel
theorem d_S_change_52 : decode b_S_change 52 = .ok (.iload 4, 2) := by decide +kernel
theorem d_S_change_54 : decode b_S_change 54 = .ok (.sipush (-9999), 3) := by decide +kernel
theorem d_S_change_57 : decode b_S_change 57 = .ok (.sipush 9999, 3) := by decide +kernel
theorem d_S_change_60 : decode b_S_change 60 = .ok (.invokestatic 56, 3) := by decide +kernel
theorem d_S_change_63 : decode b_S_change 63 = .ok (.ifCond .eq 7, 3) := by decide +kernel
theorem d_S_change_66 : decode b_S_change 66 = .ok (.iconst 1, 1) := by decide +kernel
theorem d_S_change_67 : decode b_S_change 67 = .ok (.goto 4, 3) := by decide +kernel
theorem d_S_change_70 : decode b_S_change 70 = .ok (.iconst 0, 1) := by decide +kernel
theorem d_S_change_71 : decode b_S_change 71 = .ok (.invokestatic 60, 3) := by decide +kernel
theorem d_S_change_74 : decode b_S_change 74 = .ok (.aload_n 0, 1) := by decide +kernel
theorem d_S_change_75 : decode b_S_change 75 = .ok (.getfield 25, 3) := by decide +kernel
theorem d_S_change_78 : decode b_S_change 78 = .ok (.iload_n 1, 1) := by decide +kernel
theorem d_S_change_79 : decode b_S_change 79 = .ok (.iload_n 2, 1) := by decide +kernel
theorem d_S_change_80 : decode b_S_change 80 = .ok (.iload_n 3, 1) := by decide +kernel
theorem d_S_change_81 : decode b_S_change 81 = .ok (.iload 4, 2) := by decide +kernel
theorem d_S_change_83 : decode b_S_change 83 = .ok (.invokevirtual 97, 3) := by decide +kernel
theorem d_S_change_86 : decode b_S_change 86 = .ok (.ireturn, 1) := by decide +kernel
theorem d_S_isCustomer_0 : decode b_S_isCustomer 0 = .ok (.iload_n 0, 1) := by decide +kernel
theorem d_S_isCustomer_1 : decode b_S_isCustomer 1 = .ok (.iconst 0, 1) := by decide +kernel
theorem d_S_isCustomer_2 : decode b_S_isCustomer 2 = .ok (.bipush 9, 2) := by decide +kernel
theorem d_S_isCustomer_4 : decode b_S_isCustomer 4 = .ok (.invokestatic 56, 3) := by decide +kernel
theorem d_S_isCustomer_7 : decode b_S_isCustomer 7 = .ok (.ireturn, 1) := by decide +kernel
theorem d_S_needIndex_0 : decode b_S_needIndex 0 = .ok (.iload_n 0, 1) := by decide +kernel
theorem d_S_needIndex_1 : decode b_S_needIndex 1 = .ok (.ifCond .ne 13, 3) := by decide +kernel
theorem d_S_needIndex_4 : decode b_S_needIndex 4 = .ok (.new 156, 3) := by decide +kernel
theorem d_S_needIndex_7 : decode b_S_needIndex 7 = .ok (.dup, 1) := by decide +kernel
theorem d_S_needIndex_8 : decode b_S_needIndex 8 = .ok (.ldc 158, 2) := by decide +kernel
theorem d_S_needIndex_10 : decode b_S_needIndex 10 = .ok (.invokespecial 160, 3) := by decide +kernel
theorem d_S_needIndex_13 : decode b_S_needIndex 13 = .ok (.athrow, 1) := by decide +kernel
theorem d_S_needIndex_14 : decode b_S_needIndex 14 = .ok (.return_, 1) := by decide +kernel
theorem d_C_add_0 : decode b_C_add 0 = .ok (.aload_n 0, 1) := by decide +kernel
theorem d_C_add_1 : decode b_C_add 1 = .ok (.getfield 21, 3) := by decide +kernel
theorem d_C_add_4 : decode b_C_add 4 = .ok (.istore 5, 2) := by decide +kernel
theorem d_C_add_6 : decode b_C_add 6 = .ok (.aload_n 0, 1) := by decide +kernel
theorem d_C_add_7 : decode b_C_add 7 = .ok (.getfield 9, 3) := by decide +kernel
theorem d_C_add_10 : decode b_C_add 10 = .ok (.iload 5, 2) := by decide +kernel
theorem d_C_add_12 : decode b_C_add 12 = .ok (.iload_n 3, 1) := by decide +kernel
theorem d_C_add_13 : decode b_C_add 13 = .ok (.iastore, 1) := by decide +kernel
theorem d_C_add_14 : decode b_C_add 14 = .ok (.aload_n 0, 1) := by decide +kernel
theorem d_C_add_15 : decode b_C_add 15 = .ok (.getfield 15, 3) := by decide +kernel
theorem d_C_add_18 : decode b_C_add 18 = .ok (.iload 5, 2) := by decide +kernel
theorem d_C_add_20 : decode b_C_add 20 = .ok (.iload 4, 2) := by decide +kernel
theorem d_C_add_22 : decode b_C_add 22 = .ok (.iastore, 1) := by decide +kernel
theorem d_C_add_23 : decode b_C_add 23 = .ok (.aload_n 0, 1) := by decide +kernel
theorem d_C_add_24 : decode b_C_add 24 = .ok (.dup, 1) := by decide +kernel
theorem d_C_add_25 : decode b_C_add 25 = .ok (.getfield 21, 3) := by decide +kernel
theorem d_C_add_28 : decode b_C_add 28 = .ok (.iconst 1, 1) := by decide +kernel
theorem d_C_add_29 : decode b_C_add 29 = .ok (.iadd, 1) := by decide +kernel
theorem d_C_add_30 : decode b_C_add 30 = .ok (.putfield 21, 3) := by decide +kernel
theorem d_C_add_33 : decode b_C_add 33 = .ok (.aload_n 0, 1) := by decide +kernel
theorem d_C_add_34 : decode b_C_add 34 = .ok (.iload_n 1, 1) := by decide +kernel
theorem d_C_add_35 : decode b_C_add 35 = .ok (.iload_n 2, 1) := by decide +kernel
theorem d_C_add_36 : decode b_C_add 36 = .ok (.invokevirtual 31, 3) := by decide +kernel
theorem d_C_add_39 : decode b_C_add 39 = .ok (.istore 6, 2) := by decide +kernel
theorem d_C_add_41 : decode b_C_add 41 = .ok (.iload 6, 2) := by decide +kernel
theorem d_C_add_43 : decode b_C_add 43 = .ok (.iconst (-1), 1) := by decide +kernel
theorem d_C_add_44 : decode b_C_add 44 = .ok (.if_icmp .eq 14, 3) := by decide +kernel
theorem d_C_add_47 : decode b_C_add 47 = .ok (.iload_n 3, 1) := by decide +kernel
theorem d_C_add_48 : decode b_C_add 48 = .ok (.aload_n 0, 1) := by decide +kernel
theorem d_C_add_49 : decode b_C_add 49 = .ok (.getfield 9, 3) := by decide +kernel
theorem d_C_add_52 : decode b_C_add 52 = .ok (.iload 6, 2) := by decide +kernel
theorem d_C_add_54 : decode b_C_add 54 = .ok (.iaload, 1) := by decide +kernel
theorem d_C_add_55 : decode b_C_add 55 = .ok (.if_icmp .lt 16, 3) := by decide +kernel
theorem d_C_add_58 : decode b_C_add 58 = .ok (.aload_n 0, 1) := by decide +kernel
theorem d_C_add_59 : decode b_C_add 59 = .ok (.getfield 18, 3) := by decide +kernel
theorem d_C_add_62 : decode b_C_add 62 = .ok (.iload_n 1, 1) := by decide +kernel
theorem d_C_add_63 : decode b_C_add 63 = .ok (.bipush 8, 2) := by decide +kernel
theorem d_C_add_65 : decode b_C_add 65 = .ok (.imul, 1) := by decide +kernel
theorem d_C_add_66 : decode b_C_add 66 = .ok (.iload_n 2, 1) := by decide +kernel
theorem d_C_add_67 : decode b_C_add 67 = .ok (.iadd, 1) := by decide +kernel
theorem d_C_add_68 : decode b_C_add 68 = .ok (.iload 5, 2) := by decide +kernel
theorem d_C_add_70 : decode b_C_add 70 = .ok (.iastore, 1) := by decide +kernel
theorem d_C_add_71 : decode b_C_add 71 = .ok (.iload 5, 2) := by decide +kernel
theorem d_C_add_73 : decode b_C_add 73 = .ok (.ireturn, 1) := by decide +kernel
theorem d_C_counting_0 : decode b_C_counting 0 = .ok (.aload_n 0, 1) := by decide +kernel
theorem d_C_counting_1 : decode b_C_counting 1 = .ok (.getfield 18, 3) := by decide +kernel
theorem d_C_counting_4 : decode b_C_counting 4 = .ok (.iload_n 1, 1) := by decide +kernel
theorem d_C_counting_5 : decode b_C_counting 5 = .ok (.bipush 8, 2) := by decide +kernel
theorem d_C_counting_7 : decode b_C_counting 7 = .ok (.imul, 1) := by decide +kernel
theorem d_C_counting_8 : decode b_C_counting 8 = .ok (.iload_n 2, 1) := by decide +kernel
theorem d_C_counting_9 : decode b_C_counting 9 = .ok (.iadd, 1) := by decide +kernel
theorem d_C_counting_10 : decode b_C_counting 10 = .ok (.iaload, 1) := by decide +kernel
theorem d_C_counting_11 : decode b_C_counting 11 = .ok (.ireturn, 1) := by decide +kernel
theorem d_S_order_0 : decode b_S_order 0 = .ok (.iload_n 1, 1) := by decide +kernel
theorem d_S_order_1 : decode b_S_order 1 = .ok (.invokestatic 84, 3) := by decide +kernel
theorem d_S_order_4 : decode b_S_order 4 = .ok (.invokestatic 91, 3) := by decide +kernel
theorem d_S_order_7 : decode b_S_order 7 = .ok (.iload_n 2, 1) := by decide +kernel
theorem d_S_order_8 : decode b_S_order 8 = .ok (.iconst 0, 1) := by decide +kernel
theorem d_S_order_9 : decode b_S_order 9 = .ok (.sipush 9999, 3) := by decide +kernel
theorem d_S_order_12 : decode b_S_order 12 = .ok (.invokestatic 56, 3) := by decide +kernel
theorem d_S_order_15 : decode b_S_order 15 = .ok (.invokestatic 60, 3) := by decide +kernel
theorem d_S_order_18 : decode b_S_order 18 = .ok (.aload_n 0, 1) := by decide +kernel
theorem d_S_order_19 : decode b_S_order 19 = .ok (.iload_n 1, 1) := by decide +kernel
theorem d_S_order_20 : decode b_S_order 20 = .ok (.putfield 43, 3) := by decide +kernel
theorem d_S_order_23 : decode b_S_order 23 = .ok (.aload_n 0, 1) := by decide +kernel
theorem d_S_order_24 : decode b_S_order 24 = .ok (.iload_n 2, 1) := by decide +kernel
theorem d_S_order_25 : decode b_S_order 25 = .ok (.putfield 46, 3) := by decide +kernel
theorem d_S_order_28 : decode b_S_order 28 = .ok (.return_, 1) := by decide +kernel
theorem d_S_value_0 : decode b_S_value 0 = .ok (.iload_n 1, 1) := by decide +kernel
theorem d_S_value_1 : decode b_S_value 1 = .ok (.invokestatic 88, 3) := by decide +kernel
theorem d_S_value_4 : decode b_S_value 4 = .ok (.invokestatic 91, 3) := by decide +kernel
theorem d_S_value_7 : decode b_S_value 7 = .ok (.aload_n 0, 1) := by decide +kernel
theorem d_S_value_8 : decode b_S_value 8 = .ok (.invokevirtual 101, 3) := by decide +kernel
theorem d_S_value_11 : decode b_S_value 11 = .ok (.istore 6, 2) := by decide +kernel
theorem d_S_value_13 : decode b_S_value 13 = .ok (.aload_n 0, 1) := by decide +kernel
theorem d_S_value_14 : decode b_S_value 14 = .ok (.getfield 25, 3) := by decide +kernel
theorem d_S_value_17 : decode b_S_value 17 = .ok (.aload_n 0, 1) := by decide +kernel
theorem d_S_value_18 : decode b_S_value 18 = .ok (.getfield 43, 3) := by decide +kernel
theorem d_S_value_21 : decode b_S_value 21 = .ok (.iload_n 1, 1) := by decide +kernel
theorem d_S_value_22 : decode b_S_value 22 = .ok (.invokevirtual 105, 3) := by decide +kernel
theorem d_S_value_25 : decode b_S_value 25 = .ok (.istore 7, 2) := by decide +kernel
theorem d_S_value_27 : decode b_S_value 27 = .ok (.iload 7, 2) := by decide +kernel
theorem d_S_value_29 : decode b_S_value 29 = .ok (.iconst (-1), 1) := by decide +kernel
theorem d_S_value_30 : decode b_S_value 30 = .ok (.if_icmp .ne 13, 3) := by decide +kernel
theorem d_S_value_33 : decode b_S_value 33 = .ok (.aload_n 0, 1) := by decide +kernel
theorem d_S_value_34 : decode b_S_value 34 = .ok (.iload 6, 2) := by decide +kernel
theorem d_S_value_36 : decode b_S_value 36 = .ok (.iload_n 1, 1) := by decide +kernel
theorem d_S_value_37 : decode b_S_value 37 = .ok (.invokevirtual 109, 3) := by decide +kernel
theorem d_S_value_40 : decode b_S_value 40 = .ok (.ifCond .eq 7, 3) := by decide +kernel
theorem d_S_value_43 : decode b_S_value 43 = .ok (.iconst 1, 1) := by decide +kernel
theorem d_S_value_44 : decode b_S_value 44 = .ok (.goto 4, 3) := by decide +kernel
theorem d_S_value_47 : decode b_S_value 47 = .ok (.iconst 0, 1) := by decide +kernel
theorem d_S_value_48 : decode b_S_value 48 = .ok (.invokestatic 74, 3) := by decide +kernel
theorem d_S_value_51 : decode b_S_value 51 = .ok (.iload_n 2, 1) := by decide +kernel
theorem d_S_value_52 : decode b_S_value 52 = .ok (.invokestatic 113, 3) := by decide +kernel
theorem d_S_value_55 : decode b_S_value 55 = .ok (.ifCond .eq 30, 3) := by decide +kernel
theorem d_S_value_58 : decode b_S_value 58 = .ok (.iload_n 3, 1) := by decide +kernel
theorem d_S_value_59 : decode b_S_value 59 = .ok (.invokestatic 113, 3) := by decide +kernel
theorem d_S_value_62 : decode b_S_value 62 = .ok (.ifCond .eq 23, 3) := by decide +kernel
theorem d_S_value_65 : decode b_S_value 65 = .ok (.iload 4, 2) := by decide +kernel
theorem d_S_value_67 : decode b_S_value 67 = .ok (.invokestatic 113, 3) := by decide +kernel
theorem d_S_value_70 : decode b_S_value 70 = .ok (.ifCond .eq 15, 3) := by decide +kernel
theorem d_S_value_73 : decode b_S_value 73 = .ok (.iload 5, 2) := by decide +kernel
theorem d_S_value_75 : decode b_S_value 75 = .ok (.invokestatic 113, 3) := by decide +kernel
theorem d_S_value_78 : decode b_S_value 78 = .ok (.ifCond .eq 7, 3) := by decide +kernel
theorem d_S_value_81 : decode b_S_value 81 = .ok (.iconst 1, 1) := by decide +kernel
theorem d_S_value_82 : decode b_S_value 82 = .ok (.goto 4, 3) := by decide +kernel
theorem d_S_value_85 : decode b_S_value 85 = .ok (.iconst 0, 1) := by decide +kernel
theorem d_S_value_86 : decode b_S_value 86 = .ok (.invokestatic 60, 3) := by decide +kernel
theorem d_S_value_89 : decode b_S_value 89 = .ok (.iload 7, 2) := by decide +kernel
theorem d_S_value_91 : decode b_S_value 91 = .ok (.iconst (-1), 1) := by decide +kernel
theorem d_S_value_92 : decode b_S_value 92 = .ok (.if_icmp .eq 14, 3) := by decide +kernel
theorem d_S_value_95 : decode b_S_value 95 = .ok (.aload_n 0, 1) := by decide +kernel
theorem d_S_value_96 : decode b_S_value 96 = .ok (.getfield 25, 3) := by decide +kernel
theorem d_S_value_99 : decode b_S_value 99 = .ok (.getfield 116, 3) := by decide +kernel
theorem d_S_value_102 : decode b_S_value 102 = .ok (.iload 7, 2) := by decide +kernel
theorem d_S_value_104 : decode b_S_value 104 = .ok (.iaload, 1) := by decide +kernel
theorem d_S_value_105 : decode b_S_value 105 = .ok (.ireturn, 1) := by decide +kernel
theorem d_S_value_106 : decode b_S_value 106 = .ok (.aload_n 0, 1) := by decide +kernel
theorem d_S_value_107 : decode b_S_value 107 = .ok (.getfield 32, 3) := by decide +kernel
theorem d_S_value_110 : decode b_S_value 110 = .ok (.iload_n 2, 1) := by decide +kernel
theorem d_S_value_111 : decode b_S_value 111 = .ok (.iload_n 3, 1) := by decide +kernel
theorem d_S_value_112 : decode b_S_value 112 = .ok (.iload 4, 2) := by decide +kernel
theorem d_S_value_114 : decode b_S_value 114 = .ok (.iload 5, 2) := by decide +kernel
theorem d_S_value_116 : decode b_S_value 116 = .ok (.invokevirtual 120, 3) := by decide +kernel
theorem d_S_value_119 : decode b_S_value 119 = .ok (.aload_n 0, 1) := by decide +kernel
theorem d_S_value_120 : decode b_S_value 120 = .ok (.getfield 32, 3) := by decide +kernel
theorem d_S_value_123 : decode b_S_value 123 = .ok (.aload_n 0, 1) := by decide +kernel
theorem d_S_value_124 : decode b_S_value 124 = .ok (.getfield 18, 3) := by decide +kernel
theorem d_S_value_127 : decode b_S_value 127 = .ok (.iload 6, 2) := by decide +kernel
theorem d_S_value_129 : decode b_S_value 129 = .ok (.aaload, 1) := by decide +kernel
theorem d_S_value_130 : decode b_S_value 130 = .ok (.aload_n 0, 1) := by decide +kernel
theorem d_S_value_131 : decode b_S_value 131 = .ok (.getfield 25, 3) := by decide +kernel
theorem d_S_value_134 : decode b_S_value 134 = .ok (.aload_n 0, 1) := by decide +kernel
theorem d_S_value_135 : decode b_S_value 135 = .ok (.getfield 43, 3) := by decide +kernel
theorem d_S_value_138 : decode b_S_value 138 = .ok (.iload_n 1, 1) := by decide +kernel
theorem d_S_value_139 : decode b_S_value 139 = .ok (.invokevirtual 124, 3) := by decide +kernel
theorem d_S_value_142 : decode b_S_value 142 = .ok (.istore 8, 2) := by decide +kernel
theorem d_S_value_144 : decode b_S_value 144 = .ok (.iload 8, 2) := by decide +kernel
theorem d_S_value_146 : decode b_S_value 146 = .ok (.ifCond .eq 29, 3) := by decide +kernel
theorem d_S_value_149 : decode b_S_value 149 = .ok (.aload_n 0, 1) := by decide +kernel
theorem d_S_value_150 : decode b_S_value 150 = .ok (.aload_n 0, 1) := by decide +kernel
theorem d_S_value_151 : decode b_S_value 151 = .ok (.getfield 32, 3) := by decide +kernel
theorem d_S_value_154 : decode b_S_value 154 = .ok (.getfield 128, 3) := by decide +kernel
theorem d_S_value_157 : decode b_S_value 157 = .ok (.iload_n 1, 1) := by decide +kernel
theorem d_S_value_158 : decode b_S_value 158 = .ok (.iaload, 1) := by decide +kernel
theorem d_S_value_159 : decode b_S_value 159 = .ok (.putfield 49, 3) := by decide +kernel
theorem d_S_value_162 : decode b_S_value 162 = .ok (.aload_n 0, 1) := by decide +kernel
theorem d_S_value_163 : decode b_S_value 163 = .ok (.aload_n 0, 1) := by decide +kernel
theorem d_S_value_164 : decode b_S_value 164 = .ok (.getfield 32, 3) := by decide +kernel
theorem d_S_value_167 : decode b_S_value 167 = .ok (.getfield 131, 3) := by decide +kernel
theorem d_S_value_170 : decode b_S_value 170 = .ok (.iload_n 1, 1) := by decide +kernel
theorem d_S_value_171 : decode b_S_value 171 = .ok (.iaload, 1) := by decide +kernel
theorem d_S_value_172 : decode b_S_value 172 = .ok (.putfield 52, 3) := by decide +kernel
theorem d_S_value_175 : decode b_S_value 175 = .ok (.iload 8, 2) := by decide +kernel
theorem d_S_value_177 : decode b_S_value 177 = .ok (.ifCond .ne 7, 3) := by decide +kernel
theorem d_S_value_180 : decode b_S_value 180 = .ok (.iconst 1, 1) := by decide +kernel
theorem d_S_value_181 : decode b_S_value 181 = .ok (.goto 4, 3) := by decide +kernel
theorem d_S_value_184 : decode b_S_value 184 = .ok (.iconst 0, 1) := by decide +kernel
theorem d_S_value_185 : decode b_S_value 185 = .ok (.invokestatic 67, 3) := by decide +kernel
theorem d_S_value_188 : decode b_S_value 188 = .ok (.aload_n 0, 1) := by decide +kernel
theorem d_S_value_189 : decode b_S_value 189 = .ok (.getfield 32, 3) := by decide +kernel
theorem d_S_value_192 : decode b_S_value 192 = .ok (.getfield 134, 3) := by decide +kernel
theorem d_S_value_195 : decode b_S_value 195 = .ok (.iload_n 1, 1) := by decide +kernel
theorem d_S_value_196 : decode b_S_value 196 = .ok (.iaload, 1) := by decide +kernel
theorem d_S_value_197 : decode b_S_value 197 = .ok (.ireturn, 1) := by decide +kernel
theorem d_S_countingEdition_0 : decode b_S_countingEdition 0 = .ok (.iconst (-1), 1) := by decide +kernel
theorem d_S_countingEdition_1 : decode b_S_countingEdition 1 = .ok (.istore_n 1, 1) := by decide +kernel
theorem d_S_countingEdition_2 : decode b_S_countingEdition 2 = .ok (.iconst 0, 1) := by decide +kernel
theorem d_S_countingEdition_3 : decode b_S_countingEdition 3 = .ok (.istore_n 2, 1) := by decide +kernel
theorem d_S_countingEdition_4 : decode b_S_countingEdition 4 = .ok (.iload_n 2, 1) := by decide +kernel
theorem d_S_countingEdition_5 : decode b_S_countingEdition 5 = .ok (.aload_n 0, 1) := by decide +kernel
theorem d_S_countingEdition_6 : decode b_S_countingEdition 6 = .ok (.getfield 36, 3) := by decide +kernel
theorem d_S_countingEdition_9 : decode b_S_countingEdition 9 = .ok (.if_icmp .ge 47, 3) := by decide +kernel
theorem d_S_countingEdition_12 : decode b_S_countingEdition 12 = .ok (.aload_n 0, 1) := by decide +kernel
theorem d_S_countingEdition_13 : decode b_S_countingEdition 13 = .ok (.getfield 18, 3) := by decide +kernel
theorem d_S_countingEdition_16 : decode b_S_countingEdition 16 = .ok (.iload_n 2, 1) := by decide +kernel
theorem d_S_countingEdition_17 : decode b_S_countingEdition 17 = .ok (.aaload, 1) := by decide +kernel
theorem d_S_countingEdition_18 : decode b_S_countingEdition 18 = .ok (.getfield 81, 3) := by decide +kernel
theorem d_S_countingEdition_21 : decode b_S_countingEdition 21 = .ok (.istore_n 3, 1) := by decide +kernel
theorem d_S_countingEdition_22 : decode b_S_countingEdition 22 = .ok (.iload_n 3, 1) := by decide +kernel
theorem d_S_countingEdition_23 : decode b_S_countingEdition 23 = .ok (.aload_n 0, 1) := by decide +kernel
theorem d_S_countingEdition_24 : decode b_S_countingEdition 24 = .ok (.getfield 46, 3) := by decide +kernel
theorem d_S_countingEdition_27 : decode b_S_countingEdition 27 = .ok (.if_icmp .gt 23, 3) := by decide +kernel
theorem d_S_countingEdition_30 : decode b_S_countingEdition 30 = .ok (.iload_n 1, 1) := by decide +kernel
theorem d_S_countingEdition_31 : decode b_S_countingEdition 31 = .ok (.iconst (-1), 1) := by decide +kernel
theorem d_S_countingEdition_32 : decode b_S_countingEdition 32 = .ok (.if_icmp .eq 16, 3) := by decide +kernel
theorem d_S_countingEdition_35 : decode b_S_countingEdition 35 = .ok (.iload_n 3, 1) := by decide +kernel
theorem d_S_countingEdition_36 : decode b_S_countingEdition 36 = .ok (.aload_n 0, 1) := by decide +kernel
theorem d_S_countingEdition_37 : decode b_S_countingEdition 37 = .ok (.getfield 18, 3) := by decide +kernel
theorem d_S_countingEdition_40 : decode b_S_countingEdition 40 = .ok (.iload_n 1, 1) := by decide +kernel
theorem d_S_countingEdition_41 : decode b_S_countingEdition 41 = .ok (.aaload, 1) := by decide +kernel
theorem d_S_countingEdition_42 : decode b_S_countingEdition 42 = .ok (.getfield 81, 3) := by decide +kernel
theorem d_S_countingEdition_45 : decode b_S_countingEdition 45 = .ok (.if_icmp .lt 5, 3) := by decide +kernel
theorem d_S_countingEdition_48 : decode b_S_countingEdition 48 = .ok (.iload_n 2, 1) := by decide +kernel
theorem d_S_countingEdition_49 : decode b_S_countingEdition 49 = .ok (.istore_n 1, 1) := by decide +kernel
theorem d_S_countingEdition_50 : decode b_S_countingEdition 50 = .ok (.iinc 2 1, 3) := by decide +kernel
theorem d_S_countingEdition_53 : decode b_S_countingEdition 53 = .ok (.goto (-49), 3) := by decide +kernel
theorem d_S_countingEdition_56 : decode b_S_countingEdition 56 = .ok (.iload_n 1, 1) := by decide +kernel
theorem d_S_countingEdition_57 : decode b_S_countingEdition 57 = .ok (.ireturn, 1) := by decide +kernel
theorem d_S_hasRule_0 : decode b_S_hasRule 0 = .ok (.iload_n 1, 1) := by decide +kernel
theorem d_S_hasRule_1 : decode b_S_hasRule 1 = .ok (.iconst (-1), 1) := by decide +kernel
theorem d_S_hasRule_2 : decode b_S_hasRule 2 = .ok (.if_icmp .eq 21, 3) := by decide +kernel
theorem d_S_hasRule_5 : decode b_S_hasRule 5 = .ok (.aload_n 0, 1) := by decide +kernel
theorem d_S_hasRule_6 : decode b_S_hasRule 6 = .ok (.getfield 18, 3) := by decide +kernel
theorem d_S_hasRule_9 : decode b_S_hasRule 9 = .ok (.iload_n 1, 1) := by decide +kernel
theorem d_S_hasRule_10 : decode b_S_hasRule 10 = .ok (.aaload, 1) := by decide +kernel
theorem d_S_hasRule_11 : decode b_S_hasRule 11 = .ok (.getfield 152, 3) := by decide +kernel
theorem d_S_hasRule_14 : decode b_S_hasRule 14 = .ok (.iload_n 2, 1) := by decide +kernel
theorem d_S_hasRule_15 : decode b_S_hasRule 15 = .ok (.aaload, 1) := by decide +kernel
theorem d_S_hasRule_16 : decode b_S_hasRule 16 = .ok (.ifnull 7, 3) := by decide +kernel
theorem d_S_hasRule_19 : decode b_S_hasRule 19 = .ok (.iconst 1, 1) := by decide +kernel
theorem d_S_hasRule_20 : decode b_S_hasRule 20 = .ok (.goto 4, 3) := by decide +kernel
theorem d_S_hasRule_23 : decode b_S_hasRule 23 = .ok (.iconst 0, 1) := by decide +kernel
theorem d_S_hasRule_24 : decode b_S_hasRule 24 = .ok (.ireturn, 1) := by decide +kernel
theorem d_S_isSize_0 : decode b_S_isSize 0 = .ok (.iload_n 0, 1) := by decide +kernel
theorem d_S_isSize_1 : decode b_S_isSize 1 = .ok (.iconst 0, 1) := by decide +kernel
theorem d_S_isSize_2 : decode b_S_isSize 2 = .ok (.sipush 9999, 3) := by decide +kernel
theorem d_S_isSize_5 : decode b_S_isSize 5 = .ok (.invokestatic 56, 3) := by decide +kernel
theorem d_S_isSize_8 : decode b_S_isSize 8 = .ok (.ireturn, 1) := by decide +kernel
theorem d_K_setSizes_0 : decode b_K_setSizes 0 = .ok (.aload_n 0, 1) := by decide +kernel
theorem d_K_setSizes_1 : decode b_K_setSizes 1 = .ok (.getfield 9, 3) := by decide +kernel
theorem d_K_setSizes_4 : decode b_K_setSizes 4 = .ok (.iconst 0, 1) := by decide +kernel
theorem d_K_setSizes_5 : decode b_K_setSizes 5 = .ok (.iload_n 1, 1) := by decide +kernel
theorem d_K_setSizes_6 : decode b_K_setSizes 6 = .ok (.iastore, 1) := by decide +kernel
theorem d_K_setSizes_7 : decode b_K_setSizes 7 = .ok (.aload_n 0, 1) := by decide +kernel
theorem d_K_setSizes_8 : decode b_K_setSizes 8 = .ok (.getfield 9, 3) := by decide +kernel
theorem d_K_setSizes_11 : decode b_K_setSizes 11 = .ok (.iconst 1, 1) := by decide +kernel
theorem d_K_setSizes_12 : decode b_K_setSizes 12 = .ok (.iload_n 2, 1) := by decide +kernel
theorem d_K_setSizes_13 : decode b_K_setSizes 13 = .ok (.iastore, 1) := by decide +kernel
theorem d_K_setSizes_14 : decode b_K_setSizes 14 = .ok (.aload_n 0, 1) := by decide +kernel
theorem d_K_setSizes_15 : decode b_K_setSizes 15 = .ok (.getfield 9, 3) := by decide +kernel
theorem d_K_setSizes_18 : decode b_K_setSizes 18 = .ok (.iconst 2, 1) := by decide +kernel
theorem d_K_setSizes_19 : decode b_K_setSizes 19 = .ok (.iload_n 3, 1) := by decide +kernel
theorem d_K_setSizes_20 : decode b_K_setSizes 20 = .ok (.iastore, 1) := by decide +kernel
theorem d_K_setSizes_21 : decode b_K_setSizes 21 = .ok (.aload_n 0, 1) := by decide +kernel
theorem d_K_setSizes_22 : decode b_K_setSizes 22 = .ok (.getfield 9, 3) := by decide +kernel
theorem d_K_setSizes_25 : decode b_K_setSizes 25 = .ok (.iconst 3, 1) := by decide +kernel
theorem d_K_setSizes_26 : decode b_K_setSizes 26 = .ok (.iload 4, 2) := by decide +kernel
theorem d_K_setSizes_28 : decode b_K_setSizes 28 = .ok (.iastore, 1) := by decide +kernel
theorem d_K_setSizes_29 : decode b_K_setSizes 29 = .ok (.return_, 1) := by decide +kernel
theorem d_K_findsOpen_0 : decode b_K_findsOpen 0 = .ok (.iconst 0, 1) := by decide +kernel
theorem d_K_findsOpen_1 : decode b_K_findsOpen 1 = .ok (.istore 5, 2) := by decide +kernel
theorem d_K_findsOpen_3 : decode b_K_findsOpen 3 = .ok (.iload 5, 2) := by decide +kernel
theorem d_K_findsOpen_5 : decode b_K_findsOpen 5 = .ok (.aload_n 1, 1) := by decide +kernel
theorem d_K_findsOpen_6 : decode b_K_findsOpen 6 = .ok (.getfield 24, 3) := by decide +kernel
theorem d_K_findsOpen_9 : decode b_K_findsOpen 9 = .ok (.if_icmp .ge 75, 3) := by decide +kernel
theorem d_K_findsOpen_12 : decode b_K_findsOpen 12 = .ok (.aload_n 1, 1) := by decide +kernel
theorem d_K_findsOpen_13 : decode b_K_findsOpen 13 = .ok (.getfield 30, 3) := by decide +kernel
theorem d_K_findsOpen_16 : decode b_K_findsOpen 16 = .ok (.iload 5, 2) := by decide +kernel
theorem d_K_findsOpen_18 : decode b_K_findsOpen 18 = .ok (.iaload, 1) := by decide +kernel
theorem d_K_findsOpen_19 : decode b_K_findsOpen 19 = .ok (.istore 6, 2) := by decide +kernel
theorem d_K_findsOpen_21 : decode b_K_findsOpen 21 = .ok (.aload_n 2, 1) := by decide +kernel
theorem d_K_findsOpen_22 : decode b_K_findsOpen 22 = .ok (.iload_n 3, 1) := by decide +kernel
theorem d_K_findsOpen_23 : decode b_K_findsOpen 23 = .ok (.iload 6, 2) := by decide +kernel
theorem d_K_findsOpen_25 : decode b_K_findsOpen 25 = .ok (.invokevirtual 33, 3) := by decide +kernel
theorem d_K_findsOpen_28 : decode b_K_findsOpen 28 = .ok (.istore 7, 2) := by decide +kernel
theorem d_K_findsOpen_30 : decode b_K_findsOpen 30 = .ok (.aload_n 0, 1) := by decide +kernel
theorem d_K_findsOpen_31 : decode b_K_findsOpen 31 = .ok (.getfield 18, 3) := by decide +kernel
theorem d_K_findsOpen_34 : decode b_K_findsOpen 34 = .ok (.iload 6, 2) := by decide +kernel
theorem d_K_findsOpen_36 : decode b_K_findsOpen 36 = .ok (.iconst (-1), 1) := by decide +kernel
theorem d_K_findsOpen_37 : decode b_K_findsOpen 37 = .ok (.iastore, 1) := by decide +kernel
theorem d_K_findsOpen_38 : decode b_K_findsOpen 38 = .ok (.aload_n 0, 1) := by decide +kernel
theorem d_K_findsOpen_39 : decode b_K_findsOpen 39 = .ok (.getfield 15, 3) := by decide +kernel
theorem d_K_findsOpen_42 : decode b_K_findsOpen 42 = .ok (.iload 6, 2) := by decide +kernel
theorem d_K_findsOpen_44 : decode b_K_findsOpen 44 = .ok (.iload 7, 2) := by decide +kernel
theorem d_K_findsOpen_46 : decode b_K_findsOpen 46 = .ok (.iconst (-1), 1) := by decide +kernel
theorem d_K_findsOpen_47 : decode b_K_findsOpen 47 = .ok (.if_icmp .eq 13, 3) := by decide +kernel
theorem d_K_findsOpen_50 : decode b_K_findsOpen 50 = .ok (.aload_n 2, 1) := by decide +kernel
theorem d_K_findsOpen_51 : decode b_K_findsOpen 51 = .ok (.getfield 39, 3) := by decide +kernel
theorem d_K_findsOpen_54 : decode b_K_findsOpen 54 = .ok (.iload 7, 2) := by decide +kernel
theorem d_K_findsOpen_56 : decode b_K_findsOpen 56 = .ok (.iaload, 1) := by decide +kernel
theorem d_K_findsOpen_57 : decode b_K_findsOpen 57 = .ok (.goto 10, 3) := by decide +kernel
theorem d_K_findsOpen_60 : decode b_K_findsOpen 60 = .ok (.aload_n 0, 1) := by decide +kernel
theorem d_K_findsOpen_61 : decode b_K_findsOpen 61 = .ok (.aload_n 1, 1) := by decide +kernel
theorem d_K_findsOpen_62 : decode b_K_findsOpen 62 = .ok (.iload 6, 2) := by decide +kernel
theorem d_K_findsOpen_64 : decode b_K_findsOpen 64 = .ok (.invokevirtual 42, 3) := by decide +kernel
theorem d_K_findsOpen_67 : decode b_K_findsOpen 67 = .ok (.iastore, 1) := by decide +kernel
theorem d_K_findsOpen_68 : decode b_K_findsOpen 68 = .ok (.iload 6, 2) := by decide +kernel
theorem d_K_findsOpen_70 : decode b_K_findsOpen 70 = .ok (.iload 4, 2) := by decide +kernel
theorem d_K_findsOpen_72 : decode b_K_findsOpen 72 = .ok (.if_icmp .ne 6, 3) := by decide +kernel
theorem d_K_findsOpen_75 : decode b_K_findsOpen 75 = .ok (.goto 9, 3) := by decide +kernel
theorem d_K_findsOpen_78 : decode b_K_findsOpen 78 = .ok (.iinc 5 1, 3) := by decide +kernel
theorem d_K_findsOpen_81 : decode b_K_findsOpen 81 = .ok (.goto (-78), 3) := by decide +kernel
theorem d_K_findsOpen_84 : decode b_K_findsOpen 84 = .ok (.aload_n 0, 1) := by decide +kernel
theorem d_K_findsOpen_85 : decode b_K_findsOpen 85 = .ok (.getfield 18, 3) := by decide +kernel
theorem d_K_findsOpen_88 : decode b_K_findsOpen 88 = .ok (.iload 4, 2) := by decide +kernel
theorem d_K_findsOpen_90 : decode b_K_findsOpen 90 = .ok (.iaload, 1) := by decide +kernel
theorem d_K_findsOpen_91 : decode b_K_findsOpen 91 = .ok (.iconst (-1), 1) := by decide +kernel
theorem d_K_findsOpen_92 : decode b_K_findsOpen 92 = .ok (.if_icmp .eq 7, 3) := by decide +kernel
theorem d_K_findsOpen_95 : decode b_K_findsOpen 95 = .ok (.iconst 1, 1) := by decide +kernel
theorem d_K_findsOpen_96 : decode b_K_findsOpen 96 = .ok (.goto 4, 3) := by decide +kernel
theorem d_K_findsOpen_99 : decode b_K_findsOpen 99 = .ok (.iconst 0, 1) := by decide +kernel
theorem d_K_findsOpen_100 : decode b_K_findsOpen 100 = .ok (.ireturn, 1) := by decide +kernel
theorem d_K_sumOf_0 : decode b_K_sumOf 0 = .ok (.iconst 0, 1) := by decide +kernel
theorem d_K_sumOf_1 : decode b_K_sumOf 1 = .ok (.istore_n 3, 1) := by decide +kernel
theorem d_K_sumOf_2 : decode b_K_sumOf 2 = .ok (.bipush 43, 2) := by decide +kernel
theorem d_K_sumOf_4 : decode b_K_sumOf 4 = .ok (.istore 4, 2) := by decide +kernel
theorem d_K_sumOf_6 : decode b_K_sumOf 6 = .ok (.iconst 0, 1) := by decide +kernel
theorem d_K_sumOf_7 : decode b_K_sumOf 7 = .ok (.istore 5, 2) := by decide +kernel
theorem d_K_sumOf_9 : decode b_K_sumOf 9 = .ok (.aload_n 1, 1) := by decide +kernel
theorem d_K_sumOf_10 : decode b_K_sumOf 10 = .ok (.getfield 46, 3) := by decide +kernel
theorem d_K_sumOf_13 : decode b_K_sumOf 13 = .ok (.iload_n 2, 1) := by decide +kernel
theorem d_K_sumOf_14 : decode b_K_sumOf 14 = .ok (.aaload, 1) := by decide +kernel
theorem d_K_sumOf_15 : decode b_K_sumOf 15 = .ok (.astore 6, 2) := by decide +kernel
theorem d_K_sumOf_17 : decode b_K_sumOf 17 = .ok (.aload 6, 2) := by decide +kernel
theorem d_K_sumOf_19 : decode b_K_sumOf 19 = .ok (.ifnull 127, 3) := by decide +kernel
theorem d_K_sumOf_22 : decode b_K_sumOf 22 = .ok (.aload_n 0, 1) := by decide +kernel
theorem d_K_sumOf_23 : decode b_K_sumOf 23 = .ok (.aload_n 1, 1) := by decide +kernel
theorem d_K_sumOf_24 : decode b_K_sumOf 24 = .ok (.iload_n 2, 1) := by decide +kernel
theorem d_K_sumOf_25 : decode b_K_sumOf 25 = .ok (.aload 6, 2) := by decide +kernel
theorem d_K_sumOf_27 : decode b_K_sumOf 27 = .ok (.invokevirtual 50, 3) := by decide +kernel
theorem d_K_sumOf_30 : decode b_K_sumOf 30 = .ok (.istore 7, 2) := by decide +kernel
theorem d_K_sumOf_32 : decode b_K_sumOf 32 = .ok (.aload 6, 2) := by decide +kernel
theorem d_K_sumOf_34 : decode b_K_sumOf 34 = .ok (.getfield 54, 3) := by decide +kernel
theorem d_K_sumOf_37 : decode b_K_sumOf 37 = .ok (.bipush 47, 2) := by decide +kernel
theorem d_K_sumOf_39 : decode b_K_sumOf 39 = .ok (.if_icmp .ne 25, 3) := by decide +kernel
theorem d_K_sumOf_42 : decode b_K_sumOf 42 = .ok (.iload 7, 2) := by decide +kernel
theorem d_K_sumOf_44 : decode b_K_sumOf 44 = .ok (.ifCond .ne 20, 3) := by decide +kernel
theorem d_K_sumOf_47 : decode b_K_sumOf 47 = .ok (.aload_n 0, 1) := by decide +kernel
theorem d_K_sumOf_48 : decode b_K_sumOf 48 = .ok (.getfield 18, 3) := by decide +kernel
theorem d_K_sumOf_51 : decode b_K_sumOf 51 = .ok (.iload_n 2, 1) := by decide +kernel
