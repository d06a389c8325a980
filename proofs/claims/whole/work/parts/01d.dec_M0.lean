theorem d_M_init_0 : decode b_M_init 0 = .ok (.aload_n 0, 1) := by decide +kernel
theorem d_M_init_1 : decode b_M_init 1 = .ok (.invokespecial 1, 3) := by decide +kernel
theorem d_M_init_4 : decode b_M_init 4 = .ok (.aload_n 0, 1) := by decide +kernel
theorem d_M_init_5 : decode b_M_init 5 = .ok (.sipush 200, 3) := by decide +kernel
theorem d_M_init_8 : decode b_M_init 8 = .ok (.newarray .int, 2) := by decide +kernel
theorem d_M_init_10 : decode b_M_init 10 = .ok (.putfield 7, 3) := by decide +kernel
theorem d_M_init_13 : decode b_M_init 13 = .ok (.aload_n 0, 1) := by decide +kernel
theorem d_M_init_14 : decode b_M_init 14 = .ok (.iconst (-1), 1) := by decide +kernel
theorem d_M_init_15 : decode b_M_init 15 = .ok (.putfield 13, 3) := by decide +kernel
theorem d_M_init_18 : decode b_M_init 18 = .ok (.aload_n 0, 1) := by decide +kernel
theorem d_M_init_19 : decode b_M_init 19 = .ok (.bipush 6, 2) := by decide +kernel
theorem d_M_init_21 : decode b_M_init 21 = .ok (.newarray .int, 2) := by decide +kernel
theorem d_M_init_23 : decode b_M_init 23 = .ok (.putfield 17, 3) := by decide +kernel
theorem d_M_init_26 : decode b_M_init 26 = .ok (.aload_n 0, 1) := by decide +kernel
theorem d_M_init_27 : decode b_M_init 27 = .ok (.bipush 7, 2) := by decide +kernel
theorem d_M_init_29 : decode b_M_init 29 = .ok (.newarray .int, 2) := by decide +kernel
theorem d_M_init_31 : decode b_M_init 31 = .ok (.putfield 20, 3) := by decide +kernel
theorem d_M_init_34 : decode b_M_init 34 = .ok (.aload_n 0, 1) := by decide +kernel
theorem d_M_init_35 : decode b_M_init 35 = .ok (.bipush 56, 2) := by decide +kernel
theorem d_M_init_37 : decode b_M_init 37 = .ok (.newarray .int, 2) := by decide +kernel
theorem d_M_init_39 : decode b_M_init 39 = .ok (.putfield 23, 3) := by decide +kernel
theorem d_M_init_42 : decode b_M_init 42 = .ok (.aload_n 0, 1) := by decide +kernel
theorem d_M_init_43 : decode b_M_init 43 = .ok (.bipush 7, 2) := by decide +kernel
theorem d_M_init_45 : decode b_M_init 45 = .ok (.newarray .int, 2) := by decide +kernel
theorem d_M_init_47 : decode b_M_init 47 = .ok (.putfield 26, 3) := by decide +kernel
theorem d_M_init_50 : decode b_M_init 50 = .ok (.aload_n 0, 1) := by decide +kernel
theorem d_M_init_51 : decode b_M_init 51 = .ok (.bipush 56, 2) := by decide +kernel
theorem d_M_init_53 : decode b_M_init 53 = .ok (.newarray .int, 2) := by decide +kernel
theorem d_M_init_55 : decode b_M_init 55 = .ok (.putfield 29, 3) := by decide +kernel
theorem d_M_init_58 : decode b_M_init 58 = .ok (.aload_n 0, 1) := by decide +kernel
theorem d_M_init_59 : decode b_M_init 59 = .ok (.bipush 56, 2) := by decide +kernel
theorem d_M_init_61 : decode b_M_init 61 = .ok (.newarray .int, 2) := by decide +kernel
theorem d_M_init_63 : decode b_M_init 63 = .ok (.putfield 32, 3) := by decide +kernel
theorem d_M_init_66 : decode b_M_init 66 = .ok (.aload_n 0, 1) := by decide +kernel
theorem d_M_init_67 : decode b_M_init 67 = .ok (.bipush 7, 2) := by decide +kernel
theorem d_M_init_69 : decode b_M_init 69 = .ok (.newarray .int, 2) := by decide +kernel
theorem d_M_init_71 : decode b_M_init 71 = .ok (.putfield 35, 3) := by decide +kernel
theorem d_M_init_74 : decode b_M_init 74 = .ok (.aload_n 0, 1) := by decide +kernel
theorem d_M_init_75 : decode b_M_init 75 = .ok (.sipush 896, 3) := by decide +kernel
theorem d_M_init_78 : decode b_M_init 78 = .ok (.newarray .int, 2) := by decide +kernel
theorem d_M_init_80 : decode b_M_init 80 = .ok (.putfield 38, 3) := by decide +kernel
theorem d_M_init_83 : decode b_M_init 83 = .ok (.aload_n 0, 1) := by decide +kernel
theorem d_M_init_84 : decode b_M_init 84 = .ok (.sipush 896, 3) := by decide +kernel
theorem d_M_init_87 : decode b_M_init 87 = .ok (.newarray .int, 2) := by decide +kernel
theorem d_M_init_89 : decode b_M_init 89 = .ok (.putfield 41, 3) := by decide +kernel
theorem d_M_init_92 : decode b_M_init 92 = .ok (.aload_n 0, 1) := by decide +kernel
theorem d_M_init_93 : decode b_M_init 93 = .ok (.sipush 896, 3) := by decide +kernel
theorem d_M_init_96 : decode b_M_init 96 = .ok (.newarray .int, 2) := by decide +kernel
theorem d_M_init_98 : decode b_M_init 98 = .ok (.putfield 44, 3) := by decide +kernel
theorem d_M_init_101 : decode b_M_init 101 = .ok (.aload_n 0, 1) := by decide +kernel
theorem d_M_init_102 : decode b_M_init 102 = .ok (.bipush 20, 2) := by decide +kernel
theorem d_M_init_104 : decode b_M_init 104 = .ok (.newarray .int, 2) := by decide +kernel
theorem d_M_init_106 : decode b_M_init 106 = .ok (.putfield 47, 3) := by decide +kernel
theorem d_M_init_109 : decode b_M_init 109 = .ok (.aload_n 0, 1) := by decide +kernel
theorem d_M_init_110 : decode b_M_init 110 = .ok (.bipush 20, 2) := by decide +kernel
theorem d_M_init_112 : decode b_M_init 112 = .ok (.newarray .int, 2) := by decide +kernel
theorem d_M_init_114 : decode b_M_init 114 = .ok (.putfield 50, 3) := by decide +kernel
theorem d_M_init_117 : decode b_M_init 117 = .ok (.aload_n 0, 1) := by decide +kernel
theorem d_M_init_118 : decode b_M_init 118 = .ok (.bipush 20, 2) := by decide +kernel
theorem d_M_init_120 : decode b_M_init 120 = .ok (.newarray .int, 2) := by decide +kernel
theorem d_M_init_122 : decode b_M_init 122 = .ok (.putfield 53, 3) := by decide +kernel
theorem d_M_init_125 : decode b_M_init 125 = .ok (.aload_n 0, 1) := by decide +kernel
theorem d_M_init_126 : decode b_M_init 126 = .ok (.bipush 20, 2) := by decide +kernel
theorem d_M_init_128 : decode b_M_init 128 = .ok (.newarray .int, 2) := by decide +kernel
theorem d_M_init_130 : decode b_M_init 130 = .ok (.putfield 56, 3) := by decide +kernel
theorem d_M_init_133 : decode b_M_init 133 = .ok (.aload_n 0, 1) := by decide +kernel
theorem d_M_init_134 : decode b_M_init 134 = .ok (.bipush 8, 2) := by decide +kernel
theorem d_M_init_136 : decode b_M_init 136 = .ok (.newarray .int, 2) := by decide +kernel
theorem d_M_init_138 : decode b_M_init 138 = .ok (.putfield 59, 3) := by decide +kernel
theorem d_M_init_141 : decode b_M_init 141 = .ok (.aload_n 0, 1) := by decide +kernel
theorem d_M_init_142 : decode b_M_init 142 = .ok (.bipush 8, 2) := by decide +kernel
theorem d_M_init_144 : decode b_M_init 144 = .ok (.newarray .int, 2) := by decide +kernel
theorem d_M_init_146 : decode b_M_init 146 = .ok (.putfield 62, 3) := by decide +kernel
theorem d_M_init_149 : decode b_M_init 149 = .ok (.aload_n 0, 1) := by decide +kernel
theorem d_M_init_150 : decode b_M_init 150 = .ok (.bipush 8, 2) := by decide +kernel
theorem d_M_init_152 : decode b_M_init 152 = .ok (.newarray .int, 2) := by decide +kernel
theorem d_M_init_154 : decode b_M_init 154 = .ok (.putfield 65, 3) := by decide +kernel
theorem d_M_init_157 : decode b_M_init 157 = .ok (.aload_n 0, 1) := by decide +kernel
theorem d_M_init_158 : decode b_M_init 158 = .ok (.iconst 4, 1) := by decide +kernel
theorem d_M_init_159 : decode b_M_init 159 = .ok (.newarray .int, 2) := by decide +kernel
theorem d_M_init_161 : decode b_M_init 161 = .ok (.putfield 68, 3) := by decide +kernel
theorem d_M_init_164 : decode b_M_init 164 = .ok (.aload_n 0, 1) := by decide +kernel
theorem d_M_init_165 : decode b_M_init 165 = .ok (.iconst (-1), 1) := by decide +kernel
theorem d_M_init_166 : decode b_M_init 166 = .ok (.putfield 71, 3) := by decide +kernel
theorem d_M_init_169 : decode b_M_init 169 = .ok (.return_, 1) := by decide +kernel
theorem d_M_thrown_0 : decode b_M_thrown 0 = .ok (.aload_n 0, 1) := by decide +kernel
theorem d_M_thrown_1 : decode b_M_thrown 1 = .ok (.getfield 74, 3) := by decide +kernel
theorem d_M_thrown_4 : decode b_M_thrown 4 = .ok (.ireturn, 1) := by decide +kernel
theorem d_M_sign_0 : decode b_M_sign 0 = .ok (.iload_n 3, 1) := by decide +kernel
theorem d_M_sign_1 : decode b_M_sign 1 = .ok (.iconst 1, 1) := by decide +kernel
theorem d_M_sign_2 : decode b_M_sign 2 = .ok (.bipush 8, 2) := by decide +kernel
theorem d_M_sign_4 : decode b_M_sign 4 = .ok (.invokestatic 77, 3) := by decide +kernel
theorem d_M_sign_7 : decode b_M_sign 7 = .ok (.ifCond .ne 7, 3) := by decide +kernel
theorem d_M_sign_10 : decode b_M_sign 10 = .ok (.iconst 1, 1) := by decide +kernel
theorem d_M_sign_11 : decode b_M_sign 11 = .ok (.goto 4, 3) := by decide +kernel
theorem d_M_sign_14 : decode b_M_sign 14 = .ok (.iconst 0, 1) := by decide +kernel
theorem d_M_sign_15 : decode b_M_sign 15 = .ok (.istore 4, 2) := by decide +kernel
theorem d_M_sign_17 : decode b_M_sign 17 = .ok (.aload_n 0, 1) := by decide +kernel
theorem d_M_sign_18 : decode b_M_sign 18 = .ok (.iload 4, 2) := by decide +kernel
theorem d_M_sign_20 : decode b_M_sign 20 = .ok (.iload 4, 2) := by decide +kernel
theorem d_M_sign_22 : decode b_M_sign 22 = .ok (.ifCond .ne 19, 3) := by decide +kernel
theorem d_M_sign_25 : decode b_M_sign 25 = .ok (.aload_n 0, 1) := by decide +kernel
theorem d_M_sign_26 : decode b_M_sign 26 = .ok (.getfield 81, 3) := by decide +kernel
theorem d_M_sign_29 : decode b_M_sign 29 = .ok (.iload_n 3, 1) := by decide +kernel
theorem d_M_sign_30 : decode b_M_sign 30 = .ok (.iadd, 1) := by decide +kernel
theorem d_M_sign_31 : decode b_M_sign 31 = .ok (.sipush 200, 3) := by decide +kernel
theorem d_M_sign_34 : decode b_M_sign 34 = .ok (.if_icmp .le 7, 3) := by decide +kernel
theorem d_M_sign_37 : decode b_M_sign 37 = .ok (.iconst 1, 1) := by decide +kernel
theorem d_M_sign_38 : decode b_M_sign 38 = .ok (.goto 4, 3) := by decide +kernel
theorem d_M_sign_41 : decode b_M_sign 41 = .ok (.iconst 0, 1) := by decide +kernel
theorem d_M_sign_42 : decode b_M_sign 42 = .ok (.iconst 0, 1) := by decide +kernel
theorem d_M_sign_43 : decode b_M_sign 43 = .ok (.iconst 0, 1) := by decide +kernel
theorem d_M_sign_44 : decode b_M_sign 44 = .ok (.invokevirtual 84, 3) := by decide +kernel
theorem d_M_sign_47 : decode b_M_sign 47 = .ok (.ifCond .eq 5, 3) := by decide +kernel
theorem d_M_sign_50 : decode b_M_sign 50 = .ok (.iconst 0, 1) := by decide +kernel
theorem d_M_sign_51 : decode b_M_sign 51 = .ok (.ireturn, 1) := by decide +kernel
theorem d_M_sign_52 : decode b_M_sign 52 = .ok (.iload_n 3, 1) := by decide +kernel
theorem d_M_sign_53 : decode b_M_sign 53 = .ok (.iconst 1, 1) := by decide +kernel
theorem d_M_sign_54 : decode b_M_sign 54 = .ok (.isub, 1) := by decide +kernel
theorem d_M_sign_55 : decode b_M_sign 55 = .ok (.istore 5, 2) := by decide +kernel
theorem d_M_sign_57 : decode b_M_sign 57 = .ok (.iload 5, 2) := by decide +kernel
theorem d_M_sign_59 : decode b_M_sign 59 = .ok (.ifCond .lt 40, 3) := by decide +kernel
theorem d_M_sign_62 : decode b_M_sign 62 = .ok (.aload_n 0, 1) := by decide +kernel
theorem d_M_sign_63 : decode b_M_sign 63 = .ok (.getfield 7, 3) := by decide +kernel
theorem d_M_sign_66 : decode b_M_sign 66 = .ok (.aload_n 0, 1) := by decide +kernel
theorem d_M_sign_67 : decode b_M_sign 67 = .ok (.getfield 81, 3) := by decide +kernel
theorem d_M_sign_70 : decode b_M_sign 70 = .ok (.lload_n 1, 1) := by decide +kernel
theorem d_M_sign_71 : decode b_M_sign 71 = .ok (.bipush 8, 2) := by decide +kernel
theorem d_M_sign_73 : decode b_M_sign 73 = .ok (.iload 5, 2) := by decide +kernel
theorem d_M_sign_75 : decode b_M_sign 75 = .ok (.imul, 1) := by decide +kernel
theorem d_M_sign_76 : decode b_M_sign 76 = .ok (.lshr, 1) := by decide +kernel
theorem d_M_sign_77 : decode b_M_sign 77 = .ok (.l2i, 1) := by decide +kernel
theorem d_M_sign_78 : decode b_M_sign 78 = .ok (.sipush 255, 3) := by decide +kernel
theorem d_M_sign_81 : decode b_M_sign 81 = .ok (.iand, 1) := by decide +kernel
theorem d_M_sign_82 : decode b_M_sign 82 = .ok (.iastore, 1) := by decide +kernel
theorem d_M_sign_83 : decode b_M_sign 83 = .ok (.aload_n 0, 1) := by decide +kernel
theorem d_M_sign_84 : decode b_M_sign 84 = .ok (.dup, 1) := by decide +kernel
theorem d_M_sign_85 : decode b_M_sign 85 = .ok (.getfield 81, 3) := by decide +kernel
theorem d_M_sign_88 : decode b_M_sign 88 = .ok (.iconst 1, 1) := by decide +kernel
theorem d_M_sign_89 : decode b_M_sign 89 = .ok (.iadd, 1) := by decide +kernel
theorem d_M_sign_90 : decode b_M_sign 90 = .ok (.putfield 81, 3) := by decide +kernel
theorem d_M_sign_93 : decode b_M_sign 93 = .ok (.iinc 5 (-1), 3) := by decide +kernel
theorem d_M_sign_96 : decode b_M_sign 96 = .ok (.goto (-39), 3) := by decide +kernel
theorem d_M_sign_99 : decode b_M_sign 99 = .ok (.aload_n 0, 1) := by decide +kernel
theorem d_M_sign_100 : decode b_M_sign 100 = .ok (.getfield 81, 3) := by decide +kernel
theorem d_M_sign_103 : decode b_M_sign 103 = .ok (.ireturn, 1) := by decide +kernel
theorem d_M_in_0 : decode b_M_in 0 = .ok (.iload_n 0, 1) := by decide +kernel
theorem d_M_in_1 : decode b_M_in 1 = .ok (.iload_n 1, 1) := by decide +kernel
theorem d_M_in_2 : decode b_M_in 2 = .ok (.if_icmp .lt 12, 3) := by decide +kernel
theorem d_M_in_5 : decode b_M_in 5 = .ok (.iload_n 0, 1) := by decide +kernel
theorem d_M_in_6 : decode b_M_in 6 = .ok (.iload_n 2, 1) := by decide +kernel
theorem d_M_in_7 : decode b_M_in 7 = .ok (.if_icmp .gt 7, 3) := by decide +kernel
theorem d_M_in_10 : decode b_M_in 10 = .ok (.iconst 1, 1) := by decide +kernel
theorem d_M_in_11 : decode b_M_in 11 = .ok (.goto 4, 3) := by decide +kernel
theorem d_M_in_14 : decode b_M_in 14 = .ok (.iconst 0, 1) := by decide +kernel
theorem d_M_in_15 : decode b_M_in 15 = .ok (.ireturn, 1) := by decide +kernel
theorem d_M_throwing_0 : decode b_M_throwing 0 = .ok (.aload_n 0, 1) := by decide +kernel
theorem d_M_throwing_1 : decode b_M_throwing 1 = .ok (.iload_n 1, 1) := by decide +kernel
theorem d_M_throwing_2 : decode b_M_throwing 2 = .ok (.ifCond .eq 7, 3) := by decide +kernel
theorem d_M_throwing_5 : decode b_M_throwing 5 = .ok (.iconst 1, 1) := by decide +kernel
theorem d_M_throwing_6 : decode b_M_throwing 6 = .ok (.goto 29, 3) := by decide +kernel
theorem d_M_throwing_9 : decode b_M_throwing 9 = .ok (.iload_n 2, 1) := by decide +kernel
theorem d_M_throwing_10 : decode b_M_throwing 10 = .ok (.ifCond .eq 7, 3) := by decide +kernel
theorem d_M_throwing_13 : decode b_M_throwing 13 = .ok (.iconst 2, 1) := by decide +kernel
theorem d_M_throwing_14 : decode b_M_throwing 14 = .ok (.goto 21, 3) := by decide +kernel
theorem d_M_throwing_17 : decode b_M_throwing 17 = .ok (.iload_n 3, 1) := by decide +kernel
theorem d_M_throwing_18 : decode b_M_throwing 18 = .ok (.ifCond .eq 7, 3) := by decide +kernel
theorem d_M_throwing_21 : decode b_M_throwing 21 = .ok (.iconst 3, 1) := by decide +kernel
theorem d_M_throwing_22 : decode b_M_throwing 22 = .ok (.goto 13, 3) := by decide +kernel
theorem d_M_throwing_25 : decode b_M_throwing 25 = .ok (.iload 4, 2) := by decide +kernel
theorem d_M_throwing_27 : decode b_M_throwing 27 = .ok (.ifCond .eq 7, 3) := by decide +kernel
theorem d_M_throwing_30 : decode b_M_throwing 30 = .ok (.iconst 4, 1) := by decide +kernel
theorem d_M_throwing_31 : decode b_M_throwing 31 = .ok (.goto 4, 3) := by decide +kernel
theorem d_M_throwing_34 : decode b_M_throwing 34 = .ok (.iconst 0, 1) := by decide +kernel
theorem d_M_throwing_35 : decode b_M_throwing 35 = .ok (.putfield 74, 3) := by decide +kernel
theorem d_M_throwing_38 : decode b_M_throwing 38 = .ok (.aload_n 0, 1) := by decide +kernel
theorem d_M_throwing_39 : decode b_M_throwing 39 = .ok (.getfield 74, 3) := by decide +kernel
theorem d_M_throwing_42 : decode b_M_throwing 42 = .ok (.ifCond .le 7, 3) := by decide +kernel
theorem d_M_throwing_45 : decode b_M_throwing 45 = .ok (.iconst 1, 1) := by decide +kernel
theorem d_M_throwing_46 : decode b_M_throwing 46 = .ok (.goto 4, 3) := by decide +kernel
theorem d_M_throwing_49 : decode b_M_throwing 49 = .ok (.iconst 0, 1) := by decide +kernel
theorem d_M_throwing_50 : decode b_M_throwing 50 = .ok (.ireturn, 1) := by decide +kernel
theorem d_M_edition_0 : decode b_M_edition 0 = .ok (.aload_n 0, 1) := by decide +kernel
theorem d_M_edition_1 : decode b_M_edition 1 = .ok (.aload_n 0, 1) := by decide +kernel
theorem d_M_edition_2 : decode b_M_edition 2 = .ok (.getfield 136, 3) := by decide +kernel
theorem d_M_edition_5 : decode b_M_edition 5 = .ok (.bipush 6, 2) := by decide +kernel
theorem d_M_edition_7 : decode b_M_edition 7 = .ok (.if_icmp .ne 7, 3) := by decide +kernel
theorem d_M_edition_10 : decode b_M_edition 10 = .ok (.iconst 1, 1) := by decide +kernel
theorem d_M_edition_11 : decode b_M_edition 11 = .ok (.goto 4, 3) := by decide +kernel
theorem d_M_edition_14 : decode b_M_edition 14 = .ok (.iconst 0, 1) := by decide +kernel
theorem d_M_edition_15 : decode b_M_edition 15 = .ok (.iload_n 1, 1) := by decide +kernel
theorem d_M_edition_16 : decode b_M_edition 16 = .ok (.iconst 0, 1) := by decide +kernel
theorem d_M_edition_17 : decode b_M_edition 17 = .ok (.sipush 9999, 3) := by decide +kernel
theorem d_M_edition_20 : decode b_M_edition 20 = .ok (.invokestatic 77, 3) := by decide +kernel
theorem d_M_edition_23 : decode b_M_edition 23 = .ok (.ifCond .ne 7, 3) := by decide +kernel
theorem d_M_edition_26 : decode b_M_edition 26 = .ok (.iconst 1, 1) := by decide +kernel
theorem d_M_edition_27 : decode b_M_edition 27 = .ok (.goto 4, 3) := by decide +kernel
theorem d_M_edition_30 : decode b_M_edition 30 = .ok (.iconst 0, 1) := by decide +kernel
theorem d_M_edition_31 : decode b_M_edition 31 = .ok (.iconst 0, 1) := by decide +kernel
theorem d_M_edition_32 : decode b_M_edition 32 = .ok (.iconst 0, 1) := by decide +kernel
theorem d_M_edition_33 : decode b_M_edition 33 = .ok (.invokevirtual 84, 3) := by decide +kernel
theorem d_M_edition_36 : decode b_M_edition 36 = .ok (.ifCond .eq 5, 3) := by decide +kernel
theorem d_M_edition_39 : decode b_M_edition 39 = .ok (.iconst 0, 1) := by decide +kernel
theorem d_M_edition_40 : decode b_M_edition 40 = .ok (.ireturn, 1) := by decide +kernel
theorem d_M_edition_41 : decode b_M_edition 41 = .ok (.aload_n 0, 1) := by decide +kernel
theorem d_M_edition_42 : decode b_M_edition 42 = .ok (.aload_n 0, 1) := by decide +kernel
theorem d_M_edition_43 : decode b_M_edition 43 = .ok (.getfield 81, 3) := by decide +kernel
theorem d_M_edition_46 : decode b_M_edition 46 = .ok (.putfield 95, 3) := by decide +kernel
theorem d_M_edition_49 : decode b_M_edition 49 = .ok (.aload_n 0, 1) := by decide +kernel
theorem d_M_edition_50 : decode b_M_edition 50 = .ok (.iconst 0, 1) := by decide +kernel
theorem d_M_edition_51 : decode b_M_edition 51 = .ok (.putfield 81, 3) := by decide +kernel
theorem d_M_edition_54 : decode b_M_edition 54 = .ok (.aload_n 0, 1) := by decide +kernel
theorem d_M_edition_55 : decode b_M_edition 55 = .ok (.invokevirtual 139, 3) := by decide +kernel
theorem d_M_edition_58 : decode b_M_edition 58 = .ok (.aload_n 0, 1) := by decide +kernel
theorem d_M_edition_59 : decode b_M_edition 59 = .ok (.iconst 0, 1) := by decide +kernel
theorem d_M_edition_60 : decode b_M_edition 60 = .ok (.iconst 0, 1) := by decide +kernel
theorem d_M_edition_61 : decode b_M_edition 61 = .ok (.aload_n 0, 1) := by decide +kernel
theorem d_M_edition_62 : decode b_M_edition 62 = .ok (.getfield 88, 3) := by decide +kernel
theorem d_M_edition_65 : decode b_M_edition 65 = .ok (.iconst 0, 1) := by decide +kernel
theorem d_M_edition_66 : decode b_M_edition 66 = .ok (.invokevirtual 84, 3) := by decide +kernel
theorem d_M_edition_69 : decode b_M_edition 69 = .ok (.ifCond .eq 5, 3) := by decide +kernel
theorem d_M_edition_72 : decode b_M_edition 72 = .ok (.iconst 0, 1) := by decide +kernel
theorem d_M_edition_73 : decode b_M_edition 73 = .ok (.ireturn, 1) := by decide +kernel
theorem d_M_edition_74 : decode b_M_edition 74 = .ok (.aload_n 0, 1) := by decide +kernel
theorem d_M_edition_75 : decode b_M_edition 75 = .ok (.getfield 136, 3) := by decide +kernel
theorem d_M_edition_78 : decode b_M_edition 78 = .ok (.istore_n 2, 1) := by decide +kernel
theorem d_M_edition_79 : decode b_M_edition 79 = .ok (.aload_n 0, 1) := by decide +kernel
theorem d_M_edition_80 : decode b_M_edition 80 = .ok (.getfield 17, 3) := by decide +kernel
theorem d_M_edition_83 : decode b_M_edition 83 = .ok (.iload_n 2, 1) := by decide +kernel
theorem d_M_edition_84 : decode b_M_edition 84 = .ok (.iload_n 1, 1) := by decide +kernel
theorem d_M_edition_85 : decode b_M_edition 85 = .ok (.iastore, 1) := by decide +kernel
theorem d_M_edition_86 : decode b_M_edition 86 = .ok (.aload_n 0, 1) := by decide +kernel
theorem d_M_edition_87 : decode b_M_edition 87 = .ok (.getfield 20, 3) := by decide +kernel
theorem d_M_edition_90 : decode b_M_edition 90 = .ok (.iload_n 2, 1) := by decide +kernel
theorem d_M_edition_91 : decode b_M_edition 91 = .ok (.aload_n 0, 1) := by decide +kernel
theorem d_M_edition_92 : decode b_M_edition 92 = .ok (.getfield 20, 3) := by decide +kernel
theorem d_M_edition_95 : decode b_M_edition 95 = .ok (.bipush 6, 2) := by decide +kernel
theorem d_M_edition_97 : decode b_M_edition 97 = .ok (.iaload, 1) := by decide +kernel
theorem d_M_edition_98 : decode b_M_edition 98 = .ok (.iastore, 1) := by decide +kernel
theorem d_M_edition_99 : decode b_M_edition 99 = .ok (.aload_n 0, 1) := by decide +kernel
theorem d_M_edition_100 : decode b_M_edition 100 = .ok (.getfield 26, 3) := by decide +kernel
theorem d_M_edition_103 : decode b_M_edition 103 = .ok (.iload_n 2, 1) := by decide +kernel
theorem d_M_edition_104 : decode b_M_edition 104 = .ok (.aload_n 0, 1) := by decide +kernel
theorem d_M_edition_105 : decode b_M_edition 105 = .ok (.getfield 26, 3) := by decide +kernel
theorem d_M_edition_108 : decode b_M_edition 108 = .ok (.bipush 6, 2) := by decide +kernel
theorem d_M_edition_110 : decode b_M_edition 110 = .ok (.iaload, 1) := by decide +kernel
theorem d_M_edition_111 : decode b_M_edition 111 = .ok (.iastore, 1) := by decide +kernel
theorem d_M_edition_112 : decode b_M_edition 112 = .ok (.aload_n 0, 1) := by decide +kernel
theorem d_M_edition_113 : decode b_M_edition 113 = .ok (.getfield 35, 3) := by decide +kernel
theorem d_M_edition_116 : decode b_M_edition 116 = .ok (.iload_n 2, 1) := by decide +kernel
theorem d_M_edition_117 : decode b_M_edition 117 = .ok (.aload_n 0, 1) := by decide +kernel
theorem d_M_edition_118 : decode b_M_edition 118 = .ok (.getfield 35, 3) := by decide +kernel
theorem d_M_edition_121 : decode b_M_edition 121 = .ok (.bipush 6, 2) := by decide +kernel
theorem d_M_edition_123 : decode b_M_edition 123 = .ok (.iaload, 1) := by decide +kernel
theorem d_M_edition_124 : decode b_M_edition 124 = .ok (.iastore, 1) := by decide +kernel
theorem d_M_edition_125 : decode b_M_edition 125 = .ok (.iconst 0, 1) := by decide +kernel
theorem d_M_edition_126 : decode b_M_edition 126 = .ok (.istore_n 3, 1) := by decide +kernel
theorem d_M_edition_127 : decode b_M_edition 127 = .ok (.iload_n 3, 1) := by decide +kernel
theorem d_M_edition_128 : decode b_M_edition 128 = .ok (.bipush 8, 2) := by decide +kernel
theorem d_M_edition_130 : decode b_M_edition 130 = .ok (.if_icmp .ge 69, 3) := by decide +kernel
theorem d_M_edition_133 : decode b_M_edition 133 = .ok (.aload_n 0, 1) := by decide +kernel
theorem d_M_edition_134 : decode b_M_edition 134 = .ok (.getfield 23, 3) := by decide +kernel
theorem d_M_edition_137 : decode b_M_edition 137 = .ok (.bipush 8, 2) := by decide +kernel
theorem d_M_edition_139 : decode b_M_edition 139 = .ok (.iload_n 2, 1) := by decide +kernel
theorem d_M_edition_140 : decode b_M_edition 140 = .ok (.imul, 1) := by decide +kernel
theorem d_M_edition_141 : decode b_M_edition 141 = .ok (.iload_n 3, 1) := by decide +kernel
theorem d_M_edition_142 : decode b_M_edition 142 = .ok (.iadd, 1) := by decide +kernel
theorem d_M_edition_143 : decode b_M_edition 143 = .ok (.aload_n 0, 1) := by decide +kernel
theorem d_M_edition_144 : decode b_M_edition 144 = .ok (.getfield 23, 3) := by decide +kernel
theorem d_M_edition_147 : decode b_M_edition 147 = .ok (.bipush 48, 2) := by decide +kernel
theorem d_M_edition_149 : decode b_M_edition 149 = .ok (.iload_n 3, 1) := by decide +kernel
theorem d_M_edition_150 : decode b_M_edition 150 = .ok (.iadd, 1) := by decide +kernel
theorem d_M_edition_151 : decode b_M_edition 151 = .ok (.iaload, 1) := by decide +kernel
theorem d_M_edition_152 : decode b_M_edition 152 = .ok (.iastore, 1) := by decide +kernel
theorem d_M_edition_153 : decode b_M_edition 153 = .ok (.aload_n 0, 1) := by decide +kernel
theorem d_M_edition_154 : decode b_M_edition 154 = .ok (.getfield 29, 3) := by decide +kernel
theorem d_M_edition_157 : decode b_M_edition 157 = .ok (.bipush 8, 2) := by decide +kernel
theorem d_M_edition_159 : decode b_M_edition 159 = .ok (.iload_n 2, 1) := by decide +kernel
theorem d_M_edition_160 : decode b_M_edition 160 = .ok (.imul, 1) := by decide +kernel
theorem d_M_edition_161 : decode b_M_edition 161 = .ok (.iload_n 3, 1) := by decide +kernel
theorem d_M_edition_162 : decode b_M_edition 162 = .ok (.iadd, 1) := by decide +kernel
theorem d_M_edition_163 : decode b_M_edition 163 = .ok (.aload_n 0, 1) := by decide +kernel
theorem d_M_edition_164 : decode b_M_edition 164 = .ok (.getfield 29, 3) := by decide +kernel
theorem d_M_edition_167 : decode b_M_edition 167 = .ok (.bipush 48, 2) := by decide +kernel
theorem d_M_edition_169 : decode b_M_edition 169 = .ok (.iload_n 3, 1) := by decide +kernel
theorem d_M_edition_170 : decode b_M_edition 170 = .ok (.iadd, 1) := by decide +kernel
theorem d_M_edition_171 : decode b_M_edition 171 = .ok (.iaload, 1) := by decide +kernel
theorem d_M_edition_172 : decode b_M_edition 172 = .ok (.iastore, 1) := by decide +kernel
theorem d_M_edition_173 : decode b_M_edition 173 = .ok (.aload_n 0, 1) := by decide +kernel
theorem d_M_edition_174 : decode b_M_edition 174 = .ok (.getfield 32, 3) := by decide +kernel
theorem d_M_edition_177 : decode b_M_edition 177 = .ok (.bipush 8, 2) := by decide +kernel
theorem d_M_edition_179 : decode b_M_edition 179 = .ok (.iload_n 2, 1) := by decide +kernel
theorem d_M_edition_180 : decode b_M_edition 180 = .ok (.imul, 1) := by decide +kernel
theorem d_M_edition_181 : decode b_M_edition 181 = .ok (.iload_n 3, 1) := by decide +kernel
theorem d_M_edition_182 : decode b_M_edition 182 = .ok (.iadd, 1) := by decide +kernel
theorem d_M_edition_183 : decode b_M_edition 183 = .ok (.aload_n 0, 1) := by decide +kernel
theorem d_M_edition_184 : decode b_M_edition 184 = .ok (.getfield 32, 3) := by decide +kernel
theorem d_M_edition_187 : decode b_M_edition 187 = .ok (.bipush 48, 2) := by decide +kernel
theorem d_M_edition_189 : decode b_M_edition 189 = .ok (.iload_n 3, 1) := by decide +kernel
theorem d_M_edition_190 : decode b_M_edition 190 = .ok (.iadd, 1) := by decide +kernel
theorem d_M_edition_191 : decode b_M_edition 191 = .ok (.iaload, 1) := by decide +kernel
theorem d_M_edition_192 : decode b_M_edition 192 = .ok (.iastore, 1) := by decide +kernel
theorem d_M_edition_193 : decode b_M_edition 193 = .ok (.iinc 3 1, 3) := by decide +kernel
theorem d_M_edition_196 : decode b_M_edition 196 = .ok (.goto (-69), 3) := by decide +kernel
theorem d_M_edition_199 : decode b_M_edition 199 = .ok (.iconst 0, 1) := by decide +kernel
theorem d_M_edition_200 : decode b_M_edition 200 = .ok (.istore_n 3, 1) := by decide +kernel
theorem d_M_edition_201 : decode b_M_edition 201 = .ok (.iload_n 3, 1) := by decide +kernel
theorem d_M_edition_202 : decode b_M_edition 202 = .ok (.sipush 128, 3) := by decide +kernel
theorem d_M_edition_205 : decode b_M_edition 205 = .ok (.if_icmp .ge 75, 3) := by decide +kernel
theorem d_M_edition_208 : decode b_M_edition 208 = .ok (.aload_n 0, 1) := by decide +kernel
theorem d_M_edition_209 : decode b_M_edition 209 = .ok (.getfield 38, 3) := by decide +kernel
theorem d_M_edition_212 : decode b_M_edition 212 = .ok (.sipush 128, 3) := by decide +kernel
theorem d_M_edition_215 : decode b_M_edition 215 = .ok (.iload_n 2, 1) := by decide +kernel
theorem d_M_edition_216 : decode b_M_edition 216 = .ok (.imul, 1) := by decide +kernel
theorem d_M_edition_217 : decode b_M_edition 217 = .ok (.iload_n 3, 1) := by decide +kernel
theorem d_M_edition_218 : decode b_M_edition 218 = .ok (.iadd, 1) := by decide +kernel
theorem d_M_edition_219 : decode b_M_edition 219 = .ok (.aload_n 0, 1) := by decide +kernel
theorem d_M_edition_220 : decode b_M_edition 220 = .ok (.getfield 38, 3) := by decide +kernel
theorem d_M_edition_223 : decode b_M_edition 223 = .ok (.sipush 768, 3) := by decide +kernel
theorem d_M_edition_226 : decode b_M_edition 226 = .ok (.iload_n 3, 1) := by decide +kernel
theorem d_M_edition_227 : decode b_M_edition 227 = .ok (.iadd, 1) := by decide +kernel
theorem d_M_edition_228 : decode b_M_edition 228 = .ok (.iaload, 1) := by decide +kernel
theorem d_M_edition_229 : decode b_M_edition 229 = .ok (.iastore, 1) := by decide +kernel
theorem d_M_edition_230 : decode b_M_edition 230 = .ok (.aload_n 0, 1) := by decide +kernel
theorem d_M_edition_231 : decode b_M_edition 231 = .ok (.getfield 41, 3) := by decide +kernel
theorem d_M_edition_234 : decode b_M_edition 234 = .ok (.sipush 128, 3) := by decide +kernel
theorem d_M_edition_237 : decode b_M_edition 237 = .ok (.iload_n 2, 1) := by decide +kernel
theorem d_M_edition_238 : decode b_M_edition 238 = .ok (.imul, 1) := by decide +kernel
theorem d_M_edition_239 : decode b_M_edition 239 = .ok (.iload_n 3, 1) := by decide +kernel
theorem d_M_edition_240 : decode b_M_edition 240 = .ok (.iadd, 1) := by decide +kernel
theorem d_M_edition_241 : decode b_M_edition 241 = .ok (.aload_n 0, 1) := by decide +kernel
theorem d_M_edition_242 : decode b_M_edition 242 = .ok (.getfield 41, 3) := by decide +kernel
theorem d_M_edition_245 : decode b_M_edition 245 = .ok (.sipush 768, 3) := by decide +kernel
theorem d_M_edition_248 : decode b_M_edition 248 = .ok (.iload_n 3, 1) := by decide +kernel
theorem d_M_edition_249 : decode b_M_edition 249 = .ok (.iadd, 1) := by decide +kernel
theorem d_M_edition_250 : decode b_M_edition 250 = .ok (.iaload, 1) := by decide +kernel
theorem d_M_edition_251 : decode b_M_edition 251 = .ok (.iastore, 1) := by decide +kernel
theorem d_M_edition_252 : decode b_M_edition 252 = .ok (.aload_n 0, 1) := by decide +kernel
theorem d_M_edition_253 : decode b_M_edition 253 = .ok (.getfield 44, 3) := by decide +kernel
theorem d_M_edition_256 : decode b_M_edition 256 = .ok (.sipush 128, 3) := by decide +kernel
theorem d_M_edition_259 : decode b_M_edition 259 = .ok (.iload_n 2, 1) := by decide +kernel
theorem d_M_edition_260 : decode b_M_edition 260 = .ok (.imul, 1) := by decide +kernel
theorem d_M_edition_261 : decode b_M_edition 261 = .ok (.iload_n 3, 1) := by decide +kernel
theorem d_M_edition_262 : decode b_M_edition 262 = .ok (.iadd, 1) := by decide +kernel
theorem d_M_edition_263 : decode b_M_edition 263 = .ok (.aload_n 0, 1) := by decide +kernel
theorem d_M_edition_264 : decode b_M_edition 264 = .ok (.getfield 44, 3) := by decide +kernel
theorem d_M_edition_267 : decode b_M_edition 267 = .ok (.sipush 768, 3) := by decide +kernel
theorem d_M_edition_270 : decode b_M_edition 270 = .ok (.iload_n 3, 1) := by decide +kernel
theorem d_M_edition_271 : decode b_M_edition 271 = .ok (.iadd, 1) := by decide +kernel
theorem d_M_edition_272 : decode b_M_edition 272 = .ok (.iaload, 1) := by decide +kernel
theorem d_M_edition_273 : decode b_M_edition 273 = .ok (.iastore, 1) := by decide +kernel
theorem d_M_edition_274 : decode b_M_edition 274 = .ok (.iinc 3 1, 3) := by decide +kernel
theorem d_M_edition_277 : decode b_M_edition 277 = .ok (.goto (-76), 3) := by decide +kernel
theorem d_M_edition_280 : decode b_M_edition 280 = .ok (.aload_n 0, 1) := by decide +kernel
theorem d_M_edition_281 : decode b_M_edition 281 = .ok (.dup, 1) := by decide +kernel
theorem d_M_edition_282 : decode b_M_edition 282 = .ok (.getfield 136, 3) := by decide +kernel
theorem d_M_edition_285 : decode b_M_edition 285 = .ok (.iconst 1, 1) := by decide +kernel
theorem d_M_edition_286 : decode b_M_edition 286 = .ok (.iadd, 1) := by decide +kernel
theorem d_M_edition_287 : decode b_M_edition 287 = .ok (.putfield 136, 3) := by decide +kernel
theorem d_M_edition_290 : decode b_M_edition 290 = .ok (.iload_n 2, 1) := by decide +kernel
theorem d_M_edition_291 : decode b_M_edition 291 = .ok (.ireturn, 1) := by decide +kernel
theorem d_M_readAll_0 : decode b_M_readAll 0 = .ok (.aload_n 0, 1) := by decide +kernel
theorem d_M_readAll_1 : decode b_M_readAll 1 = .ok (.iconst 0, 1) := by decide +kernel
theorem d_M_readAll_2 : decode b_M_readAll 2 = .ok (.putfield 92, 3) := by decide +kernel
theorem d_M_readAll_5 : decode b_M_readAll 5 = .ok (.aload_n 0, 1) := by decide +kernel
theorem d_M_readAll_6 : decode b_M_readAll 6 = .ok (.iconst 0, 1) := by decide +kernel
theorem d_M_readAll_7 : decode b_M_readAll 7 = .ok (.putfield 88, 3) := by decide +kernel
theorem d_M_readAll_10 : decode b_M_readAll 10 = .ok (.aload_n 0, 1) := by decide +kernel
theorem d_M_readAll_11 : decode b_M_readAll 11 = .ok (.iconst (-1), 1) := by decide +kernel
theorem d_M_readAll_12 : decode b_M_readAll 12 = .ok (.putfield 13, 3) := by decide +kernel
theorem d_M_readAll_15 : decode b_M_readAll 15 = .ok (.aload_n 0, 1) := by decide +kernel
theorem d_M_readAll_16 : decode b_M_readAll 16 = .ok (.getfield 26, 3) := by decide +kernel
theorem d_M_readAll_19 : decode b_M_readAll 19 = .ok (.bipush 6, 2) := by decide +kernel
theorem d_M_readAll_21 : decode b_M_readAll 21 = .ok (.iconst 0, 1) := by decide +kernel
theorem d_M_readAll_22 : decode b_M_readAll 22 = .ok (.iastore, 1) := by decide +kernel
theorem d_M_readAll_23 : decode b_M_readAll 23 = .ok (.aload_n 0, 1) := by decide +kernel
theorem d_M_readAll_24 : decode b_M_readAll 24 = .ok (.getfield 35, 3) := by decide +kernel
theorem d_M_readAll_27 : decode b_M_readAll 27 = .ok (.bipush 6, 2) := by decide +kernel
theorem d_M_readAll_29 : decode b_M_readAll 29 = .ok (.iconst 0, 1) := by decide +kernel
theorem d_M_readAll_30 : decode b_M_readAll 30 = .ok (.iastore, 1) := by decide +kernel
theorem d_M_readAll_31 : decode b_M_readAll 31 = .ok (.aload_n 0, 1) := by decide +kernel
theorem d_M_readAll_32 : decode b_M_readAll 32 = .ok (.invokevirtual 130, 3) := by decide +kernel
theorem d_M_readAll_35 : decode b_M_readAll 35 = .ok (.aload_n 0, 1) := by decide +kernel
theorem d_M_readAll_36 : decode b_M_readAll 36 = .ok (.getfield 88, 3) := by decide +kernel
theorem d_M_readAll_39 : decode b_M_readAll 39 = .ok (.ifCond .ne 7, 3) := by decide +kernel
theorem d_M_readAll_42 : decode b_M_readAll 42 = .ok (.aload_n 0, 1) := by decide +kernel
theorem d_M_readAll_43 : decode b_M_readAll 43 = .ok (.invokevirtual 133, 3) := by decide +kernel
theorem d_M_readAll_46 : decode b_M_readAll 46 = .ok (.aload_n 0, 1) := by decide +kernel
theorem d_M_readAll_47 : decode b_M_readAll 47 = .ok (.getfield 88, 3) := by decide +kernel
theorem d_M_readAll_50 : decode b_M_readAll 50 = .ok (.ifCond .ne 18, 3) := by decide +kernel
theorem d_M_readAll_53 : decode b_M_readAll 53 = .ok (.aload_n 0, 1) := by decide +kernel
theorem d_M_readAll_54 : decode b_M_readAll 54 = .ok (.invokevirtual 98, 3) := by decide +kernel
theorem d_M_readAll_57 : decode b_M_readAll 57 = .ok (.iconst (-1), 1) := by decide +kernel
theorem d_M_readAll_58 : decode b_M_readAll 58 = .ok (.if_icmp .eq 10, 3) := by decide +kernel
theorem d_M_readAll_61 : decode b_M_readAll 61 = .ok (.aload_n 0, 1) := by decide +kernel
theorem d_M_readAll_62 : decode b_M_readAll 62 = .ok (.invokevirtual 133, 3) := by decide +kernel
theorem d_M_readAll_65 : decode b_M_readAll 65 = .ok (.goto (-19), 3) := by decide +kernel
theorem d_M_readAll_68 : decode b_M_readAll 68 = .ok (.return_, 1) := by decide +kernel
theorem d_M_readTable_0 : decode b_M_readTable 0 = .ok (.aload_n 0, 1) := by decide +kernel
theorem d_M_readTable_1 : decode b_M_readTable 1 = .ok (.bipush 91, 2) := by decide +kernel
theorem d_M_readTable_3 : decode b_M_readTable 3 = .ok (.invokevirtual 110, 3) := by decide +kernel
theorem d_M_readTable_6 : decode b_M_readTable 6 = .ok (.iconst 0, 1) := by decide +kernel
theorem d_M_readTable_7 : decode b_M_readTable 7 = .ok (.istore_n 1, 1) := by decide +kernel
theorem d_M_readTable_8 : decode b_M_readTable 8 = .ok (.aload_n 0, 1) := by decide +kernel
theorem d_M_readTable_9 : decode b_M_readTable 9 = .ok (.getfield 88, 3) := by decide +kernel
theorem d_M_readTable_12 : decode b_M_readTable 12 = .ok (.ifCond .ne 7, 3) := by decide +kernel
theorem d_M_readTable_15 : decode b_M_readTable 15 = .ok (.iconst 1, 1) := by decide +kernel
theorem d_M_readTable_16 : decode b_M_readTable 16 = .ok (.goto 4, 3) := by decide +kernel
theorem d_M_readTable_19 : decode b_M_readTable 19 = .ok (.iconst 0, 1) := by decide +kernel
theorem d_M_readTable_20 : decode b_M_readTable 20 = .ok (.istore_n 2, 1) := by decide +kernel
theorem d_M_readTable_21 : decode b_M_readTable 21 = .ok (.iload_n 2, 1) := by decide +kernel
theorem d_M_readTable_22 : decode b_M_readTable 22 = .ok (.ifCond .eq 97, 3) := by decide +kernel
theorem d_M_readTable_25 : decode b_M_readTable 25 = .ok (.aload_n 0, 1) := by decide +kernel
theorem d_M_readTable_26 : decode b_M_readTable 26 = .ok (.getfield 23, 3) := by decide +kernel
theorem d_M_readTable_29 : decode b_M_readTable 29 = .ok (.bipush 48, 2) := by decide +kernel
theorem d_M_readTable_31 : decode b_M_readTable 31 = .ok (.iload_n 1, 1) := by decide +kernel
theorem d_M_readTable_32 : decode b_M_readTable 32 = .ok (.iadd, 1) := by decide +kernel
theorem d_M_readTable_33 : decode b_M_readTable 33 = .ok (.aload_n 0, 1) := by decide +kernel
theorem d_M_readTable_34 : decode b_M_readTable 34 = .ok (.invokevirtual 113, 3) := by decide +kernel
theorem d_M_readTable_37 : decode b_M_readTable 37 = .ok (.iastore, 1) := by decide +kernel
theorem d_M_readTable_38 : decode b_M_readTable 38 = .ok (.iinc 1 1, 3) := by decide +kernel
theorem d_M_readTable_41 : decode b_M_readTable 41 = .ok (.aload_n 0, 1) := by decide +kernel
theorem d_M_readTable_42 : decode b_M_readTable 42 = .ok (.getfield 88, 3) := by decide +kernel
theorem d_M_readTable_45 : decode b_M_readTable 45 = .ok (.ifCond .ne 16, 3) := by decide +kernel
theorem d_M_readTable_48 : decode b_M_readTable 48 = .ok (.aload_n 0, 1) := by decide +kernel
theorem d_M_readTable_49 : decode b_M_readTable 49 = .ok (.invokevirtual 98, 3) := by decide +kernel
theorem d_M_readTable_52 : decode b_M_readTable 52 = .ok (.bipush 44, 2) := by decide +kernel
theorem d_M_readTable_54 : decode b_M_readTable 54 = .ok (.if_icmp .ne 7, 3) := by decide +kernel
theorem d_M_readTable_57 : decode b_M_readTable 57 = .ok (.iconst 1, 1) := by decide +kernel
theorem d_M_readTable_58 : decode b_M_readTable 58 = .ok (.goto 4, 3) := by decide +kernel
theorem d_M_readTable_61 : decode b_M_readTable 61 = .ok (.iconst 0, 1) := by decide +kernel
theorem d_M_readTable_62 : decode b_M_readTable 62 = .ok (.istore_n 2, 1) := by decide +kernel
theorem d_M_readTable_63 : decode b_M_readTable 63 = .ok (.iload_n 2, 1) := by decide +kernel
theorem d_M_readTable_64 : decode b_M_readTable 64 = .ok (.ifCond .eq 17, 3) := by decide +kernel
theorem d_M_readTable_67 : decode b_M_readTable 67 = .ok (.iload_n 1, 1) := by decide +kernel
theorem d_M_readTable_68 : decode b_M_readTable 68 = .ok (.bipush 8, 2) := by decide +kernel
theorem d_M_readTable_70 : decode b_M_readTable 70 = .ok (.if_icmp .ne 11, 3) := by decide +kernel
theorem d_M_readTable_73 : decode b_M_readTable 73 = .ok (.aload_n 0, 1) := by decide +kernel
theorem d_M_readTable_74 : decode b_M_readTable 74 = .ok (.aload_n 0, 1) := by decide +kernel
theorem d_M_readTable_75 : decode b_M_readTable 75 = .ok (.getfield 92, 3) := by decide +kernel
theorem d_M_readTable_78 : decode b_M_readTable 78 = .ok (.invokevirtual 102, 3) := by decide +kernel
theorem d_M_readTable_81 : decode b_M_readTable 81 = .ok (.iload_n 2, 1) := by decide +kernel
theorem d_M_readTable_82 : decode b_M_readTable 82 = .ok (.ifCond .eq 14, 3) := by decide +kernel
theorem d_M_readTable_85 : decode b_M_readTable 85 = .ok (.aload_n 0, 1) := by decide +kernel
theorem d_M_readTable_86 : decode b_M_readTable 86 = .ok (.getfield 88, 3) := by decide +kernel
theorem d_M_readTable_89 : decode b_M_readTable 89 = .ok (.ifCond .ne 7, 3) := by decide +kernel
theorem d_M_readTable_92 : decode b_M_readTable 92 = .ok (.iconst 1, 1) := by decide +kernel
theorem d_M_readTable_93 : decode b_M_readTable 93 = .ok (.goto 4, 3) := by decide +kernel
theorem d_M_readTable_96 : decode b_M_readTable 96 = .ok (.iconst 0, 1) := by decide +kernel
theorem d_M_readTable_97 : decode b_M_readTable 97 = .ok (.istore_n 2, 1) := by decide +kernel
theorem d_M_readTable_98 : decode b_M_readTable 98 = .ok (.aload_n 0, 1) := by decide +kernel
theorem d_M_readTable_99 : decode b_M_readTable 99 = .ok (.dup, 1) := by decide +kernel
theorem d_M_readTable_100 : decode b_M_readTable 100 = .ok (.getfield 92, 3) := by decide +kernel
theorem d_M_readTable_103 : decode b_M_readTable 103 = .ok (.iload_n 2, 1) := by decide +kernel
theorem d_M_readTable_104 : decode b_M_readTable 104 = .ok (.ifCond .eq 7, 3) := by decide +kernel
theorem d_M_readTable_107 : decode b_M_readTable 107 = .ok (.iconst 1, 1) := by decide +kernel
theorem d_M_readTable_108 : decode b_M_readTable 108 = .ok (.goto 4, 3) := by decide +kernel
theorem d_M_readTable_111 : decode b_M_readTable 111 = .ok (.iconst 0, 1) := by decide +kernel
theorem d_M_readTable_112 : decode b_M_readTable 112 = .ok (.iadd, 1) := by decide +kernel
theorem d_M_readTable_113 : decode b_M_readTable 113 = .ok (.putfield 92, 3) := by decide +kernel
theorem d_M_readTable_116 : decode b_M_readTable 116 = .ok (.goto (-95), 3) := by decide +kernel
theorem d_M_readTable_119 : decode b_M_readTable 119 = .ok (.aload_n 0, 1) := by decide +kernel
theorem d_M_readTable_120 : decode b_M_readTable 120 = .ok (.bipush 93, 2) := by decide +kernel
theorem d_M_readTable_122 : decode b_M_readTable 122 = .ok (.invokevirtual 110, 3) := by decide +kernel
theorem d_M_readTable_125 : decode b_M_readTable 125 = .ok (.aload_n 0, 1) := by decide +kernel
theorem d_M_readTable_126 : decode b_M_readTable 126 = .ok (.getfield 20, 3) := by decide +kernel
theorem d_M_readTable_129 : decode b_M_readTable 129 = .ok (.bipush 6, 2) := by decide +kernel
theorem d_M_readTable_131 : decode b_M_readTable 131 = .ok (.iload_n 1, 1) := by decide +kernel
theorem d_M_readTable_132 : decode b_M_readTable 132 = .ok (.iastore, 1) := by decide +kernel
theorem d_M_readTable_133 : decode b_M_readTable 133 = .ok (.return_, 1) := by decide +kernel
theorem d_M_expect_0 : decode b_M_expect 0 = .ok (.aload_n 0, 1) := by decide +kernel
theorem d_M_expect_1 : decode b_M_expect 1 = .ok (.invokevirtual 98, 3) := by decide +kernel
theorem d_M_expect_4 : decode b_M_expect 4 = .ok (.iload_n 1, 1) := by decide +kernel
theorem d_M_expect_5 : decode b_M_expect 5 = .ok (.if_icmp .eq 11, 3) := by decide +kernel
theorem d_M_expect_8 : decode b_M_expect 8 = .ok (.aload_n 0, 1) := by decide +kernel
theorem d_M_expect_9 : decode b_M_expect 9 = .ok (.aload_n 0, 1) := by decide +kernel
theorem d_M_expect_10 : decode b_M_expect 10 = .ok (.getfield 92, 3) := by decide +kernel
theorem d_M_expect_13 : decode b_M_expect 13 = .ok (.invokevirtual 102, 3) := by decide +kernel
theorem d_M_expect_16 : decode b_M_expect 16 = .ok (.aload_n 0, 1) := by decide +kernel
theorem d_M_expect_17 : decode b_M_expect 17 = .ok (.dup, 1) := by decide +kernel
theorem d_M_expect_18 : decode b_M_expect 18 = .ok (.getfield 92, 3) := by decide +kernel
theorem d_M_expect_21 : decode b_M_expect 21 = .ok (.iconst 1, 1) := by decide +kernel
theorem d_M_expect_22 : decode b_M_expect 22 = .ok (.iadd, 1) := by decide +kernel
theorem d_M_expect_23 : decode b_M_expect 23 = .ok (.putfield 92, 3) := by decide +kernel
theorem d_M_expect_26 : decode b_M_expect 26 = .ok (.return_, 1) := by decide +kernel
theorem d_M_see_0 : decode b_M_see 0 = .ok (.aload_n 0, 1) := by decide +kernel
theorem d_M_see_1 : decode b_M_see 1 = .ok (.getfield 92, 3) := by decide +kernel
theorem d_M_see_4 : decode b_M_see 4 = .ok (.aload_n 0, 1) := by decide +kernel
theorem d_M_see_5 : decode b_M_see 5 = .ok (.getfield 95, 3) := by decide +kernel
theorem d_M_see_8 : decode b_M_see 8 = .ok (.if_icmp .ge 30, 3) := by decide +kernel
theorem d_M_see_11 : decode b_M_see 11 = .ok (.aload_n 0, 1) := by decide +kernel
theorem d_M_see_12 : decode b_M_see 12 = .ok (.getfield 7, 3) := by decide +kernel
theorem d_M_see_15 : decode b_M_see 15 = .ok (.aload_n 0, 1) := by decide +kernel
theorem d_M_see_16 : decode b_M_see 16 = .ok (.getfield 92, 3) := by decide +kernel
theorem d_M_see_19 : decode b_M_see 19 = .ok (.iaload, 1) := by decide +kernel
theorem d_M_see_20 : decode b_M_see 20 = .ok (.bipush 32, 2) := by decide +kernel
theorem d_M_see_22 : decode b_M_see 22 = .ok (.if_icmp .ne 16, 3) := by decide +kernel
theorem d_M_see_25 : decode b_M_see 25 = .ok (.aload_n 0, 1) := by decide +kernel
theorem d_M_see_26 : decode b_M_see 26 = .ok (.dup, 1) := by decide +kernel
theorem d_M_see_27 : decode b_M_see 27 = .ok (.getfield 92, 3) := by decide +kernel
theorem d_M_see_30 : decode b_M_see 30 = .ok (.iconst 1, 1) := by decide +kernel
theorem d_M_see_31 : decode b_M_see 31 = .ok (.iadd, 1) := by decide +kernel
theorem d_M_see_32 : decode b_M_see 32 = .ok (.putfield 92, 3) := by decide +kernel
theorem d_M_see_35 : decode b_M_see 35 = .ok (.goto (-35), 3) := by decide +kernel
theorem d_M_see_38 : decode b_M_see 38 = .ok (.aload_n 0, 1) := by decide +kernel
theorem d_M_see_39 : decode b_M_see 39 = .ok (.getfield 92, 3) := by decide +kernel
theorem d_M_see_42 : decode b_M_see 42 = .ok (.aload_n 0, 1) := by decide +kernel
theorem d_M_see_43 : decode b_M_see 43 = .ok (.getfield 95, 3) := by decide +kernel
theorem d_M_see_46 : decode b_M_see 46 = .ok (.if_icmp .ge 15, 3) := by decide +kernel
theorem d_M_see_49 : decode b_M_see 49 = .ok (.aload_n 0, 1) := by decide +kernel
theorem d_M_see_50 : decode b_M_see 50 = .ok (.getfield 7, 3) := by decide +kernel
theorem d_M_see_53 : decode b_M_see 53 = .ok (.aload_n 0, 1) := by decide +kernel
theorem d_M_see_54 : decode b_M_see 54 = .ok (.getfield 92, 3) := by decide +kernel
theorem d_M_see_57 : decode b_M_see 57 = .ok (.iaload, 1) := by decide +kernel
theorem d_M_see_58 : decode b_M_see 58 = .ok (.goto 4, 3) := by decide +kernel
theorem d_M_see_61 : decode b_M_see 61 = .ok (.iconst (-1), 1) := by decide +kernel
theorem d_M_see_62 : decode b_M_see 62 = .ok (.ireturn, 1) := by decide +kernel
theorem d_M_fail_0 : decode b_M_fail 0 = .ok (.aload_n 0, 1) := by decide +kernel
theorem d_M_fail_1 : decode b_M_fail 1 = .ok (.getfield 88, 3) := by decide +kernel
theorem d_M_fail_4 : decode b_M_fail 4 = .ok (.ifCond .eq 4, 3) := by decide +kernel
theorem d_M_fail_7 : decode b_M_fail 7 = .ok (.return_, 1) := by decide +kernel
theorem d_M_fail_8 : decode b_M_fail 8 = .ok (.aload_n 0, 1) := by decide +kernel
theorem d_M_fail_9 : decode b_M_fail 9 = .ok (.iconst 1, 1) := by decide +kernel
theorem d_M_fail_10 : decode b_M_fail 10 = .ok (.putfield 88, 3) := by decide +kernel
theorem d_M_fail_13 : decode b_M_fail 13 = .ok (.aload_n 0, 1) := by decide +kernel
theorem d_M_fail_14 : decode b_M_fail 14 = .ok (.iload_n 1, 1) := by decide +kernel
theorem d_M_fail_15 : decode b_M_fail 15 = .ok (.putfield 13, 3) := by decide +kernel
theorem d_M_fail_18 : decode b_M_fail 18 = .ok (.return_, 1) := by decide +kernel
theorem d_M_number_0 : decode b_M_number 0 = .ok (.aload_n 0, 1) := by decide +kernel
theorem d_M_number_1 : decode b_M_number 1 = .ok (.invokevirtual 98, 3) := by decide +kernel
theorem d_M_number_4 : decode b_M_number 4 = .ok (.pop, 1) := by decide +kernel
theorem d_M_number_5 : decode b_M_number 5 = .ok (.aload_n 0, 1) := by decide +kernel
theorem d_M_number_6 : decode b_M_number 6 = .ok (.getfield 88, 3) := by decide +kernel
theorem d_M_number_9 : decode b_M_number 9 = .ok (.ifCond .ne 10, 3) := by decide +kernel
theorem d_M_number_12 : decode b_M_number 12 = .ok (.aload_n 0, 1) := by decide +kernel
theorem d_M_number_13 : decode b_M_number 13 = .ok (.invokevirtual 106, 3) := by decide +kernel
theorem d_M_number_16 : decode b_M_number 16 = .ok (.ifCond .ne 13, 3) := by decide +kernel
theorem d_M_number_19 : decode b_M_number 19 = .ok (.aload_n 0, 1) := by decide +kernel
theorem d_M_number_20 : decode b_M_number 20 = .ok (.aload_n 0, 1) := by decide +kernel
theorem d_M_number_21 : decode b_M_number 21 = .ok (.getfield 92, 3) := by decide +kernel
theorem d_M_number_24 : decode b_M_number 24 = .ok (.invokevirtual 102, 3) := by decide +kernel
theorem d_M_number_27 : decode b_M_number 27 = .ok (.iconst 0, 1) := by decide +kernel
theorem d_M_number_28 : decode b_M_number 28 = .ok (.ireturn, 1) := by decide +kernel
theorem d_M_number_29 : decode b_M_number 29 = .ok (.aload_n 0, 1) := by decide +kernel
theorem d_M_number_30 : decode b_M_number 30 = .ok (.getfield 7, 3) := by decide +kernel
theorem d_M_number_33 : decode b_M_number 33 = .ok (.aload_n 0, 1) := by decide +kernel
theorem d_M_number_34 : decode b_M_number 34 = .ok (.getfield 92, 3) := by decide +kernel
theorem d_M_number_37 : decode b_M_number 37 = .ok (.iaload, 1) := by decide +kernel
theorem d_M_number_38 : decode b_M_number 38 = .ok (.bipush 48, 2) := by decide +kernel
theorem d_M_number_40 : decode b_M_number 40 = .ok (.isub, 1) := by decide +kernel
theorem d_M_number_41 : decode b_M_number 41 = .ok (.istore_n 1, 1) := by decide +kernel
theorem d_M_number_42 : decode b_M_number 42 = .ok (.aload_n 0, 1) := by decide +kernel
theorem d_M_number_43 : decode b_M_number 43 = .ok (.dup, 1) := by decide +kernel
theorem d_M_number_44 : decode b_M_number 44 = .ok (.getfield 92, 3) := by decide +kernel
theorem d_M_number_47 : decode b_M_number 47 = .ok (.iconst 1, 1) := by decide +kernel
theorem d_M_number_48 : decode b_M_number 48 = .ok (.iadd, 1) := by decide +kernel
theorem d_M_number_49 : decode b_M_number 49 = .ok (.putfield 92, 3) := by decide +kernel
theorem d_M_number_52 : decode b_M_number 52 = .ok (.iconst 0, 1) := by decide +kernel
theorem d_M_number_53 : decode b_M_number 53 = .ok (.istore_n 2, 1) := by decide +kernel
theorem d_M_number_54 : decode b_M_number 54 = .ok (.iload_n 2, 1) := by decide +kernel
theorem d_M_number_55 : decode b_M_number 55 = .ok (.iconst 3, 1) := by decide +kernel
theorem d_M_number_56 : decode b_M_number 56 = .ok (.if_icmp .ge 48, 3) := by decide +kernel
theorem d_M_number_59 : decode b_M_number 59 = .ok (.iload_n 1, 1) := by decide +kernel
theorem d_M_number_60 : decode b_M_number 60 = .ok (.ifCond .le 44, 3) := by decide +kernel
theorem d_M_number_63 : decode b_M_number 63 = .ok (.aload_n 0, 1) := by decide +kernel
theorem d_M_number_64 : decode b_M_number 64 = .ok (.invokevirtual 106, 3) := by decide +kernel
theorem d_M_number_67 : decode b_M_number 67 = .ok (.ifCond .eq 37, 3) := by decide +kernel
theorem d_M_number_70 : decode b_M_number 70 = .ok (.bipush 10, 2) := by decide +kernel
theorem d_M_number_72 : decode b_M_number 72 = .ok (.iload_n 1, 1) := by decide +kernel
theorem d_M_number_73 : decode b_M_number 73 = .ok (.imul, 1) := by decide +kernel
theorem d_M_number_74 : decode b_M_number 74 = .ok (.aload_n 0, 1) := by decide +kernel
theorem d_M_number_75 : decode b_M_number 75 = .ok (.getfield 7, 3) := by decide +kernel
theorem d_M_number_78 : decode b_M_number 78 = .ok (.aload_n 0, 1) := by decide +kernel
theorem d_M_number_79 : decode b_M_number 79 = .ok (.getfield 92, 3) := by decide +kernel
theorem d_M_number_82 : decode b_M_number 82 = .ok (.iaload, 1) := by decide +kernel
theorem d_M_number_83 : decode b_M_number 83 = .ok (.iadd, 1) := by decide +kernel
theorem d_M_number_84 : decode b_M_number 84 = .ok (.bipush 48, 2) := by decide +kernel
theorem d_M_number_86 : decode b_M_number 86 = .ok (.isub, 1) := by decide +kernel
theorem d_M_number_87 : decode b_M_number 87 = .ok (.istore_n 1, 1) := by decide +kernel
theorem d_M_number_88 : decode b_M_number 88 = .ok (.aload_n 0, 1) := by decide +kernel
theorem d_M_number_89 : decode b_M_number 89 = .ok (.dup, 1) := by decide +kernel
theorem d_M_number_90 : decode b_M_number 90 = .ok (.getfield 92, 3) := by decide +kernel
theorem d_M_number_93 : decode b_M_number 93 = .ok (.iconst 1, 1) := by decide +kernel
theorem d_M_number_94 : decode b_M_number 94 = .ok (.iadd, 1) := by decide +kernel
theorem d_M_number_95 : decode b_M_number 95 = .ok (.putfield 92, 3) := by decide +kernel
theorem d_M_number_98 : decode b_M_number 98 = .ok (.iinc 2 1, 3) := by decide +kernel
theorem d_M_number_101 : decode b_M_number 101 = .ok (.goto (-47), 3) := by decide +kernel
theorem d_M_number_104 : decode b_M_number 104 = .ok (.aload_n 0, 1) := by decide +kernel
theorem d_M_number_105 : decode b_M_number 105 = .ok (.invokevirtual 106, 3) := by decide +kernel
theorem d_M_number_108 : decode b_M_number 108 = .ok (.ifCond .eq 11, 3) := by decide +kernel
theorem d_M_number_111 : decode b_M_number 111 = .ok (.aload_n 0, 1) := by decide +kernel
theorem d_M_number_112 : decode b_M_number 112 = .ok (.aload_n 0, 1) := by decide +kernel
theorem d_M_number_113 : decode b_M_number 113 = .ok (.getfield 92, 3) := by decide +kernel
theorem d_M_number_116 : decode b_M_number 116 = .ok (.invokevirtual 102, 3) := by decide +kernel
theorem d_M_number_119 : decode b_M_number 119 = .ok (.iload_n 1, 1) := by decide +kernel
theorem d_M_number_120 : decode b_M_number 120 = .ok (.ireturn, 1) := by decide +kernel
theorem d_M_isDigit_0 : decode b_M_isDigit 0 = .ok (.aload_n 0, 1) := by decide +kernel
theorem d_M_isDigit_1 : decode b_M_isDigit 1 = .ok (.getfield 92, 3) := by decide +kernel
theorem d_M_isDigit_4 : decode b_M_isDigit 4 = .ok (.aload_n 0, 1) := by decide +kernel
theorem d_M_isDigit_5 : decode b_M_isDigit 5 = .ok (.getfield 95, 3) := by decide +kernel
theorem d_M_isDigit_8 : decode b_M_isDigit 8 = .ok (.if_icmp .ge 26, 3) := by decide +kernel
theorem d_M_isDigit_11 : decode b_M_isDigit 11 = .ok (.aload_n 0, 1) := by decide +kernel
theorem d_M_isDigit_12 : decode b_M_isDigit 12 = .ok (.getfield 7, 3) := by decide +kernel
theorem d_M_isDigit_15 : decode b_M_isDigit 15 = .ok (.aload_n 0, 1) := by decide +kernel
theorem d_M_isDigit_16 : decode b_M_isDigit 16 = .ok (.getfield 92, 3) := by decide +kernel
theorem d_M_isDigit_19 : decode b_M_isDigit 19 = .ok (.iaload, 1) := by decide +kernel
theorem d_M_isDigit_20 : decode b_M_isDigit 20 = .ok (.bipush 48, 2) := by decide +kernel
theorem d_M_isDigit_22 : decode b_M_isDigit 22 = .ok (.bipush 57, 2) := by decide +kernel
theorem d_M_isDigit_24 : decode b_M_isDigit 24 = .ok (.invokestatic 77, 3) := by decide +kernel
theorem d_M_isDigit_27 : decode b_M_isDigit 27 = .ok (.ifCond .eq 7, 3) := by decide +kernel
theorem d_M_isDigit_30 : decode b_M_isDigit 30 = .ok (.iconst 1, 1) := by decide +kernel
theorem d_M_isDigit_31 : decode b_M_isDigit 31 = .ok (.goto 4, 3) := by decide +kernel
theorem d_M_isDigit_34 : decode b_M_isDigit 34 = .ok (.iconst 0, 1) := by decide +kernel
theorem d_M_isDigit_35 : decode b_M_isDigit 35 = .ok (.ireturn, 1) := by decide +kernel
theorem d_M_readRule_0 : decode b_M_readRule 0 = .ok (.aload_n 0, 1) := by decide +kernel
theorem d_M_readRule_1 : decode b_M_readRule 1 = .ok (.invokevirtual 98, 3) := by decide +kernel
theorem d_M_readRule_4 : decode b_M_readRule 4 = .ok (.istore_n 1, 1) := by decide +kernel
theorem d_M_readRule_5 : decode b_M_readRule 5 = .ok (.iload_n 1, 1) := by decide +kernel
theorem d_M_readRule_6 : decode b_M_readRule 6 = .ok (.bipush 97, 2) := by decide +kernel
theorem d_M_readRule_8 : decode b_M_readRule 8 = .ok (.bipush 104, 2) := by decide +kernel
theorem d_M_readRule_10 : decode b_M_readRule 10 = .ok (.invokestatic 77, 3) := by decide +kernel
theorem d_M_readRule_13 : decode b_M_readRule 13 = .ok (.ifCond .eq 11, 3) := by decide +kernel
theorem d_M_readRule_16 : decode b_M_readRule 16 = .ok (.aload_n 0, 1) := by decide +kernel
theorem d_M_readRule_17 : decode b_M_readRule 17 = .ok (.iload_n 1, 1) := by decide +kernel
theorem d_M_readRule_18 : decode b_M_readRule 18 = .ok (.invokevirtual 116, 3) := by decide +kernel
theorem d_M_readRule_21 : decode b_M_readRule 21 = .ok (.ifCond .eq 11, 3) := by decide +kernel
theorem d_M_readRule_24 : decode b_M_readRule 24 = .ok (.aload_n 0, 1) := by decide +kernel
theorem d_M_readRule_25 : decode b_M_readRule 25 = .ok (.aload_n 0, 1) := by decide +kernel
theorem d_M_readRule_26 : decode b_M_readRule 26 = .ok (.getfield 92, 3) := by decide +kernel
theorem d_M_readRule_29 : decode b_M_readRule 29 = .ok (.invokevirtual 102, 3) := by decide +kernel
theorem d_M_readRule_32 : decode b_M_readRule 32 = .ok (.aload_n 0, 1) := by decide +kernel
theorem d_M_readRule_33 : decode b_M_readRule 33 = .ok (.dup, 1) := by decide +kernel
theorem d_M_readRule_34 : decode b_M_readRule 34 = .ok (.getfield 92, 3) := by decide +kernel
theorem d_M_readRule_37 : decode b_M_readRule 37 = .ok (.iconst 1, 1) := by decide +kernel
theorem d_M_readRule_38 : decode b_M_readRule 38 = .ok (.iadd, 1) := by decide +kernel
theorem d_M_readRule_39 : decode b_M_readRule 39 = .ok (.putfield 92, 3) := by decide +kernel
theorem d_M_readRule_42 : decode b_M_readRule 42 = .ok (.aload_n 0, 1) := by decide +kernel
theorem d_M_readRule_43 : decode b_M_readRule 43 = .ok (.bipush 61, 2) := by decide +kernel
theorem d_M_readRule_45 : decode b_M_readRule 45 = .ok (.invokevirtual 110, 3) := by decide +kernel
theorem d_M_readRule_48 : decode b_M_readRule 48 = .ok (.aload_n 0, 1) := by decide +kernel
theorem d_M_readRule_49 : decode b_M_readRule 49 = .ok (.getfield 88, 3) := by decide +kernel
theorem d_M_readRule_52 : decode b_M_readRule 52 = .ok (.ifCond .ne 7, 3) := by decide +kernel
theorem d_M_readRule_55 : decode b_M_readRule 55 = .ok (.aload_n 0, 1) := by decide +kernel
theorem d_M_readRule_56 : decode b_M_readRule 56 = .ok (.invokevirtual 127, 3) := by decide +kernel
theorem d_M_readRule_59 : decode b_M_readRule 59 = .ok (.aload_n 0, 1) := by decide +kernel
theorem d_M_readRule_60 : decode b_M_readRule 60 = .ok (.bipush 59, 2) := by decide +kernel
theorem d_M_readRule_62 : decode b_M_readRule 62 = .ok (.invokevirtual 110, 3) := by decide +kernel
theorem d_M_readRule_65 : decode b_M_readRule 65 = .ok (.bipush 48, 2) := by decide +kernel
theorem d_M_readRule_67 : decode b_M_readRule 67 = .ok (.aload_n 0, 1) := by decide +kernel
theorem d_M_readRule_68 : decode b_M_readRule 68 = .ok (.getfield 26, 3) := by decide +kernel
theorem d_M_readRule_71 : decode b_M_readRule 71 = .ok (.bipush 6, 2) := by decide +kernel
theorem d_M_readRule_73 : decode b_M_readRule 73 = .ok (.iaload, 1) := by decide +kernel
theorem d_M_readRule_74 : decode b_M_readRule 74 = .ok (.iadd, 1) := by decide +kernel
theorem d_M_readRule_75 : decode b_M_readRule 75 = .ok (.istore_n 2, 1) := by decide +kernel
theorem d_M_readRule_76 : decode b_M_readRule 76 = .ok (.aload_n 0, 1) := by decide +kernel
theorem d_M_readRule_77 : decode b_M_readRule 77 = .ok (.getfield 88, 3) := by decide +kernel
theorem d_M_readRule_80 : decode b_M_readRule 80 = .ok (.ifCond .eq 4, 3) := by decide +kernel
theorem d_M_readRule_83 : decode b_M_readRule 83 = .ok (.return_, 1) := by decide +kernel
theorem d_M_readRule_84 : decode b_M_readRule 84 = .ok (.aload_n 0, 1) := by decide +kernel
theorem d_M_readRule_85 : decode b_M_readRule 85 = .ok (.getfield 29, 3) := by decide +kernel
theorem d_M_readRule_88 : decode b_M_readRule 88 = .ok (.iload_n 2, 1) := by decide +kernel
theorem d_M_readRule_89 : decode b_M_readRule 89 = .ok (.iload_n 1, 1) := by decide +kernel
theorem d_M_readRule_90 : decode b_M_readRule 90 = .ok (.bipush 97, 2) := by decide +kernel
theorem d_M_readRule_92 : decode b_M_readRule 92 = .ok (.isub, 1) := by decide +kernel
theorem d_M_readRule_93 : decode b_M_readRule 93 = .ok (.iastore, 1) := by decide +kernel
theorem d_M_readRule_94 : decode b_M_readRule 94 = .ok (.aload_n 0, 1) := by decide +kernel
theorem d_M_readRule_95 : decode b_M_readRule 95 = .ok (.getfield 32, 3) := by decide +kernel
theorem d_M_readRule_98 : decode b_M_readRule 98 = .ok (.iload_n 2, 1) := by decide +kernel
theorem d_M_readRule_99 : decode b_M_readRule 99 = .ok (.aload_n 0, 1) := by decide +kernel
theorem d_M_readRule_100 : decode b_M_readRule 100 = .ok (.getfield 35, 3) := by decide +kernel
theorem d_M_readRule_103 : decode b_M_readRule 103 = .ok (.bipush 6, 2) := by decide +kernel
theorem d_M_readRule_105 : decode b_M_readRule 105 = .ok (.iaload, 1) := by decide +kernel
theorem d_M_readRule_106 : decode b_M_readRule 106 = .ok (.iastore, 1) := by decide +kernel
theorem d_M_readRule_107 : decode b_M_readRule 107 = .ok (.aload_n 0, 1) := by decide +kernel
theorem d_M_readRule_108 : decode b_M_readRule 108 = .ok (.getfield 26, 3) := by decide +kernel
theorem d_M_readRule_111 : decode b_M_readRule 111 = .ok (.bipush 6, 2) := by decide +kernel
theorem d_M_readRule_113 : decode b_M_readRule 113 = .ok (.dup2, 1) := by decide +kernel
theorem d_M_readRule_114 : decode b_M_readRule 114 = .ok (.iaload, 1) := by decide +kernel
theorem d_M_readRule_115 : decode b_M_readRule 115 = .ok (.iconst 1, 1) := by decide +kernel
theorem d_M_readRule_116 : decode b_M_readRule 116 = .ok (.iadd, 1) := by decide +kernel
theorem d_M_readRule_117 : decode b_M_readRule 117 = .ok (.iastore, 1) := by decide +kernel
theorem d_M_readRule_118 : decode b_M_readRule 118 = .ok (.return_, 1) := by decide +kernel
theorem d_M_isToldAhead_0 : decode b_M_isToldAhead 0 = .ok (.iconst 0, 1) := by decide +kernel
theorem d_M_isToldAhead_1 : decode b_M_isToldAhead 1 = .ok (.istore_n 2, 1) := by decide +kernel
theorem d_M_isToldAhead_2 : decode b_M_isToldAhead 2 = .ok (.iconst 0, 1) := by decide +kernel
theorem d_M_isToldAhead_3 : decode b_M_isToldAhead 3 = .ok (.istore_n 3, 1) := by decide +kernel
theorem d_M_isToldAhead_4 : decode b_M_isToldAhead 4 = .ok (.iload_n 3, 1) := by decide +kernel
theorem d_M_isToldAhead_5 : decode b_M_isToldAhead 5 = .ok (.aload_n 0, 1) := by decide +kernel
theorem d_M_isToldAhead_6 : decode b_M_isToldAhead 6 = .ok (.getfield 26, 3) := by decide +kernel
theorem d_M_isToldAhead_9 : decode b_M_isToldAhead 9 = .ok (.bipush 6, 2) := by decide +kernel
theorem d_M_isToldAhead_11 : decode b_M_isToldAhead 11 = .ok (.iaload, 1) := by decide +kernel
theorem d_M_isToldAhead_12 : decode b_M_isToldAhead 12 = .ok (.if_icmp .ge 35, 3) := by decide +kernel
theorem d_M_isToldAhead_15 : decode b_M_isToldAhead 15 = .ok (.iload_n 2, 1) := by decide +kernel
theorem d_M_isToldAhead_16 : decode b_M_isToldAhead 16 = .ok (.ifCond .ne 19, 3) := by decide +kernel
theorem d_M_isToldAhead_19 : decode b_M_isToldAhead 19 = .ok (.aload_n 0, 1) := by decide +kernel
theorem d_M_isToldAhead_20 : decode b_M_isToldAhead 20 = .ok (.getfield 29, 3) := by decide +kernel
theorem d_M_isToldAhead_23 : decode b_M_isToldAhead 23 = .ok (.bipush 48, 2) := by decide +kernel
theorem d_M_isToldAhead_25 : decode b_M_isToldAhead 25 = .ok (.iload_n 3, 1) := by decide +kernel
theorem d_M_isToldAhead_26 : decode b_M_isToldAhead 26 = .ok (.iadd, 1) := by decide +kernel
theorem d_M_isToldAhead_27 : decode b_M_isToldAhead 27 = .ok (.iaload, 1) := by decide +kernel
