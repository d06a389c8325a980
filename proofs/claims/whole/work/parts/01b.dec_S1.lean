theorem d_K_sumOf_52 : decode b_K_sumOf 52 = .ok (.iaload, 1) := by decide +kernel
theorem d_K_sumOf_53 : decode b_K_sumOf 53 = .ok (.iconst (-1), 1) := by decide +kernel
theorem d_K_sumOf_54 : decode b_K_sumOf 54 = .ok (.if_icmp .ne 10, 3) := by decide +kernel
theorem d_K_sumOf_57 : decode b_K_sumOf 57 = .ok (.aload_n 0, 1) := by decide +kernel
theorem d_K_sumOf_58 : decode b_K_sumOf 58 = .ok (.iload_n 2, 1) := by decide +kernel
theorem d_K_sumOf_59 : decode b_K_sumOf 59 = .ok (.iload_n 2, 1) := by decide +kernel
theorem d_K_sumOf_60 : decode b_K_sumOf 60 = .ok (.iconst 0, 1) := by decide +kernel
theorem d_K_sumOf_61 : decode b_K_sumOf 61 = .ok (.invokevirtual 59, 3) := by decide +kernel
theorem d_K_sumOf_64 : decode b_K_sumOf 64 = .ok (.aload_n 0, 1) := by decide +kernel
theorem d_K_sumOf_65 : decode b_K_sumOf 65 = .ok (.getfield 18, 3) := by decide +kernel
theorem d_K_sumOf_68 : decode b_K_sumOf 68 = .ok (.iload_n 2, 1) := by decide +kernel
theorem d_K_sumOf_69 : decode b_K_sumOf 69 = .ok (.iaload, 1) := by decide +kernel
theorem d_K_sumOf_70 : decode b_K_sumOf 70 = .ok (.iconst (-1), 1) := by decide +kernel
theorem d_K_sumOf_71 : decode b_K_sumOf 71 = .ok (.if_icmp .eq 5, 3) := by decide +kernel
theorem d_K_sumOf_74 : decode b_K_sumOf 74 = .ok (.iconst 0, 1) := by decide +kernel
theorem d_K_sumOf_75 : decode b_K_sumOf 75 = .ok (.ireturn, 1) := by decide +kernel
theorem d_K_sumOf_76 : decode b_K_sumOf 76 = .ok (.aload 6, 2) := by decide +kernel
theorem d_K_sumOf_78 : decode b_K_sumOf 78 = .ok (.getfield 54, 3) := by decide +kernel
theorem d_K_sumOf_81 : decode b_K_sumOf 81 = .ok (.bipush 42, 2) := by decide +kernel
theorem d_K_sumOf_83 : decode b_K_sumOf 83 = .ok (.if_icmp .ne 13, 3) := by decide +kernel
theorem d_K_sumOf_86 : decode b_K_sumOf 86 = .ok (.iload 5, 2) := by decide +kernel
theorem d_K_sumOf_88 : decode b_K_sumOf 88 = .ok (.iload 7, 2) := by decide +kernel
theorem d_K_sumOf_90 : decode b_K_sumOf 90 = .ok (.imul, 1) := by decide +kernel
theorem d_K_sumOf_91 : decode b_K_sumOf 91 = .ok (.istore 5, 2) := by decide +kernel
theorem d_K_sumOf_93 : decode b_K_sumOf 93 = .ok (.goto 43, 3) := by decide +kernel
theorem d_K_sumOf_96 : decode b_K_sumOf 96 = .ok (.aload 6, 2) := by decide +kernel
theorem d_K_sumOf_98 : decode b_K_sumOf 98 = .ok (.getfield 54, 3) := by decide +kernel
theorem d_K_sumOf_101 : decode b_K_sumOf 101 = .ok (.bipush 47, 2) := by decide +kernel
theorem d_K_sumOf_103 : decode b_K_sumOf 103 = .ok (.if_icmp .ne 13, 3) := by decide +kernel
theorem d_K_sumOf_106 : decode b_K_sumOf 106 = .ok (.iload 5, 2) := by decide +kernel
theorem d_K_sumOf_108 : decode b_K_sumOf 108 = .ok (.iload 7, 2) := by decide +kernel
theorem d_K_sumOf_110 : decode b_K_sumOf 110 = .ok (.idiv, 1) := by decide +kernel
theorem d_K_sumOf_111 : decode b_K_sumOf 111 = .ok (.istore 5, 2) := by decide +kernel
theorem d_K_sumOf_113 : decode b_K_sumOf 113 = .ok (.goto 23, 3) := by decide +kernel
theorem d_K_sumOf_116 : decode b_K_sumOf 116 = .ok (.iload_n 3, 1) := by decide +kernel
theorem d_K_sumOf_117 : decode b_K_sumOf 117 = .ok (.iload 4, 2) := by decide +kernel
theorem d_K_sumOf_119 : decode b_K_sumOf 119 = .ok (.iload 5, 2) := by decide +kernel
theorem d_K_sumOf_121 : decode b_K_sumOf 121 = .ok (.invokestatic 63, 3) := by decide +kernel
theorem d_K_sumOf_124 : decode b_K_sumOf 124 = .ok (.istore_n 3, 1) := by decide +kernel
theorem d_K_sumOf_125 : decode b_K_sumOf 125 = .ok (.aload 6, 2) := by decide +kernel
theorem d_K_sumOf_127 : decode b_K_sumOf 127 = .ok (.getfield 54, 3) := by decide +kernel
theorem d_K_sumOf_130 : decode b_K_sumOf 130 = .ok (.istore 4, 2) := by decide +kernel
theorem d_K_sumOf_132 : decode b_K_sumOf 132 = .ok (.iload 7, 2) := by decide +kernel
theorem d_K_sumOf_134 : decode b_K_sumOf 134 = .ok (.istore 5, 2) := by decide +kernel
theorem d_K_sumOf_136 : decode b_K_sumOf 136 = .ok (.aload 6, 2) := by decide +kernel
theorem d_K_sumOf_138 : decode b_K_sumOf 138 = .ok (.getfield 67, 3) := by decide +kernel
theorem d_K_sumOf_141 : decode b_K_sumOf 141 = .ok (.astore 6, 2) := by decide +kernel
theorem d_K_sumOf_143 : decode b_K_sumOf 143 = .ok (.goto (-126), 3) := by decide +kernel
theorem d_K_sumOf_146 : decode b_K_sumOf 146 = .ok (.iload_n 3, 1) := by decide +kernel
theorem d_K_sumOf_147 : decode b_K_sumOf 147 = .ok (.iload 4, 2) := by decide +kernel
theorem d_K_sumOf_149 : decode b_K_sumOf 149 = .ok (.iload 5, 2) := by decide +kernel
theorem d_K_sumOf_151 : decode b_K_sumOf 151 = .ok (.invokestatic 63, 3) := by decide +kernel
theorem d_K_sumOf_154 : decode b_K_sumOf 154 = .ok (.ireturn, 1) := by decide +kernel
theorem d_K_factorOf_0 : decode b_K_factorOf 0 = .ok (.aload_n 3, 1) := by decide +kernel
theorem d_K_factorOf_1 : decode b_K_factorOf 1 = .ok (.getfield 71, 3) := by decide +kernel
theorem d_K_factorOf_4 : decode b_K_factorOf 4 = .ok (.istore 4, 2) := by decide +kernel
theorem d_K_factorOf_6 : decode b_K_factorOf 6 = .ok (.aload_n 3, 1) := by decide +kernel
theorem d_K_factorOf_7 : decode b_K_factorOf 7 = .ok (.getfield 74, 3) := by decide +kernel
theorem d_K_factorOf_10 : decode b_K_factorOf 10 = .ok (.iconst 1, 1) := by decide +kernel
theorem d_K_factorOf_11 : decode b_K_factorOf 11 = .ok (.if_icmp .ne 17, 3) := by decide +kernel
theorem d_K_factorOf_14 : decode b_K_factorOf 14 = .ok (.aload_n 0, 1) := by decide +kernel
theorem d_K_factorOf_15 : decode b_K_factorOf 15 = .ok (.getfield 9, 3) := by decide +kernel
theorem d_K_factorOf_18 : decode b_K_factorOf 18 = .ok (.aload_n 3, 1) := by decide +kernel
theorem d_K_factorOf_19 : decode b_K_factorOf 19 = .ok (.getfield 71, 3) := by decide +kernel
theorem d_K_factorOf_22 : decode b_K_factorOf 22 = .ok (.iaload, 1) := by decide +kernel
theorem d_K_factorOf_23 : decode b_K_factorOf 23 = .ok (.istore 4, 2) := by decide +kernel
theorem d_K_factorOf_25 : decode b_K_factorOf 25 = .ok (.goto 60, 3) := by decide +kernel
theorem d_K_factorOf_28 : decode b_K_factorOf 28 = .ok (.aload_n 3, 1) := by decide +kernel
theorem d_K_factorOf_29 : decode b_K_factorOf 29 = .ok (.getfield 74, 3) := by decide +kernel
theorem d_K_factorOf_32 : decode b_K_factorOf 32 = .ok (.iconst 2, 1) := by decide +kernel
theorem d_K_factorOf_33 : decode b_K_factorOf 33 = .ok (.if_icmp .ne 52, 3) := by decide +kernel
theorem d_K_factorOf_36 : decode b_K_factorOf 36 = .ok (.aload_n 0, 1) := by decide +kernel
theorem d_K_factorOf_37 : decode b_K_factorOf 37 = .ok (.getfield 15, 3) := by decide +kernel
theorem d_K_factorOf_40 : decode b_K_factorOf 40 = .ok (.aload_n 3, 1) := by decide +kernel
theorem d_K_factorOf_41 : decode b_K_factorOf 41 = .ok (.getfield 71, 3) := by decide +kernel
theorem d_K_factorOf_44 : decode b_K_factorOf 44 = .ok (.iaload, 1) := by decide +kernel
theorem d_K_factorOf_45 : decode b_K_factorOf 45 = .ok (.istore 4, 2) := by decide +kernel
theorem d_K_factorOf_47 : decode b_K_factorOf 47 = .ok (.aload_n 0, 1) := by decide +kernel
theorem d_K_factorOf_48 : decode b_K_factorOf 48 = .ok (.getfield 18, 3) := by decide +kernel
theorem d_K_factorOf_51 : decode b_K_factorOf 51 = .ok (.aload_n 3, 1) := by decide +kernel
theorem d_K_factorOf_52 : decode b_K_factorOf 52 = .ok (.getfield 71, 3) := by decide +kernel
theorem d_K_factorOf_55 : decode b_K_factorOf 55 = .ok (.iaload, 1) := by decide +kernel
theorem d_K_factorOf_56 : decode b_K_factorOf 56 = .ok (.iconst (-1), 1) := by decide +kernel
theorem d_K_factorOf_57 : decode b_K_factorOf 57 = .ok (.if_icmp .eq 28, 3) := by decide +kernel
theorem d_K_factorOf_60 : decode b_K_factorOf 60 = .ok (.aload_n 0, 1) := by decide +kernel
theorem d_K_factorOf_61 : decode b_K_factorOf 61 = .ok (.iload_n 2, 1) := by decide +kernel
theorem d_K_factorOf_62 : decode b_K_factorOf 62 = .ok (.aload_n 0, 1) := by decide +kernel
theorem d_K_factorOf_63 : decode b_K_factorOf 63 = .ok (.getfield 18, 3) := by decide +kernel
theorem d_K_factorOf_66 : decode b_K_factorOf 66 = .ok (.aload_n 3, 1) := by decide +kernel
theorem d_K_factorOf_67 : decode b_K_factorOf 67 = .ok (.getfield 71, 3) := by decide +kernel
theorem d_K_factorOf_70 : decode b_K_factorOf 70 = .ok (.iaload, 1) := by decide +kernel
theorem d_K_factorOf_71 : decode b_K_factorOf 71 = .ok (.aload_n 0, 1) := by decide +kernel
theorem d_K_factorOf_72 : decode b_K_factorOf 72 = .ok (.getfield 21, 3) := by decide +kernel
theorem d_K_factorOf_75 : decode b_K_factorOf 75 = .ok (.aload_n 3, 1) := by decide +kernel
theorem d_K_factorOf_76 : decode b_K_factorOf 76 = .ok (.getfield 71, 3) := by decide +kernel
theorem d_K_factorOf_79 : decode b_K_factorOf 79 = .ok (.iaload, 1) := by decide +kernel
theorem d_K_factorOf_80 : decode b_K_factorOf 80 = .ok (.invokevirtual 59, 3) := by decide +kernel
theorem d_K_factorOf_83 : decode b_K_factorOf 83 = .ok (.iconst 0, 1) := by decide +kernel
theorem d_K_factorOf_84 : decode b_K_factorOf 84 = .ok (.ireturn, 1) := by decide +kernel
theorem d_K_factorOf_85 : decode b_K_factorOf 85 = .ok (.aload_n 3, 1) := by decide +kernel
theorem d_K_factorOf_86 : decode b_K_factorOf 86 = .ok (.getfield 77, 3) := by decide +kernel
theorem d_K_factorOf_89 : decode b_K_factorOf 89 = .ok (.ifCond .ne 6, 3) := by decide +kernel
theorem d_K_factorOf_92 : decode b_K_factorOf 92 = .ok (.iload 4, 2) := by decide +kernel
theorem d_K_factorOf_94 : decode b_K_factorOf 94 = .ok (.ireturn, 1) := by decide +kernel
theorem d_K_factorOf_95 : decode b_K_factorOf 95 = .ok (.iload 4, 2) := by decide +kernel
theorem d_K_factorOf_97 : decode b_K_factorOf 97 = .ok (.iconst 0, 1) := by decide +kernel
theorem d_K_factorOf_98 : decode b_K_factorOf 98 = .ok (.aload_n 1, 1) := by decide +kernel
theorem d_K_factorOf_99 : decode b_K_factorOf 99 = .ok (.getfield 81, 3) := by decide +kernel
theorem d_K_factorOf_102 : decode b_K_factorOf 102 = .ok (.iconst 1, 1) := by decide +kernel
theorem d_K_factorOf_103 : decode b_K_factorOf 103 = .ok (.isub, 1) := by decide +kernel
theorem d_K_factorOf_104 : decode b_K_factorOf 104 = .ok (.invokestatic 84, 3) := by decide +kernel
theorem d_K_factorOf_107 : decode b_K_factorOf 107 = .ok (.ifCond .ne 12, 3) := by decide +kernel
theorem d_K_factorOf_110 : decode b_K_factorOf 110 = .ok (.aload_n 0, 1) := by decide +kernel
theorem d_K_factorOf_111 : decode b_K_factorOf 111 = .ok (.iload_n 2, 1) := by decide +kernel
theorem d_K_factorOf_112 : decode b_K_factorOf 112 = .ok (.iload_n 2, 1) := by decide +kernel
theorem d_K_factorOf_113 : decode b_K_factorOf 113 = .ok (.iconst 1, 1) := by decide +kernel
theorem d_K_factorOf_114 : decode b_K_factorOf 114 = .ok (.invokevirtual 59, 3) := by decide +kernel
theorem d_K_factorOf_117 : decode b_K_factorOf 117 = .ok (.iconst 0, 1) := by decide +kernel
theorem d_K_factorOf_118 : decode b_K_factorOf 118 = .ok (.ireturn, 1) := by decide +kernel
theorem d_K_factorOf_119 : decode b_K_factorOf 119 = .ok (.aload_n 1, 1) := by decide +kernel
theorem d_K_factorOf_120 : decode b_K_factorOf 120 = .ok (.getfield 88, 3) := by decide +kernel
theorem d_K_factorOf_123 : decode b_K_factorOf 123 = .ok (.iload 4, 2) := by decide +kernel
theorem d_K_factorOf_125 : decode b_K_factorOf 125 = .ok (.iaload, 1) := by decide +kernel
theorem d_K_factorOf_126 : decode b_K_factorOf 126 = .ok (.ireturn, 1) := by decide +kernel
theorem d_K_markOpen_0 : decode b_K_markOpen 0 = .ok (.aload_n 0, 1) := by decide +kernel
theorem d_K_markOpen_1 : decode b_K_markOpen 1 = .ok (.getfield 18, 3) := by decide +kernel
theorem d_K_markOpen_4 : decode b_K_markOpen 4 = .ok (.iload_n 1, 1) := by decide +kernel
theorem d_K_markOpen_5 : decode b_K_markOpen 5 = .ok (.iload_n 2, 1) := by decide +kernel
theorem d_K_markOpen_6 : decode b_K_markOpen 6 = .ok (.iastore, 1) := by decide +kernel
theorem d_K_markOpen_7 : decode b_K_markOpen 7 = .ok (.aload_n 0, 1) := by decide +kernel
theorem d_K_markOpen_8 : decode b_K_markOpen 8 = .ok (.getfield 21, 3) := by decide +kernel
theorem d_K_markOpen_11 : decode b_K_markOpen 11 = .ok (.iload_n 1, 1) := by decide +kernel
theorem d_K_markOpen_12 : decode b_K_markOpen 12 = .ok (.iload_n 3, 1) := by decide +kernel
theorem d_K_markOpen_13 : decode b_K_markOpen 13 = .ok (.iastore, 1) := by decide +kernel
theorem d_K_markOpen_14 : decode b_K_markOpen 14 = .ok (.return_, 1) := by decide +kernel
theorem d_K_joined_0 : decode b_K_joined 0 = .ok (.iload_n 1, 1) := by decide +kernel
theorem d_K_joined_1 : decode b_K_joined 1 = .ok (.bipush 45, 2) := by decide +kernel
theorem d_K_joined_3 : decode b_K_joined 3 = .ok (.if_icmp .ne 9, 3) := by decide +kernel
theorem d_K_joined_6 : decode b_K_joined 6 = .ok (.iload_n 0, 1) := by decide +kernel
theorem d_K_joined_7 : decode b_K_joined 7 = .ok (.iload_n 2, 1) := by decide +kernel
theorem d_K_joined_8 : decode b_K_joined 8 = .ok (.isub, 1) := by decide +kernel
theorem d_K_joined_9 : decode b_K_joined 9 = .ok (.goto 6, 3) := by decide +kernel
theorem d_K_joined_12 : decode b_K_joined 12 = .ok (.iload_n 0, 1) := by decide +kernel
theorem d_K_joined_13 : decode b_K_joined 13 = .ok (.iload_n 2, 1) := by decide +kernel
theorem d_K_joined_14 : decode b_K_joined 14 = .ok (.iadd, 1) := by decide +kernel
theorem d_K_joined_15 : decode b_K_joined 15 = .ok (.ireturn, 1) := by decide +kernel
theorem d_S_open_0 : decode b_S_open 0 = .ok (.iload_n 1, 1) := by decide +kernel
theorem d_S_open_1 : decode b_S_open 1 = .ok (.iconst 0, 1) := by decide +kernel
theorem d_S_open_2 : decode b_S_open 2 = .ok (.iconst 1, 1) := by decide +kernel
theorem d_S_open_3 : decode b_S_open 3 = .ok (.invokestatic 56, 3) := by decide +kernel
theorem d_S_open_6 : decode b_S_open 6 = .ok (.invokestatic 91, 3) := by decide +kernel
theorem d_S_open_9 : decode b_S_open 9 = .ok (.aload_n 0, 1) := by decide +kernel
theorem d_S_open_10 : decode b_S_open 10 = .ok (.getfield 49, 3) := by decide +kernel
theorem d_S_open_13 : decode b_S_open 13 = .ok (.iconst (-1), 1) := by decide +kernel
theorem d_S_open_14 : decode b_S_open 14 = .ok (.if_icmp .eq 7, 3) := by decide +kernel
theorem d_S_open_17 : decode b_S_open 17 = .ok (.iconst 1, 1) := by decide +kernel
theorem d_S_open_18 : decode b_S_open 18 = .ok (.goto 4, 3) := by decide +kernel
theorem d_S_open_21 : decode b_S_open 21 = .ok (.iconst 0, 1) := by decide +kernel
theorem d_S_open_22 : decode b_S_open 22 = .ok (.invokestatic 74, 3) := by decide +kernel
theorem d_S_open_25 : decode b_S_open 25 = .ok (.iload_n 1, 1) := by decide +kernel
theorem d_S_open_26 : decode b_S_open 26 = .ok (.ifCond .ne 10, 3) := by decide +kernel
theorem d_S_open_29 : decode b_S_open 29 = .ok (.aload_n 0, 1) := by decide +kernel
theorem d_S_open_30 : decode b_S_open 30 = .ok (.getfield 49, 3) := by decide +kernel
theorem d_S_open_33 : decode b_S_open 33 = .ok (.goto 7, 3) := by decide +kernel
theorem d_S_open_36 : decode b_S_open 36 = .ok (.aload_n 0, 1) := by decide +kernel
theorem d_S_open_37 : decode b_S_open 37 = .ok (.getfield 52, 3) := by decide +kernel
theorem d_S_open_40 : decode b_S_open 40 = .ok (.ireturn, 1) := by decide +kernel
theorem d_S_example_0 : decode b_S_example 0 = .ok (.iload_n 1, 1) := by decide +kernel
theorem d_S_example_1 : decode b_S_example 1 = .ok (.invokestatic 88, 3) := by decide +kernel
theorem d_S_example_4 : decode b_S_example 4 = .ok (.invokestatic 91, 3) := by decide +kernel
theorem d_S_example_7 : decode b_S_example 7 = .ok (.aload_n 0, 1) := by decide +kernel
theorem d_S_example_8 : decode b_S_example 8 = .ok (.invokevirtual 101, 3) := by decide +kernel
theorem d_S_example_11 : decode b_S_example 11 = .ok (.istore_n 3, 1) := by decide +kernel
theorem d_S_example_12 : decode b_S_example 12 = .ok (.aload_n 0, 1) := by decide +kernel
theorem d_S_example_13 : decode b_S_example 13 = .ok (.getfield 25, 3) := by decide +kernel
theorem d_S_example_16 : decode b_S_example 16 = .ok (.aload_n 0, 1) := by decide +kernel
theorem d_S_example_17 : decode b_S_example 17 = .ok (.getfield 43, 3) := by decide +kernel
theorem d_S_example_20 : decode b_S_example 20 = .ok (.iload_n 1, 1) := by decide +kernel
theorem d_S_example_21 : decode b_S_example 21 = .ok (.invokevirtual 105, 3) := by decide +kernel
theorem d_S_example_24 : decode b_S_example 24 = .ok (.istore 4, 2) := by decide +kernel
theorem d_S_example_26 : decode b_S_example 26 = .ok (.iload 4, 2) := by decide +kernel
theorem d_S_example_28 : decode b_S_example 28 = .ok (.iconst (-1), 1) := by decide +kernel
theorem d_S_example_29 : decode b_S_example 29 = .ok (.if_icmp .ne 12, 3) := by decide +kernel
theorem d_S_example_32 : decode b_S_example 32 = .ok (.aload_n 0, 1) := by decide +kernel
theorem d_S_example_33 : decode b_S_example 33 = .ok (.iload_n 3, 1) := by decide +kernel
theorem d_S_example_34 : decode b_S_example 34 = .ok (.iload_n 1, 1) := by decide +kernel
theorem d_S_example_35 : decode b_S_example 35 = .ok (.invokevirtual 109, 3) := by decide +kernel
theorem d_S_example_38 : decode b_S_example 38 = .ok (.ifCond .eq 7, 3) := by decide +kernel
theorem d_S_example_41 : decode b_S_example 41 = .ok (.iconst 1, 1) := by decide +kernel
theorem d_S_example_42 : decode b_S_example 42 = .ok (.goto 4, 3) := by decide +kernel
theorem d_S_example_45 : decode b_S_example 45 = .ok (.iconst 0, 1) := by decide +kernel
theorem d_S_example_46 : decode b_S_example 46 = .ok (.invokestatic 74, 3) := by decide +kernel
theorem d_S_example_49 : decode b_S_example 49 = .ok (.iload_n 2, 1) := by decide +kernel
theorem d_S_example_50 : decode b_S_example 50 = .ok (.iconst 0, 1) := by decide +kernel
theorem d_S_example_51 : decode b_S_example 51 = .ok (.iconst 5, 1) := by decide +kernel
theorem d_S_example_52 : decode b_S_example 52 = .ok (.invokestatic 56, 3) := by decide +kernel
theorem d_S_example_55 : decode b_S_example 55 = .ok (.invokestatic 60, 3) := by decide +kernel
theorem d_S_example_58 : decode b_S_example 58 = .ok (.iload 4, 2) := by decide +kernel
theorem d_S_example_60 : decode b_S_example 60 = .ok (.iconst (-1), 1) := by decide +kernel
theorem d_S_example_61 : decode b_S_example 61 = .ok (.if_icmp .eq 7, 3) := by decide +kernel
theorem d_S_example_64 : decode b_S_example 64 = .ok (.iconst (-1), 1) := by decide +kernel
theorem d_S_example_65 : decode b_S_example 65 = .ok (.goto 15, 3) := by decide +kernel
theorem d_S_example_68 : decode b_S_example 68 = .ok (.aload_n 0, 1) := by decide +kernel
theorem d_S_example_69 : decode b_S_example 69 = .ok (.aload_n 0, 1) := by decide +kernel
theorem d_S_example_70 : decode b_S_example 70 = .ok (.getfield 18, 3) := by decide +kernel
theorem d_S_example_73 : decode b_S_example 73 = .ok (.iload_n 3, 1) := by decide +kernel
theorem d_S_example_74 : decode b_S_example 74 = .ok (.aaload, 1) := by decide +kernel
theorem d_S_example_75 : decode b_S_example 75 = .ok (.iload_n 1, 1) := by decide +kernel
theorem d_S_example_76 : decode b_S_example 76 = .ok (.iload_n 2, 1) := by decide +kernel
theorem d_S_example_77 : decode b_S_example 77 = .ok (.invokevirtual 137, 3) := by decide +kernel
theorem d_S_example_80 : decode b_S_example 80 = .ok (.ireturn, 1) := by decide +kernel
theorem d_S_firstOpenCase_0 : decode b_S_firstOpenCase 0 = .ok (.iconst 0, 1) := by decide +kernel
theorem d_S_firstOpenCase_1 : decode b_S_firstOpenCase 1 = .ok (.istore 4, 2) := by decide +kernel
theorem d_S_firstOpenCase_3 : decode b_S_firstOpenCase 3 = .ok (.iload 4, 2) := by decide +kernel
theorem d_S_firstOpenCase_5 : decode b_S_firstOpenCase 5 = .ok (.iload_n 3, 1) := by decide +kernel
theorem d_S_firstOpenCase_6 : decode b_S_firstOpenCase 6 = .ok (.if_icmp .gt 111, 3) := by decide +kernel
theorem d_S_firstOpenCase_9 : decode b_S_firstOpenCase 9 = .ok (.iconst 0, 1) := by decide +kernel
theorem d_S_firstOpenCase_10 : decode b_S_firstOpenCase 10 = .ok (.istore 5, 2) := by decide +kernel
theorem d_S_firstOpenCase_12 : decode b_S_firstOpenCase 12 = .ok (.iload 5, 2) := by decide +kernel
theorem d_S_firstOpenCase_14 : decode b_S_firstOpenCase 14 = .ok (.iload_n 3, 1) := by decide +kernel
theorem d_S_firstOpenCase_15 : decode b_S_firstOpenCase 15 = .ok (.if_icmp .gt 96, 3) := by decide +kernel
theorem d_S_firstOpenCase_18 : decode b_S_firstOpenCase 18 = .ok (.iconst 0, 1) := by decide +kernel
theorem d_S_firstOpenCase_19 : decode b_S_firstOpenCase 19 = .ok (.istore 6, 2) := by decide +kernel
theorem d_S_firstOpenCase_21 : decode b_S_firstOpenCase 21 = .ok (.iload 6, 2) := by decide +kernel
theorem d_S_firstOpenCase_23 : decode b_S_firstOpenCase 23 = .ok (.iload_n 3, 1) := by decide +kernel
theorem d_S_firstOpenCase_24 : decode b_S_firstOpenCase 24 = .ok (.if_icmp .gt 81, 3) := by decide +kernel
theorem d_S_firstOpenCase_27 : decode b_S_firstOpenCase 27 = .ok (.iconst 0, 1) := by decide +kernel
theorem d_S_firstOpenCase_28 : decode b_S_firstOpenCase 28 = .ok (.istore 7, 2) := by decide +kernel
theorem d_S_firstOpenCase_30 : decode b_S_firstOpenCase 30 = .ok (.iload 7, 2) := by decide +kernel
theorem d_S_firstOpenCase_32 : decode b_S_firstOpenCase 32 = .ok (.iload_n 3, 1) := by decide +kernel
theorem d_S_firstOpenCase_33 : decode b_S_firstOpenCase 33 = .ok (.if_icmp .gt 66, 3) := by decide +kernel
theorem d_S_firstOpenCase_36 : decode b_S_firstOpenCase 36 = .ok (.aload_n 0, 1) := by decide +kernel
theorem d_S_firstOpenCase_37 : decode b_S_firstOpenCase 37 = .ok (.getfield 32, 3) := by decide +kernel
theorem d_S_firstOpenCase_40 : decode b_S_firstOpenCase 40 = .ok (.iload 4, 2) := by decide +kernel
theorem d_S_firstOpenCase_42 : decode b_S_firstOpenCase 42 = .ok (.iload 5, 2) := by decide +kernel
theorem d_S_firstOpenCase_44 : decode b_S_firstOpenCase 44 = .ok (.iload 6, 2) := by decide +kernel
theorem d_S_firstOpenCase_46 : decode b_S_firstOpenCase 46 = .ok (.iload 7, 2) := by decide +kernel
theorem d_S_firstOpenCase_48 : decode b_S_firstOpenCase 48 = .ok (.invokevirtual 120, 3) := by decide +kernel
theorem d_S_firstOpenCase_51 : decode b_S_firstOpenCase 51 = .ok (.aload_n 0, 1) := by decide +kernel
theorem d_S_firstOpenCase_52 : decode b_S_firstOpenCase 52 = .ok (.getfield 32, 3) := by decide +kernel
theorem d_S_firstOpenCase_55 : decode b_S_firstOpenCase 55 = .ok (.aload_n 1, 1) := by decide +kernel
theorem d_S_firstOpenCase_56 : decode b_S_firstOpenCase 56 = .ok (.aload_n 0, 1) := by decide +kernel
theorem d_S_firstOpenCase_57 : decode b_S_firstOpenCase 57 = .ok (.getfield 25, 3) := by decide +kernel
theorem d_S_firstOpenCase_60 : decode b_S_firstOpenCase 60 = .ok (.aload_n 0, 1) := by decide +kernel
theorem d_S_firstOpenCase_61 : decode b_S_firstOpenCase 61 = .ok (.getfield 43, 3) := by decide +kernel
theorem d_S_firstOpenCase_64 : decode b_S_firstOpenCase 64 = .ok (.iload_n 2, 1) := by decide +kernel
theorem d_S_firstOpenCase_65 : decode b_S_firstOpenCase 65 = .ok (.invokevirtual 124, 3) := by decide +kernel
theorem d_S_firstOpenCase_68 : decode b_S_firstOpenCase 68 = .ok (.ifCond .eq 25, 3) := by decide +kernel
theorem d_S_firstOpenCase_71 : decode b_S_firstOpenCase 71 = .ok (.iload 4, 2) := by decide +kernel
theorem d_S_firstOpenCase_73 : decode b_S_firstOpenCase 73 = .ok (.sipush 1000, 3) := by decide +kernel
theorem d_S_firstOpenCase_76 : decode b_S_firstOpenCase 76 = .ok (.imul, 1) := by decide +kernel
theorem d_S_firstOpenCase_77 : decode b_S_firstOpenCase 77 = .ok (.iload 5, 2) := by decide +kernel
theorem d_S_firstOpenCase_79 : decode b_S_firstOpenCase 79 = .ok (.bipush 100, 2) := by decide +kernel
theorem d_S_firstOpenCase_81 : decode b_S_firstOpenCase 81 = .ok (.imul, 1) := by decide +kernel
theorem d_S_firstOpenCase_82 : decode b_S_firstOpenCase 82 = .ok (.iadd, 1) := by decide +kernel
theorem d_S_firstOpenCase_83 : decode b_S_firstOpenCase 83 = .ok (.iload 6, 2) := by decide +kernel
theorem d_S_firstOpenCase_85 : decode b_S_firstOpenCase 85 = .ok (.bipush 10, 2) := by decide +kernel
theorem d_S_firstOpenCase_87 : decode b_S_firstOpenCase 87 = .ok (.imul, 1) := by decide +kernel
theorem d_S_firstOpenCase_88 : decode b_S_firstOpenCase 88 = .ok (.iadd, 1) := by decide +kernel
theorem d_S_firstOpenCase_89 : decode b_S_firstOpenCase 89 = .ok (.iload 7, 2) := by decide +kernel
theorem d_S_firstOpenCase_91 : decode b_S_firstOpenCase 91 = .ok (.iadd, 1) := by decide +kernel
theorem d_S_firstOpenCase_92 : decode b_S_firstOpenCase 92 = .ok (.ireturn, 1) := by decide +kernel
theorem d_S_firstOpenCase_93 : decode b_S_firstOpenCase 93 = .ok (.iinc 7 1, 3) := by decide +kernel
theorem d_S_firstOpenCase_96 : decode b_S_firstOpenCase 96 = .ok (.goto (-66), 3) := by decide +kernel
theorem d_S_firstOpenCase_99 : decode b_S_firstOpenCase 99 = .ok (.iinc 6 1, 3) := by decide +kernel
theorem d_S_firstOpenCase_102 : decode b_S_firstOpenCase 102 = .ok (.goto (-81), 3) := by decide +kernel
theorem d_S_firstOpenCase_105 : decode b_S_firstOpenCase 105 = .ok (.iinc 5 1, 3) := by decide +kernel
theorem d_S_firstOpenCase_108 : decode b_S_firstOpenCase 108 = .ok (.goto (-96), 3) := by decide +kernel
theorem d_S_firstOpenCase_111 : decode b_S_firstOpenCase 111 = .ok (.iinc 4 1, 3) := by decide +kernel
theorem d_S_firstOpenCase_114 : decode b_S_firstOpenCase 114 = .ok (.goto (-111), 3) := by decide +kernel
theorem d_S_firstOpenCase_117 : decode b_S_firstOpenCase 117 = .ok (.iconst (-1), 1) := by decide +kernel
theorem d_S_firstOpenCase_118 : decode b_S_firstOpenCase 118 = .ok (.ireturn, 1) := by decide +kernel
theorem d_S_told_0 : decode b_S_told 0 = .ok (.iload_n 1, 1) := by decide +kernel
theorem d_S_told_1 : decode b_S_told 1 = .ok (.iconst 0, 1) := by decide +kernel
theorem d_S_told_2 : decode b_S_told 2 = .ok (.iconst 4, 1) := by decide +kernel
theorem d_S_told_3 : decode b_S_told 3 = .ok (.invokestatic 56, 3) := by decide +kernel
theorem d_S_told_6 : decode b_S_told 6 = .ok (.invokestatic 91, 3) := by decide +kernel
theorem d_S_told_9 : decode b_S_told 9 = .ok (.aload_n 0, 1) := by decide +kernel
theorem d_S_told_10 : decode b_S_told 10 = .ok (.invokevirtual 101, 3) := by decide +kernel
theorem d_S_told_13 : decode b_S_told 13 = .ok (.istore_n 2, 1) := by decide +kernel
theorem d_S_told_14 : decode b_S_told 14 = .ok (.iload_n 1, 1) := by decide +kernel
theorem d_S_told_15 : decode b_S_told 15 = .ok (.tableswitch 67 0 3 #[29, 31, 50, 62], 29) := by decide +kernel
theorem d_S_told_44 : decode b_S_told 44 = .ok (.iload_n 2, 1) := by decide +kernel
theorem d_S_told_45 : decode b_S_told 45 = .ok (.ireturn, 1) := by decide +kernel
theorem d_S_told_46 : decode b_S_told 46 = .ok (.iload_n 2, 1) := by decide +kernel
theorem d_S_told_47 : decode b_S_told 47 = .ok (.iconst (-1), 1) := by decide +kernel
theorem d_S_told_48 : decode b_S_told 48 = .ok (.if_icmp .ne 7, 3) := by decide +kernel
theorem d_S_told_51 : decode b_S_told 51 = .ok (.iconst 0, 1) := by decide +kernel
theorem d_S_told_52 : decode b_S_told 52 = .ok (.goto 12, 3) := by decide +kernel
theorem d_S_told_55 : decode b_S_told 55 = .ok (.aload_n 0, 1) := by decide +kernel
theorem d_S_told_56 : decode b_S_told 56 = .ok (.getfield 18, 3) := by decide +kernel
theorem d_S_told_59 : decode b_S_told 59 = .ok (.iload_n 2, 1) := by decide +kernel
theorem d_S_told_60 : decode b_S_told 60 = .ok (.aaload, 1) := by decide +kernel
theorem d_S_told_61 : decode b_S_told 61 = .ok (.getfield 141, 3) := by decide +kernel
theorem d_S_told_64 : decode b_S_told 64 = .ok (.ireturn, 1) := by decide +kernel
theorem d_S_told_65 : decode b_S_told 65 = .ok (.aload_n 0, 1) := by decide +kernel
theorem d_S_told_66 : decode b_S_told 66 = .ok (.getfield 25, 3) := by decide +kernel
theorem d_S_told_69 : decode b_S_told 69 = .ok (.aload_n 0, 1) := by decide +kernel
theorem d_S_told_70 : decode b_S_told 70 = .ok (.getfield 43, 3) := by decide +kernel
theorem d_S_told_73 : decode b_S_told 73 = .ok (.invokevirtual 144, 3) := by decide +kernel
theorem d_S_told_76 : decode b_S_told 76 = .ok (.ireturn, 1) := by decide +kernel
theorem d_S_told_77 : decode b_S_told 77 = .ok (.aload_n 0, 1) := by decide +kernel
theorem d_S_told_78 : decode b_S_told 78 = .ok (.getfield 43, 3) := by decide +kernel
theorem d_S_told_81 : decode b_S_told 81 = .ok (.ireturn, 1) := by decide +kernel
theorem d_S_told_82 : decode b_S_told 82 = .ok (.aload_n 0, 1) := by decide +kernel
theorem d_S_told_83 : decode b_S_told 83 = .ok (.getfield 46, 3) := by decide +kernel
theorem d_S_told_86 : decode b_S_told 86 = .ok (.ireturn, 1) := by decide +kernel
theorem d_C_changedRules_0 : decode b_C_changedRules 0 = .ok (.iconst 0, 1) := by decide +kernel
theorem d_C_changedRules_1 : decode b_C_changedRules 1 = .ok (.istore_n 2, 1) := by decide +kernel
theorem d_C_changedRules_2 : decode b_C_changedRules 2 = .ok (.iconst 0, 1) := by decide +kernel
theorem d_C_changedRules_3 : decode b_C_changedRules 3 = .ok (.istore_n 3, 1) := by decide +kernel
theorem d_C_changedRules_4 : decode b_C_changedRules 4 = .ok (.iload_n 3, 1) := by decide +kernel
theorem d_C_changedRules_5 : decode b_C_changedRules 5 = .ok (.bipush 8, 2) := by decide +kernel
theorem d_C_changedRules_7 : decode b_C_changedRules 7 = .ok (.if_icmp .ge 22, 3) := by decide +kernel
theorem d_C_changedRules_10 : decode b_C_changedRules 10 = .ok (.aload_n 0, 1) := by decide +kernel
theorem d_C_changedRules_11 : decode b_C_changedRules 11 = .ok (.iload_n 1, 1) := by decide +kernel
theorem d_C_changedRules_12 : decode b_C_changedRules 12 = .ok (.iload_n 3, 1) := by decide +kernel
theorem d_C_changedRules_13 : decode b_C_changedRules 13 = .ok (.invokevirtual 31, 3) := by decide +kernel
theorem d_C_changedRules_16 : decode b_C_changedRules 16 = .ok (.iconst (-1), 1) := by decide +kernel
theorem d_C_changedRules_17 : decode b_C_changedRules 17 = .ok (.if_icmp .eq 6, 3) := by decide +kernel
theorem d_C_changedRules_20 : decode b_C_changedRules 20 = .ok (.iinc 2 1, 3) := by decide +kernel
theorem d_C_changedRules_23 : decode b_C_changedRules 23 = .ok (.iinc 3 1, 3) := by decide +kernel
theorem d_C_changedRules_26 : decode b_C_changedRules 26 = .ok (.goto (-22), 3) := by decide +kernel
theorem d_C_changedRules_29 : decode b_C_changedRules 29 = .ok (.iload_n 2, 1) := by decide +kernel
theorem d_C_changedRules_30 : decode b_C_changedRules 30 = .ok (.ireturn, 1) := by decide +kernel
theorem d_S_agreed_0 : decode b_S_agreed 0 = .ok (.iload_n 1, 1) := by decide +kernel
theorem d_S_agreed_1 : decode b_S_agreed 1 = .ok (.invokestatic 88, 3) := by decide +kernel
theorem d_S_agreed_4 : decode b_S_agreed 4 = .ok (.invokestatic 91, 3) := by decide +kernel
theorem d_S_agreed_7 : decode b_S_agreed 7 = .ok (.aload_n 0, 1) := by decide +kernel
theorem d_S_agreed_8 : decode b_S_agreed 8 = .ok (.getfield 25, 3) := by decide +kernel
theorem d_S_agreed_11 : decode b_S_agreed 11 = .ok (.aload_n 0, 1) := by decide +kernel
theorem d_S_agreed_12 : decode b_S_agreed 12 = .ok (.getfield 43, 3) := by decide +kernel
theorem d_S_agreed_15 : decode b_S_agreed 15 = .ok (.iload_n 1, 1) := by decide +kernel
theorem d_S_agreed_16 : decode b_S_agreed 16 = .ok (.invokevirtual 105, 3) := by decide +kernel
theorem d_S_agreed_19 : decode b_S_agreed 19 = .ok (.ireturn, 1) := by decide +kernel
theorem d_S_table_0 : decode b_S_table 0 = .ok (.iload_n 1, 1) := by decide +kernel
theorem d_S_table_1 : decode b_S_table 1 = .ok (.iconst 0, 1) := by decide +kernel
theorem d_S_table_2 : decode b_S_table 2 = .ok (.aload_n 0, 1) := by decide +kernel
theorem d_S_table_3 : decode b_S_table 3 = .ok (.getfield 36, 3) := by decide +kernel
theorem d_S_table_6 : decode b_S_table 6 = .ok (.iconst 1, 1) := by decide +kernel
theorem d_S_table_7 : decode b_S_table 7 = .ok (.isub, 1) := by decide +kernel
theorem d_S_table_8 : decode b_S_table 8 = .ok (.invokestatic 56, 3) := by decide +kernel
theorem d_S_table_11 : decode b_S_table 11 = .ok (.invokestatic 91, 3) := by decide +kernel
theorem d_S_table_14 : decode b_S_table 14 = .ok (.aload_n 0, 1) := by decide +kernel
theorem d_S_table_15 : decode b_S_table 15 = .ok (.getfield 18, 3) := by decide +kernel
theorem d_S_table_18 : decode b_S_table 18 = .ok (.iload_n 1, 1) := by decide +kernel
theorem d_S_table_19 : decode b_S_table 19 = .ok (.aaload, 1) := by decide +kernel
theorem d_S_table_20 : decode b_S_table 20 = .ok (.astore_n 3, 1) := by decide +kernel
theorem d_S_table_21 : decode b_S_table 21 = .ok (.iload_n 2, 1) := by decide +kernel
theorem d_S_table_22 : decode b_S_table 22 = .ok (.iconst (-1), 1) := by decide +kernel
theorem d_S_table_23 : decode b_S_table 23 = .ok (.aload_n 3, 1) := by decide +kernel
theorem d_S_table_24 : decode b_S_table 24 = .ok (.getfield 148, 3) := by decide +kernel
theorem d_S_table_27 : decode b_S_table 27 = .ok (.iconst 1, 1) := by decide +kernel
theorem d_S_table_28 : decode b_S_table 28 = .ok (.isub, 1) := by decide +kernel
theorem d_S_table_29 : decode b_S_table 29 = .ok (.invokestatic 56, 3) := by decide +kernel
theorem d_S_table_32 : decode b_S_table 32 = .ok (.invokestatic 91, 3) := by decide +kernel
theorem d_S_table_35 : decode b_S_table 35 = .ok (.iload_n 2, 1) := by decide +kernel
theorem d_S_table_36 : decode b_S_table 36 = .ok (.iconst (-1), 1) := by decide +kernel
theorem d_S_table_37 : decode b_S_table 37 = .ok (.if_icmp .ne 10, 3) := by decide +kernel
theorem d_S_table_40 : decode b_S_table 40 = .ok (.aload_n 3, 1) := by decide +kernel
theorem d_S_table_41 : decode b_S_table 41 = .ok (.getfield 148, 3) := by decide +kernel
theorem d_S_table_44 : decode b_S_table 44 = .ok (.goto 9, 3) := by decide +kernel
theorem d_S_table_47 : decode b_S_table 47 = .ok (.aload_n 3, 1) := by decide +kernel
theorem d_S_table_48 : decode b_S_table 48 = .ok (.getfield 151, 3) := by decide +kernel
theorem d_S_table_51 : decode b_S_table 51 = .ok (.iload_n 2, 1) := by decide +kernel
theorem d_S_table_52 : decode b_S_table 52 = .ok (.iaload, 1) := by decide +kernel
theorem d_S_table_53 : decode b_S_table 53 = .ok (.ireturn, 1) := by decide +kernel
