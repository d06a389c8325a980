theorem d_M_factor_5 : decode b_M_factor 5 = .ok (.iaload, 1) := by decide +kernel
theorem d_M_factor_6 : decode b_M_factor 6 = .ok (.iconst 3, 1) := by decide +kernel
theorem d_M_factor_7 : decode b_M_factor 7 = .ok (.irem, 1) := by decide +kernel
theorem d_M_factor_8 : decode b_M_factor 8 = .ok (.istore 4, 2) := by decide +kernel
theorem d_M_factor_10 : decode b_M_factor 10 = .ok (.aload_n 0, 1) := by decide +kernel
theorem d_M_factor_11 : decode b_M_factor 11 = .ok (.getfield 44, 3) := by decide +kernel
theorem d_M_factor_14 : decode b_M_factor 14 = .ok (.iload_n 3, 1) := by decide +kernel
theorem d_M_factor_15 : decode b_M_factor 15 = .ok (.iaload, 1) := by decide +kernel
theorem d_M_factor_16 : decode b_M_factor 16 = .ok (.istore 5, 2) := by decide +kernel
theorem d_M_factor_18 : decode b_M_factor 18 = .ok (.iload 4, 2) := by decide +kernel
theorem d_M_factor_20 : decode b_M_factor 20 = .ok (.iconst 1, 1) := by decide +kernel
theorem d_M_factor_21 : decode b_M_factor 21 = .ok (.if_icmp .ne 16, 3) := by decide +kernel
theorem d_M_factor_24 : decode b_M_factor 24 = .ok (.aload_n 0, 1) := by decide +kernel
theorem d_M_factor_25 : decode b_M_factor 25 = .ok (.getfield 68, 3) := by decide +kernel
theorem d_M_factor_28 : decode b_M_factor 28 = .ok (.aload_n 0, 1) := by decide +kernel
theorem d_M_factor_29 : decode b_M_factor 29 = .ok (.getfield 44, 3) := by decide +kernel
theorem d_M_factor_32 : decode b_M_factor 32 = .ok (.iload_n 3, 1) := by decide +kernel
theorem d_M_factor_33 : decode b_M_factor 33 = .ok (.iaload, 1) := by decide +kernel
theorem d_M_factor_34 : decode b_M_factor 34 = .ok (.iaload, 1) := by decide +kernel
theorem d_M_factor_35 : decode b_M_factor 35 = .ok (.istore 5, 2) := by decide +kernel
theorem d_M_factor_37 : decode b_M_factor 37 = .ok (.iload 4, 2) := by decide +kernel
theorem d_M_factor_39 : decode b_M_factor 39 = .ok (.iconst 2, 1) := by decide +kernel
theorem d_M_factor_40 : decode b_M_factor 40 = .ok (.if_icmp .ne 89, 3) := by decide +kernel
theorem d_M_factor_43 : decode b_M_factor 43 = .ok (.aload_n 0, 1) := by decide +kernel
theorem d_M_factor_44 : decode b_M_factor 44 = .ok (.aload_n 0, 1) := by decide +kernel
theorem d_M_factor_45 : decode b_M_factor 45 = .ok (.getfield 44, 3) := by decide +kernel
theorem d_M_factor_48 : decode b_M_factor 48 = .ok (.iload_n 3, 1) := by decide +kernel
theorem d_M_factor_49 : decode b_M_factor 49 = .ok (.iaload, 1) := by decide +kernel
theorem d_M_factor_50 : decode b_M_factor 50 = .ok (.invokevirtual 151, 3) := by decide +kernel
theorem d_M_factor_53 : decode b_M_factor 53 = .ok (.istore 6, 2) := by decide +kernel
theorem d_M_factor_55 : decode b_M_factor 55 = .ok (.iload 6, 2) := by decide +kernel
theorem d_M_factor_57 : decode b_M_factor 57 = .ok (.ifCond .lt 13, 3) := by decide +kernel
theorem d_M_factor_60 : decode b_M_factor 60 = .ok (.aload_n 0, 1) := by decide +kernel
theorem d_M_factor_61 : decode b_M_factor 61 = .ok (.getfield 56, 3) := by decide +kernel
theorem d_M_factor_64 : decode b_M_factor 64 = .ok (.iload 6, 2) := by decide +kernel
theorem d_M_factor_66 : decode b_M_factor 66 = .ok (.iaload, 1) := by decide +kernel
theorem d_M_factor_67 : decode b_M_factor 67 = .ok (.goto 14, 3) := by decide +kernel
theorem d_M_factor_70 : decode b_M_factor 70 = .ok (.aload_n 0, 1) := by decide +kernel
theorem d_M_factor_71 : decode b_M_factor 71 = .ok (.getfield 59, 3) := by decide +kernel
theorem d_M_factor_74 : decode b_M_factor 74 = .ok (.aload_n 0, 1) := by decide +kernel
theorem d_M_factor_75 : decode b_M_factor 75 = .ok (.getfield 44, 3) := by decide +kernel
theorem d_M_factor_78 : decode b_M_factor 78 = .ok (.iload_n 3, 1) := by decide +kernel
theorem d_M_factor_79 : decode b_M_factor 79 = .ok (.iaload, 1) := by decide +kernel
theorem d_M_factor_80 : decode b_M_factor 80 = .ok (.iaload, 1) := by decide +kernel
theorem d_M_factor_81 : decode b_M_factor 81 = .ok (.istore 5, 2) := by decide +kernel
theorem d_M_factor_83 : decode b_M_factor 83 = .ok (.iload 6, 2) := by decide +kernel
theorem d_M_factor_85 : decode b_M_factor 85 = .ok (.ifCond .ge 44, 3) := by decide +kernel
theorem d_M_factor_88 : decode b_M_factor 88 = .ok (.aload_n 0, 1) := by decide +kernel
theorem d_M_factor_89 : decode b_M_factor 89 = .ok (.getfield 62, 3) := by decide +kernel
theorem d_M_factor_92 : decode b_M_factor 92 = .ok (.aload_n 0, 1) := by decide +kernel
theorem d_M_factor_93 : decode b_M_factor 93 = .ok (.getfield 44, 3) := by decide +kernel
theorem d_M_factor_96 : decode b_M_factor 96 = .ok (.iload_n 3, 1) := by decide +kernel
theorem d_M_factor_97 : decode b_M_factor 97 = .ok (.iaload, 1) := by decide +kernel
theorem d_M_factor_98 : decode b_M_factor 98 = .ok (.iaload, 1) := by decide +kernel
theorem d_M_factor_99 : decode b_M_factor 99 = .ok (.ifCond .lt 30, 3) := by decide +kernel
theorem d_M_factor_102 : decode b_M_factor 102 = .ok (.aload_n 0, 1) := by decide +kernel
theorem d_M_factor_103 : decode b_M_factor 103 = .ok (.iload_n 2, 1) := by decide +kernel
theorem d_M_factor_104 : decode b_M_factor 104 = .ok (.aload_n 0, 1) := by decide +kernel
theorem d_M_factor_105 : decode b_M_factor 105 = .ok (.getfield 62, 3) := by decide +kernel
theorem d_M_factor_108 : decode b_M_factor 108 = .ok (.aload_n 0, 1) := by decide +kernel
theorem d_M_factor_109 : decode b_M_factor 109 = .ok (.getfield 44, 3) := by decide +kernel
theorem d_M_factor_112 : decode b_M_factor 112 = .ok (.iload_n 3, 1) := by decide +kernel
theorem d_M_factor_113 : decode b_M_factor 113 = .ok (.iaload, 1) := by decide +kernel
theorem d_M_factor_114 : decode b_M_factor 114 = .ok (.iaload, 1) := by decide +kernel
theorem d_M_factor_115 : decode b_M_factor 115 = .ok (.aload_n 0, 1) := by decide +kernel
theorem d_M_factor_116 : decode b_M_factor 116 = .ok (.getfield 65, 3) := by decide +kernel
theorem d_M_factor_119 : decode b_M_factor 119 = .ok (.aload_n 0, 1) := by decide +kernel
theorem d_M_factor_120 : decode b_M_factor 120 = .ok (.getfield 44, 3) := by decide +kernel
theorem d_M_factor_123 : decode b_M_factor 123 = .ok (.iload_n 3, 1) := by decide +kernel
theorem d_M_factor_124 : decode b_M_factor 124 = .ok (.iaload, 1) := by decide +kernel
theorem d_M_factor_125 : decode b_M_factor 125 = .ok (.iaload, 1) := by decide +kernel
theorem d_M_factor_126 : decode b_M_factor 126 = .ok (.invokevirtual 154, 3) := by decide +kernel
theorem d_M_factor_129 : decode b_M_factor 129 = .ok (.aload_n 0, 1) := by decide +kernel
theorem d_M_factor_130 : decode b_M_factor 130 = .ok (.getfield 41, 3) := by decide +kernel
theorem d_M_factor_133 : decode b_M_factor 133 = .ok (.iload_n 3, 1) := by decide +kernel
theorem d_M_factor_134 : decode b_M_factor 134 = .ok (.iaload, 1) := by decide +kernel
theorem d_M_factor_135 : decode b_M_factor 135 = .ok (.iconst 3, 1) := by decide +kernel
theorem d_M_factor_136 : decode b_M_factor 136 = .ok (.if_icmp .lt 12, 3) := by decide +kernel
theorem d_M_factor_139 : decode b_M_factor 139 = .ok (.aload_n 0, 1) := by decide +kernel
theorem d_M_factor_140 : decode b_M_factor 140 = .ok (.getfield 62, 3) := by decide +kernel
theorem d_M_factor_143 : decode b_M_factor 143 = .ok (.iload_n 2, 1) := by decide +kernel
theorem d_M_factor_144 : decode b_M_factor 144 = .ok (.iaload, 1) := by decide +kernel
theorem d_M_factor_145 : decode b_M_factor 145 = .ok (.ifCond .lt 6, 3) := by decide +kernel
theorem d_M_factor_148 : decode b_M_factor 148 = .ok (.iload 5, 2) := by decide +kernel
theorem d_M_factor_150 : decode b_M_factor 150 = .ok (.ireturn, 1) := by decide +kernel
theorem d_M_factor_151 : decode b_M_factor 151 = .ok (.iload 5, 2) := by decide +kernel
theorem d_M_factor_153 : decode b_M_factor 153 = .ok (.iconst 0, 1) := by decide +kernel
theorem d_M_factor_154 : decode b_M_factor 154 = .ok (.aload_n 0, 1) := by decide +kernel
theorem d_M_factor_155 : decode b_M_factor 155 = .ok (.getfield 20, 3) := by decide +kernel
theorem d_M_factor_158 : decode b_M_factor 158 = .ok (.iload_n 1, 1) := by decide +kernel
theorem d_M_factor_159 : decode b_M_factor 159 = .ok (.iaload, 1) := by decide +kernel
theorem d_M_factor_160 : decode b_M_factor 160 = .ok (.iconst 1, 1) := by decide +kernel
theorem d_M_factor_161 : decode b_M_factor 161 = .ok (.isub, 1) := by decide +kernel
theorem d_M_factor_162 : decode b_M_factor 162 = .ok (.invokestatic 77, 3) := by decide +kernel
theorem d_M_factor_165 : decode b_M_factor 165 = .ok (.ifCond .ne 12, 3) := by decide +kernel
theorem d_M_factor_168 : decode b_M_factor 168 = .ok (.aload_n 0, 1) := by decide +kernel
theorem d_M_factor_169 : decode b_M_factor 169 = .ok (.iload_n 2, 1) := by decide +kernel
theorem d_M_factor_170 : decode b_M_factor 170 = .ok (.iload_n 2, 1) := by decide +kernel
theorem d_M_factor_171 : decode b_M_factor 171 = .ok (.iconst 1, 1) := by decide +kernel
theorem d_M_factor_172 : decode b_M_factor 172 = .ok (.invokevirtual 154, 3) := by decide +kernel
theorem d_M_factor_175 : decode b_M_factor 175 = .ok (.iconst 0, 1) := by decide +kernel
theorem d_M_factor_176 : decode b_M_factor 176 = .ok (.ireturn, 1) := by decide +kernel
theorem d_M_factor_177 : decode b_M_factor 177 = .ok (.aload_n 0, 1) := by decide +kernel
theorem d_M_factor_178 : decode b_M_factor 178 = .ok (.getfield 23, 3) := by decide +kernel
theorem d_M_factor_181 : decode b_M_factor 181 = .ok (.bipush 8, 2) := by decide +kernel
theorem d_M_factor_183 : decode b_M_factor 183 = .ok (.iload_n 1, 1) := by decide +kernel
theorem d_M_factor_184 : decode b_M_factor 184 = .ok (.imul, 1) := by decide +kernel
theorem d_M_factor_185 : decode b_M_factor 185 = .ok (.iload 5, 2) := by decide +kernel
theorem d_M_factor_187 : decode b_M_factor 187 = .ok (.iadd, 1) := by decide +kernel
theorem d_M_factor_188 : decode b_M_factor 188 = .ok (.iaload, 1) := by decide +kernel
theorem d_M_factor_189 : decode b_M_factor 189 = .ok (.ireturn, 1) := by decide +kernel
theorem d_M_leave_0 : decode b_M_leave 0 = .ok (.aload_n 0, 1) := by decide +kernel
theorem d_M_leave_1 : decode b_M_leave 1 = .ok (.getfield 62, 3) := by decide +kernel
theorem d_M_leave_4 : decode b_M_leave 4 = .ok (.iload_n 1, 1) := by decide +kernel
theorem d_M_leave_5 : decode b_M_leave 5 = .ok (.iaload, 1) := by decide +kernel
theorem d_M_leave_6 : decode b_M_leave 6 = .ok (.ifCond .lt 4, 3) := by decide +kernel
theorem d_M_leave_9 : decode b_M_leave 9 = .ok (.return_, 1) := by decide +kernel
theorem d_M_leave_10 : decode b_M_leave 10 = .ok (.aload_n 0, 1) := by decide +kernel
theorem d_M_leave_11 : decode b_M_leave 11 = .ok (.getfield 62, 3) := by decide +kernel
theorem d_M_leave_14 : decode b_M_leave 14 = .ok (.iload_n 1, 1) := by decide +kernel
theorem d_M_leave_15 : decode b_M_leave 15 = .ok (.iload_n 2, 1) := by decide +kernel
theorem d_M_leave_16 : decode b_M_leave 16 = .ok (.iastore, 1) := by decide +kernel
theorem d_M_leave_17 : decode b_M_leave 17 = .ok (.aload_n 0, 1) := by decide +kernel
theorem d_M_leave_18 : decode b_M_leave 18 = .ok (.getfield 65, 3) := by decide +kernel
theorem d_M_leave_21 : decode b_M_leave 21 = .ok (.iload_n 1, 1) := by decide +kernel
theorem d_M_leave_22 : decode b_M_leave 22 = .ok (.iload_n 3, 1) := by decide +kernel
theorem d_M_leave_23 : decode b_M_leave 23 = .ok (.iastore, 1) := by decide +kernel
theorem d_M_leave_24 : decode b_M_leave 24 = .ok (.return_, 1) := by decide +kernel
theorem d_M_open_0 : decode b_M_open 0 = .ok (.aload_n 0, 1) := by decide +kernel
theorem d_M_open_1 : decode b_M_open 1 = .ok (.iload_n 1, 1) := by decide +kernel
theorem d_M_open_2 : decode b_M_open 2 = .ok (.iconst 0, 1) := by decide +kernel
theorem d_M_open_3 : decode b_M_open 3 = .ok (.iconst 1, 1) := by decide +kernel
theorem d_M_open_4 : decode b_M_open 4 = .ok (.invokestatic 77, 3) := by decide +kernel
theorem d_M_open_7 : decode b_M_open 7 = .ok (.ifCond .ne 7, 3) := by decide +kernel
theorem d_M_open_10 : decode b_M_open 10 = .ok (.iconst 1, 1) := by decide +kernel
theorem d_M_open_11 : decode b_M_open 11 = .ok (.goto 4, 3) := by decide +kernel
theorem d_M_open_14 : decode b_M_open 14 = .ok (.iconst 0, 1) := by decide +kernel
theorem d_M_open_15 : decode b_M_open 15 = .ok (.aload_n 0, 1) := by decide +kernel
theorem d_M_open_16 : decode b_M_open 16 = .ok (.getfield 71, 3) := by decide +kernel
theorem d_M_open_19 : decode b_M_open 19 = .ok (.ifCond .ge 7, 3) := by decide +kernel
theorem d_M_open_22 : decode b_M_open 22 = .ok (.iconst 1, 1) := by decide +kernel
theorem d_M_open_23 : decode b_M_open 23 = .ok (.goto 4, 3) := by decide +kernel
theorem d_M_open_26 : decode b_M_open 26 = .ok (.iconst 0, 1) := by decide +kernel
theorem d_M_open_27 : decode b_M_open 27 = .ok (.iconst 0, 1) := by decide +kernel
theorem d_M_open_28 : decode b_M_open 28 = .ok (.iconst 0, 1) := by decide +kernel
theorem d_M_open_29 : decode b_M_open 29 = .ok (.invokevirtual 84, 3) := by decide +kernel
theorem d_M_open_32 : decode b_M_open 32 = .ok (.ifCond .eq 5, 3) := by decide +kernel
theorem d_M_open_35 : decode b_M_open 35 = .ok (.iconst 0, 1) := by decide +kernel
theorem d_M_open_36 : decode b_M_open 36 = .ok (.ireturn, 1) := by decide +kernel
theorem d_M_open_37 : decode b_M_open 37 = .ok (.iload_n 1, 1) := by decide +kernel
theorem d_M_open_38 : decode b_M_open 38 = .ok (.ifCond .ne 10, 3) := by decide +kernel
theorem d_M_open_41 : decode b_M_open 41 = .ok (.aload_n 0, 1) := by decide +kernel
theorem d_M_open_42 : decode b_M_open 42 = .ok (.getfield 71, 3) := by decide +kernel
theorem d_M_open_45 : decode b_M_open 45 = .ok (.goto 7, 3) := by decide +kernel
theorem d_M_open_48 : decode b_M_open 48 = .ok (.aload_n 0, 1) := by decide +kernel
theorem d_M_open_49 : decode b_M_open 49 = .ok (.getfield 173, 3) := by decide +kernel
theorem d_M_open_52 : decode b_M_open 52 = .ok (.ireturn, 1) := by decide +kernel
theorem d_M_example_0 : decode b_M_example 0 = .ok (.iload_n 1, 1) := by decide +kernel
theorem d_M_example_1 : decode b_M_example 1 = .ok (.iconst 0, 1) := by decide +kernel
theorem d_M_example_2 : decode b_M_example 2 = .ok (.bipush 7, 2) := by decide +kernel
theorem d_M_example_4 : decode b_M_example 4 = .ok (.invokestatic 77, 3) := by decide +kernel
theorem d_M_example_7 : decode b_M_example 7 = .ok (.ifCond .ne 7, 3) := by decide +kernel
theorem d_M_example_10 : decode b_M_example 10 = .ok (.iconst 1, 1) := by decide +kernel
theorem d_M_example_11 : decode b_M_example 11 = .ok (.goto 4, 3) := by decide +kernel
theorem d_M_example_14 : decode b_M_example 14 = .ok (.iconst 0, 1) := by decide +kernel
theorem d_M_example_15 : decode b_M_example 15 = .ok (.istore_n 3, 1) := by decide +kernel
theorem d_M_example_16 : decode b_M_example 16 = .ok (.aload_n 0, 1) := by decide +kernel
theorem d_M_example_17 : decode b_M_example 17 = .ok (.invokevirtual 162, 3) := by decide +kernel
theorem d_M_example_20 : decode b_M_example 20 = .ok (.istore 4, 2) := by decide +kernel
theorem d_M_example_22 : decode b_M_example 22 = .ok (.aload_n 0, 1) := by decide +kernel
theorem d_M_example_23 : decode b_M_example 23 = .ok (.iload 4, 2) := by decide +kernel
theorem d_M_example_25 : decode b_M_example 25 = .ok (.iload_n 1, 1) := by decide +kernel
theorem d_M_example_26 : decode b_M_example 26 = .ok (.invokevirtual 165, 3) := by decide +kernel
theorem d_M_example_29 : decode b_M_example 29 = .ok (.istore 5, 2) := by decide +kernel
theorem d_M_example_31 : decode b_M_example 31 = .ok (.aload_n 0, 1) := by decide +kernel
theorem d_M_example_32 : decode b_M_example 32 = .ok (.iload_n 1, 1) := by decide +kernel
theorem d_M_example_33 : decode b_M_example 33 = .ok (.invokevirtual 151, 3) := by decide +kernel
theorem d_M_example_36 : decode b_M_example 36 = .ok (.istore 6, 2) := by decide +kernel
theorem d_M_example_38 : decode b_M_example 38 = .ok (.aload_n 0, 1) := by decide +kernel
theorem d_M_example_39 : decode b_M_example 39 = .ok (.iload_n 3, 1) := by decide +kernel
theorem d_M_example_40 : decode b_M_example 40 = .ok (.iload 5, 2) := by decide +kernel
theorem d_M_example_42 : decode b_M_example 42 = .ok (.ifCond .ge 12, 3) := by decide +kernel
theorem d_M_example_45 : decode b_M_example 45 = .ok (.iload 6, 2) := by decide +kernel
theorem d_M_example_47 : decode b_M_example 47 = .ok (.ifCond .ge 7, 3) := by decide +kernel
theorem d_M_example_50 : decode b_M_example 50 = .ok (.iconst 1, 1) := by decide +kernel
theorem d_M_example_51 : decode b_M_example 51 = .ok (.goto 4, 3) := by decide +kernel
theorem d_M_example_54 : decode b_M_example 54 = .ok (.iconst 0, 1) := by decide +kernel
theorem d_M_example_55 : decode b_M_example 55 = .ok (.iload_n 2, 1) := by decide +kernel
theorem d_M_example_56 : decode b_M_example 56 = .ok (.iconst 0, 1) := by decide +kernel
theorem d_M_example_57 : decode b_M_example 57 = .ok (.iconst 5, 1) := by decide +kernel
theorem d_M_example_58 : decode b_M_example 58 = .ok (.invokestatic 77, 3) := by decide +kernel
theorem d_M_example_61 : decode b_M_example 61 = .ok (.ifCond .ne 7, 3) := by decide +kernel
theorem d_M_example_64 : decode b_M_example 64 = .ok (.iconst 1, 1) := by decide +kernel
theorem d_M_example_65 : decode b_M_example 65 = .ok (.goto 4, 3) := by decide +kernel
theorem d_M_example_68 : decode b_M_example 68 = .ok (.iconst 0, 1) := by decide +kernel
theorem d_M_example_69 : decode b_M_example 69 = .ok (.iconst 0, 1) := by decide +kernel
theorem d_M_example_70 : decode b_M_example 70 = .ok (.invokevirtual 84, 3) := by decide +kernel
theorem d_M_example_73 : decode b_M_example 73 = .ok (.ifCond .eq 5, 3) := by decide +kernel
theorem d_M_example_76 : decode b_M_example 76 = .ok (.iconst 0, 1) := by decide +kernel
theorem d_M_example_77 : decode b_M_example 77 = .ok (.ireturn, 1) := by decide +kernel
theorem d_M_example_78 : decode b_M_example 78 = .ok (.iload 6, 2) := by decide +kernel
theorem d_M_example_80 : decode b_M_example 80 = .ok (.ifCond .lt 5, 3) := by decide +kernel
theorem d_M_example_83 : decode b_M_example 83 = .ok (.iconst (-1), 1) := by decide +kernel
theorem d_M_example_84 : decode b_M_example 84 = .ok (.ireturn, 1) := by decide +kernel
theorem d_M_example_85 : decode b_M_example 85 = .ok (.iload_n 2, 1) := by decide +kernel
theorem d_M_example_86 : decode b_M_example 86 = .ok (.iconst 1, 1) := by decide +kernel
theorem d_M_example_87 : decode b_M_example 87 = .ok (.iadd, 1) := by decide +kernel
theorem d_M_example_88 : decode b_M_example 88 = .ok (.istore 7, 2) := by decide +kernel
theorem d_M_example_90 : decode b_M_example 90 = .ok (.iconst 0, 1) := by decide +kernel
theorem d_M_example_91 : decode b_M_example 91 = .ok (.istore 8, 2) := by decide +kernel
theorem d_M_example_93 : decode b_M_example 93 = .ok (.iload 8, 2) := by decide +kernel
theorem d_M_example_95 : decode b_M_example 95 = .ok (.iload 7, 2) := by decide +kernel
theorem d_M_example_97 : decode b_M_example 97 = .ok (.iload 7, 2) := by decide +kernel
theorem d_M_example_99 : decode b_M_example 99 = .ok (.imul, 1) := by decide +kernel
theorem d_M_example_100 : decode b_M_example 100 = .ok (.iload 7, 2) := by decide +kernel
theorem d_M_example_102 : decode b_M_example 102 = .ok (.imul, 1) := by decide +kernel
theorem d_M_example_103 : decode b_M_example 103 = .ok (.iload 7, 2) := by decide +kernel
theorem d_M_example_105 : decode b_M_example 105 = .ok (.imul, 1) := by decide +kernel
theorem d_M_example_106 : decode b_M_example 106 = .ok (.if_icmp .ge 123, 3) := by decide +kernel
theorem d_M_example_109 : decode b_M_example 109 = .ok (.aload_n 0, 1) := by decide +kernel
theorem d_M_example_110 : decode b_M_example 110 = .ok (.getfield 68, 3) := by decide +kernel
theorem d_M_example_113 : decode b_M_example 113 = .ok (.iconst 0, 1) := by decide +kernel
theorem d_M_example_114 : decode b_M_example 114 = .ok (.iload 8, 2) := by decide +kernel
theorem d_M_example_116 : decode b_M_example 116 = .ok (.iload 7, 2) := by decide +kernel
theorem d_M_example_118 : decode b_M_example 118 = .ok (.iload 7, 2) := by decide +kernel
theorem d_M_example_120 : decode b_M_example 120 = .ok (.imul, 1) := by decide +kernel
theorem d_M_example_121 : decode b_M_example 121 = .ok (.iload 7, 2) := by decide +kernel
theorem d_M_example_123 : decode b_M_example 123 = .ok (.imul, 1) := by decide +kernel
theorem d_M_example_124 : decode b_M_example 124 = .ok (.idiv, 1) := by decide +kernel
theorem d_M_example_125 : decode b_M_example 125 = .ok (.iastore, 1) := by decide +kernel
theorem d_M_example_126 : decode b_M_example 126 = .ok (.aload_n 0, 1) := by decide +kernel
theorem d_M_example_127 : decode b_M_example 127 = .ok (.getfield 68, 3) := by decide +kernel
theorem d_M_example_130 : decode b_M_example 130 = .ok (.iconst 1, 1) := by decide +kernel
theorem d_M_example_131 : decode b_M_example 131 = .ok (.iload 8, 2) := by decide +kernel
theorem d_M_example_133 : decode b_M_example 133 = .ok (.iload 7, 2) := by decide +kernel
theorem d_M_example_135 : decode b_M_example 135 = .ok (.iload 7, 2) := by decide +kernel
theorem d_M_example_137 : decode b_M_example 137 = .ok (.imul, 1) := by decide +kernel
theorem d_M_example_138 : decode b_M_example 138 = .ok (.idiv, 1) := by decide +kernel
theorem d_M_example_139 : decode b_M_example 139 = .ok (.iload 7, 2) := by decide +kernel
theorem d_M_example_141 : decode b_M_example 141 = .ok (.irem, 1) := by decide +kernel
theorem d_M_example_142 : decode b_M_example 142 = .ok (.iastore, 1) := by decide +kernel
theorem d_M_example_143 : decode b_M_example 143 = .ok (.aload_n 0, 1) := by decide +kernel
theorem d_M_example_144 : decode b_M_example 144 = .ok (.getfield 68, 3) := by decide +kernel
theorem d_M_example_147 : decode b_M_example 147 = .ok (.iconst 2, 1) := by decide +kernel
theorem d_M_example_148 : decode b_M_example 148 = .ok (.iload 8, 2) := by decide +kernel
theorem d_M_example_150 : decode b_M_example 150 = .ok (.iload 7, 2) := by decide +kernel
theorem d_M_example_152 : decode b_M_example 152 = .ok (.idiv, 1) := by decide +kernel
theorem d_M_example_153 : decode b_M_example 153 = .ok (.iload 7, 2) := by decide +kernel
theorem d_M_example_155 : decode b_M_example 155 = .ok (.irem, 1) := by decide +kernel
theorem d_M_example_156 : decode b_M_example 156 = .ok (.iastore, 1) := by decide +kernel
theorem d_M_example_157 : decode b_M_example 157 = .ok (.aload_n 0, 1) := by decide +kernel
theorem d_M_example_158 : decode b_M_example 158 = .ok (.getfield 68, 3) := by decide +kernel
theorem d_M_example_161 : decode b_M_example 161 = .ok (.iconst 3, 1) := by decide +kernel
theorem d_M_example_162 : decode b_M_example 162 = .ok (.iload 8, 2) := by decide +kernel
theorem d_M_example_164 : decode b_M_example 164 = .ok (.iload 7, 2) := by decide +kernel
theorem d_M_example_166 : decode b_M_example 166 = .ok (.irem, 1) := by decide +kernel
theorem d_M_example_167 : decode b_M_example 167 = .ok (.iastore, 1) := by decide +kernel
theorem d_M_example_168 : decode b_M_example 168 = .ok (.aload_n 0, 1) := by decide +kernel
theorem d_M_example_169 : decode b_M_example 169 = .ok (.iload 4, 2) := by decide +kernel
theorem d_M_example_171 : decode b_M_example 171 = .ok (.iload 5, 2) := by decide +kernel
theorem d_M_example_173 : decode b_M_example 173 = .ok (.invokevirtual 169, 3) := by decide +kernel
theorem d_M_example_176 : decode b_M_example 176 = .ok (.aload_n 0, 1) := by decide +kernel
theorem d_M_example_177 : decode b_M_example 177 = .ok (.getfield 62, 3) := by decide +kernel
theorem d_M_example_180 : decode b_M_example 180 = .ok (.iload_n 1, 1) := by decide +kernel
theorem d_M_example_181 : decode b_M_example 181 = .ok (.iaload, 1) := by decide +kernel
theorem d_M_example_182 : decode b_M_example 182 = .ok (.ifCond .lt 41, 3) := by decide +kernel
theorem d_M_example_185 : decode b_M_example 185 = .ok (.sipush 1000, 3) := by decide +kernel
theorem d_M_example_188 : decode b_M_example 188 = .ok (.aload_n 0, 1) := by decide +kernel
theorem d_M_example_189 : decode b_M_example 189 = .ok (.getfield 68, 3) := by decide +kernel
theorem d_M_example_192 : decode b_M_example 192 = .ok (.iconst 0, 1) := by decide +kernel
theorem d_M_example_193 : decode b_M_example 193 = .ok (.iaload, 1) := by decide +kernel
theorem d_M_example_194 : decode b_M_example 194 = .ok (.imul, 1) := by decide +kernel
theorem d_M_example_195 : decode b_M_example 195 = .ok (.bipush 100, 2) := by decide +kernel
theorem d_M_example_197 : decode b_M_example 197 = .ok (.aload_n 0, 1) := by decide +kernel
theorem d_M_example_198 : decode b_M_example 198 = .ok (.getfield 68, 3) := by decide +kernel
theorem d_M_example_201 : decode b_M_example 201 = .ok (.iconst 1, 1) := by decide +kernel
theorem d_M_example_202 : decode b_M_example 202 = .ok (.iaload, 1) := by decide +kernel
theorem d_M_example_203 : decode b_M_example 203 = .ok (.imul, 1) := by decide +kernel
theorem d_M_example_204 : decode b_M_example 204 = .ok (.iadd, 1) := by decide +kernel
theorem d_M_example_205 : decode b_M_example 205 = .ok (.bipush 10, 2) := by decide +kernel
theorem d_M_example_207 : decode b_M_example 207 = .ok (.aload_n 0, 1) := by decide +kernel
theorem d_M_example_208 : decode b_M_example 208 = .ok (.getfield 68, 3) := by decide +kernel
theorem d_M_example_211 : decode b_M_example 211 = .ok (.iconst 2, 1) := by decide +kernel
theorem d_M_example_212 : decode b_M_example 212 = .ok (.iaload, 1) := by decide +kernel
theorem d_M_example_213 : decode b_M_example 213 = .ok (.imul, 1) := by decide +kernel
theorem d_M_example_214 : decode b_M_example 214 = .ok (.iadd, 1) := by decide +kernel
theorem d_M_example_215 : decode b_M_example 215 = .ok (.aload_n 0, 1) := by decide +kernel
theorem d_M_example_216 : decode b_M_example 216 = .ok (.getfield 68, 3) := by decide +kernel
theorem d_M_example_219 : decode b_M_example 219 = .ok (.iconst 3, 1) := by decide +kernel
theorem d_M_example_220 : decode b_M_example 220 = .ok (.iaload, 1) := by decide +kernel
theorem d_M_example_221 : decode b_M_example 221 = .ok (.iadd, 1) := by decide +kernel
theorem d_M_example_222 : decode b_M_example 222 = .ok (.ireturn, 1) := by decide +kernel
theorem d_M_example_223 : decode b_M_example 223 = .ok (.iinc 8 1, 3) := by decide +kernel
theorem d_M_example_226 : decode b_M_example 226 = .ok (.goto (-133), 3) := by decide +kernel
theorem d_M_example_229 : decode b_M_example 229 = .ok (.iconst (-1), 1) := by decide +kernel
theorem d_M_example_230 : decode b_M_example 230 = .ok (.ireturn, 1) := by decide +kernel
theorem d_M_told_0 : decode b_M_told 0 = .ok (.aload_n 0, 1) := by decide +kernel
theorem d_M_told_1 : decode b_M_told 1 = .ok (.iload_n 1, 1) := by decide +kernel
theorem d_M_told_2 : decode b_M_told 2 = .ok (.iconst 0, 1) := by decide +kernel
theorem d_M_told_3 : decode b_M_told 3 = .ok (.iconst 4, 1) := by decide +kernel
theorem d_M_told_4 : decode b_M_told 4 = .ok (.invokestatic 77, 3) := by decide +kernel
theorem d_M_told_7 : decode b_M_told 7 = .ok (.ifCond .ne 7, 3) := by decide +kernel
theorem d_M_told_10 : decode b_M_told 10 = .ok (.iconst 1, 1) := by decide +kernel
theorem d_M_told_11 : decode b_M_told 11 = .ok (.goto 4, 3) := by decide +kernel
theorem d_M_told_14 : decode b_M_told 14 = .ok (.iconst 0, 1) := by decide +kernel
theorem d_M_told_15 : decode b_M_told 15 = .ok (.iconst 0, 1) := by decide +kernel
theorem d_M_told_16 : decode b_M_told 16 = .ok (.iconst 0, 1) := by decide +kernel
theorem d_M_told_17 : decode b_M_told 17 = .ok (.iconst 0, 1) := by decide +kernel
theorem d_M_told_18 : decode b_M_told 18 = .ok (.invokevirtual 84, 3) := by decide +kernel
theorem d_M_told_21 : decode b_M_told 21 = .ok (.ifCond .eq 5, 3) := by decide +kernel
theorem d_M_told_24 : decode b_M_told 24 = .ok (.iconst 0, 1) := by decide +kernel
theorem d_M_told_25 : decode b_M_told 25 = .ok (.ireturn, 1) := by decide +kernel
theorem d_M_told_26 : decode b_M_told 26 = .ok (.aload_n 0, 1) := by decide +kernel
theorem d_M_told_27 : decode b_M_told 27 = .ok (.invokevirtual 162, 3) := by decide +kernel
theorem d_M_told_30 : decode b_M_told 30 = .ok (.istore_n 2, 1) := by decide +kernel
theorem d_M_told_31 : decode b_M_told 31 = .ok (.iconst 0, 1) := by decide +kernel
theorem d_M_told_32 : decode b_M_told 32 = .ok (.istore_n 3, 1) := by decide +kernel
theorem d_M_told_33 : decode b_M_told 33 = .ok (.iconst 0, 1) := by decide +kernel
theorem d_M_told_34 : decode b_M_told 34 = .ok (.istore 4, 2) := by decide +kernel
theorem d_M_told_36 : decode b_M_told 36 = .ok (.iload 4, 2) := by decide +kernel
theorem d_M_told_38 : decode b_M_told 38 = .ok (.bipush 8, 2) := by decide +kernel
theorem d_M_told_40 : decode b_M_told 40 = .ok (.if_icmp .ge 26, 3) := by decide +kernel
theorem d_M_told_43 : decode b_M_told 43 = .ok (.iload_n 3, 1) := by decide +kernel
theorem d_M_told_44 : decode b_M_told 44 = .ok (.aload_n 0, 1) := by decide +kernel
theorem d_M_told_45 : decode b_M_told 45 = .ok (.iload 4, 2) := by decide +kernel
theorem d_M_told_47 : decode b_M_told 47 = .ok (.invokevirtual 151, 3) := by decide +kernel
theorem d_M_told_50 : decode b_M_told 50 = .ok (.ifCond .lt 7, 3) := by decide +kernel
theorem d_M_told_53 : decode b_M_told 53 = .ok (.iconst 1, 1) := by decide +kernel
theorem d_M_told_54 : decode b_M_told 54 = .ok (.goto 4, 3) := by decide +kernel
theorem d_M_told_57 : decode b_M_told 57 = .ok (.iconst 0, 1) := by decide +kernel
theorem d_M_told_58 : decode b_M_told 58 = .ok (.iadd, 1) := by decide +kernel
theorem d_M_told_59 : decode b_M_told 59 = .ok (.istore_n 3, 1) := by decide +kernel
theorem d_M_told_60 : decode b_M_told 60 = .ok (.iinc 4 1, 3) := by decide +kernel
theorem d_M_told_63 : decode b_M_told 63 = .ok (.goto (-27), 3) := by decide +kernel
theorem d_M_told_66 : decode b_M_told 66 = .ok (.iload_n 1, 1) := by decide +kernel
theorem d_M_told_67 : decode b_M_told 67 = .ok (.ifCond .ne 7, 3) := by decide +kernel
theorem d_M_told_70 : decode b_M_told 70 = .ok (.iload_n 2, 1) := by decide +kernel
theorem d_M_told_71 : decode b_M_told 71 = .ok (.goto 50, 3) := by decide +kernel
theorem d_M_told_74 : decode b_M_told 74 = .ok (.iload_n 1, 1) := by decide +kernel
theorem d_M_told_75 : decode b_M_told 75 = .ok (.iconst 1, 1) := by decide +kernel
theorem d_M_told_76 : decode b_M_told 76 = .ok (.if_icmp .ne 20, 3) := by decide +kernel
theorem d_M_told_79 : decode b_M_told 79 = .ok (.iload_n 2, 1) := by decide +kernel
theorem d_M_told_80 : decode b_M_told 80 = .ok (.ifCond .ge 7, 3) := by decide +kernel
theorem d_M_told_83 : decode b_M_told 83 = .ok (.iconst 0, 1) := by decide +kernel
theorem d_M_told_84 : decode b_M_told 84 = .ok (.goto 37, 3) := by decide +kernel
theorem d_M_told_87 : decode b_M_told 87 = .ok (.aload_n 0, 1) := by decide +kernel
theorem d_M_told_88 : decode b_M_told 88 = .ok (.getfield 26, 3) := by decide +kernel
theorem d_M_told_91 : decode b_M_told 91 = .ok (.iload_n 2, 1) := by decide +kernel
theorem d_M_told_92 : decode b_M_told 92 = .ok (.iaload, 1) := by decide +kernel
theorem d_M_told_93 : decode b_M_told 93 = .ok (.goto 28, 3) := by decide +kernel
theorem d_M_told_96 : decode b_M_told 96 = .ok (.iload_n 1, 1) := by decide +kernel
theorem d_M_told_97 : decode b_M_told 97 = .ok (.iconst 2, 1) := by decide +kernel
theorem d_M_told_98 : decode b_M_told 98 = .ok (.if_icmp .ne 7, 3) := by decide +kernel
theorem d_M_told_101 : decode b_M_told 101 = .ok (.iload_n 3, 1) := by decide +kernel
theorem d_M_told_102 : decode b_M_told 102 = .ok (.goto 19, 3) := by decide +kernel
theorem d_M_told_105 : decode b_M_told 105 = .ok (.iload_n 1, 1) := by decide +kernel
theorem d_M_told_106 : decode b_M_told 106 = .ok (.iconst 3, 1) := by decide +kernel
theorem d_M_told_107 : decode b_M_told 107 = .ok (.if_icmp .ne 10, 3) := by decide +kernel
theorem d_M_told_110 : decode b_M_told 110 = .ok (.aload_n 0, 1) := by decide +kernel
theorem d_M_told_111 : decode b_M_told 111 = .ok (.getfield 145, 3) := by decide +kernel
theorem d_M_told_114 : decode b_M_told 114 = .ok (.goto 7, 3) := by decide +kernel
theorem d_M_told_117 : decode b_M_told 117 = .ok (.aload_n 0, 1) := by decide +kernel
theorem d_M_told_118 : decode b_M_told 118 = .ok (.getfield 148, 3) := by decide +kernel
theorem d_M_told_121 : decode b_M_told 121 = .ok (.ireturn, 1) := by decide +kernel
theorem d_M_agreed_0 : decode b_M_agreed 0 = .ok (.aload_n 0, 1) := by decide +kernel
theorem d_M_agreed_1 : decode b_M_agreed 1 = .ok (.iload_n 1, 1) := by decide +kernel
theorem d_M_agreed_2 : decode b_M_agreed 2 = .ok (.iconst 0, 1) := by decide +kernel
theorem d_M_agreed_3 : decode b_M_agreed 3 = .ok (.bipush 7, 2) := by decide +kernel
theorem d_M_agreed_5 : decode b_M_agreed 5 = .ok (.invokestatic 77, 3) := by decide +kernel
theorem d_M_agreed_8 : decode b_M_agreed 8 = .ok (.ifCond .ne 7, 3) := by decide +kernel
theorem d_M_agreed_11 : decode b_M_agreed 11 = .ok (.iconst 1, 1) := by decide +kernel
theorem d_M_agreed_12 : decode b_M_agreed 12 = .ok (.goto 4, 3) := by decide +kernel
theorem d_M_agreed_15 : decode b_M_agreed 15 = .ok (.iconst 0, 1) := by decide +kernel
theorem d_M_agreed_16 : decode b_M_agreed 16 = .ok (.iconst 0, 1) := by decide +kernel
theorem d_M_agreed_17 : decode b_M_agreed 17 = .ok (.iconst 0, 1) := by decide +kernel
theorem d_M_agreed_18 : decode b_M_agreed 18 = .ok (.iconst 0, 1) := by decide +kernel
theorem d_M_agreed_19 : decode b_M_agreed 19 = .ok (.invokevirtual 84, 3) := by decide +kernel
theorem d_M_agreed_22 : decode b_M_agreed 22 = .ok (.ifCond .eq 5, 3) := by decide +kernel
theorem d_M_agreed_25 : decode b_M_agreed 25 = .ok (.iconst 0, 1) := by decide +kernel
theorem d_M_agreed_26 : decode b_M_agreed 26 = .ok (.ireturn, 1) := by decide +kernel
theorem d_M_agreed_27 : decode b_M_agreed 27 = .ok (.aload_n 0, 1) := by decide +kernel
theorem d_M_agreed_28 : decode b_M_agreed 28 = .ok (.iload_n 1, 1) := by decide +kernel
theorem d_M_agreed_29 : decode b_M_agreed 29 = .ok (.invokevirtual 151, 3) := by decide +kernel
theorem d_M_agreed_32 : decode b_M_agreed 32 = .ok (.ireturn, 1) := by decide +kernel
theorem d_M_table_0 : decode b_M_table 0 = .ok (.iload_n 1, 1) := by decide +kernel
theorem d_M_table_1 : decode b_M_table 1 = .ok (.iconst 0, 1) := by decide +kernel
theorem d_M_table_2 : decode b_M_table 2 = .ok (.aload_n 0, 1) := by decide +kernel
theorem d_M_table_3 : decode b_M_table 3 = .ok (.getfield 136, 3) := by decide +kernel
theorem d_M_table_6 : decode b_M_table 6 = .ok (.iconst 1, 1) := by decide +kernel
theorem d_M_table_7 : decode b_M_table 7 = .ok (.isub, 1) := by decide +kernel
theorem d_M_table_8 : decode b_M_table 8 = .ok (.invokestatic 77, 3) := by decide +kernel
theorem d_M_table_11 : decode b_M_table 11 = .ok (.ifCond .ne 7, 3) := by decide +kernel
theorem d_M_table_14 : decode b_M_table 14 = .ok (.iconst 1, 1) := by decide +kernel
theorem d_M_table_15 : decode b_M_table 15 = .ok (.goto 4, 3) := by decide +kernel
theorem d_M_table_18 : decode b_M_table 18 = .ok (.iconst 0, 1) := by decide +kernel
theorem d_M_table_19 : decode b_M_table 19 = .ok (.istore_n 3, 1) := by decide +kernel
theorem d_M_table_20 : decode b_M_table 20 = .ok (.aload_n 0, 1) := by decide +kernel
theorem d_M_table_21 : decode b_M_table 21 = .ok (.iload_n 3, 1) := by decide +kernel
theorem d_M_table_22 : decode b_M_table 22 = .ok (.ifCond .ne 27, 3) := by decide +kernel
theorem d_M_table_25 : decode b_M_table 25 = .ok (.iload_n 2, 1) := by decide +kernel
theorem d_M_table_26 : decode b_M_table 26 = .ok (.iconst (-1), 1) := by decide +kernel
theorem d_M_table_27 : decode b_M_table 27 = .ok (.aload_n 0, 1) := by decide +kernel
theorem d_M_table_28 : decode b_M_table 28 = .ok (.getfield 20, 3) := by decide +kernel
theorem d_M_table_31 : decode b_M_table 31 = .ok (.iload_n 3, 1) := by decide +kernel
theorem d_M_table_32 : decode b_M_table 32 = .ok (.ifCond .eq 7, 3) := by decide +kernel
theorem d_M_table_35 : decode b_M_table 35 = .ok (.iconst 0, 1) := by decide +kernel
theorem d_M_table_36 : decode b_M_table 36 = .ok (.goto 4, 3) := by decide +kernel
theorem d_M_table_39 : decode b_M_table 39 = .ok (.iload_n 1, 1) := by decide +kernel
theorem d_M_table_40 : decode b_M_table 40 = .ok (.iaload, 1) := by decide +kernel
theorem d_M_table_41 : decode b_M_table 41 = .ok (.iconst 1, 1) := by decide +kernel
theorem d_M_table_42 : decode b_M_table 42 = .ok (.isub, 1) := by decide +kernel
theorem d_M_table_43 : decode b_M_table 43 = .ok (.invokestatic 77, 3) := by decide +kernel
theorem d_M_table_46 : decode b_M_table 46 = .ok (.ifCond .ne 7, 3) := by decide +kernel
theorem d_M_table_49 : decode b_M_table 49 = .ok (.iconst 1, 1) := by decide +kernel
theorem d_M_table_50 : decode b_M_table 50 = .ok (.goto 4, 3) := by decide +kernel
theorem d_M_table_53 : decode b_M_table 53 = .ok (.iconst 0, 1) := by decide +kernel
theorem d_M_table_54 : decode b_M_table 54 = .ok (.iconst 0, 1) := by decide +kernel
theorem d_M_table_55 : decode b_M_table 55 = .ok (.iconst 0, 1) := by decide +kernel
theorem d_M_table_56 : decode b_M_table 56 = .ok (.iconst 0, 1) := by decide +kernel
theorem d_M_table_57 : decode b_M_table 57 = .ok (.invokevirtual 84, 3) := by decide +kernel
theorem d_M_table_60 : decode b_M_table 60 = .ok (.ifCond .eq 5, 3) := by decide +kernel
theorem d_M_table_63 : decode b_M_table 63 = .ok (.iconst 0, 1) := by decide +kernel
theorem d_M_table_64 : decode b_M_table 64 = .ok (.ireturn, 1) := by decide +kernel
theorem d_M_table_65 : decode b_M_table 65 = .ok (.iload_n 2, 1) := by decide +kernel
theorem d_M_table_66 : decode b_M_table 66 = .ok (.ifCond .ge 12, 3) := by decide +kernel
theorem d_M_table_69 : decode b_M_table 69 = .ok (.aload_n 0, 1) := by decide +kernel
theorem d_M_table_70 : decode b_M_table 70 = .ok (.getfield 20, 3) := by decide +kernel
theorem d_M_table_73 : decode b_M_table 73 = .ok (.iload_n 1, 1) := by decide +kernel
theorem d_M_table_74 : decode b_M_table 74 = .ok (.iaload, 1) := by decide +kernel
theorem d_M_table_75 : decode b_M_table 75 = .ok (.goto 14, 3) := by decide +kernel
theorem d_M_table_78 : decode b_M_table 78 = .ok (.aload_n 0, 1) := by decide +kernel
theorem d_M_table_79 : decode b_M_table 79 = .ok (.getfield 23, 3) := by decide +kernel
theorem d_M_table_82 : decode b_M_table 82 = .ok (.bipush 8, 2) := by decide +kernel
theorem d_M_table_84 : decode b_M_table 84 = .ok (.iload_n 1, 1) := by decide +kernel
theorem d_M_table_85 : decode b_M_table 85 = .ok (.imul, 1) := by decide +kernel
theorem d_M_table_86 : decode b_M_table 86 = .ok (.iload_n 2, 1) := by decide +kernel
theorem d_M_table_87 : decode b_M_table 87 = .ok (.iadd, 1) := by decide +kernel
theorem d_M_table_88 : decode b_M_table 88 = .ok (.iaload, 1) := by decide +kernel
theorem d_M_table_89 : decode b_M_table 89 = .ok (.ireturn, 1) := by decide +kernel
