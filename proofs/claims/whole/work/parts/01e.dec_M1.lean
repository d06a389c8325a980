theorem d_M_isToldAhead_28 : decode b_M_isToldAhead 28 = .ok (.iload_n 1, 1) := by decide +kernel
theorem d_M_isToldAhead_29 : decode b_M_isToldAhead 29 = .ok (.bipush 97, 2) := by decide +kernel
theorem d_M_isToldAhead_31 : decode b_M_isToldAhead 31 = .ok (.isub, 1) := by decide +kernel
theorem d_M_isToldAhead_32 : decode b_M_isToldAhead 32 = .ok (.if_icmp .ne 7, 3) := by decide +kernel
theorem d_M_isToldAhead_35 : decode b_M_isToldAhead 35 = .ok (.iconst 1, 1) := by decide +kernel
theorem d_M_isToldAhead_36 : decode b_M_isToldAhead 36 = .ok (.goto 4, 3) := by decide +kernel
theorem d_M_isToldAhead_39 : decode b_M_isToldAhead 39 = .ok (.iconst 0, 1) := by decide +kernel
theorem d_M_isToldAhead_40 : decode b_M_isToldAhead 40 = .ok (.istore_n 2, 1) := by decide +kernel
theorem d_M_isToldAhead_41 : decode b_M_isToldAhead 41 = .ok (.iinc 3 1, 3) := by decide +kernel
theorem d_M_isToldAhead_44 : decode b_M_isToldAhead 44 = .ok (.goto (-40), 3) := by decide +kernel
theorem d_M_isToldAhead_47 : decode b_M_isToldAhead 47 = .ok (.iload_n 2, 1) := by decide +kernel
theorem d_M_isToldAhead_48 : decode b_M_isToldAhead 48 = .ok (.ireturn, 1) := by decide +kernel
theorem d_M_readSum_0 : decode b_M_readSum 0 = .ok (.iconst 1, 1) := by decide +kernel
theorem d_M_readSum_1 : decode b_M_readSum 1 = .ok (.istore_n 1, 1) := by decide +kernel
theorem d_M_readSum_2 : decode b_M_readSum 2 = .ok (.iconst 1, 1) := by decide +kernel
theorem d_M_readSum_3 : decode b_M_readSum 3 = .ok (.istore_n 2, 1) := by decide +kernel
theorem d_M_readSum_4 : decode b_M_readSum 4 = .ok (.aload_n 0, 1) := by decide +kernel
theorem d_M_readSum_5 : decode b_M_readSum 5 = .ok (.bipush 61, 2) := by decide +kernel
theorem d_M_readSum_7 : decode b_M_readSum 7 = .ok (.invokevirtual 124, 3) := by decide +kernel
theorem d_M_readSum_10 : decode b_M_readSum 10 = .ok (.aload_n 0, 1) := by decide +kernel
theorem d_M_readSum_11 : decode b_M_readSum 11 = .ok (.getfield 88, 3) := by decide +kernel
theorem d_M_readSum_14 : decode b_M_readSum 14 = .ok (.ifCond .eq 7, 3) := by decide +kernel
theorem d_M_readSum_17 : decode b_M_readSum 17 = .ok (.iconst (-1), 1) := by decide +kernel
theorem d_M_readSum_18 : decode b_M_readSum 18 = .ok (.goto 7, 3) := by decide +kernel
theorem d_M_readSum_21 : decode b_M_readSum 21 = .ok (.aload_n 0, 1) := by decide +kernel
theorem d_M_readSum_22 : decode b_M_readSum 22 = .ok (.invokevirtual 98, 3) := by decide +kernel
theorem d_M_readSum_25 : decode b_M_readSum 25 = .ok (.istore_n 3, 1) := by decide +kernel
theorem d_M_readSum_26 : decode b_M_readSum 26 = .ok (.iload_n 3, 1) := by decide +kernel
theorem d_M_readSum_27 : decode b_M_readSum 27 = .ok (.bipush 43, 2) := by decide +kernel
theorem d_M_readSum_29 : decode b_M_readSum 29 = .ok (.if_icmp .eq 21, 3) := by decide +kernel
theorem d_M_readSum_32 : decode b_M_readSum 32 = .ok (.iload_n 3, 1) := by decide +kernel
theorem d_M_readSum_33 : decode b_M_readSum 33 = .ok (.bipush 45, 2) := by decide +kernel
theorem d_M_readSum_35 : decode b_M_readSum 35 = .ok (.if_icmp .eq 15, 3) := by decide +kernel
theorem d_M_readSum_38 : decode b_M_readSum 38 = .ok (.iload_n 3, 1) := by decide +kernel
theorem d_M_readSum_39 : decode b_M_readSum 39 = .ok (.bipush 42, 2) := by decide +kernel
theorem d_M_readSum_41 : decode b_M_readSum 41 = .ok (.if_icmp .eq 9, 3) := by decide +kernel
theorem d_M_readSum_44 : decode b_M_readSum 44 = .ok (.iload_n 3, 1) := by decide +kernel
theorem d_M_readSum_45 : decode b_M_readSum 45 = .ok (.bipush 47, 2) := by decide +kernel
theorem d_M_readSum_47 : decode b_M_readSum 47 = .ok (.if_icmp .ne 107, 3) := by decide +kernel
theorem d_M_readSum_50 : decode b_M_readSum 50 = .ok (.iload_n 3, 1) := by decide +kernel
theorem d_M_readSum_51 : decode b_M_readSum 51 = .ok (.bipush 43, 2) := by decide +kernel
theorem d_M_readSum_53 : decode b_M_readSum 53 = .ok (.if_icmp .eq 9, 3) := by decide +kernel
theorem d_M_readSum_56 : decode b_M_readSum 56 = .ok (.iload_n 3, 1) := by decide +kernel
theorem d_M_readSum_57 : decode b_M_readSum 57 = .ok (.bipush 45, 2) := by decide +kernel
theorem d_M_readSum_59 : decode b_M_readSum 59 = .ok (.if_icmp .ne 7, 3) := by decide +kernel
theorem d_M_readSum_62 : decode b_M_readSum 62 = .ok (.iconst 1, 1) := by decide +kernel
theorem d_M_readSum_63 : decode b_M_readSum 63 = .ok (.goto 4, 3) := by decide +kernel
theorem d_M_readSum_66 : decode b_M_readSum 66 = .ok (.iconst 0, 1) := by decide +kernel
theorem d_M_readSum_67 : decode b_M_readSum 67 = .ok (.istore 4, 2) := by decide +kernel
theorem d_M_readSum_69 : decode b_M_readSum 69 = .ok (.iload_n 1, 1) := by decide +kernel
theorem d_M_readSum_70 : decode b_M_readSum 70 = .ok (.iload 4, 2) := by decide +kernel
theorem d_M_readSum_72 : decode b_M_readSum 72 = .ok (.ifCond .eq 7, 3) := by decide +kernel
theorem d_M_readSum_75 : decode b_M_readSum 75 = .ok (.iconst 1, 1) := by decide +kernel
theorem d_M_readSum_76 : decode b_M_readSum 76 = .ok (.goto 4, 3) := by decide +kernel
theorem d_M_readSum_79 : decode b_M_readSum 79 = .ok (.iconst 0, 1) := by decide +kernel
theorem d_M_readSum_80 : decode b_M_readSum 80 = .ok (.iadd, 1) := by decide +kernel
theorem d_M_readSum_81 : decode b_M_readSum 81 = .ok (.istore_n 1, 1) := by decide +kernel
theorem d_M_readSum_82 : decode b_M_readSum 82 = .ok (.iload 4, 2) := by decide +kernel
theorem d_M_readSum_84 : decode b_M_readSum 84 = .ok (.ifCond .eq 7, 3) := by decide +kernel
theorem d_M_readSum_87 : decode b_M_readSum 87 = .ok (.iconst 1, 1) := by decide +kernel
theorem d_M_readSum_88 : decode b_M_readSum 88 = .ok (.goto 6, 3) := by decide +kernel
theorem d_M_readSum_91 : decode b_M_readSum 91 = .ok (.iload_n 2, 1) := by decide +kernel
theorem d_M_readSum_92 : decode b_M_readSum 92 = .ok (.iconst 1, 1) := by decide +kernel
theorem d_M_readSum_93 : decode b_M_readSum 93 = .ok (.iadd, 1) := by decide +kernel
theorem d_M_readSum_94 : decode b_M_readSum 94 = .ok (.istore_n 2, 1) := by decide +kernel
theorem d_M_readSum_95 : decode b_M_readSum 95 = .ok (.iload_n 1, 1) := by decide +kernel
theorem d_M_readSum_96 : decode b_M_readSum 96 = .ok (.iconst 5, 1) := by decide +kernel
theorem d_M_readSum_97 : decode b_M_readSum 97 = .ok (.if_icmp .gt 8, 3) := by decide +kernel
theorem d_M_readSum_100 : decode b_M_readSum 100 = .ok (.iload_n 2, 1) := by decide +kernel
theorem d_M_readSum_101 : decode b_M_readSum 101 = .ok (.iconst 3, 1) := by decide +kernel
theorem d_M_readSum_102 : decode b_M_readSum 102 = .ok (.if_icmp .le 11, 3) := by decide +kernel
theorem d_M_readSum_105 : decode b_M_readSum 105 = .ok (.aload_n 0, 1) := by decide +kernel
theorem d_M_readSum_106 : decode b_M_readSum 106 = .ok (.aload_n 0, 1) := by decide +kernel
theorem d_M_readSum_107 : decode b_M_readSum 107 = .ok (.getfield 92, 3) := by decide +kernel
theorem d_M_readSum_110 : decode b_M_readSum 110 = .ok (.invokevirtual 102, 3) := by decide +kernel
theorem d_M_readSum_113 : decode b_M_readSum 113 = .ok (.aload_n 0, 1) := by decide +kernel
theorem d_M_readSum_114 : decode b_M_readSum 114 = .ok (.dup, 1) := by decide +kernel
theorem d_M_readSum_115 : decode b_M_readSum 115 = .ok (.getfield 92, 3) := by decide +kernel
theorem d_M_readSum_118 : decode b_M_readSum 118 = .ok (.iconst 1, 1) := by decide +kernel
theorem d_M_readSum_119 : decode b_M_readSum 119 = .ok (.iadd, 1) := by decide +kernel
theorem d_M_readSum_120 : decode b_M_readSum 120 = .ok (.putfield 92, 3) := by decide +kernel
theorem d_M_readSum_123 : decode b_M_readSum 123 = .ok (.aload_n 0, 1) := by decide +kernel
theorem d_M_readSum_124 : decode b_M_readSum 124 = .ok (.getfield 88, 3) := by decide +kernel
theorem d_M_readSum_127 : decode b_M_readSum 127 = .ok (.ifCond .ne 8, 3) := by decide +kernel
theorem d_M_readSum_130 : decode b_M_readSum 130 = .ok (.aload_n 0, 1) := by decide +kernel
theorem d_M_readSum_131 : decode b_M_readSum 131 = .ok (.iload_n 3, 1) := by decide +kernel
theorem d_M_readSum_132 : decode b_M_readSum 132 = .ok (.invokevirtual 124, 3) := by decide +kernel
theorem d_M_readSum_135 : decode b_M_readSum 135 = .ok (.aload_n 0, 1) := by decide +kernel
theorem d_M_readSum_136 : decode b_M_readSum 136 = .ok (.getfield 88, 3) := by decide +kernel
theorem d_M_readSum_139 : decode b_M_readSum 139 = .ok (.ifCond .eq 7, 3) := by decide +kernel
theorem d_M_readSum_142 : decode b_M_readSum 142 = .ok (.iconst (-1), 1) := by decide +kernel
theorem d_M_readSum_143 : decode b_M_readSum 143 = .ok (.goto 7, 3) := by decide +kernel
theorem d_M_readSum_146 : decode b_M_readSum 146 = .ok (.aload_n 0, 1) := by decide +kernel
theorem d_M_readSum_147 : decode b_M_readSum 147 = .ok (.invokevirtual 98, 3) := by decide +kernel
theorem d_M_readSum_150 : decode b_M_readSum 150 = .ok (.istore_n 3, 1) := by decide +kernel
theorem d_M_readSum_151 : decode b_M_readSum 151 = .ok (.goto (-125), 3) := by decide +kernel
theorem d_M_readSum_154 : decode b_M_readSum 154 = .ok (.return_, 1) := by decide +kernel
theorem d_M_readFactor_0 : decode b_M_readFactor 0 = .ok (.sipush 768, 3) := by decide +kernel
theorem d_M_readFactor_3 : decode b_M_readFactor 3 = .ok (.aload_n 0, 1) := by decide +kernel
theorem d_M_readFactor_4 : decode b_M_readFactor 4 = .ok (.getfield 35, 3) := by decide +kernel
theorem d_M_readFactor_7 : decode b_M_readFactor 7 = .ok (.bipush 6, 2) := by decide +kernel
theorem d_M_readFactor_9 : decode b_M_readFactor 9 = .ok (.iaload, 1) := by decide +kernel
theorem d_M_readFactor_10 : decode b_M_readFactor 10 = .ok (.iadd, 1) := by decide +kernel
theorem d_M_readFactor_11 : decode b_M_readFactor 11 = .ok (.istore_n 2, 1) := by decide +kernel
theorem d_M_readFactor_12 : decode b_M_readFactor 12 = .ok (.aload_n 0, 1) := by decide +kernel
theorem d_M_readFactor_13 : decode b_M_readFactor 13 = .ok (.getfield 38, 3) := by decide +kernel
theorem d_M_readFactor_16 : decode b_M_readFactor 16 = .ok (.iload_n 2, 1) := by decide +kernel
theorem d_M_readFactor_17 : decode b_M_readFactor 17 = .ok (.iload_n 1, 1) := by decide +kernel
theorem d_M_readFactor_18 : decode b_M_readFactor 18 = .ok (.iastore, 1) := by decide +kernel
theorem d_M_readFactor_19 : decode b_M_readFactor 19 = .ok (.aload_n 0, 1) := by decide +kernel
theorem d_M_readFactor_20 : decode b_M_readFactor 20 = .ok (.invokevirtual 98, 3) := by decide +kernel
theorem d_M_readFactor_23 : decode b_M_readFactor 23 = .ok (.istore_n 3, 1) := by decide +kernel
theorem d_M_readFactor_24 : decode b_M_readFactor 24 = .ok (.iload_n 3, 1) := by decide +kernel
theorem d_M_readFactor_25 : decode b_M_readFactor 25 = .ok (.bipush 107, 2) := by decide +kernel
theorem d_M_readFactor_27 : decode b_M_readFactor 27 = .ok (.if_icmp .ne 7, 3) := by decide +kernel
theorem d_M_readFactor_30 : decode b_M_readFactor 30 = .ok (.iconst 3, 1) := by decide +kernel
theorem d_M_readFactor_31 : decode b_M_readFactor 31 = .ok (.goto 4, 3) := by decide +kernel
theorem d_M_readFactor_34 : decode b_M_readFactor 34 = .ok (.iconst 0, 1) := by decide +kernel
theorem d_M_readFactor_35 : decode b_M_readFactor 35 = .ok (.istore 4, 2) := by decide +kernel
theorem d_M_readFactor_37 : decode b_M_readFactor 37 = .ok (.aload_n 0, 1) := by decide +kernel
theorem d_M_readFactor_38 : decode b_M_readFactor 38 = .ok (.dup, 1) := by decide +kernel
theorem d_M_readFactor_39 : decode b_M_readFactor 39 = .ok (.getfield 92, 3) := by decide +kernel
theorem d_M_readFactor_42 : decode b_M_readFactor 42 = .ok (.iload_n 3, 1) := by decide +kernel
theorem d_M_readFactor_43 : decode b_M_readFactor 43 = .ok (.bipush 107, 2) := by decide +kernel
theorem d_M_readFactor_45 : decode b_M_readFactor 45 = .ok (.if_icmp .ne 7, 3) := by decide +kernel
theorem d_M_readFactor_48 : decode b_M_readFactor 48 = .ok (.iconst 1, 1) := by decide +kernel
theorem d_M_readFactor_49 : decode b_M_readFactor 49 = .ok (.goto 4, 3) := by decide +kernel
theorem d_M_readFactor_52 : decode b_M_readFactor 52 = .ok (.iconst 0, 1) := by decide +kernel
theorem d_M_readFactor_53 : decode b_M_readFactor 53 = .ok (.iadd, 1) := by decide +kernel
theorem d_M_readFactor_54 : decode b_M_readFactor 54 = .ok (.putfield 92, 3) := by decide +kernel
theorem d_M_readFactor_57 : decode b_M_readFactor 57 = .ok (.aload_n 0, 1) := by decide +kernel
theorem d_M_readFactor_58 : decode b_M_readFactor 58 = .ok (.invokevirtual 98, 3) := by decide +kernel
theorem d_M_readFactor_61 : decode b_M_readFactor 61 = .ok (.istore_n 3, 1) := by decide +kernel
theorem d_M_readFactor_62 : decode b_M_readFactor 62 = .ok (.iload_n 3, 1) := by decide +kernel
theorem d_M_readFactor_63 : decode b_M_readFactor 63 = .ok (.bipush 97, 2) := by decide +kernel
theorem d_M_readFactor_65 : decode b_M_readFactor 65 = .ok (.bipush 104, 2) := by decide +kernel
theorem d_M_readFactor_67 : decode b_M_readFactor 67 = .ok (.invokestatic 77, 3) := by decide +kernel
theorem d_M_readFactor_70 : decode b_M_readFactor 70 = .ok (.ifCond .eq 52, 3) := by decide +kernel
theorem d_M_readFactor_73 : decode b_M_readFactor 73 = .ok (.aload_n 0, 1) := by decide +kernel
theorem d_M_readFactor_74 : decode b_M_readFactor 74 = .ok (.iload_n 3, 1) := by decide +kernel
theorem d_M_readFactor_75 : decode b_M_readFactor 75 = .ok (.invokevirtual 116, 3) := by decide +kernel
theorem d_M_readFactor_78 : decode b_M_readFactor 78 = .ok (.ifCond .ne 11, 3) := by decide +kernel
theorem d_M_readFactor_81 : decode b_M_readFactor 81 = .ok (.aload_n 0, 1) := by decide +kernel
theorem d_M_readFactor_82 : decode b_M_readFactor 82 = .ok (.aload_n 0, 1) := by decide +kernel
theorem d_M_readFactor_83 : decode b_M_readFactor 83 = .ok (.getfield 92, 3) := by decide +kernel
theorem d_M_readFactor_86 : decode b_M_readFactor 86 = .ok (.invokevirtual 102, 3) := by decide +kernel
theorem d_M_readFactor_89 : decode b_M_readFactor 89 = .ok (.aload_n 0, 1) := by decide +kernel
theorem d_M_readFactor_90 : decode b_M_readFactor 90 = .ok (.getfield 41, 3) := by decide +kernel
theorem d_M_readFactor_93 : decode b_M_readFactor 93 = .ok (.iload_n 2, 1) := by decide +kernel
theorem d_M_readFactor_94 : decode b_M_readFactor 94 = .ok (.iconst 2, 1) := by decide +kernel
theorem d_M_readFactor_95 : decode b_M_readFactor 95 = .ok (.iload 4, 2) := by decide +kernel
theorem d_M_readFactor_97 : decode b_M_readFactor 97 = .ok (.iadd, 1) := by decide +kernel
theorem d_M_readFactor_98 : decode b_M_readFactor 98 = .ok (.iastore, 1) := by decide +kernel
theorem d_M_readFactor_99 : decode b_M_readFactor 99 = .ok (.aload_n 0, 1) := by decide +kernel
theorem d_M_readFactor_100 : decode b_M_readFactor 100 = .ok (.getfield 44, 3) := by decide +kernel
theorem d_M_readFactor_103 : decode b_M_readFactor 103 = .ok (.iload_n 2, 1) := by decide +kernel
theorem d_M_readFactor_104 : decode b_M_readFactor 104 = .ok (.iload_n 3, 1) := by decide +kernel
theorem d_M_readFactor_105 : decode b_M_readFactor 105 = .ok (.bipush 97, 2) := by decide +kernel
theorem d_M_readFactor_107 : decode b_M_readFactor 107 = .ok (.isub, 1) := by decide +kernel
theorem d_M_readFactor_108 : decode b_M_readFactor 108 = .ok (.iastore, 1) := by decide +kernel
theorem d_M_readFactor_109 : decode b_M_readFactor 109 = .ok (.aload_n 0, 1) := by decide +kernel
theorem d_M_readFactor_110 : decode b_M_readFactor 110 = .ok (.dup, 1) := by decide +kernel
theorem d_M_readFactor_111 : decode b_M_readFactor 111 = .ok (.getfield 92, 3) := by decide +kernel
theorem d_M_readFactor_114 : decode b_M_readFactor 114 = .ok (.iconst 1, 1) := by decide +kernel
theorem d_M_readFactor_115 : decode b_M_readFactor 115 = .ok (.iadd, 1) := by decide +kernel
theorem d_M_readFactor_116 : decode b_M_readFactor 116 = .ok (.putfield 92, 3) := by decide +kernel
theorem d_M_readFactor_119 : decode b_M_readFactor 119 = .ok (.goto 63, 3) := by decide +kernel
theorem d_M_readFactor_122 : decode b_M_readFactor 122 = .ok (.iload_n 3, 1) := by decide +kernel
theorem d_M_readFactor_123 : decode b_M_readFactor 123 = .ok (.invokestatic 120, 3) := by decide +kernel
theorem d_M_readFactor_126 : decode b_M_readFactor 126 = .ok (.ifCond .lt 36, 3) := by decide +kernel
theorem d_M_readFactor_129 : decode b_M_readFactor 129 = .ok (.aload_n 0, 1) := by decide +kernel
theorem d_M_readFactor_130 : decode b_M_readFactor 130 = .ok (.getfield 41, 3) := by decide +kernel
theorem d_M_readFactor_133 : decode b_M_readFactor 133 = .ok (.iload_n 2, 1) := by decide +kernel
theorem d_M_readFactor_134 : decode b_M_readFactor 134 = .ok (.iconst 1, 1) := by decide +kernel
theorem d_M_readFactor_135 : decode b_M_readFactor 135 = .ok (.iload 4, 2) := by decide +kernel
theorem d_M_readFactor_137 : decode b_M_readFactor 137 = .ok (.iadd, 1) := by decide +kernel
theorem d_M_readFactor_138 : decode b_M_readFactor 138 = .ok (.iastore, 1) := by decide +kernel
theorem d_M_readFactor_139 : decode b_M_readFactor 139 = .ok (.aload_n 0, 1) := by decide +kernel
theorem d_M_readFactor_140 : decode b_M_readFactor 140 = .ok (.getfield 44, 3) := by decide +kernel
theorem d_M_readFactor_143 : decode b_M_readFactor 143 = .ok (.iload_n 2, 1) := by decide +kernel
theorem d_M_readFactor_144 : decode b_M_readFactor 144 = .ok (.iload_n 3, 1) := by decide +kernel
theorem d_M_readFactor_145 : decode b_M_readFactor 145 = .ok (.invokestatic 120, 3) := by decide +kernel
theorem d_M_readFactor_148 : decode b_M_readFactor 148 = .ok (.iastore, 1) := by decide +kernel
theorem d_M_readFactor_149 : decode b_M_readFactor 149 = .ok (.aload_n 0, 1) := by decide +kernel
theorem d_M_readFactor_150 : decode b_M_readFactor 150 = .ok (.dup, 1) := by decide +kernel
theorem d_M_readFactor_151 : decode b_M_readFactor 151 = .ok (.getfield 92, 3) := by decide +kernel
theorem d_M_readFactor_154 : decode b_M_readFactor 154 = .ok (.iconst 1, 1) := by decide +kernel
theorem d_M_readFactor_155 : decode b_M_readFactor 155 = .ok (.iadd, 1) := by decide +kernel
theorem d_M_readFactor_156 : decode b_M_readFactor 156 = .ok (.putfield 92, 3) := by decide +kernel
theorem d_M_readFactor_159 : decode b_M_readFactor 159 = .ok (.goto 23, 3) := by decide +kernel
theorem d_M_readFactor_162 : decode b_M_readFactor 162 = .ok (.aload_n 0, 1) := by decide +kernel
theorem d_M_readFactor_163 : decode b_M_readFactor 163 = .ok (.getfield 41, 3) := by decide +kernel
theorem d_M_readFactor_166 : decode b_M_readFactor 166 = .ok (.iload_n 2, 1) := by decide +kernel
theorem d_M_readFactor_167 : decode b_M_readFactor 167 = .ok (.iconst 0, 1) := by decide +kernel
theorem d_M_readFactor_168 : decode b_M_readFactor 168 = .ok (.iload 4, 2) := by decide +kernel
theorem d_M_readFactor_170 : decode b_M_readFactor 170 = .ok (.iadd, 1) := by decide +kernel
theorem d_M_readFactor_171 : decode b_M_readFactor 171 = .ok (.iastore, 1) := by decide +kernel
theorem d_M_readFactor_172 : decode b_M_readFactor 172 = .ok (.aload_n 0, 1) := by decide +kernel
theorem d_M_readFactor_173 : decode b_M_readFactor 173 = .ok (.getfield 44, 3) := by decide +kernel
theorem d_M_readFactor_176 : decode b_M_readFactor 176 = .ok (.iload_n 2, 1) := by decide +kernel
theorem d_M_readFactor_177 : decode b_M_readFactor 177 = .ok (.aload_n 0, 1) := by decide +kernel
theorem d_M_readFactor_178 : decode b_M_readFactor 178 = .ok (.invokevirtual 113, 3) := by decide +kernel
theorem d_M_readFactor_181 : decode b_M_readFactor 181 = .ok (.iastore, 1) := by decide +kernel
theorem d_M_readFactor_182 : decode b_M_readFactor 182 = .ok (.aload_n 0, 1) := by decide +kernel
theorem d_M_readFactor_183 : decode b_M_readFactor 183 = .ok (.getfield 35, 3) := by decide +kernel
theorem d_M_readFactor_186 : decode b_M_readFactor 186 = .ok (.bipush 6, 2) := by decide +kernel
theorem d_M_readFactor_188 : decode b_M_readFactor 188 = .ok (.dup2, 1) := by decide +kernel
theorem d_M_readFactor_189 : decode b_M_readFactor 189 = .ok (.iaload, 1) := by decide +kernel
theorem d_M_readFactor_190 : decode b_M_readFactor 190 = .ok (.iconst 1, 1) := by decide +kernel
theorem d_M_readFactor_191 : decode b_M_readFactor 191 = .ok (.iadd, 1) := by decide +kernel
theorem d_M_readFactor_192 : decode b_M_readFactor 192 = .ok (.iastore, 1) := by decide +kernel
theorem d_M_readFactor_193 : decode b_M_readFactor 193 = .ok (.return_, 1) := by decide +kernel
theorem d_M_sizeOf_0 : decode b_M_sizeOf 0 = .ok (.iload_n 0, 1) := by decide +kernel
theorem d_M_sizeOf_1 : decode b_M_sizeOf 1 = .ok (.bipush 119, 2) := by decide +kernel
theorem d_M_sizeOf_3 : decode b_M_sizeOf 3 = .ok (.if_icmp .ne 7, 3) := by decide +kernel
theorem d_M_sizeOf_6 : decode b_M_sizeOf 6 = .ok (.iconst 0, 1) := by decide +kernel
theorem d_M_sizeOf_7 : decode b_M_sizeOf 7 = .ok (.goto 34, 3) := by decide +kernel
theorem d_M_sizeOf_10 : decode b_M_sizeOf 10 = .ok (.iload_n 0, 1) := by decide +kernel
theorem d_M_sizeOf_11 : decode b_M_sizeOf 11 = .ok (.bipush 116, 2) := by decide +kernel
theorem d_M_sizeOf_13 : decode b_M_sizeOf 13 = .ok (.if_icmp .ne 7, 3) := by decide +kernel
theorem d_M_sizeOf_16 : decode b_M_sizeOf 16 = .ok (.iconst 1, 1) := by decide +kernel
theorem d_M_sizeOf_17 : decode b_M_sizeOf 17 = .ok (.goto 24, 3) := by decide +kernel
theorem d_M_sizeOf_20 : decode b_M_sizeOf 20 = .ok (.iload_n 0, 1) := by decide +kernel
theorem d_M_sizeOf_21 : decode b_M_sizeOf 21 = .ok (.bipush 108, 2) := by decide +kernel
theorem d_M_sizeOf_23 : decode b_M_sizeOf 23 = .ok (.if_icmp .ne 7, 3) := by decide +kernel
theorem d_M_sizeOf_26 : decode b_M_sizeOf 26 = .ok (.iconst 2, 1) := by decide +kernel
theorem d_M_sizeOf_27 : decode b_M_sizeOf 27 = .ok (.goto 14, 3) := by decide +kernel
theorem d_M_sizeOf_30 : decode b_M_sizeOf 30 = .ok (.iload_n 0, 1) := by decide +kernel
theorem d_M_sizeOf_31 : decode b_M_sizeOf 31 = .ok (.bipush 110, 2) := by decide +kernel
theorem d_M_sizeOf_33 : decode b_M_sizeOf 33 = .ok (.if_icmp .ne 7, 3) := by decide +kernel
theorem d_M_sizeOf_36 : decode b_M_sizeOf 36 = .ok (.iconst 3, 1) := by decide +kernel
theorem d_M_sizeOf_37 : decode b_M_sizeOf 37 = .ok (.goto 4, 3) := by decide +kernel
theorem d_M_sizeOf_40 : decode b_M_sizeOf 40 = .ok (.iconst (-1), 1) := by decide +kernel
theorem d_M_sizeOf_41 : decode b_M_sizeOf 41 = .ok (.ireturn, 1) := by decide +kernel
theorem d_M_place_0 : decode b_M_place 0 = .ok (.aload_n 0, 1) := by decide +kernel
theorem d_M_place_1 : decode b_M_place 1 = .ok (.iconst 0, 1) := by decide +kernel
theorem d_M_place_2 : decode b_M_place 2 = .ok (.putfield 74, 3) := by decide +kernel
theorem d_M_place_5 : decode b_M_place 5 = .ok (.aload_n 0, 1) := by decide +kernel
theorem d_M_place_6 : decode b_M_place 6 = .ok (.getfield 13, 3) := by decide +kernel
theorem d_M_place_9 : decode b_M_place 9 = .ok (.ireturn, 1) := by decide +kernel
theorem d_M_change_0 : decode b_M_change 0 = .ok (.aload_n 0, 1) := by decide +kernel
theorem d_M_change_1 : decode b_M_change 1 = .ok (.iload_n 1, 1) := by decide +kernel
theorem d_M_change_2 : decode b_M_change 2 = .ok (.iconst 0, 1) := by decide +kernel
theorem d_M_change_3 : decode b_M_change 3 = .ok (.bipush 9, 2) := by decide +kernel
theorem d_M_change_5 : decode b_M_change 5 = .ok (.invokestatic 77, 3) := by decide +kernel
theorem d_M_change_8 : decode b_M_change 8 = .ok (.ifCond .eq 13, 3) := by decide +kernel
theorem d_M_change_11 : decode b_M_change 11 = .ok (.iload_n 2, 1) := by decide +kernel
theorem d_M_change_12 : decode b_M_change 12 = .ok (.iconst 0, 1) := by decide +kernel
theorem d_M_change_13 : decode b_M_change 13 = .ok (.bipush 7, 2) := by decide +kernel
theorem d_M_change_15 : decode b_M_change 15 = .ok (.invokestatic 77, 3) := by decide +kernel
theorem d_M_change_18 : decode b_M_change 18 = .ok (.ifCond .ne 7, 3) := by decide +kernel
theorem d_M_change_21 : decode b_M_change 21 = .ok (.iconst 1, 1) := by decide +kernel
theorem d_M_change_22 : decode b_M_change 22 = .ok (.goto 4, 3) := by decide +kernel
theorem d_M_change_25 : decode b_M_change 25 = .ok (.iconst 0, 1) := by decide +kernel
theorem d_M_change_26 : decode b_M_change 26 = .ok (.aload_n 0, 1) := by decide +kernel
theorem d_M_change_27 : decode b_M_change 27 = .ok (.getfield 142, 3) := by decide +kernel
theorem d_M_change_30 : decode b_M_change 30 = .ok (.bipush 20, 2) := by decide +kernel
theorem d_M_change_32 : decode b_M_change 32 = .ok (.if_icmp .ne 7, 3) := by decide +kernel
theorem d_M_change_35 : decode b_M_change 35 = .ok (.iconst 1, 1) := by decide +kernel
theorem d_M_change_36 : decode b_M_change 36 = .ok (.goto 4, 3) := by decide +kernel
theorem d_M_change_39 : decode b_M_change 39 = .ok (.iconst 0, 1) := by decide +kernel
theorem d_M_change_40 : decode b_M_change 40 = .ok (.iload_n 3, 1) := by decide +kernel
theorem d_M_change_41 : decode b_M_change 41 = .ok (.iconst 0, 1) := by decide +kernel
theorem d_M_change_42 : decode b_M_change 42 = .ok (.bipush 9, 2) := by decide +kernel
theorem d_M_change_44 : decode b_M_change 44 = .ok (.invokestatic 77, 3) := by decide +kernel
theorem d_M_change_47 : decode b_M_change 47 = .ok (.ifCond .eq 17, 3) := by decide +kernel
theorem d_M_change_50 : decode b_M_change 50 = .ok (.iload 4, 2) := by decide +kernel
theorem d_M_change_52 : decode b_M_change 52 = .ok (.sipush (-9999), 3) := by decide +kernel
theorem d_M_change_55 : decode b_M_change 55 = .ok (.sipush 9999, 3) := by decide +kernel
theorem d_M_change_58 : decode b_M_change 58 = .ok (.invokestatic 77, 3) := by decide +kernel
theorem d_M_change_61 : decode b_M_change 61 = .ok (.ifCond .ne 7, 3) := by decide +kernel
theorem d_M_change_64 : decode b_M_change 64 = .ok (.iconst 1, 1) := by decide +kernel
theorem d_M_change_65 : decode b_M_change 65 = .ok (.goto 4, 3) := by decide +kernel
theorem d_M_change_68 : decode b_M_change 68 = .ok (.iconst 0, 1) := by decide +kernel
theorem d_M_change_69 : decode b_M_change 69 = .ok (.iconst 0, 1) := by decide +kernel
theorem d_M_change_70 : decode b_M_change 70 = .ok (.invokevirtual 84, 3) := by decide +kernel
theorem d_M_change_73 : decode b_M_change 73 = .ok (.ifCond .eq 5, 3) := by decide +kernel
theorem d_M_change_76 : decode b_M_change 76 = .ok (.iconst 0, 1) := by decide +kernel
theorem d_M_change_77 : decode b_M_change 77 = .ok (.ireturn, 1) := by decide +kernel
theorem d_M_change_78 : decode b_M_change 78 = .ok (.aload_n 0, 1) := by decide +kernel
theorem d_M_change_79 : decode b_M_change 79 = .ok (.getfield 47, 3) := by decide +kernel
theorem d_M_change_82 : decode b_M_change 82 = .ok (.aload_n 0, 1) := by decide +kernel
theorem d_M_change_83 : decode b_M_change 83 = .ok (.getfield 142, 3) := by decide +kernel
theorem d_M_change_86 : decode b_M_change 86 = .ok (.iload_n 1, 1) := by decide +kernel
theorem d_M_change_87 : decode b_M_change 87 = .ok (.iastore, 1) := by decide +kernel
theorem d_M_change_88 : decode b_M_change 88 = .ok (.aload_n 0, 1) := by decide +kernel
theorem d_M_change_89 : decode b_M_change 89 = .ok (.getfield 50, 3) := by decide +kernel
theorem d_M_change_92 : decode b_M_change 92 = .ok (.aload_n 0, 1) := by decide +kernel
theorem d_M_change_93 : decode b_M_change 93 = .ok (.getfield 142, 3) := by decide +kernel
theorem d_M_change_96 : decode b_M_change 96 = .ok (.iload_n 2, 1) := by decide +kernel
theorem d_M_change_97 : decode b_M_change 97 = .ok (.iastore, 1) := by decide +kernel
theorem d_M_change_98 : decode b_M_change 98 = .ok (.aload_n 0, 1) := by decide +kernel
theorem d_M_change_99 : decode b_M_change 99 = .ok (.getfield 53, 3) := by decide +kernel
theorem d_M_change_102 : decode b_M_change 102 = .ok (.aload_n 0, 1) := by decide +kernel
theorem d_M_change_103 : decode b_M_change 103 = .ok (.getfield 142, 3) := by decide +kernel
theorem d_M_change_106 : decode b_M_change 106 = .ok (.iload_n 3, 1) := by decide +kernel
theorem d_M_change_107 : decode b_M_change 107 = .ok (.iastore, 1) := by decide +kernel
theorem d_M_change_108 : decode b_M_change 108 = .ok (.aload_n 0, 1) := by decide +kernel
theorem d_M_change_109 : decode b_M_change 109 = .ok (.getfield 56, 3) := by decide +kernel
theorem d_M_change_112 : decode b_M_change 112 = .ok (.aload_n 0, 1) := by decide +kernel
theorem d_M_change_113 : decode b_M_change 113 = .ok (.getfield 142, 3) := by decide +kernel
theorem d_M_change_116 : decode b_M_change 116 = .ok (.iload 4, 2) := by decide +kernel
theorem d_M_change_118 : decode b_M_change 118 = .ok (.iastore, 1) := by decide +kernel
theorem d_M_change_119 : decode b_M_change 119 = .ok (.aload_n 0, 1) := by decide +kernel
theorem d_M_change_120 : decode b_M_change 120 = .ok (.dup, 1) := by decide +kernel
theorem d_M_change_121 : decode b_M_change 121 = .ok (.getfield 142, 3) := by decide +kernel
theorem d_M_change_124 : decode b_M_change 124 = .ok (.iconst 1, 1) := by decide +kernel
theorem d_M_change_125 : decode b_M_change 125 = .ok (.iadd, 1) := by decide +kernel
theorem d_M_change_126 : decode b_M_change 126 = .ok (.putfield 142, 3) := by decide +kernel
theorem d_M_change_129 : decode b_M_change 129 = .ok (.aload_n 0, 1) := by decide +kernel
theorem d_M_change_130 : decode b_M_change 130 = .ok (.getfield 142, 3) := by decide +kernel
theorem d_M_change_133 : decode b_M_change 133 = .ok (.iconst 1, 1) := by decide +kernel
theorem d_M_change_134 : decode b_M_change 134 = .ok (.isub, 1) := by decide +kernel
theorem d_M_change_135 : decode b_M_change 135 = .ok (.ireturn, 1) := by decide +kernel
theorem d_M_order_0 : decode b_M_order 0 = .ok (.aload_n 0, 1) := by decide +kernel
theorem d_M_order_1 : decode b_M_order 1 = .ok (.iload_n 1, 1) := by decide +kernel
theorem d_M_order_2 : decode b_M_order 2 = .ok (.iconst 0, 1) := by decide +kernel
theorem d_M_order_3 : decode b_M_order 3 = .ok (.bipush 9, 2) := by decide +kernel
theorem d_M_order_5 : decode b_M_order 5 = .ok (.invokestatic 77, 3) := by decide +kernel
theorem d_M_order_8 : decode b_M_order 8 = .ok (.ifCond .ne 7, 3) := by decide +kernel
theorem d_M_order_11 : decode b_M_order 11 = .ok (.iconst 1, 1) := by decide +kernel
theorem d_M_order_12 : decode b_M_order 12 = .ok (.goto 4, 3) := by decide +kernel
theorem d_M_order_15 : decode b_M_order 15 = .ok (.iconst 0, 1) := by decide +kernel
theorem d_M_order_16 : decode b_M_order 16 = .ok (.iload_n 2, 1) := by decide +kernel
theorem d_M_order_17 : decode b_M_order 17 = .ok (.iconst 0, 1) := by decide +kernel
theorem d_M_order_18 : decode b_M_order 18 = .ok (.sipush 9999, 3) := by decide +kernel
theorem d_M_order_21 : decode b_M_order 21 = .ok (.invokestatic 77, 3) := by decide +kernel
theorem d_M_order_24 : decode b_M_order 24 = .ok (.ifCond .ne 7, 3) := by decide +kernel
theorem d_M_order_27 : decode b_M_order 27 = .ok (.iconst 1, 1) := by decide +kernel
theorem d_M_order_28 : decode b_M_order 28 = .ok (.goto 4, 3) := by decide +kernel
theorem d_M_order_31 : decode b_M_order 31 = .ok (.iconst 0, 1) := by decide +kernel
theorem d_M_order_32 : decode b_M_order 32 = .ok (.iconst 0, 1) := by decide +kernel
theorem d_M_order_33 : decode b_M_order 33 = .ok (.iconst 0, 1) := by decide +kernel
theorem d_M_order_34 : decode b_M_order 34 = .ok (.invokevirtual 84, 3) := by decide +kernel
theorem d_M_order_37 : decode b_M_order 37 = .ok (.ifCond .eq 4, 3) := by decide +kernel
theorem d_M_order_40 : decode b_M_order 40 = .ok (.return_, 1) := by decide +kernel
theorem d_M_order_41 : decode b_M_order 41 = .ok (.aload_n 0, 1) := by decide +kernel
theorem d_M_order_42 : decode b_M_order 42 = .ok (.iload_n 1, 1) := by decide +kernel
theorem d_M_order_43 : decode b_M_order 43 = .ok (.putfield 145, 3) := by decide +kernel
theorem d_M_order_46 : decode b_M_order 46 = .ok (.aload_n 0, 1) := by decide +kernel
theorem d_M_order_47 : decode b_M_order 47 = .ok (.iload_n 2, 1) := by decide +kernel
theorem d_M_order_48 : decode b_M_order 48 = .ok (.putfield 148, 3) := by decide +kernel
theorem d_M_order_51 : decode b_M_order 51 = .ok (.return_, 1) := by decide +kernel
theorem d_M_value_0 : decode b_M_value 0 = .ok (.iload_n 1, 1) := by decide +kernel
theorem d_M_value_1 : decode b_M_value 1 = .ok (.iconst 0, 1) := by decide +kernel
theorem d_M_value_2 : decode b_M_value 2 = .ok (.bipush 7, 2) := by decide +kernel
theorem d_M_value_4 : decode b_M_value 4 = .ok (.invokestatic 77, 3) := by decide +kernel
theorem d_M_value_7 : decode b_M_value 7 = .ok (.ifCond .ne 7, 3) := by decide +kernel
theorem d_M_value_10 : decode b_M_value 10 = .ok (.iconst 1, 1) := by decide +kernel
theorem d_M_value_11 : decode b_M_value 11 = .ok (.goto 4, 3) := by decide +kernel
theorem d_M_value_14 : decode b_M_value 14 = .ok (.iconst 0, 1) := by decide +kernel
theorem d_M_value_15 : decode b_M_value 15 = .ok (.istore 6, 2) := by decide +kernel
theorem d_M_value_17 : decode b_M_value 17 = .ok (.aload_n 0, 1) := by decide +kernel
theorem d_M_value_18 : decode b_M_value 18 = .ok (.invokevirtual 162, 3) := by decide +kernel
theorem d_M_value_21 : decode b_M_value 21 = .ok (.istore 7, 2) := by decide +kernel
theorem d_M_value_23 : decode b_M_value 23 = .ok (.aload_n 0, 1) := by decide +kernel
theorem d_M_value_24 : decode b_M_value 24 = .ok (.iload 7, 2) := by decide +kernel
theorem d_M_value_26 : decode b_M_value 26 = .ok (.iload_n 1, 1) := by decide +kernel
theorem d_M_value_27 : decode b_M_value 27 = .ok (.invokevirtual 165, 3) := by decide +kernel
theorem d_M_value_30 : decode b_M_value 30 = .ok (.istore 8, 2) := by decide +kernel
theorem d_M_value_32 : decode b_M_value 32 = .ok (.aload_n 0, 1) := by decide +kernel
theorem d_M_value_33 : decode b_M_value 33 = .ok (.iload_n 1, 1) := by decide +kernel
theorem d_M_value_34 : decode b_M_value 34 = .ok (.invokevirtual 151, 3) := by decide +kernel
theorem d_M_value_37 : decode b_M_value 37 = .ok (.istore 9, 2) := by decide +kernel
theorem d_M_value_39 : decode b_M_value 39 = .ok (.iload_n 2, 1) := by decide +kernel
theorem d_M_value_40 : decode b_M_value 40 = .ok (.iconst 0, 1) := by decide +kernel
theorem d_M_value_41 : decode b_M_value 41 = .ok (.sipush 9999, 3) := by decide +kernel
theorem d_M_value_44 : decode b_M_value 44 = .ok (.invokestatic 77, 3) := by decide +kernel
theorem d_M_value_47 : decode b_M_value 47 = .ok (.ifCond .eq 38, 3) := by decide +kernel
theorem d_M_value_50 : decode b_M_value 50 = .ok (.iload_n 3, 1) := by decide +kernel
theorem d_M_value_51 : decode b_M_value 51 = .ok (.iconst 0, 1) := by decide +kernel
theorem d_M_value_52 : decode b_M_value 52 = .ok (.sipush 9999, 3) := by decide +kernel
theorem d_M_value_55 : decode b_M_value 55 = .ok (.invokestatic 77, 3) := by decide +kernel
theorem d_M_value_58 : decode b_M_value 58 = .ok (.ifCond .eq 27, 3) := by decide +kernel
theorem d_M_value_61 : decode b_M_value 61 = .ok (.iload 4, 2) := by decide +kernel
theorem d_M_value_63 : decode b_M_value 63 = .ok (.iconst 0, 1) := by decide +kernel
theorem d_M_value_64 : decode b_M_value 64 = .ok (.sipush 9999, 3) := by decide +kernel
theorem d_M_value_67 : decode b_M_value 67 = .ok (.invokestatic 77, 3) := by decide +kernel
theorem d_M_value_70 : decode b_M_value 70 = .ok (.ifCond .eq 15, 3) := by decide +kernel
theorem d_M_value_73 : decode b_M_value 73 = .ok (.iload 5, 2) := by decide +kernel
theorem d_M_value_75 : decode b_M_value 75 = .ok (.iconst 0, 1) := by decide +kernel
theorem d_M_value_76 : decode b_M_value 76 = .ok (.sipush 9999, 3) := by decide +kernel
theorem d_M_value_79 : decode b_M_value 79 = .ok (.invokestatic 77, 3) := by decide +kernel
theorem d_M_value_82 : decode b_M_value 82 = .ok (.ifCond .ne 7, 3) := by decide +kernel
theorem d_M_value_85 : decode b_M_value 85 = .ok (.iconst 1, 1) := by decide +kernel
theorem d_M_value_86 : decode b_M_value 86 = .ok (.goto 4, 3) := by decide +kernel
theorem d_M_value_89 : decode b_M_value 89 = .ok (.iconst 0, 1) := by decide +kernel
theorem d_M_value_90 : decode b_M_value 90 = .ok (.istore 10, 2) := by decide +kernel
theorem d_M_value_92 : decode b_M_value 92 = .ok (.aload_n 0, 1) := by decide +kernel
theorem d_M_value_93 : decode b_M_value 93 = .ok (.iload 6, 2) := by decide +kernel
theorem d_M_value_95 : decode b_M_value 95 = .ok (.iload 8, 2) := by decide +kernel
theorem d_M_value_97 : decode b_M_value 97 = .ok (.ifCond .ge 12, 3) := by decide +kernel
theorem d_M_value_100 : decode b_M_value 100 = .ok (.iload 9, 2) := by decide +kernel
theorem d_M_value_102 : decode b_M_value 102 = .ok (.ifCond .ge 7, 3) := by decide +kernel
theorem d_M_value_105 : decode b_M_value 105 = .ok (.iconst 1, 1) := by decide +kernel
theorem d_M_value_106 : decode b_M_value 106 = .ok (.goto 4, 3) := by decide +kernel
theorem d_M_value_109 : decode b_M_value 109 = .ok (.iconst 0, 1) := by decide +kernel
theorem d_M_value_110 : decode b_M_value 110 = .ok (.iload 10, 2) := by decide +kernel
theorem d_M_value_112 : decode b_M_value 112 = .ok (.iconst 0, 1) := by decide +kernel
theorem d_M_value_113 : decode b_M_value 113 = .ok (.invokevirtual 84, 3) := by decide +kernel
theorem d_M_value_116 : decode b_M_value 116 = .ok (.ifCond .eq 5, 3) := by decide +kernel
theorem d_M_value_119 : decode b_M_value 119 = .ok (.iconst 0, 1) := by decide +kernel
theorem d_M_value_120 : decode b_M_value 120 = .ok (.ireturn, 1) := by decide +kernel
theorem d_M_value_121 : decode b_M_value 121 = .ok (.iload 9, 2) := by decide +kernel
theorem d_M_value_123 : decode b_M_value 123 = .ok (.ifCond .lt 11, 3) := by decide +kernel
theorem d_M_value_126 : decode b_M_value 126 = .ok (.aload_n 0, 1) := by decide +kernel
theorem d_M_value_127 : decode b_M_value 127 = .ok (.getfield 56, 3) := by decide +kernel
theorem d_M_value_130 : decode b_M_value 130 = .ok (.iload 9, 2) := by decide +kernel
theorem d_M_value_132 : decode b_M_value 132 = .ok (.iaload, 1) := by decide +kernel
theorem d_M_value_133 : decode b_M_value 133 = .ok (.ireturn, 1) := by decide +kernel
theorem d_M_value_134 : decode b_M_value 134 = .ok (.aload_n 0, 1) := by decide +kernel
theorem d_M_value_135 : decode b_M_value 135 = .ok (.getfield 68, 3) := by decide +kernel
theorem d_M_value_138 : decode b_M_value 138 = .ok (.iconst 0, 1) := by decide +kernel
theorem d_M_value_139 : decode b_M_value 139 = .ok (.iload_n 2, 1) := by decide +kernel
theorem d_M_value_140 : decode b_M_value 140 = .ok (.iastore, 1) := by decide +kernel
theorem d_M_value_141 : decode b_M_value 141 = .ok (.aload_n 0, 1) := by decide +kernel
theorem d_M_value_142 : decode b_M_value 142 = .ok (.getfield 68, 3) := by decide +kernel
theorem d_M_value_145 : decode b_M_value 145 = .ok (.iconst 1, 1) := by decide +kernel
theorem d_M_value_146 : decode b_M_value 146 = .ok (.iload_n 3, 1) := by decide +kernel
theorem d_M_value_147 : decode b_M_value 147 = .ok (.iastore, 1) := by decide +kernel
theorem d_M_value_148 : decode b_M_value 148 = .ok (.aload_n 0, 1) := by decide +kernel
theorem d_M_value_149 : decode b_M_value 149 = .ok (.getfield 68, 3) := by decide +kernel
theorem d_M_value_152 : decode b_M_value 152 = .ok (.iconst 2, 1) := by decide +kernel
theorem d_M_value_153 : decode b_M_value 153 = .ok (.iload 4, 2) := by decide +kernel
theorem d_M_value_155 : decode b_M_value 155 = .ok (.iastore, 1) := by decide +kernel
theorem d_M_value_156 : decode b_M_value 156 = .ok (.aload_n 0, 1) := by decide +kernel
theorem d_M_value_157 : decode b_M_value 157 = .ok (.getfield 68, 3) := by decide +kernel
theorem d_M_value_160 : decode b_M_value 160 = .ok (.iconst 3, 1) := by decide +kernel
theorem d_M_value_161 : decode b_M_value 161 = .ok (.iload 5, 2) := by decide +kernel
theorem d_M_value_163 : decode b_M_value 163 = .ok (.iastore, 1) := by decide +kernel
theorem d_M_value_164 : decode b_M_value 164 = .ok (.aload_n 0, 1) := by decide +kernel
theorem d_M_value_165 : decode b_M_value 165 = .ok (.iload 7, 2) := by decide +kernel
theorem d_M_value_167 : decode b_M_value 167 = .ok (.iload 8, 2) := by decide +kernel
theorem d_M_value_169 : decode b_M_value 169 = .ok (.invokevirtual 169, 3) := by decide +kernel
theorem d_M_value_172 : decode b_M_value 172 = .ok (.aload_n 0, 1) := by decide +kernel
theorem d_M_value_173 : decode b_M_value 173 = .ok (.getfield 62, 3) := by decide +kernel
theorem d_M_value_176 : decode b_M_value 176 = .ok (.iload_n 1, 1) := by decide +kernel
theorem d_M_value_177 : decode b_M_value 177 = .ok (.iaload, 1) := by decide +kernel
theorem d_M_value_178 : decode b_M_value 178 = .ok (.ifCond .lt 7, 3) := by decide +kernel
theorem d_M_value_181 : decode b_M_value 181 = .ok (.iconst 1, 1) := by decide +kernel
theorem d_M_value_182 : decode b_M_value 182 = .ok (.goto 4, 3) := by decide +kernel
theorem d_M_value_185 : decode b_M_value 185 = .ok (.iconst 0, 1) := by decide +kernel
theorem d_M_value_186 : decode b_M_value 186 = .ok (.istore 11, 2) := by decide +kernel
theorem d_M_value_188 : decode b_M_value 188 = .ok (.iload 11, 2) := by decide +kernel
theorem d_M_value_190 : decode b_M_value 190 = .ok (.ifCond .eq 23, 3) := by decide +kernel
theorem d_M_value_193 : decode b_M_value 193 = .ok (.aload_n 0, 1) := by decide +kernel
theorem d_M_value_194 : decode b_M_value 194 = .ok (.aload_n 0, 1) := by decide +kernel
theorem d_M_value_195 : decode b_M_value 195 = .ok (.getfield 62, 3) := by decide +kernel
theorem d_M_value_198 : decode b_M_value 198 = .ok (.iload_n 1, 1) := by decide +kernel
theorem d_M_value_199 : decode b_M_value 199 = .ok (.iaload, 1) := by decide +kernel
theorem d_M_value_200 : decode b_M_value 200 = .ok (.putfield 71, 3) := by decide +kernel
theorem d_M_value_203 : decode b_M_value 203 = .ok (.aload_n 0, 1) := by decide +kernel
theorem d_M_value_204 : decode b_M_value 204 = .ok (.aload_n 0, 1) := by decide +kernel
theorem d_M_value_205 : decode b_M_value 205 = .ok (.getfield 65, 3) := by decide +kernel
theorem d_M_value_208 : decode b_M_value 208 = .ok (.iload_n 1, 1) := by decide +kernel
theorem d_M_value_209 : decode b_M_value 209 = .ok (.iaload, 1) := by decide +kernel
theorem d_M_value_210 : decode b_M_value 210 = .ok (.putfield 173, 3) := by decide +kernel
theorem d_M_value_213 : decode b_M_value 213 = .ok (.aload_n 0, 1) := by decide +kernel
theorem d_M_value_214 : decode b_M_value 214 = .ok (.iconst 0, 1) := by decide +kernel
theorem d_M_value_215 : decode b_M_value 215 = .ok (.iconst 0, 1) := by decide +kernel
theorem d_M_value_216 : decode b_M_value 216 = .ok (.iconst 0, 1) := by decide +kernel
theorem d_M_value_217 : decode b_M_value 217 = .ok (.iload 11, 2) := by decide +kernel
theorem d_M_value_219 : decode b_M_value 219 = .ok (.invokevirtual 84, 3) := by decide +kernel
theorem d_M_value_222 : decode b_M_value 222 = .ok (.ifCond .eq 5, 3) := by decide +kernel
theorem d_M_value_225 : decode b_M_value 225 = .ok (.iconst 0, 1) := by decide +kernel
theorem d_M_value_226 : decode b_M_value 226 = .ok (.ireturn, 1) := by decide +kernel
theorem d_M_value_227 : decode b_M_value 227 = .ok (.aload_n 0, 1) := by decide +kernel
theorem d_M_value_228 : decode b_M_value 228 = .ok (.getfield 59, 3) := by decide +kernel
theorem d_M_value_231 : decode b_M_value 231 = .ok (.iload_n 1, 1) := by decide +kernel
theorem d_M_value_232 : decode b_M_value 232 = .ok (.iaload, 1) := by decide +kernel
theorem d_M_value_233 : decode b_M_value 233 = .ok (.ireturn, 1) := by decide +kernel
theorem d_M_editionNow_0 : decode b_M_editionNow 0 = .ok (.iconst (-1), 1) := by decide +kernel
theorem d_M_editionNow_1 : decode b_M_editionNow 1 = .ok (.istore_n 1, 1) := by decide +kernel
theorem d_M_editionNow_2 : decode b_M_editionNow 2 = .ok (.iconst 0, 1) := by decide +kernel
theorem d_M_editionNow_3 : decode b_M_editionNow 3 = .ok (.istore_n 2, 1) := by decide +kernel
theorem d_M_editionNow_4 : decode b_M_editionNow 4 = .ok (.iload_n 2, 1) := by decide +kernel
theorem d_M_editionNow_5 : decode b_M_editionNow 5 = .ok (.aload_n 0, 1) := by decide +kernel
theorem d_M_editionNow_6 : decode b_M_editionNow 6 = .ok (.getfield 136, 3) := by decide +kernel
theorem d_M_editionNow_9 : decode b_M_editionNow 9 = .ok (.if_icmp .ge 43, 3) := by decide +kernel
theorem d_M_editionNow_12 : decode b_M_editionNow 12 = .ok (.aload_n 0, 1) := by decide +kernel
theorem d_M_editionNow_13 : decode b_M_editionNow 13 = .ok (.getfield 17, 3) := by decide +kernel
theorem d_M_editionNow_16 : decode b_M_editionNow 16 = .ok (.iload_n 2, 1) := by decide +kernel
theorem d_M_editionNow_17 : decode b_M_editionNow 17 = .ok (.iaload, 1) := by decide +kernel
theorem d_M_editionNow_18 : decode b_M_editionNow 18 = .ok (.aload_n 0, 1) := by decide +kernel
theorem d_M_editionNow_19 : decode b_M_editionNow 19 = .ok (.getfield 148, 3) := by decide +kernel
theorem d_M_editionNow_22 : decode b_M_editionNow 22 = .ok (.if_icmp .gt 24, 3) := by decide +kernel
theorem d_M_editionNow_25 : decode b_M_editionNow 25 = .ok (.iload_n 1, 1) := by decide +kernel
theorem d_M_editionNow_26 : decode b_M_editionNow 26 = .ok (.ifCond .lt 18, 3) := by decide +kernel
theorem d_M_editionNow_29 : decode b_M_editionNow 29 = .ok (.aload_n 0, 1) := by decide +kernel
theorem d_M_editionNow_30 : decode b_M_editionNow 30 = .ok (.getfield 17, 3) := by decide +kernel
theorem d_M_editionNow_33 : decode b_M_editionNow 33 = .ok (.iload_n 2, 1) := by decide +kernel
theorem d_M_editionNow_34 : decode b_M_editionNow 34 = .ok (.iaload, 1) := by decide +kernel
theorem d_M_editionNow_35 : decode b_M_editionNow 35 = .ok (.aload_n 0, 1) := by decide +kernel
theorem d_M_editionNow_36 : decode b_M_editionNow 36 = .ok (.getfield 17, 3) := by decide +kernel
theorem d_M_editionNow_39 : decode b_M_editionNow 39 = .ok (.iload_n 1, 1) := by decide +kernel
theorem d_M_editionNow_40 : decode b_M_editionNow 40 = .ok (.iaload, 1) := by decide +kernel
theorem d_M_editionNow_41 : decode b_M_editionNow 41 = .ok (.if_icmp .lt 5, 3) := by decide +kernel
theorem d_M_editionNow_44 : decode b_M_editionNow 44 = .ok (.iload_n 2, 1) := by decide +kernel
theorem d_M_editionNow_45 : decode b_M_editionNow 45 = .ok (.istore_n 1, 1) := by decide +kernel
theorem d_M_editionNow_46 : decode b_M_editionNow 46 = .ok (.iinc 2 1, 3) := by decide +kernel
theorem d_M_editionNow_49 : decode b_M_editionNow 49 = .ok (.goto (-45), 3) := by decide +kernel
theorem d_M_editionNow_52 : decode b_M_editionNow 52 = .ok (.iload_n 1, 1) := by decide +kernel
theorem d_M_editionNow_53 : decode b_M_editionNow 53 = .ok (.ireturn, 1) := by decide +kernel
theorem d_M_ruleOf_0 : decode b_M_ruleOf 0 = .ok (.iconst (-1), 1) := by decide +kernel
theorem d_M_ruleOf_1 : decode b_M_ruleOf 1 = .ok (.istore_n 3, 1) := by decide +kernel
theorem d_M_ruleOf_2 : decode b_M_ruleOf 2 = .ok (.iconst 0, 1) := by decide +kernel
theorem d_M_ruleOf_3 : decode b_M_ruleOf 3 = .ok (.istore 4, 2) := by decide +kernel
theorem d_M_ruleOf_5 : decode b_M_ruleOf 5 = .ok (.iload_n 1, 1) := by decide +kernel
theorem d_M_ruleOf_6 : decode b_M_ruleOf 6 = .ok (.ifCond .lt 43, 3) := by decide +kernel
theorem d_M_ruleOf_9 : decode b_M_ruleOf 9 = .ok (.iload 4, 2) := by decide +kernel
theorem d_M_ruleOf_11 : decode b_M_ruleOf 11 = .ok (.aload_n 0, 1) := by decide +kernel
theorem d_M_ruleOf_12 : decode b_M_ruleOf 12 = .ok (.getfield 26, 3) := by decide +kernel
theorem d_M_ruleOf_15 : decode b_M_ruleOf 15 = .ok (.iload_n 1, 1) := by decide +kernel
theorem d_M_ruleOf_16 : decode b_M_ruleOf 16 = .ok (.iaload, 1) := by decide +kernel
theorem d_M_ruleOf_17 : decode b_M_ruleOf 17 = .ok (.if_icmp .ge 32, 3) := by decide +kernel
theorem d_M_ruleOf_20 : decode b_M_ruleOf 20 = .ok (.aload_n 0, 1) := by decide +kernel
theorem d_M_ruleOf_21 : decode b_M_ruleOf 21 = .ok (.getfield 29, 3) := by decide +kernel
theorem d_M_ruleOf_24 : decode b_M_ruleOf 24 = .ok (.bipush 8, 2) := by decide +kernel
theorem d_M_ruleOf_26 : decode b_M_ruleOf 26 = .ok (.iload_n 1, 1) := by decide +kernel
theorem d_M_ruleOf_27 : decode b_M_ruleOf 27 = .ok (.imul, 1) := by decide +kernel
theorem d_M_ruleOf_28 : decode b_M_ruleOf 28 = .ok (.iload 4, 2) := by decide +kernel
theorem d_M_ruleOf_30 : decode b_M_ruleOf 30 = .ok (.iadd, 1) := by decide +kernel
theorem d_M_ruleOf_31 : decode b_M_ruleOf 31 = .ok (.iaload, 1) := by decide +kernel
theorem d_M_ruleOf_32 : decode b_M_ruleOf 32 = .ok (.iload_n 2, 1) := by decide +kernel
theorem d_M_ruleOf_33 : decode b_M_ruleOf 33 = .ok (.if_icmp .ne 8, 3) := by decide +kernel
theorem d_M_ruleOf_36 : decode b_M_ruleOf 36 = .ok (.iload 4, 2) := by decide +kernel
theorem d_M_ruleOf_38 : decode b_M_ruleOf 38 = .ok (.goto 4, 3) := by decide +kernel
theorem d_M_ruleOf_41 : decode b_M_ruleOf 41 = .ok (.iload_n 3, 1) := by decide +kernel
theorem d_M_ruleOf_42 : decode b_M_ruleOf 42 = .ok (.istore_n 3, 1) := by decide +kernel
theorem d_M_ruleOf_43 : decode b_M_ruleOf 43 = .ok (.iinc 4 1, 3) := by decide +kernel
theorem d_M_ruleOf_46 : decode b_M_ruleOf 46 = .ok (.goto (-41), 3) := by decide +kernel
theorem d_M_ruleOf_49 : decode b_M_ruleOf 49 = .ok (.iload_n 3, 1) := by decide +kernel
theorem d_M_ruleOf_50 : decode b_M_ruleOf 50 = .ok (.ireturn, 1) := by decide +kernel
theorem d_M_changeOf_0 : decode b_M_changeOf 0 = .ok (.iconst (-1), 1) := by decide +kernel
theorem d_M_changeOf_1 : decode b_M_changeOf 1 = .ok (.istore_n 2, 1) := by decide +kernel
theorem d_M_changeOf_2 : decode b_M_changeOf 2 = .ok (.iconst 0, 1) := by decide +kernel
theorem d_M_changeOf_3 : decode b_M_changeOf 3 = .ok (.istore_n 3, 1) := by decide +kernel
theorem d_M_changeOf_4 : decode b_M_changeOf 4 = .ok (.iload_n 3, 1) := by decide +kernel
theorem d_M_changeOf_5 : decode b_M_changeOf 5 = .ok (.aload_n 0, 1) := by decide +kernel
theorem d_M_changeOf_6 : decode b_M_changeOf 6 = .ok (.getfield 142, 3) := by decide +kernel
theorem d_M_changeOf_9 : decode b_M_changeOf 9 = .ok (.if_icmp .ge 65, 3) := by decide +kernel
theorem d_M_changeOf_12 : decode b_M_changeOf 12 = .ok (.aload_n 0, 1) := by decide +kernel
theorem d_M_changeOf_13 : decode b_M_changeOf 13 = .ok (.getfield 47, 3) := by decide +kernel
theorem d_M_changeOf_16 : decode b_M_changeOf 16 = .ok (.iload_n 3, 1) := by decide +kernel
theorem d_M_changeOf_17 : decode b_M_changeOf 17 = .ok (.iaload, 1) := by decide +kernel
theorem d_M_changeOf_18 : decode b_M_changeOf 18 = .ok (.aload_n 0, 1) := by decide +kernel
theorem d_M_changeOf_19 : decode b_M_changeOf 19 = .ok (.getfield 145, 3) := by decide +kernel
theorem d_M_changeOf_22 : decode b_M_changeOf 22 = .ok (.if_icmp .ne 17, 3) := by decide +kernel
theorem d_M_changeOf_25 : decode b_M_changeOf 25 = .ok (.aload_n 0, 1) := by decide +kernel
theorem d_M_changeOf_26 : decode b_M_changeOf 26 = .ok (.getfield 50, 3) := by decide +kernel
theorem d_M_changeOf_29 : decode b_M_changeOf 29 = .ok (.iload_n 3, 1) := by decide +kernel
theorem d_M_changeOf_30 : decode b_M_changeOf 30 = .ok (.iaload, 1) := by decide +kernel
theorem d_M_changeOf_31 : decode b_M_changeOf 31 = .ok (.iload_n 1, 1) := by decide +kernel
theorem d_M_changeOf_32 : decode b_M_changeOf 32 = .ok (.if_icmp .ne 7, 3) := by decide +kernel
theorem d_M_changeOf_35 : decode b_M_changeOf 35 = .ok (.iconst 1, 1) := by decide +kernel
theorem d_M_changeOf_36 : decode b_M_changeOf 36 = .ok (.goto 4, 3) := by decide +kernel
theorem d_M_changeOf_39 : decode b_M_changeOf 39 = .ok (.iconst 0, 1) := by decide +kernel
theorem d_M_changeOf_40 : decode b_M_changeOf 40 = .ok (.istore 4, 2) := by decide +kernel
theorem d_M_changeOf_42 : decode b_M_changeOf 42 = .ok (.iload 4, 2) := by decide +kernel
theorem d_M_changeOf_44 : decode b_M_changeOf 44 = .ok (.ifCond .eq 24, 3) := by decide +kernel
theorem d_M_changeOf_47 : decode b_M_changeOf 47 = .ok (.iload_n 2, 1) := by decide +kernel
theorem d_M_changeOf_48 : decode b_M_changeOf 48 = .ok (.ifCond .lt 18, 3) := by decide +kernel
theorem d_M_changeOf_51 : decode b_M_changeOf 51 = .ok (.aload_n 0, 1) := by decide +kernel
theorem d_M_changeOf_52 : decode b_M_changeOf 52 = .ok (.getfield 53, 3) := by decide +kernel
theorem d_M_changeOf_55 : decode b_M_changeOf 55 = .ok (.iload_n 3, 1) := by decide +kernel
theorem d_M_changeOf_56 : decode b_M_changeOf 56 = .ok (.iaload, 1) := by decide +kernel
theorem d_M_changeOf_57 : decode b_M_changeOf 57 = .ok (.aload_n 0, 1) := by decide +kernel
theorem d_M_changeOf_58 : decode b_M_changeOf 58 = .ok (.getfield 53, 3) := by decide +kernel
theorem d_M_changeOf_61 : decode b_M_changeOf 61 = .ok (.iload_n 2, 1) := by decide +kernel
theorem d_M_changeOf_62 : decode b_M_changeOf 62 = .ok (.iaload, 1) := by decide +kernel
theorem d_M_changeOf_63 : decode b_M_changeOf 63 = .ok (.if_icmp .lt 5, 3) := by decide +kernel
theorem d_M_changeOf_66 : decode b_M_changeOf 66 = .ok (.iload_n 3, 1) := by decide +kernel
theorem d_M_changeOf_67 : decode b_M_changeOf 67 = .ok (.istore_n 2, 1) := by decide +kernel
theorem d_M_changeOf_68 : decode b_M_changeOf 68 = .ok (.iinc 3 1, 3) := by decide +kernel
theorem d_M_changeOf_71 : decode b_M_changeOf 71 = .ok (.goto (-67), 3) := by decide +kernel
theorem d_M_changeOf_74 : decode b_M_changeOf 74 = .ok (.iload_n 2, 1) := by decide +kernel
theorem d_M_changeOf_75 : decode b_M_changeOf 75 = .ok (.ireturn, 1) := by decide +kernel
theorem d_M_workOut_0 : decode b_M_workOut 0 = .ok (.sipush 128, 3) := by decide +kernel
theorem d_M_workOut_3 : decode b_M_workOut 3 = .ok (.iload_n 1, 1) := by decide +kernel
theorem d_M_workOut_4 : decode b_M_workOut 4 = .ok (.imul, 1) := by decide +kernel
theorem d_M_workOut_5 : decode b_M_workOut 5 = .ok (.istore_n 3, 1) := by decide +kernel
theorem d_M_workOut_6 : decode b_M_workOut 6 = .ok (.iconst 0, 1) := by decide +kernel
theorem d_M_workOut_7 : decode b_M_workOut 7 = .ok (.istore 4, 2) := by decide +kernel
theorem d_M_workOut_9 : decode b_M_workOut 9 = .ok (.iload 4, 2) := by decide +kernel
theorem d_M_workOut_11 : decode b_M_workOut 11 = .ok (.iload_n 2, 1) := by decide +kernel
theorem d_M_workOut_12 : decode b_M_workOut 12 = .ok (.if_icmp .gt 206, 3) := by decide +kernel
theorem d_M_workOut_15 : decode b_M_workOut 15 = .ok (.aload_n 0, 1) := by decide +kernel
theorem d_M_workOut_16 : decode b_M_workOut 16 = .ok (.getfield 29, 3) := by decide +kernel
theorem d_M_workOut_19 : decode b_M_workOut 19 = .ok (.bipush 8, 2) := by decide +kernel
theorem d_M_workOut_21 : decode b_M_workOut 21 = .ok (.iload_n 1, 1) := by decide +kernel
theorem d_M_workOut_22 : decode b_M_workOut 22 = .ok (.imul, 1) := by decide +kernel
theorem d_M_workOut_23 : decode b_M_workOut 23 = .ok (.iload 4, 2) := by decide +kernel
theorem d_M_workOut_25 : decode b_M_workOut 25 = .ok (.iadd, 1) := by decide +kernel
theorem d_M_workOut_26 : decode b_M_workOut 26 = .ok (.iaload, 1) := by decide +kernel
theorem d_M_workOut_27 : decode b_M_workOut 27 = .ok (.istore 5, 2) := by decide +kernel
theorem d_M_workOut_29 : decode b_M_workOut 29 = .ok (.aload_n 0, 1) := by decide +kernel
theorem d_M_workOut_30 : decode b_M_workOut 30 = .ok (.getfield 62, 3) := by decide +kernel
theorem d_M_workOut_33 : decode b_M_workOut 33 = .ok (.iload 5, 2) := by decide +kernel
theorem d_M_workOut_35 : decode b_M_workOut 35 = .ok (.iconst (-1), 1) := by decide +kernel
theorem d_M_workOut_36 : decode b_M_workOut 36 = .ok (.iastore, 1) := by decide +kernel
theorem d_M_workOut_37 : decode b_M_workOut 37 = .ok (.iconst 0, 1) := by decide +kernel
theorem d_M_workOut_38 : decode b_M_workOut 38 = .ok (.istore 6, 2) := by decide +kernel
theorem d_M_workOut_40 : decode b_M_workOut 40 = .ok (.iconst 0, 1) := by decide +kernel
theorem d_M_workOut_41 : decode b_M_workOut 41 = .ok (.istore 7, 2) := by decide +kernel
theorem d_M_workOut_43 : decode b_M_workOut 43 = .ok (.iconst 0, 1) := by decide +kernel
theorem d_M_workOut_44 : decode b_M_workOut 44 = .ok (.istore 8, 2) := by decide +kernel
theorem d_M_workOut_46 : decode b_M_workOut 46 = .ok (.iload_n 3, 1) := by decide +kernel
theorem d_M_workOut_47 : decode b_M_workOut 47 = .ok (.sipush 128, 3) := by decide +kernel
theorem d_M_workOut_50 : decode b_M_workOut 50 = .ok (.iload_n 1, 1) := by decide +kernel
theorem d_M_workOut_51 : decode b_M_workOut 51 = .ok (.imul, 1) := by decide +kernel
theorem d_M_workOut_52 : decode b_M_workOut 52 = .ok (.aload_n 0, 1) := by decide +kernel
theorem d_M_workOut_53 : decode b_M_workOut 53 = .ok (.getfield 32, 3) := by decide +kernel
theorem d_M_workOut_56 : decode b_M_workOut 56 = .ok (.bipush 8, 2) := by decide +kernel
theorem d_M_workOut_58 : decode b_M_workOut 58 = .ok (.iload_n 1, 1) := by decide +kernel
theorem d_M_workOut_59 : decode b_M_workOut 59 = .ok (.imul, 1) := by decide +kernel
theorem d_M_workOut_60 : decode b_M_workOut 60 = .ok (.iload 4, 2) := by decide +kernel
theorem d_M_workOut_62 : decode b_M_workOut 62 = .ok (.iadd, 1) := by decide +kernel
theorem d_M_workOut_63 : decode b_M_workOut 63 = .ok (.iaload, 1) := by decide +kernel
theorem d_M_workOut_64 : decode b_M_workOut 64 = .ok (.iadd, 1) := by decide +kernel
theorem d_M_workOut_65 : decode b_M_workOut 65 = .ok (.if_icmp .ge 124, 3) := by decide +kernel
theorem d_M_workOut_68 : decode b_M_workOut 68 = .ok (.aload_n 0, 1) := by decide +kernel
theorem d_M_workOut_69 : decode b_M_workOut 69 = .ok (.iload_n 1, 1) := by decide +kernel
theorem d_M_workOut_70 : decode b_M_workOut 70 = .ok (.iload 5, 2) := by decide +kernel
theorem d_M_workOut_72 : decode b_M_workOut 72 = .ok (.iload_n 3, 1) := by decide +kernel
theorem d_M_workOut_73 : decode b_M_workOut 73 = .ok (.invokevirtual 158, 3) := by decide +kernel
theorem d_M_workOut_76 : decode b_M_workOut 76 = .ok (.istore 9, 2) := by decide +kernel
theorem d_M_workOut_78 : decode b_M_workOut 78 = .ok (.aload_n 0, 1) := by decide +kernel
theorem d_M_workOut_79 : decode b_M_workOut 79 = .ok (.getfield 38, 3) := by decide +kernel
theorem d_M_workOut_82 : decode b_M_workOut 82 = .ok (.iload_n 3, 1) := by decide +kernel
theorem d_M_workOut_83 : decode b_M_workOut 83 = .ok (.iaload, 1) := by decide +kernel
theorem d_M_workOut_84 : decode b_M_workOut 84 = .ok (.bipush 42, 2) := by decide +kernel
theorem d_M_workOut_86 : decode b_M_workOut 86 = .ok (.if_icmp .ne 13, 3) := by decide +kernel
theorem d_M_workOut_89 : decode b_M_workOut 89 = .ok (.iload 7, 2) := by decide +kernel
theorem d_M_workOut_91 : decode b_M_workOut 91 = .ok (.iload 9, 2) := by decide +kernel
theorem d_M_workOut_93 : decode b_M_workOut 93 = .ok (.imul, 1) := by decide +kernel
theorem d_M_workOut_94 : decode b_M_workOut 94 = .ok (.istore 7, 2) := by decide +kernel
theorem d_M_workOut_96 : decode b_M_workOut 96 = .ok (.goto 87, 3) := by decide +kernel
theorem d_M_workOut_99 : decode b_M_workOut 99 = .ok (.aload_n 0, 1) := by decide +kernel
theorem d_M_workOut_100 : decode b_M_workOut 100 = .ok (.getfield 38, 3) := by decide +kernel
theorem d_M_workOut_103 : decode b_M_workOut 103 = .ok (.iload_n 3, 1) := by decide +kernel
theorem d_M_workOut_104 : decode b_M_workOut 104 = .ok (.iaload, 1) := by decide +kernel
theorem d_M_workOut_105 : decode b_M_workOut 105 = .ok (.bipush 47, 2) := by decide +kernel
theorem d_M_workOut_107 : decode b_M_workOut 107 = .ok (.if_icmp .ne 36, 3) := by decide +kernel
theorem d_M_workOut_110 : decode b_M_workOut 110 = .ok (.iload 9, 2) := by decide +kernel
theorem d_M_workOut_112 : decode b_M_workOut 112 = .ok (.ifCond .ne 12, 3) := by decide +kernel
theorem d_M_workOut_115 : decode b_M_workOut 115 = .ok (.aload_n 0, 1) := by decide +kernel
theorem d_M_workOut_116 : decode b_M_workOut 116 = .ok (.iload 5, 2) := by decide +kernel
theorem d_M_workOut_118 : decode b_M_workOut 118 = .ok (.iload 5, 2) := by decide +kernel
theorem d_M_workOut_120 : decode b_M_workOut 120 = .ok (.iconst 0, 1) := by decide +kernel
theorem d_M_workOut_121 : decode b_M_workOut 121 = .ok (.invokevirtual 154, 3) := by decide +kernel
theorem d_M_workOut_124 : decode b_M_workOut 124 = .ok (.iload 9, 2) := by decide +kernel
theorem d_M_workOut_126 : decode b_M_workOut 126 = .ok (.ifCond .ne 7, 3) := by decide +kernel
theorem d_M_workOut_129 : decode b_M_workOut 129 = .ok (.iconst 0, 1) := by decide +kernel
theorem d_M_workOut_130 : decode b_M_workOut 130 = .ok (.goto 8, 3) := by decide +kernel
theorem d_M_workOut_133 : decode b_M_workOut 133 = .ok (.iload 7, 2) := by decide +kernel
theorem d_M_workOut_135 : decode b_M_workOut 135 = .ok (.iload 9, 2) := by decide +kernel
theorem d_M_workOut_137 : decode b_M_workOut 137 = .ok (.idiv, 1) := by decide +kernel
theorem d_M_workOut_138 : decode b_M_workOut 138 = .ok (.istore 7, 2) := by decide +kernel
theorem d_M_workOut_140 : decode b_M_workOut 140 = .ok (.goto 43, 3) := by decide +kernel
theorem d_M_workOut_143 : decode b_M_workOut 143 = .ok (.iload 6, 2) := by decide +kernel
theorem d_M_workOut_145 : decode b_M_workOut 145 = .ok (.iload 8, 2) := by decide +kernel
theorem d_M_workOut_147 : decode b_M_workOut 147 = .ok (.ifCond .eq 9, 3) := by decide +kernel
theorem d_M_workOut_150 : decode b_M_workOut 150 = .ok (.iload 7, 2) := by decide +kernel
theorem d_M_workOut_152 : decode b_M_workOut 152 = .ok (.ineg, 1) := by decide +kernel
theorem d_M_workOut_153 : decode b_M_workOut 153 = .ok (.goto 5, 3) := by decide +kernel
theorem d_M_workOut_156 : decode b_M_workOut 156 = .ok (.iload 7, 2) := by decide +kernel
theorem d_M_workOut_158 : decode b_M_workOut 158 = .ok (.iadd, 1) := by decide +kernel
theorem d_M_workOut_159 : decode b_M_workOut 159 = .ok (.istore 6, 2) := by decide +kernel
theorem d_M_workOut_161 : decode b_M_workOut 161 = .ok (.iload 9, 2) := by decide +kernel
theorem d_M_workOut_163 : decode b_M_workOut 163 = .ok (.istore 7, 2) := by decide +kernel
theorem d_M_workOut_165 : decode b_M_workOut 165 = .ok (.aload_n 0, 1) := by decide +kernel
theorem d_M_workOut_166 : decode b_M_workOut 166 = .ok (.getfield 38, 3) := by decide +kernel
theorem d_M_workOut_169 : decode b_M_workOut 169 = .ok (.iload_n 3, 1) := by decide +kernel
theorem d_M_workOut_170 : decode b_M_workOut 170 = .ok (.iaload, 1) := by decide +kernel
theorem d_M_workOut_171 : decode b_M_workOut 171 = .ok (.bipush 45, 2) := by decide +kernel
theorem d_M_workOut_173 : decode b_M_workOut 173 = .ok (.if_icmp .ne 7, 3) := by decide +kernel
theorem d_M_workOut_176 : decode b_M_workOut 176 = .ok (.iconst 1, 1) := by decide +kernel
theorem d_M_workOut_177 : decode b_M_workOut 177 = .ok (.goto 4, 3) := by decide +kernel
theorem d_M_workOut_180 : decode b_M_workOut 180 = .ok (.iconst 0, 1) := by decide +kernel
theorem d_M_workOut_181 : decode b_M_workOut 181 = .ok (.istore 8, 2) := by decide +kernel
theorem d_M_workOut_183 : decode b_M_workOut 183 = .ok (.iinc 3 1, 3) := by decide +kernel
theorem d_M_workOut_186 : decode b_M_workOut 186 = .ok (.goto (-140), 3) := by decide +kernel
theorem d_M_workOut_189 : decode b_M_workOut 189 = .ok (.aload_n 0, 1) := by decide +kernel
theorem d_M_workOut_190 : decode b_M_workOut 190 = .ok (.getfield 59, 3) := by decide +kernel
theorem d_M_workOut_193 : decode b_M_workOut 193 = .ok (.iload 5, 2) := by decide +kernel
theorem d_M_workOut_195 : decode b_M_workOut 195 = .ok (.iload 6, 2) := by decide +kernel
theorem d_M_workOut_197 : decode b_M_workOut 197 = .ok (.iload 8, 2) := by decide +kernel
theorem d_M_workOut_199 : decode b_M_workOut 199 = .ok (.ifCond .eq 9, 3) := by decide +kernel
theorem d_M_workOut_202 : decode b_M_workOut 202 = .ok (.iload 7, 2) := by decide +kernel
theorem d_M_workOut_204 : decode b_M_workOut 204 = .ok (.ineg, 1) := by decide +kernel
theorem d_M_workOut_205 : decode b_M_workOut 205 = .ok (.goto 5, 3) := by decide +kernel
theorem d_M_workOut_208 : decode b_M_workOut 208 = .ok (.iload 7, 2) := by decide +kernel
theorem d_M_workOut_210 : decode b_M_workOut 210 = .ok (.iadd, 1) := by decide +kernel
theorem d_M_workOut_211 : decode b_M_workOut 211 = .ok (.iastore, 1) := by decide +kernel
theorem d_M_workOut_212 : decode b_M_workOut 212 = .ok (.iinc 4 1, 3) := by decide +kernel
theorem d_M_workOut_215 : decode b_M_workOut 215 = .ok (.goto (-206), 3) := by decide +kernel
theorem d_M_workOut_218 : decode b_M_workOut 218 = .ok (.return_, 1) := by decide +kernel
theorem d_M_factor_0 : decode b_M_factor 0 = .ok (.aload_n 0, 1) := by decide +kernel
theorem d_M_factor_1 : decode b_M_factor 1 = .ok (.getfield 41, 3) := by decide +kernel
theorem d_M_factor_4 : decode b_M_factor 4 = .ok (.iload_n 3, 1) := by decide +kernel
