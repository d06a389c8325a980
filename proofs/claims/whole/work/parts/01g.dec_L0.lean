theorem d_L_sign_0 : decode b_L_sign 0 = .ok (.aload 4, 2) := by decide +kernel
theorem d_L_sign_2 : decode b_L_sign 2 = .ok (.iconst 0, 1) := by decide +kernel
theorem d_L_sign_3 : decode b_L_sign 3 = .ok (.aload_n 0, 1) := by decide +kernel
theorem d_L_sign_4 : decode b_L_sign 4 = .ok (.lload_n 1, 1) := by decide +kernel
theorem d_L_sign_5 : decode b_L_sign 5 = .ok (.iload_n 3, 1) := by decide +kernel
theorem d_L_sign_6 : decode b_L_sign 6 = .ok (.invokevirtual 7, 3) := by decide +kernel
theorem d_L_sign_9 : decode b_L_sign 9 = .ok (.i2l, 1) := by decide +kernel
theorem d_L_sign_10 : decode b_L_sign 10 = .ok (.lastore, 1) := by decide +kernel
theorem d_L_sign_11 : decode b_L_sign 11 = .ok (.goto 11, 3) := by decide +kernel
theorem d_L_sign_14 : decode b_L_sign 14 = .ok (.astore 5, 2) := by decide +kernel
theorem d_L_sign_16 : decode b_L_sign 16 = .ok (.iconst 1, 1) := by decide +kernel
theorem d_L_sign_17 : decode b_L_sign 17 = .ok (.ireturn, 1) := by decide +kernel
theorem d_L_sign_18 : decode b_L_sign 18 = .ok (.astore 5, 2) := by decide +kernel
theorem d_L_sign_20 : decode b_L_sign 20 = .ok (.iconst 2, 1) := by decide +kernel
theorem d_L_sign_21 : decode b_L_sign 21 = .ok (.ireturn, 1) := by decide +kernel
theorem d_L_sign_22 : decode b_L_sign 22 = .ok (.iconst 0, 1) := by decide +kernel
theorem d_L_sign_23 : decode b_L_sign 23 = .ok (.ireturn, 1) := by decide +kernel
theorem d_L_edition_0 : decode b_L_edition 0 = .ok (.aload_n 2, 1) := by decide +kernel
theorem d_L_edition_1 : decode b_L_edition 1 = .ok (.iconst 0, 1) := by decide +kernel
theorem d_L_edition_2 : decode b_L_edition 2 = .ok (.aload_n 0, 1) := by decide +kernel
theorem d_L_edition_3 : decode b_L_edition 3 = .ok (.iload_n 1, 1) := by decide +kernel
theorem d_L_edition_4 : decode b_L_edition 4 = .ok (.invokevirtual 17, 3) := by decide +kernel
theorem d_L_edition_7 : decode b_L_edition 7 = .ok (.i2l, 1) := by decide +kernel
theorem d_L_edition_8 : decode b_L_edition 8 = .ok (.lastore, 1) := by decide +kernel
theorem d_L_edition_9 : decode b_L_edition 9 = .ok (.goto 12, 3) := by decide +kernel
theorem d_L_edition_12 : decode b_L_edition 12 = .ok (.astore_n 3, 1) := by decide +kernel
theorem d_L_edition_13 : decode b_L_edition 13 = .ok (.iconst 1, 1) := by decide +kernel
theorem d_L_edition_14 : decode b_L_edition 14 = .ok (.ireturn, 1) := by decide +kernel
theorem d_L_edition_15 : decode b_L_edition 15 = .ok (.astore_n 3, 1) := by decide +kernel
theorem d_L_edition_16 : decode b_L_edition 16 = .ok (.iconst 2, 1) := by decide +kernel
theorem d_L_edition_17 : decode b_L_edition 17 = .ok (.ireturn, 1) := by decide +kernel
theorem d_L_edition_18 : decode b_L_edition 18 = .ok (.astore_n 3, 1) := by decide +kernel
theorem d_L_edition_19 : decode b_L_edition 19 = .ok (.iconst 3, 1) := by decide +kernel
theorem d_L_edition_20 : decode b_L_edition 20 = .ok (.ireturn, 1) := by decide +kernel
theorem d_L_edition_21 : decode b_L_edition 21 = .ok (.iconst 0, 1) := by decide +kernel
theorem d_L_edition_22 : decode b_L_edition 22 = .ok (.ireturn, 1) := by decide +kernel
theorem d_L_change_0 : decode b_L_change 0 = .ok (.aload 5, 2) := by decide +kernel
theorem d_L_change_2 : decode b_L_change 2 = .ok (.iconst 0, 1) := by decide +kernel
theorem d_L_change_3 : decode b_L_change 3 = .ok (.aload_n 0, 1) := by decide +kernel
theorem d_L_change_4 : decode b_L_change 4 = .ok (.iload_n 1, 1) := by decide +kernel
theorem d_L_change_5 : decode b_L_change 5 = .ok (.iload_n 2, 1) := by decide +kernel
theorem d_L_change_6 : decode b_L_change 6 = .ok (.iload_n 3, 1) := by decide +kernel
theorem d_L_change_7 : decode b_L_change 7 = .ok (.iload 4, 2) := by decide +kernel
theorem d_L_change_9 : decode b_L_change 9 = .ok (.invokevirtual 23, 3) := by decide +kernel
theorem d_L_change_12 : decode b_L_change 12 = .ok (.i2l, 1) := by decide +kernel
theorem d_L_change_13 : decode b_L_change 13 = .ok (.lastore, 1) := by decide +kernel
theorem d_L_change_14 : decode b_L_change 14 = .ok (.goto 15, 3) := by decide +kernel
theorem d_L_change_17 : decode b_L_change 17 = .ok (.astore 6, 2) := by decide +kernel
theorem d_L_change_19 : decode b_L_change 19 = .ok (.iconst 1, 1) := by decide +kernel
theorem d_L_change_20 : decode b_L_change 20 = .ok (.ireturn, 1) := by decide +kernel
theorem d_L_change_21 : decode b_L_change 21 = .ok (.astore 6, 2) := by decide +kernel
theorem d_L_change_23 : decode b_L_change 23 = .ok (.iconst 2, 1) := by decide +kernel
theorem d_L_change_24 : decode b_L_change 24 = .ok (.ireturn, 1) := by decide +kernel
theorem d_L_change_25 : decode b_L_change 25 = .ok (.astore 6, 2) := by decide +kernel
theorem d_L_change_27 : decode b_L_change 27 = .ok (.iconst 3, 1) := by decide +kernel
theorem d_L_change_28 : decode b_L_change 28 = .ok (.ireturn, 1) := by decide +kernel
theorem d_L_change_29 : decode b_L_change 29 = .ok (.iconst 0, 1) := by decide +kernel
theorem d_L_change_30 : decode b_L_change 30 = .ok (.ireturn, 1) := by decide +kernel
theorem d_L_order_0 : decode b_L_order 0 = .ok (.aload_n 0, 1) := by decide +kernel
theorem d_L_order_1 : decode b_L_order 1 = .ok (.iload_n 1, 1) := by decide +kernel
theorem d_L_order_2 : decode b_L_order 2 = .ok (.iload_n 2, 1) := by decide +kernel
theorem d_L_order_3 : decode b_L_order 3 = .ok (.invokevirtual 29, 3) := by decide +kernel
theorem d_L_order_6 : decode b_L_order 6 = .ok (.goto 9, 3) := by decide +kernel
theorem d_L_order_9 : decode b_L_order 9 = .ok (.astore_n 3, 1) := by decide +kernel
theorem d_L_order_10 : decode b_L_order 10 = .ok (.iconst 1, 1) := by decide +kernel
theorem d_L_order_11 : decode b_L_order 11 = .ok (.ireturn, 1) := by decide +kernel
theorem d_L_order_12 : decode b_L_order 12 = .ok (.astore_n 3, 1) := by decide +kernel
theorem d_L_order_13 : decode b_L_order 13 = .ok (.iconst 2, 1) := by decide +kernel
theorem d_L_order_14 : decode b_L_order 14 = .ok (.ireturn, 1) := by decide +kernel
theorem d_L_order_15 : decode b_L_order 15 = .ok (.iconst 0, 1) := by decide +kernel
theorem d_L_order_16 : decode b_L_order 16 = .ok (.ireturn, 1) := by decide +kernel
theorem d_L_value_0 : decode b_L_value 0 = .ok (.aload 6, 2) := by decide +kernel
theorem d_L_value_2 : decode b_L_value 2 = .ok (.iconst 0, 1) := by decide +kernel
theorem d_L_value_3 : decode b_L_value 3 = .ok (.aload_n 0, 1) := by decide +kernel
theorem d_L_value_4 : decode b_L_value 4 = .ok (.iload_n 1, 1) := by decide +kernel
theorem d_L_value_5 : decode b_L_value 5 = .ok (.iload_n 2, 1) := by decide +kernel
theorem d_L_value_6 : decode b_L_value 6 = .ok (.iload_n 3, 1) := by decide +kernel
theorem d_L_value_7 : decode b_L_value 7 = .ok (.iload 4, 2) := by decide +kernel
theorem d_L_value_9 : decode b_L_value 9 = .ok (.iload 5, 2) := by decide +kernel
theorem d_L_value_11 : decode b_L_value 11 = .ok (.invokevirtual 33, 3) := by decide +kernel
theorem d_L_value_14 : decode b_L_value 14 = .ok (.i2l, 1) := by decide +kernel
theorem d_L_value_15 : decode b_L_value 15 = .ok (.lastore, 1) := by decide +kernel
theorem d_L_value_16 : decode b_L_value 16 = .ok (.goto 19, 3) := by decide +kernel
theorem d_L_value_19 : decode b_L_value 19 = .ok (.astore 7, 2) := by decide +kernel
theorem d_L_value_21 : decode b_L_value 21 = .ok (.iconst 1, 1) := by decide +kernel
theorem d_L_value_22 : decode b_L_value 22 = .ok (.ireturn, 1) := by decide +kernel
theorem d_L_value_23 : decode b_L_value 23 = .ok (.astore 7, 2) := by decide +kernel
theorem d_L_value_25 : decode b_L_value 25 = .ok (.iconst 2, 1) := by decide +kernel
theorem d_L_value_26 : decode b_L_value 26 = .ok (.ireturn, 1) := by decide +kernel
theorem d_L_value_27 : decode b_L_value 27 = .ok (.astore 7, 2) := by decide +kernel
theorem d_L_value_29 : decode b_L_value 29 = .ok (.iconst 3, 1) := by decide +kernel
theorem d_L_value_30 : decode b_L_value 30 = .ok (.ireturn, 1) := by decide +kernel
theorem d_L_value_31 : decode b_L_value 31 = .ok (.astore 7, 2) := by decide +kernel
theorem d_L_value_33 : decode b_L_value 33 = .ok (.iconst 4, 1) := by decide +kernel
theorem d_L_value_34 : decode b_L_value 34 = .ok (.ireturn, 1) := by decide +kernel
theorem d_L_value_35 : decode b_L_value 35 = .ok (.iconst 0, 1) := by decide +kernel
theorem d_L_value_36 : decode b_L_value 36 = .ok (.ireturn, 1) := by decide +kernel
theorem d_L_open_0 : decode b_L_open 0 = .ok (.aload_n 2, 1) := by decide +kernel
theorem d_L_open_1 : decode b_L_open 1 = .ok (.iconst 0, 1) := by decide +kernel
theorem d_L_open_2 : decode b_L_open 2 = .ok (.aload_n 0, 1) := by decide +kernel
theorem d_L_open_3 : decode b_L_open 3 = .ok (.iload_n 1, 1) := by decide +kernel
theorem d_L_open_4 : decode b_L_open 4 = .ok (.invokevirtual 37, 3) := by decide +kernel
theorem d_L_open_7 : decode b_L_open 7 = .ok (.i2l, 1) := by decide +kernel
theorem d_L_open_8 : decode b_L_open 8 = .ok (.lastore, 1) := by decide +kernel
theorem d_L_open_9 : decode b_L_open 9 = .ok (.goto 9, 3) := by decide +kernel
theorem d_L_open_12 : decode b_L_open 12 = .ok (.astore_n 3, 1) := by decide +kernel
theorem d_L_open_13 : decode b_L_open 13 = .ok (.iconst 1, 1) := by decide +kernel
theorem d_L_open_14 : decode b_L_open 14 = .ok (.ireturn, 1) := by decide +kernel
theorem d_L_open_15 : decode b_L_open 15 = .ok (.astore_n 3, 1) := by decide +kernel
theorem d_L_open_16 : decode b_L_open 16 = .ok (.iconst 2, 1) := by decide +kernel
theorem d_L_open_17 : decode b_L_open 17 = .ok (.ireturn, 1) := by decide +kernel
theorem d_L_open_18 : decode b_L_open 18 = .ok (.iconst 0, 1) := by decide +kernel
theorem d_L_open_19 : decode b_L_open 19 = .ok (.ireturn, 1) := by decide +kernel
theorem d_L_example_0 : decode b_L_example 0 = .ok (.aload_n 3, 1) := by decide +kernel
theorem d_L_example_1 : decode b_L_example 1 = .ok (.iconst 0, 1) := by decide +kernel
theorem d_L_example_2 : decode b_L_example 2 = .ok (.aload_n 0, 1) := by decide +kernel
theorem d_L_example_3 : decode b_L_example 3 = .ok (.iload_n 1, 1) := by decide +kernel
theorem d_L_example_4 : decode b_L_example 4 = .ok (.iload_n 2, 1) := by decide +kernel
theorem d_L_example_5 : decode b_L_example 5 = .ok (.invokevirtual 40, 3) := by decide +kernel
theorem d_L_example_8 : decode b_L_example 8 = .ok (.i2l, 1) := by decide +kernel
theorem d_L_example_9 : decode b_L_example 9 = .ok (.lastore, 1) := by decide +kernel
theorem d_L_example_10 : decode b_L_example 10 = .ok (.goto 15, 3) := by decide +kernel
theorem d_L_example_13 : decode b_L_example 13 = .ok (.astore 4, 2) := by decide +kernel
theorem d_L_example_15 : decode b_L_example 15 = .ok (.iconst 1, 1) := by decide +kernel
theorem d_L_example_16 : decode b_L_example 16 = .ok (.ireturn, 1) := by decide +kernel
theorem d_L_example_17 : decode b_L_example 17 = .ok (.astore 4, 2) := by decide +kernel
theorem d_L_example_19 : decode b_L_example 19 = .ok (.iconst 2, 1) := by decide +kernel
theorem d_L_example_20 : decode b_L_example 20 = .ok (.ireturn, 1) := by decide +kernel
theorem d_L_example_21 : decode b_L_example 21 = .ok (.astore 4, 2) := by decide +kernel
theorem d_L_example_23 : decode b_L_example 23 = .ok (.iconst 3, 1) := by decide +kernel
theorem d_L_example_24 : decode b_L_example 24 = .ok (.ireturn, 1) := by decide +kernel
theorem d_L_example_25 : decode b_L_example 25 = .ok (.iconst 0, 1) := by decide +kernel
theorem d_L_example_26 : decode b_L_example 26 = .ok (.ireturn, 1) := by decide +kernel
theorem d_L_told_0 : decode b_L_told 0 = .ok (.aload_n 2, 1) := by decide +kernel
theorem d_L_told_1 : decode b_L_told 1 = .ok (.iconst 0, 1) := by decide +kernel
theorem d_L_told_2 : decode b_L_told 2 = .ok (.aload_n 0, 1) := by decide +kernel
theorem d_L_told_3 : decode b_L_told 3 = .ok (.iload_n 1, 1) := by decide +kernel
theorem d_L_told_4 : decode b_L_told 4 = .ok (.invokevirtual 44, 3) := by decide +kernel
theorem d_L_told_7 : decode b_L_told 7 = .ok (.i2l, 1) := by decide +kernel
theorem d_L_told_8 : decode b_L_told 8 = .ok (.lastore, 1) := by decide +kernel
theorem d_L_told_9 : decode b_L_told 9 = .ok (.goto 6, 3) := by decide +kernel
theorem d_L_told_12 : decode b_L_told 12 = .ok (.astore_n 3, 1) := by decide +kernel
theorem d_L_told_13 : decode b_L_told 13 = .ok (.iconst 1, 1) := by decide +kernel
theorem d_L_told_14 : decode b_L_told 14 = .ok (.ireturn, 1) := by decide +kernel
theorem d_L_told_15 : decode b_L_told 15 = .ok (.iconst 0, 1) := by decide +kernel
theorem d_L_told_16 : decode b_L_told 16 = .ok (.ireturn, 1) := by decide +kernel
theorem d_L_agreed_0 : decode b_L_agreed 0 = .ok (.aload_n 2, 1) := by decide +kernel
theorem d_L_agreed_1 : decode b_L_agreed 1 = .ok (.iconst 0, 1) := by decide +kernel
theorem d_L_agreed_2 : decode b_L_agreed 2 = .ok (.aload_n 0, 1) := by decide +kernel
theorem d_L_agreed_3 : decode b_L_agreed 3 = .ok (.iload_n 1, 1) := by decide +kernel
theorem d_L_agreed_4 : decode b_L_agreed 4 = .ok (.invokevirtual 47, 3) := by decide +kernel
theorem d_L_agreed_7 : decode b_L_agreed 7 = .ok (.i2l, 1) := by decide +kernel
theorem d_L_agreed_8 : decode b_L_agreed 8 = .ok (.lastore, 1) := by decide +kernel
theorem d_L_agreed_9 : decode b_L_agreed 9 = .ok (.goto 6, 3) := by decide +kernel
theorem d_L_agreed_12 : decode b_L_agreed 12 = .ok (.astore_n 3, 1) := by decide +kernel
theorem d_L_agreed_13 : decode b_L_agreed 13 = .ok (.iconst 1, 1) := by decide +kernel
theorem d_L_agreed_14 : decode b_L_agreed 14 = .ok (.ireturn, 1) := by decide +kernel
theorem d_L_agreed_15 : decode b_L_agreed 15 = .ok (.iconst 0, 1) := by decide +kernel
theorem d_L_agreed_16 : decode b_L_agreed 16 = .ok (.ireturn, 1) := by decide +kernel
theorem d_L_table_0 : decode b_L_table 0 = .ok (.aload_n 3, 1) := by decide +kernel
theorem d_L_table_1 : decode b_L_table 1 = .ok (.iconst 0, 1) := by decide +kernel
theorem d_L_table_2 : decode b_L_table 2 = .ok (.aload_n 0, 1) := by decide +kernel
theorem d_L_table_3 : decode b_L_table 3 = .ok (.iload_n 1, 1) := by decide +kernel
theorem d_L_table_4 : decode b_L_table 4 = .ok (.iload_n 2, 1) := by decide +kernel
theorem d_L_table_5 : decode b_L_table 5 = .ok (.invokevirtual 50, 3) := by decide +kernel
theorem d_L_table_8 : decode b_L_table 8 = .ok (.i2l, 1) := by decide +kernel
theorem d_L_table_9 : decode b_L_table 9 = .ok (.lastore, 1) := by decide +kernel
theorem d_L_table_10 : decode b_L_table 10 = .ok (.goto 7, 3) := by decide +kernel
theorem d_L_table_13 : decode b_L_table 13 = .ok (.astore 4, 2) := by decide +kernel
theorem d_L_table_15 : decode b_L_table 15 = .ok (.iconst 1, 1) := by decide +kernel
theorem d_L_table_16 : decode b_L_table 16 = .ok (.ireturn, 1) := by decide +kernel
theorem d_L_table_17 : decode b_L_table 17 = .ok (.iconst 0, 1) := by decide +kernel
theorem d_L_table_18 : decode b_L_table 18 = .ok (.ireturn, 1) := by decide +kernel
theorem d_L_law_0 : decode code 0 = .ok (.new 8, 3) := by decide +kernel
theorem d_L_law_3 : decode code 3 = .ok (.dup, 1) := by decide +kernel
theorem d_L_law_4 : decode code 4 = .ok (.invokespecial 53, 3) := by decide +kernel
theorem d_L_law_7 : decode code 7 = .ok (.astore_n 1, 1) := by decide +kernel
theorem d_L_law_8 : decode code 8 = .ok (.new 54, 3) := by decide +kernel
theorem d_L_law_11 : decode code 11 = .ok (.dup, 1) := by decide +kernel
theorem d_L_law_12 : decode code 12 = .ok (.invokespecial 56, 3) := by decide +kernel
theorem d_L_law_15 : decode code 15 = .ok (.astore_n 2, 1) := by decide +kernel
theorem d_L_law_16 : decode code 16 = .ok (.iconst 1, 1) := by decide +kernel
theorem d_L_law_17 : decode code 17 = .ok (.newarray .long, 2) := by decide +kernel
theorem d_L_law_19 : decode code 19 = .ok (.astore_n 3, 1) := by decide +kernel
theorem d_L_law_20 : decode code 20 = .ok (.iconst 0, 1) := by decide +kernel
theorem d_L_law_21 : decode code 21 = .ok (.istore 4, 2) := by decide +kernel
theorem d_L_law_23 : decode code 23 = .ok (.iload 4, 2) := by decide +kernel
theorem d_L_law_25 : decode code 25 = .ok (.aload_n 0, 1) := by decide +kernel
theorem d_L_law_26 : decode code 26 = .ok (.arraylength, 1) := by decide +kernel
theorem d_L_law_27 : decode code 27 = .ok (.bipush 6, 2) := by decide +kernel
theorem d_L_law_29 : decode code 29 = .ok (.isub, 1) := by decide +kernel
theorem d_L_law_30 : decode code 30 = .ok (.if_icmp .gt 793, 3) := by decide +kernel
theorem d_L_law_33 : decode code 33 = .ok (.aload_n 0, 1) := by decide +kernel
theorem d_L_law_34 : decode code 34 = .ok (.iload 4, 2) := by decide +kernel
theorem d_L_law_36 : decode code 36 = .ok (.iaload, 1) := by decide +kernel
theorem d_L_law_37 : decode code 37 = .ok (.bipush 15, 2) := by decide +kernel
theorem d_L_law_39 : decode code 39 = .ok (.iand, 1) := by decide +kernel
theorem d_L_law_40 : decode code 40 = .ok (.tableswitch 777 0 10 #[60, 160, 216, 229, 321, 369, 473, 529, 597, 653, 709], 60) := by decide +kernel
theorem d_L_law_100 : decode code 100 = .ok (.aload_n 1, 1) := by decide +kernel
theorem d_L_law_101 : decode code 101 = .ok (.aload_n 0, 1) := by decide +kernel
theorem d_L_law_102 : decode code 102 = .ok (.iload 4, 2) := by decide +kernel
theorem d_L_law_104 : decode code 104 = .ok (.iconst 1, 1) := by decide +kernel
theorem d_L_law_105 : decode code 105 = .ok (.iadd, 1) := by decide +kernel
theorem d_L_law_106 : decode code 106 = .ok (.iaload, 1) := by decide +kernel
theorem d_L_law_107 : decode code 107 = .ok (.i2l, 1) := by decide +kernel
theorem d_L_law_108 : decode code 108 = .ok (.bipush 32, 2) := by decide +kernel
theorem d_L_law_110 : decode code 110 = .ok (.lshl, 1) := by decide +kernel
theorem d_L_law_111 : decode code 111 = .ok (.aload_n 0, 1) := by decide +kernel
theorem d_L_law_112 : decode code 112 = .ok (.iload 4, 2) := by decide +kernel
theorem d_L_law_114 : decode code 114 = .ok (.iconst 2, 1) := by decide +kernel
theorem d_L_law_115 : decode code 115 = .ok (.iadd, 1) := by decide +kernel
theorem d_L_law_116 : decode code 116 = .ok (.iaload, 1) := by decide +kernel
theorem d_L_law_117 : decode code 117 = .ok (.i2l, 1) := by decide +kernel
theorem d_L_law_118 : decode code 118 = .ok (.ldc2_w 57, 3) := by decide +kernel
theorem d_L_law_121 : decode code 121 = .ok (.land, 1) := by decide +kernel
theorem d_L_law_122 : decode code 122 = .ok (.lor, 1) := by decide +kernel
theorem d_L_law_123 : decode code 123 = .ok (.aload_n 0, 1) := by decide +kernel
theorem d_L_law_124 : decode code 124 = .ok (.iload 4, 2) := by decide +kernel
theorem d_L_law_126 : decode code 126 = .ok (.iconst 3, 1) := by decide +kernel
theorem d_L_law_127 : decode code 127 = .ok (.iadd, 1) := by decide +kernel
theorem d_L_law_128 : decode code 128 = .ok (.iaload, 1) := by decide +kernel
theorem d_L_law_129 : decode code 129 = .ok (.aload_n 3, 1) := by decide +kernel
theorem d_L_law_130 : decode code 130 = .ok (.invokestatic 59, 3) := by decide +kernel
theorem d_L_law_133 : decode code 133 = .ok (.istore 5, 2) := by decide +kernel
theorem d_L_law_135 : decode code 135 = .ok (.aload_n 2, 1) := by decide +kernel
theorem d_L_law_136 : decode code 136 = .ok (.aload_n 0, 1) := by decide +kernel
theorem d_L_law_137 : decode code 137 = .ok (.iload 4, 2) := by decide +kernel
theorem d_L_law_139 : decode code 139 = .ok (.iconst 1, 1) := by decide +kernel
theorem d_L_law_140 : decode code 140 = .ok (.iadd, 1) := by decide +kernel
theorem d_L_law_141 : decode code 141 = .ok (.iaload, 1) := by decide +kernel
theorem d_L_law_142 : decode code 142 = .ok (.i2l, 1) := by decide +kernel
theorem d_L_law_143 : decode code 143 = .ok (.bipush 32, 2) := by decide +kernel
theorem d_L_law_145 : decode code 145 = .ok (.lshl, 1) := by decide +kernel
theorem d_L_law_146 : decode code 146 = .ok (.aload_n 0, 1) := by decide +kernel
theorem d_L_law_147 : decode code 147 = .ok (.iload 4, 2) := by decide +kernel
theorem d_L_law_149 : decode code 149 = .ok (.iconst 2, 1) := by decide +kernel
theorem d_L_law_150 : decode code 150 = .ok (.iadd, 1) := by decide +kernel
theorem d_L_law_151 : decode code 151 = .ok (.iaload, 1) := by decide +kernel
theorem d_L_law_152 : decode code 152 = .ok (.i2l, 1) := by decide +kernel
theorem d_L_law_153 : decode code 153 = .ok (.ldc2_w 57, 3) := by decide +kernel
theorem d_L_law_156 : decode code 156 = .ok (.land, 1) := by decide +kernel
theorem d_L_law_157 : decode code 157 = .ok (.lor, 1) := by decide +kernel
theorem d_L_law_158 : decode code 158 = .ok (.aload_n 0, 1) := by decide +kernel
theorem d_L_law_159 : decode code 159 = .ok (.iload 4, 2) := by decide +kernel
theorem d_L_law_161 : decode code 161 = .ok (.iconst 3, 1) := by decide +kernel
theorem d_L_law_162 : decode code 162 = .ok (.iadd, 1) := by decide +kernel
theorem d_L_law_163 : decode code 163 = .ok (.iaload, 1) := by decide +kernel
theorem d_L_law_164 : decode code 164 = .ok (.invokevirtual 64, 3) := by decide +kernel
theorem d_L_law_167 : decode code 167 = .ok (.istore 6, 2) := by decide +kernel
theorem d_L_law_169 : decode code 169 = .ok (.aload_n 2, 1) := by decide +kernel
theorem d_L_law_170 : decode code 170 = .ok (.invokevirtual 65, 3) := by decide +kernel
theorem d_L_law_173 : decode code 173 = .ok (.iload 5, 2) := by decide +kernel
theorem d_L_law_175 : decode code 175 = .ok (.if_icmp .eq 5, 3) := by decide +kernel
theorem d_L_law_178 : decode code 178 = .ok (.iconst 0, 1) := by decide +kernel
theorem d_L_law_179 : decode code 179 = .ok (.ireturn, 1) := by decide +kernel
theorem d_L_law_180 : decode code 180 = .ok (.iload 5, 2) := by decide +kernel
theorem d_L_law_182 : decode code 182 = .ok (.ifCond .ne 15, 3) := by decide +kernel
theorem d_L_law_185 : decode code 185 = .ok (.aload_n 3, 1) := by decide +kernel
theorem d_L_law_186 : decode code 186 = .ok (.iconst 0, 1) := by decide +kernel
theorem d_L_law_187 : decode code 187 = .ok (.laload, 1) := by decide +kernel
theorem d_L_law_188 : decode code 188 = .ok (.iload 6, 2) := by decide +kernel
theorem d_L_law_190 : decode code 190 = .ok (.i2l, 1) := by decide +kernel
theorem d_L_law_191 : decode code 191 = .ok (.lcmp, 1) := by decide +kernel
theorem d_L_law_192 : decode code 192 = .ok (.ifCond .eq 5, 3) := by decide +kernel
theorem d_L_law_195 : decode code 195 = .ok (.iconst 0, 1) := by decide +kernel
theorem d_L_law_196 : decode code 196 = .ok (.ireturn, 1) := by decide +kernel
theorem d_L_law_197 : decode code 197 = .ok (.goto 620, 3) := by decide +kernel
theorem d_L_law_200 : decode code 200 = .ok (.aload_n 1, 1) := by decide +kernel
theorem d_L_law_201 : decode code 201 = .ok (.aload_n 0, 1) := by decide +kernel
theorem d_L_law_202 : decode code 202 = .ok (.iload 4, 2) := by decide +kernel
theorem d_L_law_204 : decode code 204 = .ok (.iconst 1, 1) := by decide +kernel
theorem d_L_law_205 : decode code 205 = .ok (.iadd, 1) := by decide +kernel
theorem d_L_law_206 : decode code 206 = .ok (.iaload, 1) := by decide +kernel
theorem d_L_law_207 : decode code 207 = .ok (.aload_n 3, 1) := by decide +kernel
theorem d_L_law_208 : decode code 208 = .ok (.invokestatic 69, 3) := by decide +kernel
theorem d_L_law_211 : decode code 211 = .ok (.istore 5, 2) := by decide +kernel
theorem d_L_law_213 : decode code 213 = .ok (.aload_n 2, 1) := by decide +kernel
theorem d_L_law_214 : decode code 214 = .ok (.aload_n 0, 1) := by decide +kernel
theorem d_L_law_215 : decode code 215 = .ok (.iload 4, 2) := by decide +kernel
theorem d_L_law_217 : decode code 217 = .ok (.iconst 1, 1) := by decide +kernel
theorem d_L_law_218 : decode code 218 = .ok (.iadd, 1) := by decide +kernel
theorem d_L_law_219 : decode code 219 = .ok (.iaload, 1) := by decide +kernel
theorem d_L_law_220 : decode code 220 = .ok (.invokevirtual 72, 3) := by decide +kernel
theorem d_L_law_223 : decode code 223 = .ok (.istore 6, 2) := by decide +kernel
theorem d_L_law_225 : decode code 225 = .ok (.aload_n 2, 1) := by decide +kernel
theorem d_L_law_226 : decode code 226 = .ok (.invokevirtual 65, 3) := by decide +kernel
theorem d_L_law_229 : decode code 229 = .ok (.iload 5, 2) := by decide +kernel
theorem d_L_law_231 : decode code 231 = .ok (.if_icmp .eq 5, 3) := by decide +kernel
theorem d_L_law_234 : decode code 234 = .ok (.iconst 0, 1) := by decide +kernel
theorem d_L_law_235 : decode code 235 = .ok (.ireturn, 1) := by decide +kernel
theorem d_L_law_236 : decode code 236 = .ok (.iload 5, 2) := by decide +kernel
theorem d_L_law_238 : decode code 238 = .ok (.ifCond .ne 15, 3) := by decide +kernel
theorem d_L_law_241 : decode code 241 = .ok (.aload_n 3, 1) := by decide +kernel
theorem d_L_law_242 : decode code 242 = .ok (.iconst 0, 1) := by decide +kernel
theorem d_L_law_243 : decode code 243 = .ok (.laload, 1) := by decide +kernel
theorem d_L_law_244 : decode code 244 = .ok (.iload 6, 2) := by decide +kernel
theorem d_L_law_246 : decode code 246 = .ok (.i2l, 1) := by decide +kernel
theorem d_L_law_247 : decode code 247 = .ok (.lcmp, 1) := by decide +kernel
theorem d_L_law_248 : decode code 248 = .ok (.ifCond .eq 5, 3) := by decide +kernel
theorem d_L_law_251 : decode code 251 = .ok (.iconst 0, 1) := by decide +kernel
theorem d_L_law_252 : decode code 252 = .ok (.ireturn, 1) := by decide +kernel
theorem d_L_law_253 : decode code 253 = .ok (.goto 564, 3) := by decide +kernel
theorem d_L_law_256 : decode code 256 = .ok (.aload_n 1, 1) := by decide +kernel
theorem d_L_law_257 : decode code 257 = .ok (.invokevirtual 73, 3) := by decide +kernel
theorem d_L_law_260 : decode code 260 = .ok (.aload_n 2, 1) := by decide +kernel
theorem d_L_law_261 : decode code 261 = .ok (.invokevirtual 76, 3) := by decide +kernel
theorem d_L_law_264 : decode code 264 = .ok (.if_icmp .eq 553, 3) := by decide +kernel
theorem d_L_law_267 : decode code 267 = .ok (.iconst 0, 1) := by decide +kernel
theorem d_L_law_268 : decode code 268 = .ok (.ireturn, 1) := by decide +kernel
theorem d_L_law_269 : decode code 269 = .ok (.aload_n 1, 1) := by decide +kernel
theorem d_L_law_270 : decode code 270 = .ok (.aload_n 0, 1) := by decide +kernel
theorem d_L_law_271 : decode code 271 = .ok (.iload 4, 2) := by decide +kernel
theorem d_L_law_273 : decode code 273 = .ok (.iconst 1, 1) := by decide +kernel
theorem d_L_law_274 : decode code 274 = .ok (.iadd, 1) := by decide +kernel
theorem d_L_law_275 : decode code 275 = .ok (.iaload, 1) := by decide +kernel
theorem d_L_law_276 : decode code 276 = .ok (.aload_n 0, 1) := by decide +kernel
theorem d_L_law_277 : decode code 277 = .ok (.iload 4, 2) := by decide +kernel
theorem d_L_law_279 : decode code 279 = .ok (.iconst 2, 1) := by decide +kernel
theorem d_L_law_280 : decode code 280 = .ok (.iadd, 1) := by decide +kernel
theorem d_L_law_281 : decode code 281 = .ok (.iaload, 1) := by decide +kernel
theorem d_L_law_282 : decode code 282 = .ok (.aload_n 0, 1) := by decide +kernel
theorem d_L_law_283 : decode code 283 = .ok (.iload 4, 2) := by decide +kernel
theorem d_L_law_285 : decode code 285 = .ok (.iconst 3, 1) := by decide +kernel
theorem d_L_law_286 : decode code 286 = .ok (.iadd, 1) := by decide +kernel
theorem d_L_law_287 : decode code 287 = .ok (.iaload, 1) := by decide +kernel
theorem d_L_law_288 : decode code 288 = .ok (.aload_n 0, 1) := by decide +kernel
theorem d_L_law_289 : decode code 289 = .ok (.iload 4, 2) := by decide +kernel
theorem d_L_law_291 : decode code 291 = .ok (.iconst 4, 1) := by decide +kernel
theorem d_L_law_292 : decode code 292 = .ok (.iadd, 1) := by decide +kernel
theorem d_L_law_293 : decode code 293 = .ok (.iaload, 1) := by decide +kernel
theorem d_L_law_294 : decode code 294 = .ok (.aload_n 3, 1) := by decide +kernel
theorem d_L_law_295 : decode code 295 = .ok (.invokestatic 77, 3) := by decide +kernel
theorem d_L_law_298 : decode code 298 = .ok (.istore 5, 2) := by decide +kernel
theorem d_L_law_300 : decode code 300 = .ok (.aload_n 2, 1) := by decide +kernel
theorem d_L_law_301 : decode code 301 = .ok (.aload_n 0, 1) := by decide +kernel
theorem d_L_law_302 : decode code 302 = .ok (.iload 4, 2) := by decide +kernel
theorem d_L_law_304 : decode code 304 = .ok (.iconst 1, 1) := by decide +kernel
theorem d_L_law_305 : decode code 305 = .ok (.iadd, 1) := by decide +kernel
theorem d_L_law_306 : decode code 306 = .ok (.iaload, 1) := by decide +kernel
theorem d_L_law_307 : decode code 307 = .ok (.aload_n 0, 1) := by decide +kernel
theorem d_L_law_308 : decode code 308 = .ok (.iload 4, 2) := by decide +kernel
theorem d_L_law_310 : decode code 310 = .ok (.iconst 2, 1) := by decide +kernel
theorem d_L_law_311 : decode code 311 = .ok (.iadd, 1) := by decide +kernel
theorem d_L_law_312 : decode code 312 = .ok (.iaload, 1) := by decide +kernel
theorem d_L_law_313 : decode code 313 = .ok (.aload_n 0, 1) := by decide +kernel
theorem d_L_law_314 : decode code 314 = .ok (.iload 4, 2) := by decide +kernel
theorem d_L_law_316 : decode code 316 = .ok (.iconst 3, 1) := by decide +kernel
theorem d_L_law_317 : decode code 317 = .ok (.iadd, 1) := by decide +kernel
theorem d_L_law_318 : decode code 318 = .ok (.iaload, 1) := by decide +kernel
theorem d_L_law_319 : decode code 319 = .ok (.aload_n 0, 1) := by decide +kernel
theorem d_L_law_320 : decode code 320 = .ok (.iload 4, 2) := by decide +kernel
theorem d_L_law_322 : decode code 322 = .ok (.iconst 4, 1) := by decide +kernel
theorem d_L_law_323 : decode code 323 = .ok (.iadd, 1) := by decide +kernel
theorem d_L_law_324 : decode code 324 = .ok (.iaload, 1) := by decide +kernel
theorem d_L_law_325 : decode code 325 = .ok (.invokevirtual 80, 3) := by decide +kernel
theorem d_L_law_328 : decode code 328 = .ok (.istore 6, 2) := by decide +kernel
theorem d_L_law_330 : decode code 330 = .ok (.aload_n 2, 1) := by decide +kernel
theorem d_L_law_331 : decode code 331 = .ok (.invokevirtual 65, 3) := by decide +kernel
theorem d_L_law_334 : decode code 334 = .ok (.iload 5, 2) := by decide +kernel
theorem d_L_law_336 : decode code 336 = .ok (.if_icmp .eq 5, 3) := by decide +kernel
theorem d_L_law_339 : decode code 339 = .ok (.iconst 0, 1) := by decide +kernel
theorem d_L_law_340 : decode code 340 = .ok (.ireturn, 1) := by decide +kernel
theorem d_L_law_341 : decode code 341 = .ok (.iload 5, 2) := by decide +kernel
theorem d_L_law_343 : decode code 343 = .ok (.ifCond .ne 15, 3) := by decide +kernel
theorem d_L_law_346 : decode code 346 = .ok (.aload_n 3, 1) := by decide +kernel
theorem d_L_law_347 : decode code 347 = .ok (.iconst 0, 1) := by decide +kernel
theorem d_L_law_348 : decode code 348 = .ok (.laload, 1) := by decide +kernel
theorem d_L_law_349 : decode code 349 = .ok (.iload 6, 2) := by decide +kernel
theorem d_L_law_351 : decode code 351 = .ok (.i2l, 1) := by decide +kernel
theorem d_L_law_352 : decode code 352 = .ok (.lcmp, 1) := by decide +kernel
theorem d_L_law_353 : decode code 353 = .ok (.ifCond .eq 5, 3) := by decide +kernel
theorem d_L_law_356 : decode code 356 = .ok (.iconst 0, 1) := by decide +kernel
theorem d_L_law_357 : decode code 357 = .ok (.ireturn, 1) := by decide +kernel
theorem d_L_law_358 : decode code 358 = .ok (.goto 459, 3) := by decide +kernel
theorem d_L_law_361 : decode code 361 = .ok (.aload_n 1, 1) := by decide +kernel
theorem d_L_law_362 : decode code 362 = .ok (.aload_n 0, 1) := by decide +kernel
theorem d_L_law_363 : decode code 363 = .ok (.iload 4, 2) := by decide +kernel
theorem d_L_law_365 : decode code 365 = .ok (.iconst 1, 1) := by decide +kernel
theorem d_L_law_366 : decode code 366 = .ok (.iadd, 1) := by decide +kernel
theorem d_L_law_367 : decode code 367 = .ok (.iaload, 1) := by decide +kernel
theorem d_L_law_368 : decode code 368 = .ok (.aload_n 0, 1) := by decide +kernel
theorem d_L_law_369 : decode code 369 = .ok (.iload 4, 2) := by decide +kernel
theorem d_L_law_371 : decode code 371 = .ok (.iconst 2, 1) := by decide +kernel
theorem d_L_law_372 : decode code 372 = .ok (.iadd, 1) := by decide +kernel
theorem d_L_law_373 : decode code 373 = .ok (.iaload, 1) := by decide +kernel
theorem d_L_law_374 : decode code 374 = .ok (.invokestatic 81, 3) := by decide +kernel
theorem d_L_law_377 : decode code 377 = .ok (.istore 5, 2) := by decide +kernel
theorem d_L_law_379 : decode code 379 = .ok (.aload_n 2, 1) := by decide +kernel
theorem d_L_law_380 : decode code 380 = .ok (.aload_n 0, 1) := by decide +kernel
theorem d_L_law_381 : decode code 381 = .ok (.iload 4, 2) := by decide +kernel
theorem d_L_law_383 : decode code 383 = .ok (.iconst 1, 1) := by decide +kernel
theorem d_L_law_384 : decode code 384 = .ok (.iadd, 1) := by decide +kernel
theorem d_L_law_385 : decode code 385 = .ok (.iaload, 1) := by decide +kernel
theorem d_L_law_386 : decode code 386 = .ok (.aload_n 0, 1) := by decide +kernel
theorem d_L_law_387 : decode code 387 = .ok (.iload 4, 2) := by decide +kernel
theorem d_L_law_389 : decode code 389 = .ok (.iconst 2, 1) := by decide +kernel
theorem d_L_law_390 : decode code 390 = .ok (.iadd, 1) := by decide +kernel
theorem d_L_law_391 : decode code 391 = .ok (.iaload, 1) := by decide +kernel
theorem d_L_law_392 : decode code 392 = .ok (.invokevirtual 84, 3) := by decide +kernel
theorem d_L_law_395 : decode code 395 = .ok (.aload_n 2, 1) := by decide +kernel
theorem d_L_law_396 : decode code 396 = .ok (.invokevirtual 65, 3) := by decide +kernel
theorem d_L_law_399 : decode code 399 = .ok (.iload 5, 2) := by decide +kernel
theorem d_L_law_401 : decode code 401 = .ok (.if_icmp .eq 5, 3) := by decide +kernel
theorem d_L_law_404 : decode code 404 = .ok (.iconst 0, 1) := by decide +kernel
theorem d_L_law_405 : decode code 405 = .ok (.ireturn, 1) := by decide +kernel
theorem d_L_law_406 : decode code 406 = .ok (.goto 411, 3) := by decide +kernel
theorem d_L_law_409 : decode code 409 = .ok (.aload_n 1, 1) := by decide +kernel
theorem d_L_law_410 : decode code 410 = .ok (.aload_n 0, 1) := by decide +kernel
theorem d_L_law_411 : decode code 411 = .ok (.iload 4, 2) := by decide +kernel
theorem d_L_law_413 : decode code 413 = .ok (.iconst 1, 1) := by decide +kernel
theorem d_L_law_414 : decode code 414 = .ok (.iadd, 1) := by decide +kernel
theorem d_L_law_415 : decode code 415 = .ok (.iaload, 1) := by decide +kernel
theorem d_L_law_416 : decode code 416 = .ok (.aload_n 0, 1) := by decide +kernel
theorem d_L_law_417 : decode code 417 = .ok (.iload 4, 2) := by decide +kernel
theorem d_L_law_419 : decode code 419 = .ok (.iconst 2, 1) := by decide +kernel
theorem d_L_law_420 : decode code 420 = .ok (.iadd, 1) := by decide +kernel
theorem d_L_law_421 : decode code 421 = .ok (.iaload, 1) := by decide +kernel
theorem d_L_law_422 : decode code 422 = .ok (.aload_n 0, 1) := by decide +kernel
theorem d_L_law_423 : decode code 423 = .ok (.iload 4, 2) := by decide +kernel
theorem d_L_law_425 : decode code 425 = .ok (.iconst 3, 1) := by decide +kernel
theorem d_L_law_426 : decode code 426 = .ok (.iadd, 1) := by decide +kernel
theorem d_L_law_427 : decode code 427 = .ok (.iaload, 1) := by decide +kernel
theorem d_L_law_428 : decode code 428 = .ok (.aload_n 0, 1) := by decide +kernel
theorem d_L_law_429 : decode code 429 = .ok (.iload 4, 2) := by decide +kernel
theorem d_L_law_431 : decode code 431 = .ok (.iconst 4, 1) := by decide +kernel
theorem d_L_law_432 : decode code 432 = .ok (.iadd, 1) := by decide +kernel
theorem d_L_law_433 : decode code 433 = .ok (.iaload, 1) := by decide +kernel
theorem d_L_law_434 : decode code 434 = .ok (.aload_n 0, 1) := by decide +kernel
theorem d_L_law_435 : decode code 435 = .ok (.iload 4, 2) := by decide +kernel
theorem d_L_law_437 : decode code 437 = .ok (.iconst 5, 1) := by decide +kernel
theorem d_L_law_438 : decode code 438 = .ok (.iadd, 1) := by decide +kernel
theorem d_L_law_439 : decode code 439 = .ok (.iaload, 1) := by decide +kernel
theorem d_L_law_440 : decode code 440 = .ok (.aload_n 3, 1) := by decide +kernel
theorem d_L_law_441 : decode code 441 = .ok (.invokestatic 85, 3) := by decide +kernel
theorem d_L_law_444 : decode code 444 = .ok (.istore 5, 2) := by decide +kernel
theorem d_L_law_446 : decode code 446 = .ok (.aload_n 2, 1) := by decide +kernel
theorem d_L_law_447 : decode code 447 = .ok (.aload_n 0, 1) := by decide +kernel
theorem d_L_law_448 : decode code 448 = .ok (.iload 4, 2) := by decide +kernel
theorem d_L_law_450 : decode code 450 = .ok (.iconst 1, 1) := by decide +kernel
theorem d_L_law_451 : decode code 451 = .ok (.iadd, 1) := by decide +kernel
theorem d_L_law_452 : decode code 452 = .ok (.iaload, 1) := by decide +kernel
theorem d_L_law_453 : decode code 453 = .ok (.aload_n 0, 1) := by decide +kernel
theorem d_L_law_454 : decode code 454 = .ok (.iload 4, 2) := by decide +kernel
theorem d_L_law_456 : decode code 456 = .ok (.iconst 2, 1) := by decide +kernel
theorem d_L_law_457 : decode code 457 = .ok (.iadd, 1) := by decide +kernel
theorem d_L_law_458 : decode code 458 = .ok (.iaload, 1) := by decide +kernel
theorem d_L_law_459 : decode code 459 = .ok (.aload_n 0, 1) := by decide +kernel
theorem d_L_law_460 : decode code 460 = .ok (.iload 4, 2) := by decide +kernel
theorem d_L_law_462 : decode code 462 = .ok (.iconst 3, 1) := by decide +kernel
theorem d_L_law_463 : decode code 463 = .ok (.iadd, 1) := by decide +kernel
theorem d_L_law_464 : decode code 464 = .ok (.iaload, 1) := by decide +kernel
theorem d_L_law_465 : decode code 465 = .ok (.aload_n 0, 1) := by decide +kernel
theorem d_L_law_466 : decode code 466 = .ok (.iload 4, 2) := by decide +kernel
theorem d_L_law_468 : decode code 468 = .ok (.iconst 4, 1) := by decide +kernel
theorem d_L_law_469 : decode code 469 = .ok (.iadd, 1) := by decide +kernel
theorem d_L_law_470 : decode code 470 = .ok (.iaload, 1) := by decide +kernel
theorem d_L_law_471 : decode code 471 = .ok (.aload_n 0, 1) := by decide +kernel
theorem d_L_law_472 : decode code 472 = .ok (.iload 4, 2) := by decide +kernel
theorem d_L_law_474 : decode code 474 = .ok (.iconst 5, 1) := by decide +kernel
theorem d_L_law_475 : decode code 475 = .ok (.iadd, 1) := by decide +kernel
theorem d_L_law_476 : decode code 476 = .ok (.iaload, 1) := by decide +kernel
theorem d_L_law_477 : decode code 477 = .ok (.invokevirtual 88, 3) := by decide +kernel
theorem d_L_law_480 : decode code 480 = .ok (.istore 6, 2) := by decide +kernel
theorem d_L_law_482 : decode code 482 = .ok (.aload_n 2, 1) := by decide +kernel
theorem d_L_law_483 : decode code 483 = .ok (.invokevirtual 65, 3) := by decide +kernel
theorem d_L_law_486 : decode code 486 = .ok (.iload 5, 2) := by decide +kernel
theorem d_L_law_488 : decode code 488 = .ok (.if_icmp .eq 5, 3) := by decide +kernel
theorem d_L_law_491 : decode code 491 = .ok (.iconst 0, 1) := by decide +kernel
theorem d_L_law_492 : decode code 492 = .ok (.ireturn, 1) := by decide +kernel
theorem d_L_law_493 : decode code 493 = .ok (.iload 5, 2) := by decide +kernel
theorem d_L_law_495 : decode code 495 = .ok (.ifCond .ne 15, 3) := by decide +kernel
theorem d_L_law_498 : decode code 498 = .ok (.aload_n 3, 1) := by decide +kernel
theorem d_L_law_499 : decode code 499 = .ok (.iconst 0, 1) := by decide +kernel
theorem d_L_law_500 : decode code 500 = .ok (.laload, 1) := by decide +kernel
theorem d_L_law_501 : decode code 501 = .ok (.iload 6, 2) := by decide +kernel
theorem d_L_law_503 : decode code 503 = .ok (.i2l, 1) := by decide +kernel
theorem d_L_law_504 : decode code 504 = .ok (.lcmp, 1) := by decide +kernel
theorem d_L_law_505 : decode code 505 = .ok (.ifCond .eq 5, 3) := by decide +kernel
theorem d_L_law_508 : decode code 508 = .ok (.iconst 0, 1) := by decide +kernel
theorem d_L_law_509 : decode code 509 = .ok (.ireturn, 1) := by decide +kernel
theorem d_L_law_510 : decode code 510 = .ok (.goto 307, 3) := by decide +kernel
theorem d_L_law_513 : decode code 513 = .ok (.aload_n 1, 1) := by decide +kernel
theorem d_L_law_514 : decode code 514 = .ok (.aload_n 0, 1) := by decide +kernel
theorem d_L_law_515 : decode code 515 = .ok (.iload 4, 2) := by decide +kernel
theorem d_L_law_517 : decode code 517 = .ok (.iconst 1, 1) := by decide +kernel
theorem d_L_law_518 : decode code 518 = .ok (.iadd, 1) := by decide +kernel
theorem d_L_law_519 : decode code 519 = .ok (.iaload, 1) := by decide +kernel
theorem d_L_law_520 : decode code 520 = .ok (.aload_n 3, 1) := by decide +kernel
theorem d_L_law_521 : decode code 521 = .ok (.invokestatic 89, 3) := by decide +kernel
theorem d_L_law_524 : decode code 524 = .ok (.istore 5, 2) := by decide +kernel
theorem d_L_law_526 : decode code 526 = .ok (.aload_n 2, 1) := by decide +kernel
theorem d_L_law_527 : decode code 527 = .ok (.aload_n 0, 1) := by decide +kernel
theorem d_L_law_528 : decode code 528 = .ok (.iload 4, 2) := by decide +kernel
theorem d_L_law_530 : decode code 530 = .ok (.iconst 1, 1) := by decide +kernel
theorem d_L_law_531 : decode code 531 = .ok (.iadd, 1) := by decide +kernel
theorem d_L_law_532 : decode code 532 = .ok (.iaload, 1) := by decide +kernel
theorem d_L_law_533 : decode code 533 = .ok (.invokevirtual 91, 3) := by decide +kernel
theorem d_L_law_536 : decode code 536 = .ok (.istore 6, 2) := by decide +kernel
theorem d_L_law_538 : decode code 538 = .ok (.aload_n 2, 1) := by decide +kernel
theorem d_L_law_539 : decode code 539 = .ok (.invokevirtual 65, 3) := by decide +kernel
theorem d_L_law_542 : decode code 542 = .ok (.iload 5, 2) := by decide +kernel
theorem d_L_law_544 : decode code 544 = .ok (.if_icmp .eq 5, 3) := by decide +kernel
theorem d_L_law_547 : decode code 547 = .ok (.iconst 0, 1) := by decide +kernel
theorem d_L_law_548 : decode code 548 = .ok (.ireturn, 1) := by decide +kernel
theorem d_L_law_549 : decode code 549 = .ok (.iload 5, 2) := by decide +kernel
theorem d_L_law_551 : decode code 551 = .ok (.ifCond .ne 15, 3) := by decide +kernel
theorem d_L_law_554 : decode code 554 = .ok (.aload_n 3, 1) := by decide +kernel
theorem d_L_law_555 : decode code 555 = .ok (.iconst 0, 1) := by decide +kernel
theorem d_L_law_556 : decode code 556 = .ok (.laload, 1) := by decide +kernel
theorem d_L_law_557 : decode code 557 = .ok (.iload 6, 2) := by decide +kernel
theorem d_L_law_559 : decode code 559 = .ok (.i2l, 1) := by decide +kernel
theorem d_L_law_560 : decode code 560 = .ok (.lcmp, 1) := by decide +kernel
theorem d_L_law_561 : decode code 561 = .ok (.ifCond .eq 5, 3) := by decide +kernel
theorem d_L_law_564 : decode code 564 = .ok (.iconst 0, 1) := by decide +kernel
theorem d_L_law_565 : decode code 565 = .ok (.ireturn, 1) := by decide +kernel
theorem d_L_law_566 : decode code 566 = .ok (.goto 251, 3) := by decide +kernel
theorem d_L_law_569 : decode code 569 = .ok (.aload_n 1, 1) := by decide +kernel
theorem d_L_law_570 : decode code 570 = .ok (.aload_n 0, 1) := by decide +kernel
theorem d_L_law_571 : decode code 571 = .ok (.iload 4, 2) := by decide +kernel
theorem d_L_law_573 : decode code 573 = .ok (.iconst 1, 1) := by decide +kernel
theorem d_L_law_574 : decode code 574 = .ok (.iadd, 1) := by decide +kernel
theorem d_L_law_575 : decode code 575 = .ok (.iaload, 1) := by decide +kernel
theorem d_L_law_576 : decode code 576 = .ok (.aload_n 0, 1) := by decide +kernel
theorem d_L_law_577 : decode code 577 = .ok (.iload 4, 2) := by decide +kernel
theorem d_L_law_579 : decode code 579 = .ok (.iconst 2, 1) := by decide +kernel
theorem d_L_law_580 : decode code 580 = .ok (.iadd, 1) := by decide +kernel
theorem d_L_law_581 : decode code 581 = .ok (.iaload, 1) := by decide +kernel
theorem d_L_law_582 : decode code 582 = .ok (.aload_n 3, 1) := by decide +kernel
theorem d_L_law_583 : decode code 583 = .ok (.invokestatic 92, 3) := by decide +kernel
theorem d_L_law_586 : decode code 586 = .ok (.istore 5, 2) := by decide +kernel
theorem d_L_law_588 : decode code 588 = .ok (.aload_n 2, 1) := by decide +kernel
theorem d_L_law_589 : decode code 589 = .ok (.aload_n 0, 1) := by decide +kernel
theorem d_L_law_590 : decode code 590 = .ok (.iload 4, 2) := by decide +kernel
theorem d_L_law_592 : decode code 592 = .ok (.iconst 1, 1) := by decide +kernel
theorem d_L_law_593 : decode code 593 = .ok (.iadd, 1) := by decide +kernel
theorem d_L_law_594 : decode code 594 = .ok (.iaload, 1) := by decide +kernel
theorem d_L_law_595 : decode code 595 = .ok (.aload_n 0, 1) := by decide +kernel
theorem d_L_law_596 : decode code 596 = .ok (.iload 4, 2) := by decide +kernel
theorem d_L_law_598 : decode code 598 = .ok (.iconst 2, 1) := by decide +kernel
theorem d_L_law_599 : decode code 599 = .ok (.iadd, 1) := by decide +kernel
theorem d_L_law_600 : decode code 600 = .ok (.iaload, 1) := by decide +kernel
theorem d_L_law_601 : decode code 601 = .ok (.invokevirtual 95, 3) := by decide +kernel
theorem d_L_law_604 : decode code 604 = .ok (.istore 6, 2) := by decide +kernel
theorem d_L_law_606 : decode code 606 = .ok (.aload_n 2, 1) := by decide +kernel
theorem d_L_law_607 : decode code 607 = .ok (.invokevirtual 65, 3) := by decide +kernel
theorem d_L_law_610 : decode code 610 = .ok (.iload 5, 2) := by decide +kernel
theorem d_L_law_612 : decode code 612 = .ok (.if_icmp .eq 5, 3) := by decide +kernel
theorem d_L_law_615 : decode code 615 = .ok (.iconst 0, 1) := by decide +kernel
theorem d_L_law_616 : decode code 616 = .ok (.ireturn, 1) := by decide +kernel
theorem d_L_law_617 : decode code 617 = .ok (.iload 5, 2) := by decide +kernel
theorem d_L_law_619 : decode code 619 = .ok (.ifCond .ne 15, 3) := by decide +kernel
theorem d_L_law_622 : decode code 622 = .ok (.aload_n 3, 1) := by decide +kernel
theorem d_L_law_623 : decode code 623 = .ok (.iconst 0, 1) := by decide +kernel
theorem d_L_law_624 : decode code 624 = .ok (.laload, 1) := by decide +kernel
theorem d_L_law_625 : decode code 625 = .ok (.iload 6, 2) := by decide +kernel
theorem d_L_law_627 : decode code 627 = .ok (.i2l, 1) := by decide +kernel
theorem d_L_law_628 : decode code 628 = .ok (.lcmp, 1) := by decide +kernel
theorem d_L_law_629 : decode code 629 = .ok (.ifCond .eq 5, 3) := by decide +kernel
theorem d_L_law_632 : decode code 632 = .ok (.iconst 0, 1) := by decide +kernel
theorem d_L_law_633 : decode code 633 = .ok (.ireturn, 1) := by decide +kernel
theorem d_L_law_634 : decode code 634 = .ok (.goto 183, 3) := by decide +kernel
theorem d_L_law_637 : decode code 637 = .ok (.aload_n 1, 1) := by decide +kernel
theorem d_L_law_638 : decode code 638 = .ok (.aload_n 0, 1) := by decide +kernel
theorem d_L_law_639 : decode code 639 = .ok (.iload 4, 2) := by decide +kernel
theorem d_L_law_641 : decode code 641 = .ok (.iconst 1, 1) := by decide +kernel
theorem d_L_law_642 : decode code 642 = .ok (.iadd, 1) := by decide +kernel
theorem d_L_law_643 : decode code 643 = .ok (.iaload, 1) := by decide +kernel
theorem d_L_law_644 : decode code 644 = .ok (.aload_n 3, 1) := by decide +kernel
theorem d_L_law_645 : decode code 645 = .ok (.invokestatic 96, 3) := by decide +kernel
theorem d_L_law_648 : decode code 648 = .ok (.istore 5, 2) := by decide +kernel
theorem d_L_law_650 : decode code 650 = .ok (.aload_n 2, 1) := by decide +kernel
theorem d_L_law_651 : decode code 651 = .ok (.aload_n 0, 1) := by decide +kernel
theorem d_L_law_652 : decode code 652 = .ok (.iload 4, 2) := by decide +kernel
theorem d_L_law_654 : decode code 654 = .ok (.iconst 1, 1) := by decide +kernel
theorem d_L_law_655 : decode code 655 = .ok (.iadd, 1) := by decide +kernel
theorem d_L_law_656 : decode code 656 = .ok (.iaload, 1) := by decide +kernel
theorem d_L_law_657 : decode code 657 = .ok (.invokevirtual 98, 3) := by decide +kernel
theorem d_L_law_660 : decode code 660 = .ok (.istore 6, 2) := by decide +kernel
theorem d_L_law_662 : decode code 662 = .ok (.aload_n 2, 1) := by decide +kernel
theorem d_L_law_663 : decode code 663 = .ok (.invokevirtual 65, 3) := by decide +kernel
theorem d_L_law_666 : decode code 666 = .ok (.iload 5, 2) := by decide +kernel
theorem d_L_law_668 : decode code 668 = .ok (.if_icmp .eq 5, 3) := by decide +kernel
theorem d_L_law_671 : decode code 671 = .ok (.iconst 0, 1) := by decide +kernel
theorem d_L_law_672 : decode code 672 = .ok (.ireturn, 1) := by decide +kernel
theorem d_L_law_673 : decode code 673 = .ok (.iload 5, 2) := by decide +kernel
theorem d_L_law_675 : decode code 675 = .ok (.ifCond .ne 15, 3) := by decide +kernel
theorem d_L_law_678 : decode code 678 = .ok (.aload_n 3, 1) := by decide +kernel
theorem d_L_law_679 : decode code 679 = .ok (.iconst 0, 1) := by decide +kernel
theorem d_L_law_680 : decode code 680 = .ok (.laload, 1) := by decide +kernel
theorem d_L_law_681 : decode code 681 = .ok (.iload 6, 2) := by decide +kernel
theorem d_L_law_683 : decode code 683 = .ok (.i2l, 1) := by decide +kernel
theorem d_L_law_684 : decode code 684 = .ok (.lcmp, 1) := by decide +kernel
theorem d_L_law_685 : decode code 685 = .ok (.ifCond .eq 5, 3) := by decide +kernel
theorem d_L_law_688 : decode code 688 = .ok (.iconst 0, 1) := by decide +kernel
theorem d_L_law_689 : decode code 689 = .ok (.ireturn, 1) := by decide +kernel
theorem d_L_law_690 : decode code 690 = .ok (.goto 127, 3) := by decide +kernel
theorem d_L_law_693 : decode code 693 = .ok (.aload_n 1, 1) := by decide +kernel
theorem d_L_law_694 : decode code 694 = .ok (.aload_n 0, 1) := by decide +kernel
theorem d_L_law_695 : decode code 695 = .ok (.iload 4, 2) := by decide +kernel
theorem d_L_law_697 : decode code 697 = .ok (.iconst 1, 1) := by decide +kernel
theorem d_L_law_698 : decode code 698 = .ok (.iadd, 1) := by decide +kernel
theorem d_L_law_699 : decode code 699 = .ok (.iaload, 1) := by decide +kernel
theorem d_L_law_700 : decode code 700 = .ok (.aload_n 3, 1) := by decide +kernel
theorem d_L_law_701 : decode code 701 = .ok (.invokestatic 99, 3) := by decide +kernel
theorem d_L_law_704 : decode code 704 = .ok (.istore 5, 2) := by decide +kernel
theorem d_L_law_706 : decode code 706 = .ok (.aload_n 2, 1) := by decide +kernel
theorem d_L_law_707 : decode code 707 = .ok (.aload_n 0, 1) := by decide +kernel
theorem d_L_law_708 : decode code 708 = .ok (.iload 4, 2) := by decide +kernel
theorem d_L_law_710 : decode code 710 = .ok (.iconst 1, 1) := by decide +kernel
theorem d_L_law_711 : decode code 711 = .ok (.iadd, 1) := by decide +kernel
theorem d_L_law_712 : decode code 712 = .ok (.iaload, 1) := by decide +kernel
theorem d_L_law_713 : decode code 713 = .ok (.invokevirtual 101, 3) := by decide +kernel
theorem d_L_law_716 : decode code 716 = .ok (.istore 6, 2) := by decide +kernel
theorem d_L_law_718 : decode code 718 = .ok (.aload_n 2, 1) := by decide +kernel
theorem d_L_law_719 : decode code 719 = .ok (.invokevirtual 65, 3) := by decide +kernel
theorem d_L_law_722 : decode code 722 = .ok (.iload 5, 2) := by decide +kernel
theorem d_L_law_724 : decode code 724 = .ok (.if_icmp .eq 5, 3) := by decide +kernel
theorem d_L_law_727 : decode code 727 = .ok (.iconst 0, 1) := by decide +kernel
theorem d_L_law_728 : decode code 728 = .ok (.ireturn, 1) := by decide +kernel
theorem d_L_law_729 : decode code 729 = .ok (.iload 5, 2) := by decide +kernel
theorem d_L_law_731 : decode code 731 = .ok (.ifCond .ne 15, 3) := by decide +kernel
theorem d_L_law_734 : decode code 734 = .ok (.aload_n 3, 1) := by decide +kernel
theorem d_L_law_735 : decode code 735 = .ok (.iconst 0, 1) := by decide +kernel
theorem d_L_law_736 : decode code 736 = .ok (.laload, 1) := by decide +kernel
theorem d_L_law_737 : decode code 737 = .ok (.iload 6, 2) := by decide +kernel
theorem d_L_law_739 : decode code 739 = .ok (.i2l, 1) := by decide +kernel
theorem d_L_law_740 : decode code 740 = .ok (.lcmp, 1) := by decide +kernel
theorem d_L_law_741 : decode code 741 = .ok (.ifCond .eq 5, 3) := by decide +kernel
theorem d_L_law_744 : decode code 744 = .ok (.iconst 0, 1) := by decide +kernel
theorem d_L_law_745 : decode code 745 = .ok (.ireturn, 1) := by decide +kernel
theorem d_L_law_746 : decode code 746 = .ok (.goto 71, 3) := by decide +kernel
theorem d_L_law_749 : decode code 749 = .ok (.aload_n 1, 1) := by decide +kernel
theorem d_L_law_750 : decode code 750 = .ok (.aload_n 0, 1) := by decide +kernel
theorem d_L_law_751 : decode code 751 = .ok (.iload 4, 2) := by decide +kernel
theorem d_L_law_753 : decode code 753 = .ok (.iconst 1, 1) := by decide +kernel
theorem d_L_law_754 : decode code 754 = .ok (.iadd, 1) := by decide +kernel
theorem d_L_law_755 : decode code 755 = .ok (.iaload, 1) := by decide +kernel
theorem d_L_law_756 : decode code 756 = .ok (.aload_n 0, 1) := by decide +kernel
theorem d_L_law_757 : decode code 757 = .ok (.iload 4, 2) := by decide +kernel
theorem d_L_law_759 : decode code 759 = .ok (.iconst 2, 1) := by decide +kernel
theorem d_L_law_760 : decode code 760 = .ok (.iadd, 1) := by decide +kernel
theorem d_L_law_761 : decode code 761 = .ok (.iaload, 1) := by decide +kernel
theorem d_L_law_762 : decode code 762 = .ok (.aload_n 3, 1) := by decide +kernel
theorem d_L_law_763 : decode code 763 = .ok (.invokestatic 102, 3) := by decide +kernel
theorem d_L_law_766 : decode code 766 = .ok (.istore 5, 2) := by decide +kernel
theorem d_L_law_768 : decode code 768 = .ok (.aload_n 2, 1) := by decide +kernel
theorem d_L_law_769 : decode code 769 = .ok (.aload_n 0, 1) := by decide +kernel
theorem d_L_law_770 : decode code 770 = .ok (.iload 4, 2) := by decide +kernel
theorem d_L_law_772 : decode code 772 = .ok (.iconst 1, 1) := by decide +kernel
theorem d_L_law_773 : decode code 773 = .ok (.iadd, 1) := by decide +kernel
theorem d_L_law_774 : decode code 774 = .ok (.iaload, 1) := by decide +kernel
theorem d_L_law_775 : decode code 775 = .ok (.aload_n 0, 1) := by decide +kernel
theorem d_L_law_776 : decode code 776 = .ok (.iload 4, 2) := by decide +kernel
theorem d_L_law_778 : decode code 778 = .ok (.iconst 2, 1) := by decide +kernel
theorem d_L_law_779 : decode code 779 = .ok (.iadd, 1) := by decide +kernel
theorem d_L_law_780 : decode code 780 = .ok (.iaload, 1) := by decide +kernel
theorem d_L_law_781 : decode code 781 = .ok (.invokevirtual 104, 3) := by decide +kernel
theorem d_L_law_784 : decode code 784 = .ok (.istore 6, 2) := by decide +kernel
theorem d_L_law_786 : decode code 786 = .ok (.aload_n 2, 1) := by decide +kernel
theorem d_L_law_787 : decode code 787 = .ok (.invokevirtual 65, 3) := by decide +kernel
theorem d_L_law_790 : decode code 790 = .ok (.iload 5, 2) := by decide +kernel
theorem d_L_law_792 : decode code 792 = .ok (.if_icmp .eq 5, 3) := by decide +kernel
theorem d_L_law_795 : decode code 795 = .ok (.iconst 0, 1) := by decide +kernel
theorem d_L_law_796 : decode code 796 = .ok (.ireturn, 1) := by decide +kernel
theorem d_L_law_797 : decode code 797 = .ok (.iload 5, 2) := by decide +kernel
theorem d_L_law_799 : decode code 799 = .ok (.ifCond .ne 15, 3) := by decide +kernel
theorem d_L_law_802 : decode code 802 = .ok (.aload_n 3, 1) := by decide +kernel
theorem d_L_law_803 : decode code 803 = .ok (.iconst 0, 1) := by decide +kernel
theorem d_L_law_804 : decode code 804 = .ok (.laload, 1) := by decide +kernel
theorem d_L_law_805 : decode code 805 = .ok (.iload 6, 2) := by decide +kernel
theorem d_L_law_807 : decode code 807 = .ok (.i2l, 1) := by decide +kernel
theorem d_L_law_808 : decode code 808 = .ok (.lcmp, 1) := by decide +kernel
theorem d_L_law_809 : decode code 809 = .ok (.ifCond .eq 5, 3) := by decide +kernel
theorem d_L_law_812 : decode code 812 = .ok (.iconst 0, 1) := by decide +kernel
theorem d_L_law_813 : decode code 813 = .ok (.ireturn, 1) := by decide +kernel
theorem d_L_law_814 : decode code 814 = .ok (.goto 3, 3) := by decide +kernel
theorem d_L_law_817 : decode code 817 = .ok (.iinc 4 6, 3) := by decide +kernel
theorem d_L_law_820 : decode code 820 = .ok (.goto (-797), 3) := by decide +kernel
theorem d_L_law_823 : decode code 823 = .ok (.iconst 1, 1) := by decide +kernel
theorem d_L_law_824 : decode code 824 = .ok (.ireturn, 1) := by decide +kernel
