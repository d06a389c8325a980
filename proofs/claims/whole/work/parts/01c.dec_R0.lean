theorem d_R_init_0 : decode b_R_init 0 = .ok (.aload_n 0, 1) := by decide +kernel
theorem d_R_init_1 : decode b_R_init 1 = .ok (.invokespecial 3, 3) := by decide +kernel
theorem d_R_init_4 : decode b_R_init 4 = .ok (.aload_n 0, 1) := by decide +kernel
theorem d_R_init_5 : decode b_R_init 5 = .ok (.sipush 200, 3) := by decide +kernel
theorem d_R_init_8 : decode b_R_init 8 = .ok (.newarray .int, 2) := by decide +kernel
theorem d_R_init_10 : decode b_R_init 10 = .ok (.putfield 9, 3) := by decide +kernel
theorem d_R_init_13 : decode b_R_init 13 = .ok (.aload_n 0, 1) := by decide +kernel
theorem d_R_init_14 : decode b_R_init 14 = .ok (.iconst 0, 1) := by decide +kernel
theorem d_R_init_15 : decode b_R_init 15 = .ok (.putfield 15, 3) := by decide +kernel
theorem d_R_init_18 : decode b_R_init 18 = .ok (.aload_n 0, 1) := by decide +kernel
theorem d_R_init_19 : decode b_R_init 19 = .ok (.iconst 0, 1) := by decide +kernel
theorem d_R_init_20 : decode b_R_init 20 = .ok (.putfield 19, 3) := by decide +kernel
theorem d_R_init_23 : decode b_R_init 23 = .ok (.aload_n 0, 1) := by decide +kernel
theorem d_R_init_24 : decode b_R_init 24 = .ok (.iconst 0, 1) := by decide +kernel
theorem d_R_init_25 : decode b_R_init 25 = .ok (.putfield 22, 3) := by decide +kernel
theorem d_R_init_28 : decode b_R_init 28 = .ok (.aload_n 0, 1) := by decide +kernel
theorem d_R_init_29 : decode b_R_init 29 = .ok (.aconst_null, 1) := by decide +kernel
theorem d_R_init_30 : decode b_R_init 30 = .ok (.putfield 25, 3) := by decide +kernel
theorem d_R_init_33 : decode b_R_init 33 = .ok (.aload_n 0, 1) := by decide +kernel
theorem d_R_init_34 : decode b_R_init 34 = .ok (.aconst_null, 1) := by decide +kernel
theorem d_R_init_35 : decode b_R_init 35 = .ok (.putfield 29, 3) := by decide +kernel
theorem d_R_init_38 : decode b_R_init 38 = .ok (.return_, 1) := by decide +kernel
theorem d_R_append_0 : decode b_R_append 0 = .ok (.iload_n 3, 1) := by decide +kernel
theorem d_R_append_1 : decode b_R_append 1 = .ok (.iconst 1, 1) := by decide +kernel
theorem d_R_append_2 : decode b_R_append 2 = .ok (.isub, 1) := by decide +kernel
theorem d_R_append_3 : decode b_R_append 3 = .ok (.istore 4, 2) := by decide +kernel
theorem d_R_append_5 : decode b_R_append 5 = .ok (.iload 4, 2) := by decide +kernel
theorem d_R_append_7 : decode b_R_append 7 = .ok (.ifCond .lt 50, 3) := by decide +kernel
theorem d_R_append_10 : decode b_R_append 10 = .ok (.aload_n 0, 1) := by decide +kernel
theorem d_R_append_11 : decode b_R_append 11 = .ok (.getfield 15, 3) := by decide +kernel
theorem d_R_append_14 : decode b_R_append 14 = .ok (.sipush 200, 3) := by decide +kernel
theorem d_R_append_17 : decode b_R_append 17 = .ok (.if_icmp .ge 40, 3) := by decide +kernel
theorem d_R_append_20 : decode b_R_append 20 = .ok (.aload_n 0, 1) := by decide +kernel
theorem d_R_append_21 : decode b_R_append 21 = .ok (.getfield 9, 3) := by decide +kernel
theorem d_R_append_24 : decode b_R_append 24 = .ok (.aload_n 0, 1) := by decide +kernel
theorem d_R_append_25 : decode b_R_append 25 = .ok (.getfield 15, 3) := by decide +kernel
theorem d_R_append_28 : decode b_R_append 28 = .ok (.lload_n 1, 1) := by decide +kernel
theorem d_R_append_29 : decode b_R_append 29 = .ok (.bipush 8, 2) := by decide +kernel
theorem d_R_append_31 : decode b_R_append 31 = .ok (.iload 4, 2) := by decide +kernel
theorem d_R_append_33 : decode b_R_append 33 = .ok (.imul, 1) := by decide +kernel
theorem d_R_append_34 : decode b_R_append 34 = .ok (.lushr, 1) := by decide +kernel
theorem d_R_append_35 : decode b_R_append 35 = .ok (.l2i, 1) := by decide +kernel
theorem d_R_append_36 : decode b_R_append 36 = .ok (.sipush 255, 3) := by decide +kernel
theorem d_R_append_39 : decode b_R_append 39 = .ok (.iand, 1) := by decide +kernel
theorem d_R_append_40 : decode b_R_append 40 = .ok (.iastore, 1) := by decide +kernel
theorem d_R_append_41 : decode b_R_append 41 = .ok (.aload_n 0, 1) := by decide +kernel
theorem d_R_append_42 : decode b_R_append 42 = .ok (.dup, 1) := by decide +kernel
theorem d_R_append_43 : decode b_R_append 43 = .ok (.getfield 15, 3) := by decide +kernel
theorem d_R_append_46 : decode b_R_append 46 = .ok (.iconst 1, 1) := by decide +kernel
theorem d_R_append_47 : decode b_R_append 47 = .ok (.iadd, 1) := by decide +kernel
theorem d_R_append_48 : decode b_R_append 48 = .ok (.putfield 15, 3) := by decide +kernel
theorem d_R_append_51 : decode b_R_append 51 = .ok (.iinc 4 (-1), 3) := by decide +kernel
theorem d_R_append_54 : decode b_R_append 54 = .ok (.goto (-49), 3) := by decide +kernel
theorem d_R_append_57 : decode b_R_append 57 = .ok (.return_, 1) := by decide +kernel
theorem d_R_read_0 : decode b_R_read 0 = .ok (.aload_n 1, 1) := by decide +kernel
theorem d_R_read_1 : decode b_R_read 1 = .ok (.invokevirtual 32, 3) := by decide +kernel
theorem d_R_read_4 : decode b_R_read 4 = .ok (.aload_n 0, 1) := by decide +kernel
theorem d_R_read_5 : decode b_R_read 5 = .ok (.iconst 0, 1) := by decide +kernel
theorem d_R_read_6 : decode b_R_read 6 = .ok (.putfield 19, 3) := by decide +kernel
theorem d_R_read_9 : decode b_R_read 9 = .ok (.aload_n 0, 1) := by decide +kernel
theorem d_R_read_10 : decode b_R_read 10 = .ok (.aload_n 1, 1) := by decide +kernel
theorem d_R_read_11 : decode b_R_read 11 = .ok (.invokevirtual 37, 3) := by decide +kernel
theorem d_R_read_14 : decode b_R_read 14 = .ok (.ifCond .eq 15, 3) := by decide +kernel
theorem d_R_read_17 : decode b_R_read 17 = .ok (.aload_n 0, 1) := by decide +kernel
theorem d_R_read_18 : decode b_R_read 18 = .ok (.aload_n 1, 1) := by decide +kernel
theorem d_R_read_19 : decode b_R_read 19 = .ok (.invokevirtual 41, 3) := by decide +kernel
theorem d_R_read_22 : decode b_R_read 22 = .ok (.ifCond .eq 7, 3) := by decide +kernel
theorem d_R_read_25 : decode b_R_read 25 = .ok (.iconst 1, 1) := by decide +kernel
theorem d_R_read_26 : decode b_R_read 26 = .ok (.goto 4, 3) := by decide +kernel
theorem d_R_read_29 : decode b_R_read 29 = .ok (.iconst 0, 1) := by decide +kernel
theorem d_R_read_30 : decode b_R_read 30 = .ok (.istore_n 2, 1) := by decide +kernel
theorem d_R_read_31 : decode b_R_read 31 = .ok (.iconst 1, 1) := by decide +kernel
theorem d_R_read_32 : decode b_R_read 32 = .ok (.istore_n 3, 1) := by decide +kernel
theorem d_R_read_33 : decode b_R_read 33 = .ok (.iload_n 2, 1) := by decide +kernel
theorem d_R_read_34 : decode b_R_read 34 = .ok (.ifCond .eq 29, 3) := by decide +kernel
theorem d_R_read_37 : decode b_R_read 37 = .ok (.iload_n 3, 1) := by decide +kernel
theorem d_R_read_38 : decode b_R_read 38 = .ok (.bipush 8, 2) := by decide +kernel
theorem d_R_read_40 : decode b_R_read 40 = .ok (.if_icmp .ge 23, 3) := by decide +kernel
theorem d_R_read_43 : decode b_R_read 43 = .ok (.aload_n 0, 1) := by decide +kernel
theorem d_R_read_44 : decode b_R_read 44 = .ok (.invokevirtual 44, 3) := by decide +kernel
theorem d_R_read_47 : decode b_R_read 47 = .ok (.iconst (-1), 1) := by decide +kernel
theorem d_R_read_48 : decode b_R_read 48 = .ok (.if_icmp .eq 15, 3) := by decide +kernel
theorem d_R_read_51 : decode b_R_read 51 = .ok (.aload_n 0, 1) := by decide +kernel
theorem d_R_read_52 : decode b_R_read 52 = .ok (.aload_n 1, 1) := by decide +kernel
theorem d_R_read_53 : decode b_R_read 53 = .ok (.invokevirtual 41, 3) := by decide +kernel
theorem d_R_read_56 : decode b_R_read 56 = .ok (.istore_n 2, 1) := by decide +kernel
theorem d_R_read_57 : decode b_R_read 57 = .ok (.iinc 3 1, 3) := by decide +kernel
theorem d_R_read_60 : decode b_R_read 60 = .ok (.goto (-27), 3) := by decide +kernel
theorem d_R_read_63 : decode b_R_read 63 = .ok (.iload_n 2, 1) := by decide +kernel
theorem d_R_read_64 : decode b_R_read 64 = .ok (.ifCond .eq 15, 3) := by decide +kernel
theorem d_R_read_67 : decode b_R_read 67 = .ok (.aload_n 0, 1) := by decide +kernel
theorem d_R_read_68 : decode b_R_read 68 = .ok (.invokevirtual 44, 3) := by decide +kernel
theorem d_R_read_71 : decode b_R_read 71 = .ok (.iconst (-1), 1) := by decide +kernel
theorem d_R_read_72 : decode b_R_read 72 = .ok (.if_icmp .ne 7, 3) := by decide +kernel
theorem d_R_read_75 : decode b_R_read 75 = .ok (.iconst 1, 1) := by decide +kernel
theorem d_R_read_76 : decode b_R_read 76 = .ok (.goto 4, 3) := by decide +kernel
theorem d_R_read_79 : decode b_R_read 79 = .ok (.iconst 0, 1) := by decide +kernel
theorem d_R_read_80 : decode b_R_read 80 = .ok (.istore_n 2, 1) := by decide +kernel
theorem d_R_read_81 : decode b_R_read 81 = .ok (.aload_n 0, 1) := by decide +kernel
theorem d_R_read_82 : decode b_R_read 82 = .ok (.iconst 0, 1) := by decide +kernel
theorem d_R_read_83 : decode b_R_read 83 = .ok (.putfield 15, 3) := by decide +kernel
theorem d_R_read_86 : decode b_R_read 86 = .ok (.iload_n 2, 1) := by decide +kernel
theorem d_R_read_87 : decode b_R_read 87 = .ok (.ifCond .eq 7, 3) := by decide +kernel
theorem d_R_read_90 : decode b_R_read 90 = .ok (.iconst (-1), 1) := by decide +kernel
theorem d_R_read_91 : decode b_R_read 91 = .ok (.goto 7, 3) := by decide +kernel
theorem d_R_read_94 : decode b_R_read 94 = .ok (.aload_n 0, 1) := by decide +kernel
theorem d_R_read_95 : decode b_R_read 95 = .ok (.getfield 19, 3) := by decide +kernel
theorem d_R_read_98 : decode b_R_read 98 = .ok (.ireturn, 1) := by decide +kernel
theorem d_R_readTable_0 : decode b_R_readTable 0 = .ok (.aload_n 0, 1) := by decide +kernel
theorem d_R_readTable_1 : decode b_R_readTable 1 = .ok (.bipush 91, 2) := by decide +kernel
theorem d_R_readTable_3 : decode b_R_readTable 3 = .ok (.invokevirtual 48, 3) := by decide +kernel
theorem d_R_readTable_6 : decode b_R_readTable 6 = .ok (.ifCond .eq 14, 3) := by decide +kernel
theorem d_R_readTable_9 : decode b_R_readTable 9 = .ok (.aload_n 0, 1) := by decide +kernel
theorem d_R_readTable_10 : decode b_R_readTable 10 = .ok (.invokevirtual 52, 3) := by decide +kernel
theorem d_R_readTable_13 : decode b_R_readTable 13 = .ok (.ifCond .eq 7, 3) := by decide +kernel
theorem d_R_readTable_16 : decode b_R_readTable 16 = .ok (.iconst 1, 1) := by decide +kernel
theorem d_R_readTable_17 : decode b_R_readTable 17 = .ok (.goto 4, 3) := by decide +kernel
theorem d_R_readTable_20 : decode b_R_readTable 20 = .ok (.iconst 0, 1) := by decide +kernel
theorem d_R_readTable_21 : decode b_R_readTable 21 = .ok (.istore_n 2, 1) := by decide +kernel
theorem d_R_readTable_22 : decode b_R_readTable 22 = .ok (.aload_n 1, 1) := by decide +kernel
theorem d_R_readTable_23 : decode b_R_readTable 23 = .ok (.aload_n 0, 1) := by decide +kernel
theorem d_R_readTable_24 : decode b_R_readTable 24 = .ok (.getfield 22, 3) := by decide +kernel
theorem d_R_readTable_27 : decode b_R_readTable 27 = .ok (.invokevirtual 56, 3) := by decide +kernel
theorem d_R_readTable_30 : decode b_R_readTable 30 = .ok (.iconst 1, 1) := by decide +kernel
theorem d_R_readTable_31 : decode b_R_readTable 31 = .ok (.istore_n 3, 1) := by decide +kernel
theorem d_R_readTable_32 : decode b_R_readTable 32 = .ok (.iload_n 2, 1) := by decide +kernel
theorem d_R_readTable_33 : decode b_R_readTable 33 = .ok (.ifCond .eq 47, 3) := by decide +kernel
theorem d_R_readTable_36 : decode b_R_readTable 36 = .ok (.iload_n 3, 1) := by decide +kernel
theorem d_R_readTable_37 : decode b_R_readTable 37 = .ok (.bipush 8, 2) := by decide +kernel
theorem d_R_readTable_39 : decode b_R_readTable 39 = .ok (.if_icmp .ge 41, 3) := by decide +kernel
theorem d_R_readTable_42 : decode b_R_readTable 42 = .ok (.aload_n 0, 1) := by decide +kernel
theorem d_R_readTable_43 : decode b_R_readTable 43 = .ok (.invokevirtual 44, 3) := by decide +kernel
theorem d_R_readTable_46 : decode b_R_readTable 46 = .ok (.bipush 44, 2) := by decide +kernel
theorem d_R_readTable_48 : decode b_R_readTable 48 = .ok (.if_icmp .ne 32, 3) := by decide +kernel
theorem d_R_readTable_51 : decode b_R_readTable 51 = .ok (.aload_n 0, 1) := by decide +kernel
theorem d_R_readTable_52 : decode b_R_readTable 52 = .ok (.dup, 1) := by decide +kernel
theorem d_R_readTable_53 : decode b_R_readTable 53 = .ok (.getfield 19, 3) := by decide +kernel
theorem d_R_readTable_56 : decode b_R_readTable 56 = .ok (.iconst 1, 1) := by decide +kernel
theorem d_R_readTable_57 : decode b_R_readTable 57 = .ok (.iadd, 1) := by decide +kernel
theorem d_R_readTable_58 : decode b_R_readTable 58 = .ok (.putfield 19, 3) := by decide +kernel
theorem d_R_readTable_61 : decode b_R_readTable 61 = .ok (.aload_n 0, 1) := by decide +kernel
theorem d_R_readTable_62 : decode b_R_readTable 62 = .ok (.invokevirtual 52, 3) := by decide +kernel
theorem d_R_readTable_65 : decode b_R_readTable 65 = .ok (.istore_n 2, 1) := by decide +kernel
theorem d_R_readTable_66 : decode b_R_readTable 66 = .ok (.aload_n 1, 1) := by decide +kernel
theorem d_R_readTable_67 : decode b_R_readTable 67 = .ok (.aload_n 0, 1) := by decide +kernel
theorem d_R_readTable_68 : decode b_R_readTable 68 = .ok (.getfield 22, 3) := by decide +kernel
theorem d_R_readTable_71 : decode b_R_readTable 71 = .ok (.invokevirtual 56, 3) := by decide +kernel
theorem d_R_readTable_74 : decode b_R_readTable 74 = .ok (.iinc 3 1, 3) := by decide +kernel
theorem d_R_readTable_77 : decode b_R_readTable 77 = .ok (.goto (-45), 3) := by decide +kernel
theorem d_R_readTable_80 : decode b_R_readTable 80 = .ok (.iload_n 2, 1) := by decide +kernel
theorem d_R_readTable_81 : decode b_R_readTable 81 = .ok (.ifCond .eq 16, 3) := by decide +kernel
theorem d_R_readTable_84 : decode b_R_readTable 84 = .ok (.aload_n 0, 1) := by decide +kernel
theorem d_R_readTable_85 : decode b_R_readTable 85 = .ok (.bipush 93, 2) := by decide +kernel
theorem d_R_readTable_87 : decode b_R_readTable 87 = .ok (.invokevirtual 48, 3) := by decide +kernel
theorem d_R_readTable_90 : decode b_R_readTable 90 = .ok (.ifCond .eq 7, 3) := by decide +kernel
theorem d_R_readTable_93 : decode b_R_readTable 93 = .ok (.iconst 1, 1) := by decide +kernel
theorem d_R_readTable_94 : decode b_R_readTable 94 = .ok (.goto 4, 3) := by decide +kernel
theorem d_R_readTable_97 : decode b_R_readTable 97 = .ok (.iconst 0, 1) := by decide +kernel
theorem d_R_readTable_98 : decode b_R_readTable 98 = .ok (.ireturn, 1) := by decide +kernel
theorem d_R_take_0 : decode b_R_take 0 = .ok (.aload_n 0, 1) := by decide +kernel
theorem d_R_take_1 : decode b_R_take 1 = .ok (.invokevirtual 44, 3) := by decide +kernel
theorem d_R_take_4 : decode b_R_take 4 = .ok (.iload_n 1, 1) := by decide +kernel
theorem d_R_take_5 : decode b_R_take 5 = .ok (.if_icmp .ne 7, 3) := by decide +kernel
theorem d_R_take_8 : decode b_R_take 8 = .ok (.iconst 1, 1) := by decide +kernel
theorem d_R_take_9 : decode b_R_take 9 = .ok (.goto 4, 3) := by decide +kernel
theorem d_R_take_12 : decode b_R_take 12 = .ok (.iconst 0, 1) := by decide +kernel
theorem d_R_take_13 : decode b_R_take 13 = .ok (.istore_n 2, 1) := by decide +kernel
theorem d_R_take_14 : decode b_R_take 14 = .ok (.iload_n 2, 1) := by decide +kernel
theorem d_R_take_15 : decode b_R_take 15 = .ok (.ifCond .eq 13, 3) := by decide +kernel
theorem d_R_take_18 : decode b_R_take 18 = .ok (.aload_n 0, 1) := by decide +kernel
theorem d_R_take_19 : decode b_R_take 19 = .ok (.dup, 1) := by decide +kernel
theorem d_R_take_20 : decode b_R_take 20 = .ok (.getfield 19, 3) := by decide +kernel
theorem d_R_take_23 : decode b_R_take 23 = .ok (.iconst 1, 1) := by decide +kernel
theorem d_R_take_24 : decode b_R_take 24 = .ok (.iadd, 1) := by decide +kernel
theorem d_R_take_25 : decode b_R_take 25 = .ok (.putfield 19, 3) := by decide +kernel
theorem d_R_take_28 : decode b_R_take 28 = .ok (.iload_n 2, 1) := by decide +kernel
theorem d_R_take_29 : decode b_R_take 29 = .ok (.ireturn, 1) := by decide +kernel
theorem d_R_next_0 : decode b_R_next 0 = .ok (.aload_n 0, 1) := by decide +kernel
theorem d_R_next_1 : decode b_R_next 1 = .ok (.getfield 19, 3) := by decide +kernel
theorem d_R_next_4 : decode b_R_next 4 = .ok (.aload_n 0, 1) := by decide +kernel
theorem d_R_next_5 : decode b_R_next 5 = .ok (.getfield 15, 3) := by decide +kernel
theorem d_R_next_8 : decode b_R_next 8 = .ok (.if_icmp .ge 30, 3) := by decide +kernel
theorem d_R_next_11 : decode b_R_next 11 = .ok (.aload_n 0, 1) := by decide +kernel
theorem d_R_next_12 : decode b_R_next 12 = .ok (.getfield 9, 3) := by decide +kernel
theorem d_R_next_15 : decode b_R_next 15 = .ok (.aload_n 0, 1) := by decide +kernel
theorem d_R_next_16 : decode b_R_next 16 = .ok (.getfield 19, 3) := by decide +kernel
theorem d_R_next_19 : decode b_R_next 19 = .ok (.iaload, 1) := by decide +kernel
theorem d_R_next_20 : decode b_R_next 20 = .ok (.bipush 32, 2) := by decide +kernel
theorem d_R_next_22 : decode b_R_next 22 = .ok (.if_icmp .ne 16, 3) := by decide +kernel
theorem d_R_next_25 : decode b_R_next 25 = .ok (.aload_n 0, 1) := by decide +kernel
theorem d_R_next_26 : decode b_R_next 26 = .ok (.dup, 1) := by decide +kernel
theorem d_R_next_27 : decode b_R_next 27 = .ok (.getfield 19, 3) := by decide +kernel
theorem d_R_next_30 : decode b_R_next 30 = .ok (.iconst 1, 1) := by decide +kernel
theorem d_R_next_31 : decode b_R_next 31 = .ok (.iadd, 1) := by decide +kernel
theorem d_R_next_32 : decode b_R_next 32 = .ok (.putfield 19, 3) := by decide +kernel
theorem d_R_next_35 : decode b_R_next 35 = .ok (.goto (-35), 3) := by decide +kernel
theorem d_R_next_38 : decode b_R_next 38 = .ok (.aload_n 0, 1) := by decide +kernel
theorem d_R_next_39 : decode b_R_next 39 = .ok (.getfield 19, 3) := by decide +kernel
theorem d_R_next_42 : decode b_R_next 42 = .ok (.aload_n 0, 1) := by decide +kernel
theorem d_R_next_43 : decode b_R_next 43 = .ok (.getfield 15, 3) := by decide +kernel
theorem d_R_next_46 : decode b_R_next 46 = .ok (.if_icmp .ge 15, 3) := by decide +kernel
theorem d_R_next_49 : decode b_R_next 49 = .ok (.aload_n 0, 1) := by decide +kernel
theorem d_R_next_50 : decode b_R_next 50 = .ok (.getfield 9, 3) := by decide +kernel
theorem d_R_next_53 : decode b_R_next 53 = .ok (.aload_n 0, 1) := by decide +kernel
theorem d_R_next_54 : decode b_R_next 54 = .ok (.getfield 19, 3) := by decide +kernel
theorem d_R_next_57 : decode b_R_next 57 = .ok (.iaload, 1) := by decide +kernel
theorem d_R_next_58 : decode b_R_next 58 = .ok (.goto 4, 3) := by decide +kernel
theorem d_R_next_61 : decode b_R_next 61 = .ok (.iconst (-1), 1) := by decide +kernel
theorem d_R_next_62 : decode b_R_next 62 = .ok (.ireturn, 1) := by decide +kernel
theorem d_R_readNumber_0 : decode b_R_readNumber 0 = .ok (.aload_n 0, 1) := by decide +kernel
theorem d_R_readNumber_1 : decode b_R_readNumber 1 = .ok (.invokevirtual 44, 3) := by decide +kernel
theorem d_R_readNumber_4 : decode b_R_readNumber 4 = .ok (.istore_n 1, 1) := by decide +kernel
theorem d_R_readNumber_5 : decode b_R_readNumber 5 = .ok (.iload_n 1, 1) := by decide +kernel
theorem d_R_readNumber_6 : decode b_R_readNumber 6 = .ok (.invokestatic 78, 3) := by decide +kernel
theorem d_R_readNumber_9 : decode b_R_readNumber 9 = .ok (.ifCond .ne 5, 3) := by decide +kernel
theorem d_R_readNumber_12 : decode b_R_readNumber 12 = .ok (.iconst 0, 1) := by decide +kernel
theorem d_R_readNumber_13 : decode b_R_readNumber 13 = .ok (.ireturn, 1) := by decide +kernel
theorem d_R_readNumber_14 : decode b_R_readNumber 14 = .ok (.aload_n 0, 1) := by decide +kernel
theorem d_R_readNumber_15 : decode b_R_readNumber 15 = .ok (.iload_n 1, 1) := by decide +kernel
theorem d_R_readNumber_16 : decode b_R_readNumber 16 = .ok (.bipush 48, 2) := by decide +kernel
theorem d_R_readNumber_18 : decode b_R_readNumber 18 = .ok (.isub, 1) := by decide +kernel
theorem d_R_readNumber_19 : decode b_R_readNumber 19 = .ok (.putfield 22, 3) := by decide +kernel
theorem d_R_readNumber_22 : decode b_R_readNumber 22 = .ok (.aload_n 0, 1) := by decide +kernel
theorem d_R_readNumber_23 : decode b_R_readNumber 23 = .ok (.dup, 1) := by decide +kernel
theorem d_R_readNumber_24 : decode b_R_readNumber 24 = .ok (.getfield 19, 3) := by decide +kernel
theorem d_R_readNumber_27 : decode b_R_readNumber 27 = .ok (.iconst 1, 1) := by decide +kernel
theorem d_R_readNumber_28 : decode b_R_readNumber 28 = .ok (.iadd, 1) := by decide +kernel
theorem d_R_readNumber_29 : decode b_R_readNumber 29 = .ok (.putfield 19, 3) := by decide +kernel
theorem d_R_readNumber_32 : decode b_R_readNumber 32 = .ok (.iconst 1, 1) := by decide +kernel
theorem d_R_readNumber_33 : decode b_R_readNumber 33 = .ok (.istore_n 2, 1) := by decide +kernel
theorem d_R_readNumber_34 : decode b_R_readNumber 34 = .ok (.iload_n 2, 1) := by decide +kernel
theorem d_R_readNumber_35 : decode b_R_readNumber 35 = .ok (.iconst 4, 1) := by decide +kernel
theorem d_R_readNumber_36 : decode b_R_readNumber 36 = .ok (.if_icmp .ge 55, 3) := by decide +kernel
theorem d_R_readNumber_39 : decode b_R_readNumber 39 = .ok (.aload_n 0, 1) := by decide +kernel
theorem d_R_readNumber_40 : decode b_R_readNumber 40 = .ok (.getfield 22, 3) := by decide +kernel
theorem d_R_readNumber_43 : decode b_R_readNumber 43 = .ok (.ifCond .eq 48, 3) := by decide +kernel
theorem d_R_readNumber_46 : decode b_R_readNumber 46 = .ok (.aload_n 0, 1) := by decide +kernel
theorem d_R_readNumber_47 : decode b_R_readNumber 47 = .ok (.invokevirtual 96, 3) := by decide +kernel
theorem d_R_readNumber_50 : decode b_R_readNumber 50 = .ok (.invokestatic 78, 3) := by decide +kernel
theorem d_R_readNumber_53 : decode b_R_readNumber 53 = .ok (.ifCond .eq 38, 3) := by decide +kernel
theorem d_R_readNumber_56 : decode b_R_readNumber 56 = .ok (.aload_n 0, 1) := by decide +kernel
theorem d_R_readNumber_57 : decode b_R_readNumber 57 = .ok (.aload_n 0, 1) := by decide +kernel
theorem d_R_readNumber_58 : decode b_R_readNumber 58 = .ok (.getfield 22, 3) := by decide +kernel
theorem d_R_readNumber_61 : decode b_R_readNumber 61 = .ok (.bipush 10, 2) := by decide +kernel
theorem d_R_readNumber_63 : decode b_R_readNumber 63 = .ok (.imul, 1) := by decide +kernel
theorem d_R_readNumber_64 : decode b_R_readNumber 64 = .ok (.aload_n 0, 1) := by decide +kernel
theorem d_R_readNumber_65 : decode b_R_readNumber 65 = .ok (.invokevirtual 96, 3) := by decide +kernel
theorem d_R_readNumber_68 : decode b_R_readNumber 68 = .ok (.iadd, 1) := by decide +kernel
theorem d_R_readNumber_69 : decode b_R_readNumber 69 = .ok (.bipush 48, 2) := by decide +kernel
theorem d_R_readNumber_71 : decode b_R_readNumber 71 = .ok (.isub, 1) := by decide +kernel
theorem d_R_readNumber_72 : decode b_R_readNumber 72 = .ok (.putfield 22, 3) := by decide +kernel
theorem d_R_readNumber_75 : decode b_R_readNumber 75 = .ok (.aload_n 0, 1) := by decide +kernel
theorem d_R_readNumber_76 : decode b_R_readNumber 76 = .ok (.dup, 1) := by decide +kernel
theorem d_R_readNumber_77 : decode b_R_readNumber 77 = .ok (.getfield 19, 3) := by decide +kernel
theorem d_R_readNumber_80 : decode b_R_readNumber 80 = .ok (.iconst 1, 1) := by decide +kernel
theorem d_R_readNumber_81 : decode b_R_readNumber 81 = .ok (.iadd, 1) := by decide +kernel
theorem d_R_readNumber_82 : decode b_R_readNumber 82 = .ok (.putfield 19, 3) := by decide +kernel
theorem d_R_readNumber_85 : decode b_R_readNumber 85 = .ok (.iinc 2 1, 3) := by decide +kernel
theorem d_R_readNumber_88 : decode b_R_readNumber 88 = .ok (.goto (-54), 3) := by decide +kernel
theorem d_R_readNumber_91 : decode b_R_readNumber 91 = .ok (.aload_n 0, 1) := by decide +kernel
theorem d_R_readNumber_92 : decode b_R_readNumber 92 = .ok (.invokevirtual 96, 3) := by decide +kernel
theorem d_R_readNumber_95 : decode b_R_readNumber 95 = .ok (.invokestatic 78, 3) := by decide +kernel
theorem d_R_readNumber_98 : decode b_R_readNumber 98 = .ok (.ifCond .ne 7, 3) := by decide +kernel
theorem d_R_readNumber_101 : decode b_R_readNumber 101 = .ok (.iconst 1, 1) := by decide +kernel
theorem d_R_readNumber_102 : decode b_R_readNumber 102 = .ok (.goto 4, 3) := by decide +kernel
theorem d_R_readNumber_105 : decode b_R_readNumber 105 = .ok (.iconst 0, 1) := by decide +kernel
theorem d_R_readNumber_106 : decode b_R_readNumber 106 = .ok (.ireturn, 1) := by decide +kernel
theorem d_R_isDigit_0 : decode b_R_isDigit 0 = .ok (.iload_n 0, 1) := by decide +kernel
theorem d_R_isDigit_1 : decode b_R_isDigit 1 = .ok (.bipush 48, 2) := by decide +kernel
theorem d_R_isDigit_3 : decode b_R_isDigit 3 = .ok (.if_icmp .lt 13, 3) := by decide +kernel
theorem d_R_isDigit_6 : decode b_R_isDigit 6 = .ok (.iload_n 0, 1) := by decide +kernel
theorem d_R_isDigit_7 : decode b_R_isDigit 7 = .ok (.bipush 57, 2) := by decide +kernel
theorem d_R_isDigit_9 : decode b_R_isDigit 9 = .ok (.if_icmp .gt 7, 3) := by decide +kernel
theorem d_R_isDigit_12 : decode b_R_isDigit 12 = .ok (.iconst 1, 1) := by decide +kernel
theorem d_R_isDigit_13 : decode b_R_isDigit 13 = .ok (.goto 4, 3) := by decide +kernel
theorem d_R_isDigit_16 : decode b_R_isDigit 16 = .ok (.iconst 0, 1) := by decide +kernel
theorem d_R_isDigit_17 : decode b_R_isDigit 17 = .ok (.ireturn, 1) := by decide +kernel
theorem d_R_here_0 : decode b_R_here 0 = .ok (.aload_n 0, 1) := by decide +kernel
theorem d_R_here_1 : decode b_R_here 1 = .ok (.getfield 19, 3) := by decide +kernel
theorem d_R_here_4 : decode b_R_here 4 = .ok (.aload_n 0, 1) := by decide +kernel
theorem d_R_here_5 : decode b_R_here 5 = .ok (.getfield 15, 3) := by decide +kernel
theorem d_R_here_8 : decode b_R_here 8 = .ok (.if_icmp .ge 15, 3) := by decide +kernel
theorem d_R_here_11 : decode b_R_here 11 = .ok (.aload_n 0, 1) := by decide +kernel
theorem d_R_here_12 : decode b_R_here 12 = .ok (.getfield 9, 3) := by decide +kernel
theorem d_R_here_15 : decode b_R_here 15 = .ok (.aload_n 0, 1) := by decide +kernel
theorem d_R_here_16 : decode b_R_here 16 = .ok (.getfield 19, 3) := by decide +kernel
theorem d_R_here_19 : decode b_R_here 19 = .ok (.iaload, 1) := by decide +kernel
theorem d_R_here_20 : decode b_R_here 20 = .ok (.goto 4, 3) := by decide +kernel
theorem d_R_here_23 : decode b_R_here 23 = .ok (.iconst (-1), 1) := by decide +kernel
theorem d_R_here_24 : decode b_R_here 24 = .ok (.ireturn, 1) := by decide +kernel
theorem d_R_readRule_0 : decode b_R_readRule 0 = .ok (.aload_n 0, 1) := by decide +kernel
theorem d_R_readRule_1 : decode b_R_readRule 1 = .ok (.invokevirtual 44, 3) := by decide +kernel
theorem d_R_readRule_4 : decode b_R_readRule 4 = .ok (.bipush 97, 2) := by decide +kernel
theorem d_R_readRule_6 : decode b_R_readRule 6 = .ok (.isub, 1) := by decide +kernel
theorem d_R_readRule_7 : decode b_R_readRule 7 = .ok (.istore_n 2, 1) := by decide +kernel
theorem d_R_readRule_8 : decode b_R_readRule 8 = .ok (.iload_n 2, 1) := by decide +kernel
theorem d_R_readRule_9 : decode b_R_readRule 9 = .ok (.invokestatic 60, 3) := by decide +kernel
theorem d_R_readRule_12 : decode b_R_readRule 12 = .ok (.ifCond .eq 12, 3) := by decide +kernel
theorem d_R_readRule_15 : decode b_R_readRule 15 = .ok (.aload_n 1, 1) := by decide +kernel
theorem d_R_readRule_16 : decode b_R_readRule 16 = .ok (.getfield 63, 3) := by decide +kernel
theorem d_R_readRule_19 : decode b_R_readRule 19 = .ok (.iload_n 2, 1) := by decide +kernel
theorem d_R_readRule_20 : decode b_R_readRule 20 = .ok (.aaload, 1) := by decide +kernel
theorem d_R_readRule_21 : decode b_R_readRule 21 = .ok (.ifnull 5, 3) := by decide +kernel
theorem d_R_readRule_24 : decode b_R_readRule 24 = .ok (.iconst 0, 1) := by decide +kernel
theorem d_R_readRule_25 : decode b_R_readRule 25 = .ok (.ireturn, 1) := by decide +kernel
theorem d_R_readRule_26 : decode b_R_readRule 26 = .ok (.aload_n 0, 1) := by decide +kernel
theorem d_R_readRule_27 : decode b_R_readRule 27 = .ok (.dup, 1) := by decide +kernel
theorem d_R_readRule_28 : decode b_R_readRule 28 = .ok (.getfield 19, 3) := by decide +kernel
theorem d_R_readRule_31 : decode b_R_readRule 31 = .ok (.iconst 1, 1) := by decide +kernel
theorem d_R_readRule_32 : decode b_R_readRule 32 = .ok (.iadd, 1) := by decide +kernel
theorem d_R_readRule_33 : decode b_R_readRule 33 = .ok (.putfield 19, 3) := by decide +kernel
theorem d_R_readRule_36 : decode b_R_readRule 36 = .ok (.aload_n 0, 1) := by decide +kernel
theorem d_R_readRule_37 : decode b_R_readRule 37 = .ok (.aconst_null, 1) := by decide +kernel
theorem d_R_readRule_38 : decode b_R_readRule 38 = .ok (.putfield 25, 3) := by decide +kernel
theorem d_R_readRule_41 : decode b_R_readRule 41 = .ok (.aload_n 0, 1) := by decide +kernel
theorem d_R_readRule_42 : decode b_R_readRule 42 = .ok (.aconst_null, 1) := by decide +kernel
theorem d_R_readRule_43 : decode b_R_readRule 43 = .ok (.putfield 29, 3) := by decide +kernel
theorem d_R_readRule_46 : decode b_R_readRule 46 = .ok (.aload_n 0, 1) := by decide +kernel
theorem d_R_readRule_47 : decode b_R_readRule 47 = .ok (.bipush 61, 2) := by decide +kernel
theorem d_R_readRule_49 : decode b_R_readRule 49 = .ok (.invokevirtual 48, 3) := by decide +kernel
theorem d_R_readRule_52 : decode b_R_readRule 52 = .ok (.ifCond .eq 11, 3) := by decide +kernel
theorem d_R_readRule_55 : decode b_R_readRule 55 = .ok (.aload_n 0, 1) := by decide +kernel
theorem d_R_readRule_56 : decode b_R_readRule 56 = .ok (.aload_n 1, 1) := by decide +kernel
theorem d_R_readRule_57 : decode b_R_readRule 57 = .ok (.invokevirtual 67, 3) := by decide +kernel
theorem d_R_readRule_60 : decode b_R_readRule 60 = .ok (.ifCond .ne 5, 3) := by decide +kernel
theorem d_R_readRule_63 : decode b_R_readRule 63 = .ok (.iconst 0, 1) := by decide +kernel
theorem d_R_readRule_64 : decode b_R_readRule 64 = .ok (.ireturn, 1) := by decide +kernel
theorem d_R_readRule_65 : decode b_R_readRule 65 = .ok (.aload_n 1, 1) := by decide +kernel
theorem d_R_readRule_66 : decode b_R_readRule 66 = .ok (.iload_n 2, 1) := by decide +kernel
theorem d_R_readRule_67 : decode b_R_readRule 67 = .ok (.aload_n 0, 1) := by decide +kernel
theorem d_R_readRule_68 : decode b_R_readRule 68 = .ok (.getfield 25, 3) := by decide +kernel
theorem d_R_readRule_71 : decode b_R_readRule 71 = .ok (.invokevirtual 70, 3) := by decide +kernel
theorem d_R_readRule_74 : decode b_R_readRule 74 = .ok (.aload_n 0, 1) := by decide +kernel
theorem d_R_readRule_75 : decode b_R_readRule 75 = .ok (.bipush 59, 2) := by decide +kernel
theorem d_R_readRule_77 : decode b_R_readRule 77 = .ok (.invokevirtual 48, 3) := by decide +kernel
theorem d_R_readRule_80 : decode b_R_readRule 80 = .ok (.ireturn, 1) := by decide +kernel
theorem d_R_readSum_0 : decode b_R_readSum 0 = .ok (.iconst 1, 1) := by decide +kernel
theorem d_R_readSum_1 : decode b_R_readSum 1 = .ok (.istore_n 2, 1) := by decide +kernel
theorem d_R_readSum_2 : decode b_R_readSum 2 = .ok (.iconst 1, 1) := by decide +kernel
theorem d_R_readSum_3 : decode b_R_readSum 3 = .ok (.istore_n 3, 1) := by decide +kernel
theorem d_R_readSum_4 : decode b_R_readSum 4 = .ok (.aload_n 0, 1) := by decide +kernel
theorem d_R_readSum_5 : decode b_R_readSum 5 = .ok (.aload_n 1, 1) := by decide +kernel
theorem d_R_readSum_6 : decode b_R_readSum 6 = .ok (.bipush 43, 2) := by decide +kernel
theorem d_R_readSum_8 : decode b_R_readSum 8 = .ok (.invokevirtual 74, 3) := by decide +kernel
theorem d_R_readSum_11 : decode b_R_readSum 11 = .ok (.istore 4, 2) := by decide +kernel
theorem d_R_readSum_13 : decode b_R_readSum 13 = .ok (.iconst 1, 1) := by decide +kernel
theorem d_R_readSum_14 : decode b_R_readSum 14 = .ok (.istore 5, 2) := by decide +kernel
theorem d_R_readSum_16 : decode b_R_readSum 16 = .ok (.iload 4, 2) := by decide +kernel
theorem d_R_readSum_18 : decode b_R_readSum 18 = .ok (.ifCond .eq 95, 3) := by decide +kernel
theorem d_R_readSum_21 : decode b_R_readSum 21 = .ok (.iload 5, 2) := by decide +kernel
theorem d_R_readSum_23 : decode b_R_readSum 23 = .ok (.bipush 15, 2) := by decide +kernel
theorem d_R_readSum_25 : decode b_R_readSum 25 = .ok (.if_icmp .ge 88, 3) := by decide +kernel
theorem d_R_readSum_28 : decode b_R_readSum 28 = .ok (.aload_n 0, 1) := by decide +kernel
theorem d_R_readSum_29 : decode b_R_readSum 29 = .ok (.invokevirtual 44, 3) := by decide +kernel
theorem d_R_readSum_32 : decode b_R_readSum 32 = .ok (.istore 6, 2) := by decide +kernel
theorem d_R_readSum_34 : decode b_R_readSum 34 = .ok (.iload 6, 2) := by decide +kernel
theorem d_R_readSum_36 : decode b_R_readSum 36 = .ok (.bipush 42, 2) := by decide +kernel
theorem d_R_readSum_38 : decode b_R_readSum 38 = .ok (.if_icmp .eq 10, 3) := by decide +kernel
theorem d_R_readSum_41 : decode b_R_readSum 41 = .ok (.iload 6, 2) := by decide +kernel
theorem d_R_readSum_43 : decode b_R_readSum 43 = .ok (.bipush 47, 2) := by decide +kernel
theorem d_R_readSum_45 : decode b_R_readSum 45 = .ok (.if_icmp .ne 14, 3) := by decide +kernel
theorem d_R_readSum_48 : decode b_R_readSum 48 = .ok (.iload_n 3, 1) := by decide +kernel
theorem d_R_readSum_49 : decode b_R_readSum 49 = .ok (.iconst 3, 1) := by decide +kernel
theorem d_R_readSum_50 : decode b_R_readSum 50 = .ok (.if_icmp .ge 9, 3) := by decide +kernel
theorem d_R_readSum_53 : decode b_R_readSum 53 = .ok (.iinc 3 1, 3) := by decide +kernel
theorem d_R_readSum_56 : decode b_R_readSum 56 = .ok (.goto 32, 3) := by decide +kernel
theorem d_R_readSum_59 : decode b_R_readSum 59 = .ok (.iload 6, 2) := by decide +kernel
theorem d_R_readSum_61 : decode b_R_readSum 61 = .ok (.bipush 43, 2) := by decide +kernel
theorem d_R_readSum_63 : decode b_R_readSum 63 = .ok (.if_icmp .eq 10, 3) := by decide +kernel
theorem d_R_readSum_66 : decode b_R_readSum 66 = .ok (.iload 6, 2) := by decide +kernel
theorem d_R_readSum_68 : decode b_R_readSum 68 = .ok (.bipush 45, 2) := by decide +kernel
theorem d_R_readSum_70 : decode b_R_readSum 70 = .ok (.if_icmp .ne 16, 3) := by decide +kernel
theorem d_R_readSum_73 : decode b_R_readSum 73 = .ok (.iload_n 2, 1) := by decide +kernel
theorem d_R_readSum_74 : decode b_R_readSum 74 = .ok (.iconst 5, 1) := by decide +kernel
theorem d_R_readSum_75 : decode b_R_readSum 75 = .ok (.if_icmp .ge 11, 3) := by decide +kernel
theorem d_R_readSum_78 : decode b_R_readSum 78 = .ok (.iinc 2 1, 3) := by decide +kernel
theorem d_R_readSum_81 : decode b_R_readSum 81 = .ok (.iconst 1, 1) := by decide +kernel
theorem d_R_readSum_82 : decode b_R_readSum 82 = .ok (.istore_n 3, 1) := by decide +kernel
theorem d_R_readSum_83 : decode b_R_readSum 83 = .ok (.goto 5, 3) := by decide +kernel
theorem d_R_readSum_86 : decode b_R_readSum 86 = .ok (.iconst 1, 1) := by decide +kernel
theorem d_R_readSum_87 : decode b_R_readSum 87 = .ok (.ireturn, 1) := by decide +kernel
theorem d_R_readSum_88 : decode b_R_readSum 88 = .ok (.aload_n 0, 1) := by decide +kernel
theorem d_R_readSum_89 : decode b_R_readSum 89 = .ok (.dup, 1) := by decide +kernel
theorem d_R_readSum_90 : decode b_R_readSum 90 = .ok (.getfield 19, 3) := by decide +kernel
theorem d_R_readSum_93 : decode b_R_readSum 93 = .ok (.iconst 1, 1) := by decide +kernel
theorem d_R_readSum_94 : decode b_R_readSum 94 = .ok (.iadd, 1) := by decide +kernel
theorem d_R_readSum_95 : decode b_R_readSum 95 = .ok (.putfield 19, 3) := by decide +kernel
theorem d_R_readSum_98 : decode b_R_readSum 98 = .ok (.aload_n 0, 1) := by decide +kernel
theorem d_R_readSum_99 : decode b_R_readSum 99 = .ok (.aload_n 1, 1) := by decide +kernel
theorem d_R_readSum_100 : decode b_R_readSum 100 = .ok (.iload 6, 2) := by decide +kernel
theorem d_R_readSum_102 : decode b_R_readSum 102 = .ok (.invokevirtual 74, 3) := by decide +kernel
theorem d_R_readSum_105 : decode b_R_readSum 105 = .ok (.istore 4, 2) := by decide +kernel
theorem d_R_readSum_107 : decode b_R_readSum 107 = .ok (.iinc 5 1, 3) := by decide +kernel
theorem d_R_readSum_110 : decode b_R_readSum 110 = .ok (.goto (-94), 3) := by decide +kernel
theorem d_R_readSum_113 : decode b_R_readSum 113 = .ok (.iload 4, 2) := by decide +kernel
theorem d_R_readSum_115 : decode b_R_readSum 115 = .ok (.ireturn, 1) := by decide +kernel
theorem d_R_readFactor_0 : decode b_R_readFactor 0 = .ok (.aload_n 0, 1) := by decide +kernel
theorem d_R_readFactor_1 : decode b_R_readFactor 1 = .ok (.bipush 107, 2) := by decide +kernel
theorem d_R_readFactor_3 : decode b_R_readFactor 3 = .ok (.invokevirtual 48, 3) := by decide +kernel
theorem d_R_readFactor_6 : decode b_R_readFactor 6 = .ok (.istore_n 3, 1) := by decide +kernel
theorem d_R_readFactor_7 : decode b_R_readFactor 7 = .ok (.aload_n 0, 1) := by decide +kernel
theorem d_R_readFactor_8 : decode b_R_readFactor 8 = .ok (.invokevirtual 44, 3) := by decide +kernel
theorem d_R_readFactor_11 : decode b_R_readFactor 11 = .ok (.istore 4, 2) := by decide +kernel
theorem d_R_readFactor_13 : decode b_R_readFactor 13 = .ok (.iload 4, 2) := by decide +kernel
theorem d_R_readFactor_15 : decode b_R_readFactor 15 = .ok (.invokestatic 78, 3) := by decide +kernel
theorem d_R_readFactor_18 : decode b_R_readFactor 18 = .ok (.ifCond .eq 30, 3) := by decide +kernel
theorem d_R_readFactor_21 : decode b_R_readFactor 21 = .ok (.aload_n 0, 1) := by decide +kernel
theorem d_R_readFactor_22 : decode b_R_readFactor 22 = .ok (.invokevirtual 52, 3) := by decide +kernel
theorem d_R_readFactor_25 : decode b_R_readFactor 25 = .ok (.istore 5, 2) := by decide +kernel
theorem d_R_readFactor_27 : decode b_R_readFactor 27 = .ok (.aload_n 0, 1) := by decide +kernel
theorem d_R_readFactor_28 : decode b_R_readFactor 28 = .ok (.new 81, 3) := by decide +kernel
theorem d_R_readFactor_31 : decode b_R_readFactor 31 = .ok (.dup, 1) := by decide +kernel
theorem d_R_readFactor_32 : decode b_R_readFactor 32 = .ok (.iload_n 2, 1) := by decide +kernel
theorem d_R_readFactor_33 : decode b_R_readFactor 33 = .ok (.iload_n 3, 1) := by decide +kernel
theorem d_R_readFactor_34 : decode b_R_readFactor 34 = .ok (.iconst 0, 1) := by decide +kernel
theorem d_R_readFactor_35 : decode b_R_readFactor 35 = .ok (.aload_n 0, 1) := by decide +kernel
theorem d_R_readFactor_36 : decode b_R_readFactor 36 = .ok (.getfield 22, 3) := by decide +kernel
theorem d_R_readFactor_39 : decode b_R_readFactor 39 = .ok (.invokespecial 83, 3) := by decide +kernel
theorem d_R_readFactor_42 : decode b_R_readFactor 42 = .ok (.invokevirtual 86, 3) := by decide +kernel
theorem d_R_readFactor_45 : decode b_R_readFactor 45 = .ok (.iload 5, 2) := by decide +kernel
theorem d_R_readFactor_47 : decode b_R_readFactor 47 = .ok (.ireturn, 1) := by decide +kernel
theorem d_R_readFactor_48 : decode b_R_readFactor 48 = .ok (.iload 4, 2) := by decide +kernel
theorem d_R_readFactor_50 : decode b_R_readFactor 50 = .ok (.invokestatic 90, 3) := by decide +kernel
theorem d_R_readFactor_53 : decode b_R_readFactor 53 = .ok (.istore 5, 2) := by decide +kernel
theorem d_R_readFactor_55 : decode b_R_readFactor 55 = .ok (.iload 5, 2) := by decide +kernel
theorem d_R_readFactor_57 : decode b_R_readFactor 57 = .ok (.iconst (-1), 1) := by decide +kernel
theorem d_R_readFactor_58 : decode b_R_readFactor 58 = .ok (.if_icmp .eq 31, 3) := by decide +kernel
theorem d_R_readFactor_61 : decode b_R_readFactor 61 = .ok (.aload_n 0, 1) := by decide +kernel
theorem d_R_readFactor_62 : decode b_R_readFactor 62 = .ok (.dup, 1) := by decide +kernel
theorem d_R_readFactor_63 : decode b_R_readFactor 63 = .ok (.getfield 19, 3) := by decide +kernel
theorem d_R_readFactor_66 : decode b_R_readFactor 66 = .ok (.iconst 1, 1) := by decide +kernel
theorem d_R_readFactor_67 : decode b_R_readFactor 67 = .ok (.iadd, 1) := by decide +kernel
theorem d_R_readFactor_68 : decode b_R_readFactor 68 = .ok (.putfield 19, 3) := by decide +kernel
theorem d_R_readFactor_71 : decode b_R_readFactor 71 = .ok (.aload_n 0, 1) := by decide +kernel
theorem d_R_readFactor_72 : decode b_R_readFactor 72 = .ok (.new 81, 3) := by decide +kernel
theorem d_R_readFactor_75 : decode b_R_readFactor 75 = .ok (.dup, 1) := by decide +kernel
theorem d_R_readFactor_76 : decode b_R_readFactor 76 = .ok (.iload_n 2, 1) := by decide +kernel
theorem d_R_readFactor_77 : decode b_R_readFactor 77 = .ok (.iload_n 3, 1) := by decide +kernel
theorem d_R_readFactor_78 : decode b_R_readFactor 78 = .ok (.iconst 1, 1) := by decide +kernel
theorem d_R_readFactor_79 : decode b_R_readFactor 79 = .ok (.iload 5, 2) := by decide +kernel
theorem d_R_readFactor_81 : decode b_R_readFactor 81 = .ok (.invokespecial 83, 3) := by decide +kernel
theorem d_R_readFactor_84 : decode b_R_readFactor 84 = .ok (.invokevirtual 86, 3) := by decide +kernel
theorem d_R_readFactor_87 : decode b_R_readFactor 87 = .ok (.iconst 1, 1) := by decide +kernel
theorem d_R_readFactor_88 : decode b_R_readFactor 88 = .ok (.ireturn, 1) := by decide +kernel
theorem d_R_readFactor_89 : decode b_R_readFactor 89 = .ok (.iload 4, 2) := by decide +kernel
theorem d_R_readFactor_91 : decode b_R_readFactor 91 = .ok (.bipush 97, 2) := by decide +kernel
theorem d_R_readFactor_93 : decode b_R_readFactor 93 = .ok (.isub, 1) := by decide +kernel
theorem d_R_readFactor_94 : decode b_R_readFactor 94 = .ok (.istore 6, 2) := by decide +kernel
theorem d_R_readFactor_96 : decode b_R_readFactor 96 = .ok (.iload 6, 2) := by decide +kernel
theorem d_R_readFactor_98 : decode b_R_readFactor 98 = .ok (.invokestatic 60, 3) := by decide +kernel
theorem d_R_readFactor_101 : decode b_R_readFactor 101 = .ok (.ifCond .eq 13, 3) := by decide +kernel
theorem d_R_readFactor_104 : decode b_R_readFactor 104 = .ok (.aload_n 1, 1) := by decide +kernel
theorem d_R_readFactor_105 : decode b_R_readFactor 105 = .ok (.getfield 63, 3) := by decide +kernel
theorem d_R_readFactor_108 : decode b_R_readFactor 108 = .ok (.iload 6, 2) := by decide +kernel
theorem d_R_readFactor_110 : decode b_R_readFactor 110 = .ok (.aaload, 1) := by decide +kernel
theorem d_R_readFactor_111 : decode b_R_readFactor 111 = .ok (.ifnonnull 5, 3) := by decide +kernel
theorem d_R_readFactor_114 : decode b_R_readFactor 114 = .ok (.iconst 0, 1) := by decide +kernel
theorem d_R_readFactor_115 : decode b_R_readFactor 115 = .ok (.ireturn, 1) := by decide +kernel
theorem d_R_readFactor_116 : decode b_R_readFactor 116 = .ok (.aload_n 0, 1) := by decide +kernel
theorem d_R_readFactor_117 : decode b_R_readFactor 117 = .ok (.dup, 1) := by decide +kernel
theorem d_R_readFactor_118 : decode b_R_readFactor 118 = .ok (.getfield 19, 3) := by decide +kernel
theorem d_R_readFactor_121 : decode b_R_readFactor 121 = .ok (.iconst 1, 1) := by decide +kernel
theorem d_R_readFactor_122 : decode b_R_readFactor 122 = .ok (.iadd, 1) := by decide +kernel
theorem d_R_readFactor_123 : decode b_R_readFactor 123 = .ok (.putfield 19, 3) := by decide +kernel
theorem d_R_readFactor_126 : decode b_R_readFactor 126 = .ok (.aload_n 0, 1) := by decide +kernel
theorem d_R_readFactor_127 : decode b_R_readFactor 127 = .ok (.new 81, 3) := by decide +kernel
theorem d_R_readFactor_130 : decode b_R_readFactor 130 = .ok (.dup, 1) := by decide +kernel
theorem d_R_readFactor_131 : decode b_R_readFactor 131 = .ok (.iload_n 2, 1) := by decide +kernel
theorem d_R_readFactor_132 : decode b_R_readFactor 132 = .ok (.iload_n 3, 1) := by decide +kernel
theorem d_R_readFactor_133 : decode b_R_readFactor 133 = .ok (.iconst 2, 1) := by decide +kernel
theorem d_R_readFactor_134 : decode b_R_readFactor 134 = .ok (.iload 6, 2) := by decide +kernel
theorem d_R_readFactor_136 : decode b_R_readFactor 136 = .ok (.invokespecial 83, 3) := by decide +kernel
theorem d_R_readFactor_139 : decode b_R_readFactor 139 = .ok (.invokevirtual 86, 3) := by decide +kernel
theorem d_R_readFactor_142 : decode b_R_readFactor 142 = .ok (.iconst 1, 1) := by decide +kernel
theorem d_R_readFactor_143 : decode b_R_readFactor 143 = .ok (.ireturn, 1) := by decide +kernel
theorem d_R_addPart_0 : decode b_R_addPart 0 = .ok (.aload_n 0, 1) := by decide +kernel
theorem d_R_addPart_1 : decode b_R_addPart 1 = .ok (.getfield 29, 3) := by decide +kernel
theorem d_R_addPart_4 : decode b_R_addPart 4 = .ok (.ifnonnull 11, 3) := by decide +kernel
theorem d_R_addPart_7 : decode b_R_addPart 7 = .ok (.aload_n 0, 1) := by decide +kernel
theorem d_R_addPart_8 : decode b_R_addPart 8 = .ok (.aload_n 1, 1) := by decide +kernel
theorem d_R_addPart_9 : decode b_R_addPart 9 = .ok (.putfield 25, 3) := by decide +kernel
theorem d_R_addPart_12 : decode b_R_addPart 12 = .ok (.goto 11, 3) := by decide +kernel
theorem d_R_addPart_15 : decode b_R_addPart 15 = .ok (.aload_n 0, 1) := by decide +kernel
theorem d_R_addPart_16 : decode b_R_addPart 16 = .ok (.getfield 29, 3) := by decide +kernel
theorem d_R_addPart_19 : decode b_R_addPart 19 = .ok (.aload_n 1, 1) := by decide +kernel
theorem d_R_addPart_20 : decode b_R_addPart 20 = .ok (.putfield 94, 3) := by decide +kernel
theorem d_R_addPart_23 : decode b_R_addPart 23 = .ok (.aload_n 0, 1) := by decide +kernel
theorem d_R_addPart_24 : decode b_R_addPart 24 = .ok (.aload_n 1, 1) := by decide +kernel
theorem d_R_addPart_25 : decode b_R_addPart 25 = .ok (.putfield 29, 3) := by decide +kernel
theorem d_R_addPart_28 : decode b_R_addPart 28 = .ok (.return_, 1) := by decide +kernel
theorem d_R_sizeOf_0 : decode b_R_sizeOf 0 = .ok (.iload_n 0, 1) := by decide +kernel
theorem d_R_sizeOf_1 : decode b_R_sizeOf 1 = .ok (.lookupswitch 51 #[(108, 47), (110, 49), (116, 45), (119, 43)], 43) := by decide +kernel
theorem d_R_sizeOf_44 : decode b_R_sizeOf 44 = .ok (.iconst 0, 1) := by decide +kernel
theorem d_R_sizeOf_45 : decode b_R_sizeOf 45 = .ok (.ireturn, 1) := by decide +kernel
theorem d_R_sizeOf_46 : decode b_R_sizeOf 46 = .ok (.iconst 1, 1) := by decide +kernel
theorem d_R_sizeOf_47 : decode b_R_sizeOf 47 = .ok (.ireturn, 1) := by decide +kernel
theorem d_R_sizeOf_48 : decode b_R_sizeOf 48 = .ok (.iconst 2, 1) := by decide +kernel
theorem d_R_sizeOf_49 : decode b_R_sizeOf 49 = .ok (.ireturn, 1) := by decide +kernel
theorem d_R_sizeOf_50 : decode b_R_sizeOf 50 = .ok (.iconst 3, 1) := by decide +kernel
theorem d_R_sizeOf_51 : decode b_R_sizeOf 51 = .ok (.ireturn, 1) := by decide +kernel
theorem d_R_sizeOf_52 : decode b_R_sizeOf 52 = .ok (.iconst (-1), 1) := by decide +kernel
theorem d_R_sizeOf_53 : decode b_R_sizeOf 53 = .ok (.ireturn, 1) := by decide +kernel
