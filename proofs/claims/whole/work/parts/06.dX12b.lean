theorem dX12_loose_86 : decode cX12_loose 86 = .ok (.bipush 16, 2) := by decide +kernel
theorem dX12_loose_88 : decode cX12_loose 88 = .ok (.irem, 1) := by decide +kernel
theorem dX12_loose_89 : decode cX12_loose 89 = .ok (.iastore, 1) := by decide +kernel
theorem dX12_loose_90 : decode cX12_loose 90 = .ok (.aload_n 0, 1) := by decide +kernel
theorem dX12_loose_91 : decode cX12_loose 91 = .ok (.invokevirtual 171, 3) := by decide +kernel
theorem dX12_loose_94 : decode cX12_loose 94 = .ok (.iinc 2 1, 3) := by decide +kernel
theorem dX12_loose_97 : decode cX12_loose 97 = .ok (.goto (-57), 3) := by decide +kernel
theorem dX12_loose_100 : decode cX12_loose 100 = .ok (.aload_n 0, 1) := by decide +kernel
theorem dX12_loose_101 : decode cX12_loose 101 = .ok (.getfield 7, 3) := by decide +kernel
theorem dX12_loose_104 : decode cX12_loose 104 = .ok (.iconst 4, 1) := by decide +kernel
theorem dX12_loose_105 : decode cX12_loose 105 = .ok (.iaload, 1) := by decide +kernel
theorem dX12_loose_106 : decode cX12_loose 106 = .ok (.ireturn, 1) := by decide +kernel
theorem dX12_behind_0 : decode cX12_behind 0 = .ok (.aload_n 0, 1) := by decide +kernel
theorem dX12_behind_1 : decode cX12_behind 1 = .ok (.iload_n 1, 1) := by decide +kernel
theorem dX12_behind_2 : decode cX12_behind 2 = .ok (.invokevirtual 214, 3) := by decide +kernel
theorem dX12_behind_5 : decode cX12_behind 5 = .ok (.aload_n 0, 1) := by decide +kernel
theorem dX12_behind_6 : decode cX12_behind 6 = .ok (.getfield 7, 3) := by decide +kernel
theorem dX12_behind_9 : decode cX12_behind 9 = .ok (.iload_n 2, 1) := by decide +kernel
theorem dX12_behind_10 : decode cX12_behind 10 = .ok (.iaload, 1) := by decide +kernel
theorem dX12_behind_11 : decode cX12_behind 11 = .ok (.istore_n 3, 1) := by decide +kernel
theorem dX12_behind_12 : decode cX12_behind 12 = .ok (.aload_n 0, 1) := by decide +kernel
theorem dX12_behind_13 : decode cX12_behind 13 = .ok (.invokevirtual 223, 3) := by decide +kernel
theorem dX12_behind_16 : decode cX12_behind 16 = .ok (.iload_n 3, 1) := by decide +kernel
theorem dX12_behind_17 : decode cX12_behind 17 = .ok (.ireturn, 1) := by decide +kernel
theorem dX12_where_0 : decode cX12_where 0 = .ok (.bipush 40, 2) := by decide +kernel
theorem dX12_where_2 : decode cX12_where 2 = .ok (.bipush 6, 2) := by decide +kernel
theorem dX12_where_4 : decode cX12_where 4 = .ok (.iload_n 0, 1) := by decide +kernel
theorem dX12_where_5 : decode cX12_where 5 = .ok (.imul, 1) := by decide +kernel
theorem dX12_where_6 : decode cX12_where 6 = .ok (.iadd, 1) := by decide +kernel
theorem dX12_where_7 : decode cX12_where 7 = .ok (.iload_n 1, 1) := by decide +kernel
theorem dX12_where_8 : decode cX12_where 8 = .ok (.iadd, 1) := by decide +kernel
theorem dX12_where_9 : decode cX12_where 9 = .ok (.ireturn, 1) := by decide +kernel
theorem dX12_then_0 : decode cX12_then 0 = .ok (.iload_n 1, 1) := by decide +kernel
theorem dX12_then_1 : decode cX12_then 1 = .ok (.i2l, 1) := by decide +kernel
theorem dX12_then_2 : decode cX12_then 2 = .ok (.lconst 0, 1) := by decide +kernel
theorem dX12_then_3 : decode cX12_then 3 = .ok (.ldc2_w 212, 3) := by decide +kernel
theorem dX12_then_6 : decode cX12_then 6 = .ok (.invokestatic 47, 3) := by decide +kernel
theorem dX12_then_9 : decode cX12_then 9 = .ok (.ifCond .eq 11, 3) := by decide +kernel
theorem dX12_then_12 : decode cX12_then 12 = .ok (.aload_n 0, 1) := by decide +kernel
theorem dX12_then_13 : decode cX12_then 13 = .ok (.iload_n 2, 1) := by decide +kernel
theorem dX12_then_14 : decode cX12_then 14 = .ok (.invokevirtual 199, 3) := by decide +kernel
theorem dX12_then_17 : decode cX12_then 17 = .ok (.ifCond .ne 9, 3) := by decide +kernel
theorem dX12_then_20 : decode cX12_then 20 = .ok (.aload_n 0, 1) := by decide +kernel
theorem dX12_then_21 : decode cX12_then 21 = .ok (.iconst 1, 1) := by decide +kernel
theorem dX12_then_22 : decode cX12_then 22 = .ok (.invokevirtual 126, 3) := by decide +kernel
theorem dX12_then_25 : decode cX12_then 25 = .ok (.ireturn, 1) := by decide +kernel
theorem dX12_then_26 : decode cX12_then 26 = .ok (.aload_n 0, 1) := by decide +kernel
theorem dX12_then_27 : decode cX12_then 27 = .ok (.invokevirtual 226, 3) := by decide +kernel
theorem dX12_then_30 : decode cX12_then 30 = .ok (.aload_n 0, 1) := by decide +kernel
theorem dX12_then_31 : decode cX12_then 31 = .ok (.iload_n 1, 1) := by decide +kernel
theorem dX12_then_32 : decode cX12_then 32 = .ok (.iload_n 2, 1) := by decide +kernel
theorem dX12_then_33 : decode cX12_then 33 = .ok (.iconst 4, 1) := by decide +kernel
theorem dX12_then_34 : decode cX12_then 34 = .ok (.invokestatic 229, 3) := by decide +kernel
theorem dX12_then_37 : decode cX12_then 37 = .ok (.invokevirtual 232, 3) := by decide +kernel
theorem dX12_then_40 : decode cX12_then 40 = .ok (.ireturn, 1) := by decide +kernel
theorem dX12_leastOf_0 : decode cX12_leastOf 0 = .ok (.iconst 0, 1) := by decide +kernel
theorem dX12_leastOf_1 : decode cX12_leastOf 1 = .ok (.istore_n 1, 1) := by decide +kernel
theorem dX12_leastOf_2 : decode cX12_leastOf 2 = .ok (.iload_n 0, 1) := by decide +kernel
theorem dX12_leastOf_3 : decode cX12_leastOf 3 = .ok (.iload_n 1, 1) := by decide +kernel
theorem dX12_leastOf_4 : decode cX12_leastOf 4 = .ok (.ishr, 1) := by decide +kernel
theorem dX12_leastOf_5 : decode cX12_leastOf 5 = .ok (.iconst 1, 1) := by decide +kernel
theorem dX12_leastOf_6 : decode cX12_leastOf 6 = .ok (.iand, 1) := by decide +kernel
theorem dX12_leastOf_7 : decode cX12_leastOf 7 = .ok (.ifCond .ne 9, 3) := by decide +kernel
theorem dX12_leastOf_10 : decode cX12_leastOf 10 = .ok (.iinc 1 1, 3) := by decide +kernel
theorem dX12_leastOf_13 : decode cX12_leastOf 13 = .ok (.goto (-11), 3) := by decide +kernel
theorem dX12_leastOf_16 : decode cX12_leastOf 16 = .ok (.iload_n 1, 1) := by decide +kernel
theorem dX12_leastOf_17 : decode cX12_leastOf 17 = .ok (.ireturn, 1) := by decide +kernel
theorem dX12_first_0 : decode cX12_first 0 = .ok (.iload_n 1, 1) := by decide +kernel
theorem dX12_first_1 : decode cX12_first 1 = .ok (.invokestatic 174, 3) := by decide +kernel
theorem dX12_first_4 : decode cX12_first 4 = .ok (.ifCond .eq 13, 3) := by decide +kernel
theorem dX12_first_7 : decode cX12_first 7 = .ok (.iload_n 2, 1) := by decide +kernel
theorem dX12_first_8 : decode cX12_first 8 = .ok (.i2l, 1) := by decide +kernel
theorem dX12_first_9 : decode cX12_first 9 = .ok (.lconst 0, 1) := by decide +kernel
theorem dX12_first_10 : decode cX12_first 10 = .ok (.lconst 1, 1) := by decide +kernel
theorem dX12_first_11 : decode cX12_first 11 = .ok (.invokestatic 47, 3) := by decide +kernel
theorem dX12_first_14 : decode cX12_first 14 = .ok (.ifCond .ne 9, 3) := by decide +kernel
theorem dX12_first_17 : decode cX12_first 17 = .ok (.aload_n 0, 1) := by decide +kernel
theorem dX12_first_18 : decode cX12_first 18 = .ok (.iconst 1, 1) := by decide +kernel
theorem dX12_first_19 : decode cX12_first 19 = .ok (.invokevirtual 126, 3) := by decide +kernel
theorem dX12_first_22 : decode cX12_first 22 = .ok (.ireturn, 1) := by decide +kernel
theorem dX12_first_23 : decode cX12_first 23 = .ok (.aload_n 0, 1) := by decide +kernel
theorem dX12_first_24 : decode cX12_first 24 = .ok (.invokevirtual 226, 3) := by decide +kernel
theorem dX12_first_27 : decode cX12_first 27 = .ok (.iconst 0, 1) := by decide +kernel
theorem dX12_first_28 : decode cX12_first 28 = .ok (.istore_n 3, 1) := by decide +kernel
theorem dX12_first_29 : decode cX12_first 29 = .ok (.iload_n 3, 1) := by decide +kernel
theorem dX12_first_30 : decode cX12_first 30 = .ok (.bipush 60, 2) := by decide +kernel
theorem dX12_first_32 : decode cX12_first 32 = .ok (.if_icmp .ge 21, 3) := by decide +kernel
theorem dX12_first_35 : decode cX12_first 35 = .ok (.aload_n 0, 1) := by decide +kernel
theorem dX12_first_36 : decode cX12_first 36 = .ok (.iload_n 1, 1) := by decide +kernel
theorem dX12_first_37 : decode cX12_first 37 = .ok (.invokevirtual 184, 3) := by decide +kernel
theorem dX12_first_40 : decode cX12_first 40 = .ok (.ifCond .ne 13, 3) := by decide +kernel
theorem dX12_first_43 : decode cX12_first 43 = .ok (.aload_n 0, 1) := by decide +kernel
theorem dX12_first_44 : decode cX12_first 44 = .ok (.invokevirtual 171, 3) := by decide +kernel
theorem dX12_first_47 : decode cX12_first 47 = .ok (.iinc 3 1, 3) := by decide +kernel
theorem dX12_first_50 : decode cX12_first 50 = .ok (.goto (-21), 3) := by decide +kernel
theorem dX12_first_53 : decode cX12_first 53 = .ok (.aload_n 0, 1) := by decide +kernel
theorem dX12_first_54 : decode cX12_first 54 = .ok (.iload_n 1, 1) := by decide +kernel
theorem dX12_first_55 : decode cX12_first 55 = .ok (.invokevirtual 184, 3) := by decide +kernel
theorem dX12_first_58 : decode cX12_first 58 = .ok (.istore 4, 2) := by decide +kernel
theorem dX12_first_60 : decode cX12_first 60 = .ok (.aload_n 0, 1) := by decide +kernel
theorem dX12_first_61 : decode cX12_first 61 = .ok (.invokevirtual 223, 3) := by decide +kernel
theorem dX12_first_64 : decode cX12_first 64 = .ok (.iload 4, 2) := by decide +kernel
theorem dX12_first_66 : decode cX12_first 66 = .ok (.ifCond .ne 11, 3) := by decide +kernel
theorem dX12_first_69 : decode cX12_first 69 = .ok (.aload_n 0, 1) := by decide +kernel
theorem dX12_first_70 : decode cX12_first 70 = .ok (.iconst 2, 1) := by decide +kernel
theorem dX12_first_71 : decode cX12_first 71 = .ok (.invokevirtual 126, 3) := by decide +kernel
theorem dX12_first_74 : decode cX12_first 74 = .ok (.goto 16, 3) := by decide +kernel
theorem dX12_first_77 : decode cX12_first 77 = .ok (.iload_n 2, 1) := by decide +kernel
theorem dX12_first_78 : decode cX12_first 78 = .ok (.ifCond .ne 7, 3) := by decide +kernel
theorem dX12_first_81 : decode cX12_first 81 = .ok (.iload_n 3, 1) := by decide +kernel
theorem dX12_first_82 : decode cX12_first 82 = .ok (.goto 8, 3) := by decide +kernel
theorem dX12_first_85 : decode cX12_first 85 = .ok (.iload 4, 2) := by decide +kernel
theorem dX12_first_87 : decode cX12_first 87 = .ok (.invokestatic 235, 3) := by decide +kernel
theorem dX12_first_90 : decode cX12_first 90 = .ok (.ireturn, 1) := by decide +kernel
theorem dX12_meet_0 : decode cX12_meet 0 = .ok (.aload_n 0, 1) := by decide +kernel
theorem dX12_meet_1 : decode cX12_meet 1 = .ok (.iload_n 1, 1) := by decide +kernel
theorem dX12_meet_2 : decode cX12_meet 2 = .ok (.invokevirtual 199, 3) := by decide +kernel
theorem dX12_meet_5 : decode cX12_meet 5 = .ok (.ifCond .eq 16, 3) := by decide +kernel
theorem dX12_meet_8 : decode cX12_meet 8 = .ok (.aload_n 0, 1) := by decide +kernel
theorem dX12_meet_9 : decode cX12_meet 9 = .ok (.iload_n 2, 1) := by decide +kernel
theorem dX12_meet_10 : decode cX12_meet 10 = .ok (.invokevirtual 199, 3) := by decide +kernel
theorem dX12_meet_13 : decode cX12_meet 13 = .ok (.ifCond .eq 8, 3) := by decide +kernel
theorem dX12_meet_16 : decode cX12_meet 16 = .ok (.iload_n 1, 1) := by decide +kernel
theorem dX12_meet_17 : decode cX12_meet 17 = .ok (.iload_n 2, 1) := by decide +kernel
theorem dX12_meet_18 : decode cX12_meet 18 = .ok (.if_icmp .ne 9, 3) := by decide +kernel
theorem dX12_meet_21 : decode cX12_meet 21 = .ok (.aload_n 0, 1) := by decide +kernel
theorem dX12_meet_22 : decode cX12_meet 22 = .ok (.iconst 1, 1) := by decide +kernel
theorem dX12_meet_23 : decode cX12_meet 23 = .ok (.invokevirtual 126, 3) := by decide +kernel
theorem dX12_meet_26 : decode cX12_meet 26 = .ok (.ireturn, 1) := by decide +kernel
theorem dX12_meet_27 : decode cX12_meet 27 = .ok (.aload_n 0, 1) := by decide +kernel
theorem dX12_meet_28 : decode cX12_meet 28 = .ok (.invokevirtual 226, 3) := by decide +kernel
theorem dX12_meet_31 : decode cX12_meet 31 = .ok (.iconst 0, 1) := by decide +kernel
theorem dX12_meet_32 : decode cX12_meet 32 = .ok (.istore_n 3, 1) := by decide +kernel
theorem dX12_meet_33 : decode cX12_meet 33 = .ok (.iload_n 3, 1) := by decide +kernel
theorem dX12_meet_34 : decode cX12_meet 34 = .ok (.bipush 60, 2) := by decide +kernel
theorem dX12_meet_36 : decode cX12_meet 36 = .ok (.if_icmp .ge 38, 3) := by decide +kernel
theorem dX12_meet_39 : decode cX12_meet 39 = .ok (.aload_n 0, 1) := by decide +kernel
theorem dX12_meet_40 : decode cX12_meet 40 = .ok (.iload_n 1, 1) := by decide +kernel
theorem dX12_meet_41 : decode cX12_meet 41 = .ok (.iconst 4, 1) := by decide +kernel
theorem dX12_meet_42 : decode cX12_meet 42 = .ok (.invokevirtual 146, 3) := by decide +kernel
theorem dX12_meet_45 : decode cX12_meet 45 = .ok (.iconst (-1), 1) := by decide +kernel
theorem dX12_meet_46 : decode cX12_meet 46 = .ok (.if_icmp .eq 18, 3) := by decide +kernel
theorem dX12_meet_49 : decode cX12_meet 49 = .ok (.aload_n 0, 1) := by decide +kernel
theorem dX12_meet_50 : decode cX12_meet 50 = .ok (.iload_n 1, 1) := by decide +kernel
theorem dX12_meet_51 : decode cX12_meet 51 = .ok (.iconst 4, 1) := by decide +kernel
theorem dX12_meet_52 : decode cX12_meet 52 = .ok (.invokevirtual 146, 3) := by decide +kernel
theorem dX12_meet_55 : decode cX12_meet 55 = .ok (.aload_n 0, 1) := by decide +kernel
theorem dX12_meet_56 : decode cX12_meet 56 = .ok (.iload_n 2, 1) := by decide +kernel
theorem dX12_meet_57 : decode cX12_meet 57 = .ok (.iconst 4, 1) := by decide +kernel
theorem dX12_meet_58 : decode cX12_meet 58 = .ok (.invokevirtual 146, 3) := by decide +kernel
theorem dX12_meet_61 : decode cX12_meet 61 = .ok (.if_icmp .eq 13, 3) := by decide +kernel
theorem dX12_meet_64 : decode cX12_meet 64 = .ok (.aload_n 0, 1) := by decide +kernel
theorem dX12_meet_65 : decode cX12_meet 65 = .ok (.invokevirtual 171, 3) := by decide +kernel
theorem dX12_meet_68 : decode cX12_meet 68 = .ok (.iinc 3 1, 3) := by decide +kernel
theorem dX12_meet_71 : decode cX12_meet 71 = .ok (.goto (-38), 3) := by decide +kernel
theorem dX12_meet_74 : decode cX12_meet 74 = .ok (.aload_n 0, 1) := by decide +kernel
theorem dX12_meet_75 : decode cX12_meet 75 = .ok (.iload_n 1, 1) := by decide +kernel
theorem dX12_meet_76 : decode cX12_meet 76 = .ok (.iconst 4, 1) := by decide +kernel
theorem dX12_meet_77 : decode cX12_meet 77 = .ok (.invokevirtual 146, 3) := by decide +kernel
theorem dX12_meet_80 : decode cX12_meet 80 = .ok (.iconst (-1), 1) := by decide +kernel
theorem dX12_meet_81 : decode cX12_meet 81 = .ok (.if_icmp .eq 22, 3) := by decide +kernel
theorem dX12_meet_84 : decode cX12_meet 84 = .ok (.aload_n 0, 1) := by decide +kernel
theorem dX12_meet_85 : decode cX12_meet 85 = .ok (.iload_n 1, 1) := by decide +kernel
theorem dX12_meet_86 : decode cX12_meet 86 = .ok (.iconst 4, 1) := by decide +kernel
theorem dX12_meet_87 : decode cX12_meet 87 = .ok (.invokevirtual 146, 3) := by decide +kernel
theorem dX12_meet_90 : decode cX12_meet 90 = .ok (.aload_n 0, 1) := by decide +kernel
theorem dX12_meet_91 : decode cX12_meet 91 = .ok (.iload_n 2, 1) := by decide +kernel
theorem dX12_meet_92 : decode cX12_meet 92 = .ok (.iconst 4, 1) := by decide +kernel
theorem dX12_meet_93 : decode cX12_meet 93 = .ok (.invokevirtual 146, 3) := by decide +kernel
theorem dX12_meet_96 : decode cX12_meet 96 = .ok (.if_icmp .ne 7, 3) := by decide +kernel
theorem dX12_meet_99 : decode cX12_meet 99 = .ok (.iconst 1, 1) := by decide +kernel
theorem dX12_meet_100 : decode cX12_meet 100 = .ok (.goto 4, 3) := by decide +kernel
theorem dX12_meet_103 : decode cX12_meet 103 = .ok (.iconst 0, 1) := by decide +kernel
theorem dX12_meet_104 : decode cX12_meet 104 = .ok (.istore 4, 2) := by decide +kernel
theorem dX12_meet_106 : decode cX12_meet 106 = .ok (.aload_n 0, 1) := by decide +kernel
theorem dX12_meet_107 : decode cX12_meet 107 = .ok (.invokevirtual 223, 3) := by decide +kernel
theorem dX12_meet_110 : decode cX12_meet 110 = .ok (.iload 4, 2) := by decide +kernel
theorem dX12_meet_112 : decode cX12_meet 112 = .ok (.ifCond .eq 7, 3) := by decide +kernel
theorem dX12_meet_115 : decode cX12_meet 115 = .ok (.iload_n 3, 1) := by decide +kernel
theorem dX12_meet_116 : decode cX12_meet 116 = .ok (.goto 8, 3) := by decide +kernel
theorem dX12_meet_119 : decode cX12_meet 119 = .ok (.aload_n 0, 1) := by decide +kernel
theorem dX12_meet_120 : decode cX12_meet 120 = .ok (.iconst 2, 1) := by decide +kernel
theorem dX12_meet_121 : decode cX12_meet 121 = .ok (.invokevirtual 126, 3) := by decide +kernel
theorem dX12_meet_124 : decode cX12_meet 124 = .ok (.ireturn, 1) := by decide +kernel
theorem dX12_bright_0 : decode cX12_bright 0 = .ok (.aload_n 0, 1) := by decide +kernel
theorem dX12_bright_1 : decode cX12_bright 1 = .ok (.iload_n 1, 1) := by decide +kernel
theorem dX12_bright_2 : decode cX12_bright 2 = .ok (.invokevirtual 199, 3) := by decide +kernel
theorem dX12_bright_5 : decode cX12_bright 5 = .ok (.ifCond .eq 15, 3) := by decide +kernel
theorem dX12_bright_8 : decode cX12_bright 8 = .ok (.iload_n 2, 1) := by decide +kernel
theorem dX12_bright_9 : decode cX12_bright 9 = .ok (.i2l, 1) := by decide +kernel
theorem dX12_bright_10 : decode cX12_bright 10 = .ok (.lconst 0, 1) := by decide +kernel
theorem dX12_bright_11 : decode cX12_bright 11 = .ok (.ldc2_w 205, 3) := by decide +kernel
theorem dX12_bright_14 : decode cX12_bright 14 = .ok (.invokestatic 47, 3) := by decide +kernel
theorem dX12_bright_17 : decode cX12_bright 17 = .ok (.ifCond .ne 9, 3) := by decide +kernel
theorem dX12_bright_20 : decode cX12_bright 20 = .ok (.aload_n 0, 1) := by decide +kernel
theorem dX12_bright_21 : decode cX12_bright 21 = .ok (.iconst 1, 1) := by decide +kernel
theorem dX12_bright_22 : decode cX12_bright 22 = .ok (.invokevirtual 126, 3) := by decide +kernel
theorem dX12_bright_25 : decode cX12_bright 25 = .ok (.ireturn, 1) := by decide +kernel
theorem dX12_bright_26 : decode cX12_bright 26 = .ok (.aload_n 0, 1) := by decide +kernel
theorem dX12_bright_27 : decode cX12_bright 27 = .ok (.invokevirtual 226, 3) := by decide +kernel
theorem dX12_bright_30 : decode cX12_bright 30 = .ok (.iconst 0, 1) := by decide +kernel
theorem dX12_bright_31 : decode cX12_bright 31 = .ok (.istore_n 3, 1) := by decide +kernel
theorem dX12_bright_32 : decode cX12_bright 32 = .ok (.iload_n 3, 1) := by decide +kernel
theorem dX12_bright_33 : decode cX12_bright 33 = .ok (.bipush 60, 2) := by decide +kernel
theorem dX12_bright_35 : decode cX12_bright 35 = .ok (.if_icmp .ge 23, 3) := by decide +kernel
theorem dX12_bright_38 : decode cX12_bright 38 = .ok (.aload_n 0, 1) := by decide +kernel
theorem dX12_bright_39 : decode cX12_bright 39 = .ok (.iload_n 1, 1) := by decide +kernel
theorem dX12_bright_40 : decode cX12_bright 40 = .ok (.iconst 5, 1) := by decide +kernel
theorem dX12_bright_41 : decode cX12_bright 41 = .ok (.invokevirtual 146, 3) := by decide +kernel
theorem dX12_bright_44 : decode cX12_bright 44 = .ok (.iload_n 2, 1) := by decide +kernel
theorem dX12_bright_45 : decode cX12_bright 45 = .ok (.if_icmp .ge 13, 3) := by decide +kernel
theorem dX12_bright_48 : decode cX12_bright 48 = .ok (.aload_n 0, 1) := by decide +kernel
theorem dX12_bright_49 : decode cX12_bright 49 = .ok (.invokevirtual 171, 3) := by decide +kernel
theorem dX12_bright_52 : decode cX12_bright 52 = .ok (.iinc 3 1, 3) := by decide +kernel
theorem dX12_bright_55 : decode cX12_bright 55 = .ok (.goto (-23), 3) := by decide +kernel
theorem dX12_bright_58 : decode cX12_bright 58 = .ok (.aload_n 0, 1) := by decide +kernel
theorem dX12_bright_59 : decode cX12_bright 59 = .ok (.iload_n 1, 1) := by decide +kernel
theorem dX12_bright_60 : decode cX12_bright 60 = .ok (.iconst 5, 1) := by decide +kernel
theorem dX12_bright_61 : decode cX12_bright 61 = .ok (.invokevirtual 146, 3) := by decide +kernel
theorem dX12_bright_64 : decode cX12_bright 64 = .ok (.iload_n 2, 1) := by decide +kernel
theorem dX12_bright_65 : decode cX12_bright 65 = .ok (.if_icmp .lt 7, 3) := by decide +kernel
theorem dX12_bright_68 : decode cX12_bright 68 = .ok (.iconst 1, 1) := by decide +kernel
theorem dX12_bright_69 : decode cX12_bright 69 = .ok (.goto 4, 3) := by decide +kernel
theorem dX12_bright_72 : decode cX12_bright 72 = .ok (.iconst 0, 1) := by decide +kernel
theorem dX12_bright_73 : decode cX12_bright 73 = .ok (.istore 4, 2) := by decide +kernel
theorem dX12_bright_75 : decode cX12_bright 75 = .ok (.aload_n 0, 1) := by decide +kernel
theorem dX12_bright_76 : decode cX12_bright 76 = .ok (.invokevirtual 223, 3) := by decide +kernel
theorem dX12_bright_79 : decode cX12_bright 79 = .ok (.iload 4, 2) := by decide +kernel
theorem dX12_bright_81 : decode cX12_bright 81 = .ok (.ifCond .eq 7, 3) := by decide +kernel
theorem dX12_bright_84 : decode cX12_bright 84 = .ok (.iload_n 3, 1) := by decide +kernel
theorem dX12_bright_85 : decode cX12_bright 85 = .ok (.goto 8, 3) := by decide +kernel
theorem dX12_bright_88 : decode cX12_bright 88 = .ok (.aload_n 0, 1) := by decide +kernel
theorem dX12_bright_89 : decode cX12_bright 89 = .ok (.iconst 2, 1) := by decide +kernel
theorem dX12_bright_90 : decode cX12_bright 90 = .ok (.invokevirtual 126, 3) := by decide +kernel
theorem dX12_bright_93 : decode cX12_bright 93 = .ok (.ireturn, 1) := by decide +kernel
theorem dX12_place_0 : decode cX12_place 0 = .ok (.aload_n 0, 1) := by decide +kernel
theorem dX12_place_1 : decode cX12_place 1 = .ok (.iload_n 1, 1) := by decide +kernel
theorem dX12_place_2 : decode cX12_place 2 = .ok (.invokevirtual 199, 3) := by decide +kernel
theorem dX12_place_5 : decode cX12_place 5 = .ok (.ifCond .eq 25, 3) := by decide +kernel
theorem dX12_place_8 : decode cX12_place 8 = .ok (.iload_n 2, 1) := by decide +kernel
theorem dX12_place_9 : decode cX12_place 9 = .ok (.i2l, 1) := by decide +kernel
theorem dX12_place_10 : decode cX12_place 10 = .ok (.lconst 0, 1) := by decide +kernel
theorem dX12_place_11 : decode cX12_place 11 = .ok (.ldc2_w 187, 3) := by decide +kernel
theorem dX12_place_14 : decode cX12_place 14 = .ok (.invokestatic 47, 3) := by decide +kernel
theorem dX12_place_17 : decode cX12_place 17 = .ok (.ifCond .eq 13, 3) := by decide +kernel
theorem dX12_place_20 : decode cX12_place 20 = .ok (.iload_n 3, 1) := by decide +kernel
theorem dX12_place_21 : decode cX12_place 21 = .ok (.i2l, 1) := by decide +kernel
theorem dX12_place_22 : decode cX12_place 22 = .ok (.lconst 0, 1) := by decide +kernel
theorem dX12_place_23 : decode cX12_place 23 = .ok (.lconst 1, 1) := by decide +kernel
theorem dX12_place_24 : decode cX12_place 24 = .ok (.invokestatic 47, 3) := by decide +kernel
theorem dX12_place_27 : decode cX12_place 27 = .ok (.ifCond .ne 9, 3) := by decide +kernel
theorem dX12_place_30 : decode cX12_place 30 = .ok (.aload_n 0, 1) := by decide +kernel
theorem dX12_place_31 : decode cX12_place 31 = .ok (.iconst 1, 1) := by decide +kernel
theorem dX12_place_32 : decode cX12_place 32 = .ok (.invokevirtual 126, 3) := by decide +kernel
theorem dX12_place_35 : decode cX12_place 35 = .ok (.ireturn, 1) := by decide +kernel
theorem dX12_place_36 : decode cX12_place 36 = .ok (.aload_n 0, 1) := by decide +kernel
theorem dX12_place_37 : decode cX12_place 37 = .ok (.invokevirtual 226, 3) := by decide +kernel
theorem dX12_place_40 : decode cX12_place 40 = .ok (.iconst 0, 1) := by decide +kernel
theorem dX12_place_41 : decode cX12_place 41 = .ok (.istore 4, 2) := by decide +kernel
theorem dX12_place_43 : decode cX12_place 43 = .ok (.iconst (-1), 1) := by decide +kernel
theorem dX12_place_44 : decode cX12_place 44 = .ok (.istore 5, 2) := by decide +kernel
theorem dX12_place_46 : decode cX12_place 46 = .ok (.iconst 0, 1) := by decide +kernel
theorem dX12_place_47 : decode cX12_place 47 = .ok (.istore 6, 2) := by decide +kernel
theorem dX12_place_49 : decode cX12_place 49 = .ok (.iload 6, 2) := by decide +kernel
theorem dX12_place_51 : decode cX12_place 51 = .ok (.bipush 16, 2) := by decide +kernel
theorem dX12_place_53 : decode cX12_place 53 = .ok (.if_icmp .ge 64, 3) := by decide +kernel
theorem dX12_place_56 : decode cX12_place 56 = .ok (.aload_n 0, 1) := by decide +kernel
theorem dX12_place_57 : decode cX12_place 57 = .ok (.iload_n 1, 1) := by decide +kernel
theorem dX12_place_58 : decode cX12_place 58 = .ok (.iconst 2, 1) := by decide +kernel
theorem dX12_place_59 : decode cX12_place 59 = .ok (.iload 6, 2) := by decide +kernel
theorem dX12_place_61 : decode cX12_place 61 = .ok (.invokevirtual 164, 3) := by decide +kernel
theorem dX12_place_64 : decode cX12_place 64 = .ok (.aload_n 0, 1) := by decide +kernel
theorem dX12_place_65 : decode cX12_place 65 = .ok (.iload_n 1, 1) := by decide +kernel
theorem dX12_place_66 : decode cX12_place 66 = .ok (.iconst 4, 1) := by decide +kernel
theorem dX12_place_67 : decode cX12_place 67 = .ok (.aload_n 0, 1) := by decide +kernel
theorem dX12_place_68 : decode cX12_place 68 = .ok (.iload_n 1, 1) := by decide +kernel
theorem dX12_place_69 : decode cX12_place 69 = .ok (.invokevirtual 149, 3) := by decide +kernel
theorem dX12_place_72 : decode cX12_place 72 = .ok (.ifCond .eq 8, 3) := by decide +kernel
theorem dX12_place_75 : decode cX12_place 75 = .ok (.iload 6, 2) := by decide +kernel
theorem dX12_place_77 : decode cX12_place 77 = .ok (.goto 4, 3) := by decide +kernel
theorem dX12_place_80 : decode cX12_place 80 = .ok (.iconst (-1), 1) := by decide +kernel
theorem dX12_place_81 : decode cX12_place 81 = .ok (.invokevirtual 164, 3) := by decide +kernel
theorem dX12_place_84 : decode cX12_place 84 = .ok (.aload_n 0, 1) := by decide +kernel
theorem dX12_place_85 : decode cX12_place 85 = .ok (.iload_n 2, 1) := by decide +kernel
theorem dX12_place_86 : decode cX12_place 86 = .ok (.iload_n 1, 1) := by decide +kernel
theorem dX12_place_87 : decode cX12_place 87 = .ok (.iconst 5, 1) := by decide +kernel
theorem dX12_place_88 : decode cX12_place 88 = .ok (.invokestatic 229, 3) := by decide +kernel
theorem dX12_place_91 : decode cX12_place 91 = .ok (.invokevirtual 232, 3) := by decide +kernel
theorem dX12_place_94 : decode cX12_place 94 = .ok (.istore 7, 2) := by decide +kernel
theorem dX12_place_96 : decode cX12_place 96 = .ok (.iload 7, 2) := by decide +kernel
theorem dX12_place_98 : decode cX12_place 98 = .ok (.iload 5, 2) := by decide +kernel
theorem dX12_place_100 : decode cX12_place 100 = .ok (.if_icmp .le 11, 3) := by decide +kernel
theorem dX12_place_103 : decode cX12_place 103 = .ok (.iload 6, 2) := by decide +kernel
theorem dX12_place_105 : decode cX12_place 105 = .ok (.istore 4, 2) := by decide +kernel
theorem dX12_place_107 : decode cX12_place 107 = .ok (.iload 7, 2) := by decide +kernel
theorem dX12_place_109 : decode cX12_place 109 = .ok (.istore 5, 2) := by decide +kernel
theorem dX12_place_111 : decode cX12_place 111 = .ok (.iinc 6 1, 3) := by decide +kernel
theorem dX12_place_114 : decode cX12_place 114 = .ok (.goto (-65), 3) := by decide +kernel
theorem dX12_place_117 : decode cX12_place 117 = .ok (.iload_n 3, 1) := by decide +kernel
theorem dX12_place_118 : decode cX12_place 118 = .ok (.ifCond .ne 8, 3) := by decide +kernel
theorem dX12_place_121 : decode cX12_place 121 = .ok (.iload 4, 2) := by decide +kernel
theorem dX12_place_123 : decode cX12_place 123 = .ok (.goto 5, 3) := by decide +kernel
theorem dX12_place_126 : decode cX12_place 126 = .ok (.iload 5, 2) := by decide +kernel
theorem dX12_place_128 : decode cX12_place 128 = .ok (.ireturn, 1) := by decide +kernel
theorem dX12_contents_0 : decode cX12_contents 0 = .ok (.iconst 0, 1) := by decide +kernel
theorem dX12_contents_1 : decode cX12_contents 1 = .ok (.istore_n 1, 1) := by decide +kernel
theorem dX12_contents_2 : decode cX12_contents 2 = .ok (.iconst 0, 1) := by decide +kernel
theorem dX12_contents_3 : decode cX12_contents 3 = .ok (.istore_n 2, 1) := by decide +kernel
theorem dX12_contents_4 : decode cX12_contents 4 = .ok (.iload_n 2, 1) := by decide +kernel
theorem dX12_contents_5 : decode cX12_contents 5 = .ok (.aload_n 0, 1) := by decide +kernel
theorem dX12_contents_6 : decode cX12_contents 6 = .ok (.getfield 7, 3) := by decide +kernel
theorem dX12_contents_9 : decode cX12_contents 9 = .ok (.iconst 0, 1) := by decide +kernel
theorem dX12_contents_10 : decode cX12_contents 10 = .ok (.iaload, 1) := by decide +kernel
theorem dX12_contents_11 : decode cX12_contents 11 = .ok (.if_icmp .ge 27, 3) := by decide +kernel
theorem dX12_contents_14 : decode cX12_contents 14 = .ok (.iload_n 1, 1) := by decide +kernel
theorem dX12_contents_15 : decode cX12_contents 15 = .ok (.aload_n 0, 1) := by decide +kernel
theorem dX12_contents_16 : decode cX12_contents 16 = .ok (.iload_n 2, 1) := by decide +kernel
theorem dX12_contents_17 : decode cX12_contents 17 = .ok (.invokevirtual 202, 3) := by decide +kernel
theorem dX12_contents_20 : decode cX12_contents 20 = .ok (.ifCond .eq 9, 3) := by decide +kernel
theorem dX12_contents_23 : decode cX12_contents 23 = .ok (.iconst 1, 1) := by decide +kernel
theorem dX12_contents_24 : decode cX12_contents 24 = .ok (.iload_n 2, 1) := by decide +kernel
theorem dX12_contents_25 : decode cX12_contents 25 = .ok (.ishl, 1) := by decide +kernel
theorem dX12_contents_26 : decode cX12_contents 26 = .ok (.goto 4, 3) := by decide +kernel
theorem dX12_contents_29 : decode cX12_contents 29 = .ok (.iconst 0, 1) := by decide +kernel
theorem dX12_contents_30 : decode cX12_contents 30 = .ok (.ior, 1) := by decide +kernel
theorem dX12_contents_31 : decode cX12_contents 31 = .ok (.istore_n 1, 1) := by decide +kernel
theorem dX12_contents_32 : decode cX12_contents 32 = .ok (.iinc 2 1, 3) := by decide +kernel
theorem dX12_contents_35 : decode cX12_contents 35 = .ok (.goto (-31), 3) := by decide +kernel
theorem dX12_contents_38 : decode cX12_contents 38 = .ok (.iload_n 1, 1) := by decide +kernel
theorem dX12_contents_39 : decode cX12_contents 39 = .ok (.ireturn, 1) := by decide +kernel
theorem dX12_cartsFor_0 : decode cX12_cartsFor 0 = .ok (.iload_n 1, 1) := by decide +kernel
theorem dX12_cartsFor_1 : decode cX12_cartsFor 1 = .ok (.i2l, 1) := by decide +kernel
theorem dX12_cartsFor_2 : decode cX12_cartsFor 2 = .ok (.lconst 0, 1) := by decide +kernel
theorem dX12_cartsFor_3 : decode cX12_cartsFor 3 = .ok (.iconst 1, 1) := by decide +kernel
theorem dX12_cartsFor_4 : decode cX12_cartsFor 4 = .ok (.aload_n 0, 1) := by decide +kernel
theorem dX12_cartsFor_5 : decode cX12_cartsFor 5 = .ok (.getfield 7, 3) := by decide +kernel
theorem dX12_cartsFor_8 : decode cX12_cartsFor 8 = .ok (.iconst 0, 1) := by decide +kernel
theorem dX12_cartsFor_9 : decode cX12_cartsFor 9 = .ok (.iaload, 1) := by decide +kernel
theorem dX12_cartsFor_10 : decode cX12_cartsFor 10 = .ok (.ishl, 1) := by decide +kernel
theorem dX12_cartsFor_11 : decode cX12_cartsFor 11 = .ok (.iconst 1, 1) := by decide +kernel
theorem dX12_cartsFor_12 : decode cX12_cartsFor 12 = .ok (.isub, 1) := by decide +kernel
theorem dX12_cartsFor_13 : decode cX12_cartsFor 13 = .ok (.i2l, 1) := by decide +kernel
theorem dX12_cartsFor_14 : decode cX12_cartsFor 14 = .ok (.invokestatic 47, 3) := by decide +kernel
theorem dX12_cartsFor_17 : decode cX12_cartsFor 17 = .ok (.ifCond .eq 15, 3) := by decide +kernel
theorem dX12_cartsFor_20 : decode cX12_cartsFor 20 = .ok (.iload_n 2, 1) := by decide +kernel
theorem dX12_cartsFor_21 : decode cX12_cartsFor 21 = .ok (.i2l, 1) := by decide +kernel
theorem dX12_cartsFor_22 : decode cX12_cartsFor 22 = .ok (.lconst 0, 1) := by decide +kernel
theorem dX12_cartsFor_23 : decode cX12_cartsFor 23 = .ok (.ldc2_w 187, 3) := by decide +kernel
theorem dX12_cartsFor_26 : decode cX12_cartsFor 26 = .ok (.invokestatic 47, 3) := by decide +kernel
theorem dX12_cartsFor_29 : decode cX12_cartsFor 29 = .ok (.ifCond .ne 9, 3) := by decide +kernel
theorem dX12_cartsFor_32 : decode cX12_cartsFor 32 = .ok (.aload_n 0, 1) := by decide +kernel
theorem dX12_cartsFor_33 : decode cX12_cartsFor 33 = .ok (.iconst 1, 1) := by decide +kernel
theorem dX12_cartsFor_34 : decode cX12_cartsFor 34 = .ok (.invokevirtual 126, 3) := by decide +kernel
theorem dX12_cartsFor_37 : decode cX12_cartsFor 37 = .ok (.ireturn, 1) := by decide +kernel
theorem dX12_cartsFor_38 : decode cX12_cartsFor 38 = .ok (.aload_n 0, 1) := by decide +kernel
theorem dX12_cartsFor_39 : decode cX12_cartsFor 39 = .ok (.invokevirtual 226, 3) := by decide +kernel
theorem dX12_cartsFor_42 : decode cX12_cartsFor 42 = .ok (.bipush 9, 2) := by decide +kernel
theorem dX12_cartsFor_44 : decode cX12_cartsFor 44 = .ok (.istore_n 3, 1) := by decide +kernel
theorem dX12_cartsFor_45 : decode cX12_cartsFor 45 = .ok (.iload_n 3, 1) := by decide +kernel
theorem dX12_cartsFor_46 : decode cX12_cartsFor 46 = .ok (.ifCond .lt 50, 3) := by decide +kernel
theorem dX12_cartsFor_49 : decode cX12_cartsFor 49 = .ok (.aload_n 0, 1) := by decide +kernel
theorem dX12_cartsFor_50 : decode cX12_cartsFor 50 = .ok (.getfield 7, 3) := by decide +kernel
theorem dX12_cartsFor_53 : decode cX12_cartsFor 53 = .ok (.iconst 2, 1) := by decide +kernel
theorem dX12_cartsFor_54 : decode cX12_cartsFor 54 = .ok (.iload_n 3, 1) := by decide +kernel
theorem dX12_cartsFor_55 : decode cX12_cartsFor 55 = .ok (.iastore, 1) := by decide +kernel
theorem dX12_cartsFor_56 : decode cX12_cartsFor 56 = .ok (.aload_n 0, 1) := by decide +kernel
theorem dX12_cartsFor_57 : decode cX12_cartsFor 57 = .ok (.iload_n 2, 1) := by decide +kernel
theorem dX12_cartsFor_58 : decode cX12_cartsFor 58 = .ok (.invokevirtual 214, 3) := by decide +kernel
theorem dX12_cartsFor_61 : decode cX12_cartsFor 61 = .ok (.iload_n 1, 1) := by decide +kernel
theorem dX12_cartsFor_62 : decode cX12_cartsFor 62 = .ok (.aload_n 0, 1) := by decide +kernel
theorem dX12_cartsFor_63 : decode cX12_cartsFor 63 = .ok (.invokevirtual 238, 3) := by decide +kernel
theorem dX12_cartsFor_66 : decode cX12_cartsFor 66 = .ok (.iconst (-1), 1) := by decide +kernel
theorem dX12_cartsFor_67 : decode cX12_cartsFor 67 = .ok (.ixor, 1) := by decide +kernel
theorem dX12_cartsFor_68 : decode cX12_cartsFor 68 = .ok (.iand, 1) := by decide +kernel
theorem dX12_cartsFor_69 : decode cX12_cartsFor 69 = .ok (.ifCond .ne 7, 3) := by decide +kernel
theorem dX12_cartsFor_72 : decode cX12_cartsFor 72 = .ok (.iconst 1, 1) := by decide +kernel
theorem dX12_cartsFor_73 : decode cX12_cartsFor 73 = .ok (.goto 4, 3) := by decide +kernel
theorem dX12_cartsFor_76 : decode cX12_cartsFor 76 = .ok (.iconst 0, 1) := by decide +kernel
theorem dX12_cartsFor_77 : decode cX12_cartsFor 77 = .ok (.istore 4, 2) := by decide +kernel
theorem dX12_cartsFor_79 : decode cX12_cartsFor 79 = .ok (.aload_n 0, 1) := by decide +kernel
theorem dX12_cartsFor_80 : decode cX12_cartsFor 80 = .ok (.invokevirtual 223, 3) := by decide +kernel
theorem dX12_cartsFor_83 : decode cX12_cartsFor 83 = .ok (.iload 4, 2) := by decide +kernel
theorem dX12_cartsFor_85 : decode cX12_cartsFor 85 = .ok (.ifCond .eq 5, 3) := by decide +kernel
theorem dX12_cartsFor_88 : decode cX12_cartsFor 88 = .ok (.iload_n 3, 1) := by decide +kernel
theorem dX12_cartsFor_89 : decode cX12_cartsFor 89 = .ok (.ireturn, 1) := by decide +kernel
theorem dX12_cartsFor_90 : decode cX12_cartsFor 90 = .ok (.iinc 3 (-1), 3) := by decide +kernel
theorem dX12_cartsFor_93 : decode cX12_cartsFor 93 = .ok (.goto (-48), 3) := by decide +kernel
theorem dX12_cartsFor_96 : decode cX12_cartsFor 96 = .ok (.aload_n 0, 1) := by decide +kernel
theorem dX12_cartsFor_97 : decode cX12_cartsFor 97 = .ok (.iconst 2, 1) := by decide +kernel
theorem dX12_cartsFor_98 : decode cX12_cartsFor 98 = .ok (.invokevirtual 126, 3) := by decide +kernel
theorem dX12_cartsFor_101 : decode cX12_cartsFor 101 = .ok (.ireturn, 1) := by decide +kernel
theorem dX12_stop_0 : decode cX12_stop 0 = .ok (.aload_n 0, 1) := by decide +kernel
theorem dX12_stop_1 : decode cX12_stop 1 = .ok (.iload_n 1, 1) := by decide +kernel
theorem dX12_stop_2 : decode cX12_stop 2 = .ok (.invokevirtual 199, 3) := by decide +kernel
theorem dX12_stop_5 : decode cX12_stop 5 = .ok (.ifCond .eq 15, 3) := by decide +kernel
theorem dX12_stop_8 : decode cX12_stop 8 = .ok (.iload_n 2, 1) := by decide +kernel
theorem dX12_stop_9 : decode cX12_stop 9 = .ok (.i2l, 1) := by decide +kernel
theorem dX12_stop_10 : decode cX12_stop 10 = .ok (.lconst 0, 1) := by decide +kernel
theorem dX12_stop_11 : decode cX12_stop 11 = .ok (.ldc2_w 241, 3) := by decide +kernel
theorem dX12_stop_14 : decode cX12_stop 14 = .ok (.invokestatic 47, 3) := by decide +kernel
theorem dX12_stop_17 : decode cX12_stop 17 = .ok (.ifCond .ne 9, 3) := by decide +kernel
theorem dX12_stop_20 : decode cX12_stop 20 = .ok (.aload_n 0, 1) := by decide +kernel
theorem dX12_stop_21 : decode cX12_stop 21 = .ok (.iconst 1, 1) := by decide +kernel
theorem dX12_stop_22 : decode cX12_stop 22 = .ok (.invokevirtual 126, 3) := by decide +kernel
theorem dX12_stop_25 : decode cX12_stop 25 = .ok (.ireturn, 1) := by decide +kernel
theorem dX12_stop_26 : decode cX12_stop 26 = .ok (.aload_n 0, 1) := by decide +kernel
theorem dX12_stop_27 : decode cX12_stop 27 = .ok (.invokevirtual 226, 3) := by decide +kernel
theorem dX12_stop_30 : decode cX12_stop 30 = .ok (.aload_n 0, 1) := by decide +kernel
theorem dX12_stop_31 : decode cX12_stop 31 = .ok (.iload_n 2, 1) := by decide +kernel
theorem dX12_stop_32 : decode cX12_stop 32 = .ok (.iload_n 1, 1) := by decide +kernel
theorem dX12_stop_33 : decode cX12_stop 33 = .ok (.iconst 5, 1) := by decide +kernel
theorem dX12_stop_34 : decode cX12_stop 34 = .ok (.invokestatic 229, 3) := by decide +kernel
theorem dX12_stop_37 : decode cX12_stop 37 = .ok (.invokevirtual 232, 3) := by decide +kernel
theorem dX12_stop_40 : decode cX12_stop 40 = .ok (.istore_n 3, 1) := by decide +kernel
theorem dX12_stop_41 : decode cX12_stop 41 = .ok (.iconst (-1), 1) := by decide +kernel
theorem dX12_stop_42 : decode cX12_stop 42 = .ok (.istore 4, 2) := by decide +kernel
theorem dX12_stop_44 : decode cX12_stop 44 = .ok (.iconst 0, 1) := by decide +kernel
theorem dX12_stop_45 : decode cX12_stop 45 = .ok (.istore 5, 2) := by decide +kernel
theorem dX12_stop_47 : decode cX12_stop 47 = .ok (.iload 5, 2) := by decide +kernel
theorem dX12_stop_49 : decode cX12_stop 49 = .ok (.bipush 16, 2) := by decide +kernel
theorem dX12_stop_51 : decode cX12_stop 51 = .ok (.if_icmp .ge 46, 3) := by decide +kernel
theorem dX12_stop_54 : decode cX12_stop 54 = .ok (.aload_n 0, 1) := by decide +kernel
theorem dX12_stop_55 : decode cX12_stop 55 = .ok (.getfield 7, 3) := by decide +kernel
theorem dX12_stop_58 : decode cX12_stop 58 = .ok (.bipush 24, 2) := by decide +kernel
theorem dX12_stop_60 : decode cX12_stop 60 = .ok (.iload 5, 2) := by decide +kernel
theorem dX12_stop_62 : decode cX12_stop 62 = .ok (.iadd, 1) := by decide +kernel
theorem dX12_stop_63 : decode cX12_stop 63 = .ok (.iload 5, 2) := by decide +kernel
theorem dX12_stop_65 : decode cX12_stop 65 = .ok (.iastore, 1) := by decide +kernel
theorem dX12_stop_66 : decode cX12_stop 66 = .ok (.aload_n 0, 1) := by decide +kernel
theorem dX12_stop_67 : decode cX12_stop 67 = .ok (.iload_n 2, 1) := by decide +kernel
theorem dX12_stop_68 : decode cX12_stop 68 = .ok (.iload_n 1, 1) := by decide +kernel
theorem dX12_stop_69 : decode cX12_stop 69 = .ok (.iconst 5, 1) := by decide +kernel
theorem dX12_stop_70 : decode cX12_stop 70 = .ok (.invokestatic 229, 3) := by decide +kernel
theorem dX12_stop_73 : decode cX12_stop 73 = .ok (.invokevirtual 232, 3) := by decide +kernel
theorem dX12_stop_76 : decode cX12_stop 76 = .ok (.istore 6, 2) := by decide +kernel
theorem dX12_stop_78 : decode cX12_stop 78 = .ok (.iload 6, 2) := by decide +kernel
theorem dX12_stop_80 : decode cX12_stop 80 = .ok (.iload_n 3, 1) := by decide +kernel
theorem dX12_stop_81 : decode cX12_stop 81 = .ok (.if_icmp .le 10, 3) := by decide +kernel
theorem dX12_stop_84 : decode cX12_stop 84 = .ok (.iload 5, 2) := by decide +kernel
theorem dX12_stop_86 : decode cX12_stop 86 = .ok (.istore 4, 2) := by decide +kernel
theorem dX12_stop_88 : decode cX12_stop 88 = .ok (.iload 6, 2) := by decide +kernel
theorem dX12_stop_90 : decode cX12_stop 90 = .ok (.istore_n 3, 1) := by decide +kernel
theorem dX12_stop_91 : decode cX12_stop 91 = .ok (.iinc 5 1, 3) := by decide +kernel
theorem dX12_stop_94 : decode cX12_stop 94 = .ok (.goto (-47), 3) := by decide +kernel
theorem dX12_stop_97 : decode cX12_stop 97 = .ok (.iload 4, 2) := by decide +kernel
theorem dX12_stop_99 : decode cX12_stop 99 = .ok (.ireturn, 1) := by decide +kernel
theorem dX12_swap_0 : decode cX12_swap 0 = .ok (.iload_n 1, 1) := by decide +kernel
theorem dX12_swap_1 : decode cX12_swap 1 = .ok (.i2l, 1) := by decide +kernel
theorem dX12_swap_2 : decode cX12_swap 2 = .ok (.lconst 0, 1) := by decide +kernel
theorem dX12_swap_3 : decode cX12_swap 3 = .ok (.ldc2_w 241, 3) := by decide +kernel
theorem dX12_swap_6 : decode cX12_swap 6 = .ok (.invokestatic 47, 3) := by decide +kernel
theorem dX12_swap_9 : decode cX12_swap 9 = .ok (.ifCond .ne 9, 3) := by decide +kernel
theorem dX12_swap_12 : decode cX12_swap 12 = .ok (.aload_n 0, 1) := by decide +kernel
theorem dX12_swap_13 : decode cX12_swap 13 = .ok (.iconst 1, 1) := by decide +kernel
theorem dX12_swap_14 : decode cX12_swap 14 = .ok (.invokevirtual 126, 3) := by decide +kernel
theorem dX12_swap_17 : decode cX12_swap 17 = .ok (.ireturn, 1) := by decide +kernel
theorem dX12_swap_18 : decode cX12_swap 18 = .ok (.aload_n 0, 1) := by decide +kernel
theorem dX12_swap_19 : decode cX12_swap 19 = .ok (.invokevirtual 226, 3) := by decide +kernel
theorem dX12_swap_22 : decode cX12_swap 22 = .ok (.aload_n 0, 1) := by decide +kernel
theorem dX12_swap_23 : decode cX12_swap 23 = .ok (.iload_n 1, 1) := by decide +kernel
theorem dX12_swap_24 : decode cX12_swap 24 = .ok (.iconst 4, 1) := by decide +kernel
theorem dX12_swap_25 : decode cX12_swap 25 = .ok (.invokevirtual 232, 3) := by decide +kernel
theorem dX12_swap_28 : decode cX12_swap 28 = .ok (.istore_n 2, 1) := by decide +kernel
theorem dX12_swap_29 : decode cX12_swap 29 = .ok (.iconst (-1), 1) := by decide +kernel
theorem dX12_swap_30 : decode cX12_swap 30 = .ok (.istore_n 3, 1) := by decide +kernel
theorem dX12_swap_31 : decode cX12_swap 31 = .ok (.iconst 0, 1) := by decide +kernel
theorem dX12_swap_32 : decode cX12_swap 32 = .ok (.istore 4, 2) := by decide +kernel
theorem dX12_swap_34 : decode cX12_swap 34 = .ok (.iload 4, 2) := by decide +kernel
theorem dX12_swap_36 : decode cX12_swap 36 = .ok (.aload_n 0, 1) := by decide +kernel
theorem dX12_swap_37 : decode cX12_swap 37 = .ok (.getfield 7, 3) := by decide +kernel
theorem dX12_swap_40 : decode cX12_swap 40 = .ok (.iconst 0, 1) := by decide +kernel
theorem dX12_swap_41 : decode cX12_swap 41 = .ok (.iaload, 1) := by decide +kernel
theorem dX12_swap_42 : decode cX12_swap 42 = .ok (.if_icmp .ge 90, 3) := by decide +kernel
theorem dX12_swap_45 : decode cX12_swap 45 = .ok (.iload 4, 2) := by decide +kernel
theorem dX12_swap_47 : decode cX12_swap 47 = .ok (.iconst 1, 1) := by decide +kernel
theorem dX12_swap_48 : decode cX12_swap 48 = .ok (.iadd, 1) := by decide +kernel
theorem dX12_swap_49 : decode cX12_swap 49 = .ok (.istore 5, 2) := by decide +kernel
theorem dX12_swap_51 : decode cX12_swap 51 = .ok (.iload 5, 2) := by decide +kernel
theorem dX12_swap_53 : decode cX12_swap 53 = .ok (.aload_n 0, 1) := by decide +kernel
theorem dX12_swap_54 : decode cX12_swap 54 = .ok (.getfield 7, 3) := by decide +kernel
theorem dX12_swap_57 : decode cX12_swap 57 = .ok (.iconst 0, 1) := by decide +kernel
theorem dX12_swap_58 : decode cX12_swap 58 = .ok (.iaload, 1) := by decide +kernel
theorem dX12_swap_59 : decode cX12_swap 59 = .ok (.if_icmp .ge 67, 3) := by decide +kernel
theorem dX12_swap_62 : decode cX12_swap 62 = .ok (.aload_n 0, 1) := by decide +kernel
theorem dX12_swap_63 : decode cX12_swap 63 = .ok (.iload 4, 2) := by decide +kernel
theorem dX12_swap_65 : decode cX12_swap 65 = .ok (.iconst 2, 1) := by decide +kernel
theorem dX12_swap_66 : decode cX12_swap 66 = .ok (.invokevirtual 146, 3) := by decide +kernel
theorem dX12_swap_69 : decode cX12_swap 69 = .ok (.istore 6, 2) := by decide +kernel
theorem dX12_swap_71 : decode cX12_swap 71 = .ok (.aload_n 0, 1) := by decide +kernel
theorem dX12_swap_72 : decode cX12_swap 72 = .ok (.iload 4, 2) := by decide +kernel
theorem dX12_swap_74 : decode cX12_swap 74 = .ok (.iconst 2, 1) := by decide +kernel
theorem dX12_swap_75 : decode cX12_swap 75 = .ok (.aload_n 0, 1) := by decide +kernel
theorem dX12_swap_76 : decode cX12_swap 76 = .ok (.iload 5, 2) := by decide +kernel
theorem dX12_swap_78 : decode cX12_swap 78 = .ok (.iconst 2, 1) := by decide +kernel
theorem dX12_swap_79 : decode cX12_swap 79 = .ok (.invokevirtual 146, 3) := by decide +kernel
theorem dX12_swap_82 : decode cX12_swap 82 = .ok (.invokevirtual 164, 3) := by decide +kernel
theorem dX12_swap_85 : decode cX12_swap 85 = .ok (.aload_n 0, 1) := by decide +kernel
theorem dX12_swap_86 : decode cX12_swap 86 = .ok (.iload 5, 2) := by decide +kernel
theorem dX12_swap_88 : decode cX12_swap 88 = .ok (.iconst 2, 1) := by decide +kernel
theorem dX12_swap_89 : decode cX12_swap 89 = .ok (.iload 6, 2) := by decide +kernel
theorem dX12_swap_91 : decode cX12_swap 91 = .ok (.invokevirtual 164, 3) := by decide +kernel
theorem dX12_swap_94 : decode cX12_swap 94 = .ok (.aload_n 0, 1) := by decide +kernel
theorem dX12_swap_95 : decode cX12_swap 95 = .ok (.iload_n 1, 1) := by decide +kernel
theorem dX12_swap_96 : decode cX12_swap 96 = .ok (.iconst 4, 1) := by decide +kernel
theorem dX12_swap_97 : decode cX12_swap 97 = .ok (.invokevirtual 232, 3) := by decide +kernel
theorem dX12_swap_100 : decode cX12_swap 100 = .ok (.istore 7, 2) := by decide +kernel
theorem dX12_swap_102 : decode cX12_swap 102 = .ok (.iload 7, 2) := by decide +kernel
theorem dX12_swap_104 : decode cX12_swap 104 = .ok (.iload_n 2, 1) := by decide +kernel
theorem dX12_swap_105 : decode cX12_swap 105 = .ok (.if_icmp .le 15, 3) := by decide +kernel
theorem dX12_swap_108 : decode cX12_swap 108 = .ok (.bipush 10, 2) := by decide +kernel
theorem dX12_swap_110 : decode cX12_swap 110 = .ok (.iload 4, 2) := by decide +kernel
theorem dX12_swap_112 : decode cX12_swap 112 = .ok (.imul, 1) := by decide +kernel
theorem dX12_swap_113 : decode cX12_swap 113 = .ok (.iload 5, 2) := by decide +kernel
theorem dX12_swap_115 : decode cX12_swap 115 = .ok (.iadd, 1) := by decide +kernel
theorem dX12_swap_116 : decode cX12_swap 116 = .ok (.istore_n 3, 1) := by decide +kernel
theorem dX12_swap_117 : decode cX12_swap 117 = .ok (.iload 7, 2) := by decide +kernel
theorem dX12_swap_119 : decode cX12_swap 119 = .ok (.istore_n 2, 1) := by decide +kernel
theorem dX12_swap_120 : decode cX12_swap 120 = .ok (.iinc 5 1, 3) := by decide +kernel
theorem dX12_swap_123 : decode cX12_swap 123 = .ok (.goto (-72), 3) := by decide +kernel
theorem dX12_swap_126 : decode cX12_swap 126 = .ok (.iinc 4 1, 3) := by decide +kernel
theorem dX12_swap_129 : decode cX12_swap 129 = .ok (.goto (-95), 3) := by decide +kernel
theorem dX12_swap_132 : decode cX12_swap 132 = .ok (.iload_n 3, 1) := by decide +kernel
theorem dX12_swap_133 : decode cX12_swap 133 = .ok (.ireturn, 1) := by decide +kernel
theorem dX12_sunFor_0 : decode cX12_sunFor 0 = .ok (.iload_n 1, 1) := by decide +kernel
theorem dX12_sunFor_1 : decode cX12_sunFor 1 = .ok (.invokestatic 174, 3) := by decide +kernel
theorem dX12_sunFor_4 : decode cX12_sunFor 4 = .ok (.ifCond .eq 27, 3) := by decide +kernel
theorem dX12_sunFor_7 : decode cX12_sunFor 7 = .ok (.iload_n 2, 1) := by decide +kernel
theorem dX12_sunFor_8 : decode cX12_sunFor 8 = .ok (.i2l, 1) := by decide +kernel
theorem dX12_sunFor_9 : decode cX12_sunFor 9 = .ok (.lconst 0, 1) := by decide +kernel
theorem dX12_sunFor_10 : decode cX12_sunFor 10 = .ok (.ldc2_w 205, 3) := by decide +kernel
theorem dX12_sunFor_13 : decode cX12_sunFor 13 = .ok (.invokestatic 47, 3) := by decide +kernel
theorem dX12_sunFor_16 : decode cX12_sunFor 16 = .ok (.ifCond .eq 15, 3) := by decide +kernel
theorem dX12_sunFor_19 : decode cX12_sunFor 19 = .ok (.iload_n 3, 1) := by decide +kernel
theorem dX12_sunFor_20 : decode cX12_sunFor 20 = .ok (.i2l, 1) := by decide +kernel
theorem dX12_sunFor_21 : decode cX12_sunFor 21 = .ok (.lconst 0, 1) := by decide +kernel
theorem dX12_sunFor_22 : decode cX12_sunFor 22 = .ok (.ldc2_w 187, 3) := by decide +kernel
theorem dX12_sunFor_25 : decode cX12_sunFor 25 = .ok (.invokestatic 47, 3) := by decide +kernel
theorem dX12_sunFor_28 : decode cX12_sunFor 28 = .ok (.ifCond .ne 9, 3) := by decide +kernel
theorem dX12_sunFor_31 : decode cX12_sunFor 31 = .ok (.aload_n 0, 1) := by decide +kernel
theorem dX12_sunFor_32 : decode cX12_sunFor 32 = .ok (.iconst 1, 1) := by decide +kernel
theorem dX12_sunFor_33 : decode cX12_sunFor 33 = .ok (.invokevirtual 126, 3) := by decide +kernel
theorem dX12_sunFor_36 : decode cX12_sunFor 36 = .ok (.ireturn, 1) := by decide +kernel
theorem dX12_sunFor_37 : decode cX12_sunFor 37 = .ok (.aload_n 0, 1) := by decide +kernel
theorem dX12_sunFor_38 : decode cX12_sunFor 38 = .ok (.invokevirtual 226, 3) := by decide +kernel
theorem dX12_sunFor_41 : decode cX12_sunFor 41 = .ok (.iconst 0, 1) := by decide +kernel
theorem dX12_sunFor_42 : decode cX12_sunFor 42 = .ok (.istore 4, 2) := by decide +kernel
theorem dX12_sunFor_44 : decode cX12_sunFor 44 = .ok (.iload 4, 2) := by decide +kernel
theorem dX12_sunFor_46 : decode cX12_sunFor 46 = .ok (.bipush 9, 2) := by decide +kernel
theorem dX12_sunFor_48 : decode cX12_sunFor 48 = .ok (.if_icmp .gt 40, 3) := by decide +kernel
theorem dX12_sunFor_51 : decode cX12_sunFor 51 = .ok (.aload_n 0, 1) := by decide +kernel
theorem dX12_sunFor_52 : decode cX12_sunFor 52 = .ok (.getfield 7, 3) := by decide +kernel
theorem dX12_sunFor_55 : decode cX12_sunFor 55 = .ok (.bipush 8, 2) := by decide +kernel
theorem dX12_sunFor_57 : decode cX12_sunFor 57 = .ok (.iload_n 1, 1) := by decide +kernel
theorem dX12_sunFor_58 : decode cX12_sunFor 58 = .ok (.iadd, 1) := by decide +kernel
theorem dX12_sunFor_59 : decode cX12_sunFor 59 = .ok (.iload 4, 2) := by decide +kernel
theorem dX12_sunFor_61 : decode cX12_sunFor 61 = .ok (.iastore, 1) := by decide +kernel
theorem dX12_sunFor_62 : decode cX12_sunFor 62 = .ok (.aload_n 0, 1) := by decide +kernel
theorem dX12_sunFor_63 : decode cX12_sunFor 63 = .ok (.iload_n 3, 1) := by decide +kernel
theorem dX12_sunFor_64 : decode cX12_sunFor 64 = .ok (.iconst 4, 1) := by decide +kernel
theorem dX12_sunFor_65 : decode cX12_sunFor 65 = .ok (.invokevirtual 232, 3) := by decide +kernel
theorem dX12_sunFor_68 : decode cX12_sunFor 68 = .ok (.aload_n 0, 1) := by decide +kernel
theorem dX12_sunFor_69 : decode cX12_sunFor 69 = .ok (.getfield 7, 3) := by decide +kernel
theorem dX12_sunFor_72 : decode cX12_sunFor 72 = .ok (.iconst 4, 1) := by decide +kernel
theorem dX12_sunFor_73 : decode cX12_sunFor 73 = .ok (.iaload, 1) := by decide +kernel
theorem dX12_sunFor_74 : decode cX12_sunFor 74 = .ok (.iload_n 2, 1) := by decide +kernel
theorem dX12_sunFor_75 : decode cX12_sunFor 75 = .ok (.iadd, 1) := by decide +kernel
theorem dX12_sunFor_76 : decode cX12_sunFor 76 = .ok (.if_icmp .lt 6, 3) := by decide +kernel
theorem dX12_sunFor_79 : decode cX12_sunFor 79 = .ok (.iload 4, 2) := by decide +kernel
theorem dX12_sunFor_81 : decode cX12_sunFor 81 = .ok (.ireturn, 1) := by decide +kernel
theorem dX12_sunFor_82 : decode cX12_sunFor 82 = .ok (.iinc 4 1, 3) := by decide +kernel
theorem dX12_sunFor_85 : decode cX12_sunFor 85 = .ok (.goto (-41), 3) := by decide +kernel
theorem dX12_sunFor_88 : decode cX12_sunFor 88 = .ok (.aload_n 0, 1) := by decide +kernel
theorem dX12_sunFor_89 : decode cX12_sunFor 89 = .ok (.iconst 2, 1) := by decide +kernel
theorem dX12_sunFor_90 : decode cX12_sunFor 90 = .ok (.invokevirtual 126, 3) := by decide +kernel
theorem dX12_sunFor_93 : decode cX12_sunFor 93 = .ok (.ireturn, 1) := by decide +kernel
theorem dX12_sweepFor_0 : decode cX12_sweepFor 0 = .ok (.aload_n 0, 1) := by decide +kernel
theorem dX12_sweepFor_1 : decode cX12_sweepFor 1 = .ok (.iload_n 1, 1) := by decide +kernel
theorem dX12_sweepFor_2 : decode cX12_sweepFor 2 = .ok (.invokevirtual 199, 3) := by decide +kernel
theorem dX12_sweepFor_5 : decode cX12_sweepFor 5 = .ok (.ifCond .eq 15, 3) := by decide +kernel
theorem dX12_sweepFor_8 : decode cX12_sweepFor 8 = .ok (.iload_n 2, 1) := by decide +kernel
theorem dX12_sweepFor_9 : decode cX12_sweepFor 9 = .ok (.i2l, 1) := by decide +kernel
theorem dX12_sweepFor_10 : decode cX12_sweepFor 10 = .ok (.lconst 0, 1) := by decide +kernel
theorem dX12_sweepFor_11 : decode cX12_sweepFor 11 = .ok (.ldc2_w 212, 3) := by decide +kernel
theorem dX12_sweepFor_14 : decode cX12_sweepFor 14 = .ok (.invokestatic 47, 3) := by decide +kernel
theorem dX12_sweepFor_17 : decode cX12_sweepFor 17 = .ok (.ifCond .ne 9, 3) := by decide +kernel
theorem dX12_sweepFor_20 : decode cX12_sweepFor 20 = .ok (.aload_n 0, 1) := by decide +kernel
theorem dX12_sweepFor_21 : decode cX12_sweepFor 21 = .ok (.iconst 1, 1) := by decide +kernel
theorem dX12_sweepFor_22 : decode cX12_sweepFor 22 = .ok (.invokevirtual 126, 3) := by decide +kernel
theorem dX12_sweepFor_25 : decode cX12_sweepFor 25 = .ok (.ireturn, 1) := by decide +kernel
theorem dX12_sweepFor_26 : decode cX12_sweepFor 26 = .ok (.aload_n 0, 1) := by decide +kernel
theorem dX12_sweepFor_27 : decode cX12_sweepFor 27 = .ok (.invokevirtual 226, 3) := by decide +kernel
theorem dX12_sweepFor_30 : decode cX12_sweepFor 30 = .ok (.iconst 0, 1) := by decide +kernel
theorem dX12_sweepFor_31 : decode cX12_sweepFor 31 = .ok (.istore_n 3, 1) := by decide +kernel
theorem dX12_sweepFor_32 : decode cX12_sweepFor 32 = .ok (.iconst (-1), 1) := by decide +kernel
theorem dX12_sweepFor_33 : decode cX12_sweepFor 33 = .ok (.istore 4, 2) := by decide +kernel
theorem dX12_sweepFor_35 : decode cX12_sweepFor 35 = .ok (.iconst 1, 1) := by decide +kernel
theorem dX12_sweepFor_36 : decode cX12_sweepFor 36 = .ok (.istore 5, 2) := by decide +kernel
theorem dX12_sweepFor_38 : decode cX12_sweepFor 38 = .ok (.iload 5, 2) := by decide +kernel
theorem dX12_sweepFor_40 : decode cX12_sweepFor 40 = .ok (.bipush 30, 2) := by decide +kernel
theorem dX12_sweepFor_42 : decode cX12_sweepFor 42 = .ok (.if_icmp .gt 43, 3) := by decide +kernel
theorem dX12_sweepFor_45 : decode cX12_sweepFor 45 = .ok (.aload_n 0, 1) := by decide +kernel
theorem dX12_sweepFor_46 : decode cX12_sweepFor 46 = .ok (.getfield 7, 3) := by decide +kernel
theorem dX12_sweepFor_49 : decode cX12_sweepFor 49 = .ok (.iconst 3, 1) := by decide +kernel
theorem dX12_sweepFor_50 : decode cX12_sweepFor 50 = .ok (.iload 5, 2) := by decide +kernel
theorem dX12_sweepFor_52 : decode cX12_sweepFor 52 = .ok (.iastore, 1) := by decide +kernel
theorem dX12_sweepFor_53 : decode cX12_sweepFor 53 = .ok (.aload_n 0, 1) := by decide +kernel
theorem dX12_sweepFor_54 : decode cX12_sweepFor 54 = .ok (.iload_n 2, 1) := by decide +kernel
theorem dX12_sweepFor_55 : decode cX12_sweepFor 55 = .ok (.iload_n 1, 1) := by decide +kernel
theorem dX12_sweepFor_56 : decode cX12_sweepFor 56 = .ok (.iconst 5, 1) := by decide +kernel
theorem dX12_sweepFor_57 : decode cX12_sweepFor 57 = .ok (.invokestatic 229, 3) := by decide +kernel
theorem dX12_sweepFor_60 : decode cX12_sweepFor 60 = .ok (.invokevirtual 232, 3) := by decide +kernel
theorem dX12_sweepFor_63 : decode cX12_sweepFor 63 = .ok (.istore 6, 2) := by decide +kernel
theorem dX12_sweepFor_65 : decode cX12_sweepFor 65 = .ok (.iload 6, 2) := by decide +kernel
theorem dX12_sweepFor_67 : decode cX12_sweepFor 67 = .ok (.iload 4, 2) := by decide +kernel
theorem dX12_sweepFor_69 : decode cX12_sweepFor 69 = .ok (.if_icmp .le 10, 3) := by decide +kernel
theorem dX12_sweepFor_72 : decode cX12_sweepFor 72 = .ok (.iload 5, 2) := by decide +kernel
theorem dX12_sweepFor_74 : decode cX12_sweepFor 74 = .ok (.istore_n 3, 1) := by decide +kernel
theorem dX12_sweepFor_75 : decode cX12_sweepFor 75 = .ok (.iload 6, 2) := by decide +kernel
theorem dX12_sweepFor_77 : decode cX12_sweepFor 77 = .ok (.istore 4, 2) := by decide +kernel
theorem dX12_sweepFor_79 : decode cX12_sweepFor 79 = .ok (.iinc 5 1, 3) := by decide +kernel
theorem dX12_sweepFor_82 : decode cX12_sweepFor 82 = .ok (.goto (-44), 3) := by decide +kernel
theorem dX12_sweepFor_85 : decode cX12_sweepFor 85 = .ok (.iload_n 3, 1) := by decide +kernel
theorem dX12_sweepFor_86 : decode cX12_sweepFor 86 = .ok (.ireturn, 1) := by decide +kernel
theorem dX12_whence_0 : decode cX12_whence 0 = .ok (.iload_n 1, 1) := by decide +kernel
theorem dX12_whence_1 : decode cX12_whence 1 = .ok (.invokestatic 243, 3) := by decide +kernel
theorem dX12_whence_4 : decode cX12_whence 4 = .ok (.ifCond .eq 21, 3) := by decide +kernel
theorem dX12_whence_7 : decode cX12_whence 7 = .ok (.aload_n 0, 1) := by decide +kernel
theorem dX12_whence_8 : decode cX12_whence 8 = .ok (.iload_n 2, 1) := by decide +kernel
theorem dX12_whence_9 : decode cX12_whence 9 = .ok (.invokevirtual 199, 3) := by decide +kernel
theorem dX12_whence_12 : decode cX12_whence 12 = .ok (.ifCond .eq 13, 3) := by decide +kernel
theorem dX12_whence_15 : decode cX12_whence 15 = .ok (.iload_n 3, 1) := by decide +kernel
theorem dX12_whence_16 : decode cX12_whence 16 = .ok (.i2l, 1) := by decide +kernel
theorem dX12_whence_17 : decode cX12_whence 17 = .ok (.lconst 0, 1) := by decide +kernel
theorem dX12_whence_18 : decode cX12_whence 18 = .ok (.lconst 1, 1) := by decide +kernel
theorem dX12_whence_19 : decode cX12_whence 19 = .ok (.invokestatic 47, 3) := by decide +kernel
theorem dX12_whence_22 : decode cX12_whence 22 = .ok (.ifCond .ne 9, 3) := by decide +kernel
theorem dX12_whence_25 : decode cX12_whence 25 = .ok (.aload_n 0, 1) := by decide +kernel
theorem dX12_whence_26 : decode cX12_whence 26 = .ok (.iconst 1, 1) := by decide +kernel
theorem dX12_whence_27 : decode cX12_whence 27 = .ok (.invokevirtual 126, 3) := by decide +kernel
theorem dX12_whence_30 : decode cX12_whence 30 = .ok (.ireturn, 1) := by decide +kernel
theorem dX12_whence_31 : decode cX12_whence 31 = .ok (.aload_n 0, 1) := by decide +kernel
theorem dX12_whence_32 : decode cX12_whence 32 = .ok (.getfield 34, 3) := by decide +kernel
theorem dX12_whence_35 : decode cX12_whence 35 = .ok (.iload_n 1, 1) := by decide +kernel
theorem dX12_whence_36 : decode cX12_whence 36 = .ok (.iaload, 1) := by decide +kernel
theorem dX12_whence_37 : decode cX12_whence 37 = .ok (.ifCond .ne 9, 3) := by decide +kernel
theorem dX12_whence_40 : decode cX12_whence 40 = .ok (.aload_n 0, 1) := by decide +kernel
theorem dX12_whence_41 : decode cX12_whence 41 = .ok (.iconst 2, 1) := by decide +kernel
theorem dX12_whence_42 : decode cX12_whence 42 = .ok (.invokevirtual 126, 3) := by decide +kernel
theorem dX12_whence_45 : decode cX12_whence 45 = .ok (.ireturn, 1) := by decide +kernel
theorem dX12_whence_46 : decode cX12_whence 46 = .ok (.aload_n 0, 1) := by decide +kernel
theorem dX12_whence_47 : decode cX12_whence 47 = .ok (.invokevirtual 226, 3) := by decide +kernel
theorem dX12_whence_50 : decode cX12_whence 50 = .ok (.iconst 0, 1) := by decide +kernel
theorem dX12_whence_51 : decode cX12_whence 51 = .ok (.istore 4, 2) := by decide +kernel
theorem dX12_whence_53 : decode cX12_whence 53 = .ok (.iconst 0, 1) := by decide +kernel
theorem dX12_whence_54 : decode cX12_whence 54 = .ok (.istore 5, 2) := by decide +kernel
theorem dX12_whence_56 : decode cX12_whence 56 = .ok (.iconst 0, 1) := by decide +kernel
theorem dX12_whence_57 : decode cX12_whence 57 = .ok (.istore 6, 2) := by decide +kernel
theorem dX12_whence_59 : decode cX12_whence 59 = .ok (.iload 6, 2) := by decide +kernel
theorem dX12_whence_61 : decode cX12_whence 61 = .ok (.bipush 112, 2) := by decide +kernel
theorem dX12_whence_63 : decode cX12_whence 63 = .ok (.if_icmp .ge 148, 3) := by decide +kernel
theorem dX12_whence_66 : decode cX12_whence 66 = .ok (.aload_n 0, 1) := by decide +kernel
theorem dX12_whence_67 : decode cX12_whence 67 = .ok (.iload_n 2, 1) := by decide +kernel
theorem dX12_whence_68 : decode cX12_whence 68 = .ok (.iconst 0, 1) := by decide +kernel
theorem dX12_whence_69 : decode cX12_whence 69 = .ok (.iload 6, 2) := by decide +kernel
theorem dX12_whence_71 : decode cX12_whence 71 = .ok (.bipush 16, 2) := by decide +kernel
theorem dX12_whence_73 : decode cX12_whence 73 = .ok (.idiv, 1) := by decide +kernel
theorem dX12_whence_74 : decode cX12_whence 74 = .ok (.invokevirtual 164, 3) := by decide +kernel
theorem dX12_whence_77 : decode cX12_whence 77 = .ok (.aload_n 0, 1) := by decide +kernel
theorem dX12_whence_78 : decode cX12_whence 78 = .ok (.iload_n 2, 1) := by decide +kernel
theorem dX12_whence_79 : decode cX12_whence 79 = .ok (.iconst 3, 1) := by decide +kernel
theorem dX12_whence_80 : decode cX12_whence 80 = .ok (.iconst 0, 1) := by decide +kernel
theorem dX12_whence_81 : decode cX12_whence 81 = .ok (.invokevirtual 164, 3) := by decide +kernel
theorem dX12_whence_84 : decode cX12_whence 84 = .ok (.aload_n 0, 1) := by decide +kernel
theorem dX12_whence_85 : decode cX12_whence 85 = .ok (.iload_n 2, 1) := by decide +kernel
theorem dX12_whence_86 : decode cX12_whence 86 = .ok (.iconst 4, 1) := by decide +kernel
theorem dX12_whence_87 : decode cX12_whence 87 = .ok (.iload 6, 2) := by decide +kernel
theorem dX12_whence_89 : decode cX12_whence 89 = .ok (.bipush 16, 2) := by decide +kernel
theorem dX12_whence_91 : decode cX12_whence 91 = .ok (.irem, 1) := by decide +kernel
theorem dX12_whence_92 : decode cX12_whence 92 = .ok (.invokevirtual 164, 3) := by decide +kernel
theorem dX12_whence_95 : decode cX12_whence 95 = .ok (.iconst 1, 1) := by decide +kernel
theorem dX12_whence_96 : decode cX12_whence 96 = .ok (.istore 7, 2) := by decide +kernel
theorem dX12_whence_98 : decode cX12_whence 98 = .ok (.iconst 0, 1) := by decide +kernel
theorem dX12_whence_99 : decode cX12_whence 99 = .ok (.istore 8, 2) := by decide +kernel
theorem dX12_whence_101 : decode cX12_whence 101 = .ok (.iload 8, 2) := by decide +kernel
theorem dX12_whence_103 : decode cX12_whence 103 = .ok (.aload_n 0, 1) := by decide +kernel
theorem dX12_whence_104 : decode cX12_whence 104 = .ok (.getfield 37, 3) := by decide +kernel
theorem dX12_whence_107 : decode cX12_whence 107 = .ok (.iload_n 1, 1) := by decide +kernel
theorem dX12_whence_108 : decode cX12_whence 108 = .ok (.iaload, 1) := by decide +kernel
theorem dX12_whence_109 : decode cX12_whence 109 = .ok (.if_icmp .ge 46, 3) := by decide +kernel
theorem dX12_whence_112 : decode cX12_whence 112 = .ok (.iload 7, 2) := by decide +kernel
theorem dX12_whence_114 : decode cX12_whence 114 = .ok (.ifCond .eq 41, 3) := by decide +kernel
theorem dX12_whence_117 : decode cX12_whence 117 = .ok (.aload_n 0, 1) := by decide +kernel
theorem dX12_whence_118 : decode cX12_whence 118 = .ok (.invokevirtual 171, 3) := by decide +kernel
theorem dX12_whence_121 : decode cX12_whence 121 = .ok (.aload_n 0, 1) := by decide +kernel
theorem dX12_whence_122 : decode cX12_whence 122 = .ok (.getfield 40, 3) := by decide +kernel
theorem dX12_whence_125 : decode cX12_whence 125 = .ok (.bipush 40, 2) := by decide +kernel
theorem dX12_whence_127 : decode cX12_whence 127 = .ok (.iload_n 1, 1) := by decide +kernel
theorem dX12_whence_128 : decode cX12_whence 128 = .ok (.imul, 1) := by decide +kernel
theorem dX12_whence_129 : decode cX12_whence 129 = .ok (.iload 8, 2) := by decide +kernel
theorem dX12_whence_131 : decode cX12_whence 131 = .ok (.iadd, 1) := by decide +kernel
theorem dX12_whence_132 : decode cX12_whence 132 = .ok (.iaload, 1) := by decide +kernel
theorem dX12_whence_133 : decode cX12_whence 133 = .ok (.aload_n 0, 1) := by decide +kernel
theorem dX12_whence_134 : decode cX12_whence 134 = .ok (.iload_n 2, 1) := by decide +kernel
theorem dX12_whence_135 : decode cX12_whence 135 = .ok (.iconst 4, 1) := by decide +kernel
theorem dX12_whence_136 : decode cX12_whence 136 = .ok (.invokevirtual 146, 3) := by decide +kernel
theorem dX12_whence_139 : decode cX12_whence 139 = .ok (.if_icmp .ne 7, 3) := by decide +kernel
theorem dX12_whence_142 : decode cX12_whence 142 = .ok (.iconst 1, 1) := by decide +kernel
theorem dX12_whence_143 : decode cX12_whence 143 = .ok (.goto 4, 3) := by decide +kernel
theorem dX12_whence_146 : decode cX12_whence 146 = .ok (.iconst 0, 1) := by decide +kernel
theorem dX12_whence_147 : decode cX12_whence 147 = .ok (.istore 7, 2) := by decide +kernel
theorem dX12_whence_149 : decode cX12_whence 149 = .ok (.iinc 8 1, 3) := by decide +kernel
theorem dX12_whence_152 : decode cX12_whence 152 = .ok (.goto (-51), 3) := by decide +kernel
theorem dX12_whence_155 : decode cX12_whence 155 = .ok (.aload_n 0, 1) := by decide +kernel
theorem dX12_whence_156 : decode cX12_whence 156 = .ok (.invokevirtual 223, 3) := by decide +kernel
theorem dX12_whence_159 : decode cX12_whence 159 = .ok (.iload 7, 2) := by decide +kernel
theorem dX12_whence_161 : decode cX12_whence 161 = .ok (.ifCond .eq 25, 3) := by decide +kernel
theorem dX12_whence_164 : decode cX12_whence 164 = .ok (.iload 4, 2) := by decide +kernel
theorem dX12_whence_166 : decode cX12_whence 166 = .ok (.ifCond .ne 20, 3) := by decide +kernel
theorem dX12_whence_169 : decode cX12_whence 169 = .ok (.bipush 100, 2) := by decide +kernel
theorem dX12_whence_171 : decode cX12_whence 171 = .ok (.iload 6, 2) := by decide +kernel
theorem dX12_whence_173 : decode cX12_whence 173 = .ok (.bipush 16, 2) := by decide +kernel
theorem dX12_whence_175 : decode cX12_whence 175 = .ok (.idiv, 1) := by decide +kernel
theorem dX12_whence_176 : decode cX12_whence 176 = .ok (.imul, 1) := by decide +kernel
theorem dX12_whence_177 : decode cX12_whence 177 = .ok (.iload 6, 2) := by decide +kernel
theorem dX12_whence_179 : decode cX12_whence 179 = .ok (.bipush 16, 2) := by decide +kernel
theorem dX12_whence_181 : decode cX12_whence 181 = .ok (.irem, 1) := by decide +kernel
theorem dX12_whence_182 : decode cX12_whence 182 = .ok (.iadd, 1) := by decide +kernel
theorem dX12_whence_183 : decode cX12_whence 183 = .ok (.goto 5, 3) := by decide +kernel
theorem dX12_whence_186 : decode cX12_whence 186 = .ok (.iload 5, 2) := by decide +kernel
theorem dX12_whence_188 : decode cX12_whence 188 = .ok (.istore 5, 2) := by decide +kernel
theorem dX12_whence_190 : decode cX12_whence 190 = .ok (.iload 4, 2) := by decide +kernel
theorem dX12_whence_192 : decode cX12_whence 192 = .ok (.iload 7, 2) := by decide +kernel
theorem dX12_whence_194 : decode cX12_whence 194 = .ok (.ifCond .eq 7, 3) := by decide +kernel
theorem dX12_whence_197 : decode cX12_whence 197 = .ok (.iconst 1, 1) := by decide +kernel
theorem dX12_whence_198 : decode cX12_whence 198 = .ok (.goto 4, 3) := by decide +kernel
theorem dX12_whence_201 : decode cX12_whence 201 = .ok (.iconst 0, 1) := by decide +kernel
theorem dX12_whence_202 : decode cX12_whence 202 = .ok (.iadd, 1) := by decide +kernel
theorem dX12_whence_203 : decode cX12_whence 203 = .ok (.istore 4, 2) := by decide +kernel
theorem dX12_whence_205 : decode cX12_whence 205 = .ok (.iinc 6 1, 3) := by decide +kernel
theorem dX12_whence_208 : decode cX12_whence 208 = .ok (.goto (-149), 3) := by decide +kernel
theorem dX12_whence_211 : decode cX12_whence 211 = .ok (.iload_n 3, 1) := by decide +kernel
theorem dX12_whence_212 : decode cX12_whence 212 = .ok (.ifCond .ne 8, 3) := by decide +kernel
theorem dX12_whence_215 : decode cX12_whence 215 = .ok (.iload 4, 2) := by decide +kernel
theorem dX12_whence_217 : decode cX12_whence 217 = .ok (.goto 18, 3) := by decide +kernel
theorem dX12_whence_220 : decode cX12_whence 220 = .ok (.iload 4, 2) := by decide +kernel
theorem dX12_whence_222 : decode cX12_whence 222 = .ok (.ifCond .ne 11, 3) := by decide +kernel
theorem dX12_whence_225 : decode cX12_whence 225 = .ok (.aload_n 0, 1) := by decide +kernel
theorem dX12_whence_226 : decode cX12_whence 226 = .ok (.iconst 2, 1) := by decide +kernel
theorem dX12_whence_227 : decode cX12_whence 227 = .ok (.invokevirtual 126, 3) := by decide +kernel
theorem dX12_whence_230 : decode cX12_whence 230 = .ok (.goto 5, 3) := by decide +kernel
theorem dX12_whence_233 : decode cX12_whence 233 = .ok (.iload 5, 2) := by decide +kernel
theorem dX12_whence_235 : decode cX12_whence 235 = .ok (.ireturn, 1) := by decide +kernel
theorem dX12_bare_0 : decode cX12_bare 0 = .ok (.iload_n 1, 1) := by decide +kernel
theorem dX12_bare_1 : decode cX12_bare 1 = .ok (.i2l, 1) := by decide +kernel
theorem dX12_bare_2 : decode cX12_bare 2 = .ok (.lconst 0, 1) := by decide +kernel
theorem dX12_bare_3 : decode cX12_bare 3 = .ok (.ldc2_w 212, 3) := by decide +kernel
theorem dX12_bare_6 : decode cX12_bare 6 = .ok (.invokestatic 47, 3) := by decide +kernel
theorem dX12_bare_9 : decode cX12_bare 9 = .ok (.ifCond .ne 9, 3) := by decide +kernel
theorem dX12_bare_12 : decode cX12_bare 12 = .ok (.aload_n 0, 1) := by decide +kernel
theorem dX12_bare_13 : decode cX12_bare 13 = .ok (.iconst 1, 1) := by decide +kernel
theorem dX12_bare_14 : decode cX12_bare 14 = .ok (.invokevirtual 126, 3) := by decide +kernel
theorem dX12_bare_17 : decode cX12_bare 17 = .ok (.ireturn, 1) := by decide +kernel
theorem dX12_bare_18 : decode cX12_bare 18 = .ok (.aload_n 0, 1) := by decide +kernel
theorem dX12_bare_19 : decode cX12_bare 19 = .ok (.invokevirtual 226, 3) := by decide +kernel
theorem dX12_bare_22 : decode cX12_bare 22 = .ok (.aload_n 0, 1) := by decide +kernel
theorem dX12_bare_23 : decode cX12_bare 23 = .ok (.iload_n 1, 1) := by decide +kernel
theorem dX12_bare_24 : decode cX12_bare 24 = .ok (.invokevirtual 214, 3) := by decide +kernel
theorem dX12_bare_27 : decode cX12_bare 27 = .ok (.iconst 0, 1) := by decide +kernel
theorem dX12_bare_28 : decode cX12_bare 28 = .ok (.istore_n 2, 1) := by decide +kernel
theorem dX12_bare_29 : decode cX12_bare 29 = .ok (.iconst 0, 1) := by decide +kernel
theorem dX12_bare_30 : decode cX12_bare 30 = .ok (.istore_n 3, 1) := by decide +kernel
theorem dX12_bare_31 : decode cX12_bare 31 = .ok (.iload_n 3, 1) := by decide +kernel
theorem dX12_bare_32 : decode cX12_bare 32 = .ok (.bipush 16, 2) := by decide +kernel
theorem dX12_bare_34 : decode cX12_bare 34 = .ok (.if_icmp .ge 27, 3) := by decide +kernel
theorem dX12_bare_37 : decode cX12_bare 37 = .ok (.iload_n 2, 1) := by decide +kernel
theorem dX12_bare_38 : decode cX12_bare 38 = .ok (.aload_n 0, 1) := by decide +kernel
theorem dX12_bare_39 : decode cX12_bare 39 = .ok (.iload_n 3, 1) := by decide +kernel
theorem dX12_bare_40 : decode cX12_bare 40 = .ok (.invokevirtual 184, 3) := by decide +kernel
theorem dX12_bare_43 : decode cX12_bare 43 = .ok (.ifCond .ne 9, 3) := by decide +kernel
theorem dX12_bare_46 : decode cX12_bare 46 = .ok (.iconst 1, 1) := by decide +kernel
theorem dX12_bare_47 : decode cX12_bare 47 = .ok (.iload_n 3, 1) := by decide +kernel
theorem dX12_bare_48 : decode cX12_bare 48 = .ok (.ishl, 1) := by decide +kernel
theorem dX12_bare_49 : decode cX12_bare 49 = .ok (.goto 4, 3) := by decide +kernel
theorem dX12_bare_52 : decode cX12_bare 52 = .ok (.iconst 0, 1) := by decide +kernel
theorem dX12_bare_53 : decode cX12_bare 53 = .ok (.ior, 1) := by decide +kernel
theorem dX12_bare_54 : decode cX12_bare 54 = .ok (.istore_n 2, 1) := by decide +kernel
theorem dX12_bare_55 : decode cX12_bare 55 = .ok (.iinc 3 1, 3) := by decide +kernel
theorem dX12_bare_58 : decode cX12_bare 58 = .ok (.goto (-27), 3) := by decide +kernel
theorem dX12_bare_61 : decode cX12_bare 61 = .ok (.aload_n 0, 1) := by decide +kernel
theorem dX12_bare_62 : decode cX12_bare 62 = .ok (.invokevirtual 223, 3) := by decide +kernel
theorem dX12_bare_65 : decode cX12_bare 65 = .ok (.iload_n 2, 1) := by decide +kernel
theorem dX12_bare_66 : decode cX12_bare 66 = .ok (.ireturn, 1) := by decide +kernel
theorem dX12_crowd_0 : decode cX12_crowd 0 = .ok (.iload_n 1, 1) := by decide +kernel
theorem dX12_crowd_1 : decode cX12_crowd 1 = .ok (.i2l, 1) := by decide +kernel
theorem dX12_crowd_2 : decode cX12_crowd 2 = .ok (.lconst 0, 1) := by decide +kernel
theorem dX12_crowd_3 : decode cX12_crowd 3 = .ok (.ldc2_w 212, 3) := by decide +kernel
theorem dX12_crowd_6 : decode cX12_crowd 6 = .ok (.invokestatic 47, 3) := by decide +kernel
theorem dX12_crowd_9 : decode cX12_crowd 9 = .ok (.ifCond .eq 13, 3) := by decide +kernel
theorem dX12_crowd_12 : decode cX12_crowd 12 = .ok (.iload_n 2, 1) := by decide +kernel
theorem dX12_crowd_13 : decode cX12_crowd 13 = .ok (.i2l, 1) := by decide +kernel
theorem dX12_crowd_14 : decode cX12_crowd 14 = .ok (.lconst 0, 1) := by decide +kernel
theorem dX12_crowd_15 : decode cX12_crowd 15 = .ok (.lconst 1, 1) := by decide +kernel
theorem dX12_crowd_16 : decode cX12_crowd 16 = .ok (.invokestatic 47, 3) := by decide +kernel
theorem dX12_crowd_19 : decode cX12_crowd 19 = .ok (.ifCond .ne 9, 3) := by decide +kernel
theorem dX12_crowd_22 : decode cX12_crowd 22 = .ok (.aload_n 0, 1) := by decide +kernel
theorem dX12_crowd_23 : decode cX12_crowd 23 = .ok (.iconst 1, 1) := by decide +kernel
theorem dX12_crowd_24 : decode cX12_crowd 24 = .ok (.invokevirtual 126, 3) := by decide +kernel
theorem dX12_crowd_27 : decode cX12_crowd 27 = .ok (.ireturn, 1) := by decide +kernel
theorem dX12_crowd_28 : decode cX12_crowd 28 = .ok (.aload_n 0, 1) := by decide +kernel
theorem dX12_crowd_29 : decode cX12_crowd 29 = .ok (.invokevirtual 226, 3) := by decide +kernel
theorem dX12_crowd_32 : decode cX12_crowd 32 = .ok (.aload_n 0, 1) := by decide +kernel
theorem dX12_crowd_33 : decode cX12_crowd 33 = .ok (.iload_n 1, 1) := by decide +kernel
theorem dX12_crowd_34 : decode cX12_crowd 34 = .ok (.invokevirtual 214, 3) := by decide +kernel
theorem dX12_crowd_37 : decode cX12_crowd 37 = .ok (.iconst 0, 1) := by decide +kernel
theorem dX12_crowd_38 : decode cX12_crowd 38 = .ok (.istore_n 3, 1) := by decide +kernel
theorem dX12_crowd_39 : decode cX12_crowd 39 = .ok (.iconst 1, 1) := by decide +kernel
theorem dX12_crowd_40 : decode cX12_crowd 40 = .ok (.istore 4, 2) := by decide +kernel
theorem dX12_crowd_42 : decode cX12_crowd 42 = .ok (.iload 4, 2) := by decide +kernel
theorem dX12_crowd_44 : decode cX12_crowd 44 = .ok (.bipush 16, 2) := by decide +kernel
theorem dX12_crowd_46 : decode cX12_crowd 46 = .ok (.if_icmp .ge 36, 3) := by decide +kernel
theorem dX12_crowd_49 : decode cX12_crowd 49 = .ok (.aload_n 0, 1) := by decide +kernel
theorem dX12_crowd_50 : decode cX12_crowd 50 = .ok (.iload 4, 2) := by decide +kernel
theorem dX12_crowd_52 : decode cX12_crowd 52 = .ok (.invokevirtual 184, 3) := by decide +kernel
theorem dX12_crowd_55 : decode cX12_crowd 55 = .ok (.invokestatic 246, 3) := by decide +kernel
theorem dX12_crowd_58 : decode cX12_crowd 58 = .ok (.aload_n 0, 1) := by decide +kernel
theorem dX12_crowd_59 : decode cX12_crowd 59 = .ok (.iload_n 3, 1) := by decide +kernel
theorem dX12_crowd_60 : decode cX12_crowd 60 = .ok (.invokevirtual 184, 3) := by decide +kernel
theorem dX12_crowd_63 : decode cX12_crowd 63 = .ok (.invokestatic 246, 3) := by decide +kernel
theorem dX12_crowd_66 : decode cX12_crowd 66 = .ok (.if_icmp .le 8, 3) := by decide +kernel
theorem dX12_crowd_69 : decode cX12_crowd 69 = .ok (.iload 4, 2) := by decide +kernel
theorem dX12_crowd_71 : decode cX12_crowd 71 = .ok (.goto 4, 3) := by decide +kernel
theorem dX12_crowd_74 : decode cX12_crowd 74 = .ok (.iload_n 3, 1) := by decide +kernel
theorem dX12_crowd_75 : decode cX12_crowd 75 = .ok (.istore_n 3, 1) := by decide +kernel
theorem dX12_crowd_76 : decode cX12_crowd 76 = .ok (.iinc 4 1, 3) := by decide +kernel
theorem dX12_crowd_79 : decode cX12_crowd 79 = .ok (.goto (-37), 3) := by decide +kernel
theorem dX12_crowd_82 : decode cX12_crowd 82 = .ok (.iload_n 2, 1) := by decide +kernel
theorem dX12_crowd_83 : decode cX12_crowd 83 = .ok (.ifCond .ne 7, 3) := by decide +kernel
theorem dX12_crowd_86 : decode cX12_crowd 86 = .ok (.iload_n 3, 1) := by decide +kernel
theorem dX12_crowd_87 : decode cX12_crowd 87 = .ok (.goto 11, 3) := by decide +kernel
theorem dX12_crowd_90 : decode cX12_crowd 90 = .ok (.aload_n 0, 1) := by decide +kernel
theorem dX12_crowd_91 : decode cX12_crowd 91 = .ok (.iload_n 3, 1) := by decide +kernel
theorem dX12_crowd_92 : decode cX12_crowd 92 = .ok (.invokevirtual 184, 3) := by decide +kernel
theorem dX12_crowd_95 : decode cX12_crowd 95 = .ok (.invokestatic 246, 3) := by decide +kernel
theorem dX12_crowd_98 : decode cX12_crowd 98 = .ok (.istore 4, 2) := by decide +kernel
theorem dX12_crowd_100 : decode cX12_crowd 100 = .ok (.aload_n 0, 1) := by decide +kernel
theorem dX12_crowd_101 : decode cX12_crowd 101 = .ok (.invokevirtual 223, 3) := by decide +kernel
theorem dX12_crowd_104 : decode cX12_crowd 104 = .ok (.iload 4, 2) := by decide +kernel
theorem dX12_crowd_106 : decode cX12_crowd 106 = .ok (.ireturn, 1) := by decide +kernel
theorem dX12_light_0 : decode cX12_light 0 = .ok (.iload_n 1, 1) := by decide +kernel
theorem dX12_light_1 : decode cX12_light 1 = .ok (.i2l, 1) := by decide +kernel
theorem dX12_light_2 : decode cX12_light 2 = .ok (.lconst 0, 1) := by decide +kernel
theorem dX12_light_3 : decode cX12_light 3 = .ok (.ldc2_w 212, 3) := by decide +kernel
theorem dX12_light_6 : decode cX12_light 6 = .ok (.invokestatic 47, 3) := by decide +kernel
theorem dX12_light_9 : decode cX12_light 9 = .ok (.ifCond .ne 9, 3) := by decide +kernel
theorem dX12_light_12 : decode cX12_light 12 = .ok (.aload_n 0, 1) := by decide +kernel
theorem dX12_light_13 : decode cX12_light 13 = .ok (.iconst 1, 1) := by decide +kernel
theorem dX12_light_14 : decode cX12_light 14 = .ok (.invokevirtual 126, 3) := by decide +kernel
theorem dX12_light_17 : decode cX12_light 17 = .ok (.ireturn, 1) := by decide +kernel
theorem dX12_light_18 : decode cX12_light 18 = .ok (.aload_n 0, 1) := by decide +kernel
theorem dX12_light_19 : decode cX12_light 19 = .ok (.invokevirtual 226, 3) := by decide +kernel
theorem dX12_light_22 : decode cX12_light 22 = .ok (.aload_n 0, 1) := by decide +kernel
theorem dX12_light_23 : decode cX12_light 23 = .ok (.iload_n 1, 1) := by decide +kernel
theorem dX12_light_24 : decode cX12_light 24 = .ok (.iconst 4, 1) := by decide +kernel
theorem dX12_light_25 : decode cX12_light 25 = .ok (.invokevirtual 232, 3) := by decide +kernel
theorem dX12_light_28 : decode cX12_light 28 = .ok (.aload_n 0, 1) := by decide +kernel
theorem dX12_light_29 : decode cX12_light 29 = .ok (.getfield 7, 3) := by decide +kernel
theorem dX12_light_32 : decode cX12_light 32 = .ok (.iconst 4, 1) := by decide +kernel
theorem dX12_light_33 : decode cX12_light 33 = .ok (.iaload, 1) := by decide +kernel
theorem dX12_light_34 : decode cX12_light 34 = .ok (.isub, 1) := by decide +kernel
theorem dX12_light_35 : decode cX12_light 35 = .ok (.ireturn, 1) := by decide +kernel
theorem dX12_areDust_0 : decode cX12_areDust 0 = .ok (.iconst 1, 1) := by decide +kernel
theorem dX12_areDust_1 : decode cX12_areDust 1 = .ok (.istore_n 2, 1) := by decide +kernel
theorem dX12_areDust_2 : decode cX12_areDust 2 = .ok (.iconst 0, 1) := by decide +kernel
theorem dX12_areDust_3 : decode cX12_areDust 3 = .ok (.istore_n 3, 1) := by decide +kernel
theorem dX12_areDust_4 : decode cX12_areDust 4 = .ok (.iload_n 3, 1) := by decide +kernel
theorem dX12_areDust_5 : decode cX12_areDust 5 = .ok (.aload_n 0, 1) := by decide +kernel
theorem dX12_areDust_6 : decode cX12_areDust 6 = .ok (.getfield 7, 3) := by decide +kernel
theorem dX12_areDust_9 : decode cX12_areDust 9 = .ok (.iconst 0, 1) := by decide +kernel
theorem dX12_areDust_10 : decode cX12_areDust 10 = .ok (.iaload, 1) := by decide +kernel
theorem dX12_areDust_11 : decode cX12_areDust 11 = .ok (.if_icmp .ge 35, 3) := by decide +kernel
theorem dX12_areDust_14 : decode cX12_areDust 14 = .ok (.iload_n 2, 1) := by decide +kernel
theorem dX12_areDust_15 : decode cX12_areDust 15 = .ok (.ifCond .eq 23, 3) := by decide +kernel
theorem dX12_areDust_18 : decode cX12_areDust 18 = .ok (.iload_n 1, 1) := by decide +kernel
theorem dX12_areDust_19 : decode cX12_areDust 19 = .ok (.iload_n 3, 1) := by decide +kernel
theorem dX12_areDust_20 : decode cX12_areDust 20 = .ok (.ishr, 1) := by decide +kernel
theorem dX12_areDust_21 : decode cX12_areDust 21 = .ok (.iconst 1, 1) := by decide +kernel
theorem dX12_areDust_22 : decode cX12_areDust 22 = .ok (.iand, 1) := by decide +kernel
theorem dX12_areDust_23 : decode cX12_areDust 23 = .ok (.ifCond .eq 11, 3) := by decide +kernel
theorem dX12_areDust_26 : decode cX12_areDust 26 = .ok (.aload_n 0, 1) := by decide +kernel
theorem dX12_areDust_27 : decode cX12_areDust 27 = .ok (.iload_n 3, 1) := by decide +kernel
theorem dX12_areDust_28 : decode cX12_areDust 28 = .ok (.invokevirtual 149, 3) := by decide +kernel
theorem dX12_areDust_31 : decode cX12_areDust 31 = .ok (.ifCond .eq 7, 3) := by decide +kernel
theorem dX12_areDust_34 : decode cX12_areDust 34 = .ok (.iconst 1, 1) := by decide +kernel
theorem dX12_areDust_35 : decode cX12_areDust 35 = .ok (.goto 4, 3) := by decide +kernel
theorem dX12_areDust_38 : decode cX12_areDust 38 = .ok (.iconst 0, 1) := by decide +kernel
theorem dX12_areDust_39 : decode cX12_areDust 39 = .ok (.istore_n 2, 1) := by decide +kernel
theorem dX12_areDust_40 : decode cX12_areDust 40 = .ok (.iinc 3 1, 3) := by decide +kernel
theorem dX12_areDust_43 : decode cX12_areDust 43 = .ok (.goto (-39), 3) := by decide +kernel
theorem dX12_areDust_46 : decode cX12_areDust 46 = .ok (.iload_n 2, 1) := by decide +kernel
theorem dX12_areDust_47 : decode cX12_areDust 47 = .ok (.ireturn, 1) := by decide +kernel
theorem dX12_late_0 : decode cX12_late 0 = .ok (.iload_n 1, 1) := by decide +kernel
theorem dX12_late_1 : decode cX12_late 1 = .ok (.i2l, 1) := by decide +kernel
theorem dX12_late_2 : decode cX12_late 2 = .ok (.lconst 0, 1) := by decide +kernel
theorem dX12_late_3 : decode cX12_late 3 = .ok (.iconst 1, 1) := by decide +kernel
theorem dX12_late_4 : decode cX12_late 4 = .ok (.aload_n 0, 1) := by decide +kernel
theorem dX12_late_5 : decode cX12_late 5 = .ok (.getfield 7, 3) := by decide +kernel
theorem dX12_late_8 : decode cX12_late 8 = .ok (.iconst 0, 1) := by decide +kernel
theorem dX12_late_9 : decode cX12_late 9 = .ok (.iaload, 1) := by decide +kernel
theorem dX12_late_10 : decode cX12_late 10 = .ok (.ishl, 1) := by decide +kernel
theorem dX12_late_11 : decode cX12_late 11 = .ok (.iconst 1, 1) := by decide +kernel
theorem dX12_late_12 : decode cX12_late 12 = .ok (.isub, 1) := by decide +kernel
theorem dX12_late_13 : decode cX12_late 13 = .ok (.i2l, 1) := by decide +kernel
theorem dX12_late_14 : decode cX12_late 14 = .ok (.invokestatic 47, 3) := by decide +kernel
theorem dX12_late_17 : decode cX12_late 17 = .ok (.ifCond .ne 9, 3) := by decide +kernel
theorem dX12_late_20 : decode cX12_late 20 = .ok (.aload_n 0, 1) := by decide +kernel
theorem dX12_late_21 : decode cX12_late 21 = .ok (.iconst 1, 1) := by decide +kernel
theorem dX12_late_22 : decode cX12_late 22 = .ok (.invokevirtual 126, 3) := by decide +kernel
theorem dX12_late_25 : decode cX12_late 25 = .ok (.ireturn, 1) := by decide +kernel
theorem dX12_late_26 : decode cX12_late 26 = .ok (.aload_n 0, 1) := by decide +kernel
theorem dX12_late_27 : decode cX12_late 27 = .ok (.invokevirtual 226, 3) := by decide +kernel
theorem dX12_late_30 : decode cX12_late 30 = .ok (.iconst 0, 1) := by decide +kernel
theorem dX12_late_31 : decode cX12_late 31 = .ok (.istore_n 2, 1) := by decide +kernel
theorem dX12_late_32 : decode cX12_late 32 = .ok (.iload_n 2, 1) := by decide +kernel
theorem dX12_late_33 : decode cX12_late 33 = .ok (.bipush 60, 2) := by decide +kernel
theorem dX12_late_35 : decode cX12_late 35 = .ok (.if_icmp .ge 21, 3) := by decide +kernel
theorem dX12_late_38 : decode cX12_late 38 = .ok (.aload_n 0, 1) := by decide +kernel
theorem dX12_late_39 : decode cX12_late 39 = .ok (.iload_n 1, 1) := by decide +kernel
theorem dX12_late_40 : decode cX12_late 40 = .ok (.invokevirtual 249, 3) := by decide +kernel
theorem dX12_late_43 : decode cX12_late 43 = .ok (.ifCond .ne 13, 3) := by decide +kernel
theorem dX12_late_46 : decode cX12_late 46 = .ok (.aload_n 0, 1) := by decide +kernel
theorem dX12_late_47 : decode cX12_late 47 = .ok (.invokevirtual 171, 3) := by decide +kernel
theorem dX12_late_50 : decode cX12_late 50 = .ok (.iinc 2 1, 3) := by decide +kernel
theorem dX12_late_53 : decode cX12_late 53 = .ok (.goto (-21), 3) := by decide +kernel
theorem dX12_late_56 : decode cX12_late 56 = .ok (.aload_n 0, 1) := by decide +kernel
theorem dX12_late_57 : decode cX12_late 57 = .ok (.iload_n 1, 1) := by decide +kernel
theorem dX12_late_58 : decode cX12_late 58 = .ok (.invokevirtual 249, 3) := by decide +kernel
theorem dX12_late_61 : decode cX12_late 61 = .ok (.istore_n 3, 1) := by decide +kernel
theorem dX12_late_62 : decode cX12_late 62 = .ok (.aload_n 0, 1) := by decide +kernel
theorem dX12_late_63 : decode cX12_late 63 = .ok (.invokevirtual 223, 3) := by decide +kernel
theorem dX12_late_66 : decode cX12_late 66 = .ok (.iload_n 3, 1) := by decide +kernel
theorem dX12_late_67 : decode cX12_late 67 = .ok (.ifCond .eq 7, 3) := by decide +kernel
theorem dX12_late_70 : decode cX12_late 70 = .ok (.iload_n 2, 1) := by decide +kernel
theorem dX12_late_71 : decode cX12_late 71 = .ok (.goto 8, 3) := by decide +kernel
theorem dX12_late_74 : decode cX12_late 74 = .ok (.aload_n 0, 1) := by decide +kernel
theorem dX12_late_75 : decode cX12_late 75 = .ok (.iconst 2, 1) := by decide +kernel
theorem dX12_late_76 : decode cX12_late 76 = .ok (.invokevirtual 126, 3) := by decide +kernel
theorem dX12_late_79 : decode cX12_late 79 = .ok (.ireturn, 1) := by decide +kernel
theorem dX12_common_0 : decode cX12_common 0 = .ok (.iload_n 0, 1) := by decide +kernel
theorem dX12_common_1 : decode cX12_common 1 = .ok (.istore_n 2, 1) := by decide +kernel
theorem dX12_common_2 : decode cX12_common 2 = .ok (.iload_n 1, 1) := by decide +kernel
theorem dX12_common_3 : decode cX12_common 3 = .ok (.istore_n 3, 1) := by decide +kernel
theorem dX12_common_4 : decode cX12_common 4 = .ok (.iload_n 3, 1) := by decide +kernel
theorem dX12_common_5 : decode cX12_common 5 = .ok (.ifCond .eq 16, 3) := by decide +kernel
theorem dX12_common_8 : decode cX12_common 8 = .ok (.iload_n 2, 1) := by decide +kernel
theorem dX12_common_9 : decode cX12_common 9 = .ok (.iload_n 3, 1) := by decide +kernel
theorem dX12_common_10 : decode cX12_common 10 = .ok (.irem, 1) := by decide +kernel
theorem dX12_common_11 : decode cX12_common 11 = .ok (.istore 4, 2) := by decide +kernel
theorem dX12_common_13 : decode cX12_common 13 = .ok (.iload_n 3, 1) := by decide +kernel
theorem dX12_common_14 : decode cX12_common 14 = .ok (.istore_n 2, 1) := by decide +kernel
theorem dX12_common_15 : decode cX12_common 15 = .ok (.iload 4, 2) := by decide +kernel
theorem dX12_common_17 : decode cX12_common 17 = .ok (.istore_n 3, 1) := by decide +kernel
theorem dX12_common_18 : decode cX12_common 18 = .ok (.goto (-14), 3) := by decide +kernel
theorem dX12_common_21 : decode cX12_common 21 = .ok (.iload_n 2, 1) := by decide +kernel
theorem dX12_common_22 : decode cX12_common 22 = .ok (.ireturn, 1) := by decide +kernel
theorem dX12_odds_0 : decode cX12_odds 0 = .ok (.aload_n 0, 1) := by decide +kernel
theorem dX12_odds_1 : decode cX12_odds 1 = .ok (.iload_n 1, 1) := by decide +kernel
theorem dX12_odds_2 : decode cX12_odds 2 = .ok (.invokevirtual 199, 3) := by decide +kernel
theorem dX12_odds_5 : decode cX12_odds 5 = .ok (.ifCond .eq 25, 3) := by decide +kernel
theorem dX12_odds_8 : decode cX12_odds 8 = .ok (.iload_n 2, 1) := by decide +kernel
theorem dX12_odds_9 : decode cX12_odds 9 = .ok (.i2l, 1) := by decide +kernel
theorem dX12_odds_10 : decode cX12_odds 10 = .ok (.lconst 0, 1) := by decide +kernel
theorem dX12_odds_11 : decode cX12_odds 11 = .ok (.ldc2_w 212, 3) := by decide +kernel
theorem dX12_odds_14 : decode cX12_odds 14 = .ok (.invokestatic 47, 3) := by decide +kernel
theorem dX12_odds_17 : decode cX12_odds 17 = .ok (.ifCond .eq 13, 3) := by decide +kernel
theorem dX12_odds_20 : decode cX12_odds 20 = .ok (.iload_n 3, 1) := by decide +kernel
theorem dX12_odds_21 : decode cX12_odds 21 = .ok (.i2l, 1) := by decide +kernel
theorem dX12_odds_22 : decode cX12_odds 22 = .ok (.lconst 0, 1) := by decide +kernel
theorem dX12_odds_23 : decode cX12_odds 23 = .ok (.lconst 1, 1) := by decide +kernel
theorem dX12_odds_24 : decode cX12_odds 24 = .ok (.invokestatic 47, 3) := by decide +kernel
theorem dX12_odds_27 : decode cX12_odds 27 = .ok (.ifCond .ne 9, 3) := by decide +kernel
theorem dX12_odds_30 : decode cX12_odds 30 = .ok (.aload_n 0, 1) := by decide +kernel
theorem dX12_odds_31 : decode cX12_odds 31 = .ok (.iconst 1, 1) := by decide +kernel
theorem dX12_odds_32 : decode cX12_odds 32 = .ok (.invokevirtual 126, 3) := by decide +kernel
theorem dX12_odds_35 : decode cX12_odds 35 = .ok (.ireturn, 1) := by decide +kernel
theorem dX12_odds_36 : decode cX12_odds 36 = .ok (.aload_n 0, 1) := by decide +kernel
theorem dX12_odds_37 : decode cX12_odds 37 = .ok (.invokevirtual 226, 3) := by decide +kernel
theorem dX12_odds_40 : decode cX12_odds 40 = .ok (.iconst 0, 1) := by decide +kernel
theorem dX12_odds_41 : decode cX12_odds 41 = .ok (.istore 4, 2) := by decide +kernel
theorem dX12_odds_43 : decode cX12_odds 43 = .ok (.iconst 0, 1) := by decide +kernel
theorem dX12_odds_44 : decode cX12_odds 44 = .ok (.istore 5, 2) := by decide +kernel
theorem dX12_odds_46 : decode cX12_odds 46 = .ok (.iload 5, 2) := by decide +kernel
theorem dX12_odds_48 : decode cX12_odds 48 = .ok (.bipush 9, 2) := by decide +kernel
theorem dX12_odds_50 : decode cX12_odds 50 = .ok (.if_icmp .gt 44, 3) := by decide +kernel
theorem dX12_odds_53 : decode cX12_odds 53 = .ok (.aload_n 0, 1) := by decide +kernel
theorem dX12_odds_54 : decode cX12_odds 54 = .ok (.getfield 7, 3) := by decide +kernel
theorem dX12_odds_57 : decode cX12_odds 57 = .ok (.iconst 2, 1) := by decide +kernel
theorem dX12_odds_58 : decode cX12_odds 58 = .ok (.iload 5, 2) := by decide +kernel
theorem dX12_odds_60 : decode cX12_odds 60 = .ok (.iastore, 1) := by decide +kernel
theorem dX12_odds_61 : decode cX12_odds 61 = .ok (.aload_n 0, 1) := by decide +kernel
theorem dX12_odds_62 : decode cX12_odds 62 = .ok (.iload_n 2, 1) := by decide +kernel
theorem dX12_odds_63 : decode cX12_odds 63 = .ok (.invokevirtual 214, 3) := by decide +kernel
theorem dX12_odds_66 : decode cX12_odds 66 = .ok (.iload 4, 2) := by decide +kernel
theorem dX12_odds_68 : decode cX12_odds 68 = .ok (.aload_n 0, 1) := by decide +kernel
theorem dX12_odds_69 : decode cX12_odds 69 = .ok (.iload_n 1, 1) := by decide +kernel
theorem dX12_odds_70 : decode cX12_odds 70 = .ok (.invokevirtual 202, 3) := by decide +kernel
theorem dX12_odds_73 : decode cX12_odds 73 = .ok (.ifCond .eq 7, 3) := by decide +kernel
theorem dX12_odds_76 : decode cX12_odds 76 = .ok (.iconst 1, 1) := by decide +kernel
theorem dX12_odds_77 : decode cX12_odds 77 = .ok (.goto 4, 3) := by decide +kernel
theorem dX12_odds_80 : decode cX12_odds 80 = .ok (.iconst 0, 1) := by decide +kernel
theorem dX12_odds_81 : decode cX12_odds 81 = .ok (.iadd, 1) := by decide +kernel
theorem dX12_odds_82 : decode cX12_odds 82 = .ok (.istore 4, 2) := by decide +kernel
theorem dX12_odds_84 : decode cX12_odds 84 = .ok (.aload_n 0, 1) := by decide +kernel
theorem dX12_odds_85 : decode cX12_odds 85 = .ok (.invokevirtual 223, 3) := by decide +kernel
theorem dX12_odds_88 : decode cX12_odds 88 = .ok (.iinc 5 1, 3) := by decide +kernel
theorem dX12_odds_91 : decode cX12_odds 91 = .ok (.goto (-45), 3) := by decide +kernel
theorem dX12_odds_94 : decode cX12_odds 94 = .ok (.iload_n 3, 1) := by decide +kernel
theorem dX12_odds_95 : decode cX12_odds 95 = .ok (.ifCond .ne 8, 3) := by decide +kernel
theorem dX12_odds_98 : decode cX12_odds 98 = .ok (.iload 4, 2) := by decide +kernel
theorem dX12_odds_100 : decode cX12_odds 100 = .ok (.goto 5, 3) := by decide +kernel
theorem dX12_odds_103 : decode cX12_odds 103 = .ok (.bipush 10, 2) := by decide +kernel
theorem dX12_odds_105 : decode cX12_odds 105 = .ok (.iload 4, 2) := by decide +kernel
theorem dX12_odds_107 : decode cX12_odds 107 = .ok (.bipush 10, 2) := by decide +kernel
theorem dX12_odds_109 : decode cX12_odds 109 = .ok (.invokestatic 252, 3) := by decide +kernel
theorem dX12_odds_112 : decode cX12_odds 112 = .ok (.idiv, 1) := by decide +kernel
theorem dX12_odds_113 : decode cX12_odds 113 = .ok (.ireturn, 1) := by decide +kernel
theorem dX12_seed_0 : decode cX12_seed 0 = .ok (.aload_n 0, 1) := by decide +kernel
theorem dX12_seed_1 : decode cX12_seed 1 = .ok (.iconst 5, 1) := by decide +kernel
theorem dX12_seed_2 : decode cX12_seed 2 = .ok (.iload_n 1, 1) := by decide +kernel
theorem dX12_seed_3 : decode cX12_seed 3 = .ok (.invokevirtual 179, 3) := by decide +kernel
theorem dX12_seed_6 : decode cX12_seed 6 = .ok (.ireturn, 1) := by decide +kernel
theorem dX12_ran_0 : decode cX12_ran 0 = .ok (.aload_n 0, 1) := by decide +kernel
theorem dX12_ran_1 : decode cX12_ran 1 = .ok (.getfield 255, 3) := by decide +kernel
theorem dX12_ran_4 : decode cX12_ran 4 = .ok (.bipush 40, 2) := by decide +kernel
theorem dX12_ran_6 : decode cX12_ran 6 = .ok (.if_icmp .ge 23, 3) := by decide +kernel
theorem dX12_ran_9 : decode cX12_ran 9 = .ok (.aload_n 0, 1) := by decide +kernel
theorem dX12_ran_10 : decode cX12_ran 10 = .ok (.getfield 31, 3) := by decide +kernel
theorem dX12_ran_13 : decode cX12_ran 13 = .ok (.aload_n 0, 1) := by decide +kernel
theorem dX12_ran_14 : decode cX12_ran 14 = .ok (.getfield 255, 3) := by decide +kernel
theorem dX12_ran_17 : decode cX12_ran 17 = .ok (.iload_n 1, 1) := by decide +kernel
theorem dX12_ran_18 : decode cX12_ran 18 = .ok (.iastore, 1) := by decide +kernel
theorem dX12_ran_19 : decode cX12_ran 19 = .ok (.aload_n 0, 1) := by decide +kernel
theorem dX12_ran_20 : decode cX12_ran 20 = .ok (.dup, 1) := by decide +kernel
theorem dX12_ran_21 : decode cX12_ran 21 = .ok (.getfield 255, 3) := by decide +kernel
theorem dX12_ran_24 : decode cX12_ran 24 = .ok (.iconst 1, 1) := by decide +kernel
theorem dX12_ran_25 : decode cX12_ran 25 = .ok (.iadd, 1) := by decide +kernel
theorem dX12_ran_26 : decode cX12_ran 26 = .ok (.putfield 255, 3) := by decide +kernel
theorem dX12_ran_29 : decode cX12_ran 29 = .ok (.return_, 1) := by decide +kernel
theorem dX12_liesBy_0 : decode cX12_liesBy 0 = .ok (.iload_n 1, 1) := by decide +kernel
theorem dX12_liesBy_1 : decode cX12_liesBy 1 = .ok (.lookupswitch 58 #[(0, 27), (1, 40)], 27) := by decide +kernel
theorem dX12_liesBy_28 : decode cX12_liesBy 28 = .ok (.aload_n 0, 1) := by decide +kernel
theorem dX12_liesBy_29 : decode cX12_liesBy 29 = .ok (.bipush 10, 2) := by decide +kernel
theorem dX12_liesBy_31 : decode cX12_liesBy 31 = .ok (.invokevirtual 258, 3) := by decide +kernel
theorem dX12_liesBy_34 : decode cX12_liesBy 34 = .ok (.iload_n 2, 1) := by decide +kernel
theorem dX12_liesBy_35 : decode cX12_liesBy 35 = .ok (.aload_n 0, 1) := by decide +kernel
theorem dX12_liesBy_36 : decode cX12_liesBy 36 = .ok (.getfield 261, 3) := by decide +kernel
theorem dX12_liesBy_39 : decode cX12_liesBy 39 = .ok (.iadd, 1) := by decide +kernel
theorem dX12_liesBy_40 : decode cX12_liesBy 40 = .ok (.ireturn, 1) := by decide +kernel
theorem dX12_liesBy_41 : decode cX12_liesBy 41 = .ok (.aload_n 0, 1) := by decide +kernel
theorem dX12_liesBy_42 : decode cX12_liesBy 42 = .ok (.bipush 20, 2) := by decide +kernel
theorem dX12_liesBy_44 : decode cX12_liesBy 44 = .ok (.invokevirtual 258, 3) := by decide +kernel
theorem dX12_liesBy_47 : decode cX12_liesBy 47 = .ok (.aload_n 0, 1) := by decide +kernel
theorem dX12_liesBy_48 : decode cX12_liesBy 48 = .ok (.iconst 1, 1) := by decide +kernel
theorem dX12_liesBy_49 : decode cX12_liesBy 49 = .ok (.invokestatic 209, 3) := by decide +kernel
theorem dX12_liesBy_52 : decode cX12_liesBy 52 = .ok (.iload_n 2, 1) := by decide +kernel
theorem dX12_liesBy_53 : decode cX12_liesBy 53 = .ok (.invokevirtual 264, 3) := by decide +kernel
theorem dX12_liesBy_56 : decode cX12_liesBy 56 = .ok (.iconst 3, 1) := by decide +kernel
theorem dX12_liesBy_57 : decode cX12_liesBy 57 = .ok (.imul, 1) := by decide +kernel
theorem dX12_liesBy_58 : decode cX12_liesBy 58 = .ok (.ireturn, 1) := by decide +kernel
theorem dX12_liesBy_59 : decode cX12_liesBy 59 = .ok (.aload_n 0, 1) := by decide +kernel
theorem dX12_liesBy_60 : decode cX12_liesBy 60 = .ok (.iload_n 1, 1) := by decide +kernel
theorem dX12_liesBy_61 : decode cX12_liesBy 61 = .ok (.invokestatic 209, 3) := by decide +kernel
theorem dX12_liesBy_64 : decode cX12_liesBy 64 = .ok (.iload_n 2, 1) := by decide +kernel
theorem dX12_liesBy_65 : decode cX12_liesBy 65 = .ok (.invokevirtual 264, 3) := by decide +kernel
theorem dX12_liesBy_68 : decode cX12_liesBy 68 = .ok (.ireturn, 1) := by decide +kernel
theorem dX12_shinesBy_0 : decode cX12_shinesBy 0 = .ok (.iconst 0, 1) := by decide +kernel
theorem dX12_shinesBy_1 : decode cX12_shinesBy 1 = .ok (.istore_n 3, 1) := by decide +kernel
theorem dX12_shinesBy_2 : decode cX12_shinesBy 2 = .ok (.iload_n 1, 1) := by decide +kernel
theorem dX12_shinesBy_3 : decode cX12_shinesBy 3 = .ok (.lookupswitch 107 #[(0, 33), (2, 56), (5, 89)], 33) := by decide +kernel
theorem dX12_shinesBy_36 : decode cX12_shinesBy 36 = .ok (.aload_n 0, 1) := by decide +kernel
theorem dX12_shinesBy_37 : decode cX12_shinesBy 37 = .ok (.bipush 11, 2) := by decide +kernel
theorem dX12_shinesBy_39 : decode cX12_shinesBy 39 = .ok (.invokevirtual 258, 3) := by decide +kernel
theorem dX12_shinesBy_42 : decode cX12_shinesBy 42 = .ok (.aload_n 0, 1) := by decide +kernel
theorem dX12_shinesBy_43 : decode cX12_shinesBy 43 = .ok (.aload_n 0, 1) := by decide +kernel
theorem dX12_shinesBy_44 : decode cX12_shinesBy 44 = .ok (.aload_n 0, 1) := by decide +kernel
theorem dX12_shinesBy_45 : decode cX12_shinesBy 45 = .ok (.getfield 261, 3) := by decide +kernel
theorem dX12_shinesBy_48 : decode cX12_shinesBy 48 = .ok (.iconst 0, 1) := by decide +kernel
theorem dX12_shinesBy_49 : decode cX12_shinesBy 49 = .ok (.invokevirtual 146, 3) := by decide +kernel
theorem dX12_shinesBy_52 : decode cX12_shinesBy 52 = .ok (.iload_n 2, 1) := by decide +kernel
theorem dX12_shinesBy_53 : decode cX12_shinesBy 53 = .ok (.invokevirtual 264, 3) := by decide +kernel
theorem dX12_shinesBy_56 : decode cX12_shinesBy 56 = .ok (.iconst 2, 1) := by decide +kernel
theorem dX12_shinesBy_57 : decode cX12_shinesBy 57 = .ok (.imul, 1) := by decide +kernel
theorem dX12_shinesBy_58 : decode cX12_shinesBy 58 = .ok (.ireturn, 1) := by decide +kernel
theorem dX12_shinesBy_59 : decode cX12_shinesBy 59 = .ok (.aload_n 0, 1) := by decide +kernel
theorem dX12_shinesBy_60 : decode cX12_shinesBy 60 = .ok (.bipush 30, 2) := by decide +kernel
theorem dX12_shinesBy_62 : decode cX12_shinesBy 62 = .ok (.invokevirtual 258, 3) := by decide +kernel
theorem dX12_shinesBy_65 : decode cX12_shinesBy 65 = .ok (.aload_n 0, 1) := by decide +kernel
theorem dX12_shinesBy_66 : decode cX12_shinesBy 66 = .ok (.iconst 2, 1) := by decide +kernel
theorem dX12_shinesBy_67 : decode cX12_shinesBy 67 = .ok (.invokestatic 209, 3) := by decide +kernel
theorem dX12_shinesBy_70 : decode cX12_shinesBy 70 = .ok (.iload_n 2, 1) := by decide +kernel
theorem dX12_shinesBy_71 : decode cX12_shinesBy 71 = .ok (.invokevirtual 267, 3) := by decide +kernel
theorem dX12_shinesBy_74 : decode cX12_shinesBy 74 = .ok (.istore_n 3, 1) := by decide +kernel
theorem dX12_shinesBy_75 : decode cX12_shinesBy 75 = .ok (.iload_n 3, 1) := by decide +kernel
theorem dX12_shinesBy_76 : decode cX12_shinesBy 76 = .ok (.aload_n 0, 1) := by decide +kernel
theorem dX12_shinesBy_77 : decode cX12_shinesBy 77 = .ok (.aload_n 0, 1) := by decide +kernel
theorem dX12_shinesBy_78 : decode cX12_shinesBy 78 = .ok (.aload_n 0, 1) := by decide +kernel
theorem dX12_shinesBy_79 : decode cX12_shinesBy 79 = .ok (.getfield 261, 3) := by decide +kernel
theorem dX12_shinesBy_82 : decode cX12_shinesBy 82 = .ok (.iconst 0, 1) := by decide +kernel
theorem dX12_shinesBy_83 : decode cX12_shinesBy 83 = .ok (.invokevirtual 146, 3) := by decide +kernel
theorem dX12_shinesBy_86 : decode cX12_shinesBy 86 = .ok (.iconst 1, 1) := by decide +kernel
theorem dX12_shinesBy_87 : decode cX12_shinesBy 87 = .ok (.invokevirtual 270, 3) := by decide +kernel
theorem dX12_shinesBy_90 : decode cX12_shinesBy 90 = .ok (.isub, 1) := by decide +kernel
theorem dX12_shinesBy_91 : decode cX12_shinesBy 91 = .ok (.ireturn, 1) := by decide +kernel
theorem dX12_shinesBy_92 : decode cX12_shinesBy 92 = .ok (.aload_n 0, 1) := by decide +kernel
theorem dX12_shinesBy_93 : decode cX12_shinesBy 93 = .ok (.bipush 60, 2) := by decide +kernel
theorem dX12_shinesBy_95 : decode cX12_shinesBy 95 = .ok (.invokevirtual 258, 3) := by decide +kernel
theorem dX12_shinesBy_98 : decode cX12_shinesBy 98 = .ok (.aload_n 0, 1) := by decide +kernel
theorem dX12_shinesBy_99 : decode cX12_shinesBy 99 = .ok (.iconst 5, 1) := by decide +kernel
theorem dX12_shinesBy_100 : decode cX12_shinesBy 100 = .ok (.invokestatic 209, 3) := by decide +kernel
theorem dX12_shinesBy_103 : decode cX12_shinesBy 103 = .ok (.iload_n 2, 1) := by decide +kernel
theorem dX12_shinesBy_104 : decode cX12_shinesBy 104 = .ok (.iconst 1, 1) := by decide +kernel
theorem dX12_shinesBy_105 : decode cX12_shinesBy 105 = .ok (.iadd, 1) := by decide +kernel
theorem dX12_shinesBy_106 : decode cX12_shinesBy 106 = .ok (.invokevirtual 267, 3) := by decide +kernel
theorem dX12_shinesBy_109 : decode cX12_shinesBy 109 = .ok (.ireturn, 1) := by decide +kernel
theorem dX12_shinesBy_110 : decode cX12_shinesBy 110 = .ok (.aload_n 0, 1) := by decide +kernel
theorem dX12_shinesBy_111 : decode cX12_shinesBy 111 = .ok (.iload_n 1, 1) := by decide +kernel
theorem dX12_shinesBy_112 : decode cX12_shinesBy 112 = .ok (.invokestatic 209, 3) := by decide +kernel
theorem dX12_shinesBy_115 : decode cX12_shinesBy 115 = .ok (.iload_n 2, 1) := by decide +kernel
theorem dX12_shinesBy_116 : decode cX12_shinesBy 116 = .ok (.invokevirtual 267, 3) := by decide +kernel
theorem dX12_shinesBy_119 : decode cX12_shinesBy 119 = .ok (.ireturn, 1) := by decide +kernel
theorem dX12_driftsBy_0 : decode cX12_driftsBy 0 = .ok (.iload_n 1, 1) := by decide +kernel
theorem dX12_driftsBy_1 : decode cX12_driftsBy 1 = .ok (.lookupswitch 92 #[(0, 35), (3, 53), (6, 70)], 35) := by decide +kernel
theorem dX12_driftsBy_36 : decode cX12_driftsBy 36 = .ok (.aload_n 0, 1) := by decide +kernel
theorem dX12_driftsBy_37 : decode cX12_driftsBy 37 = .ok (.bipush 12, 2) := by decide +kernel
theorem dX12_driftsBy_39 : decode cX12_driftsBy 39 = .ok (.invokevirtual 258, 3) := by decide +kernel
theorem dX12_driftsBy_42 : decode cX12_driftsBy 42 = .ok (.iload_n 2, 1) := by decide +kernel
theorem dX12_driftsBy_43 : decode cX12_driftsBy 43 = .ok (.aload_n 0, 1) := by decide +kernel
theorem dX12_driftsBy_44 : decode cX12_driftsBy 44 = .ok (.aload_n 0, 1) := by decide +kernel
theorem dX12_driftsBy_45 : decode cX12_driftsBy 45 = .ok (.getfield 261, 3) := by decide +kernel
theorem dX12_driftsBy_48 : decode cX12_driftsBy 48 = .ok (.iconst 1, 1) := by decide +kernel
theorem dX12_driftsBy_49 : decode cX12_driftsBy 49 = .ok (.invokevirtual 146, 3) := by decide +kernel
theorem dX12_driftsBy_52 : decode cX12_driftsBy 52 = .ok (.isub, 1) := by decide +kernel
theorem dX12_driftsBy_53 : decode cX12_driftsBy 53 = .ok (.ireturn, 1) := by decide +kernel
theorem dX12_driftsBy_54 : decode cX12_driftsBy 54 = .ok (.aload_n 0, 1) := by decide +kernel
theorem dX12_driftsBy_55 : decode cX12_driftsBy 55 = .ok (.bipush 40, 2) := by decide +kernel
theorem dX12_driftsBy_57 : decode cX12_driftsBy 57 = .ok (.invokevirtual 258, 3) := by decide +kernel
theorem dX12_driftsBy_60 : decode cX12_driftsBy 60 = .ok (.aload_n 0, 1) := by decide +kernel
theorem dX12_driftsBy_61 : decode cX12_driftsBy 61 = .ok (.iconst 3, 1) := by decide +kernel
theorem dX12_driftsBy_62 : decode cX12_driftsBy 62 = .ok (.invokestatic 209, 3) := by decide +kernel
theorem dX12_driftsBy_65 : decode cX12_driftsBy 65 = .ok (.iload_n 2, 1) := by decide +kernel
theorem dX12_driftsBy_66 : decode cX12_driftsBy 66 = .ok (.invokevirtual 270, 3) := by decide +kernel
theorem dX12_driftsBy_69 : decode cX12_driftsBy 69 = .ok (.ineg, 1) := by decide +kernel
theorem dX12_driftsBy_70 : decode cX12_driftsBy 70 = .ok (.ireturn, 1) := by decide +kernel
theorem dX12_driftsBy_71 : decode cX12_driftsBy 71 = .ok (.aload_n 0, 1) := by decide +kernel
theorem dX12_driftsBy_72 : decode cX12_driftsBy 72 = .ok (.bipush 70, 2) := by decide +kernel
theorem dX12_driftsBy_74 : decode cX12_driftsBy 74 = .ok (.invokevirtual 258, 3) := by decide +kernel
theorem dX12_driftsBy_77 : decode cX12_driftsBy 77 = .ok (.aload_n 0, 1) := by decide +kernel
theorem dX12_driftsBy_78 : decode cX12_driftsBy 78 = .ok (.bipush 6, 2) := by decide +kernel
theorem dX12_driftsBy_80 : decode cX12_driftsBy 80 = .ok (.invokestatic 209, 3) := by decide +kernel
theorem dX12_driftsBy_83 : decode cX12_driftsBy 83 = .ok (.iload_n 2, 1) := by decide +kernel
theorem dX12_driftsBy_84 : decode cX12_driftsBy 84 = .ok (.invokevirtual 270, 3) := by decide +kernel
theorem dX12_driftsBy_87 : decode cX12_driftsBy 87 = .ok (.aload_n 0, 1) := by decide +kernel
theorem dX12_driftsBy_88 : decode cX12_driftsBy 88 = .ok (.getfield 261, 3) := by decide +kernel
theorem dX12_driftsBy_91 : decode cX12_driftsBy 91 = .ok (.ixor, 1) := by decide +kernel
theorem dX12_driftsBy_92 : decode cX12_driftsBy 92 = .ok (.ireturn, 1) := by decide +kernel
theorem dX12_driftsBy_93 : decode cX12_driftsBy 93 = .ok (.aload_n 0, 1) := by decide +kernel
theorem dX12_driftsBy_94 : decode cX12_driftsBy 94 = .ok (.iload_n 1, 1) := by decide +kernel
theorem dX12_driftsBy_95 : decode cX12_driftsBy 95 = .ok (.invokestatic 209, 3) := by decide +kernel
theorem dX12_driftsBy_98 : decode cX12_driftsBy 98 = .ok (.iload_n 2, 1) := by decide +kernel
theorem dX12_driftsBy_99 : decode cX12_driftsBy 99 = .ok (.invokevirtual 270, 3) := by decide +kernel
theorem dX12_driftsBy_102 : decode cX12_driftsBy 102 = .ok (.ireturn, 1) := by decide +kernel
theorem dX12_tellsBy_0 : decode cX12_tellsBy 0 = .ok (.iconst 0, 1) := by decide +kernel
theorem dX12_tellsBy_1 : decode cX12_tellsBy 1 = .ok (.istore_n 3, 1) := by decide +kernel
theorem dX12_tellsBy_2 : decode cX12_tellsBy 2 = .ok (.iload_n 1, 1) := by decide +kernel
theorem dX12_tellsBy_3 : decode cX12_tellsBy 3 = .ok (.lookupswitch 138 #[(0, 33), (4, 71), (6, 104)], 33) := by decide +kernel
theorem dX12_tellsBy_36 : decode cX12_tellsBy 36 = .ok (.aload_n 0, 1) := by decide +kernel
theorem dX12_tellsBy_37 : decode cX12_tellsBy 37 = .ok (.bipush 13, 2) := by decide +kernel
theorem dX12_tellsBy_39 : decode cX12_tellsBy 39 = .ok (.invokevirtual 258, 3) := by decide +kernel
theorem dX12_tellsBy_42 : decode cX12_tellsBy 42 = .ok (.aload_n 0, 1) := by decide +kernel
theorem dX12_tellsBy_43 : decode cX12_tellsBy 43 = .ok (.aload_n 0, 1) := by decide +kernel
theorem dX12_tellsBy_44 : decode cX12_tellsBy 44 = .ok (.aload_n 0, 1) := by decide +kernel
theorem dX12_tellsBy_45 : decode cX12_tellsBy 45 = .ok (.getfield 261, 3) := by decide +kernel
theorem dX12_tellsBy_48 : decode cX12_tellsBy 48 = .ok (.iconst 0, 1) := by decide +kernel
theorem dX12_tellsBy_49 : decode cX12_tellsBy 49 = .ok (.invokevirtual 146, 3) := by decide +kernel
theorem dX12_tellsBy_52 : decode cX12_tellsBy 52 = .ok (.iload_n 2, 1) := by decide +kernel
theorem dX12_tellsBy_53 : decode cX12_tellsBy 53 = .ok (.invokevirtual 267, 3) := by decide +kernel
theorem dX12_tellsBy_56 : decode cX12_tellsBy 56 = .ok (.istore_n 3, 1) := by decide +kernel
theorem dX12_tellsBy_57 : decode cX12_tellsBy 57 = .ok (.iload_n 3, 1) := by decide +kernel
theorem dX12_tellsBy_58 : decode cX12_tellsBy 58 = .ok (.aload_n 0, 1) := by decide +kernel
theorem dX12_tellsBy_59 : decode cX12_tellsBy 59 = .ok (.aload_n 0, 1) := by decide +kernel
theorem dX12_tellsBy_60 : decode cX12_tellsBy 60 = .ok (.aload_n 0, 1) := by decide +kernel
theorem dX12_tellsBy_61 : decode cX12_tellsBy 61 = .ok (.getfield 261, 3) := by decide +kernel
theorem dX12_tellsBy_64 : decode cX12_tellsBy 64 = .ok (.iconst 0, 1) := by decide +kernel
theorem dX12_tellsBy_65 : decode cX12_tellsBy 65 = .ok (.invokevirtual 146, 3) := by decide +kernel
theorem dX12_tellsBy_68 : decode cX12_tellsBy 68 = .ok (.iload_n 2, 1) := by decide +kernel
theorem dX12_tellsBy_69 : decode cX12_tellsBy 69 = .ok (.invokevirtual 270, 3) := by decide +kernel
theorem dX12_tellsBy_72 : decode cX12_tellsBy 72 = .ok (.ixor, 1) := by decide +kernel
theorem dX12_tellsBy_73 : decode cX12_tellsBy 73 = .ok (.ireturn, 1) := by decide +kernel
theorem dX12_tellsBy_74 : decode cX12_tellsBy 74 = .ok (.aload_n 0, 1) := by decide +kernel
theorem dX12_tellsBy_75 : decode cX12_tellsBy 75 = .ok (.bipush 50, 2) := by decide +kernel
theorem dX12_tellsBy_77 : decode cX12_tellsBy 77 = .ok (.invokevirtual 258, 3) := by decide +kernel
theorem dX12_tellsBy_80 : decode cX12_tellsBy 80 = .ok (.aload_n 0, 1) := by decide +kernel
theorem dX12_tellsBy_81 : decode cX12_tellsBy 81 = .ok (.iconst 4, 1) := by decide +kernel
theorem dX12_tellsBy_82 : decode cX12_tellsBy 82 = .ok (.invokestatic 209, 3) := by decide +kernel
theorem dX12_tellsBy_85 : decode cX12_tellsBy 85 = .ok (.iload_n 2, 1) := by decide +kernel
theorem dX12_tellsBy_86 : decode cX12_tellsBy 86 = .ok (.invokevirtual 273, 3) := by decide +kernel
theorem dX12_tellsBy_89 : decode cX12_tellsBy 89 = .ok (.istore_n 3, 1) := by decide +kernel
theorem dX12_tellsBy_90 : decode cX12_tellsBy 90 = .ok (.iload_n 3, 1) := by decide +kernel
theorem dX12_tellsBy_91 : decode cX12_tellsBy 91 = .ok (.aload_n 0, 1) := by decide +kernel
theorem dX12_tellsBy_92 : decode cX12_tellsBy 92 = .ok (.aload_n 0, 1) := by decide +kernel
theorem dX12_tellsBy_93 : decode cX12_tellsBy 93 = .ok (.aload_n 0, 1) := by decide +kernel
theorem dX12_tellsBy_94 : decode cX12_tellsBy 94 = .ok (.getfield 261, 3) := by decide +kernel
theorem dX12_tellsBy_97 : decode cX12_tellsBy 97 = .ok (.iconst 0, 1) := by decide +kernel
theorem dX12_tellsBy_98 : decode cX12_tellsBy 98 = .ok (.invokevirtual 146, 3) := by decide +kernel
theorem dX12_tellsBy_101 : decode cX12_tellsBy 101 = .ok (.iconst 2, 1) := by decide +kernel
theorem dX12_tellsBy_102 : decode cX12_tellsBy 102 = .ok (.invokevirtual 264, 3) := by decide +kernel
theorem dX12_tellsBy_105 : decode cX12_tellsBy 105 = .ok (.isub, 1) := by decide +kernel
theorem dX12_tellsBy_106 : decode cX12_tellsBy 106 = .ok (.ireturn, 1) := by decide +kernel
theorem dX12_tellsBy_107 : decode cX12_tellsBy 107 = .ok (.aload_n 0, 1) := by decide +kernel
theorem dX12_tellsBy_108 : decode cX12_tellsBy 108 = .ok (.bipush 71, 2) := by decide +kernel
theorem dX12_tellsBy_110 : decode cX12_tellsBy 110 = .ok (.invokevirtual 258, 3) := by decide +kernel
theorem dX12_tellsBy_113 : decode cX12_tellsBy 113 = .ok (.aload_n 0, 1) := by decide +kernel
theorem dX12_tellsBy_114 : decode cX12_tellsBy 114 = .ok (.aload_n 0, 1) := by decide +kernel
theorem dX12_tellsBy_115 : decode cX12_tellsBy 115 = .ok (.aload_n 0, 1) := by decide +kernel
theorem dX12_tellsBy_116 : decode cX12_tellsBy 116 = .ok (.getfield 261, 3) := by decide +kernel
theorem dX12_tellsBy_119 : decode cX12_tellsBy 119 = .ok (.iconst 0, 1) := by decide +kernel
theorem dX12_tellsBy_120 : decode cX12_tellsBy 120 = .ok (.invokevirtual 146, 3) := by decide +kernel
theorem dX12_tellsBy_123 : decode cX12_tellsBy 123 = .ok (.iload_n 2, 1) := by decide +kernel
theorem dX12_tellsBy_124 : decode cX12_tellsBy 124 = .ok (.invokevirtual 267, 3) := by decide +kernel
theorem dX12_tellsBy_127 : decode cX12_tellsBy 127 = .ok (.istore_n 3, 1) := by decide +kernel
theorem dX12_tellsBy_128 : decode cX12_tellsBy 128 = .ok (.iload_n 3, 1) := by decide +kernel
theorem dX12_tellsBy_129 : decode cX12_tellsBy 129 = .ok (.aload_n 0, 1) := by decide +kernel
theorem dX12_tellsBy_130 : decode cX12_tellsBy 130 = .ok (.bipush 6, 2) := by decide +kernel
theorem dX12_tellsBy_132 : decode cX12_tellsBy 132 = .ok (.invokestatic 209, 3) := by decide +kernel
theorem dX12_tellsBy_135 : decode cX12_tellsBy 135 = .ok (.iload_n 2, 1) := by decide +kernel
theorem dX12_tellsBy_136 : decode cX12_tellsBy 136 = .ok (.invokevirtual 273, 3) := by decide +kernel
theorem dX12_tellsBy_139 : decode cX12_tellsBy 139 = .ok (.isub, 1) := by decide +kernel
theorem dX12_tellsBy_140 : decode cX12_tellsBy 140 = .ok (.ireturn, 1) := by decide +kernel
theorem dX12_tellsBy_141 : decode cX12_tellsBy 141 = .ok (.aload_n 0, 1) := by decide +kernel
theorem dX12_tellsBy_142 : decode cX12_tellsBy 142 = .ok (.iload_n 1, 1) := by decide +kernel
theorem dX12_tellsBy_143 : decode cX12_tellsBy 143 = .ok (.invokestatic 209, 3) := by decide +kernel
theorem dX12_tellsBy_146 : decode cX12_tellsBy 146 = .ok (.iload_n 2, 1) := by decide +kernel
theorem dX12_tellsBy_147 : decode cX12_tellsBy 147 = .ok (.invokevirtual 273, 3) := by decide +kernel
theorem dX12_tellsBy_150 : decode cX12_tellsBy 150 = .ok (.ireturn, 1) := by decide +kernel
theorem dX12_voice_0 : decode cX12_voice 0 = .ok (.aload_n 0, 1) := by decide +kernel
theorem dX12_voice_1 : decode cX12_voice 1 = .ok (.iload_n 1, 1) := by decide +kernel
theorem dX12_voice_2 : decode cX12_voice 2 = .ok (.invokevirtual 199, 3) := by decide +kernel
theorem dX12_voice_5 : decode cX12_voice 5 = .ok (.ifCond .eq 15, 3) := by decide +kernel
theorem dX12_voice_8 : decode cX12_voice 8 = .ok (.iload_n 2, 1) := by decide +kernel
theorem dX12_voice_9 : decode cX12_voice 9 = .ok (.i2l, 1) := by decide +kernel
theorem dX12_voice_10 : decode cX12_voice 10 = .ok (.lconst 0, 1) := by decide +kernel
theorem dX12_voice_11 : decode cX12_voice 11 = .ok (.ldc2_w 182, 3) := by decide +kernel
theorem dX12_voice_14 : decode cX12_voice 14 = .ok (.invokestatic 47, 3) := by decide +kernel
theorem dX12_voice_17 : decode cX12_voice 17 = .ok (.ifCond .ne 9, 3) := by decide +kernel
theorem dX12_voice_20 : decode cX12_voice 20 = .ok (.aload_n 0, 1) := by decide +kernel
theorem dX12_voice_21 : decode cX12_voice 21 = .ok (.iconst 1, 1) := by decide +kernel
theorem dX12_voice_22 : decode cX12_voice 22 = .ok (.invokevirtual 126, 3) := by decide +kernel
theorem dX12_voice_25 : decode cX12_voice 25 = .ok (.ireturn, 1) := by decide +kernel
theorem dX12_voice_26 : decode cX12_voice 26 = .ok (.aload_n 0, 1) := by decide +kernel
theorem dX12_voice_27 : decode cX12_voice 27 = .ok (.iload_n 1, 1) := by decide +kernel
theorem dX12_voice_28 : decode cX12_voice 28 = .ok (.putfield 261, 3) := by decide +kernel
theorem dX12_voice_31 : decode cX12_voice 31 = .ok (.aload_n 0, 1) := by decide +kernel
theorem dX12_voice_32 : decode cX12_voice 32 = .ok (.iconst 0, 1) := by decide +kernel
theorem dX12_voice_33 : decode cX12_voice 33 = .ok (.putfield 255, 3) := by decide +kernel
theorem dX12_voice_36 : decode cX12_voice 36 = .ok (.aload_n 0, 1) := by decide +kernel
theorem dX12_voice_37 : decode cX12_voice 37 = .ok (.aload_n 0, 1) := by decide +kernel
theorem dX12_voice_38 : decode cX12_voice 38 = .ok (.getfield 261, 3) := by decide +kernel
theorem dX12_voice_41 : decode cX12_voice 41 = .ok (.iconst 0, 1) := by decide +kernel
theorem dX12_voice_42 : decode cX12_voice 42 = .ok (.invokevirtual 146, 3) := by decide +kernel
theorem dX12_voice_45 : decode cX12_voice 45 = .ok (.istore 4, 2) := by decide +kernel
theorem dX12_voice_47 : decode cX12_voice 47 = .ok (.iload_n 2, 1) := by decide +kernel
theorem dX12_voice_48 : decode cX12_voice 48 = .ok (.ifCond .ne 13, 3) := by decide +kernel
theorem dX12_voice_51 : decode cX12_voice 51 = .ok (.aload_n 0, 1) := by decide +kernel
theorem dX12_voice_52 : decode cX12_voice 52 = .ok (.iload 4, 2) := by decide +kernel
theorem dX12_voice_54 : decode cX12_voice 54 = .ok (.iload_n 3, 1) := by decide +kernel
theorem dX12_voice_55 : decode cX12_voice 55 = .ok (.invokevirtual 264, 3) := by decide +kernel
theorem dX12_voice_58 : decode cX12_voice 58 = .ok (.goto 40, 3) := by decide +kernel
theorem dX12_voice_61 : decode cX12_voice 61 = .ok (.iload_n 2, 1) := by decide +kernel
theorem dX12_voice_62 : decode cX12_voice 62 = .ok (.iconst 1, 1) := by decide +kernel
theorem dX12_voice_63 : decode cX12_voice 63 = .ok (.if_icmp .ne 13, 3) := by decide +kernel
theorem dX12_voice_66 : decode cX12_voice 66 = .ok (.aload_n 0, 1) := by decide +kernel
theorem dX12_voice_67 : decode cX12_voice 67 = .ok (.iload 4, 2) := by decide +kernel
theorem dX12_voice_69 : decode cX12_voice 69 = .ok (.iload_n 3, 1) := by decide +kernel
theorem dX12_voice_70 : decode cX12_voice 70 = .ok (.invokevirtual 267, 3) := by decide +kernel
theorem dX12_voice_73 : decode cX12_voice 73 = .ok (.goto 25, 3) := by decide +kernel
theorem dX12_voice_76 : decode cX12_voice 76 = .ok (.iload_n 2, 1) := by decide +kernel
theorem dX12_voice_77 : decode cX12_voice 77 = .ok (.iconst 2, 1) := by decide +kernel
theorem dX12_voice_78 : decode cX12_voice 78 = .ok (.if_icmp .ne 13, 3) := by decide +kernel
theorem dX12_voice_81 : decode cX12_voice 81 = .ok (.aload_n 0, 1) := by decide +kernel
theorem dX12_voice_82 : decode cX12_voice 82 = .ok (.iload 4, 2) := by decide +kernel
theorem dX12_voice_84 : decode cX12_voice 84 = .ok (.iload_n 3, 1) := by decide +kernel
theorem dX12_voice_85 : decode cX12_voice 85 = .ok (.invokevirtual 270, 3) := by decide +kernel
theorem dX12_voice_88 : decode cX12_voice 88 = .ok (.goto 10, 3) := by decide +kernel
theorem dX12_voice_91 : decode cX12_voice 91 = .ok (.aload_n 0, 1) := by decide +kernel
theorem dX12_voice_92 : decode cX12_voice 92 = .ok (.iload 4, 2) := by decide +kernel
theorem dX12_voice_94 : decode cX12_voice 94 = .ok (.iload_n 3, 1) := by decide +kernel
theorem dX12_voice_95 : decode cX12_voice 95 = .ok (.invokevirtual 273, 3) := by decide +kernel
theorem dX12_voice_98 : decode cX12_voice 98 = .ok (.ireturn, 1) := by decide +kernel
theorem dX12_trace_0 : decode cX12_trace 0 = .ok (.iload_n 1, 1) := by decide +kernel
theorem dX12_trace_1 : decode cX12_trace 1 = .ok (.i2l, 1) := by decide +kernel
theorem dX12_trace_2 : decode cX12_trace 2 = .ok (.lconst 0, 1) := by decide +kernel
theorem dX12_trace_3 : decode cX12_trace 3 = .ok (.aload_n 0, 1) := by decide +kernel
theorem dX12_trace_4 : decode cX12_trace 4 = .ok (.getfield 255, 3) := by decide +kernel
theorem dX12_trace_7 : decode cX12_trace 7 = .ok (.iconst 1, 1) := by decide +kernel
theorem dX12_trace_8 : decode cX12_trace 8 = .ok (.isub, 1) := by decide +kernel
theorem dX12_trace_9 : decode cX12_trace 9 = .ok (.i2l, 1) := by decide +kernel
theorem dX12_trace_10 : decode cX12_trace 10 = .ok (.invokestatic 47, 3) := by decide +kernel
theorem dX12_trace_13 : decode cX12_trace 13 = .ok (.ifCond .eq 12, 3) := by decide +kernel
theorem dX12_trace_16 : decode cX12_trace 16 = .ok (.aload_n 0, 1) := by decide +kernel
theorem dX12_trace_17 : decode cX12_trace 17 = .ok (.getfield 31, 3) := by decide +kernel
theorem dX12_trace_20 : decode cX12_trace 20 = .ok (.iload_n 1, 1) := by decide +kernel
theorem dX12_trace_21 : decode cX12_trace 21 = .ok (.iaload, 1) := by decide +kernel
theorem dX12_trace_22 : decode cX12_trace 22 = .ok (.goto 8, 3) := by decide +kernel
theorem dX12_trace_25 : decode cX12_trace 25 = .ok (.aload_n 0, 1) := by decide +kernel
theorem dX12_trace_26 : decode cX12_trace 26 = .ok (.iconst 2, 1) := by decide +kernel
theorem dX12_trace_27 : decode cX12_trace 27 = .ok (.invokevirtual 126, 3) := by decide +kernel
theorem dX12_trace_30 : decode cX12_trace 30 = .ok (.ireturn, 1) := by decide +kernel
theorem dX12_isSheet_0 : decode cX12_isSheet 0 = .ok (.iload_n 0, 1) := by decide +kernel
theorem dX12_isSheet_1 : decode cX12_isSheet 1 = .ok (.i2l, 1) := by decide +kernel
theorem dX12_isSheet_2 : decode cX12_isSheet 2 = .ok (.lconst 0, 1) := by decide +kernel
theorem dX12_isSheet_3 : decode cX12_isSheet 3 = .ok (.ldc2_w 182, 3) := by decide +kernel
theorem dX12_isSheet_6 : decode cX12_isSheet 6 = .ok (.invokestatic 47, 3) := by decide +kernel
theorem dX12_isSheet_9 : decode cX12_isSheet 9 = .ok (.ireturn, 1) := by decide +kernel
theorem dX12_sheet_0 : decode cX12_sheet 0 = .ok (.iload_n 1, 1) := by decide +kernel
theorem dX12_sheet_1 : decode cX12_sheet 1 = .ok (.invokestatic 243, 3) := by decide +kernel
theorem dX12_sheet_4 : decode cX12_sheet 4 = .ok (.ifCond .eq 25, 3) := by decide +kernel
theorem dX12_sheet_7 : decode cX12_sheet 7 = .ok (.iload_n 2, 1) := by decide +kernel
theorem dX12_sheet_8 : decode cX12_sheet 8 = .ok (.ifCond .eq 27, 3) := by decide +kernel
theorem dX12_sheet_11 : decode cX12_sheet 11 = .ok (.iload_n 2, 1) := by decide +kernel
theorem dX12_sheet_12 : decode cX12_sheet 12 = .ok (.bipush 8, 2) := by decide +kernel
theorem dX12_sheet_14 : decode cX12_sheet 14 = .ok (.if_icmp .eq 21, 3) := by decide +kernel
theorem dX12_sheet_17 : decode cX12_sheet 17 = .ok (.iload_n 2, 1) := by decide +kernel
theorem dX12_sheet_18 : decode cX12_sheet 18 = .ok (.bipush 16, 2) := by decide +kernel
theorem dX12_sheet_20 : decode cX12_sheet 20 = .ok (.if_icmp .eq 15, 3) := by decide +kernel
theorem dX12_sheet_23 : decode cX12_sheet 23 = .ok (.iload_n 2, 1) := by decide +kernel
theorem dX12_sheet_24 : decode cX12_sheet 24 = .ok (.bipush 32, 2) := by decide +kernel
theorem dX12_sheet_26 : decode cX12_sheet 26 = .ok (.if_icmp .eq 9, 3) := by decide +kernel
theorem dX12_sheet_29 : decode cX12_sheet 29 = .ok (.aload_n 0, 1) := by decide +kernel
theorem dX12_sheet_30 : decode cX12_sheet 30 = .ok (.iconst 1, 1) := by decide +kernel
theorem dX12_sheet_31 : decode cX12_sheet 31 = .ok (.invokevirtual 126, 3) := by decide +kernel
theorem dX12_sheet_34 : decode cX12_sheet 34 = .ok (.ireturn, 1) := by decide +kernel
theorem dX12_sheet_35 : decode cX12_sheet 35 = .ok (.iload_n 2, 1) := by decide +kernel
theorem dX12_sheet_36 : decode cX12_sheet 36 = .ok (.ifCond .eq 13, 3) := by decide +kernel
theorem dX12_sheet_39 : decode cX12_sheet 39 = .ok (.iload_n 3, 1) := by decide +kernel
theorem dX12_sheet_40 : decode cX12_sheet 40 = .ok (.ifCond .ge 9, 3) := by decide +kernel
theorem dX12_sheet_43 : decode cX12_sheet 43 = .ok (.aload_n 0, 1) := by decide +kernel
theorem dX12_sheet_44 : decode cX12_sheet 44 = .ok (.iconst 3, 1) := by decide +kernel
theorem dX12_sheet_45 : decode cX12_sheet 45 = .ok (.invokevirtual 126, 3) := by decide +kernel
theorem dX12_sheet_48 : decode cX12_sheet 48 = .ok (.ireturn, 1) := by decide +kernel
theorem dX12_sheet_49 : decode cX12_sheet 49 = .ok (.iload_n 2, 1) := by decide +kernel
theorem dX12_sheet_50 : decode cX12_sheet 50 = .ok (.ifCond .eq 15, 3) := by decide +kernel
theorem dX12_sheet_53 : decode cX12_sheet 53 = .ok (.iload_n 3, 1) := by decide +kernel
theorem dX12_sheet_54 : decode cX12_sheet 54 = .ok (.bipush 40, 2) := by decide +kernel
theorem dX12_sheet_56 : decode cX12_sheet 56 = .ok (.if_icmp .le 9, 3) := by decide +kernel
theorem dX12_sheet_59 : decode cX12_sheet 59 = .ok (.aload_n 0, 1) := by decide +kernel
theorem dX12_sheet_60 : decode cX12_sheet 60 = .ok (.iconst 1, 1) := by decide +kernel
theorem dX12_sheet_61 : decode cX12_sheet 61 = .ok (.invokevirtual 126, 3) := by decide +kernel
theorem dX12_sheet_64 : decode cX12_sheet 64 = .ok (.ireturn, 1) := by decide +kernel
theorem dX12_sheet_65 : decode cX12_sheet 65 = .ok (.aload_n 0, 1) := by decide +kernel
theorem dX12_sheet_66 : decode cX12_sheet 66 = .ok (.getfield 34, 3) := by decide +kernel
theorem dX12_sheet_69 : decode cX12_sheet 69 = .ok (.iload_n 1, 1) := by decide +kernel
theorem dX12_sheet_70 : decode cX12_sheet 70 = .ok (.iload_n 2, 1) := by decide +kernel
theorem dX12_sheet_71 : decode cX12_sheet 71 = .ok (.iastore, 1) := by decide +kernel
theorem dX12_sheet_72 : decode cX12_sheet 72 = .ok (.aload_n 0, 1) := by decide +kernel
theorem dX12_sheet_73 : decode cX12_sheet 73 = .ok (.getfield 37, 3) := by decide +kernel
theorem dX12_sheet_76 : decode cX12_sheet 76 = .ok (.iload_n 1, 1) := by decide +kernel
theorem dX12_sheet_77 : decode cX12_sheet 77 = .ok (.iload_n 2, 1) := by decide +kernel
theorem dX12_sheet_78 : decode cX12_sheet 78 = .ok (.ifCond .ne 7, 3) := by decide +kernel
theorem dX12_sheet_81 : decode cX12_sheet 81 = .ok (.iconst 0, 1) := by decide +kernel
theorem dX12_sheet_82 : decode cX12_sheet 82 = .ok (.goto 4, 3) := by decide +kernel
theorem dX12_sheet_85 : decode cX12_sheet 85 = .ok (.iload_n 3, 1) := by decide +kernel
theorem dX12_sheet_86 : decode cX12_sheet 86 = .ok (.iastore, 1) := by decide +kernel
theorem dX12_sheet_87 : decode cX12_sheet 87 = .ok (.iconst 0, 1) := by decide +kernel
theorem dX12_sheet_88 : decode cX12_sheet 88 = .ok (.istore 4, 2) := by decide +kernel
theorem dX12_sheet_90 : decode cX12_sheet 90 = .ok (.iload 4, 2) := by decide +kernel
theorem dX12_sheet_92 : decode cX12_sheet 92 = .ok (.bipush 40, 2) := by decide +kernel
theorem dX12_sheet_94 : decode cX12_sheet 94 = .ok (.if_icmp .ge 22, 3) := by decide +kernel
theorem dX12_sheet_97 : decode cX12_sheet 97 = .ok (.aload_n 0, 1) := by decide +kernel
theorem dX12_sheet_98 : decode cX12_sheet 98 = .ok (.getfield 40, 3) := by decide +kernel
theorem dX12_sheet_101 : decode cX12_sheet 101 = .ok (.bipush 40, 2) := by decide +kernel
theorem dX12_sheet_103 : decode cX12_sheet 103 = .ok (.iload_n 1, 1) := by decide +kernel
theorem dX12_sheet_104 : decode cX12_sheet 104 = .ok (.imul, 1) := by decide +kernel
theorem dX12_sheet_105 : decode cX12_sheet 105 = .ok (.iload 4, 2) := by decide +kernel
theorem dX12_sheet_107 : decode cX12_sheet 107 = .ok (.iadd, 1) := by decide +kernel
theorem dX12_sheet_108 : decode cX12_sheet 108 = .ok (.iconst 0, 1) := by decide +kernel
theorem dX12_sheet_109 : decode cX12_sheet 109 = .ok (.iastore, 1) := by decide +kernel
theorem dX12_sheet_110 : decode cX12_sheet 110 = .ok (.iinc 4 1, 3) := by decide +kernel
theorem dX12_sheet_113 : decode cX12_sheet 113 = .ok (.goto (-23), 3) := by decide +kernel
theorem dX12_sheet_116 : decode cX12_sheet 116 = .ok (.iconst 1, 1) := by decide +kernel
theorem dX12_sheet_117 : decode cX12_sheet 117 = .ok (.ireturn, 1) := by decide +kernel
theorem dX12_put_0 : decode cX12_put 0 = .ok (.iload_n 1, 1) := by decide +kernel
theorem dX12_put_1 : decode cX12_put 1 = .ok (.invokestatic 243, 3) := by decide +kernel
theorem dX12_put_4 : decode cX12_put 4 = .ok (.ifCond .ne 9, 3) := by decide +kernel
theorem dX12_put_7 : decode cX12_put 7 = .ok (.aload_n 0, 1) := by decide +kernel
theorem dX12_put_8 : decode cX12_put 8 = .ok (.iconst 1, 1) := by decide +kernel
theorem dX12_put_9 : decode cX12_put 9 = .ok (.invokevirtual 126, 3) := by decide +kernel
theorem dX12_put_12 : decode cX12_put 12 = .ok (.ireturn, 1) := by decide +kernel
theorem dX12_put_13 : decode cX12_put 13 = .ok (.aload_n 0, 1) := by decide +kernel
theorem dX12_put_14 : decode cX12_put 14 = .ok (.getfield 34, 3) := by decide +kernel
theorem dX12_put_17 : decode cX12_put 17 = .ok (.iload_n 1, 1) := by decide +kernel
theorem dX12_put_18 : decode cX12_put 18 = .ok (.iaload, 1) := by decide +kernel
theorem dX12_put_19 : decode cX12_put 19 = .ok (.ifCond .ne 9, 3) := by decide +kernel
theorem dX12_put_22 : decode cX12_put 22 = .ok (.aload_n 0, 1) := by decide +kernel
theorem dX12_put_23 : decode cX12_put 23 = .ok (.iconst 2, 1) := by decide +kernel
theorem dX12_put_24 : decode cX12_put 24 = .ok (.invokevirtual 126, 3) := by decide +kernel
theorem dX12_put_27 : decode cX12_put 27 = .ok (.ireturn, 1) := by decide +kernel
theorem dX12_put_28 : decode cX12_put 28 = .ok (.iload_n 2, 1) := by decide +kernel
theorem dX12_put_29 : decode cX12_put 29 = .ok (.i2l, 1) := by decide +kernel
theorem dX12_put_30 : decode cX12_put 30 = .ok (.lconst 0, 1) := by decide +kernel
theorem dX12_put_31 : decode cX12_put 31 = .ok (.aload_n 0, 1) := by decide +kernel
theorem dX12_put_32 : decode cX12_put 32 = .ok (.getfield 37, 3) := by decide +kernel
theorem dX12_put_35 : decode cX12_put 35 = .ok (.iload_n 1, 1) := by decide +kernel
theorem dX12_put_36 : decode cX12_put 36 = .ok (.iaload, 1) := by decide +kernel
theorem dX12_put_37 : decode cX12_put 37 = .ok (.iconst 1, 1) := by decide +kernel
theorem dX12_put_38 : decode cX12_put 38 = .ok (.isub, 1) := by decide +kernel
theorem dX12_put_39 : decode cX12_put 39 = .ok (.i2l, 1) := by decide +kernel
theorem dX12_put_40 : decode cX12_put 40 = .ok (.invokestatic 47, 3) := by decide +kernel
theorem dX12_put_43 : decode cX12_put 43 = .ok (.ifCond .ne 9, 3) := by decide +kernel
theorem dX12_put_46 : decode cX12_put 46 = .ok (.aload_n 0, 1) := by decide +kernel
theorem dX12_put_47 : decode cX12_put 47 = .ok (.iconst 1, 1) := by decide +kernel
theorem dX12_put_48 : decode cX12_put 48 = .ok (.invokevirtual 126, 3) := by decide +kernel
theorem dX12_put_51 : decode cX12_put 51 = .ok (.ireturn, 1) := by decide +kernel
theorem dX12_put_52 : decode cX12_put 52 = .ok (.aload_n 0, 1) := by decide +kernel
theorem dX12_put_53 : decode cX12_put 53 = .ok (.getfield 40, 3) := by decide +kernel
theorem dX12_put_56 : decode cX12_put 56 = .ok (.bipush 40, 2) := by decide +kernel
theorem dX12_put_58 : decode cX12_put 58 = .ok (.iload_n 1, 1) := by decide +kernel
theorem dX12_put_59 : decode cX12_put 59 = .ok (.imul, 1) := by decide +kernel
theorem dX12_put_60 : decode cX12_put 60 = .ok (.iload_n 2, 1) := by decide +kernel
theorem dX12_put_61 : decode cX12_put 61 = .ok (.iadd, 1) := by decide +kernel
theorem dX12_put_62 : decode cX12_put 62 = .ok (.aload_n 0, 1) := by decide +kernel
theorem dX12_put_63 : decode cX12_put 63 = .ok (.getfield 34, 3) := by decide +kernel
theorem dX12_put_66 : decode cX12_put 66 = .ok (.iload_n 1, 1) := by decide +kernel
theorem dX12_put_67 : decode cX12_put 67 = .ok (.iaload, 1) := by decide +kernel
theorem dX12_put_68 : decode cX12_put 68 = .ok (.bipush 8, 2) := by decide +kernel
theorem dX12_put_70 : decode cX12_put 70 = .ok (.if_icmp .ne 8, 3) := by decide +kernel
theorem dX12_put_73 : decode cX12_put 73 = .ok (.iload_n 3, 1) := by decide +kernel
theorem dX12_put_74 : decode cX12_put 74 = .ok (.i2b, 1) := by decide +kernel
theorem dX12_put_75 : decode cX12_put 75 = .ok (.goto 20, 3) := by decide +kernel
theorem dX12_put_78 : decode cX12_put 78 = .ok (.aload_n 0, 1) := by decide +kernel
theorem dX12_put_79 : decode cX12_put 79 = .ok (.getfield 34, 3) := by decide +kernel
theorem dX12_put_82 : decode cX12_put 82 = .ok (.iload_n 1, 1) := by decide +kernel
theorem dX12_put_83 : decode cX12_put 83 = .ok (.iaload, 1) := by decide +kernel
theorem dX12_put_84 : decode cX12_put 84 = .ok (.bipush 16, 2) := by decide +kernel
theorem dX12_put_86 : decode cX12_put 86 = .ok (.if_icmp .ne 8, 3) := by decide +kernel
theorem dX12_put_89 : decode cX12_put 89 = .ok (.iload_n 3, 1) := by decide +kernel
theorem dX12_put_90 : decode cX12_put 90 = .ok (.i2s, 1) := by decide +kernel
theorem dX12_put_91 : decode cX12_put 91 = .ok (.goto 4, 3) := by decide +kernel
theorem dX12_put_94 : decode cX12_put 94 = .ok (.iload_n 3, 1) := by decide +kernel
theorem dX12_put_95 : decode cX12_put 95 = .ok (.iastore, 1) := by decide +kernel
theorem dX12_put_96 : decode cX12_put 96 = .ok (.iconst 1, 1) := by decide +kernel
theorem dX12_put_97 : decode cX12_put 97 = .ok (.ireturn, 1) := by decide +kernel
theorem dX12_move_0 : decode cX12_move 0 = .ok (.iload_n 1, 1) := by decide +kernel
theorem dX12_move_1 : decode cX12_move 1 = .ok (.invokestatic 243, 3) := by decide +kernel
theorem dX12_move_4 : decode cX12_move 4 = .ok (.ifCond .eq 10, 3) := by decide +kernel
theorem dX12_move_7 : decode cX12_move 7 = .ok (.iload_n 3, 1) := by decide +kernel
theorem dX12_move_8 : decode cX12_move 8 = .ok (.invokestatic 243, 3) := by decide +kernel
theorem dX12_move_11 : decode cX12_move 11 = .ok (.ifCond .ne 9, 3) := by decide +kernel
theorem dX12_move_14 : decode cX12_move 14 = .ok (.aload_n 0, 1) := by decide +kernel
theorem dX12_move_15 : decode cX12_move 15 = .ok (.iconst 1, 1) := by decide +kernel
theorem dX12_move_16 : decode cX12_move 16 = .ok (.invokevirtual 126, 3) := by decide +kernel
theorem dX12_move_19 : decode cX12_move 19 = .ok (.ireturn, 1) := by decide +kernel
theorem dX12_move_20 : decode cX12_move 20 = .ok (.aload_n 0, 1) := by decide +kernel
theorem dX12_move_21 : decode cX12_move 21 = .ok (.getfield 34, 3) := by decide +kernel
theorem dX12_move_24 : decode cX12_move 24 = .ok (.iload_n 1, 1) := by decide +kernel
theorem dX12_move_25 : decode cX12_move 25 = .ok (.iaload, 1) := by decide +kernel
theorem dX12_move_26 : decode cX12_move 26 = .ok (.ifCond .eq 12, 3) := by decide +kernel
theorem dX12_move_29 : decode cX12_move 29 = .ok (.aload_n 0, 1) := by decide +kernel
theorem dX12_move_30 : decode cX12_move 30 = .ok (.getfield 34, 3) := by decide +kernel
theorem dX12_move_33 : decode cX12_move 33 = .ok (.iload_n 3, 1) := by decide +kernel
theorem dX12_move_34 : decode cX12_move 34 = .ok (.iaload, 1) := by decide +kernel
theorem dX12_move_35 : decode cX12_move 35 = .ok (.ifCond .ne 9, 3) := by decide +kernel
theorem dX12_move_38 : decode cX12_move 38 = .ok (.aload_n 0, 1) := by decide +kernel
theorem dX12_move_39 : decode cX12_move 39 = .ok (.iconst 2, 1) := by decide +kernel
theorem dX12_move_40 : decode cX12_move 40 = .ok (.invokevirtual 126, 3) := by decide +kernel
theorem dX12_move_43 : decode cX12_move 43 = .ok (.ireturn, 1) := by decide +kernel
theorem dX12_move_44 : decode cX12_move 44 = .ok (.aload_n 0, 1) := by decide +kernel
theorem dX12_move_45 : decode cX12_move 45 = .ok (.getfield 34, 3) := by decide +kernel
theorem dX12_move_48 : decode cX12_move 48 = .ok (.iload_n 1, 1) := by decide +kernel
theorem dX12_move_49 : decode cX12_move 49 = .ok (.iaload, 1) := by decide +kernel
theorem dX12_move_50 : decode cX12_move 50 = .ok (.aload_n 0, 1) := by decide +kernel
theorem dX12_move_51 : decode cX12_move 51 = .ok (.getfield 34, 3) := by decide +kernel
theorem dX12_move_54 : decode cX12_move 54 = .ok (.iload_n 3, 1) := by decide +kernel
theorem dX12_move_55 : decode cX12_move 55 = .ok (.iaload, 1) := by decide +kernel
theorem dX12_move_56 : decode cX12_move 56 = .ok (.if_icmp .eq 9, 3) := by decide +kernel
theorem dX12_move_59 : decode cX12_move 59 = .ok (.aload_n 0, 1) := by decide +kernel
theorem dX12_move_60 : decode cX12_move 60 = .ok (.iconst 5, 1) := by decide +kernel
theorem dX12_move_61 : decode cX12_move 61 = .ok (.invokevirtual 126, 3) := by decide +kernel
theorem dX12_move_64 : decode cX12_move 64 = .ok (.ireturn, 1) := by decide +kernel
theorem dX12_move_65 : decode cX12_move 65 = .ok (.iload 5, 2) := by decide +kernel
theorem dX12_move_67 : decode cX12_move 67 = .ok (.ifCond .lt 39, 3) := by decide +kernel
theorem dX12_move_70 : decode cX12_move 70 = .ok (.iload_n 2, 1) := by decide +kernel
theorem dX12_move_71 : decode cX12_move 71 = .ok (.ifCond .lt 35, 3) := by decide +kernel
theorem dX12_move_74 : decode cX12_move 74 = .ok (.iload 4, 2) := by decide +kernel
theorem dX12_move_76 : decode cX12_move 76 = .ok (.ifCond .lt 30, 3) := by decide +kernel
theorem dX12_move_79 : decode cX12_move 79 = .ok (.iload 5, 2) := by decide +kernel
theorem dX12_move_81 : decode cX12_move 81 = .ok (.aload_n 0, 1) := by decide +kernel
theorem dX12_move_82 : decode cX12_move 82 = .ok (.getfield 37, 3) := by decide +kernel
theorem dX12_move_85 : decode cX12_move 85 = .ok (.iload_n 1, 1) := by decide +kernel
theorem dX12_move_86 : decode cX12_move 86 = .ok (.iaload, 1) := by decide +kernel
theorem dX12_move_87 : decode cX12_move 87 = .ok (.iload_n 2, 1) := by decide +kernel
theorem dX12_move_88 : decode cX12_move 88 = .ok (.isub, 1) := by decide +kernel
theorem dX12_move_89 : decode cX12_move 89 = .ok (.if_icmp .gt 17, 3) := by decide +kernel
theorem dX12_move_92 : decode cX12_move 92 = .ok (.iload 5, 2) := by decide +kernel
theorem dX12_move_94 : decode cX12_move 94 = .ok (.aload_n 0, 1) := by decide +kernel
theorem dX12_move_95 : decode cX12_move 95 = .ok (.getfield 37, 3) := by decide +kernel
theorem dX12_move_98 : decode cX12_move 98 = .ok (.iload_n 3, 1) := by decide +kernel
theorem dX12_move_99 : decode cX12_move 99 = .ok (.iaload, 1) := by decide +kernel
theorem dX12_move_100 : decode cX12_move 100 = .ok (.iload 4, 2) := by decide +kernel
theorem dX12_move_102 : decode cX12_move 102 = .ok (.isub, 1) := by decide +kernel
theorem dX12_move_103 : decode cX12_move 103 = .ok (.if_icmp .le 9, 3) := by decide +kernel
theorem dX12_move_106 : decode cX12_move 106 = .ok (.aload_n 0, 1) := by decide +kernel
theorem dX12_move_107 : decode cX12_move 107 = .ok (.iconst 1, 1) := by decide +kernel
theorem dX12_move_108 : decode cX12_move 108 = .ok (.invokevirtual 126, 3) := by decide +kernel
theorem dX12_move_111 : decode cX12_move 111 = .ok (.ireturn, 1) := by decide +kernel
theorem dX12_move_112 : decode cX12_move 112 = .ok (.iconst 0, 1) := by decide +kernel
theorem dX12_move_113 : decode cX12_move 113 = .ok (.istore 6, 2) := by decide +kernel
theorem dX12_move_115 : decode cX12_move 115 = .ok (.iload 6, 2) := by decide +kernel
theorem dX12_move_117 : decode cX12_move 117 = .ok (.iload 5, 2) := by decide +kernel
theorem dX12_move_119 : decode cX12_move 119 = .ok (.if_icmp .ge 30, 3) := by decide +kernel
theorem dX12_move_122 : decode cX12_move 122 = .ok (.aload_n 0, 1) := by decide +kernel
theorem dX12_move_123 : decode cX12_move 123 = .ok (.getfield 43, 3) := by decide +kernel
theorem dX12_move_126 : decode cX12_move 126 = .ok (.iload 6, 2) := by decide +kernel
theorem dX12_move_128 : decode cX12_move 128 = .ok (.aload_n 0, 1) := by decide +kernel
theorem dX12_move_129 : decode cX12_move 129 = .ok (.getfield 40, 3) := by decide +kernel
theorem dX12_move_132 : decode cX12_move 132 = .ok (.bipush 40, 2) := by decide +kernel
theorem dX12_move_134 : decode cX12_move 134 = .ok (.iload_n 1, 1) := by decide +kernel
theorem dX12_move_135 : decode cX12_move 135 = .ok (.imul, 1) := by decide +kernel
theorem dX12_move_136 : decode cX12_move 136 = .ok (.iload_n 2, 1) := by decide +kernel
theorem dX12_move_137 : decode cX12_move 137 = .ok (.iadd, 1) := by decide +kernel
theorem dX12_move_138 : decode cX12_move 138 = .ok (.iload 6, 2) := by decide +kernel
theorem dX12_move_140 : decode cX12_move 140 = .ok (.iadd, 1) := by decide +kernel
theorem dX12_move_141 : decode cX12_move 141 = .ok (.iaload, 1) := by decide +kernel
theorem dX12_move_142 : decode cX12_move 142 = .ok (.iastore, 1) := by decide +kernel
theorem dX12_move_143 : decode cX12_move 143 = .ok (.iinc 6 1, 3) := by decide +kernel
theorem dX12_move_146 : decode cX12_move 146 = .ok (.goto (-31), 3) := by decide +kernel
theorem dX12_move_149 : decode cX12_move 149 = .ok (.iconst 0, 1) := by decide +kernel
theorem dX12_move_150 : decode cX12_move 150 = .ok (.istore 6, 2) := by decide +kernel
theorem dX12_move_152 : decode cX12_move 152 = .ok (.iload 6, 2) := by decide +kernel
theorem dX12_move_154 : decode cX12_move 154 = .ok (.iload 5, 2) := by decide +kernel
theorem dX12_move_156 : decode cX12_move 156 = .ok (.if_icmp .ge 31, 3) := by decide +kernel
theorem dX12_move_159 : decode cX12_move 159 = .ok (.aload_n 0, 1) := by decide +kernel
theorem dX12_move_160 : decode cX12_move 160 = .ok (.getfield 40, 3) := by decide +kernel
theorem dX12_move_163 : decode cX12_move 163 = .ok (.bipush 40, 2) := by decide +kernel
theorem dX12_move_165 : decode cX12_move 165 = .ok (.iload_n 3, 1) := by decide +kernel
theorem dX12_move_166 : decode cX12_move 166 = .ok (.imul, 1) := by decide +kernel
theorem dX12_move_167 : decode cX12_move 167 = .ok (.iload 4, 2) := by decide +kernel
theorem dX12_move_169 : decode cX12_move 169 = .ok (.iadd, 1) := by decide +kernel
theorem dX12_move_170 : decode cX12_move 170 = .ok (.iload 6, 2) := by decide +kernel
theorem dX12_move_172 : decode cX12_move 172 = .ok (.iadd, 1) := by decide +kernel
theorem dX12_move_173 : decode cX12_move 173 = .ok (.aload_n 0, 1) := by decide +kernel
theorem dX12_move_174 : decode cX12_move 174 = .ok (.getfield 43, 3) := by decide +kernel
theorem dX12_move_177 : decode cX12_move 177 = .ok (.iload 6, 2) := by decide +kernel
theorem dX12_move_179 : decode cX12_move 179 = .ok (.iaload, 1) := by decide +kernel
theorem dX12_move_180 : decode cX12_move 180 = .ok (.iastore, 1) := by decide +kernel
theorem dX12_move_181 : decode cX12_move 181 = .ok (.iinc 6 1, 3) := by decide +kernel
theorem dX12_move_184 : decode cX12_move 184 = .ok (.goto (-32), 3) := by decide +kernel
theorem dX12_move_187 : decode cX12_move 187 = .ok (.iload 5, 2) := by decide +kernel
theorem dX12_move_189 : decode cX12_move 189 = .ok (.ireturn, 1) := by decide +kernel
theorem dX12_suns_0 : decode cX12_suns 0 = .ok (.iload_n 1, 1) := by decide +kernel
theorem dX12_suns_1 : decode cX12_suns 1 = .ok (.invokestatic 243, 3) := by decide +kernel
theorem dX12_suns_4 : decode cX12_suns 4 = .ok (.ifCond .ne 9, 3) := by decide +kernel
theorem dX12_suns_7 : decode cX12_suns 7 = .ok (.aload_n 0, 1) := by decide +kernel
theorem dX12_suns_8 : decode cX12_suns 8 = .ok (.iconst 1, 1) := by decide +kernel
theorem dX12_suns_9 : decode cX12_suns 9 = .ok (.invokevirtual 126, 3) := by decide +kernel
theorem dX12_suns_12 : decode cX12_suns 12 = .ok (.ireturn, 1) := by decide +kernel
theorem dX12_suns_13 : decode cX12_suns 13 = .ok (.aload_n 0, 1) := by decide +kernel
theorem dX12_suns_14 : decode cX12_suns 14 = .ok (.getfield 34, 3) := by decide +kernel
theorem dX12_suns_17 : decode cX12_suns 17 = .ok (.iload_n 1, 1) := by decide +kernel
theorem dX12_suns_18 : decode cX12_suns 18 = .ok (.iaload, 1) := by decide +kernel
theorem dX12_suns_19 : decode cX12_suns 19 = .ok (.ifCond .ne 9, 3) := by decide +kernel
theorem dX12_suns_22 : decode cX12_suns 22 = .ok (.aload_n 0, 1) := by decide +kernel
theorem dX12_suns_23 : decode cX12_suns 23 = .ok (.iconst 2, 1) := by decide +kernel
theorem dX12_suns_24 : decode cX12_suns 24 = .ok (.invokevirtual 126, 3) := by decide +kernel
theorem dX12_suns_27 : decode cX12_suns 27 = .ok (.ireturn, 1) := by decide +kernel
theorem dX12_suns_28 : decode cX12_suns 28 = .ok (.iconst 0, 1) := by decide +kernel
theorem dX12_suns_29 : decode cX12_suns 29 = .ok (.istore_n 2, 1) := by decide +kernel
theorem dX12_suns_30 : decode cX12_suns 30 = .ok (.iload_n 2, 1) := by decide +kernel
theorem dX12_suns_31 : decode cX12_suns 31 = .ok (.aload_n 0, 1) := by decide +kernel
theorem dX12_suns_32 : decode cX12_suns 32 = .ok (.getfield 37, 3) := by decide +kernel
theorem dX12_suns_35 : decode cX12_suns 35 = .ok (.iload_n 1, 1) := by decide +kernel
theorem dX12_suns_36 : decode cX12_suns 36 = .ok (.iaload, 1) := by decide +kernel
theorem dX12_suns_37 : decode cX12_suns 37 = .ok (.if_icmp .ge 57, 3) := by decide +kernel
theorem dX12_suns_40 : decode cX12_suns 40 = .ok (.iload_n 2, 1) := by decide +kernel
theorem dX12_suns_41 : decode cX12_suns 41 = .ok (.bipush 16, 2) := by decide +kernel
theorem dX12_suns_43 : decode cX12_suns 43 = .ok (.if_icmp .ge 51, 3) := by decide +kernel
theorem dX12_suns_46 : decode cX12_suns 46 = .ok (.aload_n 0, 1) := by decide +kernel
theorem dX12_suns_47 : decode cX12_suns 47 = .ok (.getfield 40, 3) := by decide +kernel
theorem dX12_suns_50 : decode cX12_suns 50 = .ok (.bipush 40, 2) := by decide +kernel
theorem dX12_suns_52 : decode cX12_suns 52 = .ok (.iload_n 1, 1) := by decide +kernel
theorem dX12_suns_53 : decode cX12_suns 53 = .ok (.imul, 1) := by decide +kernel
theorem dX12_suns_54 : decode cX12_suns 54 = .ok (.iload_n 2, 1) := by decide +kernel
theorem dX12_suns_55 : decode cX12_suns 55 = .ok (.iadd, 1) := by decide +kernel
theorem dX12_suns_56 : decode cX12_suns 56 = .ok (.iaload, 1) := by decide +kernel
theorem dX12_suns_57 : decode cX12_suns 57 = .ok (.i2l, 1) := by decide +kernel
theorem dX12_suns_58 : decode cX12_suns 58 = .ok (.lconst 0, 1) := by decide +kernel
theorem dX12_suns_59 : decode cX12_suns 59 = .ok (.ldc2_w 177, 3) := by decide +kernel
theorem dX12_suns_62 : decode cX12_suns 62 = .ok (.invokestatic 47, 3) := by decide +kernel
theorem dX12_suns_65 : decode cX12_suns 65 = .ok (.ifCond .eq 29, 3) := by decide +kernel
theorem dX12_suns_68 : decode cX12_suns 68 = .ok (.aload_n 0, 1) := by decide +kernel
theorem dX12_suns_69 : decode cX12_suns 69 = .ok (.getfield 7, 3) := by decide +kernel
theorem dX12_suns_72 : decode cX12_suns 72 = .ok (.bipush 8, 2) := by decide +kernel
theorem dX12_suns_74 : decode cX12_suns 74 = .ok (.iload_n 2, 1) := by decide +kernel
theorem dX12_suns_75 : decode cX12_suns 75 = .ok (.iadd, 1) := by decide +kernel
theorem dX12_suns_76 : decode cX12_suns 76 = .ok (.aload_n 0, 1) := by decide +kernel
theorem dX12_suns_77 : decode cX12_suns 77 = .ok (.getfield 40, 3) := by decide +kernel
theorem dX12_suns_80 : decode cX12_suns 80 = .ok (.bipush 40, 2) := by decide +kernel
theorem dX12_suns_82 : decode cX12_suns 82 = .ok (.iload_n 1, 1) := by decide +kernel
theorem dX12_suns_83 : decode cX12_suns 83 = .ok (.imul, 1) := by decide +kernel
theorem dX12_suns_84 : decode cX12_suns 84 = .ok (.iload_n 2, 1) := by decide +kernel
theorem dX12_suns_85 : decode cX12_suns 85 = .ok (.iadd, 1) := by decide +kernel
theorem dX12_suns_86 : decode cX12_suns 86 = .ok (.iaload, 1) := by decide +kernel
theorem dX12_suns_87 : decode cX12_suns 87 = .ok (.iastore, 1) := by decide +kernel
theorem dX12_suns_88 : decode cX12_suns 88 = .ok (.iinc 2 1, 3) := by decide +kernel
theorem dX12_suns_91 : decode cX12_suns 91 = .ok (.goto (-61), 3) := by decide +kernel
theorem dX12_suns_94 : decode cX12_suns 94 = .ok (.iload_n 2, 1) := by decide +kernel
theorem dX12_suns_95 : decode cX12_suns 95 = .ok (.ireturn, 1) := by decide +kernel
theorem dX12_judge_0 : decode cX12_judge 0 = .ok (.iload_n 1, 1) := by decide +kernel
theorem dX12_judge_1 : decode cX12_judge 1 = .ok (.invokestatic 243, 3) := by decide +kernel
theorem dX12_judge_4 : decode cX12_judge 4 = .ok (.ifCond .ne 9, 3) := by decide +kernel
theorem dX12_judge_7 : decode cX12_judge 7 = .ok (.aload_n 0, 1) := by decide +kernel
theorem dX12_judge_8 : decode cX12_judge 8 = .ok (.iconst 1, 1) := by decide +kernel
theorem dX12_judge_9 : decode cX12_judge 9 = .ok (.invokevirtual 126, 3) := by decide +kernel
theorem dX12_judge_12 : decode cX12_judge 12 = .ok (.ireturn, 1) := by decide +kernel
theorem dX12_judge_13 : decode cX12_judge 13 = .ok (.aload_n 0, 1) := by decide +kernel
theorem dX12_judge_14 : decode cX12_judge 14 = .ok (.getfield 34, 3) := by decide +kernel
theorem dX12_judge_17 : decode cX12_judge 17 = .ok (.iload_n 1, 1) := by decide +kernel
theorem dX12_judge_18 : decode cX12_judge 18 = .ok (.iaload, 1) := by decide +kernel
theorem dX12_judge_19 : decode cX12_judge 19 = .ok (.ifCond .ne 9, 3) := by decide +kernel
theorem dX12_judge_22 : decode cX12_judge 22 = .ok (.aload_n 0, 1) := by decide +kernel
theorem dX12_judge_23 : decode cX12_judge 23 = .ok (.iconst 2, 1) := by decide +kernel
theorem dX12_judge_24 : decode cX12_judge 24 = .ok (.invokevirtual 126, 3) := by decide +kernel
theorem dX12_judge_27 : decode cX12_judge 27 = .ok (.ireturn, 1) := by decide +kernel
theorem dX12_judge_28 : decode cX12_judge 28 = .ok (.iconst 0, 1) := by decide +kernel
theorem dX12_judge_29 : decode cX12_judge 29 = .ok (.istore_n 2, 1) := by decide +kernel
theorem dX12_judge_30 : decode cX12_judge 30 = .ok (.iload_n 2, 1) := by decide +kernel
theorem dX12_judge_31 : decode cX12_judge 31 = .ok (.aload_n 0, 1) := by decide +kernel
theorem dX12_judge_32 : decode cX12_judge 32 = .ok (.getfield 37, 3) := by decide +kernel
theorem dX12_judge_35 : decode cX12_judge 35 = .ok (.iload_n 1, 1) := by decide +kernel
theorem dX12_judge_36 : decode cX12_judge 36 = .ok (.iaload, 1) := by decide +kernel
theorem dX12_judge_37 : decode cX12_judge 37 = .ok (.if_icmp .ge 39, 3) := by decide +kernel
theorem dX12_judge_40 : decode cX12_judge 40 = .ok (.iload_n 2, 1) := by decide +kernel
theorem dX12_judge_41 : decode cX12_judge 41 = .ok (.aload_n 0, 1) := by decide +kernel
theorem dX12_judge_42 : decode cX12_judge 42 = .ok (.getfield 7, 3) := by decide +kernel
theorem dX12_judge_45 : decode cX12_judge 45 = .ok (.iconst 0, 1) := by decide +kernel
theorem dX12_judge_46 : decode cX12_judge 46 = .ok (.iaload, 1) := by decide +kernel
theorem dX12_judge_47 : decode cX12_judge 47 = .ok (.if_icmp .ge 29, 3) := by decide +kernel
theorem dX12_judge_50 : decode cX12_judge 50 = .ok (.aload_n 0, 1) := by decide +kernel
theorem dX12_judge_51 : decode cX12_judge 51 = .ok (.getfield 40, 3) := by decide +kernel
theorem dX12_judge_54 : decode cX12_judge 54 = .ok (.bipush 40, 2) := by decide +kernel
theorem dX12_judge_56 : decode cX12_judge 56 = .ok (.iload_n 1, 1) := by decide +kernel
theorem dX12_judge_57 : decode cX12_judge 57 = .ok (.imul, 1) := by decide +kernel
theorem dX12_judge_58 : decode cX12_judge 58 = .ok (.iload_n 2, 1) := by decide +kernel
theorem dX12_judge_59 : decode cX12_judge 59 = .ok (.iadd, 1) := by decide +kernel
theorem dX12_judge_60 : decode cX12_judge 60 = .ok (.iaload, 1) := by decide +kernel
theorem dX12_judge_61 : decode cX12_judge 61 = .ok (.aload_n 0, 1) := by decide +kernel
theorem dX12_judge_62 : decode cX12_judge 62 = .ok (.iload_n 2, 1) := by decide +kernel
theorem dX12_judge_63 : decode cX12_judge 63 = .ok (.iconst 2, 1) := by decide +kernel
theorem dX12_judge_64 : decode cX12_judge 64 = .ok (.invokevirtual 146, 3) := by decide +kernel
theorem dX12_judge_67 : decode cX12_judge 67 = .ok (.if_icmp .ne 9, 3) := by decide +kernel
theorem dX12_judge_70 : decode cX12_judge 70 = .ok (.iinc 2 1, 3) := by decide +kernel
theorem dX12_judge_73 : decode cX12_judge 73 = .ok (.goto (-43), 3) := by decide +kernel
theorem dX12_judge_76 : decode cX12_judge 76 = .ok (.iload_n 2, 1) := by decide +kernel
theorem dX12_judge_77 : decode cX12_judge 77 = .ok (.aload_n 0, 1) := by decide +kernel
theorem dX12_judge_78 : decode cX12_judge 78 = .ok (.getfield 37, 3) := by decide +kernel
theorem dX12_judge_81 : decode cX12_judge 81 = .ok (.iload_n 1, 1) := by decide +kernel
theorem dX12_judge_82 : decode cX12_judge 82 = .ok (.iaload, 1) := by decide +kernel
theorem dX12_judge_83 : decode cX12_judge 83 = .ok (.if_icmp .ne 17, 3) := by decide +kernel
theorem dX12_judge_86 : decode cX12_judge 86 = .ok (.iload_n 2, 1) := by decide +kernel
theorem dX12_judge_87 : decode cX12_judge 87 = .ok (.aload_n 0, 1) := by decide +kernel
theorem dX12_judge_88 : decode cX12_judge 88 = .ok (.getfield 7, 3) := by decide +kernel
theorem dX12_judge_91 : decode cX12_judge 91 = .ok (.iconst 0, 1) := by decide +kernel
theorem dX12_judge_92 : decode cX12_judge 92 = .ok (.iaload, 1) := by decide +kernel
theorem dX12_judge_93 : decode cX12_judge 93 = .ok (.if_icmp .ne 7, 3) := by decide +kernel
theorem dX12_judge_96 : decode cX12_judge 96 = .ok (.iconst (-1), 1) := by decide +kernel
theorem dX12_judge_97 : decode cX12_judge 97 = .ok (.goto 4, 3) := by decide +kernel
theorem dX12_judge_100 : decode cX12_judge 100 = .ok (.iload_n 2, 1) := by decide +kernel
theorem dX12_judge_101 : decode cX12_judge 101 = .ok (.ireturn, 1) := by decide +kernel
theorem dX12_image_0 : decode cX12_image 0 = .ok (.iconst 0, 1) := by decide +kernel
theorem dX12_image_1 : decode cX12_image 1 = .ok (.istore_n 1, 1) := by decide +kernel
theorem dX12_image_2 : decode cX12_image 2 = .ok (.iload_n 1, 1) := by decide +kernel
theorem dX12_image_3 : decode cX12_image 3 = .ok (.sipush 260, 3) := by decide +kernel
theorem dX12_image_6 : decode cX12_image 6 = .ok (.if_icmp .ge 21, 3) := by decide +kernel
theorem dX12_image_9 : decode cX12_image 9 = .ok (.aload_n 0, 1) := by decide +kernel
theorem dX12_image_10 : decode cX12_image 10 = .ok (.getfield 13, 3) := by decide +kernel
theorem dX12_image_13 : decode cX12_image 13 = .ok (.iload_n 1, 1) := by decide +kernel
theorem dX12_image_14 : decode cX12_image 14 = .ok (.aload_n 0, 1) := by decide +kernel
theorem dX12_image_15 : decode cX12_image 15 = .ok (.getfield 7, 3) := by decide +kernel
theorem dX12_image_18 : decode cX12_image 18 = .ok (.iload_n 1, 1) := by decide +kernel
theorem dX12_image_19 : decode cX12_image 19 = .ok (.iaload, 1) := by decide +kernel
theorem dX12_image_20 : decode cX12_image 20 = .ok (.iastore, 1) := by decide +kernel
theorem dX12_image_21 : decode cX12_image 21 = .ok (.iinc 1 1, 3) := by decide +kernel
theorem dX12_image_24 : decode cX12_image 24 = .ok (.goto (-22), 3) := by decide +kernel
theorem dX12_image_27 : decode cX12_image 27 = .ok (.aload_n 0, 1) := by decide +kernel
theorem dX12_image_28 : decode cX12_image 28 = .ok (.dup, 1) := by decide +kernel
theorem dX12_image_29 : decode cX12_image 29 = .ok (.getfield 276, 3) := by decide +kernel
theorem dX12_image_32 : decode cX12_image 32 = .ok (.iconst 1, 1) := by decide +kernel
theorem dX12_image_33 : decode cX12_image 33 = .ok (.iadd, 1) := by decide +kernel
theorem dX12_image_34 : decode cX12_image 34 = .ok (.putfield 276, 3) := by decide +kernel
theorem dX12_image_37 : decode cX12_image 37 = .ok (.aload_n 0, 1) := by decide +kernel
theorem dX12_image_38 : decode cX12_image 38 = .ok (.getfield 276, 3) := by decide +kernel
theorem dX12_image_41 : decode cX12_image 41 = .ok (.ireturn, 1) := by decide +kernel
theorem dX12_restore_0 : decode cX12_restore 0 = .ok (.aload_n 0, 1) := by decide +kernel
theorem dX12_restore_1 : decode cX12_restore 1 = .ok (.getfield 276, 3) := by decide +kernel
theorem dX12_restore_4 : decode cX12_restore 4 = .ok (.ifCond .ne 9, 3) := by decide +kernel
theorem dX12_restore_7 : decode cX12_restore 7 = .ok (.aload_n 0, 1) := by decide +kernel
theorem dX12_restore_8 : decode cX12_restore 8 = .ok (.iconst 2, 1) := by decide +kernel
theorem dX12_restore_9 : decode cX12_restore 9 = .ok (.invokevirtual 126, 3) := by decide +kernel
theorem dX12_restore_12 : decode cX12_restore 12 = .ok (.ireturn, 1) := by decide +kernel
theorem dX12_restore_13 : decode cX12_restore 13 = .ok (.iconst 0, 1) := by decide +kernel
theorem dX12_restore_14 : decode cX12_restore 14 = .ok (.istore_n 1, 1) := by decide +kernel
theorem dX12_restore_15 : decode cX12_restore 15 = .ok (.iload_n 1, 1) := by decide +kernel
theorem dX12_restore_16 : decode cX12_restore 16 = .ok (.sipush 260, 3) := by decide +kernel
theorem dX12_restore_19 : decode cX12_restore 19 = .ok (.if_icmp .ge 21, 3) := by decide +kernel
theorem dX12_restore_22 : decode cX12_restore 22 = .ok (.aload_n 0, 1) := by decide +kernel
theorem dX12_restore_23 : decode cX12_restore 23 = .ok (.getfield 7, 3) := by decide +kernel
theorem dX12_restore_26 : decode cX12_restore 26 = .ok (.iload_n 1, 1) := by decide +kernel
theorem dX12_restore_27 : decode cX12_restore 27 = .ok (.aload_n 0, 1) := by decide +kernel
theorem dX12_restore_28 : decode cX12_restore 28 = .ok (.getfield 13, 3) := by decide +kernel
theorem dX12_restore_31 : decode cX12_restore 31 = .ok (.iload_n 1, 1) := by decide +kernel
theorem dX12_restore_32 : decode cX12_restore 32 = .ok (.iaload, 1) := by decide +kernel
theorem dX12_restore_33 : decode cX12_restore 33 = .ok (.iastore, 1) := by decide +kernel
theorem dX12_restore_34 : decode cX12_restore 34 = .ok (.iinc 1 1, 3) := by decide +kernel
theorem dX12_restore_37 : decode cX12_restore 37 = .ok (.goto (-22), 3) := by decide +kernel
theorem dX12_restore_40 : decode cX12_restore 40 = .ok (.aload_n 0, 1) := by decide +kernel
theorem dX12_restore_41 : decode cX12_restore 41 = .ok (.getfield 7, 3) := by decide +kernel
theorem dX12_restore_44 : decode cX12_restore 44 = .ok (.iconst 1, 1) := by decide +kernel
theorem dX12_restore_45 : decode cX12_restore 45 = .ok (.iaload, 1) := by decide +kernel
theorem dX12_restore_46 : decode cX12_restore 46 = .ok (.ireturn, 1) := by decide +kernel
theorem dX12_tell_0 : decode cX12_tell 0 = .ok (.aload_n 0, 1) := by decide +kernel
theorem dX12_tell_1 : decode cX12_tell 1 = .ok (.getfield 7, 3) := by decide +kernel
theorem dX12_tell_4 : decode cX12_tell 4 = .ok (.bipush 7, 2) := by decide +kernel
theorem dX12_tell_6 : decode cX12_tell 6 = .ok (.iaload, 1) := by decide +kernel
theorem dX12_tell_7 : decode cX12_tell 7 = .ok (.bipush 20, 2) := by decide +kernel
theorem dX12_tell_9 : decode cX12_tell 9 = .ok (.if_icmp .ne 9, 3) := by decide +kernel
theorem dX12_tell_12 : decode cX12_tell 12 = .ok (.aload_n 0, 1) := by decide +kernel
theorem dX12_tell_13 : decode cX12_tell 13 = .ok (.iconst 4, 1) := by decide +kernel
theorem dX12_tell_14 : decode cX12_tell 14 = .ok (.invokevirtual 126, 3) := by decide +kernel
theorem dX12_tell_17 : decode cX12_tell 17 = .ok (.ireturn, 1) := by decide +kernel
theorem dX12_tell_18 : decode cX12_tell 18 = .ok (.aload_n 0, 1) := by decide +kernel
theorem dX12_tell_19 : decode cX12_tell 19 = .ok (.getfield 7, 3) := by decide +kernel
theorem dX12_tell_22 : decode cX12_tell 22 = .ok (.bipush 90, 2) := by decide +kernel
theorem dX12_tell_24 : decode cX12_tell 24 = .ok (.aload_n 0, 1) := by decide +kernel
theorem dX12_tell_25 : decode cX12_tell 25 = .ok (.getfield 7, 3) := by decide +kernel
theorem dX12_tell_28 : decode cX12_tell 28 = .ok (.bipush 7, 2) := by decide +kernel
theorem dX12_tell_30 : decode cX12_tell 30 = .ok (.iaload, 1) := by decide +kernel
theorem dX12_tell_31 : decode cX12_tell 31 = .ok (.iadd, 1) := by decide +kernel
theorem dX12_tell_32 : decode cX12_tell 32 = .ok (.iload_n 1, 1) := by decide +kernel
theorem dX12_tell_33 : decode cX12_tell 33 = .ok (.iastore, 1) := by decide +kernel
theorem dX12_tell_34 : decode cX12_tell 34 = .ok (.aload_n 0, 1) := by decide +kernel
theorem dX12_tell_35 : decode cX12_tell 35 = .ok (.getfield 7, 3) := by decide +kernel
theorem dX12_tell_38 : decode cX12_tell 38 = .ok (.bipush 7, 2) := by decide +kernel
theorem dX12_tell_40 : decode cX12_tell 40 = .ok (.dup2, 1) := by decide +kernel
theorem dX12_tell_41 : decode cX12_tell 41 = .ok (.iaload, 1) := by decide +kernel
theorem dX12_tell_42 : decode cX12_tell 42 = .ok (.iconst 1, 1) := by decide +kernel
theorem dX12_tell_43 : decode cX12_tell 43 = .ok (.iadd, 1) := by decide +kernel
theorem dX12_tell_44 : decode cX12_tell 44 = .ok (.iastore, 1) := by decide +kernel
theorem dX12_tell_45 : decode cX12_tell 45 = .ok (.aload_n 0, 1) := by decide +kernel
theorem dX12_tell_46 : decode cX12_tell 46 = .ok (.getfield 7, 3) := by decide +kernel
theorem dX12_tell_49 : decode cX12_tell 49 = .ok (.bipush 7, 2) := by decide +kernel
theorem dX12_tell_51 : decode cX12_tell 51 = .ok (.iaload, 1) := by decide +kernel
theorem dX12_tell_52 : decode cX12_tell 52 = .ok (.ireturn, 1) := by decide +kernel
theorem dX12_check_0 : decode cX12_check 0 = .ok (.aload_n 0, 1) := by decide +kernel
theorem dX12_check_1 : decode cX12_check 1 = .ok (.getfield 7, 3) := by decide +kernel
theorem dX12_check_4 : decode cX12_check 4 = .ok (.bipush 7, 2) := by decide +kernel
theorem dX12_check_6 : decode cX12_check 6 = .ok (.iaload, 1) := by decide +kernel
theorem dX12_check_7 : decode cX12_check 7 = .ok (.istore_n 1, 1) := by decide +kernel
theorem dX12_check_8 : decode cX12_check 8 = .ok (.aload_n 0, 1) := by decide +kernel
theorem dX12_check_9 : decode cX12_check 9 = .ok (.getfield 7, 3) := by decide +kernel
theorem dX12_check_12 : decode cX12_check 12 = .ok (.bipush 7, 2) := by decide +kernel
theorem dX12_check_14 : decode cX12_check 14 = .ok (.iconst 0, 1) := by decide +kernel
theorem dX12_check_15 : decode cX12_check 15 = .ok (.iastore, 1) := by decide +kernel
theorem dX12_check_16 : decode cX12_check 16 = .ok (.aload_n 0, 1) := by decide +kernel
theorem dX12_check_17 : decode cX12_check 17 = .ok (.invokevirtual 226, 3) := by decide +kernel
theorem dX12_check_20 : decode cX12_check 20 = .ok (.iconst 0, 1) := by decide +kernel
theorem dX12_check_21 : decode cX12_check 21 = .ok (.istore_n 2, 1) := by decide +kernel
theorem dX12_check_22 : decode cX12_check 22 = .ok (.iconst 0, 1) := by decide +kernel
theorem dX12_check_23 : decode cX12_check 23 = .ok (.istore_n 3, 1) := by decide +kernel
theorem dX12_check_24 : decode cX12_check 24 = .ok (.iload_n 3, 1) := by decide +kernel
theorem dX12_check_25 : decode cX12_check 25 = .ok (.iload_n 1, 1) := by decide +kernel
theorem dX12_check_26 : decode cX12_check 26 = .ok (.if_icmp .ge 43, 3) := by decide +kernel
theorem dX12_check_29 : decode cX12_check 29 = .ok (.iload_n 2, 1) := by decide +kernel
theorem dX12_check_30 : decode cX12_check 30 = .ok (.ifCond .ne 39, 3) := by decide +kernel
theorem dX12_check_33 : decode cX12_check 33 = .ok (.aload_n 0, 1) := by decide +kernel
theorem dX12_check_34 : decode cX12_check 34 = .ok (.invokevirtual 171, 3) := by decide +kernel
theorem dX12_check_37 : decode cX12_check 37 = .ok (.aload_n 0, 1) := by decide +kernel
theorem dX12_check_38 : decode cX12_check 38 = .ok (.getfield 7, 3) := by decide +kernel
theorem dX12_check_41 : decode cX12_check 41 = .ok (.bipush 90, 2) := by decide +kernel
theorem dX12_check_43 : decode cX12_check 43 = .ok (.iload_n 3, 1) := by decide +kernel
theorem dX12_check_44 : decode cX12_check 44 = .ok (.iadd, 1) := by decide +kernel
theorem dX12_check_45 : decode cX12_check 45 = .ok (.iaload, 1) := by decide +kernel
theorem dX12_check_46 : decode cX12_check 46 = .ok (.aload_n 0, 1) := by decide +kernel
theorem dX12_check_47 : decode cX12_check 47 = .ok (.getfield 7, 3) := by decide +kernel
theorem dX12_check_50 : decode cX12_check 50 = .ok (.iconst 4, 1) := by decide +kernel
theorem dX12_check_51 : decode cX12_check 51 = .ok (.iaload, 1) := by decide +kernel
theorem dX12_check_52 : decode cX12_check 52 = .ok (.if_icmp .ne 7, 3) := by decide +kernel
theorem dX12_check_55 : decode cX12_check 55 = .ok (.iconst 0, 1) := by decide +kernel
theorem dX12_check_56 : decode cX12_check 56 = .ok (.goto 6, 3) := by decide +kernel
theorem dX12_check_59 : decode cX12_check 59 = .ok (.iconst 1, 1) := by decide +kernel
theorem dX12_check_60 : decode cX12_check 60 = .ok (.iload_n 3, 1) := by decide +kernel
theorem dX12_check_61 : decode cX12_check 61 = .ok (.iadd, 1) := by decide +kernel
theorem dX12_check_62 : decode cX12_check 62 = .ok (.istore_n 2, 1) := by decide +kernel
theorem dX12_check_63 : decode cX12_check 63 = .ok (.iinc 3 1, 3) := by decide +kernel
theorem dX12_check_66 : decode cX12_check 66 = .ok (.goto (-42), 3) := by decide +kernel
theorem dX12_check_69 : decode cX12_check 69 = .ok (.aload_n 0, 1) := by decide +kernel
theorem dX12_check_70 : decode cX12_check 70 = .ok (.invokevirtual 223, 3) := by decide +kernel
theorem dX12_check_73 : decode cX12_check 73 = .ok (.iload_n 2, 1) := by decide +kernel
theorem dX12_check_74 : decode cX12_check 74 = .ok (.ireturn, 1) := by decide +kernel
theorem dX12_sumOf_0 : decode cX12_sumOf 0 = .ok (.iconst 0, 1) := by decide +kernel
theorem dX12_sumOf_1 : decode cX12_sumOf 1 = .ok (.istore 4, 2) := by decide +kernel
theorem dX12_sumOf_3 : decode cX12_sumOf 3 = .ok (.iconst 0, 1) := by decide +kernel
theorem dX12_sumOf_4 : decode cX12_sumOf 4 = .ok (.istore 5, 2) := by decide +kernel
theorem dX12_sumOf_6 : decode cX12_sumOf 6 = .ok (.iload 5, 2) := by decide +kernel
theorem dX12_sumOf_8 : decode cX12_sumOf 8 = .ok (.iload_n 2, 1) := by decide +kernel
theorem dX12_sumOf_9 : decode cX12_sumOf 9 = .ok (.if_icmp .ge 25, 3) := by decide +kernel
theorem dX12_sumOf_12 : decode cX12_sumOf 12 = .ok (.iload 4, 2) := by decide +kernel
theorem dX12_sumOf_14 : decode cX12_sumOf 14 = .ok (.aload_n 0, 1) := by decide +kernel
theorem dX12_sumOf_15 : decode cX12_sumOf 15 = .ok (.getfield 7, 3) := by decide +kernel
theorem dX12_sumOf_18 : decode cX12_sumOf 18 = .ok (.iload_n 1, 1) := by decide +kernel
theorem dX12_sumOf_19 : decode cX12_sumOf 19 = .ok (.iload_n 3, 1) := by decide +kernel
theorem dX12_sumOf_20 : decode cX12_sumOf 20 = .ok (.iload 5, 2) := by decide +kernel
theorem dX12_sumOf_22 : decode cX12_sumOf 22 = .ok (.imul, 1) := by decide +kernel
theorem dX12_sumOf_23 : decode cX12_sumOf 23 = .ok (.iadd, 1) := by decide +kernel
theorem dX12_sumOf_24 : decode cX12_sumOf 24 = .ok (.iaload, 1) := by decide +kernel
theorem dX12_sumOf_25 : decode cX12_sumOf 25 = .ok (.iadd, 1) := by decide +kernel
theorem dX12_sumOf_26 : decode cX12_sumOf 26 = .ok (.istore 4, 2) := by decide +kernel
theorem dX12_sumOf_28 : decode cX12_sumOf 28 = .ok (.iinc 5 1, 3) := by decide +kernel
theorem dX12_sumOf_31 : decode cX12_sumOf 31 = .ok (.goto (-25), 3) := by decide +kernel
theorem dX12_sumOf_34 : decode cX12_sumOf 34 = .ok (.iload 4, 2) := by decide +kernel
theorem dX12_sumOf_36 : decode cX12_sumOf 36 = .ok (.ireturn, 1) := by decide +kernel
theorem dX12_count_0 : decode cX12_count 0 = .ok (.iload_n 1, 1) := by decide +kernel
theorem dX12_count_1 : decode cX12_count 1 = .ok (.tableswitch 119 0 10 #[59, 59, 59, 59, 59, 66, 76, 91, 99, 107, 112], 59) := by decide +kernel
theorem dX12_count_60 : decode cX12_count 60 = .ok (.aload_n 0, 1) := by decide +kernel
theorem dX12_count_61 : decode cX12_count 61 = .ok (.getfield 7, 3) := by decide +kernel
theorem dX12_count_64 : decode cX12_count 64 = .ok (.iload_n 1, 1) := by decide +kernel
theorem dX12_count_65 : decode cX12_count 65 = .ok (.iaload, 1) := by decide +kernel
theorem dX12_count_66 : decode cX12_count 66 = .ok (.ireturn, 1) := by decide +kernel
theorem dX12_count_67 : decode cX12_count 67 = .ok (.aload_n 0, 1) := by decide +kernel
theorem dX12_count_68 : decode cX12_count 68 = .ok (.bipush 8, 2) := by decide +kernel
theorem dX12_count_70 : decode cX12_count 70 = .ok (.bipush 16, 2) := by decide +kernel
theorem dX12_count_72 : decode cX12_count 72 = .ok (.iconst 1, 1) := by decide +kernel
theorem dX12_count_73 : decode cX12_count 73 = .ok (.invokevirtual 279, 3) := by decide +kernel
theorem dX12_count_76 : decode cX12_count 76 = .ok (.ireturn, 1) := by decide +kernel
theorem dX12_count_77 : decode cX12_count 77 = .ok (.aload_n 0, 1) := by decide +kernel
theorem dX12_count_78 : decode cX12_count 78 = .ok (.bipush 45, 2) := by decide +kernel
theorem dX12_count_80 : decode cX12_count 80 = .ok (.aload_n 0, 1) := by decide +kernel
theorem dX12_count_81 : decode cX12_count 81 = .ok (.getfield 7, 3) := by decide +kernel
theorem dX12_count_84 : decode cX12_count 84 = .ok (.iconst 0, 1) := by decide +kernel
theorem dX12_count_85 : decode cX12_count 85 = .ok (.iaload, 1) := by decide +kernel
theorem dX12_count_86 : decode cX12_count 86 = .ok (.bipush 6, 2) := by decide +kernel
theorem dX12_count_88 : decode cX12_count 88 = .ok (.invokevirtual 279, 3) := by decide +kernel
theorem dX12_count_91 : decode cX12_count 91 = .ok (.ireturn, 1) := by decide +kernel
theorem dX12_count_92 : decode cX12_count 92 = .ok (.aload_n 0, 1) := by decide +kernel
theorem dX12_count_93 : decode cX12_count 93 = .ok (.getfield 7, 3) := by decide +kernel
theorem dX12_count_96 : decode cX12_count 96 = .ok (.bipush 6, 2) := by decide +kernel
theorem dX12_count_98 : decode cX12_count 98 = .ok (.iaload, 1) := by decide +kernel
theorem dX12_count_99 : decode cX12_count 99 = .ok (.ireturn, 1) := by decide +kernel
theorem dX12_count_100 : decode cX12_count 100 = .ok (.aload_n 0, 1) := by decide +kernel
theorem dX12_count_101 : decode cX12_count 101 = .ok (.getfield 7, 3) := by decide +kernel
theorem dX12_count_104 : decode cX12_count 104 = .ok (.bipush 7, 2) := by decide +kernel
theorem dX12_count_106 : decode cX12_count 106 = .ok (.iaload, 1) := by decide +kernel
theorem dX12_count_107 : decode cX12_count 107 = .ok (.ireturn, 1) := by decide +kernel
theorem dX12_count_108 : decode cX12_count 108 = .ok (.aload_n 0, 1) := by decide +kernel
theorem dX12_count_109 : decode cX12_count 109 = .ok (.getfield 255, 3) := by decide +kernel
theorem dX12_count_112 : decode cX12_count 112 = .ok (.ireturn, 1) := by decide +kernel
theorem dX12_count_113 : decode cX12_count 113 = .ok (.aload_n 0, 1) := by decide +kernel
theorem dX12_count_114 : decode cX12_count 114 = .ok (.getfield 7, 3) := by decide +kernel
theorem dX12_count_117 : decode cX12_count 117 = .ok (.iconst 5, 1) := by decide +kernel
theorem dX12_count_118 : decode cX12_count 118 = .ok (.iaload, 1) := by decide +kernel
theorem dX12_count_119 : decode cX12_count 119 = .ok (.ireturn, 1) := by decide +kernel
theorem dX12_count_120 : decode cX12_count 120 = .ok (.aload_n 0, 1) := by decide +kernel
theorem dX12_count_121 : decode cX12_count 121 = .ok (.iconst 1, 1) := by decide +kernel
theorem dX12_count_122 : decode cX12_count 122 = .ok (.invokevirtual 126, 3) := by decide +kernel
theorem dX12_count_125 : decode cX12_count 125 = .ok (.ireturn, 1) := by decide +kernel
theorem dX12_told_0 : decode cX12_told 0 = .ok (.iload_n 1, 1) := by decide +kernel
theorem dX12_told_1 : decode cX12_told 1 = .ok (.i2l, 1) := by decide +kernel
theorem dX12_told_2 : decode cX12_told 2 = .ok (.lconst 1, 1) := by decide +kernel
theorem dX12_told_3 : decode cX12_told 3 = .ok (.ldc2_w 282, 3) := by decide +kernel
theorem dX12_told_6 : decode cX12_told 6 = .ok (.invokestatic 47, 3) := by decide +kernel
theorem dX12_told_9 : decode cX12_told 9 = .ok (.ifCond .eq 12, 3) := by decide +kernel
theorem dX12_told_12 : decode cX12_told 12 = .ok (.aload_n 0, 1) := by decide +kernel
theorem dX12_told_13 : decode cX12_told 13 = .ok (.getfield 19, 3) := by decide +kernel
theorem dX12_told_16 : decode cX12_told 16 = .ok (.iload_n 1, 1) := by decide +kernel
theorem dX12_told_17 : decode cX12_told 17 = .ok (.iaload, 1) := by decide +kernel
theorem dX12_told_18 : decode cX12_told 18 = .ok (.goto 8, 3) := by decide +kernel
theorem dX12_told_21 : decode cX12_told 21 = .ok (.aload_n 0, 1) := by decide +kernel
theorem dX12_told_22 : decode cX12_told 22 = .ok (.iconst 1, 1) := by decide +kernel
theorem dX12_told_23 : decode cX12_told 23 = .ok (.invokevirtual 126, 3) := by decide +kernel
theorem dX12_told_26 : decode cX12_told 26 = .ok (.ireturn, 1) := by decide +kernel
