theorem dX12_init_0 : decode cX12_init 0 = .ok (.aload_n 0, 1) := by decide +kernel
theorem dX12_init_1 : decode cX12_init 1 = .ok (.invokespecial 1, 3) := by decide +kernel
theorem dX12_init_4 : decode cX12_init 4 = .ok (.aload_n 0, 1) := by decide +kernel
theorem dX12_init_5 : decode cX12_init 5 = .ok (.sipush 260, 3) := by decide +kernel
theorem dX12_init_8 : decode cX12_init 8 = .ok (.newarray .int, 2) := by decide +kernel
theorem dX12_init_10 : decode cX12_init 10 = .ok (.putfield 7, 3) := by decide +kernel
theorem dX12_init_13 : decode cX12_init 13 = .ok (.aload_n 0, 1) := by decide +kernel
theorem dX12_init_14 : decode cX12_init 14 = .ok (.sipush 260, 3) := by decide +kernel
theorem dX12_init_17 : decode cX12_init 17 = .ok (.newarray .int, 2) := by decide +kernel
theorem dX12_init_19 : decode cX12_init 19 = .ok (.putfield 13, 3) := by decide +kernel
theorem dX12_init_22 : decode cX12_init 22 = .ok (.aload_n 0, 1) := by decide +kernel
theorem dX12_init_23 : decode cX12_init 23 = .ok (.bipush 88, 2) := by decide +kernel
theorem dX12_init_25 : decode cX12_init 25 = .ok (.newarray .int, 2) := by decide +kernel
theorem dX12_init_27 : decode cX12_init 27 = .ok (.putfield 16, 3) := by decide +kernel
theorem dX12_init_30 : decode cX12_init 30 = .ok (.aload_n 0, 1) := by decide +kernel
theorem dX12_init_31 : decode cX12_init 31 = .ok (.bipush 6, 2) := by decide +kernel
theorem dX12_init_33 : decode cX12_init 33 = .ok (.newarray .int, 2) := by decide +kernel
theorem dX12_init_35 : decode cX12_init 35 = .ok (.putfield 19, 3) := by decide +kernel
theorem dX12_init_38 : decode cX12_init 38 = .ok (.aload_n 0, 1) := by decide +kernel
theorem dX12_init_39 : decode cX12_init 39 = .ok (.iconst 3, 1) := by decide +kernel
theorem dX12_init_40 : decode cX12_init 40 = .ok (.newarray .int, 2) := by decide +kernel
theorem dX12_init_42 : decode cX12_init 42 = .ok (.putfield 22, 3) := by decide +kernel
theorem dX12_init_45 : decode cX12_init 45 = .ok (.aload_n 0, 1) := by decide +kernel
theorem dX12_init_46 : decode cX12_init 46 = .ok (.bipush 60, 2) := by decide +kernel
theorem dX12_init_48 : decode cX12_init 48 = .ok (.newarray .int, 2) := by decide +kernel
theorem dX12_init_50 : decode cX12_init 50 = .ok (.putfield 25, 3) := by decide +kernel
theorem dX12_init_53 : decode cX12_init 53 = .ok (.aload_n 0, 1) := by decide +kernel
theorem dX12_init_54 : decode cX12_init 54 = .ok (.bipush 60, 2) := by decide +kernel
theorem dX12_init_56 : decode cX12_init 56 = .ok (.newarray .int, 2) := by decide +kernel
theorem dX12_init_58 : decode cX12_init 58 = .ok (.putfield 28, 3) := by decide +kernel
theorem dX12_init_61 : decode cX12_init 61 = .ok (.aload_n 0, 1) := by decide +kernel
theorem dX12_init_62 : decode cX12_init 62 = .ok (.bipush 40, 2) := by decide +kernel
theorem dX12_init_64 : decode cX12_init 64 = .ok (.newarray .int, 2) := by decide +kernel
theorem dX12_init_66 : decode cX12_init 66 = .ok (.putfield 31, 3) := by decide +kernel
theorem dX12_init_69 : decode cX12_init 69 = .ok (.aload_n 0, 1) := by decide +kernel
theorem dX12_init_70 : decode cX12_init 70 = .ok (.iconst 4, 1) := by decide +kernel
theorem dX12_init_71 : decode cX12_init 71 = .ok (.newarray .int, 2) := by decide +kernel
theorem dX12_init_73 : decode cX12_init 73 = .ok (.putfield 34, 3) := by decide +kernel
theorem dX12_init_76 : decode cX12_init 76 = .ok (.aload_n 0, 1) := by decide +kernel
theorem dX12_init_77 : decode cX12_init 77 = .ok (.iconst 4, 1) := by decide +kernel
theorem dX12_init_78 : decode cX12_init 78 = .ok (.newarray .int, 2) := by decide +kernel
theorem dX12_init_80 : decode cX12_init 80 = .ok (.putfield 37, 3) := by decide +kernel
theorem dX12_init_83 : decode cX12_init 83 = .ok (.aload_n 0, 1) := by decide +kernel
theorem dX12_init_84 : decode cX12_init 84 = .ok (.sipush 160, 3) := by decide +kernel
theorem dX12_init_87 : decode cX12_init 87 = .ok (.newarray .int, 2) := by decide +kernel
theorem dX12_init_89 : decode cX12_init 89 = .ok (.putfield 40, 3) := by decide +kernel
theorem dX12_init_92 : decode cX12_init 92 = .ok (.aload_n 0, 1) := by decide +kernel
theorem dX12_init_93 : decode cX12_init 93 = .ok (.bipush 40, 2) := by decide +kernel
theorem dX12_init_95 : decode cX12_init 95 = .ok (.newarray .int, 2) := by decide +kernel
theorem dX12_init_97 : decode cX12_init 97 = .ok (.putfield 43, 3) := by decide +kernel
theorem dX12_init_100 : decode cX12_init 100 = .ok (.aload_n 0, 1) := by decide +kernel
theorem dX12_init_101 : decode cX12_init 101 = .ok (.getfield 7, 3) := by decide +kernel
theorem dX12_init_104 : decode cX12_init 104 = .ok (.iconst 2, 1) := by decide +kernel
theorem dX12_init_105 : decode cX12_init 105 = .ok (.iconst 1, 1) := by decide +kernel
theorem dX12_init_106 : decode cX12_init 106 = .ok (.iastore, 1) := by decide +kernel
theorem dX12_init_107 : decode cX12_init 107 = .ok (.aload_n 0, 1) := by decide +kernel
theorem dX12_init_108 : decode cX12_init 108 = .ok (.getfield 7, 3) := by decide +kernel
theorem dX12_init_111 : decode cX12_init 111 = .ok (.iconst 3, 1) := by decide +kernel
theorem dX12_init_112 : decode cX12_init 112 = .ok (.bipush 7, 2) := by decide +kernel
theorem dX12_init_114 : decode cX12_init 114 = .ok (.iastore, 1) := by decide +kernel
theorem dX12_init_115 : decode cX12_init 115 = .ok (.aload_n 0, 1) := by decide +kernel
theorem dX12_init_116 : decode cX12_init 116 = .ok (.getfield 7, 3) := by decide +kernel
theorem dX12_init_119 : decode cX12_init 119 = .ok (.iconst 5, 1) := by decide +kernel
theorem dX12_init_120 : decode cX12_init 120 = .ok (.iconst 1, 1) := by decide +kernel
theorem dX12_init_121 : decode cX12_init 121 = .ok (.iastore, 1) := by decide +kernel
theorem dX12_init_122 : decode cX12_init 122 = .ok (.iconst 0, 1) := by decide +kernel
theorem dX12_init_123 : decode cX12_init 123 = .ok (.istore_n 1, 1) := by decide +kernel
theorem dX12_init_124 : decode cX12_init 124 = .ok (.iload_n 1, 1) := by decide +kernel
theorem dX12_init_125 : decode cX12_init 125 = .ok (.bipush 16, 2) := by decide +kernel
theorem dX12_init_127 : decode cX12_init 127 = .ok (.if_icmp .ge 34, 3) := by decide +kernel
theorem dX12_init_130 : decode cX12_init 130 = .ok (.aload_n 0, 1) := by decide +kernel
theorem dX12_init_131 : decode cX12_init 131 = .ok (.getfield 7, 3) := by decide +kernel
theorem dX12_init_134 : decode cX12_init 134 = .ok (.bipush 8, 2) := by decide +kernel
theorem dX12_init_136 : decode cX12_init 136 = .ok (.iload_n 1, 1) := by decide +kernel
theorem dX12_init_137 : decode cX12_init 137 = .ok (.iadd, 1) := by decide +kernel
theorem dX12_init_138 : decode cX12_init 138 = .ok (.iconst 3, 1) := by decide +kernel
theorem dX12_init_139 : decode cX12_init 139 = .ok (.iastore, 1) := by decide +kernel
theorem dX12_init_140 : decode cX12_init 140 = .ok (.aload_n 0, 1) := by decide +kernel
theorem dX12_init_141 : decode cX12_init 141 = .ok (.getfield 7, 3) := by decide +kernel
theorem dX12_init_144 : decode cX12_init 144 = .ok (.bipush 24, 2) := by decide +kernel
theorem dX12_init_146 : decode cX12_init 146 = .ok (.iload_n 1, 1) := by decide +kernel
theorem dX12_init_147 : decode cX12_init 147 = .ok (.iadd, 1) := by decide +kernel
theorem dX12_init_148 : decode cX12_init 148 = .ok (.iload_n 1, 1) := by decide +kernel
theorem dX12_init_149 : decode cX12_init 149 = .ok (.iconst 1, 1) := by decide +kernel
theorem dX12_init_150 : decode cX12_init 150 = .ok (.iadd, 1) := by decide +kernel
theorem dX12_init_151 : decode cX12_init 151 = .ok (.bipush 16, 2) := by decide +kernel
theorem dX12_init_153 : decode cX12_init 153 = .ok (.irem, 1) := by decide +kernel
theorem dX12_init_154 : decode cX12_init 154 = .ok (.iastore, 1) := by decide +kernel
theorem dX12_init_155 : decode cX12_init 155 = .ok (.iinc 1 1, 3) := by decide +kernel
theorem dX12_init_158 : decode cX12_init 158 = .ok (.goto (-34), 3) := by decide +kernel
theorem dX12_init_161 : decode cX12_init 161 = .ok (.return_, 1) := by decide +kernel
theorem dX12_finds_0 : decode cX12_finds 0 = .ok (.aload_n 0, 1) := by decide +kernel
theorem dX12_finds_1 : decode cX12_finds 1 = .ok (.getfield 19, 3) := by decide +kernel
theorem dX12_finds_4 : decode cX12_finds 4 = .ok (.iload_n 1, 1) := by decide +kernel
theorem dX12_finds_5 : decode cX12_finds 5 = .ok (.dup2, 1) := by decide +kernel
theorem dX12_finds_6 : decode cX12_finds 6 = .ok (.iaload, 1) := by decide +kernel
theorem dX12_finds_7 : decode cX12_finds 7 = .ok (.iconst 1, 1) := by decide +kernel
theorem dX12_finds_8 : decode cX12_finds 8 = .ok (.iadd, 1) := by decide +kernel
theorem dX12_finds_9 : decode cX12_finds 9 = .ok (.iastore, 1) := by decide +kernel
theorem dX12_finds_10 : decode cX12_finds 10 = .ok (.ldc 46, 2) := by decide +kernel
theorem dX12_finds_12 : decode cX12_finds 12 = .ok (.iload_n 1, 1) := by decide +kernel
theorem dX12_finds_13 : decode cX12_finds 13 = .ok (.isub, 1) := by decide +kernel
theorem dX12_finds_14 : decode cX12_finds 14 = .ok (.ireturn, 1) := by decide +kernel
theorem dX12_in_0 : decode cX12_in 0 = .ok (.lload_n 0, 1) := by decide +kernel
theorem dX12_in_1 : decode cX12_in 1 = .ok (.lload_n 2, 1) := by decide +kernel
theorem dX12_in_2 : decode cX12_in 2 = .ok (.lcmp, 1) := by decide +kernel
theorem dX12_in_3 : decode cX12_in 3 = .ok (.ifCond .lt 14, 3) := by decide +kernel
theorem dX12_in_6 : decode cX12_in 6 = .ok (.lload_n 0, 1) := by decide +kernel
theorem dX12_in_7 : decode cX12_in 7 = .ok (.lload 4, 2) := by decide +kernel
theorem dX12_in_9 : decode cX12_in 9 = .ok (.lcmp, 1) := by decide +kernel
theorem dX12_in_10 : decode cX12_in 10 = .ok (.ifCond .gt 7, 3) := by decide +kernel
theorem dX12_in_13 : decode cX12_in 13 = .ok (.iconst 1, 1) := by decide +kernel
theorem dX12_in_14 : decode cX12_in 14 = .ok (.goto 4, 3) := by decide +kernel
theorem dX12_in_17 : decode cX12_in 17 = .ok (.iconst 0, 1) := by decide +kernel
theorem dX12_in_18 : decode cX12_in 18 = .ok (.ireturn, 1) := by decide +kernel
theorem dX12_held_0 : decode cX12_held 0 = .ok (.iload_n 0, 1) := by decide +kernel
theorem dX12_held_1 : decode cX12_held 1 = .ok (.iload_n 1, 1) := by decide +kernel
theorem dX12_held_2 : decode cX12_held 2 = .ok (.if_icmp .ge 7, 3) := by decide +kernel
theorem dX12_held_5 : decode cX12_held 5 = .ok (.iload_n 1, 1) := by decide +kernel
theorem dX12_held_6 : decode cX12_held 6 = .ok (.goto 13, 3) := by decide +kernel
theorem dX12_held_9 : decode cX12_held 9 = .ok (.iload_n 0, 1) := by decide +kernel
theorem dX12_held_10 : decode cX12_held 10 = .ok (.iload_n 2, 1) := by decide +kernel
theorem dX12_held_11 : decode cX12_held 11 = .ok (.if_icmp .le 7, 3) := by decide +kernel
theorem dX12_held_14 : decode cX12_held 14 = .ok (.iload_n 2, 1) := by decide +kernel
theorem dX12_held_15 : decode cX12_held 15 = .ok (.goto 4, 3) := by decide +kernel
theorem dX12_held_18 : decode cX12_held 18 = .ok (.iload_n 0, 1) := by decide +kernel
theorem dX12_held_19 : decode cX12_held 19 = .ok (.ireturn, 1) := by decide +kernel
theorem dX12_isHeir_0 : decode cX12_isHeir 0 = .ok (.iload_n 1, 1) := by decide +kernel
theorem dX12_isHeir_1 : decode cX12_isHeir 1 = .ok (.i2l, 1) := by decide +kernel
theorem dX12_isHeir_2 : decode cX12_isHeir 2 = .ok (.lconst 0, 1) := by decide +kernel
theorem dX12_isHeir_3 : decode cX12_isHeir 3 = .ok (.aload_n 0, 1) := by decide +kernel
theorem dX12_isHeir_4 : decode cX12_isHeir 4 = .ok (.getfield 7, 3) := by decide +kernel
theorem dX12_isHeir_7 : decode cX12_isHeir 7 = .ok (.iconst 0, 1) := by decide +kernel
theorem dX12_isHeir_8 : decode cX12_isHeir 8 = .ok (.iaload, 1) := by decide +kernel
theorem dX12_isHeir_9 : decode cX12_isHeir 9 = .ok (.iconst 1, 1) := by decide +kernel
theorem dX12_isHeir_10 : decode cX12_isHeir 10 = .ok (.isub, 1) := by decide +kernel
theorem dX12_isHeir_11 : decode cX12_isHeir 11 = .ok (.i2l, 1) := by decide +kernel
theorem dX12_isHeir_12 : decode cX12_isHeir 12 = .ok (.invokestatic 47, 3) := by decide +kernel
theorem dX12_isHeir_15 : decode cX12_isHeir 15 = .ok (.ireturn, 1) := by decide +kernel
theorem dX12_isSill_0 : decode cX12_isSill 0 = .ok (.iload_n 0, 1) := by decide +kernel
theorem dX12_isSill_1 : decode cX12_isSill 1 = .ok (.i2l, 1) := by decide +kernel
theorem dX12_isSill_2 : decode cX12_isSill 2 = .ok (.lconst 0, 1) := by decide +kernel
theorem dX12_isSill_3 : decode cX12_isSill 3 = .ok (.ldc2_w 51, 3) := by decide +kernel
theorem dX12_isSill_6 : decode cX12_isSill 6 = .ok (.invokestatic 47, 3) := by decide +kernel
theorem dX12_isSill_9 : decode cX12_isSill 9 = .ok (.ireturn, 1) := by decide +kernel
theorem dX12_of_0 : decode cX12_of 0 = .ok (.aload_n 0, 1) := by decide +kernel
theorem dX12_of_1 : decode cX12_of 1 = .ok (.getfield 7, 3) := by decide +kernel
theorem dX12_of_4 : decode cX12_of 4 = .ok (.bipush 40, 2) := by decide +kernel
theorem dX12_of_6 : decode cX12_of 6 = .ok (.bipush 6, 2) := by decide +kernel
theorem dX12_of_8 : decode cX12_of 8 = .ok (.iload_n 1, 1) := by decide +kernel
theorem dX12_of_9 : decode cX12_of 9 = .ok (.imul, 1) := by decide +kernel
theorem dX12_of_10 : decode cX12_of 10 = .ok (.iadd, 1) := by decide +kernel
theorem dX12_of_11 : decode cX12_of 11 = .ok (.iload_n 2, 1) := by decide +kernel
theorem dX12_of_12 : decode cX12_of 12 = .ok (.iadd, 1) := by decide +kernel
theorem dX12_of_13 : decode cX12_of 13 = .ok (.iaload, 1) := by decide +kernel
theorem dX12_of_14 : decode cX12_of 14 = .ok (.ireturn, 1) := by decide +kernel
theorem dX12_sets_0 : decode cX12_sets 0 = .ok (.aload_n 0, 1) := by decide +kernel
theorem dX12_sets_1 : decode cX12_sets 1 = .ok (.getfield 7, 3) := by decide +kernel
theorem dX12_sets_4 : decode cX12_sets 4 = .ok (.bipush 40, 2) := by decide +kernel
theorem dX12_sets_6 : decode cX12_sets 6 = .ok (.bipush 6, 2) := by decide +kernel
theorem dX12_sets_8 : decode cX12_sets 8 = .ok (.iload_n 1, 1) := by decide +kernel
theorem dX12_sets_9 : decode cX12_sets 9 = .ok (.imul, 1) := by decide +kernel
theorem dX12_sets_10 : decode cX12_sets 10 = .ok (.iadd, 1) := by decide +kernel
theorem dX12_sets_11 : decode cX12_sets 11 = .ok (.iload_n 2, 1) := by decide +kernel
theorem dX12_sets_12 : decode cX12_sets 12 = .ok (.iadd, 1) := by decide +kernel
theorem dX12_sets_13 : decode cX12_sets 13 = .ok (.iload_n 3, 1) := by decide +kernel
theorem dX12_sets_14 : decode cX12_sets 14 = .ok (.iastore, 1) := by decide +kernel
theorem dX12_sets_15 : decode cX12_sets 15 = .ok (.return_, 1) := by decide +kernel
theorem dX12_above_0 : decode cX12_above 0 = .ok (.iload_n 0, 1) := by decide +kernel
theorem dX12_above_1 : decode cX12_above 1 = .ok (.iconst 3, 1) := by decide +kernel
theorem dX12_above_2 : decode cX12_above 2 = .ok (.if_icmp .le 9, 3) := by decide +kernel
theorem dX12_above_5 : decode cX12_above 5 = .ok (.iload_n 0, 1) := by decide +kernel
theorem dX12_above_6 : decode cX12_above 6 = .ok (.iconst 3, 1) := by decide +kernel
theorem dX12_above_7 : decode cX12_above 7 = .ok (.isub, 1) := by decide +kernel
theorem dX12_above_8 : decode cX12_above 8 = .ok (.goto 4, 3) := by decide +kernel
theorem dX12_above_11 : decode cX12_above 11 = .ok (.iconst 0, 1) := by decide +kernel
theorem dX12_above_12 : decode cX12_above 12 = .ok (.ireturn, 1) := by decide +kernel
theorem dX12_keepAside_0 : decode cX12_keepAside 0 = .ok (.iconst 0, 1) := by decide +kernel
theorem dX12_keepAside_1 : decode cX12_keepAside 1 = .ok (.istore_n 1, 1) := by decide +kernel
theorem dX12_keepAside_2 : decode cX12_keepAside 2 = .ok (.iload_n 1, 1) := by decide +kernel
theorem dX12_keepAside_3 : decode cX12_keepAside 3 = .ok (.bipush 88, 2) := by decide +kernel
theorem dX12_keepAside_5 : decode cX12_keepAside 5 = .ok (.if_icmp .ge 21, 3) := by decide +kernel
theorem dX12_keepAside_8 : decode cX12_keepAside 8 = .ok (.aload_n 0, 1) := by decide +kernel
theorem dX12_keepAside_9 : decode cX12_keepAside 9 = .ok (.getfield 16, 3) := by decide +kernel
theorem dX12_keepAside_12 : decode cX12_keepAside 12 = .ok (.iload_n 1, 1) := by decide +kernel
theorem dX12_keepAside_13 : decode cX12_keepAside 13 = .ok (.aload_n 0, 1) := by decide +kernel
theorem dX12_keepAside_14 : decode cX12_keepAside 14 = .ok (.getfield 7, 3) := by decide +kernel
theorem dX12_keepAside_17 : decode cX12_keepAside 17 = .ok (.iload_n 1, 1) := by decide +kernel
theorem dX12_keepAside_18 : decode cX12_keepAside 18 = .ok (.iaload, 1) := by decide +kernel
theorem dX12_keepAside_19 : decode cX12_keepAside 19 = .ok (.iastore, 1) := by decide +kernel
theorem dX12_keepAside_20 : decode cX12_keepAside 20 = .ok (.iinc 1 1, 3) := by decide +kernel
theorem dX12_keepAside_23 : decode cX12_keepAside 23 = .ok (.goto (-21), 3) := by decide +kernel
theorem dX12_keepAside_26 : decode cX12_keepAside 26 = .ok (.return_, 1) := by decide +kernel
theorem dX12_putBack_0 : decode cX12_putBack 0 = .ok (.iconst 0, 1) := by decide +kernel
theorem dX12_putBack_1 : decode cX12_putBack 1 = .ok (.istore_n 1, 1) := by decide +kernel
theorem dX12_putBack_2 : decode cX12_putBack 2 = .ok (.iload_n 1, 1) := by decide +kernel
theorem dX12_putBack_3 : decode cX12_putBack 3 = .ok (.bipush 88, 2) := by decide +kernel
theorem dX12_putBack_5 : decode cX12_putBack 5 = .ok (.if_icmp .ge 21, 3) := by decide +kernel
theorem dX12_putBack_8 : decode cX12_putBack 8 = .ok (.aload_n 0, 1) := by decide +kernel
theorem dX12_putBack_9 : decode cX12_putBack 9 = .ok (.getfield 7, 3) := by decide +kernel
theorem dX12_putBack_12 : decode cX12_putBack 12 = .ok (.iload_n 1, 1) := by decide +kernel
theorem dX12_putBack_13 : decode cX12_putBack 13 = .ok (.aload_n 0, 1) := by decide +kernel
theorem dX12_putBack_14 : decode cX12_putBack 14 = .ok (.getfield 16, 3) := by decide +kernel
theorem dX12_putBack_17 : decode cX12_putBack 17 = .ok (.iload_n 1, 1) := by decide +kernel
theorem dX12_putBack_18 : decode cX12_putBack 18 = .ok (.iaload, 1) := by decide +kernel
theorem dX12_putBack_19 : decode cX12_putBack 19 = .ok (.iastore, 1) := by decide +kernel
theorem dX12_putBack_20 : decode cX12_putBack 20 = .ok (.iinc 1 1, 3) := by decide +kernel
theorem dX12_putBack_23 : decode cX12_putBack 23 = .ok (.goto (-21), 3) := by decide +kernel
theorem dX12_putBack_26 : decode cX12_putBack 26 = .ok (.return_, 1) := by decide +kernel
theorem dX12_here_0 : decode cX12_here 0 = .ok (.aload_n 0, 1) := by decide +kernel
theorem dX12_here_1 : decode cX12_here 1 = .ok (.getfield 53, 3) := by decide +kernel
theorem dX12_here_4 : decode cX12_here 4 = .ok (.aload_n 0, 1) := by decide +kernel
theorem dX12_here_5 : decode cX12_here 5 = .ok (.getfield 57, 3) := by decide +kernel
theorem dX12_here_8 : decode cX12_here 8 = .ok (.if_icmp .ge 27, 3) := by decide +kernel
theorem dX12_here_11 : decode cX12_here 11 = .ok (.aload_n 0, 1) := by decide +kernel
theorem dX12_here_12 : decode cX12_here 12 = .ok (.getfield 60, 3) := by decide +kernel
theorem dX12_here_15 : decode cX12_here 15 = .ok (.ifCond .ge 20, 3) := by decide +kernel
theorem dX12_here_18 : decode cX12_here 18 = .ok (.aload_n 0, 1) := by decide +kernel
theorem dX12_here_19 : decode cX12_here 19 = .ok (.getfield 7, 3) := by decide +kernel
theorem dX12_here_22 : decode cX12_here 22 = .ok (.aload_n 0, 1) := by decide +kernel
theorem dX12_here_23 : decode cX12_here 23 = .ok (.getfield 63, 3) := by decide +kernel
theorem dX12_here_26 : decode cX12_here 26 = .ok (.aload_n 0, 1) := by decide +kernel
theorem dX12_here_27 : decode cX12_here 27 = .ok (.getfield 53, 3) := by decide +kernel
theorem dX12_here_30 : decode cX12_here 30 = .ok (.iadd, 1) := by decide +kernel
theorem dX12_here_31 : decode cX12_here 31 = .ok (.iaload, 1) := by decide +kernel
theorem dX12_here_32 : decode cX12_here 32 = .ok (.goto 4, 3) := by decide +kernel
theorem dX12_here_35 : decode cX12_here 35 = .ok (.iconst (-1), 1) := by decide +kernel
theorem dX12_here_36 : decode cX12_here 36 = .ok (.ireturn, 1) := by decide +kernel
theorem dX12_wrong_0 : decode cX12_wrong 0 = .ok (.aload_n 0, 1) := by decide +kernel
theorem dX12_wrong_1 : decode cX12_wrong 1 = .ok (.aload_n 0, 1) := by decide +kernel
theorem dX12_wrong_2 : decode cX12_wrong 2 = .ok (.getfield 60, 3) := by decide +kernel
theorem dX12_wrong_5 : decode cX12_wrong 5 = .ok (.ifCond .ge 10, 3) := by decide +kernel
theorem dX12_wrong_8 : decode cX12_wrong 8 = .ok (.aload_n 0, 1) := by decide +kernel
theorem dX12_wrong_9 : decode cX12_wrong 9 = .ok (.getfield 53, 3) := by decide +kernel
theorem dX12_wrong_12 : decode cX12_wrong 12 = .ok (.goto 7, 3) := by decide +kernel
theorem dX12_wrong_15 : decode cX12_wrong 15 = .ok (.aload_n 0, 1) := by decide +kernel
theorem dX12_wrong_16 : decode cX12_wrong 16 = .ok (.getfield 60, 3) := by decide +kernel
theorem dX12_wrong_19 : decode cX12_wrong 19 = .ok (.putfield 60, 3) := by decide +kernel
theorem dX12_wrong_22 : decode cX12_wrong 22 = .ok (.return_, 1) := by decide +kernel
theorem dX12_takes_0 : decode cX12_takes 0 = .ok (.aload_n 0, 1) := by decide +kernel
theorem dX12_takes_1 : decode cX12_takes 1 = .ok (.invokevirtual 66, 3) := by decide +kernel
theorem dX12_takes_4 : decode cX12_takes 4 = .ok (.iload_n 1, 1) := by decide +kernel
theorem dX12_takes_5 : decode cX12_takes 5 = .ok (.if_icmp .eq 5, 3) := by decide +kernel
theorem dX12_takes_8 : decode cX12_takes 8 = .ok (.iconst 0, 1) := by decide +kernel
theorem dX12_takes_9 : decode cX12_takes 9 = .ok (.ireturn, 1) := by decide +kernel
theorem dX12_takes_10 : decode cX12_takes 10 = .ok (.aload_n 0, 1) := by decide +kernel
theorem dX12_takes_11 : decode cX12_takes 11 = .ok (.dup, 1) := by decide +kernel
theorem dX12_takes_12 : decode cX12_takes 12 = .ok (.getfield 53, 3) := by decide +kernel
theorem dX12_takes_15 : decode cX12_takes 15 = .ok (.iconst 1, 1) := by decide +kernel
theorem dX12_takes_16 : decode cX12_takes 16 = .ok (.iadd, 1) := by decide +kernel
theorem dX12_takes_17 : decode cX12_takes 17 = .ok (.putfield 53, 3) := by decide +kernel
theorem dX12_takes_20 : decode cX12_takes 20 = .ok (.iconst 1, 1) := by decide +kernel
theorem dX12_takes_21 : decode cX12_takes 21 = .ok (.ireturn, 1) := by decide +kernel
theorem dX12_nameOf_0 : decode cX12_nameOf 0 = .ok (.iload_n 1, 1) := by decide +kernel
theorem dX12_nameOf_1 : decode cX12_nameOf 1 = .ok (.aload_n 0, 1) := by decide +kernel
theorem dX12_nameOf_2 : decode cX12_nameOf 2 = .ok (.getfield 70, 3) := by decide +kernel
theorem dX12_nameOf_5 : decode cX12_nameOf 5 = .ok (.ifCond .eq 8, 3) := by decide +kernel
theorem dX12_nameOf_8 : decode cX12_nameOf 8 = .ok (.bipush 108, 2) := by decide +kernel
theorem dX12_nameOf_10 : decode cX12_nameOf 10 = .ok (.goto 5, 3) := by decide +kernel
theorem dX12_nameOf_13 : decode cX12_nameOf 13 = .ok (.bipush 99, 2) := by decide +kernel
theorem dX12_nameOf_15 : decode cX12_nameOf 15 = .ok (.if_icmp .ne 7, 3) := by decide +kernel
theorem dX12_nameOf_18 : decode cX12_nameOf 18 = .ok (.iconst 0, 1) := by decide +kernel
theorem dX12_nameOf_19 : decode cX12_nameOf 19 = .ok (.goto 48, 3) := by decide +kernel
theorem dX12_nameOf_22 : decode cX12_nameOf 22 = .ok (.iload_n 1, 1) := by decide +kernel
theorem dX12_nameOf_23 : decode cX12_nameOf 23 = .ok (.aload_n 0, 1) := by decide +kernel
theorem dX12_nameOf_24 : decode cX12_nameOf 24 = .ok (.getfield 70, 3) := by decide +kernel
theorem dX12_nameOf_27 : decode cX12_nameOf 27 = .ok (.ifCond .eq 8, 3) := by decide +kernel
theorem dX12_nameOf_30 : decode cX12_nameOf 30 = .ok (.bipush 115, 2) := by decide +kernel
theorem dX12_nameOf_32 : decode cX12_nameOf 32 = .ok (.goto 5, 3) := by decide +kernel
theorem dX12_nameOf_35 : decode cX12_nameOf 35 = .ok (.bipush 100, 2) := by decide +kernel
theorem dX12_nameOf_37 : decode cX12_nameOf 37 = .ok (.if_icmp .ne 7, 3) := by decide +kernel
theorem dX12_nameOf_40 : decode cX12_nameOf 40 = .ok (.iconst 1, 1) := by decide +kernel
theorem dX12_nameOf_41 : decode cX12_nameOf 41 = .ok (.goto 26, 3) := by decide +kernel
theorem dX12_nameOf_44 : decode cX12_nameOf 44 = .ok (.iload_n 1, 1) := by decide +kernel
theorem dX12_nameOf_45 : decode cX12_nameOf 45 = .ok (.aload_n 0, 1) := by decide +kernel
theorem dX12_nameOf_46 : decode cX12_nameOf 46 = .ok (.getfield 70, 3) := by decide +kernel
theorem dX12_nameOf_49 : decode cX12_nameOf 49 = .ok (.ifCond .eq 8, 3) := by decide +kernel
theorem dX12_nameOf_52 : decode cX12_nameOf 52 = .ok (.bipush 100, 2) := by decide +kernel
theorem dX12_nameOf_54 : decode cX12_nameOf 54 = .ok (.goto 5, 3) := by decide +kernel
theorem dX12_nameOf_57 : decode cX12_nameOf 57 = .ok (.bipush 112, 2) := by decide +kernel
theorem dX12_nameOf_59 : decode cX12_nameOf 59 = .ok (.if_icmp .ne 7, 3) := by decide +kernel
theorem dX12_nameOf_62 : decode cX12_nameOf 62 = .ok (.iconst 2, 1) := by decide +kernel
theorem dX12_nameOf_63 : decode cX12_nameOf 63 = .ok (.goto 4, 3) := by decide +kernel
theorem dX12_nameOf_66 : decode cX12_nameOf 66 = .ok (.iconst (-1), 1) := by decide +kernel
theorem dX12_nameOf_67 : decode cX12_nameOf 67 = .ok (.ireturn, 1) := by decide +kernel
theorem dX12_lay_0 : decode cX12_lay 0 = .ok (.aload_n 0, 1) := by decide +kernel
theorem dX12_lay_1 : decode cX12_lay 1 = .ok (.getfield 60, 3) := by decide +kernel
theorem dX12_lay_4 : decode cX12_lay 4 = .ok (.ifCond .ge 23, 3) := by decide +kernel
theorem dX12_lay_7 : decode cX12_lay 7 = .ok (.aload_n 0, 1) := by decide +kernel
theorem dX12_lay_8 : decode cX12_lay 8 = .ok (.getfield 25, 3) := by decide +kernel
theorem dX12_lay_11 : decode cX12_lay 11 = .ok (.aload_n 0, 1) := by decide +kernel
theorem dX12_lay_12 : decode cX12_lay 12 = .ok (.getfield 74, 3) := by decide +kernel
theorem dX12_lay_15 : decode cX12_lay 15 = .ok (.iload_n 1, 1) := by decide +kernel
theorem dX12_lay_16 : decode cX12_lay 16 = .ok (.iastore, 1) := by decide +kernel
theorem dX12_lay_17 : decode cX12_lay 17 = .ok (.aload_n 0, 1) := by decide +kernel
theorem dX12_lay_18 : decode cX12_lay 18 = .ok (.dup, 1) := by decide +kernel
theorem dX12_lay_19 : decode cX12_lay 19 = .ok (.getfield 74, 3) := by decide +kernel
theorem dX12_lay_22 : decode cX12_lay 22 = .ok (.iconst 1, 1) := by decide +kernel
theorem dX12_lay_23 : decode cX12_lay 23 = .ok (.iadd, 1) := by decide +kernel
theorem dX12_lay_24 : decode cX12_lay 24 = .ok (.putfield 74, 3) := by decide +kernel
theorem dX12_lay_27 : decode cX12_lay 27 = .ok (.return_, 1) := by decide +kernel
theorem dX12_either_0 : decode cX12_either 0 = .ok (.aload_n 0, 1) := by decide +kernel
theorem dX12_either_1 : decode cX12_either 1 = .ok (.invokevirtual 77, 3) := by decide +kernel
theorem dX12_either_4 : decode cX12_either 4 = .ok (.aload_n 0, 1) := by decide +kernel
theorem dX12_either_5 : decode cX12_either 5 = .ok (.bipush 124, 2) := by decide +kernel
theorem dX12_either_7 : decode cX12_either 7 = .ok (.invokevirtual 80, 3) := by decide +kernel
theorem dX12_either_10 : decode cX12_either 10 = .ok (.ifCond .eq 17, 3) := by decide +kernel
theorem dX12_either_13 : decode cX12_either 13 = .ok (.aload_n 0, 1) := by decide +kernel
theorem dX12_either_14 : decode cX12_either 14 = .ok (.invokevirtual 77, 3) := by decide +kernel
theorem dX12_either_17 : decode cX12_either 17 = .ok (.aload_n 0, 1) := by decide +kernel
theorem dX12_either_18 : decode cX12_either 18 = .ok (.sipush 20124, 3) := by decide +kernel
theorem dX12_either_21 : decode cX12_either 21 = .ok (.invokevirtual 84, 3) := by decide +kernel
theorem dX12_either_24 : decode cX12_either 24 = .ok (.goto (-20), 3) := by decide +kernel
theorem dX12_either_27 : decode cX12_either 27 = .ok (.return_, 1) := by decide +kernel
theorem dX12_both_0 : decode cX12_both 0 = .ok (.aload_n 0, 1) := by decide +kernel
theorem dX12_both_1 : decode cX12_both 1 = .ok (.invokevirtual 88, 3) := by decide +kernel
theorem dX12_both_4 : decode cX12_both 4 = .ok (.aload_n 0, 1) := by decide +kernel
theorem dX12_both_5 : decode cX12_both 5 = .ok (.bipush 38, 2) := by decide +kernel
theorem dX12_both_7 : decode cX12_both 7 = .ok (.invokevirtual 80, 3) := by decide +kernel
theorem dX12_both_10 : decode cX12_both 10 = .ok (.ifCond .eq 17, 3) := by decide +kernel
theorem dX12_both_13 : decode cX12_both 13 = .ok (.aload_n 0, 1) := by decide +kernel
theorem dX12_both_14 : decode cX12_both 14 = .ok (.invokevirtual 88, 3) := by decide +kernel
theorem dX12_both_17 : decode cX12_both 17 = .ok (.aload_n 0, 1) := by decide +kernel
theorem dX12_both_18 : decode cX12_both 18 = .ok (.sipush 20038, 3) := by decide +kernel
theorem dX12_both_21 : decode cX12_both 21 = .ok (.invokevirtual 84, 3) := by decide +kernel
theorem dX12_both_24 : decode cX12_both 24 = .ok (.goto (-20), 3) := by decide +kernel
theorem dX12_both_27 : decode cX12_both 27 = .ok (.return_, 1) := by decide +kernel
theorem dX12_compared_0 : decode cX12_compared 0 = .ok (.aload_n 0, 1) := by decide +kernel
theorem dX12_compared_1 : decode cX12_compared 1 = .ok (.invokevirtual 91, 3) := by decide +kernel
theorem dX12_compared_4 : decode cX12_compared 4 = .ok (.aload_n 0, 1) := by decide +kernel
theorem dX12_compared_5 : decode cX12_compared 5 = .ok (.invokevirtual 66, 3) := by decide +kernel
theorem dX12_compared_8 : decode cX12_compared 8 = .ok (.istore_n 1, 1) := by decide +kernel
theorem dX12_compared_9 : decode cX12_compared 9 = .ok (.iload_n 1, 1) := by decide +kernel
theorem dX12_compared_10 : decode cX12_compared 10 = .ok (.bipush 60, 2) := by decide +kernel
theorem dX12_compared_12 : decode cX12_compared 12 = .ok (.if_icmp .eq 15, 3) := by decide +kernel
theorem dX12_compared_15 : decode cX12_compared 15 = .ok (.iload_n 1, 1) := by decide +kernel
theorem dX12_compared_16 : decode cX12_compared 16 = .ok (.bipush 61, 2) := by decide +kernel
theorem dX12_compared_18 : decode cX12_compared 18 = .ok (.if_icmp .eq 9, 3) := by decide +kernel
theorem dX12_compared_21 : decode cX12_compared 21 = .ok (.iload_n 1, 1) := by decide +kernel
theorem dX12_compared_22 : decode cX12_compared 22 = .ok (.bipush 62, 2) := by decide +kernel
theorem dX12_compared_24 : decode cX12_compared 24 = .ok (.if_icmp .ne 26, 3) := by decide +kernel
theorem dX12_compared_27 : decode cX12_compared 27 = .ok (.aload_n 0, 1) := by decide +kernel
theorem dX12_compared_28 : decode cX12_compared 28 = .ok (.dup, 1) := by decide +kernel
theorem dX12_compared_29 : decode cX12_compared 29 = .ok (.getfield 53, 3) := by decide +kernel
theorem dX12_compared_32 : decode cX12_compared 32 = .ok (.iconst 1, 1) := by decide +kernel
theorem dX12_compared_33 : decode cX12_compared 33 = .ok (.iadd, 1) := by decide +kernel
theorem dX12_compared_34 : decode cX12_compared 34 = .ok (.putfield 53, 3) := by decide +kernel
theorem dX12_compared_37 : decode cX12_compared 37 = .ok (.aload_n 0, 1) := by decide +kernel
theorem dX12_compared_38 : decode cX12_compared 38 = .ok (.invokevirtual 91, 3) := by decide +kernel
theorem dX12_compared_41 : decode cX12_compared 41 = .ok (.aload_n 0, 1) := by decide +kernel
theorem dX12_compared_42 : decode cX12_compared 42 = .ok (.sipush 20000, 3) := by decide +kernel
theorem dX12_compared_45 : decode cX12_compared 45 = .ok (.iload_n 1, 1) := by decide +kernel
theorem dX12_compared_46 : decode cX12_compared 46 = .ok (.iadd, 1) := by decide +kernel
theorem dX12_compared_47 : decode cX12_compared 47 = .ok (.invokevirtual 84, 3) := by decide +kernel
theorem dX12_compared_50 : decode cX12_compared 50 = .ok (.return_, 1) := by decide +kernel
theorem dX12_sum_0 : decode cX12_sum 0 = .ok (.aload_n 0, 1) := by decide +kernel
theorem dX12_sum_1 : decode cX12_sum 1 = .ok (.invokevirtual 94, 3) := by decide +kernel
theorem dX12_sum_4 : decode cX12_sum 4 = .ok (.aload_n 0, 1) := by decide +kernel
theorem dX12_sum_5 : decode cX12_sum 5 = .ok (.invokevirtual 66, 3) := by decide +kernel
theorem dX12_sum_8 : decode cX12_sum 8 = .ok (.bipush 43, 2) := by decide +kernel
theorem dX12_sum_10 : decode cX12_sum 10 = .ok (.if_icmp .eq 12, 3) := by decide +kernel
theorem dX12_sum_13 : decode cX12_sum 13 = .ok (.aload_n 0, 1) := by decide +kernel
theorem dX12_sum_14 : decode cX12_sum 14 = .ok (.invokevirtual 66, 3) := by decide +kernel
theorem dX12_sum_17 : decode cX12_sum 17 = .ok (.bipush 45, 2) := by decide +kernel
theorem dX12_sum_19 : decode cX12_sum 19 = .ok (.if_icmp .ne 34, 3) := by decide +kernel
theorem dX12_sum_22 : decode cX12_sum 22 = .ok (.aload_n 0, 1) := by decide +kernel
theorem dX12_sum_23 : decode cX12_sum 23 = .ok (.invokevirtual 66, 3) := by decide +kernel
theorem dX12_sum_26 : decode cX12_sum 26 = .ok (.istore_n 1, 1) := by decide +kernel
theorem dX12_sum_27 : decode cX12_sum 27 = .ok (.aload_n 0, 1) := by decide +kernel
theorem dX12_sum_28 : decode cX12_sum 28 = .ok (.dup, 1) := by decide +kernel
theorem dX12_sum_29 : decode cX12_sum 29 = .ok (.getfield 53, 3) := by decide +kernel
theorem dX12_sum_32 : decode cX12_sum 32 = .ok (.iconst 1, 1) := by decide +kernel
theorem dX12_sum_33 : decode cX12_sum 33 = .ok (.iadd, 1) := by decide +kernel
theorem dX12_sum_34 : decode cX12_sum 34 = .ok (.putfield 53, 3) := by decide +kernel
theorem dX12_sum_37 : decode cX12_sum 37 = .ok (.aload_n 0, 1) := by decide +kernel
theorem dX12_sum_38 : decode cX12_sum 38 = .ok (.invokevirtual 94, 3) := by decide +kernel
theorem dX12_sum_41 : decode cX12_sum 41 = .ok (.aload_n 0, 1) := by decide +kernel
theorem dX12_sum_42 : decode cX12_sum 42 = .ok (.sipush 20000, 3) := by decide +kernel
theorem dX12_sum_45 : decode cX12_sum 45 = .ok (.iload_n 1, 1) := by decide +kernel
theorem dX12_sum_46 : decode cX12_sum 46 = .ok (.iadd, 1) := by decide +kernel
theorem dX12_sum_47 : decode cX12_sum 47 = .ok (.invokevirtual 84, 3) := by decide +kernel
theorem dX12_sum_50 : decode cX12_sum 50 = .ok (.goto (-46), 3) := by decide +kernel
theorem dX12_sum_53 : decode cX12_sum 53 = .ok (.return_, 1) := by decide +kernel
theorem dX12_product_0 : decode cX12_product 0 = .ok (.aload_n 0, 1) := by decide +kernel
theorem dX12_product_1 : decode cX12_product 1 = .ok (.invokevirtual 97, 3) := by decide +kernel
theorem dX12_product_4 : decode cX12_product 4 = .ok (.aload_n 0, 1) := by decide +kernel
theorem dX12_product_5 : decode cX12_product 5 = .ok (.invokevirtual 66, 3) := by decide +kernel
theorem dX12_product_8 : decode cX12_product 8 = .ok (.bipush 42, 2) := by decide +kernel
theorem dX12_product_10 : decode cX12_product 10 = .ok (.if_icmp .eq 21, 3) := by decide +kernel
theorem dX12_product_13 : decode cX12_product 13 = .ok (.aload_n 0, 1) := by decide +kernel
theorem dX12_product_14 : decode cX12_product 14 = .ok (.invokevirtual 66, 3) := by decide +kernel
theorem dX12_product_17 : decode cX12_product 17 = .ok (.bipush 47, 2) := by decide +kernel
theorem dX12_product_19 : decode cX12_product 19 = .ok (.if_icmp .eq 12, 3) := by decide +kernel
theorem dX12_product_22 : decode cX12_product 22 = .ok (.aload_n 0, 1) := by decide +kernel
theorem dX12_product_23 : decode cX12_product 23 = .ok (.invokevirtual 66, 3) := by decide +kernel
theorem dX12_product_26 : decode cX12_product 26 = .ok (.bipush 37, 2) := by decide +kernel
theorem dX12_product_28 : decode cX12_product 28 = .ok (.if_icmp .ne 34, 3) := by decide +kernel
theorem dX12_product_31 : decode cX12_product 31 = .ok (.aload_n 0, 1) := by decide +kernel
theorem dX12_product_32 : decode cX12_product 32 = .ok (.invokevirtual 66, 3) := by decide +kernel
theorem dX12_product_35 : decode cX12_product 35 = .ok (.istore_n 1, 1) := by decide +kernel
theorem dX12_product_36 : decode cX12_product 36 = .ok (.aload_n 0, 1) := by decide +kernel
theorem dX12_product_37 : decode cX12_product 37 = .ok (.dup, 1) := by decide +kernel
theorem dX12_product_38 : decode cX12_product 38 = .ok (.getfield 53, 3) := by decide +kernel
theorem dX12_product_41 : decode cX12_product 41 = .ok (.iconst 1, 1) := by decide +kernel
theorem dX12_product_42 : decode cX12_product 42 = .ok (.iadd, 1) := by decide +kernel
theorem dX12_product_43 : decode cX12_product 43 = .ok (.putfield 53, 3) := by decide +kernel
theorem dX12_product_46 : decode cX12_product 46 = .ok (.aload_n 0, 1) := by decide +kernel
theorem dX12_product_47 : decode cX12_product 47 = .ok (.invokevirtual 97, 3) := by decide +kernel
theorem dX12_product_50 : decode cX12_product 50 = .ok (.aload_n 0, 1) := by decide +kernel
theorem dX12_product_51 : decode cX12_product 51 = .ok (.sipush 20000, 3) := by decide +kernel
theorem dX12_product_54 : decode cX12_product 54 = .ok (.iload_n 1, 1) := by decide +kernel
theorem dX12_product_55 : decode cX12_product 55 = .ok (.iadd, 1) := by decide +kernel
theorem dX12_product_56 : decode cX12_product 56 = .ok (.invokevirtual 84, 3) := by decide +kernel
theorem dX12_product_59 : decode cX12_product 59 = .ok (.goto (-55), 3) := by decide +kernel
theorem dX12_product_62 : decode cX12_product 62 = .ok (.return_, 1) := by decide +kernel
theorem dX12_opens_0 : decode cX12_opens 0 = .ok (.aload_n 0, 1) := by decide +kernel
theorem dX12_opens_1 : decode cX12_opens 1 = .ok (.getfield 100, 3) := by decide +kernel
theorem dX12_opens_4 : decode cX12_opens 4 = .ok (.iconst 5, 1) := by decide +kernel
theorem dX12_opens_5 : decode cX12_opens 5 = .ok (.if_icmp .ne 8, 3) := by decide +kernel
theorem dX12_opens_8 : decode cX12_opens 8 = .ok (.aload_n 0, 1) := by decide +kernel
theorem dX12_opens_9 : decode cX12_opens 9 = .ok (.invokevirtual 103, 3) := by decide +kernel
theorem dX12_opens_12 : decode cX12_opens 12 = .ok (.return_, 1) := by decide +kernel
theorem dX12_opens_13 : decode cX12_opens 13 = .ok (.aload_n 0, 1) := by decide +kernel
theorem dX12_opens_14 : decode cX12_opens 14 = .ok (.dup, 1) := by decide +kernel
theorem dX12_opens_15 : decode cX12_opens 15 = .ok (.getfield 100, 3) := by decide +kernel
theorem dX12_opens_18 : decode cX12_opens 18 = .ok (.iconst 1, 1) := by decide +kernel
theorem dX12_opens_19 : decode cX12_opens 19 = .ok (.iadd, 1) := by decide +kernel
theorem dX12_opens_20 : decode cX12_opens 20 = .ok (.putfield 100, 3) := by decide +kernel
theorem dX12_opens_23 : decode cX12_opens 23 = .ok (.aload_n 0, 1) := by decide +kernel
theorem dX12_opens_24 : decode cX12_opens 24 = .ok (.dup, 1) := by decide +kernel
theorem dX12_opens_25 : decode cX12_opens 25 = .ok (.getfield 53, 3) := by decide +kernel
theorem dX12_opens_28 : decode cX12_opens 28 = .ok (.iconst 1, 1) := by decide +kernel
theorem dX12_opens_29 : decode cX12_opens 29 = .ok (.iadd, 1) := by decide +kernel
theorem dX12_opens_30 : decode cX12_opens 30 = .ok (.putfield 53, 3) := by decide +kernel
theorem dX12_opens_33 : decode cX12_opens 33 = .ok (.iload_n 1, 1) := by decide +kernel
theorem dX12_opens_34 : decode cX12_opens 34 = .ok (.bipush 33, 2) := by decide +kernel
theorem dX12_opens_36 : decode cX12_opens 36 = .ok (.if_icmp .ne 17, 3) := by decide +kernel
theorem dX12_opens_39 : decode cX12_opens 39 = .ok (.aload_n 0, 1) := by decide +kernel
theorem dX12_opens_40 : decode cX12_opens 40 = .ok (.invokevirtual 97, 3) := by decide +kernel
theorem dX12_opens_43 : decode cX12_opens 43 = .ok (.aload_n 0, 1) := by decide +kernel
theorem dX12_opens_44 : decode cX12_opens 44 = .ok (.sipush 20033, 3) := by decide +kernel
theorem dX12_opens_47 : decode cX12_opens 47 = .ok (.invokevirtual 84, 3) := by decide +kernel
theorem dX12_opens_50 : decode cX12_opens 50 = .ok (.goto 20, 3) := by decide +kernel
theorem dX12_opens_53 : decode cX12_opens 53 = .ok (.aload_n 0, 1) := by decide +kernel
theorem dX12_opens_54 : decode cX12_opens 54 = .ok (.invokevirtual 106, 3) := by decide +kernel
theorem dX12_opens_57 : decode cX12_opens 57 = .ok (.aload_n 0, 1) := by decide +kernel
theorem dX12_opens_58 : decode cX12_opens 58 = .ok (.bipush 41, 2) := by decide +kernel
theorem dX12_opens_60 : decode cX12_opens 60 = .ok (.invokevirtual 80, 3) := by decide +kernel
theorem dX12_opens_63 : decode cX12_opens 63 = .ok (.ifCond .ne 7, 3) := by decide +kernel
theorem dX12_opens_66 : decode cX12_opens 66 = .ok (.aload_n 0, 1) := by decide +kernel
theorem dX12_opens_67 : decode cX12_opens 67 = .ok (.invokevirtual 103, 3) := by decide +kernel
theorem dX12_opens_70 : decode cX12_opens 70 = .ok (.aload_n 0, 1) := by decide +kernel
theorem dX12_opens_71 : decode cX12_opens 71 = .ok (.dup, 1) := by decide +kernel
theorem dX12_opens_72 : decode cX12_opens 72 = .ok (.getfield 100, 3) := by decide +kernel
theorem dX12_opens_75 : decode cX12_opens 75 = .ok (.iconst 1, 1) := by decide +kernel
theorem dX12_opens_76 : decode cX12_opens 76 = .ok (.isub, 1) := by decide +kernel
theorem dX12_opens_77 : decode cX12_opens 77 = .ok (.putfield 100, 3) := by decide +kernel
theorem dX12_opens_80 : decode cX12_opens 80 = .ok (.return_, 1) := by decide +kernel
theorem dX12_unit_0 : decode cX12_unit 0 = .ok (.aload_n 0, 1) := by decide +kernel
theorem dX12_unit_1 : decode cX12_unit 1 = .ok (.invokevirtual 66, 3) := by decide +kernel
theorem dX12_unit_4 : decode cX12_unit 4 = .ok (.istore_n 1, 1) := by decide +kernel
theorem dX12_unit_5 : decode cX12_unit 5 = .ok (.iload_n 1, 1) := by decide +kernel
theorem dX12_unit_6 : decode cX12_unit 6 = .ok (.bipush 33, 2) := by decide +kernel
theorem dX12_unit_8 : decode cX12_unit 8 = .ok (.if_icmp .eq 9, 3) := by decide +kernel
theorem dX12_unit_11 : decode cX12_unit 11 = .ok (.iload_n 1, 1) := by decide +kernel
theorem dX12_unit_12 : decode cX12_unit 12 = .ok (.bipush 40, 2) := by decide +kernel
theorem dX12_unit_14 : decode cX12_unit 14 = .ok (.if_icmp .ne 9, 3) := by decide +kernel
theorem dX12_unit_17 : decode cX12_unit 17 = .ok (.aload_n 0, 1) := by decide +kernel
theorem dX12_unit_18 : decode cX12_unit 18 = .ok (.iload_n 1, 1) := by decide +kernel
theorem dX12_unit_19 : decode cX12_unit 19 = .ok (.invokevirtual 109, 3) := by decide +kernel
theorem dX12_unit_22 : decode cX12_unit 22 = .ok (.return_, 1) := by decide +kernel
theorem dX12_unit_23 : decode cX12_unit 23 = .ok (.aload_n 0, 1) := by decide +kernel
theorem dX12_unit_24 : decode cX12_unit 24 = .ok (.iload_n 1, 1) := by decide +kernel
theorem dX12_unit_25 : decode cX12_unit 25 = .ok (.invokevirtual 112, 3) := by decide +kernel
theorem dX12_unit_28 : decode cX12_unit 28 = .ok (.istore_n 2, 1) := by decide +kernel
theorem dX12_unit_29 : decode cX12_unit 29 = .ok (.iload_n 2, 1) := by decide +kernel
theorem dX12_unit_30 : decode cX12_unit 30 = .ok (.ifCond .lt 23, 3) := by decide +kernel
theorem dX12_unit_33 : decode cX12_unit 33 = .ok (.aload_n 0, 1) := by decide +kernel
theorem dX12_unit_34 : decode cX12_unit 34 = .ok (.dup, 1) := by decide +kernel
theorem dX12_unit_35 : decode cX12_unit 35 = .ok (.getfield 53, 3) := by decide +kernel
theorem dX12_unit_38 : decode cX12_unit 38 = .ok (.iconst 1, 1) := by decide +kernel
theorem dX12_unit_39 : decode cX12_unit 39 = .ok (.iadd, 1) := by decide +kernel
theorem dX12_unit_40 : decode cX12_unit 40 = .ok (.putfield 53, 3) := by decide +kernel
theorem dX12_unit_43 : decode cX12_unit 43 = .ok (.aload_n 0, 1) := by decide +kernel
theorem dX12_unit_44 : decode cX12_unit 44 = .ok (.sipush 10000, 3) := by decide +kernel
theorem dX12_unit_47 : decode cX12_unit 47 = .ok (.iload_n 2, 1) := by decide +kernel
theorem dX12_unit_48 : decode cX12_unit 48 = .ok (.iadd, 1) := by decide +kernel
theorem dX12_unit_49 : decode cX12_unit 49 = .ok (.invokevirtual 84, 3) := by decide +kernel
theorem dX12_unit_52 : decode cX12_unit 52 = .ok (.return_, 1) := by decide +kernel
theorem dX12_unit_53 : decode cX12_unit 53 = .ok (.iconst 0, 1) := by decide +kernel
theorem dX12_unit_54 : decode cX12_unit 54 = .ok (.istore_n 3, 1) := by decide +kernel
theorem dX12_unit_55 : decode cX12_unit 55 = .ok (.iconst 0, 1) := by decide +kernel
theorem dX12_unit_56 : decode cX12_unit 56 = .ok (.istore 4, 2) := by decide +kernel
theorem dX12_unit_58 : decode cX12_unit 58 = .ok (.iload 4, 2) := by decide +kernel
theorem dX12_unit_60 : decode cX12_unit 60 = .ok (.iconst 4, 1) := by decide +kernel
theorem dX12_unit_61 : decode cX12_unit 61 = .ok (.if_icmp .ge 49, 3) := by decide +kernel
theorem dX12_unit_64 : decode cX12_unit 64 = .ok (.aload_n 0, 1) := by decide +kernel
theorem dX12_unit_65 : decode cX12_unit 65 = .ok (.invokevirtual 66, 3) := by decide +kernel
theorem dX12_unit_68 : decode cX12_unit 68 = .ok (.i2l, 1) := by decide +kernel
theorem dX12_unit_69 : decode cX12_unit 69 = .ok (.ldc2_w 116, 3) := by decide +kernel
theorem dX12_unit_72 : decode cX12_unit 72 = .ok (.ldc2_w 118, 3) := by decide +kernel
theorem dX12_unit_75 : decode cX12_unit 75 = .ok (.invokestatic 47, 3) := by decide +kernel
theorem dX12_unit_78 : decode cX12_unit 78 = .ok (.ifCond .eq 32, 3) := by decide +kernel
theorem dX12_unit_81 : decode cX12_unit 81 = .ok (.bipush 10, 2) := by decide +kernel
theorem dX12_unit_83 : decode cX12_unit 83 = .ok (.iload_n 3, 1) := by decide +kernel
theorem dX12_unit_84 : decode cX12_unit 84 = .ok (.imul, 1) := by decide +kernel
theorem dX12_unit_85 : decode cX12_unit 85 = .ok (.aload_n 0, 1) := by decide +kernel
theorem dX12_unit_86 : decode cX12_unit 86 = .ok (.invokevirtual 66, 3) := by decide +kernel
theorem dX12_unit_89 : decode cX12_unit 89 = .ok (.iadd, 1) := by decide +kernel
theorem dX12_unit_90 : decode cX12_unit 90 = .ok (.bipush 48, 2) := by decide +kernel
theorem dX12_unit_92 : decode cX12_unit 92 = .ok (.isub, 1) := by decide +kernel
theorem dX12_unit_93 : decode cX12_unit 93 = .ok (.istore_n 3, 1) := by decide +kernel
theorem dX12_unit_94 : decode cX12_unit 94 = .ok (.aload_n 0, 1) := by decide +kernel
theorem dX12_unit_95 : decode cX12_unit 95 = .ok (.dup, 1) := by decide +kernel
theorem dX12_unit_96 : decode cX12_unit 96 = .ok (.getfield 53, 3) := by decide +kernel
theorem dX12_unit_99 : decode cX12_unit 99 = .ok (.iconst 1, 1) := by decide +kernel
theorem dX12_unit_100 : decode cX12_unit 100 = .ok (.iadd, 1) := by decide +kernel
theorem dX12_unit_101 : decode cX12_unit 101 = .ok (.putfield 53, 3) := by decide +kernel
theorem dX12_unit_104 : decode cX12_unit 104 = .ok (.iinc 4 1, 3) := by decide +kernel
theorem dX12_unit_107 : decode cX12_unit 107 = .ok (.goto (-49), 3) := by decide +kernel
theorem dX12_unit_110 : decode cX12_unit 110 = .ok (.iload 4, 2) := by decide +kernel
theorem dX12_unit_112 : decode cX12_unit 112 = .ok (.ifCond .ne 7, 3) := by decide +kernel
theorem dX12_unit_115 : decode cX12_unit 115 = .ok (.aload_n 0, 1) := by decide +kernel
theorem dX12_unit_116 : decode cX12_unit 116 = .ok (.invokevirtual 103, 3) := by decide +kernel
theorem dX12_unit_119 : decode cX12_unit 119 = .ok (.aload_n 0, 1) := by decide +kernel
theorem dX12_unit_120 : decode cX12_unit 120 = .ok (.iload_n 3, 1) := by decide +kernel
theorem dX12_unit_121 : decode cX12_unit 121 = .ok (.invokevirtual 84, 3) := by decide +kernel
theorem dX12_unit_124 : decode cX12_unit 124 = .ok (.return_, 1) := by decide +kernel
theorem dX12_reads_0 : decode cX12_reads 0 = .ok (.aload_n 0, 1) := by decide +kernel
theorem dX12_reads_1 : decode cX12_reads 1 = .ok (.iload_n 1, 1) := by decide +kernel
theorem dX12_reads_2 : decode cX12_reads 2 = .ok (.putfield 63, 3) := by decide +kernel
theorem dX12_reads_5 : decode cX12_reads 5 = .ok (.aload_n 0, 1) := by decide +kernel
theorem dX12_reads_6 : decode cX12_reads 6 = .ok (.iconst 0, 1) := by decide +kernel
theorem dX12_reads_7 : decode cX12_reads 7 = .ok (.putfield 53, 3) := by decide +kernel
theorem dX12_reads_10 : decode cX12_reads 10 = .ok (.aload_n 0, 1) := by decide +kernel
theorem dX12_reads_11 : decode cX12_reads 11 = .ok (.iload_n 2, 1) := by decide +kernel
theorem dX12_reads_12 : decode cX12_reads 12 = .ok (.putfield 57, 3) := by decide +kernel
theorem dX12_reads_15 : decode cX12_reads 15 = .ok (.aload_n 0, 1) := by decide +kernel
theorem dX12_reads_16 : decode cX12_reads 16 = .ok (.iconst (-1), 1) := by decide +kernel
theorem dX12_reads_17 : decode cX12_reads 17 = .ok (.putfield 60, 3) := by decide +kernel
theorem dX12_reads_20 : decode cX12_reads 20 = .ok (.aload_n 0, 1) := by decide +kernel
theorem dX12_reads_21 : decode cX12_reads 21 = .ok (.iconst 0, 1) := by decide +kernel
theorem dX12_reads_22 : decode cX12_reads 22 = .ok (.putfield 100, 3) := by decide +kernel
theorem dX12_reads_25 : decode cX12_reads 25 = .ok (.aload_n 0, 1) := by decide +kernel
theorem dX12_reads_26 : decode cX12_reads 26 = .ok (.iconst 0, 1) := by decide +kernel
theorem dX12_reads_27 : decode cX12_reads 27 = .ok (.putfield 74, 3) := by decide +kernel
theorem dX12_reads_30 : decode cX12_reads 30 = .ok (.aload_n 0, 1) := by decide +kernel
theorem dX12_reads_31 : decode cX12_reads 31 = .ok (.iload_n 3, 1) := by decide +kernel
theorem dX12_reads_32 : decode cX12_reads 32 = .ok (.iconst 1, 1) := by decide +kernel
theorem dX12_reads_33 : decode cX12_reads 33 = .ok (.if_icmp .ne 7, 3) := by decide +kernel
theorem dX12_reads_36 : decode cX12_reads 36 = .ok (.iconst 1, 1) := by decide +kernel
theorem dX12_reads_37 : decode cX12_reads 37 = .ok (.goto 4, 3) := by decide +kernel
theorem dX12_reads_40 : decode cX12_reads 40 = .ok (.iconst 0, 1) := by decide +kernel
theorem dX12_reads_41 : decode cX12_reads 41 = .ok (.putfield 70, 3) := by decide +kernel
theorem dX12_reads_44 : decode cX12_reads 44 = .ok (.aload_n 0, 1) := by decide +kernel
theorem dX12_reads_45 : decode cX12_reads 45 = .ok (.invokevirtual 106, 3) := by decide +kernel
theorem dX12_reads_48 : decode cX12_reads 48 = .ok (.aload_n 0, 1) := by decide +kernel
theorem dX12_reads_49 : decode cX12_reads 49 = .ok (.getfield 60, 3) := by decide +kernel
theorem dX12_reads_52 : decode cX12_reads 52 = .ok (.ifCond .ge 18, 3) := by decide +kernel
theorem dX12_reads_55 : decode cX12_reads 55 = .ok (.aload_n 0, 1) := by decide +kernel
theorem dX12_reads_56 : decode cX12_reads 56 = .ok (.getfield 53, 3) := by decide +kernel
theorem dX12_reads_59 : decode cX12_reads 59 = .ok (.aload_n 0, 1) := by decide +kernel
theorem dX12_reads_60 : decode cX12_reads 60 = .ok (.getfield 57, 3) := by decide +kernel
theorem dX12_reads_63 : decode cX12_reads 63 = .ok (.if_icmp .ge 7, 3) := by decide +kernel
theorem dX12_reads_66 : decode cX12_reads 66 = .ok (.aload_n 0, 1) := by decide +kernel
theorem dX12_reads_67 : decode cX12_reads 67 = .ok (.invokevirtual 103, 3) := by decide +kernel
theorem dX12_reads_70 : decode cX12_reads 70 = .ok (.return_, 1) := by decide +kernel
theorem dX12_done_0 : decode cX12_done 0 = .ok (.iload_n 0, 1) := by decide +kernel
theorem dX12_done_1 : decode cX12_done 1 = .ok (.lookupswitch 168 #[(38, 97), (42, 152), (43, 144), (45, 148), (47, 156), (60, 111), (61, 122), (62, 133), (124, 83)], 83) := by decide +kernel
theorem dX12_done_84 : decode cX12_done 84 = .ok (.iload_n 1, 1) := by decide +kernel
theorem dX12_done_85 : decode cX12_done 85 = .ok (.ifCond .ne 7, 3) := by decide +kernel
theorem dX12_done_88 : decode cX12_done 88 = .ok (.iload_n 2, 1) := by decide +kernel
theorem dX12_done_89 : decode cX12_done 89 = .ok (.ifCond .eq 7, 3) := by decide +kernel
theorem dX12_done_92 : decode cX12_done 92 = .ok (.iconst 1, 1) := by decide +kernel
theorem dX12_done_93 : decode cX12_done 93 = .ok (.goto 4, 3) := by decide +kernel
theorem dX12_done_96 : decode cX12_done 96 = .ok (.iconst 0, 1) := by decide +kernel
theorem dX12_done_97 : decode cX12_done 97 = .ok (.ireturn, 1) := by decide +kernel
theorem dX12_done_98 : decode cX12_done 98 = .ok (.iload_n 1, 1) := by decide +kernel
theorem dX12_done_99 : decode cX12_done 99 = .ok (.ifCond .eq 11, 3) := by decide +kernel
theorem dX12_done_102 : decode cX12_done 102 = .ok (.iload_n 2, 1) := by decide +kernel
theorem dX12_done_103 : decode cX12_done 103 = .ok (.ifCond .eq 7, 3) := by decide +kernel
theorem dX12_done_106 : decode cX12_done 106 = .ok (.iconst 1, 1) := by decide +kernel
theorem dX12_done_107 : decode cX12_done 107 = .ok (.goto 4, 3) := by decide +kernel
theorem dX12_done_110 : decode cX12_done 110 = .ok (.iconst 0, 1) := by decide +kernel
theorem dX12_done_111 : decode cX12_done 111 = .ok (.ireturn, 1) := by decide +kernel
theorem dX12_done_112 : decode cX12_done 112 = .ok (.iload_n 1, 1) := by decide +kernel
theorem dX12_done_113 : decode cX12_done 113 = .ok (.iload_n 2, 1) := by decide +kernel
theorem dX12_done_114 : decode cX12_done 114 = .ok (.if_icmp .ge 7, 3) := by decide +kernel
theorem dX12_done_117 : decode cX12_done 117 = .ok (.iconst 1, 1) := by decide +kernel
theorem dX12_done_118 : decode cX12_done 118 = .ok (.goto 4, 3) := by decide +kernel
theorem dX12_done_121 : decode cX12_done 121 = .ok (.iconst 0, 1) := by decide +kernel
theorem dX12_done_122 : decode cX12_done 122 = .ok (.ireturn, 1) := by decide +kernel
theorem dX12_done_123 : decode cX12_done 123 = .ok (.iload_n 1, 1) := by decide +kernel
theorem dX12_done_124 : decode cX12_done 124 = .ok (.iload_n 2, 1) := by decide +kernel
theorem dX12_done_125 : decode cX12_done 125 = .ok (.if_icmp .ne 7, 3) := by decide +kernel
theorem dX12_done_128 : decode cX12_done 128 = .ok (.iconst 1, 1) := by decide +kernel
theorem dX12_done_129 : decode cX12_done 129 = .ok (.goto 4, 3) := by decide +kernel
theorem dX12_done_132 : decode cX12_done 132 = .ok (.iconst 0, 1) := by decide +kernel
theorem dX12_done_133 : decode cX12_done 133 = .ok (.ireturn, 1) := by decide +kernel
theorem dX12_done_134 : decode cX12_done 134 = .ok (.iload_n 1, 1) := by decide +kernel
theorem dX12_done_135 : decode cX12_done 135 = .ok (.iload_n 2, 1) := by decide +kernel
theorem dX12_done_136 : decode cX12_done 136 = .ok (.if_icmp .le 7, 3) := by decide +kernel
theorem dX12_done_139 : decode cX12_done 139 = .ok (.iconst 1, 1) := by decide +kernel
theorem dX12_done_140 : decode cX12_done 140 = .ok (.goto 4, 3) := by decide +kernel
theorem dX12_done_143 : decode cX12_done 143 = .ok (.iconst 0, 1) := by decide +kernel
theorem dX12_done_144 : decode cX12_done 144 = .ok (.ireturn, 1) := by decide +kernel
theorem dX12_done_145 : decode cX12_done 145 = .ok (.iload_n 1, 1) := by decide +kernel
theorem dX12_done_146 : decode cX12_done 146 = .ok (.iload_n 2, 1) := by decide +kernel
theorem dX12_done_147 : decode cX12_done 147 = .ok (.iadd, 1) := by decide +kernel
theorem dX12_done_148 : decode cX12_done 148 = .ok (.ireturn, 1) := by decide +kernel
theorem dX12_done_149 : decode cX12_done 149 = .ok (.iload_n 1, 1) := by decide +kernel
theorem dX12_done_150 : decode cX12_done 150 = .ok (.iload_n 2, 1) := by decide +kernel
theorem dX12_done_151 : decode cX12_done 151 = .ok (.isub, 1) := by decide +kernel
theorem dX12_done_152 : decode cX12_done 152 = .ok (.ireturn, 1) := by decide +kernel
theorem dX12_done_153 : decode cX12_done 153 = .ok (.iload_n 1, 1) := by decide +kernel
theorem dX12_done_154 : decode cX12_done 154 = .ok (.iload_n 2, 1) := by decide +kernel
theorem dX12_done_155 : decode cX12_done 155 = .ok (.imul, 1) := by decide +kernel
theorem dX12_done_156 : decode cX12_done 156 = .ok (.ireturn, 1) := by decide +kernel
theorem dX12_done_157 : decode cX12_done 157 = .ok (.iload_n 2, 1) := by decide +kernel
theorem dX12_done_158 : decode cX12_done 158 = .ok (.ifCond .ne 7, 3) := by decide +kernel
theorem dX12_done_161 : decode cX12_done 161 = .ok (.iconst 0, 1) := by decide +kernel
theorem dX12_done_162 : decode cX12_done 162 = .ok (.goto 6, 3) := by decide +kernel
theorem dX12_done_165 : decode cX12_done 165 = .ok (.iload_n 1, 1) := by decide +kernel
theorem dX12_done_166 : decode cX12_done 166 = .ok (.iload_n 2, 1) := by decide +kernel
theorem dX12_done_167 : decode cX12_done 167 = .ok (.idiv, 1) := by decide +kernel
theorem dX12_done_168 : decode cX12_done 168 = .ok (.ireturn, 1) := by decide +kernel
theorem dX12_done_169 : decode cX12_done 169 = .ok (.iload_n 2, 1) := by decide +kernel
theorem dX12_done_170 : decode cX12_done 170 = .ok (.ifCond .ne 7, 3) := by decide +kernel
theorem dX12_done_173 : decode cX12_done 173 = .ok (.iconst 0, 1) := by decide +kernel
theorem dX12_done_174 : decode cX12_done 174 = .ok (.goto 6, 3) := by decide +kernel
theorem dX12_done_177 : decode cX12_done 177 = .ok (.iload_n 1, 1) := by decide +kernel
theorem dX12_done_178 : decode cX12_done 178 = .ok (.iload_n 2, 1) := by decide +kernel
theorem dX12_done_179 : decode cX12_done 179 = .ok (.irem, 1) := by decide +kernel
theorem dX12_done_180 : decode cX12_done 180 = .ok (.ireturn, 1) := by decide +kernel
theorem dX12_worked_0 : decode cX12_worked 0 = .ok (.iconst 0, 1) := by decide +kernel
theorem dX12_worked_1 : decode cX12_worked 1 = .ok (.istore_n 3, 1) := by decide +kernel
theorem dX12_worked_2 : decode cX12_worked 2 = .ok (.iload_n 1, 1) := by decide +kernel
theorem dX12_worked_3 : decode cX12_worked 3 = .ok (.istore 4, 2) := by decide +kernel
theorem dX12_worked_5 : decode cX12_worked 5 = .ok (.iload 4, 2) := by decide +kernel
theorem dX12_worked_7 : decode cX12_worked 7 = .ok (.iload_n 1, 1) := by decide +kernel
theorem dX12_worked_8 : decode cX12_worked 8 = .ok (.iload_n 2, 1) := by decide +kernel
theorem dX12_worked_9 : decode cX12_worked 9 = .ok (.iadd, 1) := by decide +kernel
theorem dX12_worked_10 : decode cX12_worked 10 = .ok (.if_icmp .ge 131, 3) := by decide +kernel
theorem dX12_worked_13 : decode cX12_worked 13 = .ok (.aload_n 0, 1) := by decide +kernel
theorem dX12_worked_14 : decode cX12_worked 14 = .ok (.getfield 7, 3) := by decide +kernel
theorem dX12_worked_17 : decode cX12_worked 17 = .ok (.iload 4, 2) := by decide +kernel
theorem dX12_worked_19 : decode cX12_worked 19 = .ok (.iaload, 1) := by decide +kernel
theorem dX12_worked_20 : decode cX12_worked 20 = .ok (.istore 5, 2) := by decide +kernel
theorem dX12_worked_22 : decode cX12_worked 22 = .ok (.iload 5, 2) := by decide +kernel
theorem dX12_worked_24 : decode cX12_worked 24 = .ok (.sipush 20000, 3) := by decide +kernel
theorem dX12_worked_27 : decode cX12_worked 27 = .ok (.if_icmp .ge 39, 3) := by decide +kernel
theorem dX12_worked_30 : decode cX12_worked 30 = .ok (.aload_n 0, 1) := by decide +kernel
theorem dX12_worked_31 : decode cX12_worked 31 = .ok (.getfield 28, 3) := by decide +kernel
theorem dX12_worked_34 : decode cX12_worked 34 = .ok (.iload_n 3, 1) := by decide +kernel
theorem dX12_worked_35 : decode cX12_worked 35 = .ok (.iload 5, 2) := by decide +kernel
theorem dX12_worked_37 : decode cX12_worked 37 = .ok (.sipush 10000, 3) := by decide +kernel
theorem dX12_worked_40 : decode cX12_worked 40 = .ok (.if_icmp .ge 8, 3) := by decide +kernel
theorem dX12_worked_43 : decode cX12_worked 43 = .ok (.iload 5, 2) := by decide +kernel
theorem dX12_worked_45 : decode cX12_worked 45 = .ok (.goto 14, 3) := by decide +kernel
theorem dX12_worked_48 : decode cX12_worked 48 = .ok (.aload_n 0, 1) := by decide +kernel
theorem dX12_worked_49 : decode cX12_worked 49 = .ok (.getfield 22, 3) := by decide +kernel
theorem dX12_worked_52 : decode cX12_worked 52 = .ok (.iload 5, 2) := by decide +kernel
theorem dX12_worked_54 : decode cX12_worked 54 = .ok (.sipush 10000, 3) := by decide +kernel
theorem dX12_worked_57 : decode cX12_worked 57 = .ok (.isub, 1) := by decide +kernel
theorem dX12_worked_58 : decode cX12_worked 58 = .ok (.iaload, 1) := by decide +kernel
theorem dX12_worked_59 : decode cX12_worked 59 = .ok (.iastore, 1) := by decide +kernel
theorem dX12_worked_60 : decode cX12_worked 60 = .ok (.iinc 3 1, 3) := by decide +kernel
theorem dX12_worked_63 : decode cX12_worked 63 = .ok (.goto 72, 3) := by decide +kernel
theorem dX12_worked_66 : decode cX12_worked 66 = .ok (.iload 5, 2) := by decide +kernel
theorem dX12_worked_68 : decode cX12_worked 68 = .ok (.sipush 20033, 3) := by decide +kernel
theorem dX12_worked_71 : decode cX12_worked 71 = .ok (.if_icmp .ne 30, 3) := by decide +kernel
theorem dX12_worked_74 : decode cX12_worked 74 = .ok (.aload_n 0, 1) := by decide +kernel
theorem dX12_worked_75 : decode cX12_worked 75 = .ok (.getfield 28, 3) := by decide +kernel
theorem dX12_worked_78 : decode cX12_worked 78 = .ok (.iload_n 3, 1) := by decide +kernel
theorem dX12_worked_79 : decode cX12_worked 79 = .ok (.iconst 1, 1) := by decide +kernel
theorem dX12_worked_80 : decode cX12_worked 80 = .ok (.isub, 1) := by decide +kernel
theorem dX12_worked_81 : decode cX12_worked 81 = .ok (.aload_n 0, 1) := by decide +kernel
theorem dX12_worked_82 : decode cX12_worked 82 = .ok (.getfield 28, 3) := by decide +kernel
theorem dX12_worked_85 : decode cX12_worked 85 = .ok (.iload_n 3, 1) := by decide +kernel
theorem dX12_worked_86 : decode cX12_worked 86 = .ok (.iconst 1, 1) := by decide +kernel
theorem dX12_worked_87 : decode cX12_worked 87 = .ok (.isub, 1) := by decide +kernel
theorem dX12_worked_88 : decode cX12_worked 88 = .ok (.iaload, 1) := by decide +kernel
theorem dX12_worked_89 : decode cX12_worked 89 = .ok (.ifCond .ne 7, 3) := by decide +kernel
theorem dX12_worked_92 : decode cX12_worked 92 = .ok (.iconst 1, 1) := by decide +kernel
theorem dX12_worked_93 : decode cX12_worked 93 = .ok (.goto 4, 3) := by decide +kernel
theorem dX12_worked_96 : decode cX12_worked 96 = .ok (.iconst 0, 1) := by decide +kernel
theorem dX12_worked_97 : decode cX12_worked 97 = .ok (.iastore, 1) := by decide +kernel
theorem dX12_worked_98 : decode cX12_worked 98 = .ok (.goto 37, 3) := by decide +kernel
theorem dX12_worked_101 : decode cX12_worked 101 = .ok (.iinc 3 (-1), 3) := by decide +kernel
theorem dX12_worked_104 : decode cX12_worked 104 = .ok (.aload_n 0, 1) := by decide +kernel
theorem dX12_worked_105 : decode cX12_worked 105 = .ok (.getfield 28, 3) := by decide +kernel
theorem dX12_worked_108 : decode cX12_worked 108 = .ok (.iload_n 3, 1) := by decide +kernel
theorem dX12_worked_109 : decode cX12_worked 109 = .ok (.iconst 1, 1) := by decide +kernel
theorem dX12_worked_110 : decode cX12_worked 110 = .ok (.isub, 1) := by decide +kernel
theorem dX12_worked_111 : decode cX12_worked 111 = .ok (.iload 5, 2) := by decide +kernel
theorem dX12_worked_113 : decode cX12_worked 113 = .ok (.sipush 20000, 3) := by decide +kernel
theorem dX12_worked_116 : decode cX12_worked 116 = .ok (.isub, 1) := by decide +kernel
theorem dX12_worked_117 : decode cX12_worked 117 = .ok (.aload_n 0, 1) := by decide +kernel
theorem dX12_worked_118 : decode cX12_worked 118 = .ok (.getfield 28, 3) := by decide +kernel
theorem dX12_worked_121 : decode cX12_worked 121 = .ok (.iload_n 3, 1) := by decide +kernel
theorem dX12_worked_122 : decode cX12_worked 122 = .ok (.iconst 1, 1) := by decide +kernel
theorem dX12_worked_123 : decode cX12_worked 123 = .ok (.isub, 1) := by decide +kernel
theorem dX12_worked_124 : decode cX12_worked 124 = .ok (.iaload, 1) := by decide +kernel
theorem dX12_worked_125 : decode cX12_worked 125 = .ok (.aload_n 0, 1) := by decide +kernel
theorem dX12_worked_126 : decode cX12_worked 126 = .ok (.getfield 28, 3) := by decide +kernel
theorem dX12_worked_129 : decode cX12_worked 129 = .ok (.iload_n 3, 1) := by decide +kernel
theorem dX12_worked_130 : decode cX12_worked 130 = .ok (.iaload, 1) := by decide +kernel
theorem dX12_worked_131 : decode cX12_worked 131 = .ok (.invokestatic 120, 3) := by decide +kernel
theorem dX12_worked_134 : decode cX12_worked 134 = .ok (.iastore, 1) := by decide +kernel
theorem dX12_worked_135 : decode cX12_worked 135 = .ok (.iinc 4 1, 3) := by decide +kernel
theorem dX12_worked_138 : decode cX12_worked 138 = .ok (.goto (-133), 3) := by decide +kernel
theorem dX12_worked_141 : decode cX12_worked 141 = .ok (.aload_n 0, 1) := by decide +kernel
theorem dX12_worked_142 : decode cX12_worked 142 = .ok (.getfield 28, 3) := by decide +kernel
theorem dX12_worked_145 : decode cX12_worked 145 = .ok (.iconst 0, 1) := by decide +kernel
theorem dX12_worked_146 : decode cX12_worked 146 = .ok (.iaload, 1) := by decide +kernel
theorem dX12_worked_147 : decode cX12_worked 147 = .ok (.ireturn, 1) := by decide +kernel
theorem dX12_feed_0 : decode cX12_feed 0 = .ok (.iload_n 3, 1) := by decide +kernel
theorem dX12_feed_1 : decode cX12_feed 1 = .ok (.i2l, 1) := by decide +kernel
theorem dX12_feed_2 : decode cX12_feed 2 = .ok (.lconst 1, 1) := by decide +kernel
theorem dX12_feed_3 : decode cX12_feed 3 = .ok (.ldc2_w 124, 3) := by decide +kernel
theorem dX12_feed_6 : decode cX12_feed 6 = .ok (.invokestatic 47, 3) := by decide +kernel
theorem dX12_feed_9 : decode cX12_feed 9 = .ok (.ifCond .ne 9, 3) := by decide +kernel
theorem dX12_feed_12 : decode cX12_feed 12 = .ok (.aload_n 0, 1) := by decide +kernel
theorem dX12_feed_13 : decode cX12_feed 13 = .ok (.iconst 1, 1) := by decide +kernel
theorem dX12_feed_14 : decode cX12_feed 14 = .ok (.invokevirtual 126, 3) := by decide +kernel
theorem dX12_feed_17 : decode cX12_feed 17 = .ok (.ireturn, 1) := by decide +kernel
theorem dX12_feed_18 : decode cX12_feed 18 = .ok (.aload_n 0, 1) := by decide +kernel
theorem dX12_feed_19 : decode cX12_feed 19 = .ok (.getfield 7, 3) := by decide +kernel
theorem dX12_feed_22 : decode cX12_feed 22 = .ok (.bipush 6, 2) := by decide +kernel
theorem dX12_feed_24 : decode cX12_feed 24 = .ok (.iaload, 1) := by decide +kernel
theorem dX12_feed_25 : decode cX12_feed 25 = .ok (.iload_n 3, 1) := by decide +kernel
theorem dX12_feed_26 : decode cX12_feed 26 = .ok (.iadd, 1) := by decide +kernel
theorem dX12_feed_27 : decode cX12_feed 27 = .ok (.bipush 50, 2) := by decide +kernel
theorem dX12_feed_29 : decode cX12_feed 29 = .ok (.if_icmp .le 9, 3) := by decide +kernel
theorem dX12_feed_32 : decode cX12_feed 32 = .ok (.aload_n 0, 1) := by decide +kernel
theorem dX12_feed_33 : decode cX12_feed 33 = .ok (.iconst 4, 1) := by decide +kernel
theorem dX12_feed_34 : decode cX12_feed 34 = .ok (.invokevirtual 126, 3) := by decide +kernel
theorem dX12_feed_37 : decode cX12_feed 37 = .ok (.ireturn, 1) := by decide +kernel
theorem dX12_feed_38 : decode cX12_feed 38 = .ok (.iconst 0, 1) := by decide +kernel
theorem dX12_feed_39 : decode cX12_feed 39 = .ok (.istore 4, 2) := by decide +kernel
theorem dX12_feed_41 : decode cX12_feed 41 = .ok (.iload 4, 2) := by decide +kernel
theorem dX12_feed_43 : decode cX12_feed 43 = .ok (.iload_n 3, 1) := by decide +kernel
theorem dX12_feed_44 : decode cX12_feed 44 = .ok (.if_icmp .ge 48, 3) := by decide +kernel
theorem dX12_feed_47 : decode cX12_feed 47 = .ok (.aload_n 0, 1) := by decide +kernel
theorem dX12_feed_48 : decode cX12_feed 48 = .ok (.getfield 7, 3) := by decide +kernel
theorem dX12_feed_51 : decode cX12_feed 51 = .ok (.sipush 210, 3) := by decide +kernel
theorem dX12_feed_54 : decode cX12_feed 54 = .ok (.aload_n 0, 1) := by decide +kernel
theorem dX12_feed_55 : decode cX12_feed 55 = .ok (.getfield 7, 3) := by decide +kernel
theorem dX12_feed_58 : decode cX12_feed 58 = .ok (.bipush 6, 2) := by decide +kernel
theorem dX12_feed_60 : decode cX12_feed 60 = .ok (.iaload, 1) := by decide +kernel
theorem dX12_feed_61 : decode cX12_feed 61 = .ok (.iadd, 1) := by decide +kernel
theorem dX12_feed_62 : decode cX12_feed 62 = .ok (.lload_n 1, 1) := by decide +kernel
theorem dX12_feed_63 : decode cX12_feed 63 = .ok (.bipush 8, 2) := by decide +kernel
theorem dX12_feed_65 : decode cX12_feed 65 = .ok (.iload 4, 2) := by decide +kernel
theorem dX12_feed_67 : decode cX12_feed 67 = .ok (.imul, 1) := by decide +kernel
theorem dX12_feed_68 : decode cX12_feed 68 = .ok (.lshr, 1) := by decide +kernel
theorem dX12_feed_69 : decode cX12_feed 69 = .ok (.ldc2_w 129, 3) := by decide +kernel
theorem dX12_feed_72 : decode cX12_feed 72 = .ok (.land, 1) := by decide +kernel
theorem dX12_feed_73 : decode cX12_feed 73 = .ok (.l2i, 1) := by decide +kernel
theorem dX12_feed_74 : decode cX12_feed 74 = .ok (.iastore, 1) := by decide +kernel
theorem dX12_feed_75 : decode cX12_feed 75 = .ok (.aload_n 0, 1) := by decide +kernel
theorem dX12_feed_76 : decode cX12_feed 76 = .ok (.getfield 7, 3) := by decide +kernel
theorem dX12_feed_79 : decode cX12_feed 79 = .ok (.bipush 6, 2) := by decide +kernel
theorem dX12_feed_81 : decode cX12_feed 81 = .ok (.dup2, 1) := by decide +kernel
theorem dX12_feed_82 : decode cX12_feed 82 = .ok (.iaload, 1) := by decide +kernel
theorem dX12_feed_83 : decode cX12_feed 83 = .ok (.iconst 1, 1) := by decide +kernel
theorem dX12_feed_84 : decode cX12_feed 84 = .ok (.iadd, 1) := by decide +kernel
theorem dX12_feed_85 : decode cX12_feed 85 = .ok (.iastore, 1) := by decide +kernel
theorem dX12_feed_86 : decode cX12_feed 86 = .ok (.iinc 4 1, 3) := by decide +kernel
theorem dX12_feed_89 : decode cX12_feed 89 = .ok (.goto (-48), 3) := by decide +kernel
theorem dX12_feed_92 : decode cX12_feed 92 = .ok (.aload_n 0, 1) := by decide +kernel
theorem dX12_feed_93 : decode cX12_feed 93 = .ok (.getfield 7, 3) := by decide +kernel
theorem dX12_feed_96 : decode cX12_feed 96 = .ok (.bipush 6, 2) := by decide +kernel
theorem dX12_feed_98 : decode cX12_feed 98 = .ok (.iaload, 1) := by decide +kernel
theorem dX12_feed_99 : decode cX12_feed 99 = .ok (.ireturn, 1) := by decide +kernel
theorem dX12_text_0 : decode cX12_text 0 = .ok (.iload_n 1, 1) := by decide +kernel
theorem dX12_text_1 : decode cX12_text 1 = .ok (.i2l, 1) := by decide +kernel
theorem dX12_text_2 : decode cX12_text 2 = .ok (.lconst 0, 1) := by decide +kernel
theorem dX12_text_3 : decode cX12_text 3 = .ok (.lconst 1, 1) := by decide +kernel
theorem dX12_text_4 : decode cX12_text 4 = .ok (.invokestatic 47, 3) := by decide +kernel
theorem dX12_text_7 : decode cX12_text 7 = .ok (.ifCond .ne 9, 3) := by decide +kernel
theorem dX12_text_10 : decode cX12_text 10 = .ok (.aload_n 0, 1) := by decide +kernel
theorem dX12_text_11 : decode cX12_text 11 = .ok (.iconst 1, 1) := by decide +kernel
theorem dX12_text_12 : decode cX12_text 12 = .ok (.invokevirtual 126, 3) := by decide +kernel
theorem dX12_text_15 : decode cX12_text 15 = .ok (.ireturn, 1) := by decide +kernel
theorem dX12_text_16 : decode cX12_text 16 = .ok (.aload_n 0, 1) := by decide +kernel
theorem dX12_text_17 : decode cX12_text 17 = .ok (.getfield 7, 3) := by decide +kernel
theorem dX12_text_20 : decode cX12_text 20 = .ok (.bipush 6, 2) := by decide +kernel
theorem dX12_text_22 : decode cX12_text 22 = .ok (.iaload, 1) := by decide +kernel
theorem dX12_text_23 : decode cX12_text 23 = .ok (.istore_n 2, 1) := by decide +kernel
theorem dX12_text_24 : decode cX12_text 24 = .ok (.aload_n 0, 1) := by decide +kernel
theorem dX12_text_25 : decode cX12_text 25 = .ok (.getfield 7, 3) := by decide +kernel
theorem dX12_text_28 : decode cX12_text 28 = .ok (.bipush 6, 2) := by decide +kernel
theorem dX12_text_30 : decode cX12_text 30 = .ok (.iconst 0, 1) := by decide +kernel
theorem dX12_text_31 : decode cX12_text 31 = .ok (.iastore, 1) := by decide +kernel
theorem dX12_text_32 : decode cX12_text 32 = .ok (.aload_n 0, 1) := by decide +kernel
theorem dX12_text_33 : decode cX12_text 33 = .ok (.sipush 210, 3) := by decide +kernel
theorem dX12_text_36 : decode cX12_text 36 = .ok (.iload_n 2, 1) := by decide +kernel
theorem dX12_text_37 : decode cX12_text 37 = .ok (.iload_n 1, 1) := by decide +kernel
theorem dX12_text_38 : decode cX12_text 38 = .ok (.invokevirtual 131, 3) := by decide +kernel
theorem dX12_text_41 : decode cX12_text 41 = .ok (.aload_n 0, 1) := by decide +kernel
theorem dX12_text_42 : decode cX12_text 42 = .ok (.getfield 60, 3) := by decide +kernel
theorem dX12_text_45 : decode cX12_text 45 = .ok (.ifCond .lt 11, 3) := by decide +kernel
theorem dX12_text_48 : decode cX12_text 48 = .ok (.bipush (-10), 2) := by decide +kernel
theorem dX12_text_50 : decode cX12_text 50 = .ok (.aload_n 0, 1) := by decide +kernel
theorem dX12_text_51 : decode cX12_text 51 = .ok (.getfield 60, 3) := by decide +kernel
theorem dX12_text_54 : decode cX12_text 54 = .ok (.isub, 1) := by decide +kernel
theorem dX12_text_55 : decode cX12_text 55 = .ok (.ireturn, 1) := by decide +kernel
theorem dX12_text_56 : decode cX12_text 56 = .ok (.aload_n 0, 1) := by decide +kernel
theorem dX12_text_57 : decode cX12_text 57 = .ok (.getfield 7, 3) := by decide +kernel
theorem dX12_text_60 : decode cX12_text 60 = .ok (.bipush 88, 2) := by decide +kernel
theorem dX12_text_62 : decode cX12_text 62 = .ok (.iload_n 1, 1) := by decide +kernel
theorem dX12_text_63 : decode cX12_text 63 = .ok (.iadd, 1) := by decide +kernel
theorem dX12_text_64 : decode cX12_text 64 = .ok (.aload_n 0, 1) := by decide +kernel
theorem dX12_text_65 : decode cX12_text 65 = .ok (.getfield 74, 3) := by decide +kernel
theorem dX12_text_68 : decode cX12_text 68 = .ok (.iastore, 1) := by decide +kernel
theorem dX12_text_69 : decode cX12_text 69 = .ok (.iconst 0, 1) := by decide +kernel
theorem dX12_text_70 : decode cX12_text 70 = .ok (.istore_n 3, 1) := by decide +kernel
theorem dX12_text_71 : decode cX12_text 71 = .ok (.iload_n 3, 1) := by decide +kernel
theorem dX12_text_72 : decode cX12_text 72 = .ok (.aload_n 0, 1) := by decide +kernel
theorem dX12_text_73 : decode cX12_text 73 = .ok (.getfield 74, 3) := by decide +kernel
theorem dX12_text_76 : decode cX12_text 76 = .ok (.if_icmp .ge 29, 3) := by decide +kernel
theorem dX12_text_79 : decode cX12_text 79 = .ok (.aload_n 0, 1) := by decide +kernel
theorem dX12_text_80 : decode cX12_text 80 = .ok (.getfield 7, 3) := by decide +kernel
theorem dX12_text_83 : decode cX12_text 83 = .ok (.bipush 110, 2) := by decide +kernel
theorem dX12_text_85 : decode cX12_text 85 = .ok (.bipush 50, 2) := by decide +kernel
theorem dX12_text_87 : decode cX12_text 87 = .ok (.iload_n 1, 1) := by decide +kernel
theorem dX12_text_88 : decode cX12_text 88 = .ok (.imul, 1) := by decide +kernel
theorem dX12_text_89 : decode cX12_text 89 = .ok (.iadd, 1) := by decide +kernel
theorem dX12_text_90 : decode cX12_text 90 = .ok (.iload_n 3, 1) := by decide +kernel
theorem dX12_text_91 : decode cX12_text 91 = .ok (.iadd, 1) := by decide +kernel
theorem dX12_text_92 : decode cX12_text 92 = .ok (.aload_n 0, 1) := by decide +kernel
theorem dX12_text_93 : decode cX12_text 93 = .ok (.getfield 25, 3) := by decide +kernel
theorem dX12_text_96 : decode cX12_text 96 = .ok (.iload_n 3, 1) := by decide +kernel
theorem dX12_text_97 : decode cX12_text 97 = .ok (.iaload, 1) := by decide +kernel
theorem dX12_text_98 : decode cX12_text 98 = .ok (.iastore, 1) := by decide +kernel
theorem dX12_text_99 : decode cX12_text 99 = .ok (.iinc 3 1, 3) := by decide +kernel
theorem dX12_text_102 : decode cX12_text 102 = .ok (.goto (-31), 3) := by decide +kernel
theorem dX12_text_105 : decode cX12_text 105 = .ok (.iconst 1, 1) := by decide +kernel
theorem dX12_text_106 : decode cX12_text 106 = .ok (.ireturn, 1) := by decide +kernel
theorem dX12_textGives_0 : decode cX12_textGives 0 = .ok (.iload_n 2, 1) := by decide +kernel
theorem dX12_textGives_1 : decode cX12_textGives 1 = .ok (.istore 5, 2) := by decide +kernel
theorem dX12_textGives_3 : decode cX12_textGives 3 = .ok (.aload_n 0, 1) := by decide +kernel
theorem dX12_textGives_4 : decode cX12_textGives 4 = .ok (.getfield 7, 3) := by decide +kernel
theorem dX12_textGives_7 : decode cX12_textGives 7 = .ok (.bipush 88, 2) := by decide +kernel
theorem dX12_textGives_9 : decode cX12_textGives 9 = .ok (.iload_n 1, 1) := by decide +kernel
theorem dX12_textGives_10 : decode cX12_textGives 10 = .ok (.iadd, 1) := by decide +kernel
theorem dX12_textGives_11 : decode cX12_textGives 11 = .ok (.iaload, 1) := by decide +kernel
theorem dX12_textGives_12 : decode cX12_textGives 12 = .ok (.ifCond .le 47, 3) := by decide +kernel
theorem dX12_textGives_15 : decode cX12_textGives 15 = .ok (.aload_n 0, 1) := by decide +kernel
theorem dX12_textGives_16 : decode cX12_textGives 16 = .ok (.getfield 22, 3) := by decide +kernel
theorem dX12_textGives_19 : decode cX12_textGives 19 = .ok (.iconst 0, 1) := by decide +kernel
theorem dX12_textGives_20 : decode cX12_textGives 20 = .ok (.iload_n 2, 1) := by decide +kernel
theorem dX12_textGives_21 : decode cX12_textGives 21 = .ok (.iastore, 1) := by decide +kernel
theorem dX12_textGives_22 : decode cX12_textGives 22 = .ok (.aload_n 0, 1) := by decide +kernel
theorem dX12_textGives_23 : decode cX12_textGives 23 = .ok (.getfield 22, 3) := by decide +kernel
theorem dX12_textGives_26 : decode cX12_textGives 26 = .ok (.iconst 1, 1) := by decide +kernel
theorem dX12_textGives_27 : decode cX12_textGives 27 = .ok (.iload_n 3, 1) := by decide +kernel
theorem dX12_textGives_28 : decode cX12_textGives 28 = .ok (.iastore, 1) := by decide +kernel
theorem dX12_textGives_29 : decode cX12_textGives 29 = .ok (.aload_n 0, 1) := by decide +kernel
theorem dX12_textGives_30 : decode cX12_textGives 30 = .ok (.getfield 22, 3) := by decide +kernel
theorem dX12_textGives_33 : decode cX12_textGives 33 = .ok (.iconst 2, 1) := by decide +kernel
theorem dX12_textGives_34 : decode cX12_textGives 34 = .ok (.iload 4, 2) := by decide +kernel
theorem dX12_textGives_36 : decode cX12_textGives 36 = .ok (.iastore, 1) := by decide +kernel
theorem dX12_textGives_37 : decode cX12_textGives 37 = .ok (.aload_n 0, 1) := by decide +kernel
theorem dX12_textGives_38 : decode cX12_textGives 38 = .ok (.bipush 110, 2) := by decide +kernel
theorem dX12_textGives_40 : decode cX12_textGives 40 = .ok (.bipush 50, 2) := by decide +kernel
theorem dX12_textGives_42 : decode cX12_textGives 42 = .ok (.iload_n 1, 1) := by decide +kernel
theorem dX12_textGives_43 : decode cX12_textGives 43 = .ok (.imul, 1) := by decide +kernel
theorem dX12_textGives_44 : decode cX12_textGives 44 = .ok (.iadd, 1) := by decide +kernel
theorem dX12_textGives_45 : decode cX12_textGives 45 = .ok (.aload_n 0, 1) := by decide +kernel
theorem dX12_textGives_46 : decode cX12_textGives 46 = .ok (.getfield 7, 3) := by decide +kernel
theorem dX12_textGives_49 : decode cX12_textGives 49 = .ok (.bipush 88, 2) := by decide +kernel
theorem dX12_textGives_51 : decode cX12_textGives 51 = .ok (.iload_n 1, 1) := by decide +kernel
theorem dX12_textGives_52 : decode cX12_textGives 52 = .ok (.iadd, 1) := by decide +kernel
theorem dX12_textGives_53 : decode cX12_textGives 53 = .ok (.iaload, 1) := by decide +kernel
theorem dX12_textGives_54 : decode cX12_textGives 54 = .ok (.invokevirtual 135, 3) := by decide +kernel
theorem dX12_textGives_57 : decode cX12_textGives 57 = .ok (.istore 5, 2) := by decide +kernel
theorem dX12_textGives_59 : decode cX12_textGives 59 = .ok (.iload 5, 2) := by decide +kernel
theorem dX12_textGives_61 : decode cX12_textGives 61 = .ok (.iconst 0, 1) := by decide +kernel
theorem dX12_textGives_62 : decode cX12_textGives 62 = .ok (.iload_n 1, 1) := by decide +kernel
theorem dX12_textGives_63 : decode cX12_textGives 63 = .ok (.ifCond .ne 8, 3) := by decide +kernel
theorem dX12_textGives_66 : decode cX12_textGives 66 = .ok (.bipush 9, 2) := by decide +kernel
theorem dX12_textGives_68 : decode cX12_textGives 68 = .ok (.goto 5, 3) := by decide +kernel
theorem dX12_textGives_71 : decode cX12_textGives 71 = .ok (.bipush 99, 2) := by decide +kernel
theorem dX12_textGives_73 : decode cX12_textGives 73 = .ok (.invokestatic 139, 3) := by decide +kernel
theorem dX12_textGives_76 : decode cX12_textGives 76 = .ok (.ireturn, 1) := by decide +kernel
theorem dX12_law_0 : decode cX12_law 0 = .ok (.iload_n 1, 1) := by decide +kernel
theorem dX12_law_1 : decode cX12_law 1 = .ok (.i2l, 1) := by decide +kernel
theorem dX12_law_2 : decode cX12_law 2 = .ok (.lconst 0, 1) := by decide +kernel
theorem dX12_law_3 : decode cX12_law 3 = .ok (.lconst 1, 1) := by decide +kernel
theorem dX12_law_4 : decode cX12_law 4 = .ok (.invokestatic 47, 3) := by decide +kernel
theorem dX12_law_7 : decode cX12_law 7 = .ok (.ifCond .eq 15, 3) := by decide +kernel
theorem dX12_law_10 : decode cX12_law 10 = .ok (.aload_n 0, 1) := by decide +kernel
theorem dX12_law_11 : decode cX12_law 11 = .ok (.iload_n 1, 1) := by decide +kernel
theorem dX12_law_12 : decode cX12_law 12 = .ok (.iload_n 2, 1) := by decide +kernel
theorem dX12_law_13 : decode cX12_law 13 = .ok (.iload_n 3, 1) := by decide +kernel
theorem dX12_law_14 : decode cX12_law 14 = .ok (.iload 4, 2) := by decide +kernel
theorem dX12_law_16 : decode cX12_law 16 = .ok (.invokevirtual 142, 3) := by decide +kernel
theorem dX12_law_19 : decode cX12_law 19 = .ok (.goto 8, 3) := by decide +kernel
theorem dX12_law_22 : decode cX12_law 22 = .ok (.aload_n 0, 1) := by decide +kernel
theorem dX12_law_23 : decode cX12_law 23 = .ok (.iconst 1, 1) := by decide +kernel
theorem dX12_law_24 : decode cX12_law 24 = .ok (.invokevirtual 126, 3) := by decide +kernel
theorem dX12_law_27 : decode cX12_law 27 = .ok (.ireturn, 1) := by decide +kernel
theorem dX12_isDust_0 : decode cX12_isDust 0 = .ok (.aload_n 0, 1) := by decide +kernel
theorem dX12_isDust_1 : decode cX12_isDust 1 = .ok (.iload_n 1, 1) := by decide +kernel
theorem dX12_isDust_2 : decode cX12_isDust 2 = .ok (.iconst 3, 1) := by decide +kernel
theorem dX12_isDust_3 : decode cX12_isDust 3 = .ok (.invokevirtual 146, 3) := by decide +kernel
theorem dX12_isDust_6 : decode cX12_isDust 6 = .ok (.ifCond .ne 7, 3) := by decide +kernel
theorem dX12_isDust_9 : decode cX12_isDust 9 = .ok (.iconst 1, 1) := by decide +kernel
theorem dX12_isDust_10 : decode cX12_isDust 10 = .ok (.goto 4, 3) := by decide +kernel
theorem dX12_isDust_13 : decode cX12_isDust 13 = .ok (.iconst 0, 1) := by decide +kernel
theorem dX12_isDust_14 : decode cX12_isDust 14 = .ok (.ireturn, 1) := by decide +kernel
theorem dX12_drifts_0 : decode cX12_drifts 0 = .ok (.aload_n 0, 1) := by decide +kernel
theorem dX12_drifts_1 : decode cX12_drifts 1 = .ok (.getfield 7, 3) := by decide +kernel
theorem dX12_drifts_4 : decode cX12_drifts 4 = .ok (.iconst 1, 1) := by decide +kernel
theorem dX12_drifts_5 : decode cX12_drifts 5 = .ok (.iaload, 1) := by decide +kernel
theorem dX12_drifts_6 : decode cX12_drifts 6 = .ok (.bipush 7, 2) := by decide +kernel
theorem dX12_drifts_8 : decode cX12_drifts 8 = .ok (.irem, 1) := by decide +kernel
theorem dX12_drifts_9 : decode cX12_drifts 9 = .ok (.ifCond .ne 7, 3) := by decide +kernel
theorem dX12_drifts_12 : decode cX12_drifts 12 = .ok (.iconst 0, 1) := by decide +kernel
theorem dX12_drifts_13 : decode cX12_drifts 13 = .ok (.goto 4, 3) := by decide +kernel
theorem dX12_drifts_16 : decode cX12_drifts 16 = .ok (.iload_n 2, 1) := by decide +kernel
theorem dX12_drifts_17 : decode cX12_drifts 17 = .ok (.istore_n 3, 1) := by decide +kernel
theorem dX12_drifts_18 : decode cX12_drifts 18 = .ok (.aload_n 0, 1) := by decide +kernel
theorem dX12_drifts_19 : decode cX12_drifts 19 = .ok (.iload_n 1, 1) := by decide +kernel
theorem dX12_drifts_20 : decode cX12_drifts 20 = .ok (.iconst 0, 1) := by decide +kernel
theorem dX12_drifts_21 : decode cX12_drifts 21 = .ok (.invokevirtual 146, 3) := by decide +kernel
theorem dX12_drifts_24 : decode cX12_drifts 24 = .ok (.tableswitch 89 1 6 #[40, 44, 48, 50, 52, 78], 40) := by decide +kernel
theorem dX12_drifts_64 : decode cX12_drifts 64 = .ok (.iload_n 2, 1) := by decide +kernel
theorem dX12_drifts_65 : decode cX12_drifts 65 = .ok (.iconst 2, 1) := by decide +kernel
theorem dX12_drifts_66 : decode cX12_drifts 66 = .ok (.idiv, 1) := by decide +kernel
theorem dX12_drifts_67 : decode cX12_drifts 67 = .ok (.ireturn, 1) := by decide +kernel
theorem dX12_drifts_68 : decode cX12_drifts 68 = .ok (.iload_n 2, 1) := by decide +kernel
theorem dX12_drifts_69 : decode cX12_drifts 69 = .ok (.iconst 1, 1) := by decide +kernel
theorem dX12_drifts_70 : decode cX12_drifts 70 = .ok (.iadd, 1) := by decide +kernel
theorem dX12_drifts_71 : decode cX12_drifts 71 = .ok (.ireturn, 1) := by decide +kernel
theorem dX12_drifts_72 : decode cX12_drifts 72 = .ok (.iload_n 3, 1) := by decide +kernel
theorem dX12_drifts_73 : decode cX12_drifts 73 = .ok (.ireturn, 1) := by decide +kernel
theorem dX12_drifts_74 : decode cX12_drifts 74 = .ok (.iconst 0, 1) := by decide +kernel
theorem dX12_drifts_75 : decode cX12_drifts 75 = .ok (.ireturn, 1) := by decide +kernel
theorem dX12_drifts_76 : decode cX12_drifts 76 = .ok (.iload_n 2, 1) := by decide +kernel
theorem dX12_drifts_77 : decode cX12_drifts 77 = .ok (.iconst 1, 1) := by decide +kernel
theorem dX12_drifts_78 : decode cX12_drifts 78 = .ok (.iadd, 1) := by decide +kernel
theorem dX12_drifts_79 : decode cX12_drifts 79 = .ok (.aload_n 0, 1) := by decide +kernel
theorem dX12_drifts_80 : decode cX12_drifts 80 = .ok (.getfield 7, 3) := by decide +kernel
theorem dX12_drifts_83 : decode cX12_drifts 83 = .ok (.iconst 1, 1) := by decide +kernel
theorem dX12_drifts_84 : decode cX12_drifts 84 = .ok (.iaload, 1) := by decide +kernel
theorem dX12_drifts_85 : decode cX12_drifts 85 = .ok (.iconst 5, 1) := by decide +kernel
theorem dX12_drifts_86 : decode cX12_drifts 86 = .ok (.irem, 1) := by decide +kernel
theorem dX12_drifts_87 : decode cX12_drifts 87 = .ok (.ifCond .ne 12, 3) := by decide +kernel
theorem dX12_drifts_90 : decode cX12_drifts 90 = .ok (.aload_n 0, 1) := by decide +kernel
theorem dX12_drifts_91 : decode cX12_drifts 91 = .ok (.iload_n 1, 1) := by decide +kernel
theorem dX12_drifts_92 : decode cX12_drifts 92 = .ok (.iconst 1, 1) := by decide +kernel
theorem dX12_drifts_93 : decode cX12_drifts 93 = .ok (.invokevirtual 146, 3) := by decide +kernel
theorem dX12_drifts_96 : decode cX12_drifts 96 = .ok (.goto 4, 3) := by decide +kernel
theorem dX12_drifts_99 : decode cX12_drifts 99 = .ok (.iconst 0, 1) := by decide +kernel
theorem dX12_drifts_100 : decode cX12_drifts 100 = .ok (.iadd, 1) := by decide +kernel
theorem dX12_drifts_101 : decode cX12_drifts 101 = .ok (.ireturn, 1) := by decide +kernel
theorem dX12_drifts_102 : decode cX12_drifts 102 = .ok (.iload_n 3, 1) := by decide +kernel
theorem dX12_drifts_103 : decode cX12_drifts 103 = .ok (.iconst 1, 1) := by decide +kernel
theorem dX12_drifts_104 : decode cX12_drifts 104 = .ok (.if_icmp .ge 7, 3) := by decide +kernel
theorem dX12_drifts_107 : decode cX12_drifts 107 = .ok (.iconst 1, 1) := by decide +kernel
theorem dX12_drifts_108 : decode cX12_drifts 108 = .ok (.goto 4, 3) := by decide +kernel
theorem dX12_drifts_111 : decode cX12_drifts 111 = .ok (.iload_n 3, 1) := by decide +kernel
theorem dX12_drifts_112 : decode cX12_drifts 112 = .ok (.ireturn, 1) := by decide +kernel
theorem dX12_drifts_113 : decode cX12_drifts 113 = .ok (.iload_n 2, 1) := by decide +kernel
theorem dX12_drifts_114 : decode cX12_drifts 114 = .ok (.ireturn, 1) := by decide +kernel
theorem dX12_shines_0 : decode cX12_shines 0 = .ok (.aload_n 0, 1) := by decide +kernel
theorem dX12_shines_1 : decode cX12_shines 1 = .ok (.iload_n 1, 1) := by decide +kernel
theorem dX12_shines_2 : decode cX12_shines 2 = .ok (.iconst 1, 1) := by decide +kernel
theorem dX12_shines_3 : decode cX12_shines 3 = .ok (.invokevirtual 146, 3) := by decide +kernel
theorem dX12_shines_6 : decode cX12_shines 6 = .ok (.istore_n 3, 1) := by decide +kernel
theorem dX12_shines_7 : decode cX12_shines 7 = .ok (.aload_n 0, 1) := by decide +kernel
theorem dX12_shines_8 : decode cX12_shines 8 = .ok (.iload_n 1, 1) := by decide +kernel
theorem dX12_shines_9 : decode cX12_shines 9 = .ok (.iconst 0, 1) := by decide +kernel
theorem dX12_shines_10 : decode cX12_shines 10 = .ok (.invokevirtual 146, 3) := by decide +kernel
theorem dX12_shines_13 : decode cX12_shines 13 = .ok (.tableswitch 89 1 6 #[39, 43, 49, 54, 43, 66], 39) := by decide +kernel
theorem dX12_shines_52 : decode cX12_shines 52 = .ok (.iconst 2, 1) := by decide +kernel
theorem dX12_shines_53 : decode cX12_shines 53 = .ok (.iload_n 2, 1) := by decide +kernel
theorem dX12_shines_54 : decode cX12_shines 54 = .ok (.imul, 1) := by decide +kernel
theorem dX12_shines_55 : decode cX12_shines 55 = .ok (.ireturn, 1) := by decide +kernel
theorem dX12_shines_56 : decode cX12_shines 56 = .ok (.iload_n 2, 1) := by decide +kernel
theorem dX12_shines_57 : decode cX12_shines 57 = .ok (.iload_n 3, 1) := by decide +kernel
theorem dX12_shines_58 : decode cX12_shines 58 = .ok (.iconst 2, 1) := by decide +kernel
theorem dX12_shines_59 : decode cX12_shines 59 = .ok (.irem, 1) := by decide +kernel
theorem dX12_shines_60 : decode cX12_shines 60 = .ok (.iadd, 1) := by decide +kernel
theorem dX12_shines_61 : decode cX12_shines 61 = .ok (.ireturn, 1) := by decide +kernel
theorem dX12_shines_62 : decode cX12_shines 62 = .ok (.bipush 9, 2) := by decide +kernel
theorem dX12_shines_64 : decode cX12_shines 64 = .ok (.iload_n 2, 1) := by decide +kernel
theorem dX12_shines_65 : decode cX12_shines 65 = .ok (.isub, 1) := by decide +kernel
theorem dX12_shines_66 : decode cX12_shines 66 = .ok (.ireturn, 1) := by decide +kernel
theorem dX12_shines_67 : decode cX12_shines 67 = .ok (.iconst 2, 1) := by decide +kernel
theorem dX12_shines_68 : decode cX12_shines 68 = .ok (.iload_n 2, 1) := by decide +kernel
theorem dX12_shines_69 : decode cX12_shines 69 = .ok (.imul, 1) := by decide +kernel
theorem dX12_shines_70 : decode cX12_shines 70 = .ok (.iconst 3, 1) := by decide +kernel
theorem dX12_shines_71 : decode cX12_shines 71 = .ok (.isub, 1) := by decide +kernel
theorem dX12_shines_72 : decode cX12_shines 72 = .ok (.iconst 0, 1) := by decide +kernel
theorem dX12_shines_73 : decode cX12_shines 73 = .ok (.bipush 99, 2) := by decide +kernel
theorem dX12_shines_75 : decode cX12_shines 75 = .ok (.invokestatic 139, 3) := by decide +kernel
theorem dX12_shines_78 : decode cX12_shines 78 = .ok (.ireturn, 1) := by decide +kernel
theorem dX12_shines_79 : decode cX12_shines 79 = .ok (.bipush 9, 2) := by decide +kernel
theorem dX12_shines_81 : decode cX12_shines 81 = .ok (.iload_n 2, 1) := by decide +kernel
theorem dX12_shines_82 : decode cX12_shines 82 = .ok (.isub, 1) := by decide +kernel
theorem dX12_shines_83 : decode cX12_shines 83 = .ok (.aload_n 0, 1) := by decide +kernel
theorem dX12_shines_84 : decode cX12_shines 84 = .ok (.getfield 7, 3) := by decide +kernel
theorem dX12_shines_87 : decode cX12_shines 87 = .ok (.iconst 1, 1) := by decide +kernel
theorem dX12_shines_88 : decode cX12_shines 88 = .ok (.iaload, 1) := by decide +kernel
theorem dX12_shines_89 : decode cX12_shines 89 = .ok (.iconst 2, 1) := by decide +kernel
theorem dX12_shines_90 : decode cX12_shines 90 = .ok (.irem, 1) := by decide +kernel
theorem dX12_shines_91 : decode cX12_shines 91 = .ok (.iconst 1, 1) := by decide +kernel
theorem dX12_shines_92 : decode cX12_shines 92 = .ok (.if_icmp .ne 7, 3) := by decide +kernel
theorem dX12_shines_95 : decode cX12_shines 95 = .ok (.iload_n 3, 1) := by decide +kernel
theorem dX12_shines_96 : decode cX12_shines 96 = .ok (.goto 4, 3) := by decide +kernel
theorem dX12_shines_99 : decode cX12_shines 99 = .ok (.iconst 0, 1) := by decide +kernel
theorem dX12_shines_100 : decode cX12_shines 100 = .ok (.iadd, 1) := by decide +kernel
theorem dX12_shines_101 : decode cX12_shines 101 = .ok (.ireturn, 1) := by decide +kernel
theorem dX12_shines_102 : decode cX12_shines 102 = .ok (.iload_n 2, 1) := by decide +kernel
theorem dX12_shines_103 : decode cX12_shines 103 = .ok (.ireturn, 1) := by decide +kernel
theorem dX12_needs_0 : decode cX12_needs 0 = .ok (.aload_n 0, 1) := by decide +kernel
theorem dX12_needs_1 : decode cX12_needs 1 = .ok (.iload_n 1, 1) := by decide +kernel
theorem dX12_needs_2 : decode cX12_needs 2 = .ok (.iconst 0, 1) := by decide +kernel
theorem dX12_needs_3 : decode cX12_needs 3 = .ok (.invokevirtual 146, 3) := by decide +kernel
theorem dX12_needs_6 : decode cX12_needs 6 = .ok (.tableswitch 57 1 6 #[38, 41, 43, 45, 48, 55], 38) := by decide +kernel
theorem dX12_needs_44 : decode cX12_needs 44 = .ok (.bipush 8, 2) := by decide +kernel
theorem dX12_needs_46 : decode cX12_needs 46 = .ok (.ireturn, 1) := by decide +kernel
theorem dX12_needs_47 : decode cX12_needs 47 = .ok (.iconst 3, 1) := by decide +kernel
theorem dX12_needs_48 : decode cX12_needs 48 = .ok (.ireturn, 1) := by decide +kernel
theorem dX12_needs_49 : decode cX12_needs 49 = .ok (.iconst 0, 1) := by decide +kernel
theorem dX12_needs_50 : decode cX12_needs 50 = .ok (.ireturn, 1) := by decide +kernel
theorem dX12_needs_51 : decode cX12_needs 51 = .ok (.bipush 9, 2) := by decide +kernel
theorem dX12_needs_53 : decode cX12_needs 53 = .ok (.ireturn, 1) := by decide +kernel
theorem dX12_needs_54 : decode cX12_needs 54 = .ok (.aload_n 0, 1) := by decide +kernel
theorem dX12_needs_55 : decode cX12_needs 55 = .ok (.iload_n 1, 1) := by decide +kernel
theorem dX12_needs_56 : decode cX12_needs 56 = .ok (.iconst 1, 1) := by decide +kernel
theorem dX12_needs_57 : decode cX12_needs 57 = .ok (.invokevirtual 146, 3) := by decide +kernel
theorem dX12_needs_60 : decode cX12_needs 60 = .ok (.ireturn, 1) := by decide +kernel
theorem dX12_needs_61 : decode cX12_needs 61 = .ok (.iconst 2, 1) := by decide +kernel
theorem dX12_needs_62 : decode cX12_needs 62 = .ok (.ireturn, 1) := by decide +kernel
theorem dX12_needs_63 : decode cX12_needs 63 = .ok (.iconst 5, 1) := by decide +kernel
theorem dX12_needs_64 : decode cX12_needs 64 = .ok (.ireturn, 1) := by decide +kernel
theorem dX12_sunOf_0 : decode cX12_sunOf 0 = .ok (.aload_n 0, 1) := by decide +kernel
theorem dX12_sunOf_1 : decode cX12_sunOf 1 = .ok (.getfield 7, 3) := by decide +kernel
theorem dX12_sunOf_4 : decode cX12_sunOf 4 = .ok (.bipush 8, 2) := by decide +kernel
theorem dX12_sunOf_6 : decode cX12_sunOf 6 = .ok (.aload_n 0, 1) := by decide +kernel
theorem dX12_sunOf_7 : decode cX12_sunOf 7 = .ok (.iload_n 1, 1) := by decide +kernel
theorem dX12_sunOf_8 : decode cX12_sunOf 8 = .ok (.invokevirtual 149, 3) := by decide +kernel
theorem dX12_sunOf_11 : decode cX12_sunOf 11 = .ok (.ifCond .eq 12, 3) := by decide +kernel
theorem dX12_sunOf_14 : decode cX12_sunOf 14 = .ok (.aload_n 0, 1) := by decide +kernel
theorem dX12_sunOf_15 : decode cX12_sunOf 15 = .ok (.iload_n 1, 1) := by decide +kernel
theorem dX12_sunOf_16 : decode cX12_sunOf 16 = .ok (.iconst 4, 1) := by decide +kernel
theorem dX12_sunOf_17 : decode cX12_sunOf 17 = .ok (.invokevirtual 146, 3) := by decide +kernel
theorem dX12_sunOf_20 : decode cX12_sunOf 20 = .ok (.goto 9, 3) := by decide +kernel
theorem dX12_sunOf_23 : decode cX12_sunOf 23 = .ok (.aload_n 0, 1) := by decide +kernel
theorem dX12_sunOf_24 : decode cX12_sunOf 24 = .ok (.iload_n 1, 1) := by decide +kernel
theorem dX12_sunOf_25 : decode cX12_sunOf 25 = .ok (.iconst 2, 1) := by decide +kernel
theorem dX12_sunOf_26 : decode cX12_sunOf 26 = .ok (.invokevirtual 146, 3) := by decide +kernel
theorem dX12_sunOf_29 : decode cX12_sunOf 29 = .ok (.iadd, 1) := by decide +kernel
theorem dX12_sunOf_30 : decode cX12_sunOf 30 = .ok (.iaload, 1) := by decide +kernel
theorem dX12_sunOf_31 : decode cX12_sunOf 31 = .ok (.ireturn, 1) := by decide +kernel
theorem dX12_isContent_0 : decode cX12_isContent 0 = .ok (.aload_n 0, 1) := by decide +kernel
theorem dX12_isContent_1 : decode cX12_isContent 1 = .ok (.iload_n 1, 1) := by decide +kernel
theorem dX12_isContent_2 : decode cX12_isContent 2 = .ok (.invokevirtual 149, 3) := by decide +kernel
theorem dX12_isContent_5 : decode cX12_isContent 5 = .ok (.ifCond .eq 35, 3) := by decide +kernel
theorem dX12_isContent_8 : decode cX12_isContent 8 = .ok (.aload_n 0, 1) := by decide +kernel
theorem dX12_isContent_9 : decode cX12_isContent 9 = .ok (.iload_n 1, 1) := by decide +kernel
theorem dX12_isContent_10 : decode cX12_isContent 10 = .ok (.iconst 4, 1) := by decide +kernel
theorem dX12_isContent_11 : decode cX12_isContent 11 = .ok (.invokevirtual 146, 3) := by decide +kernel
theorem dX12_isContent_14 : decode cX12_isContent 14 = .ok (.aload_n 0, 1) := by decide +kernel
theorem dX12_isContent_15 : decode cX12_isContent 15 = .ok (.iload_n 1, 1) := by decide +kernel
theorem dX12_isContent_16 : decode cX12_isContent 16 = .ok (.iconst 2, 1) := by decide +kernel
theorem dX12_isContent_17 : decode cX12_isContent 17 = .ok (.invokevirtual 146, 3) := by decide +kernel
theorem dX12_isContent_20 : decode cX12_isContent 20 = .ok (.if_icmp .eq 16, 3) := by decide +kernel
theorem dX12_isContent_23 : decode cX12_isContent 23 = .ok (.aload_n 0, 1) := by decide +kernel
theorem dX12_isContent_24 : decode cX12_isContent 24 = .ok (.iload_n 1, 1) := by decide +kernel
theorem dX12_isContent_25 : decode cX12_isContent 25 = .ok (.invokevirtual 152, 3) := by decide +kernel
theorem dX12_isContent_28 : decode cX12_isContent 28 = .ok (.aload_n 0, 1) := by decide +kernel
theorem dX12_isContent_29 : decode cX12_isContent 29 = .ok (.iload_n 1, 1) := by decide +kernel
theorem dX12_isContent_30 : decode cX12_isContent 30 = .ok (.invokevirtual 155, 3) := by decide +kernel
theorem dX12_isContent_33 : decode cX12_isContent 33 = .ok (.if_icmp .lt 7, 3) := by decide +kernel
theorem dX12_isContent_36 : decode cX12_isContent 36 = .ok (.iconst 1, 1) := by decide +kernel
theorem dX12_isContent_37 : decode cX12_isContent 37 = .ok (.goto 4, 3) := by decide +kernel
theorem dX12_isContent_40 : decode cX12_isContent 40 = .ok (.iconst 0, 1) := by decide +kernel
theorem dX12_isContent_41 : decode cX12_isContent 41 = .ok (.ireturn, 1) := by decide +kernel
theorem dX12_dusts_0 : decode cX12_dusts 0 = .ok (.iconst 0, 1) := by decide +kernel
theorem dX12_dusts_1 : decode cX12_dusts 1 = .ok (.istore_n 1, 1) := by decide +kernel
theorem dX12_dusts_2 : decode cX12_dusts 2 = .ok (.iconst 0, 1) := by decide +kernel
theorem dX12_dusts_3 : decode cX12_dusts 3 = .ok (.istore_n 2, 1) := by decide +kernel
theorem dX12_dusts_4 : decode cX12_dusts 4 = .ok (.iload_n 2, 1) := by decide +kernel
theorem dX12_dusts_5 : decode cX12_dusts 5 = .ok (.aload_n 0, 1) := by decide +kernel
theorem dX12_dusts_6 : decode cX12_dusts 6 = .ok (.getfield 7, 3) := by decide +kernel
theorem dX12_dusts_9 : decode cX12_dusts 9 = .ok (.iconst 0, 1) := by decide +kernel
theorem dX12_dusts_10 : decode cX12_dusts 10 = .ok (.iaload, 1) := by decide +kernel
theorem dX12_dusts_11 : decode cX12_dusts 11 = .ok (.if_icmp .ge 25, 3) := by decide +kernel
theorem dX12_dusts_14 : decode cX12_dusts 14 = .ok (.iload_n 1, 1) := by decide +kernel
theorem dX12_dusts_15 : decode cX12_dusts 15 = .ok (.aload_n 0, 1) := by decide +kernel
theorem dX12_dusts_16 : decode cX12_dusts 16 = .ok (.iload_n 2, 1) := by decide +kernel
theorem dX12_dusts_17 : decode cX12_dusts 17 = .ok (.invokevirtual 149, 3) := by decide +kernel
theorem dX12_dusts_20 : decode cX12_dusts 20 = .ok (.ifCond .eq 7, 3) := by decide +kernel
theorem dX12_dusts_23 : decode cX12_dusts 23 = .ok (.iconst 1, 1) := by decide +kernel
theorem dX12_dusts_24 : decode cX12_dusts 24 = .ok (.goto 4, 3) := by decide +kernel
theorem dX12_dusts_27 : decode cX12_dusts 27 = .ok (.iconst 0, 1) := by decide +kernel
theorem dX12_dusts_28 : decode cX12_dusts 28 = .ok (.iadd, 1) := by decide +kernel
theorem dX12_dusts_29 : decode cX12_dusts 29 = .ok (.istore_n 1, 1) := by decide +kernel
theorem dX12_dusts_30 : decode cX12_dusts 30 = .ok (.iinc 2 1, 3) := by decide +kernel
theorem dX12_dusts_33 : decode cX12_dusts 33 = .ok (.goto (-29), 3) := by decide +kernel
theorem dX12_dusts_36 : decode cX12_dusts 36 = .ok (.iload_n 1, 1) := by decide +kernel
theorem dX12_dusts_37 : decode cX12_dusts 37 = .ok (.ireturn, 1) := by decide +kernel
theorem dX12_dayGoes_0 : decode cX12_dayGoes 0 = .ok (.aload_n 0, 1) := by decide +kernel
theorem dX12_dayGoes_1 : decode cX12_dayGoes 1 = .ok (.iconst 0, 1) := by decide +kernel
theorem dX12_dayGoes_2 : decode cX12_dayGoes 2 = .ok (.aload_n 0, 1) := by decide +kernel
theorem dX12_dayGoes_3 : decode cX12_dayGoes 3 = .ok (.getfield 7, 3) := by decide +kernel
theorem dX12_dayGoes_6 : decode cX12_dayGoes 6 = .ok (.iconst 2, 1) := by decide +kernel
theorem dX12_dayGoes_7 : decode cX12_dayGoes 7 = .ok (.iaload, 1) := by decide +kernel
theorem dX12_dayGoes_8 : decode cX12_dayGoes 8 = .ok (.aload_n 0, 1) := by decide +kernel
theorem dX12_dayGoes_9 : decode cX12_dayGoes 9 = .ok (.getfield 7, 3) := by decide +kernel
theorem dX12_dayGoes_12 : decode cX12_dayGoes 12 = .ok (.iconst 1, 1) := by decide +kernel
theorem dX12_dayGoes_13 : decode cX12_dayGoes 13 = .ok (.iaload, 1) := by decide +kernel
theorem dX12_dayGoes_14 : decode cX12_dayGoes 14 = .ok (.bipush 24, 2) := by decide +kernel
theorem dX12_dayGoes_16 : decode cX12_dayGoes 16 = .ok (.irem, 1) := by decide +kernel
theorem dX12_dayGoes_17 : decode cX12_dayGoes 17 = .ok (.aload_n 0, 1) := by decide +kernel
theorem dX12_dayGoes_18 : decode cX12_dayGoes 18 = .ok (.invokevirtual 158, 3) := by decide +kernel
theorem dX12_dayGoes_21 : decode cX12_dayGoes 21 = .ok (.invokevirtual 142, 3) := by decide +kernel
theorem dX12_dayGoes_24 : decode cX12_dayGoes 24 = .ok (.istore_n 1, 1) := by decide +kernel
theorem dX12_dayGoes_25 : decode cX12_dayGoes 25 = .ok (.iconst 0, 1) := by decide +kernel
theorem dX12_dayGoes_26 : decode cX12_dayGoes 26 = .ok (.istore_n 2, 1) := by decide +kernel
theorem dX12_dayGoes_27 : decode cX12_dayGoes 27 = .ok (.iload_n 2, 1) := by decide +kernel
theorem dX12_dayGoes_28 : decode cX12_dayGoes 28 = .ok (.aload_n 0, 1) := by decide +kernel
theorem dX12_dayGoes_29 : decode cX12_dayGoes 29 = .ok (.getfield 7, 3) := by decide +kernel
theorem dX12_dayGoes_32 : decode cX12_dayGoes 32 = .ok (.iconst 0, 1) := by decide +kernel
theorem dX12_dayGoes_33 : decode cX12_dayGoes 33 = .ok (.iaload, 1) := by decide +kernel
theorem dX12_dayGoes_34 : decode cX12_dayGoes 34 = .ok (.if_icmp .ge 54, 3) := by decide +kernel
theorem dX12_dayGoes_37 : decode cX12_dayGoes 37 = .ok (.aload_n 0, 1) := by decide +kernel
theorem dX12_dayGoes_38 : decode cX12_dayGoes 38 = .ok (.iload_n 2, 1) := by decide +kernel
theorem dX12_dayGoes_39 : decode cX12_dayGoes 39 = .ok (.invokevirtual 149, 3) := by decide +kernel
theorem dX12_dayGoes_42 : decode cX12_dayGoes 42 = .ok (.ifCond .eq 40, 3) := by decide +kernel
theorem dX12_dayGoes_45 : decode cX12_dayGoes 45 = .ok (.aload_n 0, 1) := by decide +kernel
theorem dX12_dayGoes_46 : decode cX12_dayGoes 46 = .ok (.iload_n 2, 1) := by decide +kernel
theorem dX12_dayGoes_47 : decode cX12_dayGoes 47 = .ok (.iload_n 1, 1) := by decide +kernel
theorem dX12_dayGoes_48 : decode cX12_dayGoes 48 = .ok (.invokevirtual 161, 3) := by decide +kernel
theorem dX12_dayGoes_51 : decode cX12_dayGoes 51 = .ok (.istore_n 3, 1) := by decide +kernel
theorem dX12_dayGoes_52 : decode cX12_dayGoes 52 = .ok (.iload_n 3, 1) := by decide +kernel
theorem dX12_dayGoes_53 : decode cX12_dayGoes 53 = .ok (.ifCond .le 29, 3) := by decide +kernel
theorem dX12_dayGoes_56 : decode cX12_dayGoes 56 = .ok (.aload_n 0, 1) := by decide +kernel
theorem dX12_dayGoes_57 : decode cX12_dayGoes 57 = .ok (.iload_n 2, 1) := by decide +kernel
theorem dX12_dayGoes_58 : decode cX12_dayGoes 58 = .ok (.iconst 4, 1) := by decide +kernel
theorem dX12_dayGoes_59 : decode cX12_dayGoes 59 = .ok (.aload_n 0, 1) := by decide +kernel
theorem dX12_dayGoes_60 : decode cX12_dayGoes 60 = .ok (.getfield 7, 3) := by decide +kernel
theorem dX12_dayGoes_63 : decode cX12_dayGoes 63 = .ok (.bipush 24, 2) := by decide +kernel
theorem dX12_dayGoes_65 : decode cX12_dayGoes 65 = .ok (.aload_n 0, 1) := by decide +kernel
theorem dX12_dayGoes_66 : decode cX12_dayGoes 66 = .ok (.iload_n 2, 1) := by decide +kernel
theorem dX12_dayGoes_67 : decode cX12_dayGoes 67 = .ok (.iconst 4, 1) := by decide +kernel
theorem dX12_dayGoes_68 : decode cX12_dayGoes 68 = .ok (.invokevirtual 146, 3) := by decide +kernel
theorem dX12_dayGoes_71 : decode cX12_dayGoes 71 = .ok (.iadd, 1) := by decide +kernel
theorem dX12_dayGoes_72 : decode cX12_dayGoes 72 = .ok (.iaload, 1) := by decide +kernel
theorem dX12_dayGoes_73 : decode cX12_dayGoes 73 = .ok (.invokevirtual 164, 3) := by decide +kernel
theorem dX12_dayGoes_76 : decode cX12_dayGoes 76 = .ok (.iinc 3 (-1), 3) := by decide +kernel
theorem dX12_dayGoes_79 : decode cX12_dayGoes 79 = .ok (.goto (-27), 3) := by decide +kernel
theorem dX12_dayGoes_82 : decode cX12_dayGoes 82 = .ok (.iinc 2 1, 3) := by decide +kernel
theorem dX12_dayGoes_85 : decode cX12_dayGoes 85 = .ok (.goto (-58), 3) := by decide +kernel
theorem dX12_dayGoes_88 : decode cX12_dayGoes 88 = .ok (.iconst 0, 1) := by decide +kernel
theorem dX12_dayGoes_89 : decode cX12_dayGoes 89 = .ok (.istore_n 2, 1) := by decide +kernel
theorem dX12_dayGoes_90 : decode cX12_dayGoes 90 = .ok (.iload_n 2, 1) := by decide +kernel
theorem dX12_dayGoes_91 : decode cX12_dayGoes 91 = .ok (.aload_n 0, 1) := by decide +kernel
theorem dX12_dayGoes_92 : decode cX12_dayGoes 92 = .ok (.getfield 7, 3) := by decide +kernel
theorem dX12_dayGoes_95 : decode cX12_dayGoes 95 = .ok (.iconst 0, 1) := by decide +kernel
theorem dX12_dayGoes_96 : decode cX12_dayGoes 96 = .ok (.iaload, 1) := by decide +kernel
theorem dX12_dayGoes_97 : decode cX12_dayGoes 97 = .ok (.if_icmp .ge 57, 3) := by decide +kernel
theorem dX12_dayGoes_100 : decode cX12_dayGoes 100 = .ok (.aload_n 0, 1) := by decide +kernel
theorem dX12_dayGoes_101 : decode cX12_dayGoes 101 = .ok (.iload_n 2, 1) := by decide +kernel
theorem dX12_dayGoes_102 : decode cX12_dayGoes 102 = .ok (.iconst 4, 1) := by decide +kernel
theorem dX12_dayGoes_103 : decode cX12_dayGoes 103 = .ok (.invokevirtual 146, 3) := by decide +kernel
theorem dX12_dayGoes_106 : decode cX12_dayGoes 106 = .ok (.iconst (-1), 1) := by decide +kernel
theorem dX12_dayGoes_107 : decode cX12_dayGoes 107 = .ok (.if_icmp .ne 41, 3) := by decide +kernel
theorem dX12_dayGoes_110 : decode cX12_dayGoes 110 = .ok (.aload_n 0, 1) := by decide +kernel
theorem dX12_dayGoes_111 : decode cX12_dayGoes 111 = .ok (.iload_n 2, 1) := by decide +kernel
theorem dX12_dayGoes_112 : decode cX12_dayGoes 112 = .ok (.iconst 3, 1) := by decide +kernel
theorem dX12_dayGoes_113 : decode cX12_dayGoes 113 = .ok (.aload_n 0, 1) := by decide +kernel
theorem dX12_dayGoes_114 : decode cX12_dayGoes 114 = .ok (.iload_n 2, 1) := by decide +kernel
theorem dX12_dayGoes_115 : decode cX12_dayGoes 115 = .ok (.iconst 3, 1) := by decide +kernel
theorem dX12_dayGoes_116 : decode cX12_dayGoes 116 = .ok (.invokevirtual 146, 3) := by decide +kernel
theorem dX12_dayGoes_119 : decode cX12_dayGoes 119 = .ok (.iconst 1, 1) := by decide +kernel
theorem dX12_dayGoes_120 : decode cX12_dayGoes 120 = .ok (.isub, 1) := by decide +kernel
theorem dX12_dayGoes_121 : decode cX12_dayGoes 121 = .ok (.invokevirtual 164, 3) := by decide +kernel
theorem dX12_dayGoes_124 : decode cX12_dayGoes 124 = .ok (.aload_n 0, 1) := by decide +kernel
theorem dX12_dayGoes_125 : decode cX12_dayGoes 125 = .ok (.iload_n 2, 1) := by decide +kernel
theorem dX12_dayGoes_126 : decode cX12_dayGoes 126 = .ok (.iconst 4, 1) := by decide +kernel
theorem dX12_dayGoes_127 : decode cX12_dayGoes 127 = .ok (.aload_n 0, 1) := by decide +kernel
theorem dX12_dayGoes_128 : decode cX12_dayGoes 128 = .ok (.iload_n 2, 1) := by decide +kernel
theorem dX12_dayGoes_129 : decode cX12_dayGoes 129 = .ok (.invokevirtual 149, 3) := by decide +kernel
theorem dX12_dayGoes_132 : decode cX12_dayGoes 132 = .ok (.ifCond .eq 12, 3) := by decide +kernel
theorem dX12_dayGoes_135 : decode cX12_dayGoes 135 = .ok (.aload_n 0, 1) := by decide +kernel
theorem dX12_dayGoes_136 : decode cX12_dayGoes 136 = .ok (.iload_n 2, 1) := by decide +kernel
theorem dX12_dayGoes_137 : decode cX12_dayGoes 137 = .ok (.iconst 2, 1) := by decide +kernel
theorem dX12_dayGoes_138 : decode cX12_dayGoes 138 = .ok (.invokevirtual 146, 3) := by decide +kernel
theorem dX12_dayGoes_141 : decode cX12_dayGoes 141 = .ok (.goto 4, 3) := by decide +kernel
theorem dX12_dayGoes_144 : decode cX12_dayGoes 144 = .ok (.iconst (-1), 1) := by decide +kernel
theorem dX12_dayGoes_145 : decode cX12_dayGoes 145 = .ok (.invokevirtual 164, 3) := by decide +kernel
theorem dX12_dayGoes_148 : decode cX12_dayGoes 148 = .ok (.iinc 2 1, 3) := by decide +kernel
theorem dX12_dayGoes_151 : decode cX12_dayGoes 151 = .ok (.goto (-61), 3) := by decide +kernel
theorem dX12_dayGoes_154 : decode cX12_dayGoes 154 = .ok (.iconst 0, 1) := by decide +kernel
theorem dX12_dayGoes_155 : decode cX12_dayGoes 155 = .ok (.istore_n 2, 1) := by decide +kernel
theorem dX12_dayGoes_156 : decode cX12_dayGoes 156 = .ok (.iload_n 2, 1) := by decide +kernel
theorem dX12_dayGoes_157 : decode cX12_dayGoes 157 = .ok (.aload_n 0, 1) := by decide +kernel
theorem dX12_dayGoes_158 : decode cX12_dayGoes 158 = .ok (.getfield 7, 3) := by decide +kernel
theorem dX12_dayGoes_161 : decode cX12_dayGoes 161 = .ok (.iconst 0, 1) := by decide +kernel
theorem dX12_dayGoes_162 : decode cX12_dayGoes 162 = .ok (.iaload, 1) := by decide +kernel
theorem dX12_dayGoes_163 : decode cX12_dayGoes 163 = .ok (.if_icmp .ge 88, 3) := by decide +kernel
theorem dX12_dayGoes_166 : decode cX12_dayGoes 166 = .ok (.aload_n 0, 1) := by decide +kernel
theorem dX12_dayGoes_167 : decode cX12_dayGoes 167 = .ok (.iload_n 2, 1) := by decide +kernel
theorem dX12_dayGoes_168 : decode cX12_dayGoes 168 = .ok (.invokevirtual 149, 3) := by decide +kernel
theorem dX12_dayGoes_171 : decode cX12_dayGoes 171 = .ok (.ifCond .eq 74, 3) := by decide +kernel
theorem dX12_dayGoes_174 : decode cX12_dayGoes 174 = .ok (.aload_n 0, 1) := by decide +kernel
theorem dX12_dayGoes_175 : decode cX12_dayGoes 175 = .ok (.iconst 1, 1) := by decide +kernel
theorem dX12_dayGoes_176 : decode cX12_dayGoes 176 = .ok (.aload_n 0, 1) := by decide +kernel
theorem dX12_dayGoes_177 : decode cX12_dayGoes 177 = .ok (.iload_n 2, 1) := by decide +kernel
theorem dX12_dayGoes_178 : decode cX12_dayGoes 178 = .ok (.aload_n 0, 1) := by decide +kernel
theorem dX12_dayGoes_179 : decode cX12_dayGoes 179 = .ok (.iload_n 2, 1) := by decide +kernel
theorem dX12_dayGoes_180 : decode cX12_dayGoes 180 = .ok (.invokevirtual 152, 3) := by decide +kernel
theorem dX12_dayGoes_183 : decode cX12_dayGoes 183 = .ok (.invokevirtual 167, 3) := by decide +kernel
theorem dX12_dayGoes_186 : decode cX12_dayGoes 186 = .ok (.aload_n 0, 1) := by decide +kernel
theorem dX12_dayGoes_187 : decode cX12_dayGoes 187 = .ok (.iload_n 2, 1) := by decide +kernel
theorem dX12_dayGoes_188 : decode cX12_dayGoes 188 = .ok (.invokevirtual 152, 3) := by decide +kernel
theorem dX12_dayGoes_191 : decode cX12_dayGoes 191 = .ok (.aload_n 0, 1) := by decide +kernel
theorem dX12_dayGoes_192 : decode cX12_dayGoes 192 = .ok (.getfield 7, 3) := by decide +kernel
theorem dX12_dayGoes_195 : decode cX12_dayGoes 195 = .ok (.iconst 1, 1) := by decide +kernel
theorem dX12_dayGoes_196 : decode cX12_dayGoes 196 = .ok (.iaload, 1) := by decide +kernel
theorem dX12_dayGoes_197 : decode cX12_dayGoes 197 = .ok (.bipush 24, 2) := by decide +kernel
theorem dX12_dayGoes_199 : decode cX12_dayGoes 199 = .ok (.irem, 1) := by decide +kernel
theorem dX12_dayGoes_200 : decode cX12_dayGoes 200 = .ok (.invokevirtual 142, 3) := by decide +kernel
theorem dX12_dayGoes_203 : decode cX12_dayGoes 203 = .ok (.istore_n 3, 1) := by decide +kernel
theorem dX12_dayGoes_204 : decode cX12_dayGoes 204 = .ok (.aload_n 0, 1) := by decide +kernel
theorem dX12_dayGoes_205 : decode cX12_dayGoes 205 = .ok (.iload_n 2, 1) := by decide +kernel
theorem dX12_dayGoes_206 : decode cX12_dayGoes 206 = .ok (.iconst 5, 1) := by decide +kernel
theorem dX12_dayGoes_207 : decode cX12_dayGoes 207 = .ok (.aload_n 0, 1) := by decide +kernel
theorem dX12_dayGoes_208 : decode cX12_dayGoes 208 = .ok (.iload_n 2, 1) := by decide +kernel
theorem dX12_dayGoes_209 : decode cX12_dayGoes 209 = .ok (.iconst 5, 1) := by decide +kernel
theorem dX12_dayGoes_210 : decode cX12_dayGoes 210 = .ok (.invokevirtual 146, 3) := by decide +kernel
theorem dX12_dayGoes_213 : decode cX12_dayGoes 213 = .ok (.iload_n 3, 1) := by decide +kernel
theorem dX12_dayGoes_214 : decode cX12_dayGoes 214 = .ok (.iadd, 1) := by decide +kernel
theorem dX12_dayGoes_215 : decode cX12_dayGoes 215 = .ok (.iconst 0, 1) := by decide +kernel
theorem dX12_dayGoes_216 : decode cX12_dayGoes 216 = .ok (.sipush 9999, 3) := by decide +kernel
theorem dX12_dayGoes_219 : decode cX12_dayGoes 219 = .ok (.invokestatic 139, 3) := by decide +kernel
theorem dX12_dayGoes_222 : decode cX12_dayGoes 222 = .ok (.invokevirtual 164, 3) := by decide +kernel
theorem dX12_dayGoes_225 : decode cX12_dayGoes 225 = .ok (.aload_n 0, 1) := by decide +kernel
theorem dX12_dayGoes_226 : decode cX12_dayGoes 226 = .ok (.getfield 7, 3) := by decide +kernel
theorem dX12_dayGoes_229 : decode cX12_dayGoes 229 = .ok (.iconst 4, 1) := by decide +kernel
theorem dX12_dayGoes_230 : decode cX12_dayGoes 230 = .ok (.aload_n 0, 1) := by decide +kernel
theorem dX12_dayGoes_231 : decode cX12_dayGoes 231 = .ok (.getfield 7, 3) := by decide +kernel
theorem dX12_dayGoes_234 : decode cX12_dayGoes 234 = .ok (.iconst 4, 1) := by decide +kernel
theorem dX12_dayGoes_235 : decode cX12_dayGoes 235 = .ok (.iaload, 1) := by decide +kernel
theorem dX12_dayGoes_236 : decode cX12_dayGoes 236 = .ok (.iload_n 3, 1) := by decide +kernel
theorem dX12_dayGoes_237 : decode cX12_dayGoes 237 = .ok (.iadd, 1) := by decide +kernel
theorem dX12_dayGoes_238 : decode cX12_dayGoes 238 = .ok (.iconst 0, 1) := by decide +kernel
theorem dX12_dayGoes_239 : decode cX12_dayGoes 239 = .ok (.ldc 170, 2) := by decide +kernel
theorem dX12_dayGoes_241 : decode cX12_dayGoes 241 = .ok (.invokestatic 139, 3) := by decide +kernel
theorem dX12_dayGoes_244 : decode cX12_dayGoes 244 = .ok (.iastore, 1) := by decide +kernel
theorem dX12_dayGoes_245 : decode cX12_dayGoes 245 = .ok (.iinc 2 1, 3) := by decide +kernel
theorem dX12_dayGoes_248 : decode cX12_dayGoes 248 = .ok (.goto (-92), 3) := by decide +kernel
theorem dX12_dayGoes_251 : decode cX12_dayGoes 251 = .ok (.aload_n 0, 1) := by decide +kernel
theorem dX12_dayGoes_252 : decode cX12_dayGoes 252 = .ok (.getfield 7, 3) := by decide +kernel
theorem dX12_dayGoes_255 : decode cX12_dayGoes 255 = .ok (.iconst 1, 1) := by decide +kernel
theorem dX12_dayGoes_256 : decode cX12_dayGoes 256 = .ok (.dup2, 1) := by decide +kernel
theorem dX12_dayGoes_257 : decode cX12_dayGoes 257 = .ok (.iaload, 1) := by decide +kernel
theorem dX12_dayGoes_258 : decode cX12_dayGoes 258 = .ok (.iconst 1, 1) := by decide +kernel
theorem dX12_dayGoes_259 : decode cX12_dayGoes 259 = .ok (.iadd, 1) := by decide +kernel
theorem dX12_dayGoes_260 : decode cX12_dayGoes 260 = .ok (.iastore, 1) := by decide +kernel
theorem dX12_dayGoes_261 : decode cX12_dayGoes 261 = .ok (.aload_n 0, 1) := by decide +kernel
theorem dX12_dayGoes_262 : decode cX12_dayGoes 262 = .ok (.getfield 7, 3) := by decide +kernel
theorem dX12_dayGoes_265 : decode cX12_dayGoes 265 = .ok (.iconst 1, 1) := by decide +kernel
theorem dX12_dayGoes_266 : decode cX12_dayGoes 266 = .ok (.iaload, 1) := by decide +kernel
theorem dX12_dayGoes_267 : decode cX12_dayGoes 267 = .ok (.aload_n 0, 1) := by decide +kernel
theorem dX12_dayGoes_268 : decode cX12_dayGoes 268 = .ok (.getfield 7, 3) := by decide +kernel
theorem dX12_dayGoes_271 : decode cX12_dayGoes 271 = .ok (.iconst 3, 1) := by decide +kernel
theorem dX12_dayGoes_272 : decode cX12_dayGoes 272 = .ok (.iaload, 1) := by decide +kernel
theorem dX12_dayGoes_273 : decode cX12_dayGoes 273 = .ok (.irem, 1) := by decide +kernel
theorem dX12_dayGoes_274 : decode cX12_dayGoes 274 = .ok (.ifCond .ne 49, 3) := by decide +kernel
theorem dX12_dayGoes_277 : decode cX12_dayGoes 277 = .ok (.iconst 0, 1) := by decide +kernel
theorem dX12_dayGoes_278 : decode cX12_dayGoes 278 = .ok (.istore_n 2, 1) := by decide +kernel
theorem dX12_dayGoes_279 : decode cX12_dayGoes 279 = .ok (.iload_n 2, 1) := by decide +kernel
theorem dX12_dayGoes_280 : decode cX12_dayGoes 280 = .ok (.aload_n 0, 1) := by decide +kernel
theorem dX12_dayGoes_281 : decode cX12_dayGoes 281 = .ok (.getfield 7, 3) := by decide +kernel
theorem dX12_dayGoes_284 : decode cX12_dayGoes 284 = .ok (.iconst 0, 1) := by decide +kernel
theorem dX12_dayGoes_285 : decode cX12_dayGoes 285 = .ok (.iaload, 1) := by decide +kernel
theorem dX12_dayGoes_286 : decode cX12_dayGoes 286 = .ok (.if_icmp .ge 37, 3) := by decide +kernel
theorem dX12_dayGoes_289 : decode cX12_dayGoes 289 = .ok (.aload_n 0, 1) := by decide +kernel
theorem dX12_dayGoes_290 : decode cX12_dayGoes 290 = .ok (.iload_n 2, 1) := by decide +kernel
theorem dX12_dayGoes_291 : decode cX12_dayGoes 291 = .ok (.invokevirtual 149, 3) := by decide +kernel
theorem dX12_dayGoes_294 : decode cX12_dayGoes 294 = .ok (.ifCond .eq 23, 3) := by decide +kernel
theorem dX12_dayGoes_297 : decode cX12_dayGoes 297 = .ok (.aload_n 0, 1) := by decide +kernel
theorem dX12_dayGoes_298 : decode cX12_dayGoes 298 = .ok (.iload_n 2, 1) := by decide +kernel
theorem dX12_dayGoes_299 : decode cX12_dayGoes 299 = .ok (.invokevirtual 152, 3) := by decide +kernel
theorem dX12_dayGoes_302 : decode cX12_dayGoes 302 = .ok (.ifCond .ne 15, 3) := by decide +kernel
theorem dX12_dayGoes_305 : decode cX12_dayGoes 305 = .ok (.aload_n 0, 1) := by decide +kernel
theorem dX12_dayGoes_306 : decode cX12_dayGoes 306 = .ok (.iload_n 2, 1) := by decide +kernel
theorem dX12_dayGoes_307 : decode cX12_dayGoes 307 = .ok (.iconst 4, 1) := by decide +kernel
theorem dX12_dayGoes_308 : decode cX12_dayGoes 308 = .ok (.aload_n 0, 1) := by decide +kernel
theorem dX12_dayGoes_309 : decode cX12_dayGoes 309 = .ok (.iload_n 2, 1) := by decide +kernel
theorem dX12_dayGoes_310 : decode cX12_dayGoes 310 = .ok (.iconst 2, 1) := by decide +kernel
theorem dX12_dayGoes_311 : decode cX12_dayGoes 311 = .ok (.invokevirtual 146, 3) := by decide +kernel
theorem dX12_dayGoes_314 : decode cX12_dayGoes 314 = .ok (.invokevirtual 164, 3) := by decide +kernel
theorem dX12_dayGoes_317 : decode cX12_dayGoes 317 = .ok (.iinc 2 1, 3) := by decide +kernel
theorem dX12_dayGoes_320 : decode cX12_dayGoes 320 = .ok (.goto (-41), 3) := by decide +kernel
theorem dX12_dayGoes_323 : decode cX12_dayGoes 323 = .ok (.return_, 1) := by decide +kernel
theorem dX12_daysGo_0 : decode cX12_daysGo 0 = .ok (.iconst 0, 1) := by decide +kernel
theorem dX12_daysGo_1 : decode cX12_daysGo 1 = .ok (.istore_n 2, 1) := by decide +kernel
theorem dX12_daysGo_2 : decode cX12_daysGo 2 = .ok (.iload_n 2, 1) := by decide +kernel
theorem dX12_daysGo_3 : decode cX12_daysGo 3 = .ok (.iload_n 1, 1) := by decide +kernel
theorem dX12_daysGo_4 : decode cX12_daysGo 4 = .ok (.if_icmp .ge 13, 3) := by decide +kernel
theorem dX12_daysGo_7 : decode cX12_daysGo 7 = .ok (.aload_n 0, 1) := by decide +kernel
theorem dX12_daysGo_8 : decode cX12_daysGo 8 = .ok (.invokevirtual 171, 3) := by decide +kernel
theorem dX12_daysGo_11 : decode cX12_daysGo 11 = .ok (.iinc 2 1, 3) := by decide +kernel
theorem dX12_daysGo_14 : decode cX12_daysGo 14 = .ok (.goto (-12), 3) := by decide +kernel
theorem dX12_daysGo_17 : decode cX12_daysGo 17 = .ok (.return_, 1) := by decide +kernel
theorem dX12_lying_0 : decode cX12_lying 0 = .ok (.iconst 0, 1) := by decide +kernel
theorem dX12_lying_1 : decode cX12_lying 1 = .ok (.istore_n 2, 1) := by decide +kernel
theorem dX12_lying_2 : decode cX12_lying 2 = .ok (.iconst 0, 1) := by decide +kernel
theorem dX12_lying_3 : decode cX12_lying 3 = .ok (.istore_n 3, 1) := by decide +kernel
theorem dX12_lying_4 : decode cX12_lying 4 = .ok (.iload_n 3, 1) := by decide +kernel
theorem dX12_lying_5 : decode cX12_lying 5 = .ok (.aload_n 0, 1) := by decide +kernel
theorem dX12_lying_6 : decode cX12_lying 6 = .ok (.getfield 7, 3) := by decide +kernel
theorem dX12_lying_9 : decode cX12_lying 9 = .ok (.iconst 0, 1) := by decide +kernel
theorem dX12_lying_10 : decode cX12_lying 10 = .ok (.iaload, 1) := by decide +kernel
theorem dX12_lying_11 : decode cX12_lying 11 = .ok (.if_icmp .ge 29, 3) := by decide +kernel
theorem dX12_lying_14 : decode cX12_lying 14 = .ok (.iload_n 2, 1) := by decide +kernel
theorem dX12_lying_15 : decode cX12_lying 15 = .ok (.aload_n 0, 1) := by decide +kernel
theorem dX12_lying_16 : decode cX12_lying 16 = .ok (.iload_n 3, 1) := by decide +kernel
theorem dX12_lying_17 : decode cX12_lying 17 = .ok (.iconst 4, 1) := by decide +kernel
theorem dX12_lying_18 : decode cX12_lying 18 = .ok (.invokevirtual 146, 3) := by decide +kernel
theorem dX12_lying_21 : decode cX12_lying 21 = .ok (.iload_n 1, 1) := by decide +kernel
theorem dX12_lying_22 : decode cX12_lying 22 = .ok (.if_icmp .ne 9, 3) := by decide +kernel
theorem dX12_lying_25 : decode cX12_lying 25 = .ok (.iconst 1, 1) := by decide +kernel
theorem dX12_lying_26 : decode cX12_lying 26 = .ok (.iload_n 3, 1) := by decide +kernel
theorem dX12_lying_27 : decode cX12_lying 27 = .ok (.ishl, 1) := by decide +kernel
theorem dX12_lying_28 : decode cX12_lying 28 = .ok (.goto 4, 3) := by decide +kernel
theorem dX12_lying_31 : decode cX12_lying 31 = .ok (.iconst 0, 1) := by decide +kernel
theorem dX12_lying_32 : decode cX12_lying 32 = .ok (.ior, 1) := by decide +kernel
theorem dX12_lying_33 : decode cX12_lying 33 = .ok (.istore_n 2, 1) := by decide +kernel
theorem dX12_lying_34 : decode cX12_lying 34 = .ok (.iinc 3 1, 3) := by decide +kernel
theorem dX12_lying_37 : decode cX12_lying 37 = .ok (.goto (-33), 3) := by decide +kernel
theorem dX12_lying_40 : decode cX12_lying 40 = .ok (.iload_n 2, 1) := by decide +kernel
theorem dX12_lying_41 : decode cX12_lying 41 = .ok (.ireturn, 1) := by decide +kernel
theorem dX12_bits_0 : decode cX12_bits 0 = .ok (.iconst 0, 1) := by decide +kernel
theorem dX12_bits_1 : decode cX12_bits 1 = .ok (.istore_n 1, 1) := by decide +kernel
theorem dX12_bits_2 : decode cX12_bits 2 = .ok (.iconst 0, 1) := by decide +kernel
theorem dX12_bits_3 : decode cX12_bits 3 = .ok (.istore_n 2, 1) := by decide +kernel
theorem dX12_bits_4 : decode cX12_bits 4 = .ok (.iload_n 2, 1) := by decide +kernel
theorem dX12_bits_5 : decode cX12_bits 5 = .ok (.bipush 16, 2) := by decide +kernel
theorem dX12_bits_7 : decode cX12_bits 7 = .ok (.if_icmp .ge 17, 3) := by decide +kernel
theorem dX12_bits_10 : decode cX12_bits 10 = .ok (.iload_n 1, 1) := by decide +kernel
theorem dX12_bits_11 : decode cX12_bits 11 = .ok (.iload_n 0, 1) := by decide +kernel
theorem dX12_bits_12 : decode cX12_bits 12 = .ok (.iload_n 2, 1) := by decide +kernel
theorem dX12_bits_13 : decode cX12_bits 13 = .ok (.ishr, 1) := by decide +kernel
theorem dX12_bits_14 : decode cX12_bits 14 = .ok (.iconst 1, 1) := by decide +kernel
theorem dX12_bits_15 : decode cX12_bits 15 = .ok (.iand, 1) := by decide +kernel
theorem dX12_bits_16 : decode cX12_bits 16 = .ok (.iadd, 1) := by decide +kernel
theorem dX12_bits_17 : decode cX12_bits 17 = .ok (.istore_n 1, 1) := by decide +kernel
theorem dX12_bits_18 : decode cX12_bits 18 = .ok (.iinc 2 1, 3) := by decide +kernel
theorem dX12_bits_21 : decode cX12_bits 21 = .ok (.goto (-17), 3) := by decide +kernel
theorem dX12_bits_24 : decode cX12_bits 24 = .ok (.iload_n 1, 1) := by decide +kernel
theorem dX12_bits_25 : decode cX12_bits 25 = .ok (.ireturn, 1) := by decide +kernel
theorem dX12_becomes_0 : decode cX12_becomes 0 = .ok (.aload_n 0, 1) := by decide +kernel
theorem dX12_becomes_1 : decode cX12_becomes 1 = .ok (.getfield 7, 3) := by decide +kernel
theorem dX12_becomes_4 : decode cX12_becomes 4 = .ok (.iload_n 1, 1) := by decide +kernel
theorem dX12_becomes_5 : decode cX12_becomes 5 = .ok (.iaload, 1) := by decide +kernel
theorem dX12_becomes_6 : decode cX12_becomes 6 = .ok (.istore_n 3, 1) := by decide +kernel
theorem dX12_becomes_7 : decode cX12_becomes 7 = .ok (.aload_n 0, 1) := by decide +kernel
theorem dX12_becomes_8 : decode cX12_becomes 8 = .ok (.getfield 7, 3) := by decide +kernel
theorem dX12_becomes_11 : decode cX12_becomes 11 = .ok (.iload_n 1, 1) := by decide +kernel
theorem dX12_becomes_12 : decode cX12_becomes 12 = .ok (.iload_n 2, 1) := by decide +kernel
theorem dX12_becomes_13 : decode cX12_becomes 13 = .ok (.iastore, 1) := by decide +kernel
theorem dX12_becomes_14 : decode cX12_becomes 14 = .ok (.iload_n 3, 1) := by decide +kernel
theorem dX12_becomes_15 : decode cX12_becomes 15 = .ok (.ireturn, 1) := by decide +kernel
theorem dX12_sill_0 : decode cX12_sill 0 = .ok (.iload_n 1, 1) := by decide +kernel
theorem dX12_sill_1 : decode cX12_sill 1 = .ok (.invokestatic 174, 3) := by decide +kernel
theorem dX12_sill_4 : decode cX12_sill 4 = .ok (.ifCond .eq 52, 3) := by decide +kernel
theorem dX12_sill_7 : decode cX12_sill 7 = .ok (.iload_n 2, 1) := by decide +kernel
theorem dX12_sill_8 : decode cX12_sill 8 = .ok (.i2l, 1) := by decide +kernel
theorem dX12_sill_9 : decode cX12_sill 9 = .ok (.lconst 0, 1) := by decide +kernel
theorem dX12_sill_10 : decode cX12_sill 10 = .ok (.lconst 1, 1) := by decide +kernel
theorem dX12_sill_11 : decode cX12_sill 11 = .ok (.invokestatic 47, 3) := by decide +kernel
theorem dX12_sill_14 : decode cX12_sill 14 = .ok (.ifCond .eq 42, 3) := by decide +kernel
theorem dX12_sill_17 : decode cX12_sill 17 = .ok (.iload_n 3, 1) := by decide +kernel
theorem dX12_sill_18 : decode cX12_sill 18 = .ok (.i2l, 1) := by decide +kernel
theorem dX12_sill_19 : decode cX12_sill 19 = .ok (.lconst 0, 1) := by decide +kernel
theorem dX12_sill_20 : decode cX12_sill 20 = .ok (.iload_n 2, 1) := by decide +kernel
theorem dX12_sill_21 : decode cX12_sill 21 = .ok (.ifCond .ne 9, 3) := by decide +kernel
theorem dX12_sill_24 : decode cX12_sill 24 = .ok (.ldc2_w 177, 3) := by decide +kernel
theorem dX12_sill_27 : decode cX12_sill 27 = .ok (.goto 6, 3) := by decide +kernel
theorem dX12_sill_30 : decode cX12_sill 30 = .ok (.ldc2_w 51, 3) := by decide +kernel
theorem dX12_sill_33 : decode cX12_sill 33 = .ok (.invokestatic 47, 3) := by decide +kernel
theorem dX12_sill_36 : decode cX12_sill 36 = .ok (.ifCond .eq 20, 3) := by decide +kernel
theorem dX12_sill_39 : decode cX12_sill 39 = .ok (.aload_n 0, 1) := by decide +kernel
theorem dX12_sill_40 : decode cX12_sill 40 = .ok (.bipush 8, 2) := by decide +kernel
theorem dX12_sill_42 : decode cX12_sill 42 = .ok (.bipush 16, 2) := by decide +kernel
theorem dX12_sill_44 : decode cX12_sill 44 = .ok (.iload_n 2, 1) := by decide +kernel
theorem dX12_sill_45 : decode cX12_sill 45 = .ok (.imul, 1) := by decide +kernel
theorem dX12_sill_46 : decode cX12_sill 46 = .ok (.iadd, 1) := by decide +kernel
theorem dX12_sill_47 : decode cX12_sill 47 = .ok (.iload_n 1, 1) := by decide +kernel
theorem dX12_sill_48 : decode cX12_sill 48 = .ok (.iadd, 1) := by decide +kernel
theorem dX12_sill_49 : decode cX12_sill 49 = .ok (.iload_n 3, 1) := by decide +kernel
theorem dX12_sill_50 : decode cX12_sill 50 = .ok (.invokevirtual 179, 3) := by decide +kernel
theorem dX12_sill_53 : decode cX12_sill 53 = .ok (.goto 8, 3) := by decide +kernel
theorem dX12_sill_56 : decode cX12_sill 56 = .ok (.aload_n 0, 1) := by decide +kernel
theorem dX12_sill_57 : decode cX12_sill 57 = .ok (.iconst 1, 1) := by decide +kernel
theorem dX12_sill_58 : decode cX12_sill 58 = .ok (.invokevirtual 126, 3) := by decide +kernel
theorem dX12_sill_61 : decode cX12_sill 61 = .ok (.ireturn, 1) := by decide +kernel
theorem dX12_ofSill_0 : decode cX12_ofSill 0 = .ok (.iload_n 1, 1) := by decide +kernel
theorem dX12_ofSill_1 : decode cX12_ofSill 1 = .ok (.invokestatic 174, 3) := by decide +kernel
theorem dX12_ofSill_4 : decode cX12_ofSill 4 = .ok (.ifCond .eq 15, 3) := by decide +kernel
theorem dX12_ofSill_7 : decode cX12_ofSill 7 = .ok (.iload_n 2, 1) := by decide +kernel
theorem dX12_ofSill_8 : decode cX12_ofSill 8 = .ok (.i2l, 1) := by decide +kernel
theorem dX12_ofSill_9 : decode cX12_ofSill 9 = .ok (.lconst 0, 1) := by decide +kernel
theorem dX12_ofSill_10 : decode cX12_ofSill 10 = .ok (.ldc2_w 182, 3) := by decide +kernel
theorem dX12_ofSill_13 : decode cX12_ofSill 13 = .ok (.invokestatic 47, 3) := by decide +kernel
theorem dX12_ofSill_16 : decode cX12_ofSill 16 = .ok (.ifCond .ne 9, 3) := by decide +kernel
theorem dX12_ofSill_19 : decode cX12_ofSill 19 = .ok (.aload_n 0, 1) := by decide +kernel
theorem dX12_ofSill_20 : decode cX12_ofSill 20 = .ok (.iconst 1, 1) := by decide +kernel
theorem dX12_ofSill_21 : decode cX12_ofSill 21 = .ok (.invokevirtual 126, 3) := by decide +kernel
theorem dX12_ofSill_24 : decode cX12_ofSill 24 = .ok (.ireturn, 1) := by decide +kernel
theorem dX12_ofSill_25 : decode cX12_ofSill 25 = .ok (.iload_n 2, 1) := by decide +kernel
theorem dX12_ofSill_26 : decode cX12_ofSill 26 = .ok (.iconst 3, 1) := by decide +kernel
theorem dX12_ofSill_27 : decode cX12_ofSill 27 = .ok (.if_icmp .ge 31, 3) := by decide +kernel
theorem dX12_ofSill_30 : decode cX12_ofSill 30 = .ok (.iload_n 2, 1) := by decide +kernel
theorem dX12_ofSill_31 : decode cX12_ofSill 31 = .ok (.iconst 2, 1) := by decide +kernel
theorem dX12_ofSill_32 : decode cX12_ofSill 32 = .ok (.if_icmp .ge 20, 3) := by decide +kernel
theorem dX12_ofSill_35 : decode cX12_ofSill 35 = .ok (.aload_n 0, 1) := by decide +kernel
theorem dX12_ofSill_36 : decode cX12_ofSill 36 = .ok (.getfield 7, 3) := by decide +kernel
theorem dX12_ofSill_39 : decode cX12_ofSill 39 = .ok (.bipush 8, 2) := by decide +kernel
theorem dX12_ofSill_41 : decode cX12_ofSill 41 = .ok (.bipush 16, 2) := by decide +kernel
theorem dX12_ofSill_43 : decode cX12_ofSill 43 = .ok (.iload_n 2, 1) := by decide +kernel
theorem dX12_ofSill_44 : decode cX12_ofSill 44 = .ok (.imul, 1) := by decide +kernel
theorem dX12_ofSill_45 : decode cX12_ofSill 45 = .ok (.iadd, 1) := by decide +kernel
theorem dX12_ofSill_46 : decode cX12_ofSill 46 = .ok (.iload_n 1, 1) := by decide +kernel
theorem dX12_ofSill_47 : decode cX12_ofSill 47 = .ok (.iadd, 1) := by decide +kernel
theorem dX12_ofSill_48 : decode cX12_ofSill 48 = .ok (.iaload, 1) := by decide +kernel
theorem dX12_ofSill_49 : decode cX12_ofSill 49 = .ok (.goto 8, 3) := by decide +kernel
theorem dX12_ofSill_52 : decode cX12_ofSill 52 = .ok (.aload_n 0, 1) := by decide +kernel
theorem dX12_ofSill_53 : decode cX12_ofSill 53 = .ok (.iload_n 1, 1) := by decide +kernel
theorem dX12_ofSill_54 : decode cX12_ofSill 54 = .ok (.invokevirtual 184, 3) := by decide +kernel
theorem dX12_ofSill_57 : decode cX12_ofSill 57 = .ok (.ireturn, 1) := by decide +kernel
theorem dX12_ofSill_58 : decode cX12_ofSill 58 = .ok (.iconst 0, 1) := by decide +kernel
theorem dX12_ofSill_59 : decode cX12_ofSill 59 = .ok (.istore_n 3, 1) := by decide +kernel
theorem dX12_ofSill_60 : decode cX12_ofSill 60 = .ok (.iconst 0, 1) := by decide +kernel
theorem dX12_ofSill_61 : decode cX12_ofSill 61 = .ok (.istore 4, 2) := by decide +kernel
theorem dX12_ofSill_63 : decode cX12_ofSill 63 = .ok (.iload 4, 2) := by decide +kernel
theorem dX12_ofSill_65 : decode cX12_ofSill 65 = .ok (.aload_n 0, 1) := by decide +kernel
theorem dX12_ofSill_66 : decode cX12_ofSill 66 = .ok (.getfield 7, 3) := by decide +kernel
theorem dX12_ofSill_69 : decode cX12_ofSill 69 = .ok (.iconst 0, 1) := by decide +kernel
theorem dX12_ofSill_70 : decode cX12_ofSill 70 = .ok (.iaload, 1) := by decide +kernel
theorem dX12_ofSill_71 : decode cX12_ofSill 71 = .ok (.if_icmp .ge 31, 3) := by decide +kernel
theorem dX12_ofSill_74 : decode cX12_ofSill 74 = .ok (.iload_n 3, 1) := by decide +kernel
theorem dX12_ofSill_75 : decode cX12_ofSill 75 = .ok (.aload_n 0, 1) := by decide +kernel
theorem dX12_ofSill_76 : decode cX12_ofSill 76 = .ok (.iload 4, 2) := by decide +kernel
theorem dX12_ofSill_78 : decode cX12_ofSill 78 = .ok (.iconst 2, 1) := by decide +kernel
theorem dX12_ofSill_79 : decode cX12_ofSill 79 = .ok (.invokevirtual 146, 3) := by decide +kernel
theorem dX12_ofSill_82 : decode cX12_ofSill 82 = .ok (.iload_n 1, 1) := by decide +kernel
theorem dX12_ofSill_83 : decode cX12_ofSill 83 = .ok (.if_icmp .ne 10, 3) := by decide +kernel
theorem dX12_ofSill_86 : decode cX12_ofSill 86 = .ok (.iconst 1, 1) := by decide +kernel
theorem dX12_ofSill_87 : decode cX12_ofSill 87 = .ok (.iload 4, 2) := by decide +kernel
theorem dX12_ofSill_89 : decode cX12_ofSill 89 = .ok (.ishl, 1) := by decide +kernel
theorem dX12_ofSill_90 : decode cX12_ofSill 90 = .ok (.goto 4, 3) := by decide +kernel
theorem dX12_ofSill_93 : decode cX12_ofSill 93 = .ok (.iconst 0, 1) := by decide +kernel
theorem dX12_ofSill_94 : decode cX12_ofSill 94 = .ok (.ior, 1) := by decide +kernel
theorem dX12_ofSill_95 : decode cX12_ofSill 95 = .ok (.istore_n 3, 1) := by decide +kernel
theorem dX12_ofSill_96 : decode cX12_ofSill 96 = .ok (.iinc 4 1, 3) := by decide +kernel
theorem dX12_ofSill_99 : decode cX12_ofSill 99 = .ok (.goto (-36), 3) := by decide +kernel
theorem dX12_ofSill_102 : decode cX12_ofSill 102 = .ok (.iload_n 3, 1) := by decide +kernel
theorem dX12_ofSill_103 : decode cX12_ofSill 103 = .ok (.ireturn, 1) := by decide +kernel
theorem dX12_town_0 : decode cX12_town 0 = .ok (.iload_n 1, 1) := by decide +kernel
theorem dX12_town_1 : decode cX12_town 1 = .ok (.ifCond .ne 15, 3) := by decide +kernel
theorem dX12_town_4 : decode cX12_town 4 = .ok (.iload_n 2, 1) := by decide +kernel
theorem dX12_town_5 : decode cX12_town 5 = .ok (.i2l, 1) := by decide +kernel
theorem dX12_town_6 : decode cX12_town 6 = .ok (.lconst 0, 1) := by decide +kernel
theorem dX12_town_7 : decode cX12_town 7 = .ok (.ldc2_w 177, 3) := by decide +kernel
theorem dX12_town_10 : decode cX12_town 10 = .ok (.invokestatic 47, 3) := by decide +kernel
theorem dX12_town_13 : decode cX12_town 13 = .ok (.goto 42, 3) := by decide +kernel
theorem dX12_town_16 : decode cX12_town 16 = .ok (.iload_n 1, 1) := by decide +kernel
theorem dX12_town_17 : decode cX12_town 17 = .ok (.iconst 1, 1) := by decide +kernel
theorem dX12_town_18 : decode cX12_town 18 = .ok (.if_icmp .ne 15, 3) := by decide +kernel
theorem dX12_town_21 : decode cX12_town 21 = .ok (.iload_n 2, 1) := by decide +kernel
theorem dX12_town_22 : decode cX12_town 22 = .ok (.i2l, 1) := by decide +kernel
theorem dX12_town_23 : decode cX12_town 23 = .ok (.lconst 1, 1) := by decide +kernel
theorem dX12_town_24 : decode cX12_town 24 = .ok (.ldc2_w 187, 3) := by decide +kernel
theorem dX12_town_27 : decode cX12_town 27 = .ok (.invokestatic 47, 3) := by decide +kernel
theorem dX12_town_30 : decode cX12_town 30 = .ok (.goto 25, 3) := by decide +kernel
theorem dX12_town_33 : decode cX12_town 33 = .ok (.iload_n 1, 1) := by decide +kernel
theorem dX12_town_34 : decode cX12_town 34 = .ok (.iconst 2, 1) := by decide +kernel
theorem dX12_town_35 : decode cX12_town 35 = .ok (.if_icmp .ne 19, 3) := by decide +kernel
theorem dX12_town_38 : decode cX12_town 38 = .ok (.iload_n 2, 1) := by decide +kernel
theorem dX12_town_39 : decode cX12_town 39 = .ok (.i2l, 1) := by decide +kernel
theorem dX12_town_40 : decode cX12_town 40 = .ok (.lconst 0, 1) := by decide +kernel
theorem dX12_town_41 : decode cX12_town 41 = .ok (.ldc2_w 189, 3) := by decide +kernel
theorem dX12_town_44 : decode cX12_town 44 = .ok (.invokestatic 47, 3) := by decide +kernel
theorem dX12_town_47 : decode cX12_town 47 = .ok (.ifCond .eq 7, 3) := by decide +kernel
theorem dX12_town_50 : decode cX12_town 50 = .ok (.iconst 1, 1) := by decide +kernel
theorem dX12_town_51 : decode cX12_town 51 = .ok (.goto 4, 3) := by decide +kernel
theorem dX12_town_54 : decode cX12_town 54 = .ok (.iconst 0, 1) := by decide +kernel
theorem dX12_town_55 : decode cX12_town 55 = .ok (.istore_n 3, 1) := by decide +kernel
theorem dX12_town_56 : decode cX12_town 56 = .ok (.iload_n 3, 1) := by decide +kernel
theorem dX12_town_57 : decode cX12_town 57 = .ok (.ifCond .eq 14, 3) := by decide +kernel
theorem dX12_town_60 : decode cX12_town 60 = .ok (.aload_n 0, 1) := by decide +kernel
theorem dX12_town_61 : decode cX12_town 61 = .ok (.iconst 2, 1) := by decide +kernel
theorem dX12_town_62 : decode cX12_town 62 = .ok (.iload_n 1, 1) := by decide +kernel
theorem dX12_town_63 : decode cX12_town 63 = .ok (.iadd, 1) := by decide +kernel
theorem dX12_town_64 : decode cX12_town 64 = .ok (.iload_n 2, 1) := by decide +kernel
theorem dX12_town_65 : decode cX12_town 65 = .ok (.invokevirtual 179, 3) := by decide +kernel
theorem dX12_town_68 : decode cX12_town 68 = .ok (.goto 8, 3) := by decide +kernel
theorem dX12_town_71 : decode cX12_town 71 = .ok (.aload_n 0, 1) := by decide +kernel
theorem dX12_town_72 : decode cX12_town 72 = .ok (.iconst 1, 1) := by decide +kernel
theorem dX12_town_73 : decode cX12_town 73 = .ok (.invokevirtual 126, 3) := by decide +kernel
theorem dX12_town_76 : decode cX12_town 76 = .ok (.ireturn, 1) := by decide +kernel
theorem dX12_leaves_0 : decode cX12_leaves 0 = .ok (.aload_n 0, 1) := by decide +kernel
theorem dX12_leaves_1 : decode cX12_leaves 1 = .ok (.iload_n 1, 1) := by decide +kernel
theorem dX12_leaves_2 : decode cX12_leaves 2 = .ok (.iconst 3, 1) := by decide +kernel
theorem dX12_leaves_3 : decode cX12_leaves 3 = .ok (.iload_n 2, 1) := by decide +kernel
theorem dX12_leaves_4 : decode cX12_leaves 4 = .ok (.invokevirtual 164, 3) := by decide +kernel
theorem dX12_leaves_7 : decode cX12_leaves 7 = .ok (.aload_n 0, 1) := by decide +kernel
theorem dX12_leaves_8 : decode cX12_leaves 8 = .ok (.iload_n 1, 1) := by decide +kernel
theorem dX12_leaves_9 : decode cX12_leaves 9 = .ok (.iconst 4, 1) := by decide +kernel
theorem dX12_leaves_10 : decode cX12_leaves 10 = .ok (.iload_n 2, 1) := by decide +kernel
theorem dX12_leaves_11 : decode cX12_leaves 11 = .ok (.ifCond .ne 12, 3) := by decide +kernel
theorem dX12_leaves_14 : decode cX12_leaves 14 = .ok (.aload_n 0, 1) := by decide +kernel
theorem dX12_leaves_15 : decode cX12_leaves 15 = .ok (.iload_n 1, 1) := by decide +kernel
theorem dX12_leaves_16 : decode cX12_leaves 16 = .ok (.iconst 2, 1) := by decide +kernel
theorem dX12_leaves_17 : decode cX12_leaves 17 = .ok (.invokevirtual 146, 3) := by decide +kernel
theorem dX12_leaves_20 : decode cX12_leaves 20 = .ok (.goto 4, 3) := by decide +kernel
theorem dX12_leaves_23 : decode cX12_leaves 23 = .ok (.iconst (-1), 1) := by decide +kernel
theorem dX12_leaves_24 : decode cX12_leaves 24 = .ok (.invokevirtual 164, 3) := by decide +kernel
theorem dX12_leaves_27 : decode cX12_leaves 27 = .ok (.return_, 1) := by decide +kernel
theorem dX12_heir_0 : decode cX12_heir 0 = .ok (.iload_n 1, 1) := by decide +kernel
theorem dX12_heir_1 : decode cX12_heir 1 = .ok (.i2l, 1) := by decide +kernel
theorem dX12_heir_2 : decode cX12_heir 2 = .ok (.lconst 0, 1) := by decide +kernel
theorem dX12_heir_3 : decode cX12_heir 3 = .ok (.ldc2_w 191, 3) := by decide +kernel
theorem dX12_heir_6 : decode cX12_heir 6 = .ok (.invokestatic 47, 3) := by decide +kernel
theorem dX12_heir_9 : decode cX12_heir 9 = .ok (.ifCond .eq 22, 3) := by decide +kernel
theorem dX12_heir_12 : decode cX12_heir 12 = .ok (.iload_n 2, 1) := by decide +kernel
theorem dX12_heir_13 : decode cX12_heir 13 = .ok (.invokestatic 174, 3) := by decide +kernel
theorem dX12_heir_16 : decode cX12_heir 16 = .ok (.ifCond .eq 15, 3) := by decide +kernel
theorem dX12_heir_19 : decode cX12_heir 19 = .ok (.iload_n 3, 1) := by decide +kernel
theorem dX12_heir_20 : decode cX12_heir 20 = .ok (.i2l, 1) := by decide +kernel
theorem dX12_heir_21 : decode cX12_heir 21 = .ok (.lconst 0, 1) := by decide +kernel
theorem dX12_heir_22 : decode cX12_heir 22 = .ok (.ldc2_w 193, 3) := by decide +kernel
theorem dX12_heir_25 : decode cX12_heir 25 = .ok (.invokestatic 47, 3) := by decide +kernel
theorem dX12_heir_28 : decode cX12_heir 28 = .ok (.ifCond .ne 9, 3) := by decide +kernel
theorem dX12_heir_31 : decode cX12_heir 31 = .ok (.aload_n 0, 1) := by decide +kernel
theorem dX12_heir_32 : decode cX12_heir 32 = .ok (.iconst 1, 1) := by decide +kernel
theorem dX12_heir_33 : decode cX12_heir 33 = .ok (.invokevirtual 126, 3) := by decide +kernel
theorem dX12_heir_36 : decode cX12_heir 36 = .ok (.ireturn, 1) := by decide +kernel
theorem dX12_heir_37 : decode cX12_heir 37 = .ok (.aload_n 0, 1) := by decide +kernel
theorem dX12_heir_38 : decode cX12_heir 38 = .ok (.getfield 7, 3) := by decide +kernel
theorem dX12_heir_41 : decode cX12_heir 41 = .ok (.iconst 0, 1) := by decide +kernel
theorem dX12_heir_42 : decode cX12_heir 42 = .ok (.iaload, 1) := by decide +kernel
theorem dX12_heir_43 : decode cX12_heir 43 = .ok (.bipush 8, 2) := by decide +kernel
theorem dX12_heir_45 : decode cX12_heir 45 = .ok (.if_icmp .ne 9, 3) := by decide +kernel
theorem dX12_heir_48 : decode cX12_heir 48 = .ok (.aload_n 0, 1) := by decide +kernel
theorem dX12_heir_49 : decode cX12_heir 49 = .ok (.iconst 4, 1) := by decide +kernel
theorem dX12_heir_50 : decode cX12_heir 50 = .ok (.invokevirtual 126, 3) := by decide +kernel
theorem dX12_heir_53 : decode cX12_heir 53 = .ok (.ireturn, 1) := by decide +kernel
theorem dX12_heir_54 : decode cX12_heir 54 = .ok (.aload_n 0, 1) := by decide +kernel
theorem dX12_heir_55 : decode cX12_heir 55 = .ok (.getfield 7, 3) := by decide +kernel
theorem dX12_heir_58 : decode cX12_heir 58 = .ok (.iconst 0, 1) := by decide +kernel
theorem dX12_heir_59 : decode cX12_heir 59 = .ok (.iaload, 1) := by decide +kernel
theorem dX12_heir_60 : decode cX12_heir 60 = .ok (.istore 4, 2) := by decide +kernel
theorem dX12_heir_62 : decode cX12_heir 62 = .ok (.aload_n 0, 1) := by decide +kernel
theorem dX12_heir_63 : decode cX12_heir 63 = .ok (.iload 4, 2) := by decide +kernel
theorem dX12_heir_65 : decode cX12_heir 65 = .ok (.iconst 0, 1) := by decide +kernel
theorem dX12_heir_66 : decode cX12_heir 66 = .ok (.iload_n 1, 1) := by decide +kernel
theorem dX12_heir_67 : decode cX12_heir 67 = .ok (.bipush 10, 2) := by decide +kernel
theorem dX12_heir_69 : decode cX12_heir 69 = .ok (.idiv, 1) := by decide +kernel
theorem dX12_heir_70 : decode cX12_heir 70 = .ok (.invokevirtual 164, 3) := by decide +kernel
theorem dX12_heir_73 : decode cX12_heir 73 = .ok (.aload_n 0, 1) := by decide +kernel
theorem dX12_heir_74 : decode cX12_heir 74 = .ok (.iload 4, 2) := by decide +kernel
theorem dX12_heir_76 : decode cX12_heir 76 = .ok (.iconst 1, 1) := by decide +kernel
theorem dX12_heir_77 : decode cX12_heir 77 = .ok (.iload_n 1, 1) := by decide +kernel
theorem dX12_heir_78 : decode cX12_heir 78 = .ok (.bipush 10, 2) := by decide +kernel
theorem dX12_heir_80 : decode cX12_heir 80 = .ok (.irem, 1) := by decide +kernel
theorem dX12_heir_81 : decode cX12_heir 81 = .ok (.invokevirtual 164, 3) := by decide +kernel
theorem dX12_heir_84 : decode cX12_heir 84 = .ok (.aload_n 0, 1) := by decide +kernel
theorem dX12_heir_85 : decode cX12_heir 85 = .ok (.iload 4, 2) := by decide +kernel
theorem dX12_heir_87 : decode cX12_heir 87 = .ok (.iconst 2, 1) := by decide +kernel
theorem dX12_heir_88 : decode cX12_heir 88 = .ok (.iload_n 2, 1) := by decide +kernel
theorem dX12_heir_89 : decode cX12_heir 89 = .ok (.invokevirtual 164, 3) := by decide +kernel
theorem dX12_heir_92 : decode cX12_heir 92 = .ok (.aload_n 0, 1) := by decide +kernel
theorem dX12_heir_93 : decode cX12_heir 93 = .ok (.iload 4, 2) := by decide +kernel
theorem dX12_heir_95 : decode cX12_heir 95 = .ok (.iload_n 3, 1) := by decide +kernel
theorem dX12_heir_96 : decode cX12_heir 96 = .ok (.invokevirtual 195, 3) := by decide +kernel
theorem dX12_heir_99 : decode cX12_heir 99 = .ok (.aload_n 0, 1) := by decide +kernel
theorem dX12_heir_100 : decode cX12_heir 100 = .ok (.iload 4, 2) := by decide +kernel
theorem dX12_heir_102 : decode cX12_heir 102 = .ok (.iconst 5, 1) := by decide +kernel
theorem dX12_heir_103 : decode cX12_heir 103 = .ok (.iconst 0, 1) := by decide +kernel
theorem dX12_heir_104 : decode cX12_heir 104 = .ok (.invokevirtual 164, 3) := by decide +kernel
theorem dX12_heir_107 : decode cX12_heir 107 = .ok (.aload_n 0, 1) := by decide +kernel
theorem dX12_heir_108 : decode cX12_heir 108 = .ok (.getfield 7, 3) := by decide +kernel
theorem dX12_heir_111 : decode cX12_heir 111 = .ok (.iconst 0, 1) := by decide +kernel
theorem dX12_heir_112 : decode cX12_heir 112 = .ok (.dup2, 1) := by decide +kernel
theorem dX12_heir_113 : decode cX12_heir 113 = .ok (.iaload, 1) := by decide +kernel
theorem dX12_heir_114 : decode cX12_heir 114 = .ok (.iconst 1, 1) := by decide +kernel
theorem dX12_heir_115 : decode cX12_heir 115 = .ok (.iadd, 1) := by decide +kernel
theorem dX12_heir_116 : decode cX12_heir 116 = .ok (.iastore, 1) := by decide +kernel
theorem dX12_heir_117 : decode cX12_heir 117 = .ok (.iload 4, 2) := by decide +kernel
theorem dX12_heir_119 : decode cX12_heir 119 = .ok (.ireturn, 1) := by decide +kernel
theorem dX12_ofHeir_0 : decode cX12_ofHeir 0 = .ok (.aload_n 0, 1) := by decide +kernel
theorem dX12_ofHeir_1 : decode cX12_ofHeir 1 = .ok (.iload_n 1, 1) := by decide +kernel
theorem dX12_ofHeir_2 : decode cX12_ofHeir 2 = .ok (.invokevirtual 199, 3) := by decide +kernel
theorem dX12_ofHeir_5 : decode cX12_ofHeir 5 = .ok (.ifCond .eq 15, 3) := by decide +kernel
theorem dX12_ofHeir_8 : decode cX12_ofHeir 8 = .ok (.iload_n 2, 1) := by decide +kernel
theorem dX12_ofHeir_9 : decode cX12_ofHeir 9 = .ok (.i2l, 1) := by decide +kernel
theorem dX12_ofHeir_10 : decode cX12_ofHeir 10 = .ok (.lconst 0, 1) := by decide +kernel
theorem dX12_ofHeir_11 : decode cX12_ofHeir 11 = .ok (.ldc2_w 177, 3) := by decide +kernel
theorem dX12_ofHeir_14 : decode cX12_ofHeir 14 = .ok (.invokestatic 47, 3) := by decide +kernel
theorem dX12_ofHeir_17 : decode cX12_ofHeir 17 = .ok (.ifCond .ne 9, 3) := by decide +kernel
theorem dX12_ofHeir_20 : decode cX12_ofHeir 20 = .ok (.aload_n 0, 1) := by decide +kernel
theorem dX12_ofHeir_21 : decode cX12_ofHeir 21 = .ok (.iconst 1, 1) := by decide +kernel
theorem dX12_ofHeir_22 : decode cX12_ofHeir 22 = .ok (.invokevirtual 126, 3) := by decide +kernel
theorem dX12_ofHeir_25 : decode cX12_ofHeir 25 = .ok (.ireturn, 1) := by decide +kernel
theorem dX12_ofHeir_26 : decode cX12_ofHeir 26 = .ok (.iload_n 2, 1) := by decide +kernel
theorem dX12_ofHeir_27 : decode cX12_ofHeir 27 = .ok (.tableswitch 72 6 9 #[29, 41, 52, 58], 29) := by decide +kernel
theorem dX12_ofHeir_56 : decode cX12_ofHeir 56 = .ok (.aload_n 0, 1) := by decide +kernel
theorem dX12_ofHeir_57 : decode cX12_ofHeir 57 = .ok (.iload_n 1, 1) := by decide +kernel
theorem dX12_ofHeir_58 : decode cX12_ofHeir 58 = .ok (.aload_n 0, 1) := by decide +kernel
theorem dX12_ofHeir_59 : decode cX12_ofHeir 59 = .ok (.getfield 7, 3) := by decide +kernel
theorem dX12_ofHeir_62 : decode cX12_ofHeir 62 = .ok (.iconst 2, 1) := by decide +kernel
theorem dX12_ofHeir_63 : decode cX12_ofHeir 63 = .ok (.iaload, 1) := by decide +kernel
theorem dX12_ofHeir_64 : decode cX12_ofHeir 64 = .ok (.invokevirtual 161, 3) := by decide +kernel
theorem dX12_ofHeir_67 : decode cX12_ofHeir 67 = .ok (.ireturn, 1) := by decide +kernel
theorem dX12_ofHeir_68 : decode cX12_ofHeir 68 = .ok (.aload_n 0, 1) := by decide +kernel
theorem dX12_ofHeir_69 : decode cX12_ofHeir 69 = .ok (.iload_n 1, 1) := by decide +kernel
theorem dX12_ofHeir_70 : decode cX12_ofHeir 70 = .ok (.aload_n 0, 1) := by decide +kernel
theorem dX12_ofHeir_71 : decode cX12_ofHeir 71 = .ok (.iload_n 1, 1) := by decide +kernel
theorem dX12_ofHeir_72 : decode cX12_ofHeir 72 = .ok (.invokevirtual 152, 3) := by decide +kernel
theorem dX12_ofHeir_75 : decode cX12_ofHeir 75 = .ok (.invokevirtual 167, 3) := by decide +kernel
theorem dX12_ofHeir_78 : decode cX12_ofHeir 78 = .ok (.ireturn, 1) := by decide +kernel
theorem dX12_ofHeir_79 : decode cX12_ofHeir 79 = .ok (.aload_n 0, 1) := by decide +kernel
theorem dX12_ofHeir_80 : decode cX12_ofHeir 80 = .ok (.iload_n 1, 1) := by decide +kernel
theorem dX12_ofHeir_81 : decode cX12_ofHeir 81 = .ok (.invokevirtual 155, 3) := by decide +kernel
theorem dX12_ofHeir_84 : decode cX12_ofHeir 84 = .ok (.ireturn, 1) := by decide +kernel
theorem dX12_ofHeir_85 : decode cX12_ofHeir 85 = .ok (.aload_n 0, 1) := by decide +kernel
theorem dX12_ofHeir_86 : decode cX12_ofHeir 86 = .ok (.iload_n 1, 1) := by decide +kernel
theorem dX12_ofHeir_87 : decode cX12_ofHeir 87 = .ok (.invokevirtual 202, 3) := by decide +kernel
theorem dX12_ofHeir_90 : decode cX12_ofHeir 90 = .ok (.ifCond .eq 7, 3) := by decide +kernel
theorem dX12_ofHeir_93 : decode cX12_ofHeir 93 = .ok (.iconst 1, 1) := by decide +kernel
theorem dX12_ofHeir_94 : decode cX12_ofHeir 94 = .ok (.goto 4, 3) := by decide +kernel
theorem dX12_ofHeir_97 : decode cX12_ofHeir 97 = .ok (.iconst 0, 1) := by decide +kernel
theorem dX12_ofHeir_98 : decode cX12_ofHeir 98 = .ok (.ireturn, 1) := by decide +kernel
theorem dX12_ofHeir_99 : decode cX12_ofHeir 99 = .ok (.aload_n 0, 1) := by decide +kernel
theorem dX12_ofHeir_100 : decode cX12_ofHeir 100 = .ok (.iload_n 1, 1) := by decide +kernel
theorem dX12_ofHeir_101 : decode cX12_ofHeir 101 = .ok (.iload_n 2, 1) := by decide +kernel
theorem dX12_ofHeir_102 : decode cX12_ofHeir 102 = .ok (.invokevirtual 146, 3) := by decide +kernel
theorem dX12_ofHeir_105 : decode cX12_ofHeir 105 = .ok (.ireturn, 1) := by decide +kernel
theorem dX12_change_0 : decode cX12_change 0 = .ok (.aload_n 0, 1) := by decide +kernel
theorem dX12_change_1 : decode cX12_change 1 = .ok (.iload_n 1, 1) := by decide +kernel
theorem dX12_change_2 : decode cX12_change 2 = .ok (.invokevirtual 199, 3) := by decide +kernel
theorem dX12_change_5 : decode cX12_change 5 = .ok (.ifCond .eq 49, 3) := by decide +kernel
theorem dX12_change_8 : decode cX12_change 8 = .ok (.iload_n 2, 1) := by decide +kernel
theorem dX12_change_9 : decode cX12_change 9 = .ok (.i2l, 1) := by decide +kernel
theorem dX12_change_10 : decode cX12_change 10 = .ok (.lconst 0, 1) := by decide +kernel
theorem dX12_change_11 : decode cX12_change 11 = .ok (.ldc2_w 182, 3) := by decide +kernel
theorem dX12_change_14 : decode cX12_change 14 = .ok (.invokestatic 47, 3) := by decide +kernel
theorem dX12_change_17 : decode cX12_change 17 = .ok (.ifCond .eq 37, 3) := by decide +kernel
theorem dX12_change_20 : decode cX12_change 20 = .ok (.iload_n 3, 1) := by decide +kernel
theorem dX12_change_21 : decode cX12_change 21 = .ok (.i2l, 1) := by decide +kernel
theorem dX12_change_22 : decode cX12_change 22 = .ok (.lconst 0, 1) := by decide +kernel
theorem dX12_change_23 : decode cX12_change 23 = .ok (.iload_n 2, 1) := by decide +kernel
theorem dX12_change_24 : decode cX12_change 24 = .ok (.iconst 1, 1) := by decide +kernel
theorem dX12_change_25 : decode cX12_change 25 = .ok (.if_icmp .ne 9, 3) := by decide +kernel
theorem dX12_change_28 : decode cX12_change 28 = .ok (.ldc2_w 193, 3) := by decide +kernel
theorem dX12_change_31 : decode cX12_change 31 = .ok (.goto 17, 3) := by decide +kernel
theorem dX12_change_34 : decode cX12_change 34 = .ok (.iload_n 2, 1) := by decide +kernel
theorem dX12_change_35 : decode cX12_change 35 = .ok (.iconst 3, 1) := by decide +kernel
theorem dX12_change_36 : decode cX12_change 36 = .ok (.if_icmp .ne 9, 3) := by decide +kernel
theorem dX12_change_39 : decode cX12_change 39 = .ok (.ldc2_w 205, 3) := by decide +kernel
theorem dX12_change_42 : decode cX12_change 42 = .ok (.goto 6, 3) := by decide +kernel
theorem dX12_change_45 : decode cX12_change 45 = .ok (.ldc2_w 51, 3) := by decide +kernel
theorem dX12_change_48 : decode cX12_change 48 = .ok (.invokestatic 47, 3) := by decide +kernel
theorem dX12_change_51 : decode cX12_change 51 = .ok (.ifCond .ne 9, 3) := by decide +kernel
theorem dX12_change_54 : decode cX12_change 54 = .ok (.aload_n 0, 1) := by decide +kernel
theorem dX12_change_55 : decode cX12_change 55 = .ok (.iconst 1, 1) := by decide +kernel
theorem dX12_change_56 : decode cX12_change 56 = .ok (.invokevirtual 126, 3) := by decide +kernel
theorem dX12_change_59 : decode cX12_change 59 = .ok (.ireturn, 1) := by decide +kernel
theorem dX12_change_60 : decode cX12_change 60 = .ok (.iload_n 2, 1) := by decide +kernel
theorem dX12_change_61 : decode cX12_change 61 = .ok (.iconst 2, 1) := by decide +kernel
theorem dX12_change_62 : decode cX12_change 62 = .ok (.if_icmp .ne 17, 3) := by decide +kernel
theorem dX12_change_65 : decode cX12_change 65 = .ok (.aload_n 0, 1) := by decide +kernel
theorem dX12_change_66 : decode cX12_change 66 = .ok (.iload_n 1, 1) := by decide +kernel
theorem dX12_change_67 : decode cX12_change 67 = .ok (.invokevirtual 149, 3) := by decide +kernel
theorem dX12_change_70 : decode cX12_change 70 = .ok (.ifCond .ne 9, 3) := by decide +kernel
theorem dX12_change_73 : decode cX12_change 73 = .ok (.aload_n 0, 1) := by decide +kernel
theorem dX12_change_74 : decode cX12_change 74 = .ok (.iconst 3, 1) := by decide +kernel
theorem dX12_change_75 : decode cX12_change 75 = .ok (.invokevirtual 126, 3) := by decide +kernel
theorem dX12_change_78 : decode cX12_change 78 = .ok (.ireturn, 1) := by decide +kernel
theorem dX12_change_79 : decode cX12_change 79 = .ok (.aload_n 0, 1) := by decide +kernel
theorem dX12_change_80 : decode cX12_change 80 = .ok (.iload_n 1, 1) := by decide +kernel
theorem dX12_change_81 : decode cX12_change 81 = .ok (.iconst 2, 1) := by decide +kernel
theorem dX12_change_82 : decode cX12_change 82 = .ok (.iload_n 2, 1) := by decide +kernel
theorem dX12_change_83 : decode cX12_change 83 = .ok (.iadd, 1) := by decide +kernel
theorem dX12_change_84 : decode cX12_change 84 = .ok (.invokevirtual 146, 3) := by decide +kernel
theorem dX12_change_87 : decode cX12_change 87 = .ok (.istore 4, 2) := by decide +kernel
theorem dX12_change_89 : decode cX12_change 89 = .ok (.iload_n 2, 1) := by decide +kernel
theorem dX12_change_90 : decode cX12_change 90 = .ok (.iconst 1, 1) := by decide +kernel
theorem dX12_change_91 : decode cX12_change 91 = .ok (.if_icmp .ne 12, 3) := by decide +kernel
theorem dX12_change_94 : decode cX12_change 94 = .ok (.aload_n 0, 1) := by decide +kernel
theorem dX12_change_95 : decode cX12_change 95 = .ok (.iload_n 1, 1) := by decide +kernel
theorem dX12_change_96 : decode cX12_change 96 = .ok (.iload_n 3, 1) := by decide +kernel
theorem dX12_change_97 : decode cX12_change 97 = .ok (.invokevirtual 195, 3) := by decide +kernel
theorem dX12_change_100 : decode cX12_change 100 = .ok (.goto 12, 3) := by decide +kernel
theorem dX12_change_103 : decode cX12_change 103 = .ok (.aload_n 0, 1) := by decide +kernel
theorem dX12_change_104 : decode cX12_change 104 = .ok (.iload_n 1, 1) := by decide +kernel
theorem dX12_change_105 : decode cX12_change 105 = .ok (.iconst 2, 1) := by decide +kernel
theorem dX12_change_106 : decode cX12_change 106 = .ok (.iload_n 2, 1) := by decide +kernel
theorem dX12_change_107 : decode cX12_change 107 = .ok (.iadd, 1) := by decide +kernel
theorem dX12_change_108 : decode cX12_change 108 = .ok (.iload_n 3, 1) := by decide +kernel
theorem dX12_change_109 : decode cX12_change 109 = .ok (.invokevirtual 164, 3) := by decide +kernel
theorem dX12_change_112 : decode cX12_change 112 = .ok (.iload 4, 2) := by decide +kernel
theorem dX12_change_114 : decode cX12_change 114 = .ok (.ireturn, 1) := by decide +kernel
theorem dX12_become_0 : decode cX12_become 0 = .ok (.aload_n 0, 1) := by decide +kernel
theorem dX12_become_1 : decode cX12_become 1 = .ok (.iload_n 1, 1) := by decide +kernel
theorem dX12_become_2 : decode cX12_become 2 = .ok (.invokevirtual 199, 3) := by decide +kernel
theorem dX12_become_5 : decode cX12_become 5 = .ok (.ifCond .eq 15, 3) := by decide +kernel
theorem dX12_become_8 : decode cX12_become 8 = .ok (.iload_n 2, 1) := by decide +kernel
theorem dX12_become_9 : decode cX12_become 9 = .ok (.i2l, 1) := by decide +kernel
theorem dX12_become_10 : decode cX12_become 10 = .ok (.lconst 0, 1) := by decide +kernel
theorem dX12_become_11 : decode cX12_become 11 = .ok (.ldc2_w 191, 3) := by decide +kernel
theorem dX12_become_14 : decode cX12_become 14 = .ok (.invokestatic 47, 3) := by decide +kernel
theorem dX12_become_17 : decode cX12_become 17 = .ok (.ifCond .ne 9, 3) := by decide +kernel
theorem dX12_become_20 : decode cX12_become 20 = .ok (.aload_n 0, 1) := by decide +kernel
theorem dX12_become_21 : decode cX12_become 21 = .ok (.iconst 1, 1) := by decide +kernel
theorem dX12_become_22 : decode cX12_become 22 = .ok (.invokevirtual 126, 3) := by decide +kernel
theorem dX12_become_25 : decode cX12_become 25 = .ok (.ireturn, 1) := by decide +kernel
theorem dX12_become_26 : decode cX12_become 26 = .ok (.aload_n 0, 1) := by decide +kernel
theorem dX12_become_27 : decode cX12_become 27 = .ok (.iload_n 1, 1) := by decide +kernel
theorem dX12_become_28 : decode cX12_become 28 = .ok (.iconst 1, 1) := by decide +kernel
theorem dX12_become_29 : decode cX12_become 29 = .ok (.iload_n 2, 1) := by decide +kernel
theorem dX12_become_30 : decode cX12_become 30 = .ok (.bipush 10, 2) := by decide +kernel
theorem dX12_become_32 : decode cX12_become 32 = .ok (.irem, 1) := by decide +kernel
theorem dX12_become_33 : decode cX12_become 33 = .ok (.invokevirtual 164, 3) := by decide +kernel
theorem dX12_become_36 : decode cX12_become 36 = .ok (.aload_n 0, 1) := by decide +kernel
theorem dX12_become_37 : decode cX12_become 37 = .ok (.bipush 40, 2) := by decide +kernel
theorem dX12_become_39 : decode cX12_become 39 = .ok (.bipush 6, 2) := by decide +kernel
theorem dX12_become_41 : decode cX12_become 41 = .ok (.iload_n 1, 1) := by decide +kernel
theorem dX12_become_42 : decode cX12_become 42 = .ok (.imul, 1) := by decide +kernel
theorem dX12_become_43 : decode cX12_become 43 = .ok (.iadd, 1) := by decide +kernel
theorem dX12_become_44 : decode cX12_become 44 = .ok (.iload_n 2, 1) := by decide +kernel
theorem dX12_become_45 : decode cX12_become 45 = .ok (.bipush 10, 2) := by decide +kernel
theorem dX12_become_47 : decode cX12_become 47 = .ok (.idiv, 1) := by decide +kernel
theorem dX12_become_48 : decode cX12_become 48 = .ok (.invokevirtual 179, 3) := by decide +kernel
theorem dX12_become_51 : decode cX12_become 51 = .ok (.ireturn, 1) := by decide +kernel
theorem dX12_as_0 : decode cX12_as 0 = .ok (.aload_n 0, 1) := by decide +kernel
theorem dX12_as_1 : decode cX12_as 1 = .ok (.iload_n 1, 1) := by decide +kernel
theorem dX12_as_2 : decode cX12_as 2 = .ok (.invokevirtual 199, 3) := by decide +kernel
theorem dX12_as_5 : decode cX12_as 5 = .ok (.ifCond .eq 15, 3) := by decide +kernel
theorem dX12_as_8 : decode cX12_as 8 = .ok (.iload_n 2, 1) := by decide +kernel
theorem dX12_as_9 : decode cX12_as 9 = .ok (.i2l, 1) := by decide +kernel
theorem dX12_as_10 : decode cX12_as 10 = .ok (.lconst 0, 1) := by decide +kernel
theorem dX12_as_11 : decode cX12_as 11 = .ok (.ldc2_w 207, 3) := by decide +kernel
theorem dX12_as_14 : decode cX12_as 14 = .ok (.invokestatic 47, 3) := by decide +kernel
theorem dX12_as_17 : decode cX12_as 17 = .ok (.ifCond .ne 9, 3) := by decide +kernel
theorem dX12_as_20 : decode cX12_as 20 = .ok (.aload_n 0, 1) := by decide +kernel
theorem dX12_as_21 : decode cX12_as 21 = .ok (.iconst 1, 1) := by decide +kernel
theorem dX12_as_22 : decode cX12_as 22 = .ok (.invokevirtual 126, 3) := by decide +kernel
theorem dX12_as_25 : decode cX12_as 25 = .ok (.ireturn, 1) := by decide +kernel
theorem dX12_as_26 : decode cX12_as 26 = .ok (.aload_n 0, 1) := by decide +kernel
theorem dX12_as_27 : decode cX12_as 27 = .ok (.iload_n 1, 1) := by decide +kernel
theorem dX12_as_28 : decode cX12_as 28 = .ok (.iconst 0, 1) := by decide +kernel
theorem dX12_as_29 : decode cX12_as 29 = .ok (.invokevirtual 146, 3) := by decide +kernel
theorem dX12_as_32 : decode cX12_as 32 = .ok (.istore_n 3, 1) := by decide +kernel
theorem dX12_as_33 : decode cX12_as 33 = .ok (.iload_n 2, 1) := by decide +kernel
theorem dX12_as_34 : decode cX12_as 34 = .ok (.ifCond .eq 16, 3) := by decide +kernel
theorem dX12_as_37 : decode cX12_as 37 = .ok (.iload_n 3, 1) := by decide +kernel
theorem dX12_as_38 : decode cX12_as 38 = .ok (.iload_n 2, 1) := by decide +kernel
theorem dX12_as_39 : decode cX12_as 39 = .ok (.if_icmp .eq 11, 3) := by decide +kernel
theorem dX12_as_42 : decode cX12_as 42 = .ok (.iload_n 3, 1) := by decide +kernel
theorem dX12_as_43 : decode cX12_as 43 = .ok (.invokestatic 209, 3) := by decide +kernel
theorem dX12_as_46 : decode cX12_as 46 = .ok (.iload_n 2, 1) := by decide +kernel
theorem dX12_as_47 : decode cX12_as 47 = .ok (.if_icmp .ne 12, 3) := by decide +kernel
theorem dX12_as_50 : decode cX12_as 50 = .ok (.aload_n 0, 1) := by decide +kernel
theorem dX12_as_51 : decode cX12_as 51 = .ok (.iload_n 1, 1) := by decide +kernel
theorem dX12_as_52 : decode cX12_as 52 = .ok (.iconst 1, 1) := by decide +kernel
theorem dX12_as_53 : decode cX12_as 53 = .ok (.invokevirtual 146, 3) := by decide +kernel
theorem dX12_as_56 : decode cX12_as 56 = .ok (.goto 8, 3) := by decide +kernel
theorem dX12_as_59 : decode cX12_as 59 = .ok (.aload_n 0, 1) := by decide +kernel
theorem dX12_as_60 : decode cX12_as 60 = .ok (.iconst 5, 1) := by decide +kernel
theorem dX12_as_61 : decode cX12_as 61 = .ok (.invokevirtual 126, 3) := by decide +kernel
theorem dX12_as_64 : decode cX12_as 64 = .ok (.ireturn, 1) := by decide +kernel
theorem dX12_days_0 : decode cX12_days 0 = .ok (.iload_n 1, 1) := by decide +kernel
theorem dX12_days_1 : decode cX12_days 1 = .ok (.i2l, 1) := by decide +kernel
theorem dX12_days_2 : decode cX12_days 2 = .ok (.lconst 1, 1) := by decide +kernel
theorem dX12_days_3 : decode cX12_days 3 = .ok (.ldc2_w 212, 3) := by decide +kernel
theorem dX12_days_6 : decode cX12_days 6 = .ok (.invokestatic 47, 3) := by decide +kernel
theorem dX12_days_9 : decode cX12_days 9 = .ok (.ifCond .ne 9, 3) := by decide +kernel
theorem dX12_days_12 : decode cX12_days 12 = .ok (.aload_n 0, 1) := by decide +kernel
theorem dX12_days_13 : decode cX12_days 13 = .ok (.iconst 1, 1) := by decide +kernel
theorem dX12_days_14 : decode cX12_days 14 = .ok (.invokevirtual 126, 3) := by decide +kernel
theorem dX12_days_17 : decode cX12_days 17 = .ok (.ireturn, 1) := by decide +kernel
theorem dX12_days_18 : decode cX12_days 18 = .ok (.aload_n 0, 1) := by decide +kernel
theorem dX12_days_19 : decode cX12_days 19 = .ok (.getfield 7, 3) := by decide +kernel
theorem dX12_days_22 : decode cX12_days 22 = .ok (.iconst 1, 1) := by decide +kernel
theorem dX12_days_23 : decode cX12_days 23 = .ok (.iaload, 1) := by decide +kernel
theorem dX12_days_24 : decode cX12_days 24 = .ok (.iload_n 1, 1) := by decide +kernel
theorem dX12_days_25 : decode cX12_days 25 = .ok (.iadd, 1) := by decide +kernel
theorem dX12_days_26 : decode cX12_days 26 = .ok (.sipush 9999, 3) := by decide +kernel
theorem dX12_days_29 : decode cX12_days 29 = .ok (.if_icmp .le 9, 3) := by decide +kernel
theorem dX12_days_32 : decode cX12_days 32 = .ok (.aload_n 0, 1) := by decide +kernel
theorem dX12_days_33 : decode cX12_days 33 = .ok (.iconst 3, 1) := by decide +kernel
theorem dX12_days_34 : decode cX12_days 34 = .ok (.invokevirtual 126, 3) := by decide +kernel
theorem dX12_days_37 : decode cX12_days 37 = .ok (.ireturn, 1) := by decide +kernel
theorem dX12_days_38 : decode cX12_days 38 = .ok (.aload_n 0, 1) := by decide +kernel
theorem dX12_days_39 : decode cX12_days 39 = .ok (.iload_n 1, 1) := by decide +kernel
theorem dX12_days_40 : decode cX12_days 40 = .ok (.invokevirtual 214, 3) := by decide +kernel
theorem dX12_days_43 : decode cX12_days 43 = .ok (.aload_n 0, 1) := by decide +kernel
theorem dX12_days_44 : decode cX12_days 44 = .ok (.getfield 7, 3) := by decide +kernel
theorem dX12_days_47 : decode cX12_days 47 = .ok (.iconst 4, 1) := by decide +kernel
theorem dX12_days_48 : decode cX12_days 48 = .ok (.iaload, 1) := by decide +kernel
theorem dX12_days_49 : decode cX12_days 49 = .ok (.ireturn, 1) := by decide +kernel
theorem dX12_drawn_0 : decode cX12_drawn 0 = .ok (.aload_n 0, 1) := by decide +kernel
theorem dX12_drawn_1 : decode cX12_drawn 1 = .ok (.getfield 7, 3) := by decide +kernel
theorem dX12_drawn_4 : decode cX12_drawn 4 = .ok (.iconst 5, 1) := by decide +kernel
theorem dX12_drawn_5 : decode cX12_drawn 5 = .ok (.aload_n 0, 1) := by decide +kernel
theorem dX12_drawn_6 : decode cX12_drawn 6 = .ok (.getfield 7, 3) := by decide +kernel
theorem dX12_drawn_9 : decode cX12_drawn 9 = .ok (.iconst 5, 1) := by decide +kernel
theorem dX12_drawn_10 : decode cX12_drawn 10 = .ok (.iaload, 1) := by decide +kernel
theorem dX12_drawn_11 : decode cX12_drawn 11 = .ok (.ldc 217, 2) := by decide +kernel
theorem dX12_drawn_13 : decode cX12_drawn 13 = .ok (.imul, 1) := by decide +kernel
theorem dX12_drawn_14 : decode cX12_drawn 14 = .ok (.sipush 12345, 3) := by decide +kernel
theorem dX12_drawn_17 : decode cX12_drawn 17 = .ok (.iadd, 1) := by decide +kernel
theorem dX12_drawn_18 : decode cX12_drawn 18 = .ok (.iastore, 1) := by decide +kernel
theorem dX12_drawn_19 : decode cX12_drawn 19 = .ok (.aload_n 0, 1) := by decide +kernel
theorem dX12_drawn_20 : decode cX12_drawn 20 = .ok (.getfield 7, 3) := by decide +kernel
theorem dX12_drawn_23 : decode cX12_drawn 23 = .ok (.iconst 5, 1) := by decide +kernel
theorem dX12_drawn_24 : decode cX12_drawn 24 = .ok (.iaload, 1) := by decide +kernel
theorem dX12_drawn_25 : decode cX12_drawn 25 = .ok (.bipush 8, 2) := by decide +kernel
theorem dX12_drawn_27 : decode cX12_drawn 27 = .ok (.iushr, 1) := by decide +kernel
theorem dX12_drawn_28 : decode cX12_drawn 28 = .ok (.ireturn, 1) := by decide +kernel
theorem dX12_loose_0 : decode cX12_loose 0 = .ok (.iload_n 1, 1) := by decide +kernel
theorem dX12_loose_1 : decode cX12_loose 1 = .ok (.i2l, 1) := by decide +kernel
theorem dX12_loose_2 : decode cX12_loose 2 = .ok (.lconst 1, 1) := by decide +kernel
theorem dX12_loose_3 : decode cX12_loose 3 = .ok (.ldc2_w 218, 3) := by decide +kernel
theorem dX12_loose_6 : decode cX12_loose 6 = .ok (.invokestatic 47, 3) := by decide +kernel
theorem dX12_loose_9 : decode cX12_loose 9 = .ok (.ifCond .ne 9, 3) := by decide +kernel
theorem dX12_loose_12 : decode cX12_loose 12 = .ok (.aload_n 0, 1) := by decide +kernel
theorem dX12_loose_13 : decode cX12_loose 13 = .ok (.iconst 1, 1) := by decide +kernel
theorem dX12_loose_14 : decode cX12_loose 14 = .ok (.invokevirtual 126, 3) := by decide +kernel
theorem dX12_loose_17 : decode cX12_loose 17 = .ok (.ireturn, 1) := by decide +kernel
theorem dX12_loose_18 : decode cX12_loose 18 = .ok (.aload_n 0, 1) := by decide +kernel
theorem dX12_loose_19 : decode cX12_loose 19 = .ok (.getfield 7, 3) := by decide +kernel
theorem dX12_loose_22 : decode cX12_loose 22 = .ok (.iconst 1, 1) := by decide +kernel
theorem dX12_loose_23 : decode cX12_loose 23 = .ok (.iaload, 1) := by decide +kernel
theorem dX12_loose_24 : decode cX12_loose 24 = .ok (.iload_n 1, 1) := by decide +kernel
theorem dX12_loose_25 : decode cX12_loose 25 = .ok (.iadd, 1) := by decide +kernel
theorem dX12_loose_26 : decode cX12_loose 26 = .ok (.sipush 9999, 3) := by decide +kernel
theorem dX12_loose_29 : decode cX12_loose 29 = .ok (.if_icmp .le 9, 3) := by decide +kernel
theorem dX12_loose_32 : decode cX12_loose 32 = .ok (.aload_n 0, 1) := by decide +kernel
theorem dX12_loose_33 : decode cX12_loose 33 = .ok (.iconst 3, 1) := by decide +kernel
theorem dX12_loose_34 : decode cX12_loose 34 = .ok (.invokevirtual 126, 3) := by decide +kernel
theorem dX12_loose_37 : decode cX12_loose 37 = .ok (.ireturn, 1) := by decide +kernel
theorem dX12_loose_38 : decode cX12_loose 38 = .ok (.iconst 0, 1) := by decide +kernel
theorem dX12_loose_39 : decode cX12_loose 39 = .ok (.istore_n 2, 1) := by decide +kernel
theorem dX12_loose_40 : decode cX12_loose 40 = .ok (.iload_n 2, 1) := by decide +kernel
theorem dX12_loose_41 : decode cX12_loose 41 = .ok (.iload_n 1, 1) := by decide +kernel
theorem dX12_loose_42 : decode cX12_loose 42 = .ok (.if_icmp .ge 58, 3) := by decide +kernel
theorem dX12_loose_45 : decode cX12_loose 45 = .ok (.aload_n 0, 1) := by decide +kernel
theorem dX12_loose_46 : decode cX12_loose 46 = .ok (.getfield 7, 3) := by decide +kernel
theorem dX12_loose_49 : decode cX12_loose 49 = .ok (.iconst 2, 1) := by decide +kernel
theorem dX12_loose_50 : decode cX12_loose 50 = .ok (.aload_n 0, 1) := by decide +kernel
theorem dX12_loose_51 : decode cX12_loose 51 = .ok (.invokevirtual 220, 3) := by decide +kernel
theorem dX12_loose_54 : decode cX12_loose 54 = .ok (.bipush 6, 2) := by decide +kernel
theorem dX12_loose_56 : decode cX12_loose 56 = .ok (.irem, 1) := by decide +kernel
theorem dX12_loose_57 : decode cX12_loose 57 = .ok (.iastore, 1) := by decide +kernel
theorem dX12_loose_58 : decode cX12_loose 58 = .ok (.aload_n 0, 1) := by decide +kernel
theorem dX12_loose_59 : decode cX12_loose 59 = .ok (.invokevirtual 220, 3) := by decide +kernel
theorem dX12_loose_62 : decode cX12_loose 62 = .ok (.istore_n 3, 1) := by decide +kernel
theorem dX12_loose_63 : decode cX12_loose 63 = .ok (.iload_n 3, 1) := by decide +kernel
theorem dX12_loose_64 : decode cX12_loose 64 = .ok (.iconst 4, 1) := by decide +kernel
theorem dX12_loose_65 : decode cX12_loose 65 = .ok (.irem, 1) := by decide +kernel
theorem dX12_loose_66 : decode cX12_loose 66 = .ok (.ifCond .ne 24, 3) := by decide +kernel
theorem dX12_loose_69 : decode cX12_loose 69 = .ok (.aload_n 0, 1) := by decide +kernel
theorem dX12_loose_70 : decode cX12_loose 70 = .ok (.getfield 7, 3) := by decide +kernel
theorem dX12_loose_73 : decode cX12_loose 73 = .ok (.bipush 24, 2) := by decide +kernel
theorem dX12_loose_75 : decode cX12_loose 75 = .ok (.iload_n 3, 1) := by decide +kernel
theorem dX12_loose_76 : decode cX12_loose 76 = .ok (.iconst 4, 1) := by decide +kernel
theorem dX12_loose_77 : decode cX12_loose 77 = .ok (.idiv, 1) := by decide +kernel
theorem dX12_loose_78 : decode cX12_loose 78 = .ok (.bipush 16, 2) := by decide +kernel
theorem dX12_loose_80 : decode cX12_loose 80 = .ok (.irem, 1) := by decide +kernel
theorem dX12_loose_81 : decode cX12_loose 81 = .ok (.iadd, 1) := by decide +kernel
theorem dX12_loose_82 : decode cX12_loose 82 = .ok (.iload_n 3, 1) := by decide +kernel
theorem dX12_loose_83 : decode cX12_loose 83 = .ok (.bipush 64, 2) := by decide +kernel
theorem dX12_loose_85 : decode cX12_loose 85 = .ok (.idiv, 1) := by decide +kernel
