theorem dX11_init_0 : decode cX11_init 0 = .ok (.aload_n 0, 1) := by decide +kernel
theorem dX11_init_1 : decode cX11_init 1 = .ok (.invokespecial 3, 3) := by decide +kernel
theorem dX11_init_4 : decode cX11_init 4 = .ok (.bipush 7, 2) := by decide +kernel
theorem dX11_init_6 : decode cX11_init 6 = .ok (.anewarray 9, 3) := by decide +kernel
theorem dX11_init_9 : decode cX11_init 9 = .ok (.dup, 1) := by decide +kernel
theorem dX11_init_10 : decode cX11_init 10 = .ok (.iconst 0, 1) := by decide +kernel
theorem dX11_init_11 : decode cX11_init 11 = .ok (.new 9, 3) := by decide +kernel
theorem dX11_init_14 : decode cX11_init 14 = .ok (.dup, 1) := by decide +kernel
theorem dX11_init_15 : decode cX11_init 15 = .ok (.invokespecial 11, 3) := by decide +kernel
theorem dX11_init_18 : decode cX11_init 18 = .ok (.aastore, 1) := by decide +kernel
theorem dX11_init_19 : decode cX11_init 19 = .ok (.dup, 1) := by decide +kernel
theorem dX11_init_20 : decode cX11_init 20 = .ok (.iconst 1, 1) := by decide +kernel
theorem dX11_init_21 : decode cX11_init 21 = .ok (.new 12, 3) := by decide +kernel
theorem dX11_init_24 : decode cX11_init 24 = .ok (.dup, 1) := by decide +kernel
theorem dX11_init_25 : decode cX11_init 25 = .ok (.invokespecial 14, 3) := by decide +kernel
theorem dX11_init_28 : decode cX11_init 28 = .ok (.aastore, 1) := by decide +kernel
theorem dX11_init_29 : decode cX11_init 29 = .ok (.dup, 1) := by decide +kernel
theorem dX11_init_30 : decode cX11_init 30 = .ok (.iconst 2, 1) := by decide +kernel
theorem dX11_init_31 : decode cX11_init 31 = .ok (.new 15, 3) := by decide +kernel
theorem dX11_init_34 : decode cX11_init 34 = .ok (.dup, 1) := by decide +kernel
theorem dX11_init_35 : decode cX11_init 35 = .ok (.invokespecial 17, 3) := by decide +kernel
theorem dX11_init_38 : decode cX11_init 38 = .ok (.aastore, 1) := by decide +kernel
theorem dX11_init_39 : decode cX11_init 39 = .ok (.dup, 1) := by decide +kernel
theorem dX11_init_40 : decode cX11_init 40 = .ok (.iconst 3, 1) := by decide +kernel
theorem dX11_init_41 : decode cX11_init 41 = .ok (.new 18, 3) := by decide +kernel
theorem dX11_init_44 : decode cX11_init 44 = .ok (.dup, 1) := by decide +kernel
theorem dX11_init_45 : decode cX11_init 45 = .ok (.invokespecial 20, 3) := by decide +kernel
theorem dX11_init_48 : decode cX11_init 48 = .ok (.aastore, 1) := by decide +kernel
theorem dX11_init_49 : decode cX11_init 49 = .ok (.dup, 1) := by decide +kernel
theorem dX11_init_50 : decode cX11_init 50 = .ok (.iconst 4, 1) := by decide +kernel
theorem dX11_init_51 : decode cX11_init 51 = .ok (.new 21, 3) := by decide +kernel
theorem dX11_init_54 : decode cX11_init 54 = .ok (.dup, 1) := by decide +kernel
theorem dX11_init_55 : decode cX11_init 55 = .ok (.invokespecial 23, 3) := by decide +kernel
theorem dX11_init_58 : decode cX11_init 58 = .ok (.aastore, 1) := by decide +kernel
theorem dX11_init_59 : decode cX11_init 59 = .ok (.dup, 1) := by decide +kernel
theorem dX11_init_60 : decode cX11_init 60 = .ok (.iconst 5, 1) := by decide +kernel
theorem dX11_init_61 : decode cX11_init 61 = .ok (.new 24, 3) := by decide +kernel
theorem dX11_init_64 : decode cX11_init 64 = .ok (.dup, 1) := by decide +kernel
theorem dX11_init_65 : decode cX11_init 65 = .ok (.invokespecial 26, 3) := by decide +kernel
theorem dX11_init_68 : decode cX11_init 68 = .ok (.aastore, 1) := by decide +kernel
theorem dX11_init_69 : decode cX11_init 69 = .ok (.dup, 1) := by decide +kernel
theorem dX11_init_70 : decode cX11_init 70 = .ok (.bipush 6, 2) := by decide +kernel
theorem dX11_init_72 : decode cX11_init 72 = .ok (.new 27, 3) := by decide +kernel
theorem dX11_init_75 : decode cX11_init 75 = .ok (.dup, 1) := by decide +kernel
theorem dX11_init_76 : decode cX11_init 76 = .ok (.invokespecial 29, 3) := by decide +kernel
theorem dX11_init_79 : decode cX11_init 79 = .ok (.aastore, 1) := by decide +kernel
theorem dX11_init_80 : decode cX11_init 80 = .ok (.astore_n 1, 1) := by decide +kernel
theorem dX11_init_81 : decode cX11_init 81 = .ok (.aload_n 0, 1) := by decide +kernel
theorem dX11_init_82 : decode cX11_init 82 = .ok (.new 30, 3) := by decide +kernel
theorem dX11_init_85 : decode cX11_init 85 = .ok (.dup, 1) := by decide +kernel
theorem dX11_init_86 : decode cX11_init 86 = .ok (.aload_n 1, 1) := by decide +kernel
theorem dX11_init_87 : decode cX11_init 87 = .ok (.invokespecial 32, 3) := by decide +kernel
theorem dX11_init_90 : decode cX11_init 90 = .ok (.putfield 35, 3) := by decide +kernel
theorem dX11_init_93 : decode cX11_init 93 = .ok (.aload_n 0, 1) := by decide +kernel
theorem dX11_init_94 : decode cX11_init 94 = .ok (.new 30, 3) := by decide +kernel
theorem dX11_init_97 : decode cX11_init 97 = .ok (.dup, 1) := by decide +kernel
theorem dX11_init_98 : decode cX11_init 98 = .ok (.aload_n 1, 1) := by decide +kernel
theorem dX11_init_99 : decode cX11_init 99 = .ok (.invokespecial 32, 3) := by decide +kernel
theorem dX11_init_102 : decode cX11_init 102 = .ok (.putfield 39, 3) := by decide +kernel
theorem dX11_init_105 : decode cX11_init 105 = .ok (.aload_n 0, 1) := by decide +kernel
theorem dX11_init_106 : decode cX11_init 106 = .ok (.new 30, 3) := by decide +kernel
theorem dX11_init_109 : decode cX11_init 109 = .ok (.dup, 1) := by decide +kernel
theorem dX11_init_110 : decode cX11_init 110 = .ok (.aload_n 1, 1) := by decide +kernel
theorem dX11_init_111 : decode cX11_init 111 = .ok (.invokespecial 32, 3) := by decide +kernel
theorem dX11_init_114 : decode cX11_init 114 = .ok (.putfield 42, 3) := by decide +kernel
theorem dX11_init_117 : decode cX11_init 117 = .ok (.aload_n 0, 1) := by decide +kernel
theorem dX11_init_118 : decode cX11_init 118 = .ok (.new 45, 3) := by decide +kernel
theorem dX11_init_121 : decode cX11_init 121 = .ok (.dup, 1) := by decide +kernel
theorem dX11_init_122 : decode cX11_init 122 = .ok (.invokespecial 47, 3) := by decide +kernel
theorem dX11_init_125 : decode cX11_init 125 = .ok (.putfield 48, 3) := by decide +kernel
theorem dX11_init_128 : decode cX11_init 128 = .ok (.aload_n 0, 1) := by decide +kernel
theorem dX11_init_129 : decode cX11_init 129 = .ok (.new 45, 3) := by decide +kernel
theorem dX11_init_132 : decode cX11_init 132 = .ok (.dup, 1) := by decide +kernel
theorem dX11_init_133 : decode cX11_init 133 = .ok (.invokespecial 47, 3) := by decide +kernel
theorem dX11_init_136 : decode cX11_init 136 = .ok (.putfield 52, 3) := by decide +kernel
theorem dX11_init_139 : decode cX11_init 139 = .ok (.aload_n 0, 1) := by decide +kernel
theorem dX11_init_140 : decode cX11_init 140 = .ok (.new 55, 3) := by decide +kernel
theorem dX11_init_143 : decode cX11_init 143 = .ok (.dup, 1) := by decide +kernel
theorem dX11_init_144 : decode cX11_init 144 = .ok (.invokespecial 57, 3) := by decide +kernel
theorem dX11_init_147 : decode cX11_init 147 = .ok (.putfield 58, 3) := by decide +kernel
theorem dX11_init_150 : decode cX11_init 150 = .ok (.aload_n 0, 1) := by decide +kernel
theorem dX11_init_151 : decode cX11_init 151 = .ok (.iconst 4, 1) := by decide +kernel
theorem dX11_init_152 : decode cX11_init 152 = .ok (.bipush 40, 2) := by decide +kernel
theorem dX11_init_154 : decode cX11_init 154 = .ok (.multianewarray 62 2, 4) := by decide +kernel
theorem dX11_init_158 : decode cX11_init 158 = .ok (.putfield 64, 3) := by decide +kernel
theorem dX11_init_161 : decode cX11_init 161 = .ok (.aload_n 0, 1) := by decide +kernel
theorem dX11_init_162 : decode cX11_init 162 = .ok (.iconst 4, 1) := by decide +kernel
theorem dX11_init_163 : decode cX11_init 163 = .ok (.newarray .int, 2) := by decide +kernel
theorem dX11_init_165 : decode cX11_init 165 = .ok (.putfield 67, 3) := by decide +kernel
theorem dX11_init_168 : decode cX11_init 168 = .ok (.aload_n 0, 1) := by decide +kernel
theorem dX11_init_169 : decode cX11_init 169 = .ok (.iconst 4, 1) := by decide +kernel
theorem dX11_init_170 : decode cX11_init 170 = .ok (.newarray .int, 2) := by decide +kernel
theorem dX11_init_172 : decode cX11_init 172 = .ok (.putfield 71, 3) := by decide +kernel
theorem dX11_init_175 : decode cX11_init 175 = .ok (.aload_n 0, 1) := by decide +kernel
theorem dX11_init_176 : decode cX11_init 176 = .ok (.bipush 6, 2) := by decide +kernel
theorem dX11_init_178 : decode cX11_init 178 = .ok (.newarray .int, 2) := by decide +kernel
theorem dX11_init_180 : decode cX11_init 180 = .ok (.putfield 74, 3) := by decide +kernel
theorem dX11_init_183 : decode cX11_init 183 = .ok (.return_, 1) := by decide +kernel
theorem dX11_sill_0 : decode cX11_sill 0 = .ok (.iload_n 1, 1) := by decide +kernel
theorem dX11_sill_1 : decode cX11_sill 1 = .ok (.invokestatic 77, 3) := by decide +kernel
theorem dX11_sill_4 : decode cX11_sill 4 = .ok (.ifCond .ne 10, 3) := by decide +kernel
theorem dX11_sill_7 : decode cX11_sill 7 = .ok (.aload_n 0, 1) := by decide +kernel
theorem dX11_sill_8 : decode cX11_sill 8 = .ok (.ldc 81, 2) := by decide +kernel
theorem dX11_sill_10 : decode cX11_sill 10 = .ok (.invokevirtual 82, 3) := by decide +kernel
theorem dX11_sill_13 : decode cX11_sill 13 = .ok (.ireturn, 1) := by decide +kernel
theorem dX11_sill_14 : decode cX11_sill 14 = .ok (.iload_n 2, 1) := by decide +kernel
theorem dX11_sill_15 : decode cX11_sill 15 = .ok (.ifCond .ne 37, 3) := by decide +kernel
theorem dX11_sill_18 : decode cX11_sill 18 = .ok (.iload_n 3, 1) := by decide +kernel
theorem dX11_sill_19 : decode cX11_sill 19 = .ok (.iconst 0, 1) := by decide +kernel
theorem dX11_sill_20 : decode cX11_sill 20 = .ok (.bipush 9, 2) := by decide +kernel
theorem dX11_sill_22 : decode cX11_sill 22 = .ok (.invokestatic 86, 3) := by decide +kernel
theorem dX11_sill_25 : decode cX11_sill 25 = .ok (.ifCond .eq 27, 3) := by decide +kernel
theorem dX11_sill_28 : decode cX11_sill 28 = .ok (.aload_n 0, 1) := by decide +kernel
theorem dX11_sill_29 : decode cX11_sill 29 = .ok (.getfield 35, 3) := by decide +kernel
theorem dX11_sill_32 : decode cX11_sill 32 = .ok (.getfield 90, 3) := by decide +kernel
theorem dX11_sill_35 : decode cX11_sill 35 = .ok (.iload_n 1, 1) := by decide +kernel
theorem dX11_sill_36 : decode cX11_sill 36 = .ok (.iaload, 1) := by decide +kernel
theorem dX11_sill_37 : decode cX11_sill 37 = .ok (.istore 4, 2) := by decide +kernel
theorem dX11_sill_39 : decode cX11_sill 39 = .ok (.aload_n 0, 1) := by decide +kernel
theorem dX11_sill_40 : decode cX11_sill 40 = .ok (.getfield 35, 3) := by decide +kernel
theorem dX11_sill_43 : decode cX11_sill 43 = .ok (.getfield 90, 3) := by decide +kernel
theorem dX11_sill_46 : decode cX11_sill 46 = .ok (.iload_n 1, 1) := by decide +kernel
theorem dX11_sill_47 : decode cX11_sill 47 = .ok (.iload_n 3, 1) := by decide +kernel
theorem dX11_sill_48 : decode cX11_sill 48 = .ok (.iastore, 1) := by decide +kernel
theorem dX11_sill_49 : decode cX11_sill 49 = .ok (.iload 4, 2) := by decide +kernel
theorem dX11_sill_51 : decode cX11_sill 51 = .ok (.ireturn, 1) := by decide +kernel
theorem dX11_sill_52 : decode cX11_sill 52 = .ok (.iload_n 2, 1) := by decide +kernel
theorem dX11_sill_53 : decode cX11_sill 53 = .ok (.iconst 1, 1) := by decide +kernel
theorem dX11_sill_54 : decode cX11_sill 54 = .ok (.if_icmp .ne 34, 3) := by decide +kernel
theorem dX11_sill_57 : decode cX11_sill 57 = .ok (.iload_n 3, 1) := by decide +kernel
theorem dX11_sill_58 : decode cX11_sill 58 = .ok (.invokestatic 77, 3) := by decide +kernel
theorem dX11_sill_61 : decode cX11_sill 61 = .ok (.ifCond .eq 27, 3) := by decide +kernel
theorem dX11_sill_64 : decode cX11_sill 64 = .ok (.aload_n 0, 1) := by decide +kernel
theorem dX11_sill_65 : decode cX11_sill 65 = .ok (.getfield 35, 3) := by decide +kernel
theorem dX11_sill_68 : decode cX11_sill 68 = .ok (.getfield 93, 3) := by decide +kernel
theorem dX11_sill_71 : decode cX11_sill 71 = .ok (.iload_n 1, 1) := by decide +kernel
theorem dX11_sill_72 : decode cX11_sill 72 = .ok (.iaload, 1) := by decide +kernel
theorem dX11_sill_73 : decode cX11_sill 73 = .ok (.istore 4, 2) := by decide +kernel
theorem dX11_sill_75 : decode cX11_sill 75 = .ok (.aload_n 0, 1) := by decide +kernel
theorem dX11_sill_76 : decode cX11_sill 76 = .ok (.getfield 35, 3) := by decide +kernel
theorem dX11_sill_79 : decode cX11_sill 79 = .ok (.getfield 93, 3) := by decide +kernel
theorem dX11_sill_82 : decode cX11_sill 82 = .ok (.iload_n 1, 1) := by decide +kernel
theorem dX11_sill_83 : decode cX11_sill 83 = .ok (.iload_n 3, 1) := by decide +kernel
theorem dX11_sill_84 : decode cX11_sill 84 = .ok (.iastore, 1) := by decide +kernel
theorem dX11_sill_85 : decode cX11_sill 85 = .ok (.iload 4, 2) := by decide +kernel
theorem dX11_sill_87 : decode cX11_sill 87 = .ok (.ireturn, 1) := by decide +kernel
theorem dX11_sill_88 : decode cX11_sill 88 = .ok (.aload_n 0, 1) := by decide +kernel
theorem dX11_sill_89 : decode cX11_sill 89 = .ok (.ldc 81, 2) := by decide +kernel
theorem dX11_sill_91 : decode cX11_sill 91 = .ok (.invokevirtual 82, 3) := by decide +kernel
theorem dX11_sill_94 : decode cX11_sill 94 = .ok (.ireturn, 1) := by decide +kernel
theorem dX11_ofSill_0 : decode cX11_ofSill 0 = .ok (.iload_n 1, 1) := by decide +kernel
theorem dX11_ofSill_1 : decode cX11_ofSill 1 = .ok (.invokestatic 77, 3) := by decide +kernel
theorem dX11_ofSill_4 : decode cX11_ofSill 4 = .ok (.ifCond .ne 10, 3) := by decide +kernel
theorem dX11_ofSill_7 : decode cX11_ofSill 7 = .ok (.aload_n 0, 1) := by decide +kernel
theorem dX11_ofSill_8 : decode cX11_ofSill 8 = .ok (.ldc 81, 2) := by decide +kernel
theorem dX11_ofSill_10 : decode cX11_ofSill 10 = .ok (.invokevirtual 82, 3) := by decide +kernel
theorem dX11_ofSill_13 : decode cX11_ofSill 13 = .ok (.ireturn, 1) := by decide +kernel
theorem dX11_ofSill_14 : decode cX11_ofSill 14 = .ok (.iload_n 2, 1) := by decide +kernel
theorem dX11_ofSill_15 : decode cX11_ofSill 15 = .ok (.tableswitch 67 0 3 #[29, 39, 49, 58], 29) := by decide +kernel
theorem dX11_ofSill_44 : decode cX11_ofSill 44 = .ok (.aload_n 0, 1) := by decide +kernel
theorem dX11_ofSill_45 : decode cX11_ofSill 45 = .ok (.getfield 35, 3) := by decide +kernel
theorem dX11_ofSill_48 : decode cX11_ofSill 48 = .ok (.getfield 90, 3) := by decide +kernel
theorem dX11_ofSill_51 : decode cX11_ofSill 51 = .ok (.iload_n 1, 1) := by decide +kernel
theorem dX11_ofSill_52 : decode cX11_ofSill 52 = .ok (.iaload, 1) := by decide +kernel
theorem dX11_ofSill_53 : decode cX11_ofSill 53 = .ok (.ireturn, 1) := by decide +kernel
theorem dX11_ofSill_54 : decode cX11_ofSill 54 = .ok (.aload_n 0, 1) := by decide +kernel
theorem dX11_ofSill_55 : decode cX11_ofSill 55 = .ok (.getfield 35, 3) := by decide +kernel
theorem dX11_ofSill_58 : decode cX11_ofSill 58 = .ok (.getfield 93, 3) := by decide +kernel
theorem dX11_ofSill_61 : decode cX11_ofSill 61 = .ok (.iload_n 1, 1) := by decide +kernel
theorem dX11_ofSill_62 : decode cX11_ofSill 62 = .ok (.iaload, 1) := by decide +kernel
theorem dX11_ofSill_63 : decode cX11_ofSill 63 = .ok (.ireturn, 1) := by decide +kernel
theorem dX11_ofSill_64 : decode cX11_ofSill 64 = .ok (.aload_n 0, 1) := by decide +kernel
theorem dX11_ofSill_65 : decode cX11_ofSill 65 = .ok (.getfield 35, 3) := by decide +kernel
theorem dX11_ofSill_68 : decode cX11_ofSill 68 = .ok (.iload_n 1, 1) := by decide +kernel
theorem dX11_ofSill_69 : decode cX11_ofSill 69 = .ok (.invokevirtual 96, 3) := by decide +kernel
theorem dX11_ofSill_72 : decode cX11_ofSill 72 = .ok (.ireturn, 1) := by decide +kernel
theorem dX11_ofSill_73 : decode cX11_ofSill 73 = .ok (.aload_n 0, 1) := by decide +kernel
theorem dX11_ofSill_74 : decode cX11_ofSill 74 = .ok (.getfield 35, 3) := by decide +kernel
theorem dX11_ofSill_77 : decode cX11_ofSill 77 = .ok (.iload_n 1, 1) := by decide +kernel
theorem dX11_ofSill_78 : decode cX11_ofSill 78 = .ok (.invokevirtual 99, 3) := by decide +kernel
theorem dX11_ofSill_81 : decode cX11_ofSill 81 = .ok (.ireturn, 1) := by decide +kernel
theorem dX11_ofSill_82 : decode cX11_ofSill 82 = .ok (.aload_n 0, 1) := by decide +kernel
theorem dX11_ofSill_83 : decode cX11_ofSill 83 = .ok (.ldc 81, 2) := by decide +kernel
theorem dX11_ofSill_85 : decode cX11_ofSill 85 = .ok (.invokevirtual 82, 3) := by decide +kernel
theorem dX11_ofSill_88 : decode cX11_ofSill 88 = .ok (.ireturn, 1) := by decide +kernel
theorem dX11_town_0 : decode cX11_town 0 = .ok (.iload_n 1, 1) := by decide +kernel
theorem dX11_town_1 : decode cX11_town 1 = .ok (.ifCond .ne 32, 3) := by decide +kernel
theorem dX11_town_4 : decode cX11_town 4 = .ok (.iload_n 2, 1) := by decide +kernel
theorem dX11_town_5 : decode cX11_town 5 = .ok (.iconst 0, 1) := by decide +kernel
theorem dX11_town_6 : decode cX11_town 6 = .ok (.bipush 9, 2) := by decide +kernel
theorem dX11_town_8 : decode cX11_town 8 = .ok (.invokestatic 86, 3) := by decide +kernel
theorem dX11_town_11 : decode cX11_town 11 = .ok (.ifCond .eq 22, 3) := by decide +kernel
theorem dX11_town_14 : decode cX11_town 14 = .ok (.aload_n 0, 1) := by decide +kernel
theorem dX11_town_15 : decode cX11_town 15 = .ok (.getfield 35, 3) := by decide +kernel
theorem dX11_town_18 : decode cX11_town 18 = .ok (.getfield 102, 3) := by decide +kernel
theorem dX11_town_21 : decode cX11_town 21 = .ok (.istore_n 3, 1) := by decide +kernel
theorem dX11_town_22 : decode cX11_town 22 = .ok (.aload_n 0, 1) := by decide +kernel
theorem dX11_town_23 : decode cX11_town 23 = .ok (.getfield 35, 3) := by decide +kernel
theorem dX11_town_26 : decode cX11_town 26 = .ok (.iload_n 2, 1) := by decide +kernel
theorem dX11_town_27 : decode cX11_town 27 = .ok (.putfield 102, 3) := by decide +kernel
theorem dX11_town_30 : decode cX11_town 30 = .ok (.goto 78, 3) := by decide +kernel
theorem dX11_town_33 : decode cX11_town 33 = .ok (.iload_n 1, 1) := by decide +kernel
theorem dX11_town_34 : decode cX11_town 34 = .ok (.iconst 1, 1) := by decide +kernel
theorem dX11_town_35 : decode cX11_town 35 = .ok (.if_icmp .ne 32, 3) := by decide +kernel
theorem dX11_town_38 : decode cX11_town 38 = .ok (.iload_n 2, 1) := by decide +kernel
theorem dX11_town_39 : decode cX11_town 39 = .ok (.iconst 1, 1) := by decide +kernel
theorem dX11_town_40 : decode cX11_town 40 = .ok (.bipush 30, 2) := by decide +kernel
theorem dX11_town_42 : decode cX11_town 42 = .ok (.invokestatic 86, 3) := by decide +kernel
theorem dX11_town_45 : decode cX11_town 45 = .ok (.ifCond .eq 22, 3) := by decide +kernel
theorem dX11_town_48 : decode cX11_town 48 = .ok (.aload_n 0, 1) := by decide +kernel
theorem dX11_town_49 : decode cX11_town 49 = .ok (.getfield 35, 3) := by decide +kernel
theorem dX11_town_52 : decode cX11_town 52 = .ok (.getfield 106, 3) := by decide +kernel
theorem dX11_town_55 : decode cX11_town 55 = .ok (.istore_n 3, 1) := by decide +kernel
theorem dX11_town_56 : decode cX11_town 56 = .ok (.aload_n 0, 1) := by decide +kernel
theorem dX11_town_57 : decode cX11_town 57 = .ok (.getfield 35, 3) := by decide +kernel
theorem dX11_town_60 : decode cX11_town 60 = .ok (.iload_n 2, 1) := by decide +kernel
theorem dX11_town_61 : decode cX11_town 61 = .ok (.putfield 106, 3) := by decide +kernel
theorem dX11_town_64 : decode cX11_town 64 = .ok (.goto 44, 3) := by decide +kernel
theorem dX11_town_67 : decode cX11_town 67 = .ok (.iload_n 1, 1) := by decide +kernel
theorem dX11_town_68 : decode cX11_town 68 = .ok (.iconst 2, 1) := by decide +kernel
theorem dX11_town_69 : decode cX11_town 69 = .ok (.if_icmp .ne 32, 3) := by decide +kernel
theorem dX11_town_72 : decode cX11_town 72 = .ok (.iload_n 2, 1) := by decide +kernel
theorem dX11_town_73 : decode cX11_town 73 = .ok (.iconst 0, 1) := by decide +kernel
theorem dX11_town_74 : decode cX11_town 74 = .ok (.ldc 109, 2) := by decide +kernel
theorem dX11_town_76 : decode cX11_town 76 = .ok (.invokestatic 86, 3) := by decide +kernel
theorem dX11_town_79 : decode cX11_town 79 = .ok (.ifCond .eq 22, 3) := by decide +kernel
theorem dX11_town_82 : decode cX11_town 82 = .ok (.aload_n 0, 1) := by decide +kernel
theorem dX11_town_83 : decode cX11_town 83 = .ok (.getfield 35, 3) := by decide +kernel
theorem dX11_town_86 : decode cX11_town 86 = .ok (.getfield 110, 3) := by decide +kernel
theorem dX11_town_89 : decode cX11_town 89 = .ok (.istore_n 3, 1) := by decide +kernel
theorem dX11_town_90 : decode cX11_town 90 = .ok (.aload_n 0, 1) := by decide +kernel
theorem dX11_town_91 : decode cX11_town 91 = .ok (.getfield 35, 3) := by decide +kernel
theorem dX11_town_94 : decode cX11_town 94 = .ok (.iload_n 2, 1) := by decide +kernel
theorem dX11_town_95 : decode cX11_town 95 = .ok (.putfield 110, 3) := by decide +kernel
theorem dX11_town_98 : decode cX11_town 98 = .ok (.goto 10, 3) := by decide +kernel
theorem dX11_town_101 : decode cX11_town 101 = .ok (.aload_n 0, 1) := by decide +kernel
theorem dX11_town_102 : decode cX11_town 102 = .ok (.ldc 81, 2) := by decide +kernel
theorem dX11_town_104 : decode cX11_town 104 = .ok (.invokevirtual 82, 3) := by decide +kernel
theorem dX11_town_107 : decode cX11_town 107 = .ok (.istore_n 3, 1) := by decide +kernel
theorem dX11_town_108 : decode cX11_town 108 = .ok (.iload_n 3, 1) := by decide +kernel
theorem dX11_town_109 : decode cX11_town 109 = .ok (.ireturn, 1) := by decide +kernel
theorem dX11_heir_0 : decode cX11_heir 0 = .ok (.iload_n 1, 1) := by decide +kernel
theorem dX11_heir_1 : decode cX11_heir 1 = .ok (.invokestatic 113, 3) := by decide +kernel
theorem dX11_heir_4 : decode cX11_heir 4 = .ok (.ifCond .eq 20, 3) := by decide +kernel
theorem dX11_heir_7 : decode cX11_heir 7 = .ok (.iload_n 2, 1) := by decide +kernel
theorem dX11_heir_8 : decode cX11_heir 8 = .ok (.invokestatic 77, 3) := by decide +kernel
theorem dX11_heir_11 : decode cX11_heir 11 = .ok (.ifCond .eq 13, 3) := by decide +kernel
theorem dX11_heir_14 : decode cX11_heir 14 = .ok (.iload_n 3, 1) := by decide +kernel
theorem dX11_heir_15 : decode cX11_heir 15 = .ok (.iconst 0, 1) := by decide +kernel
theorem dX11_heir_16 : decode cX11_heir 16 = .ok (.bipush 99, 2) := by decide +kernel
theorem dX11_heir_18 : decode cX11_heir 18 = .ok (.invokestatic 86, 3) := by decide +kernel
theorem dX11_heir_21 : decode cX11_heir 21 = .ok (.ifCond .ne 10, 3) := by decide +kernel
theorem dX11_heir_24 : decode cX11_heir 24 = .ok (.aload_n 0, 1) := by decide +kernel
theorem dX11_heir_25 : decode cX11_heir 25 = .ok (.ldc 81, 2) := by decide +kernel
theorem dX11_heir_27 : decode cX11_heir 27 = .ok (.invokevirtual 82, 3) := by decide +kernel
theorem dX11_heir_30 : decode cX11_heir 30 = .ok (.ireturn, 1) := by decide +kernel
theorem dX11_heir_31 : decode cX11_heir 31 = .ok (.aload_n 0, 1) := by decide +kernel
theorem dX11_heir_32 : decode cX11_heir 32 = .ok (.getfield 35, 3) := by decide +kernel
theorem dX11_heir_35 : decode cX11_heir 35 = .ok (.getfield 116, 3) := by decide +kernel
theorem dX11_heir_38 : decode cX11_heir 38 = .ok (.bipush 8, 2) := by decide +kernel
theorem dX11_heir_40 : decode cX11_heir 40 = .ok (.if_icmp .lt 10, 3) := by decide +kernel
theorem dX11_heir_43 : decode cX11_heir 43 = .ok (.aload_n 0, 1) := by decide +kernel
theorem dX11_heir_44 : decode cX11_heir 44 = .ok (.ldc 119, 2) := by decide +kernel
theorem dX11_heir_46 : decode cX11_heir 46 = .ok (.invokevirtual 82, 3) := by decide +kernel
theorem dX11_heir_49 : decode cX11_heir 49 = .ok (.ireturn, 1) := by decide +kernel
theorem dX11_heir_50 : decode cX11_heir 50 = .ok (.aload_n 0, 1) := by decide +kernel
theorem dX11_heir_51 : decode cX11_heir 51 = .ok (.getfield 35, 3) := by decide +kernel
theorem dX11_heir_54 : decode cX11_heir 54 = .ok (.iload_n 1, 1) := by decide +kernel
theorem dX11_heir_55 : decode cX11_heir 55 = .ok (.iload_n 2, 1) := by decide +kernel
theorem dX11_heir_56 : decode cX11_heir 56 = .ok (.iload_n 3, 1) := by decide +kernel
theorem dX11_heir_57 : decode cX11_heir 57 = .ok (.invokevirtual 120, 3) := by decide +kernel
theorem dX11_heir_60 : decode cX11_heir 60 = .ok (.ireturn, 1) := by decide +kernel
theorem dX11_ofHeir_0 : decode cX11_ofHeir 0 = .ok (.aload_n 0, 1) := by decide +kernel
theorem dX11_ofHeir_1 : decode cX11_ofHeir 1 = .ok (.iload_n 1, 1) := by decide +kernel
theorem dX11_ofHeir_2 : decode cX11_ofHeir 2 = .ok (.invokevirtual 124, 3) := by decide +kernel
theorem dX11_ofHeir_5 : decode cX11_ofHeir 5 = .ok (.ifCond .ne 10, 3) := by decide +kernel
theorem dX11_ofHeir_8 : decode cX11_ofHeir 8 = .ok (.aload_n 0, 1) := by decide +kernel
theorem dX11_ofHeir_9 : decode cX11_ofHeir 9 = .ok (.ldc 81, 2) := by decide +kernel
theorem dX11_ofHeir_11 : decode cX11_ofHeir 11 = .ok (.invokevirtual 82, 3) := by decide +kernel
theorem dX11_ofHeir_14 : decode cX11_ofHeir 14 = .ok (.ireturn, 1) := by decide +kernel
theorem dX11_ofHeir_15 : decode cX11_ofHeir 15 = .ok (.iload_n 2, 1) := by decide +kernel
theorem dX11_ofHeir_16 : decode cX11_ofHeir 16 = .ok (.tableswitch 199 0 9 #[56, 66, 76, 86, 96, 106, 116, 132, 173, 182], 56) := by decide +kernel
theorem dX11_ofHeir_72 : decode cX11_ofHeir 72 = .ok (.aload_n 0, 1) := by decide +kernel
theorem dX11_ofHeir_73 : decode cX11_ofHeir 73 = .ok (.getfield 35, 3) := by decide +kernel
theorem dX11_ofHeir_76 : decode cX11_ofHeir 76 = .ok (.getfield 127, 3) := by decide +kernel
theorem dX11_ofHeir_79 : decode cX11_ofHeir 79 = .ok (.iload_n 1, 1) := by decide +kernel
theorem dX11_ofHeir_80 : decode cX11_ofHeir 80 = .ok (.iaload, 1) := by decide +kernel
theorem dX11_ofHeir_81 : decode cX11_ofHeir 81 = .ok (.ireturn, 1) := by decide +kernel
theorem dX11_ofHeir_82 : decode cX11_ofHeir 82 = .ok (.aload_n 0, 1) := by decide +kernel
theorem dX11_ofHeir_83 : decode cX11_ofHeir 83 = .ok (.getfield 35, 3) := by decide +kernel
theorem dX11_ofHeir_86 : decode cX11_ofHeir 86 = .ok (.getfield 130, 3) := by decide +kernel
theorem dX11_ofHeir_89 : decode cX11_ofHeir 89 = .ok (.iload_n 1, 1) := by decide +kernel
theorem dX11_ofHeir_90 : decode cX11_ofHeir 90 = .ok (.iaload, 1) := by decide +kernel
theorem dX11_ofHeir_91 : decode cX11_ofHeir 91 = .ok (.ireturn, 1) := by decide +kernel
theorem dX11_ofHeir_92 : decode cX11_ofHeir 92 = .ok (.aload_n 0, 1) := by decide +kernel
theorem dX11_ofHeir_93 : decode cX11_ofHeir 93 = .ok (.getfield 35, 3) := by decide +kernel
theorem dX11_ofHeir_96 : decode cX11_ofHeir 96 = .ok (.getfield 133, 3) := by decide +kernel
theorem dX11_ofHeir_99 : decode cX11_ofHeir 99 = .ok (.iload_n 1, 1) := by decide +kernel
theorem dX11_ofHeir_100 : decode cX11_ofHeir 100 = .ok (.iaload, 1) := by decide +kernel
theorem dX11_ofHeir_101 : decode cX11_ofHeir 101 = .ok (.ireturn, 1) := by decide +kernel
theorem dX11_ofHeir_102 : decode cX11_ofHeir 102 = .ok (.aload_n 0, 1) := by decide +kernel
theorem dX11_ofHeir_103 : decode cX11_ofHeir 103 = .ok (.getfield 35, 3) := by decide +kernel
theorem dX11_ofHeir_106 : decode cX11_ofHeir 106 = .ok (.getfield 136, 3) := by decide +kernel
theorem dX11_ofHeir_109 : decode cX11_ofHeir 109 = .ok (.iload_n 1, 1) := by decide +kernel
theorem dX11_ofHeir_110 : decode cX11_ofHeir 110 = .ok (.iaload, 1) := by decide +kernel
theorem dX11_ofHeir_111 : decode cX11_ofHeir 111 = .ok (.ireturn, 1) := by decide +kernel
theorem dX11_ofHeir_112 : decode cX11_ofHeir 112 = .ok (.aload_n 0, 1) := by decide +kernel
theorem dX11_ofHeir_113 : decode cX11_ofHeir 113 = .ok (.getfield 35, 3) := by decide +kernel
theorem dX11_ofHeir_116 : decode cX11_ofHeir 116 = .ok (.getfield 139, 3) := by decide +kernel
theorem dX11_ofHeir_119 : decode cX11_ofHeir 119 = .ok (.iload_n 1, 1) := by decide +kernel
theorem dX11_ofHeir_120 : decode cX11_ofHeir 120 = .ok (.iaload, 1) := by decide +kernel
theorem dX11_ofHeir_121 : decode cX11_ofHeir 121 = .ok (.ireturn, 1) := by decide +kernel
theorem dX11_ofHeir_122 : decode cX11_ofHeir 122 = .ok (.aload_n 0, 1) := by decide +kernel
theorem dX11_ofHeir_123 : decode cX11_ofHeir 123 = .ok (.getfield 35, 3) := by decide +kernel
theorem dX11_ofHeir_126 : decode cX11_ofHeir 126 = .ok (.getfield 142, 3) := by decide +kernel
theorem dX11_ofHeir_129 : decode cX11_ofHeir 129 = .ok (.iload_n 1, 1) := by decide +kernel
theorem dX11_ofHeir_130 : decode cX11_ofHeir 130 = .ok (.iaload, 1) := by decide +kernel
theorem dX11_ofHeir_131 : decode cX11_ofHeir 131 = .ok (.ireturn, 1) := by decide +kernel
theorem dX11_ofHeir_132 : decode cX11_ofHeir 132 = .ok (.aload_n 0, 1) := by decide +kernel
theorem dX11_ofHeir_133 : decode cX11_ofHeir 133 = .ok (.getfield 35, 3) := by decide +kernel
theorem dX11_ofHeir_136 : decode cX11_ofHeir 136 = .ok (.iload_n 1, 1) := by decide +kernel
theorem dX11_ofHeir_137 : decode cX11_ofHeir 137 = .ok (.aload_n 0, 1) := by decide +kernel
theorem dX11_ofHeir_138 : decode cX11_ofHeir 138 = .ok (.getfield 35, 3) := by decide +kernel
theorem dX11_ofHeir_141 : decode cX11_ofHeir 141 = .ok (.getfield 102, 3) := by decide +kernel
theorem dX11_ofHeir_144 : decode cX11_ofHeir 144 = .ok (.invokevirtual 145, 3) := by decide +kernel
theorem dX11_ofHeir_147 : decode cX11_ofHeir 147 = .ok (.ireturn, 1) := by decide +kernel
theorem dX11_ofHeir_148 : decode cX11_ofHeir 148 = .ok (.aload_n 0, 1) := by decide +kernel
theorem dX11_ofHeir_149 : decode cX11_ofHeir 149 = .ok (.getfield 35, 3) := by decide +kernel
theorem dX11_ofHeir_152 : decode cX11_ofHeir 152 = .ok (.iload_n 1, 1) := by decide +kernel
theorem dX11_ofHeir_153 : decode cX11_ofHeir 153 = .ok (.aload_n 0, 1) := by decide +kernel
theorem dX11_ofHeir_154 : decode cX11_ofHeir 154 = .ok (.getfield 35, 3) := by decide +kernel
theorem dX11_ofHeir_157 : decode cX11_ofHeir 157 = .ok (.iload_n 1, 1) := by decide +kernel
theorem dX11_ofHeir_158 : decode cX11_ofHeir 158 = .ok (.invokevirtual 149, 3) := by decide +kernel
theorem dX11_ofHeir_161 : decode cX11_ofHeir 161 = .ok (.ifCond .eq 15, 3) := by decide +kernel
theorem dX11_ofHeir_164 : decode cX11_ofHeir 164 = .ok (.aload_n 0, 1) := by decide +kernel
theorem dX11_ofHeir_165 : decode cX11_ofHeir 165 = .ok (.getfield 35, 3) := by decide +kernel
theorem dX11_ofHeir_168 : decode cX11_ofHeir 168 = .ok (.getfield 139, 3) := by decide +kernel
theorem dX11_ofHeir_171 : decode cX11_ofHeir 171 = .ok (.iload_n 1, 1) := by decide +kernel
theorem dX11_ofHeir_172 : decode cX11_ofHeir 172 = .ok (.iaload, 1) := by decide +kernel
theorem dX11_ofHeir_173 : decode cX11_ofHeir 173 = .ok (.goto 12, 3) := by decide +kernel
theorem dX11_ofHeir_176 : decode cX11_ofHeir 176 = .ok (.aload_n 0, 1) := by decide +kernel
theorem dX11_ofHeir_177 : decode cX11_ofHeir 177 = .ok (.getfield 35, 3) := by decide +kernel
theorem dX11_ofHeir_180 : decode cX11_ofHeir 180 = .ok (.getfield 133, 3) := by decide +kernel
theorem dX11_ofHeir_183 : decode cX11_ofHeir 183 = .ok (.iload_n 1, 1) := by decide +kernel
theorem dX11_ofHeir_184 : decode cX11_ofHeir 184 = .ok (.iaload, 1) := by decide +kernel
theorem dX11_ofHeir_185 : decode cX11_ofHeir 185 = .ok (.invokevirtual 152, 3) := by decide +kernel
theorem dX11_ofHeir_188 : decode cX11_ofHeir 188 = .ok (.ireturn, 1) := by decide +kernel
theorem dX11_ofHeir_189 : decode cX11_ofHeir 189 = .ok (.aload_n 0, 1) := by decide +kernel
theorem dX11_ofHeir_190 : decode cX11_ofHeir 190 = .ok (.getfield 35, 3) := by decide +kernel
theorem dX11_ofHeir_193 : decode cX11_ofHeir 193 = .ok (.iload_n 1, 1) := by decide +kernel
theorem dX11_ofHeir_194 : decode cX11_ofHeir 194 = .ok (.invokevirtual 155, 3) := by decide +kernel
theorem dX11_ofHeir_197 : decode cX11_ofHeir 197 = .ok (.ireturn, 1) := by decide +kernel
theorem dX11_ofHeir_198 : decode cX11_ofHeir 198 = .ok (.aload_n 0, 1) := by decide +kernel
theorem dX11_ofHeir_199 : decode cX11_ofHeir 199 = .ok (.getfield 35, 3) := by decide +kernel
theorem dX11_ofHeir_202 : decode cX11_ofHeir 202 = .ok (.iload_n 1, 1) := by decide +kernel
theorem dX11_ofHeir_203 : decode cX11_ofHeir 203 = .ok (.invokevirtual 158, 3) := by decide +kernel
theorem dX11_ofHeir_206 : decode cX11_ofHeir 206 = .ok (.ifCond .eq 7, 3) := by decide +kernel
theorem dX11_ofHeir_209 : decode cX11_ofHeir 209 = .ok (.iconst 1, 1) := by decide +kernel
theorem dX11_ofHeir_210 : decode cX11_ofHeir 210 = .ok (.goto 4, 3) := by decide +kernel
theorem dX11_ofHeir_213 : decode cX11_ofHeir 213 = .ok (.iconst 0, 1) := by decide +kernel
theorem dX11_ofHeir_214 : decode cX11_ofHeir 214 = .ok (.ireturn, 1) := by decide +kernel
theorem dX11_ofHeir_215 : decode cX11_ofHeir 215 = .ok (.aload_n 0, 1) := by decide +kernel
theorem dX11_ofHeir_216 : decode cX11_ofHeir 216 = .ok (.ldc 81, 2) := by decide +kernel
theorem dX11_ofHeir_218 : decode cX11_ofHeir 218 = .ok (.invokevirtual 82, 3) := by decide +kernel
theorem dX11_ofHeir_221 : decode cX11_ofHeir 221 = .ok (.ireturn, 1) := by decide +kernel
theorem dX11_change_0 : decode cX11_change 0 = .ok (.aload_n 0, 1) := by decide +kernel
theorem dX11_change_1 : decode cX11_change 1 = .ok (.iload_n 1, 1) := by decide +kernel
theorem dX11_change_2 : decode cX11_change 2 = .ok (.invokevirtual 124, 3) := by decide +kernel
theorem dX11_change_5 : decode cX11_change 5 = .ok (.ifCond .eq 11, 3) := by decide +kernel
theorem dX11_change_8 : decode cX11_change 8 = .ok (.iload_n 2, 1) := by decide +kernel
theorem dX11_change_9 : decode cX11_change 9 = .ok (.iload_n 3, 1) := by decide +kernel
theorem dX11_change_10 : decode cX11_change 10 = .ok (.invokestatic 161, 3) := by decide +kernel
theorem dX11_change_13 : decode cX11_change 13 = .ok (.ifCond .ne 10, 3) := by decide +kernel
theorem dX11_change_16 : decode cX11_change 16 = .ok (.aload_n 0, 1) := by decide +kernel
theorem dX11_change_17 : decode cX11_change 17 = .ok (.ldc 81, 2) := by decide +kernel
theorem dX11_change_19 : decode cX11_change 19 = .ok (.invokevirtual 82, 3) := by decide +kernel
theorem dX11_change_22 : decode cX11_change 22 = .ok (.ireturn, 1) := by decide +kernel
theorem dX11_change_23 : decode cX11_change 23 = .ok (.iload_n 2, 1) := by decide +kernel
theorem dX11_change_24 : decode cX11_change 24 = .ok (.ifCond .ne 27, 3) := by decide +kernel
theorem dX11_change_27 : decode cX11_change 27 = .ok (.aload_n 0, 1) := by decide +kernel
theorem dX11_change_28 : decode cX11_change 28 = .ok (.getfield 35, 3) := by decide +kernel
theorem dX11_change_31 : decode cX11_change 31 = .ok (.getfield 133, 3) := by decide +kernel
theorem dX11_change_34 : decode cX11_change 34 = .ok (.iload_n 1, 1) := by decide +kernel
theorem dX11_change_35 : decode cX11_change 35 = .ok (.iaload, 1) := by decide +kernel
theorem dX11_change_36 : decode cX11_change 36 = .ok (.istore 4, 2) := by decide +kernel
theorem dX11_change_38 : decode cX11_change 38 = .ok (.aload_n 0, 1) := by decide +kernel
theorem dX11_change_39 : decode cX11_change 39 = .ok (.getfield 35, 3) := by decide +kernel
theorem dX11_change_42 : decode cX11_change 42 = .ok (.getfield 133, 3) := by decide +kernel
theorem dX11_change_45 : decode cX11_change 45 = .ok (.iload_n 1, 1) := by decide +kernel
theorem dX11_change_46 : decode cX11_change 46 = .ok (.iload_n 3, 1) := by decide +kernel
theorem dX11_change_47 : decode cX11_change 47 = .ok (.iastore, 1) := by decide +kernel
theorem dX11_change_48 : decode cX11_change 48 = .ok (.goto 103, 3) := by decide +kernel
theorem dX11_change_51 : decode cX11_change 51 = .ok (.iload_n 2, 1) := by decide +kernel
theorem dX11_change_52 : decode cX11_change 52 = .ok (.iconst 1, 1) := by decide +kernel
theorem dX11_change_53 : decode cX11_change 53 = .ok (.if_icmp .ne 26, 3) := by decide +kernel
theorem dX11_change_56 : decode cX11_change 56 = .ok (.aload_n 0, 1) := by decide +kernel
theorem dX11_change_57 : decode cX11_change 57 = .ok (.getfield 35, 3) := by decide +kernel
theorem dX11_change_60 : decode cX11_change 60 = .ok (.getfield 136, 3) := by decide +kernel
theorem dX11_change_63 : decode cX11_change 63 = .ok (.iload_n 1, 1) := by decide +kernel
theorem dX11_change_64 : decode cX11_change 64 = .ok (.iaload, 1) := by decide +kernel
theorem dX11_change_65 : decode cX11_change 65 = .ok (.istore 4, 2) := by decide +kernel
theorem dX11_change_67 : decode cX11_change 67 = .ok (.aload_n 0, 1) := by decide +kernel
theorem dX11_change_68 : decode cX11_change 68 = .ok (.getfield 35, 3) := by decide +kernel
theorem dX11_change_71 : decode cX11_change 71 = .ok (.iload_n 1, 1) := by decide +kernel
theorem dX11_change_72 : decode cX11_change 72 = .ok (.iload_n 3, 1) := by decide +kernel
theorem dX11_change_73 : decode cX11_change 73 = .ok (.invokevirtual 165, 3) := by decide +kernel
theorem dX11_change_76 : decode cX11_change 76 = .ok (.goto 75, 3) := by decide +kernel
theorem dX11_change_79 : decode cX11_change 79 = .ok (.iload_n 2, 1) := by decide +kernel
theorem dX11_change_80 : decode cX11_change 80 = .ok (.iconst 3, 1) := by decide +kernel
theorem dX11_change_81 : decode cX11_change 81 = .ok (.if_icmp .ne 27, 3) := by decide +kernel
theorem dX11_change_84 : decode cX11_change 84 = .ok (.aload_n 0, 1) := by decide +kernel
theorem dX11_change_85 : decode cX11_change 85 = .ok (.getfield 35, 3) := by decide +kernel
theorem dX11_change_88 : decode cX11_change 88 = .ok (.getfield 142, 3) := by decide +kernel
theorem dX11_change_91 : decode cX11_change 91 = .ok (.iload_n 1, 1) := by decide +kernel
theorem dX11_change_92 : decode cX11_change 92 = .ok (.iaload, 1) := by decide +kernel
theorem dX11_change_93 : decode cX11_change 93 = .ok (.istore 4, 2) := by decide +kernel
theorem dX11_change_95 : decode cX11_change 95 = .ok (.aload_n 0, 1) := by decide +kernel
theorem dX11_change_96 : decode cX11_change 96 = .ok (.getfield 35, 3) := by decide +kernel
theorem dX11_change_99 : decode cX11_change 99 = .ok (.getfield 142, 3) := by decide +kernel
theorem dX11_change_102 : decode cX11_change 102 = .ok (.iload_n 1, 1) := by decide +kernel
theorem dX11_change_103 : decode cX11_change 103 = .ok (.iload_n 3, 1) := by decide +kernel
theorem dX11_change_104 : decode cX11_change 104 = .ok (.iastore, 1) := by decide +kernel
theorem dX11_change_105 : decode cX11_change 105 = .ok (.goto 46, 3) := by decide +kernel
theorem dX11_change_108 : decode cX11_change 108 = .ok (.aload_n 0, 1) := by decide +kernel
theorem dX11_change_109 : decode cX11_change 109 = .ok (.getfield 35, 3) := by decide +kernel
theorem dX11_change_112 : decode cX11_change 112 = .ok (.iload_n 1, 1) := by decide +kernel
theorem dX11_change_113 : decode cX11_change 113 = .ok (.invokevirtual 149, 3) := by decide +kernel
theorem dX11_change_116 : decode cX11_change 116 = .ok (.ifCond .eq 27, 3) := by decide +kernel
theorem dX11_change_119 : decode cX11_change 119 = .ok (.aload_n 0, 1) := by decide +kernel
theorem dX11_change_120 : decode cX11_change 120 = .ok (.getfield 35, 3) := by decide +kernel
theorem dX11_change_123 : decode cX11_change 123 = .ok (.getfield 139, 3) := by decide +kernel
theorem dX11_change_126 : decode cX11_change 126 = .ok (.iload_n 1, 1) := by decide +kernel
theorem dX11_change_127 : decode cX11_change 127 = .ok (.iaload, 1) := by decide +kernel
theorem dX11_change_128 : decode cX11_change 128 = .ok (.istore 4, 2) := by decide +kernel
theorem dX11_change_130 : decode cX11_change 130 = .ok (.aload_n 0, 1) := by decide +kernel
theorem dX11_change_131 : decode cX11_change 131 = .ok (.getfield 35, 3) := by decide +kernel
theorem dX11_change_134 : decode cX11_change 134 = .ok (.getfield 139, 3) := by decide +kernel
theorem dX11_change_137 : decode cX11_change 137 = .ok (.iload_n 1, 1) := by decide +kernel
theorem dX11_change_138 : decode cX11_change 138 = .ok (.iload_n 3, 1) := by decide +kernel
theorem dX11_change_139 : decode cX11_change 139 = .ok (.iastore, 1) := by decide +kernel
theorem dX11_change_140 : decode cX11_change 140 = .ok (.goto 11, 3) := by decide +kernel
theorem dX11_change_143 : decode cX11_change 143 = .ok (.aload_n 0, 1) := by decide +kernel
theorem dX11_change_144 : decode cX11_change 144 = .ok (.ldc 169, 2) := by decide +kernel
theorem dX11_change_146 : decode cX11_change 146 = .ok (.invokevirtual 82, 3) := by decide +kernel
theorem dX11_change_149 : decode cX11_change 149 = .ok (.istore 4, 2) := by decide +kernel
theorem dX11_change_151 : decode cX11_change 151 = .ok (.iload 4, 2) := by decide +kernel
theorem dX11_change_153 : decode cX11_change 153 = .ok (.ireturn, 1) := by decide +kernel
theorem dX11_become_0 : decode cX11_become 0 = .ok (.aload_n 0, 1) := by decide +kernel
theorem dX11_become_1 : decode cX11_become 1 = .ok (.iload_n 1, 1) := by decide +kernel
theorem dX11_become_2 : decode cX11_become 2 = .ok (.invokevirtual 124, 3) := by decide +kernel
theorem dX11_become_5 : decode cX11_become 5 = .ok (.ifCond .eq 10, 3) := by decide +kernel
theorem dX11_become_8 : decode cX11_become 8 = .ok (.iload_n 2, 1) := by decide +kernel
theorem dX11_become_9 : decode cX11_become 9 = .ok (.invokestatic 113, 3) := by decide +kernel
theorem dX11_become_12 : decode cX11_become 12 = .ok (.ifCond .ne 10, 3) := by decide +kernel
theorem dX11_become_15 : decode cX11_become 15 = .ok (.aload_n 0, 1) := by decide +kernel
theorem dX11_become_16 : decode cX11_become 16 = .ok (.ldc 81, 2) := by decide +kernel
theorem dX11_become_18 : decode cX11_become 18 = .ok (.invokevirtual 82, 3) := by decide +kernel
theorem dX11_become_21 : decode cX11_become 21 = .ok (.ireturn, 1) := by decide +kernel
theorem dX11_become_22 : decode cX11_become 22 = .ok (.aload_n 0, 1) := by decide +kernel
theorem dX11_become_23 : decode cX11_become 23 = .ok (.getfield 35, 3) := by decide +kernel
theorem dX11_become_26 : decode cX11_become 26 = .ok (.getfield 127, 3) := by decide +kernel
theorem dX11_become_29 : decode cX11_become 29 = .ok (.iload_n 1, 1) := by decide +kernel
theorem dX11_become_30 : decode cX11_become 30 = .ok (.iaload, 1) := by decide +kernel
theorem dX11_become_31 : decode cX11_become 31 = .ok (.istore_n 3, 1) := by decide +kernel
theorem dX11_become_32 : decode cX11_become 32 = .ok (.aload_n 0, 1) := by decide +kernel
theorem dX11_become_33 : decode cX11_become 33 = .ok (.getfield 35, 3) := by decide +kernel
theorem dX11_become_36 : decode cX11_become 36 = .ok (.getfield 127, 3) := by decide +kernel
theorem dX11_become_39 : decode cX11_become 39 = .ok (.iload_n 1, 1) := by decide +kernel
theorem dX11_become_40 : decode cX11_become 40 = .ok (.iload_n 2, 1) := by decide +kernel
theorem dX11_become_41 : decode cX11_become 41 = .ok (.bipush 10, 2) := by decide +kernel
theorem dX11_become_43 : decode cX11_become 43 = .ok (.idiv, 1) := by decide +kernel
theorem dX11_become_44 : decode cX11_become 44 = .ok (.iastore, 1) := by decide +kernel
theorem dX11_become_45 : decode cX11_become 45 = .ok (.aload_n 0, 1) := by decide +kernel
theorem dX11_become_46 : decode cX11_become 46 = .ok (.getfield 35, 3) := by decide +kernel
theorem dX11_become_49 : decode cX11_become 49 = .ok (.getfield 130, 3) := by decide +kernel
theorem dX11_become_52 : decode cX11_become 52 = .ok (.iload_n 1, 1) := by decide +kernel
theorem dX11_become_53 : decode cX11_become 53 = .ok (.iload_n 2, 1) := by decide +kernel
theorem dX11_become_54 : decode cX11_become 54 = .ok (.bipush 10, 2) := by decide +kernel
theorem dX11_become_56 : decode cX11_become 56 = .ok (.irem, 1) := by decide +kernel
theorem dX11_become_57 : decode cX11_become 57 = .ok (.iastore, 1) := by decide +kernel
theorem dX11_become_58 : decode cX11_become 58 = .ok (.iload_n 3, 1) := by decide +kernel
theorem dX11_become_59 : decode cX11_become 59 = .ok (.ireturn, 1) := by decide +kernel
theorem dX11_as_0 : decode cX11_as 0 = .ok (.aload_n 0, 1) := by decide +kernel
theorem dX11_as_1 : decode cX11_as 1 = .ok (.iload_n 1, 1) := by decide +kernel
theorem dX11_as_2 : decode cX11_as 2 = .ok (.invokevirtual 124, 3) := by decide +kernel
theorem dX11_as_5 : decode cX11_as 5 = .ok (.ifCond .eq 13, 3) := by decide +kernel
theorem dX11_as_8 : decode cX11_as 8 = .ok (.iload_n 2, 1) := by decide +kernel
theorem dX11_as_9 : decode cX11_as 9 = .ok (.iconst 0, 1) := by decide +kernel
theorem dX11_as_10 : decode cX11_as 10 = .ok (.bipush 6, 2) := by decide +kernel
theorem dX11_as_12 : decode cX11_as 12 = .ok (.invokestatic 86, 3) := by decide +kernel
theorem dX11_as_15 : decode cX11_as 15 = .ok (.ifCond .ne 10, 3) := by decide +kernel
theorem dX11_as_18 : decode cX11_as 18 = .ok (.aload_n 0, 1) := by decide +kernel
theorem dX11_as_19 : decode cX11_as 19 = .ok (.ldc 81, 2) := by decide +kernel
theorem dX11_as_21 : decode cX11_as 21 = .ok (.invokevirtual 82, 3) := by decide +kernel
theorem dX11_as_24 : decode cX11_as 24 = .ok (.ireturn, 1) := by decide +kernel
theorem dX11_as_25 : decode cX11_as 25 = .ok (.aload_n 0, 1) := by decide +kernel
theorem dX11_as_26 : decode cX11_as 26 = .ok (.getfield 35, 3) := by decide +kernel
theorem dX11_as_29 : decode cX11_as 29 = .ok (.getfield 127, 3) := by decide +kernel
theorem dX11_as_32 : decode cX11_as 32 = .ok (.iload_n 1, 1) := by decide +kernel
theorem dX11_as_33 : decode cX11_as 33 = .ok (.iaload, 1) := by decide +kernel
theorem dX11_as_34 : decode cX11_as 34 = .ok (.iload_n 2, 1) := by decide +kernel
theorem dX11_as_35 : decode cX11_as 35 = .ok (.invokestatic 170, 3) := by decide +kernel
theorem dX11_as_38 : decode cX11_as 38 = .ok (.ifCond .eq 15, 3) := by decide +kernel
theorem dX11_as_41 : decode cX11_as 41 = .ok (.aload_n 0, 1) := by decide +kernel
theorem dX11_as_42 : decode cX11_as 42 = .ok (.getfield 35, 3) := by decide +kernel
theorem dX11_as_45 : decode cX11_as 45 = .ok (.getfield 130, 3) := by decide +kernel
theorem dX11_as_48 : decode cX11_as 48 = .ok (.iload_n 1, 1) := by decide +kernel
theorem dX11_as_49 : decode cX11_as 49 = .ok (.iaload, 1) := by decide +kernel
theorem dX11_as_50 : decode cX11_as 50 = .ok (.goto 9, 3) := by decide +kernel
theorem dX11_as_53 : decode cX11_as 53 = .ok (.aload_n 0, 1) := by decide +kernel
theorem dX11_as_54 : decode cX11_as 54 = .ok (.ldc 173, 2) := by decide +kernel
theorem dX11_as_56 : decode cX11_as 56 = .ok (.invokevirtual 82, 3) := by decide +kernel
theorem dX11_as_59 : decode cX11_as 59 = .ok (.ireturn, 1) := by decide +kernel
theorem dX11_feed_0 : decode cX11_feed 0 = .ok (.iload_n 3, 1) := by decide +kernel
theorem dX11_feed_1 : decode cX11_feed 1 = .ok (.iconst 1, 1) := by decide +kernel
theorem dX11_feed_2 : decode cX11_feed 2 = .ok (.bipush 8, 2) := by decide +kernel
theorem dX11_feed_4 : decode cX11_feed 4 = .ok (.invokestatic 86, 3) := by decide +kernel
theorem dX11_feed_7 : decode cX11_feed 7 = .ok (.ifCond .ne 10, 3) := by decide +kernel
theorem dX11_feed_10 : decode cX11_feed 10 = .ok (.aload_n 0, 1) := by decide +kernel
theorem dX11_feed_11 : decode cX11_feed 11 = .ok (.ldc 81, 2) := by decide +kernel
theorem dX11_feed_13 : decode cX11_feed 13 = .ok (.invokevirtual 82, 3) := by decide +kernel
theorem dX11_feed_16 : decode cX11_feed 16 = .ok (.ireturn, 1) := by decide +kernel
theorem dX11_feed_17 : decode cX11_feed 17 = .ok (.aload_n 0, 1) := by decide +kernel
theorem dX11_feed_18 : decode cX11_feed 18 = .ok (.getfield 48, 3) := by decide +kernel
theorem dX11_feed_21 : decode cX11_feed 21 = .ok (.getfield 174, 3) := by decide +kernel
theorem dX11_feed_24 : decode cX11_feed 24 = .ok (.iload_n 3, 1) := by decide +kernel
theorem dX11_feed_25 : decode cX11_feed 25 = .ok (.iadd, 1) := by decide +kernel
theorem dX11_feed_26 : decode cX11_feed 26 = .ok (.bipush 50, 2) := by decide +kernel
theorem dX11_feed_28 : decode cX11_feed 28 = .ok (.if_icmp .le 10, 3) := by decide +kernel
theorem dX11_feed_31 : decode cX11_feed 31 = .ok (.aload_n 0, 1) := by decide +kernel
theorem dX11_feed_32 : decode cX11_feed 32 = .ok (.ldc 119, 2) := by decide +kernel
theorem dX11_feed_34 : decode cX11_feed 34 = .ok (.invokevirtual 82, 3) := by decide +kernel
theorem dX11_feed_37 : decode cX11_feed 37 = .ok (.ireturn, 1) := by decide +kernel
theorem dX11_feed_38 : decode cX11_feed 38 = .ok (.iconst 0, 1) := by decide +kernel
theorem dX11_feed_39 : decode cX11_feed 39 = .ok (.istore 4, 2) := by decide +kernel
theorem dX11_feed_41 : decode cX11_feed 41 = .ok (.iload 4, 2) := by decide +kernel
theorem dX11_feed_43 : decode cX11_feed 43 = .ok (.iload_n 3, 1) := by decide +kernel
theorem dX11_feed_44 : decode cX11_feed 44 = .ok (.if_icmp .ge 28, 3) := by decide +kernel
theorem dX11_feed_47 : decode cX11_feed 47 = .ok (.aload_n 0, 1) := by decide +kernel
theorem dX11_feed_48 : decode cX11_feed 48 = .ok (.getfield 48, 3) := by decide +kernel
theorem dX11_feed_51 : decode cX11_feed 51 = .ok (.lload_n 1, 1) := by decide +kernel
theorem dX11_feed_52 : decode cX11_feed 52 = .ok (.bipush 8, 2) := by decide +kernel
theorem dX11_feed_54 : decode cX11_feed 54 = .ok (.iload 4, 2) := by decide +kernel
theorem dX11_feed_56 : decode cX11_feed 56 = .ok (.imul, 1) := by decide +kernel
theorem dX11_feed_57 : decode cX11_feed 57 = .ok (.lushr, 1) := by decide +kernel
theorem dX11_feed_58 : decode cX11_feed 58 = .ok (.ldc2_w 177, 3) := by decide +kernel
theorem dX11_feed_61 : decode cX11_feed 61 = .ok (.land, 1) := by decide +kernel
theorem dX11_feed_62 : decode cX11_feed 62 = .ok (.l2i, 1) := by decide +kernel
theorem dX11_feed_63 : decode cX11_feed 63 = .ok (.invokevirtual 179, 3) := by decide +kernel
theorem dX11_feed_66 : decode cX11_feed 66 = .ok (.iinc 4 1, 3) := by decide +kernel
theorem dX11_feed_69 : decode cX11_feed 69 = .ok (.goto (-28), 3) := by decide +kernel
theorem dX11_feed_72 : decode cX11_feed 72 = .ok (.aload_n 0, 1) := by decide +kernel
theorem dX11_feed_73 : decode cX11_feed 73 = .ok (.getfield 48, 3) := by decide +kernel
theorem dX11_feed_76 : decode cX11_feed 76 = .ok (.getfield 174, 3) := by decide +kernel
theorem dX11_feed_79 : decode cX11_feed 79 = .ok (.ireturn, 1) := by decide +kernel
theorem dX11_text_0 : decode cX11_text 0 = .ok (.iload_n 1, 1) := by decide +kernel
theorem dX11_text_1 : decode cX11_text 1 = .ok (.iconst 0, 1) := by decide +kernel
theorem dX11_text_2 : decode cX11_text 2 = .ok (.iconst 1, 1) := by decide +kernel
theorem dX11_text_3 : decode cX11_text 3 = .ok (.invokestatic 86, 3) := by decide +kernel
theorem dX11_text_6 : decode cX11_text 6 = .ok (.ifCond .ne 10, 3) := by decide +kernel
theorem dX11_text_9 : decode cX11_text 9 = .ok (.aload_n 0, 1) := by decide +kernel
theorem dX11_text_10 : decode cX11_text 10 = .ok (.ldc 81, 2) := by decide +kernel
theorem dX11_text_12 : decode cX11_text 12 = .ok (.invokevirtual 82, 3) := by decide +kernel
theorem dX11_text_15 : decode cX11_text 15 = .ok (.ireturn, 1) := by decide +kernel
theorem dX11_text_16 : decode cX11_text 16 = .ok (.iload_n 1, 1) := by decide +kernel
theorem dX11_text_17 : decode cX11_text 17 = .ok (.ifCond .ne 13, 3) := by decide +kernel
theorem dX11_text_20 : decode cX11_text 20 = .ok (.aload_n 0, 1) := by decide +kernel
theorem dX11_text_21 : decode cX11_text 21 = .ok (.getfield 48, 3) := by decide +kernel
theorem dX11_text_24 : decode cX11_text 24 = .ok (.getfield 183, 3) := by decide +kernel
theorem dX11_text_27 : decode cX11_text 27 = .ok (.goto 10, 3) := by decide +kernel
theorem dX11_text_30 : decode cX11_text 30 = .ok (.aload_n 0, 1) := by decide +kernel
theorem dX11_text_31 : decode cX11_text 31 = .ok (.getfield 48, 3) := by decide +kernel
theorem dX11_text_34 : decode cX11_text 34 = .ok (.getfield 187, 3) := by decide +kernel
theorem dX11_text_37 : decode cX11_text 37 = .ok (.astore_n 2, 1) := by decide +kernel
theorem dX11_text_38 : decode cX11_text 38 = .ok (.aload_n 2, 1) := by decide +kernel
theorem dX11_text_39 : decode cX11_text 39 = .ok (.aload_n 0, 1) := by decide +kernel
theorem dX11_text_40 : decode cX11_text 40 = .ok (.getfield 48, 3) := by decide +kernel
theorem dX11_text_43 : decode cX11_text 43 = .ok (.getfield 190, 3) := by decide +kernel
theorem dX11_text_46 : decode cX11_text 46 = .ok (.aload_n 0, 1) := by decide +kernel
theorem dX11_text_47 : decode cX11_text 47 = .ok (.getfield 48, 3) := by decide +kernel
theorem dX11_text_50 : decode cX11_text 50 = .ok (.getfield 174, 3) := by decide +kernel
theorem dX11_text_53 : decode cX11_text 53 = .ok (.invokevirtual 193, 3) := by decide +kernel
theorem dX11_text_56 : decode cX11_text 56 = .ok (.istore_n 3, 1) := by decide +kernel
theorem dX11_text_57 : decode cX11_text 57 = .ok (.aload_n 0, 1) := by decide +kernel
theorem dX11_text_58 : decode cX11_text 58 = .ok (.getfield 48, 3) := by decide +kernel
theorem dX11_text_61 : decode cX11_text 61 = .ok (.iconst 0, 1) := by decide +kernel
theorem dX11_text_62 : decode cX11_text 62 = .ok (.putfield 174, 3) := by decide +kernel
theorem dX11_text_65 : decode cX11_text 65 = .ok (.iload_n 3, 1) := by decide +kernel
theorem dX11_text_66 : decode cX11_text 66 = .ok (.ifCond .ge 7, 3) := by decide +kernel
theorem dX11_text_69 : decode cX11_text 69 = .ok (.iconst 1, 1) := by decide +kernel
theorem dX11_text_70 : decode cX11_text 70 = .ok (.goto 7, 3) := by decide +kernel
theorem dX11_text_73 : decode cX11_text 73 = .ok (.bipush (-10), 2) := by decide +kernel
theorem dX11_text_75 : decode cX11_text 75 = .ok (.iload_n 3, 1) := by decide +kernel
theorem dX11_text_76 : decode cX11_text 76 = .ok (.isub, 1) := by decide +kernel
theorem dX11_text_77 : decode cX11_text 77 = .ok (.ireturn, 1) := by decide +kernel
theorem dX11_law_0 : decode cX11_law 0 = .ok (.iload_n 1, 1) := by decide +kernel
theorem dX11_law_1 : decode cX11_law 1 = .ok (.iconst 0, 1) := by decide +kernel
theorem dX11_law_2 : decode cX11_law 2 = .ok (.iconst 1, 1) := by decide +kernel
theorem dX11_law_3 : decode cX11_law 3 = .ok (.invokestatic 86, 3) := by decide +kernel
theorem dX11_law_6 : decode cX11_law 6 = .ok (.ifCond .ne 10, 3) := by decide +kernel
theorem dX11_law_9 : decode cX11_law 9 = .ok (.aload_n 0, 1) := by decide +kernel
theorem dX11_law_10 : decode cX11_law 10 = .ok (.ldc 81, 2) := by decide +kernel
theorem dX11_law_12 : decode cX11_law 12 = .ok (.invokevirtual 82, 3) := by decide +kernel
theorem dX11_law_15 : decode cX11_law 15 = .ok (.ireturn, 1) := by decide +kernel
theorem dX11_law_16 : decode cX11_law 16 = .ok (.iload_n 1, 1) := by decide +kernel
theorem dX11_law_17 : decode cX11_law 17 = .ok (.ifCond .ne 20, 3) := by decide +kernel
theorem dX11_law_20 : decode cX11_law 20 = .ok (.aload_n 0, 1) := by decide +kernel
theorem dX11_law_21 : decode cX11_law 21 = .ok (.getfield 48, 3) := by decide +kernel
theorem dX11_law_24 : decode cX11_law 24 = .ok (.getfield 183, 3) := by decide +kernel
theorem dX11_law_27 : decode cX11_law 27 = .ok (.iload_n 2, 1) := by decide +kernel
theorem dX11_law_28 : decode cX11_law 28 = .ok (.iload_n 3, 1) := by decide +kernel
theorem dX11_law_29 : decode cX11_law 29 = .ok (.iload 4, 2) := by decide +kernel
theorem dX11_law_31 : decode cX11_law 31 = .ok (.invokevirtual 199, 3) := by decide +kernel
theorem dX11_law_34 : decode cX11_law 34 = .ok (.goto 17, 3) := by decide +kernel
theorem dX11_law_37 : decode cX11_law 37 = .ok (.aload_n 0, 1) := by decide +kernel
theorem dX11_law_38 : decode cX11_law 38 = .ok (.getfield 48, 3) := by decide +kernel
theorem dX11_law_41 : decode cX11_law 41 = .ok (.getfield 187, 3) := by decide +kernel
theorem dX11_law_44 : decode cX11_law 44 = .ok (.iload_n 2, 1) := by decide +kernel
theorem dX11_law_45 : decode cX11_law 45 = .ok (.iload_n 3, 1) := by decide +kernel
theorem dX11_law_46 : decode cX11_law 46 = .ok (.iload 4, 2) := by decide +kernel
theorem dX11_law_48 : decode cX11_law 48 = .ok (.invokevirtual 199, 3) := by decide +kernel
theorem dX11_law_51 : decode cX11_law 51 = .ok (.ireturn, 1) := by decide +kernel
theorem dX11_days_0 : decode cX11_days 0 = .ok (.iload_n 1, 1) := by decide +kernel
theorem dX11_days_1 : decode cX11_days 1 = .ok (.iconst 1, 1) := by decide +kernel
theorem dX11_days_2 : decode cX11_days 2 = .ok (.bipush 60, 2) := by decide +kernel
theorem dX11_days_4 : decode cX11_days 4 = .ok (.invokestatic 86, 3) := by decide +kernel
theorem dX11_days_7 : decode cX11_days 7 = .ok (.ifCond .ne 10, 3) := by decide +kernel
theorem dX11_days_10 : decode cX11_days 10 = .ok (.aload_n 0, 1) := by decide +kernel
theorem dX11_days_11 : decode cX11_days 11 = .ok (.ldc 81, 2) := by decide +kernel
theorem dX11_days_13 : decode cX11_days 13 = .ok (.invokevirtual 82, 3) := by decide +kernel
theorem dX11_days_16 : decode cX11_days 16 = .ok (.ireturn, 1) := by decide +kernel
theorem dX11_days_17 : decode cX11_days 17 = .ok (.aload_n 0, 1) := by decide +kernel
theorem dX11_days_18 : decode cX11_days 18 = .ok (.getfield 35, 3) := by decide +kernel
theorem dX11_days_21 : decode cX11_days 21 = .ok (.getfield 202, 3) := by decide +kernel
theorem dX11_days_24 : decode cX11_days 24 = .ok (.iload_n 1, 1) := by decide +kernel
theorem dX11_days_25 : decode cX11_days 25 = .ok (.iadd, 1) := by decide +kernel
theorem dX11_days_26 : decode cX11_days 26 = .ok (.sipush 9999, 3) := by decide +kernel
theorem dX11_days_29 : decode cX11_days 29 = .ok (.if_icmp .le 10, 3) := by decide +kernel
theorem dX11_days_32 : decode cX11_days 32 = .ok (.aload_n 0, 1) := by decide +kernel
theorem dX11_days_33 : decode cX11_days 33 = .ok (.ldc 169, 2) := by decide +kernel
theorem dX11_days_35 : decode cX11_days 35 = .ok (.invokevirtual 82, 3) := by decide +kernel
theorem dX11_days_38 : decode cX11_days 38 = .ok (.ireturn, 1) := by decide +kernel
theorem dX11_days_39 : decode cX11_days 39 = .ok (.aload_n 0, 1) := by decide +kernel
theorem dX11_days_40 : decode cX11_days 40 = .ok (.getfield 35, 3) := by decide +kernel
theorem dX11_days_43 : decode cX11_days 43 = .ok (.iload_n 1, 1) := by decide +kernel
theorem dX11_days_44 : decode cX11_days 44 = .ok (.aload_n 0, 1) := by decide +kernel
theorem dX11_days_45 : decode cX11_days 45 = .ok (.getfield 48, 3) := by decide +kernel
theorem dX11_days_48 : decode cX11_days 48 = .ok (.invokevirtual 205, 3) := by decide +kernel
theorem dX11_days_51 : decode cX11_days 51 = .ok (.aload_n 0, 1) := by decide +kernel
theorem dX11_days_52 : decode cX11_days 52 = .ok (.getfield 35, 3) := by decide +kernel
theorem dX11_days_55 : decode cX11_days 55 = .ok (.getfield 110, 3) := by decide +kernel
theorem dX11_days_58 : decode cX11_days 58 = .ok (.ireturn, 1) := by decide +kernel
theorem dX11_loose_0 : decode cX11_loose 0 = .ok (.iload_n 1, 1) := by decide +kernel
theorem dX11_loose_1 : decode cX11_loose 1 = .ok (.iconst 1, 1) := by decide +kernel
theorem dX11_loose_2 : decode cX11_loose 2 = .ok (.bipush 40, 2) := by decide +kernel
theorem dX11_loose_4 : decode cX11_loose 4 = .ok (.invokestatic 86, 3) := by decide +kernel
theorem dX11_loose_7 : decode cX11_loose 7 = .ok (.ifCond .ne 10, 3) := by decide +kernel
theorem dX11_loose_10 : decode cX11_loose 10 = .ok (.aload_n 0, 1) := by decide +kernel
theorem dX11_loose_11 : decode cX11_loose 11 = .ok (.ldc 81, 2) := by decide +kernel
theorem dX11_loose_13 : decode cX11_loose 13 = .ok (.invokevirtual 82, 3) := by decide +kernel
theorem dX11_loose_16 : decode cX11_loose 16 = .ok (.ireturn, 1) := by decide +kernel
theorem dX11_loose_17 : decode cX11_loose 17 = .ok (.aload_n 0, 1) := by decide +kernel
theorem dX11_loose_18 : decode cX11_loose 18 = .ok (.getfield 35, 3) := by decide +kernel
theorem dX11_loose_21 : decode cX11_loose 21 = .ok (.getfield 202, 3) := by decide +kernel
theorem dX11_loose_24 : decode cX11_loose 24 = .ok (.iload_n 1, 1) := by decide +kernel
theorem dX11_loose_25 : decode cX11_loose 25 = .ok (.iadd, 1) := by decide +kernel
theorem dX11_loose_26 : decode cX11_loose 26 = .ok (.sipush 9999, 3) := by decide +kernel
theorem dX11_loose_29 : decode cX11_loose 29 = .ok (.if_icmp .le 10, 3) := by decide +kernel
theorem dX11_loose_32 : decode cX11_loose 32 = .ok (.aload_n 0, 1) := by decide +kernel
theorem dX11_loose_33 : decode cX11_loose 33 = .ok (.ldc 169, 2) := by decide +kernel
theorem dX11_loose_35 : decode cX11_loose 35 = .ok (.invokevirtual 82, 3) := by decide +kernel
theorem dX11_loose_38 : decode cX11_loose 38 = .ok (.ireturn, 1) := by decide +kernel
theorem dX11_loose_39 : decode cX11_loose 39 = .ok (.iconst 0, 1) := by decide +kernel
theorem dX11_loose_40 : decode cX11_loose 40 = .ok (.istore_n 2, 1) := by decide +kernel
theorem dX11_loose_41 : decode cX11_loose 41 = .ok (.iload_n 2, 1) := by decide +kernel
theorem dX11_loose_42 : decode cX11_loose 42 = .ok (.iload_n 1, 1) := by decide +kernel
theorem dX11_loose_43 : decode cX11_loose 43 = .ok (.if_icmp .ge 72, 3) := by decide +kernel
theorem dX11_loose_46 : decode cX11_loose 46 = .ok (.aload_n 0, 1) := by decide +kernel
theorem dX11_loose_47 : decode cX11_loose 47 = .ok (.getfield 35, 3) := by decide +kernel
theorem dX11_loose_50 : decode cX11_loose 50 = .ok (.aload_n 0, 1) := by decide +kernel
theorem dX11_loose_51 : decode cX11_loose 51 = .ok (.getfield 48, 3) := by decide +kernel
theorem dX11_loose_54 : decode cX11_loose 54 = .ok (.invokevirtual 209, 3) := by decide +kernel
theorem dX11_loose_57 : decode cX11_loose 57 = .ok (.bipush 6, 2) := by decide +kernel
theorem dX11_loose_59 : decode cX11_loose 59 = .ok (.irem, 1) := by decide +kernel
theorem dX11_loose_60 : decode cX11_loose 60 = .ok (.putfield 102, 3) := by decide +kernel
theorem dX11_loose_63 : decode cX11_loose 63 = .ok (.aload_n 0, 1) := by decide +kernel
theorem dX11_loose_64 : decode cX11_loose 64 = .ok (.getfield 48, 3) := by decide +kernel
theorem dX11_loose_67 : decode cX11_loose 67 = .ok (.invokevirtual 209, 3) := by decide +kernel
theorem dX11_loose_70 : decode cX11_loose 70 = .ok (.istore_n 3, 1) := by decide +kernel
theorem dX11_loose_71 : decode cX11_loose 71 = .ok (.iload_n 3, 1) := by decide +kernel
theorem dX11_loose_72 : decode cX11_loose 72 = .ok (.iconst 4, 1) := by decide +kernel
theorem dX11_loose_73 : decode cX11_loose 73 = .ok (.irem, 1) := by decide +kernel
theorem dX11_loose_74 : decode cX11_loose 74 = .ok (.ifCond .ne 24, 3) := by decide +kernel
theorem dX11_loose_77 : decode cX11_loose 77 = .ok (.aload_n 0, 1) := by decide +kernel
theorem dX11_loose_78 : decode cX11_loose 78 = .ok (.getfield 35, 3) := by decide +kernel
theorem dX11_loose_81 : decode cX11_loose 81 = .ok (.getfield 93, 3) := by decide +kernel
theorem dX11_loose_84 : decode cX11_loose 84 = .ok (.iload_n 3, 1) := by decide +kernel
theorem dX11_loose_85 : decode cX11_loose 85 = .ok (.iconst 4, 1) := by decide +kernel
theorem dX11_loose_86 : decode cX11_loose 86 = .ok (.idiv, 1) := by decide +kernel
theorem dX11_loose_87 : decode cX11_loose 87 = .ok (.bipush 16, 2) := by decide +kernel
theorem dX11_loose_89 : decode cX11_loose 89 = .ok (.irem, 1) := by decide +kernel
theorem dX11_loose_90 : decode cX11_loose 90 = .ok (.iload_n 3, 1) := by decide +kernel
theorem dX11_loose_91 : decode cX11_loose 91 = .ok (.bipush 64, 2) := by decide +kernel
theorem dX11_loose_93 : decode cX11_loose 93 = .ok (.idiv, 1) := by decide +kernel
theorem dX11_loose_94 : decode cX11_loose 94 = .ok (.bipush 16, 2) := by decide +kernel
theorem dX11_loose_96 : decode cX11_loose 96 = .ok (.irem, 1) := by decide +kernel
theorem dX11_loose_97 : decode cX11_loose 97 = .ok (.iastore, 1) := by decide +kernel
theorem dX11_loose_98 : decode cX11_loose 98 = .ok (.aload_n 0, 1) := by decide +kernel
theorem dX11_loose_99 : decode cX11_loose 99 = .ok (.getfield 35, 3) := by decide +kernel
theorem dX11_loose_102 : decode cX11_loose 102 = .ok (.aload_n 0, 1) := by decide +kernel
theorem dX11_loose_103 : decode cX11_loose 103 = .ok (.getfield 48, 3) := by decide +kernel
theorem dX11_loose_106 : decode cX11_loose 106 = .ok (.invokevirtual 213, 3) := by decide +kernel
theorem dX11_loose_109 : decode cX11_loose 109 = .ok (.iinc 2 1, 3) := by decide +kernel
theorem dX11_loose_112 : decode cX11_loose 112 = .ok (.goto (-71), 3) := by decide +kernel
theorem dX11_loose_115 : decode cX11_loose 115 = .ok (.aload_n 0, 1) := by decide +kernel
theorem dX11_loose_116 : decode cX11_loose 116 = .ok (.getfield 35, 3) := by decide +kernel
theorem dX11_loose_119 : decode cX11_loose 119 = .ok (.getfield 110, 3) := by decide +kernel
theorem dX11_loose_122 : decode cX11_loose 122 = .ok (.ireturn, 1) := by decide +kernel
theorem dX11_then_0 : decode cX11_then 0 = .ok (.iload_n 1, 1) := by decide +kernel
theorem dX11_then_1 : decode cX11_then 1 = .ok (.iconst 0, 1) := by decide +kernel
theorem dX11_then_2 : decode cX11_then 2 = .ok (.bipush 60, 2) := by decide +kernel
theorem dX11_then_4 : decode cX11_then 4 = .ok (.invokestatic 86, 3) := by decide +kernel
theorem dX11_then_7 : decode cX11_then 7 = .ok (.ifCond .eq 11, 3) := by decide +kernel
theorem dX11_then_10 : decode cX11_then 10 = .ok (.aload_n 0, 1) := by decide +kernel
theorem dX11_then_11 : decode cX11_then 11 = .ok (.iload_n 2, 1) := by decide +kernel
theorem dX11_then_12 : decode cX11_then 12 = .ok (.invokevirtual 124, 3) := by decide +kernel
theorem dX11_then_15 : decode cX11_then 15 = .ok (.ifCond .ne 10, 3) := by decide +kernel
theorem dX11_then_18 : decode cX11_then 18 = .ok (.aload_n 0, 1) := by decide +kernel
theorem dX11_then_19 : decode cX11_then 19 = .ok (.ldc 81, 2) := by decide +kernel
theorem dX11_then_21 : decode cX11_then 21 = .ok (.invokevirtual 82, 3) := by decide +kernel
theorem dX11_then_24 : decode cX11_then 24 = .ok (.ireturn, 1) := by decide +kernel
theorem dX11_then_25 : decode cX11_then 25 = .ok (.aload_n 0, 1) := by decide +kernel
theorem dX11_then_26 : decode cX11_then 26 = .ok (.invokevirtual 217, 3) := by decide +kernel
theorem dX11_then_29 : decode cX11_then 29 = .ok (.aload_n 0, 1) := by decide +kernel
theorem dX11_then_30 : decode cX11_then 30 = .ok (.getfield 39, 3) := by decide +kernel
theorem dX11_then_33 : decode cX11_then 33 = .ok (.iload_n 1, 1) := by decide +kernel
theorem dX11_then_34 : decode cX11_then 34 = .ok (.aload_n 0, 1) := by decide +kernel
theorem dX11_then_35 : decode cX11_then 35 = .ok (.getfield 48, 3) := by decide +kernel
theorem dX11_then_38 : decode cX11_then 38 = .ok (.invokevirtual 205, 3) := by decide +kernel
theorem dX11_then_41 : decode cX11_then 41 = .ok (.aload_n 0, 1) := by decide +kernel
theorem dX11_then_42 : decode cX11_then 42 = .ok (.getfield 39, 3) := by decide +kernel
theorem dX11_then_45 : decode cX11_then 45 = .ok (.getfield 139, 3) := by decide +kernel
theorem dX11_then_48 : decode cX11_then 48 = .ok (.iload_n 2, 1) := by decide +kernel
theorem dX11_then_49 : decode cX11_then 49 = .ok (.iaload, 1) := by decide +kernel
theorem dX11_then_50 : decode cX11_then 50 = .ok (.ireturn, 1) := by decide +kernel
theorem dX11_first_0 : decode cX11_first 0 = .ok (.iload_n 1, 1) := by decide +kernel
theorem dX11_first_1 : decode cX11_first 1 = .ok (.invokestatic 77, 3) := by decide +kernel
theorem dX11_first_4 : decode cX11_first 4 = .ok (.ifCond .eq 12, 3) := by decide +kernel
theorem dX11_first_7 : decode cX11_first 7 = .ok (.iload_n 2, 1) := by decide +kernel
theorem dX11_first_8 : decode cX11_first 8 = .ok (.iconst 0, 1) := by decide +kernel
theorem dX11_first_9 : decode cX11_first 9 = .ok (.iconst 1, 1) := by decide +kernel
theorem dX11_first_10 : decode cX11_first 10 = .ok (.invokestatic 86, 3) := by decide +kernel
theorem dX11_first_13 : decode cX11_first 13 = .ok (.ifCond .ne 10, 3) := by decide +kernel
theorem dX11_first_16 : decode cX11_first 16 = .ok (.aload_n 0, 1) := by decide +kernel
theorem dX11_first_17 : decode cX11_first 17 = .ok (.ldc 81, 2) := by decide +kernel
theorem dX11_first_19 : decode cX11_first 19 = .ok (.invokevirtual 82, 3) := by decide +kernel
theorem dX11_first_22 : decode cX11_first 22 = .ok (.ireturn, 1) := by decide +kernel
theorem dX11_first_23 : decode cX11_first 23 = .ok (.aload_n 0, 1) := by decide +kernel
theorem dX11_first_24 : decode cX11_first 24 = .ok (.invokevirtual 217, 3) := by decide +kernel
theorem dX11_first_27 : decode cX11_first 27 = .ok (.iconst 0, 1) := by decide +kernel
theorem dX11_first_28 : decode cX11_first 28 = .ok (.istore_n 3, 1) := by decide +kernel
theorem dX11_first_29 : decode cX11_first 29 = .ok (.iload_n 3, 1) := by decide +kernel
theorem dX11_first_30 : decode cX11_first 30 = .ok (.bipush 60, 2) := by decide +kernel
theorem dX11_first_32 : decode cX11_first 32 = .ok (.if_icmp .gt 49, 3) := by decide +kernel
theorem dX11_first_35 : decode cX11_first 35 = .ok (.aload_n 0, 1) := by decide +kernel
theorem dX11_first_36 : decode cX11_first 36 = .ok (.getfield 39, 3) := by decide +kernel
theorem dX11_first_39 : decode cX11_first 39 = .ok (.iload_n 1, 1) := by decide +kernel
theorem dX11_first_40 : decode cX11_first 40 = .ok (.invokevirtual 96, 3) := by decide +kernel
theorem dX11_first_43 : decode cX11_first 43 = .ok (.istore 4, 2) := by decide +kernel
theorem dX11_first_45 : decode cX11_first 45 = .ok (.iload 4, 2) := by decide +kernel
theorem dX11_first_47 : decode cX11_first 47 = .ok (.ifCond .eq 17, 3) := by decide +kernel
theorem dX11_first_50 : decode cX11_first 50 = .ok (.iload_n 2, 1) := by decide +kernel
theorem dX11_first_51 : decode cX11_first 51 = .ok (.ifCond .ne 7, 3) := by decide +kernel
theorem dX11_first_54 : decode cX11_first 54 = .ok (.iload_n 3, 1) := by decide +kernel
theorem dX11_first_55 : decode cX11_first 55 = .ok (.goto 8, 3) := by decide +kernel
theorem dX11_first_58 : decode cX11_first 58 = .ok (.iload 4, 2) := by decide +kernel
theorem dX11_first_60 : decode cX11_first 60 = .ok (.invokestatic 220, 3) := by decide +kernel
theorem dX11_first_63 : decode cX11_first 63 = .ok (.ireturn, 1) := by decide +kernel
theorem dX11_first_64 : decode cX11_first 64 = .ok (.aload_n 0, 1) := by decide +kernel
theorem dX11_first_65 : decode cX11_first 65 = .ok (.getfield 39, 3) := by decide +kernel
theorem dX11_first_68 : decode cX11_first 68 = .ok (.aload_n 0, 1) := by decide +kernel
theorem dX11_first_69 : decode cX11_first 69 = .ok (.getfield 48, 3) := by decide +kernel
theorem dX11_first_72 : decode cX11_first 72 = .ok (.invokevirtual 213, 3) := by decide +kernel
theorem dX11_first_75 : decode cX11_first 75 = .ok (.iinc 3 1, 3) := by decide +kernel
theorem dX11_first_78 : decode cX11_first 78 = .ok (.goto (-49), 3) := by decide +kernel
theorem dX11_first_81 : decode cX11_first 81 = .ok (.aload_n 0, 1) := by decide +kernel
theorem dX11_first_82 : decode cX11_first 82 = .ok (.ldc 223, 2) := by decide +kernel
theorem dX11_first_84 : decode cX11_first 84 = .ok (.invokevirtual 82, 3) := by decide +kernel
theorem dX11_first_87 : decode cX11_first 87 = .ok (.ireturn, 1) := by decide +kernel
theorem dX11_meet_0 : decode cX11_meet 0 = .ok (.aload_n 0, 1) := by decide +kernel
theorem dX11_meet_1 : decode cX11_meet 1 = .ok (.iload_n 1, 1) := by decide +kernel
theorem dX11_meet_2 : decode cX11_meet 2 = .ok (.invokevirtual 124, 3) := by decide +kernel
theorem dX11_meet_5 : decode cX11_meet 5 = .ok (.ifCond .eq 16, 3) := by decide +kernel
theorem dX11_meet_8 : decode cX11_meet 8 = .ok (.aload_n 0, 1) := by decide +kernel
theorem dX11_meet_9 : decode cX11_meet 9 = .ok (.iload_n 2, 1) := by decide +kernel
theorem dX11_meet_10 : decode cX11_meet 10 = .ok (.invokevirtual 124, 3) := by decide +kernel
theorem dX11_meet_13 : decode cX11_meet 13 = .ok (.ifCond .eq 8, 3) := by decide +kernel
theorem dX11_meet_16 : decode cX11_meet 16 = .ok (.iload_n 1, 1) := by decide +kernel
theorem dX11_meet_17 : decode cX11_meet 17 = .ok (.iload_n 2, 1) := by decide +kernel
theorem dX11_meet_18 : decode cX11_meet 18 = .ok (.if_icmp .ne 10, 3) := by decide +kernel
theorem dX11_meet_21 : decode cX11_meet 21 = .ok (.aload_n 0, 1) := by decide +kernel
theorem dX11_meet_22 : decode cX11_meet 22 = .ok (.ldc 81, 2) := by decide +kernel
theorem dX11_meet_24 : decode cX11_meet 24 = .ok (.invokevirtual 82, 3) := by decide +kernel
theorem dX11_meet_27 : decode cX11_meet 27 = .ok (.ireturn, 1) := by decide +kernel
theorem dX11_meet_28 : decode cX11_meet 28 = .ok (.aload_n 0, 1) := by decide +kernel
theorem dX11_meet_29 : decode cX11_meet 29 = .ok (.invokevirtual 217, 3) := by decide +kernel
theorem dX11_meet_32 : decode cX11_meet 32 = .ok (.iconst 0, 1) := by decide +kernel
theorem dX11_meet_33 : decode cX11_meet 33 = .ok (.istore_n 3, 1) := by decide +kernel
theorem dX11_meet_34 : decode cX11_meet 34 = .ok (.iload_n 3, 1) := by decide +kernel
theorem dX11_meet_35 : decode cX11_meet 35 = .ok (.bipush 60, 2) := by decide +kernel
theorem dX11_meet_37 : decode cX11_meet 37 = .ok (.if_icmp .gt 65, 3) := by decide +kernel
theorem dX11_meet_40 : decode cX11_meet 40 = .ok (.aload_n 0, 1) := by decide +kernel
theorem dX11_meet_41 : decode cX11_meet 41 = .ok (.getfield 39, 3) := by decide +kernel
theorem dX11_meet_44 : decode cX11_meet 44 = .ok (.iload_n 1, 1) := by decide +kernel
theorem dX11_meet_45 : decode cX11_meet 45 = .ok (.invokevirtual 149, 3) := by decide +kernel
theorem dX11_meet_48 : decode cX11_meet 48 = .ok (.ifCond .eq 37, 3) := by decide +kernel
theorem dX11_meet_51 : decode cX11_meet 51 = .ok (.aload_n 0, 1) := by decide +kernel
theorem dX11_meet_52 : decode cX11_meet 52 = .ok (.getfield 39, 3) := by decide +kernel
theorem dX11_meet_55 : decode cX11_meet 55 = .ok (.iload_n 2, 1) := by decide +kernel
theorem dX11_meet_56 : decode cX11_meet 56 = .ok (.invokevirtual 149, 3) := by decide +kernel
theorem dX11_meet_59 : decode cX11_meet 59 = .ok (.ifCond .eq 26, 3) := by decide +kernel
theorem dX11_meet_62 : decode cX11_meet 62 = .ok (.aload_n 0, 1) := by decide +kernel
theorem dX11_meet_63 : decode cX11_meet 63 = .ok (.getfield 39, 3) := by decide +kernel
theorem dX11_meet_66 : decode cX11_meet 66 = .ok (.getfield 139, 3) := by decide +kernel
theorem dX11_meet_69 : decode cX11_meet 69 = .ok (.iload_n 1, 1) := by decide +kernel
theorem dX11_meet_70 : decode cX11_meet 70 = .ok (.iaload, 1) := by decide +kernel
theorem dX11_meet_71 : decode cX11_meet 71 = .ok (.aload_n 0, 1) := by decide +kernel
theorem dX11_meet_72 : decode cX11_meet 72 = .ok (.getfield 39, 3) := by decide +kernel
theorem dX11_meet_75 : decode cX11_meet 75 = .ok (.getfield 139, 3) := by decide +kernel
theorem dX11_meet_78 : decode cX11_meet 78 = .ok (.iload_n 2, 1) := by decide +kernel
theorem dX11_meet_79 : decode cX11_meet 79 = .ok (.iaload, 1) := by decide +kernel
theorem dX11_meet_80 : decode cX11_meet 80 = .ok (.if_icmp .ne 5, 3) := by decide +kernel
theorem dX11_meet_83 : decode cX11_meet 83 = .ok (.iload_n 3, 1) := by decide +kernel
theorem dX11_meet_84 : decode cX11_meet 84 = .ok (.ireturn, 1) := by decide +kernel
theorem dX11_meet_85 : decode cX11_meet 85 = .ok (.aload_n 0, 1) := by decide +kernel
theorem dX11_meet_86 : decode cX11_meet 86 = .ok (.getfield 39, 3) := by decide +kernel
theorem dX11_meet_89 : decode cX11_meet 89 = .ok (.aload_n 0, 1) := by decide +kernel
theorem dX11_meet_90 : decode cX11_meet 90 = .ok (.getfield 48, 3) := by decide +kernel
theorem dX11_meet_93 : decode cX11_meet 93 = .ok (.invokevirtual 213, 3) := by decide +kernel
theorem dX11_meet_96 : decode cX11_meet 96 = .ok (.iinc 3 1, 3) := by decide +kernel
theorem dX11_meet_99 : decode cX11_meet 99 = .ok (.goto (-65), 3) := by decide +kernel
theorem dX11_meet_102 : decode cX11_meet 102 = .ok (.aload_n 0, 1) := by decide +kernel
theorem dX11_meet_103 : decode cX11_meet 103 = .ok (.ldc 223, 2) := by decide +kernel
theorem dX11_meet_105 : decode cX11_meet 105 = .ok (.invokevirtual 82, 3) := by decide +kernel
theorem dX11_meet_108 : decode cX11_meet 108 = .ok (.ireturn, 1) := by decide +kernel
theorem dX11_bright_0 : decode cX11_bright 0 = .ok (.aload_n 0, 1) := by decide +kernel
theorem dX11_bright_1 : decode cX11_bright 1 = .ok (.iload_n 1, 1) := by decide +kernel
theorem dX11_bright_2 : decode cX11_bright 2 = .ok (.invokevirtual 124, 3) := by decide +kernel
theorem dX11_bright_5 : decode cX11_bright 5 = .ok (.ifCond .eq 14, 3) := by decide +kernel
theorem dX11_bright_8 : decode cX11_bright 8 = .ok (.iload_n 2, 1) := by decide +kernel
theorem dX11_bright_9 : decode cX11_bright 9 = .ok (.iconst 0, 1) := by decide +kernel
theorem dX11_bright_10 : decode cX11_bright 10 = .ok (.sipush 9999, 3) := by decide +kernel
theorem dX11_bright_13 : decode cX11_bright 13 = .ok (.invokestatic 86, 3) := by decide +kernel
theorem dX11_bright_16 : decode cX11_bright 16 = .ok (.ifCond .ne 10, 3) := by decide +kernel
theorem dX11_bright_19 : decode cX11_bright 19 = .ok (.aload_n 0, 1) := by decide +kernel
theorem dX11_bright_20 : decode cX11_bright 20 = .ok (.ldc 81, 2) := by decide +kernel
theorem dX11_bright_22 : decode cX11_bright 22 = .ok (.invokevirtual 82, 3) := by decide +kernel
theorem dX11_bright_25 : decode cX11_bright 25 = .ok (.ireturn, 1) := by decide +kernel
theorem dX11_bright_26 : decode cX11_bright 26 = .ok (.aload_n 0, 1) := by decide +kernel
theorem dX11_bright_27 : decode cX11_bright 27 = .ok (.invokevirtual 217, 3) := by decide +kernel
theorem dX11_bright_30 : decode cX11_bright 30 = .ok (.iconst 0, 1) := by decide +kernel
theorem dX11_bright_31 : decode cX11_bright 31 = .ok (.istore_n 3, 1) := by decide +kernel
theorem dX11_bright_32 : decode cX11_bright 32 = .ok (.iload_n 3, 1) := by decide +kernel
theorem dX11_bright_33 : decode cX11_bright 33 = .ok (.bipush 60, 2) := by decide +kernel
theorem dX11_bright_35 : decode cX11_bright 35 = .ok (.if_icmp .gt 35, 3) := by decide +kernel
theorem dX11_bright_38 : decode cX11_bright 38 = .ok (.aload_n 0, 1) := by decide +kernel
theorem dX11_bright_39 : decode cX11_bright 39 = .ok (.getfield 39, 3) := by decide +kernel
theorem dX11_bright_42 : decode cX11_bright 42 = .ok (.getfield 142, 3) := by decide +kernel
theorem dX11_bright_45 : decode cX11_bright 45 = .ok (.iload_n 1, 1) := by decide +kernel
theorem dX11_bright_46 : decode cX11_bright 46 = .ok (.iaload, 1) := by decide +kernel
theorem dX11_bright_47 : decode cX11_bright 47 = .ok (.iload_n 2, 1) := by decide +kernel
theorem dX11_bright_48 : decode cX11_bright 48 = .ok (.if_icmp .lt 5, 3) := by decide +kernel
theorem dX11_bright_51 : decode cX11_bright 51 = .ok (.iload_n 3, 1) := by decide +kernel
theorem dX11_bright_52 : decode cX11_bright 52 = .ok (.ireturn, 1) := by decide +kernel
theorem dX11_bright_53 : decode cX11_bright 53 = .ok (.aload_n 0, 1) := by decide +kernel
theorem dX11_bright_54 : decode cX11_bright 54 = .ok (.getfield 39, 3) := by decide +kernel
theorem dX11_bright_57 : decode cX11_bright 57 = .ok (.aload_n 0, 1) := by decide +kernel
theorem dX11_bright_58 : decode cX11_bright 58 = .ok (.getfield 48, 3) := by decide +kernel
theorem dX11_bright_61 : decode cX11_bright 61 = .ok (.invokevirtual 213, 3) := by decide +kernel
theorem dX11_bright_64 : decode cX11_bright 64 = .ok (.iinc 3 1, 3) := by decide +kernel
theorem dX11_bright_67 : decode cX11_bright 67 = .ok (.goto (-35), 3) := by decide +kernel
theorem dX11_bright_70 : decode cX11_bright 70 = .ok (.aload_n 0, 1) := by decide +kernel
theorem dX11_bright_71 : decode cX11_bright 71 = .ok (.ldc 223, 2) := by decide +kernel
theorem dX11_bright_73 : decode cX11_bright 73 = .ok (.invokevirtual 82, 3) := by decide +kernel
theorem dX11_bright_76 : decode cX11_bright 76 = .ok (.ireturn, 1) := by decide +kernel
theorem dX11_place_0 : decode cX11_place 0 = .ok (.aload_n 0, 1) := by decide +kernel
theorem dX11_place_1 : decode cX11_place 1 = .ok (.iload_n 1, 1) := by decide +kernel
theorem dX11_place_2 : decode cX11_place 2 = .ok (.invokevirtual 124, 3) := by decide +kernel
theorem dX11_place_5 : decode cX11_place 5 = .ok (.ifCond .eq 22, 3) := by decide +kernel
theorem dX11_place_8 : decode cX11_place 8 = .ok (.iload_n 2, 1) := by decide +kernel
theorem dX11_place_9 : decode cX11_place 9 = .ok (.iconst 0, 1) := by decide +kernel
theorem dX11_place_10 : decode cX11_place 10 = .ok (.bipush 30, 2) := by decide +kernel
theorem dX11_place_12 : decode cX11_place 12 = .ok (.invokestatic 86, 3) := by decide +kernel
theorem dX11_place_15 : decode cX11_place 15 = .ok (.ifCond .eq 12, 3) := by decide +kernel
theorem dX11_place_18 : decode cX11_place 18 = .ok (.iload_n 3, 1) := by decide +kernel
theorem dX11_place_19 : decode cX11_place 19 = .ok (.iconst 0, 1) := by decide +kernel
theorem dX11_place_20 : decode cX11_place 20 = .ok (.iconst 1, 1) := by decide +kernel
theorem dX11_place_21 : decode cX11_place 21 = .ok (.invokestatic 86, 3) := by decide +kernel
theorem dX11_place_24 : decode cX11_place 24 = .ok (.ifCond .ne 10, 3) := by decide +kernel
theorem dX11_place_27 : decode cX11_place 27 = .ok (.aload_n 0, 1) := by decide +kernel
theorem dX11_place_28 : decode cX11_place 28 = .ok (.ldc 81, 2) := by decide +kernel
theorem dX11_place_30 : decode cX11_place 30 = .ok (.invokevirtual 82, 3) := by decide +kernel
theorem dX11_place_33 : decode cX11_place 33 = .ok (.ireturn, 1) := by decide +kernel
theorem dX11_place_34 : decode cX11_place 34 = .ok (.iconst 0, 1) := by decide +kernel
theorem dX11_place_35 : decode cX11_place 35 = .ok (.istore 4, 2) := by decide +kernel
theorem dX11_place_37 : decode cX11_place 37 = .ok (.iconst (-1), 1) := by decide +kernel
theorem dX11_place_38 : decode cX11_place 38 = .ok (.istore 5, 2) := by decide +kernel
theorem dX11_place_40 : decode cX11_place 40 = .ok (.iconst 0, 1) := by decide +kernel
theorem dX11_place_41 : decode cX11_place 41 = .ok (.istore 6, 2) := by decide +kernel
theorem dX11_place_43 : decode cX11_place 43 = .ok (.iload 6, 2) := by decide +kernel
theorem dX11_place_45 : decode cX11_place 45 = .ok (.bipush 16, 2) := by decide +kernel
theorem dX11_place_47 : decode cX11_place 47 = .ok (.if_icmp .ge 87, 3) := by decide +kernel
theorem dX11_place_50 : decode cX11_place 50 = .ok (.aload_n 0, 1) := by decide +kernel
theorem dX11_place_51 : decode cX11_place 51 = .ok (.invokevirtual 217, 3) := by decide +kernel
theorem dX11_place_54 : decode cX11_place 54 = .ok (.aload_n 0, 1) := by decide +kernel
theorem dX11_place_55 : decode cX11_place 55 = .ok (.getfield 39, 3) := by decide +kernel
theorem dX11_place_58 : decode cX11_place 58 = .ok (.getfield 133, 3) := by decide +kernel
theorem dX11_place_61 : decode cX11_place 61 = .ok (.iload_n 1, 1) := by decide +kernel
theorem dX11_place_62 : decode cX11_place 62 = .ok (.iload 6, 2) := by decide +kernel
theorem dX11_place_64 : decode cX11_place 64 = .ok (.iastore, 1) := by decide +kernel
theorem dX11_place_65 : decode cX11_place 65 = .ok (.aload_n 0, 1) := by decide +kernel
theorem dX11_place_66 : decode cX11_place 66 = .ok (.getfield 39, 3) := by decide +kernel
theorem dX11_place_69 : decode cX11_place 69 = .ok (.iload_n 1, 1) := by decide +kernel
theorem dX11_place_70 : decode cX11_place 70 = .ok (.invokevirtual 149, 3) := by decide +kernel
theorem dX11_place_73 : decode cX11_place 73 = .ok (.ifCond .eq 14, 3) := by decide +kernel
theorem dX11_place_76 : decode cX11_place 76 = .ok (.aload_n 0, 1) := by decide +kernel
theorem dX11_place_77 : decode cX11_place 77 = .ok (.getfield 39, 3) := by decide +kernel
theorem dX11_place_80 : decode cX11_place 80 = .ok (.getfield 139, 3) := by decide +kernel
theorem dX11_place_83 : decode cX11_place 83 = .ok (.iload_n 1, 1) := by decide +kernel
theorem dX11_place_84 : decode cX11_place 84 = .ok (.iload 6, 2) := by decide +kernel
theorem dX11_place_86 : decode cX11_place 86 = .ok (.iastore, 1) := by decide +kernel
theorem dX11_place_87 : decode cX11_place 87 = .ok (.aload_n 0, 1) := by decide +kernel
theorem dX11_place_88 : decode cX11_place 88 = .ok (.getfield 39, 3) := by decide +kernel
theorem dX11_place_91 : decode cX11_place 91 = .ok (.iload_n 2, 1) := by decide +kernel
theorem dX11_place_92 : decode cX11_place 92 = .ok (.aload_n 0, 1) := by decide +kernel
theorem dX11_place_93 : decode cX11_place 93 = .ok (.getfield 48, 3) := by decide +kernel
theorem dX11_place_96 : decode cX11_place 96 = .ok (.invokevirtual 205, 3) := by decide +kernel
theorem dX11_place_99 : decode cX11_place 99 = .ok (.aload_n 0, 1) := by decide +kernel
theorem dX11_place_100 : decode cX11_place 100 = .ok (.getfield 39, 3) := by decide +kernel
theorem dX11_place_103 : decode cX11_place 103 = .ok (.getfield 142, 3) := by decide +kernel
theorem dX11_place_106 : decode cX11_place 106 = .ok (.iload_n 1, 1) := by decide +kernel
theorem dX11_place_107 : decode cX11_place 107 = .ok (.iaload, 1) := by decide +kernel
theorem dX11_place_108 : decode cX11_place 108 = .ok (.iload 5, 2) := by decide +kernel
theorem dX11_place_110 : decode cX11_place 110 = .ok (.if_icmp .le 18, 3) := by decide +kernel
theorem dX11_place_113 : decode cX11_place 113 = .ok (.aload_n 0, 1) := by decide +kernel
theorem dX11_place_114 : decode cX11_place 114 = .ok (.getfield 39, 3) := by decide +kernel
theorem dX11_place_117 : decode cX11_place 117 = .ok (.getfield 142, 3) := by decide +kernel
theorem dX11_place_120 : decode cX11_place 120 = .ok (.iload_n 1, 1) := by decide +kernel
theorem dX11_place_121 : decode cX11_place 121 = .ok (.iaload, 1) := by decide +kernel
theorem dX11_place_122 : decode cX11_place 122 = .ok (.istore 5, 2) := by decide +kernel
theorem dX11_place_124 : decode cX11_place 124 = .ok (.iload 6, 2) := by decide +kernel
theorem dX11_place_126 : decode cX11_place 126 = .ok (.istore 4, 2) := by decide +kernel
theorem dX11_place_128 : decode cX11_place 128 = .ok (.iinc 6 1, 3) := by decide +kernel
theorem dX11_place_131 : decode cX11_place 131 = .ok (.goto (-88), 3) := by decide +kernel
theorem dX11_place_134 : decode cX11_place 134 = .ok (.iload_n 3, 1) := by decide +kernel
theorem dX11_place_135 : decode cX11_place 135 = .ok (.ifCond .ne 8, 3) := by decide +kernel
theorem dX11_place_138 : decode cX11_place 138 = .ok (.iload 4, 2) := by decide +kernel
theorem dX11_place_140 : decode cX11_place 140 = .ok (.goto 5, 3) := by decide +kernel
theorem dX11_place_143 : decode cX11_place 143 = .ok (.iload 5, 2) := by decide +kernel
theorem dX11_place_145 : decode cX11_place 145 = .ok (.ireturn, 1) := by decide +kernel
theorem dX11_cartsFor_0 : decode cX11_cartsFor 0 = .ok (.aload_n 0, 1) := by decide +kernel
theorem dX11_cartsFor_1 : decode cX11_cartsFor 1 = .ok (.iload_n 1, 1) := by decide +kernel
theorem dX11_cartsFor_2 : decode cX11_cartsFor 2 = .ok (.invokevirtual 224, 3) := by decide +kernel
theorem dX11_cartsFor_5 : decode cX11_cartsFor 5 = .ok (.ifCond .eq 13, 3) := by decide +kernel
theorem dX11_cartsFor_8 : decode cX11_cartsFor 8 = .ok (.iload_n 2, 1) := by decide +kernel
theorem dX11_cartsFor_9 : decode cX11_cartsFor 9 = .ok (.iconst 0, 1) := by decide +kernel
theorem dX11_cartsFor_10 : decode cX11_cartsFor 10 = .ok (.bipush 30, 2) := by decide +kernel
theorem dX11_cartsFor_12 : decode cX11_cartsFor 12 = .ok (.invokestatic 86, 3) := by decide +kernel
theorem dX11_cartsFor_15 : decode cX11_cartsFor 15 = .ok (.ifCond .ne 10, 3) := by decide +kernel
theorem dX11_cartsFor_18 : decode cX11_cartsFor 18 = .ok (.aload_n 0, 1) := by decide +kernel
theorem dX11_cartsFor_19 : decode cX11_cartsFor 19 = .ok (.ldc 81, 2) := by decide +kernel
theorem dX11_cartsFor_21 : decode cX11_cartsFor 21 = .ok (.invokevirtual 82, 3) := by decide +kernel
theorem dX11_cartsFor_24 : decode cX11_cartsFor 24 = .ok (.ireturn, 1) := by decide +kernel
theorem dX11_cartsFor_25 : decode cX11_cartsFor 25 = .ok (.bipush 9, 2) := by decide +kernel
theorem dX11_cartsFor_27 : decode cX11_cartsFor 27 = .ok (.istore_n 3, 1) := by decide +kernel
theorem dX11_cartsFor_28 : decode cX11_cartsFor 28 = .ok (.iload_n 3, 1) := by decide +kernel
theorem dX11_cartsFor_29 : decode cX11_cartsFor 29 = .ok (.ifCond .lt 46, 3) := by decide +kernel
theorem dX11_cartsFor_32 : decode cX11_cartsFor 32 = .ok (.aload_n 0, 1) := by decide +kernel
theorem dX11_cartsFor_33 : decode cX11_cartsFor 33 = .ok (.invokevirtual 217, 3) := by decide +kernel
theorem dX11_cartsFor_36 : decode cX11_cartsFor 36 = .ok (.aload_n 0, 1) := by decide +kernel
theorem dX11_cartsFor_37 : decode cX11_cartsFor 37 = .ok (.getfield 39, 3) := by decide +kernel
theorem dX11_cartsFor_40 : decode cX11_cartsFor 40 = .ok (.iload_n 3, 1) := by decide +kernel
theorem dX11_cartsFor_41 : decode cX11_cartsFor 41 = .ok (.putfield 102, 3) := by decide +kernel
theorem dX11_cartsFor_44 : decode cX11_cartsFor 44 = .ok (.aload_n 0, 1) := by decide +kernel
theorem dX11_cartsFor_45 : decode cX11_cartsFor 45 = .ok (.getfield 39, 3) := by decide +kernel
theorem dX11_cartsFor_48 : decode cX11_cartsFor 48 = .ok (.iload_n 2, 1) := by decide +kernel
theorem dX11_cartsFor_49 : decode cX11_cartsFor 49 = .ok (.aload_n 0, 1) := by decide +kernel
theorem dX11_cartsFor_50 : decode cX11_cartsFor 50 = .ok (.getfield 48, 3) := by decide +kernel
theorem dX11_cartsFor_53 : decode cX11_cartsFor 53 = .ok (.invokevirtual 205, 3) := by decide +kernel
theorem dX11_cartsFor_56 : decode cX11_cartsFor 56 = .ok (.aload_n 0, 1) := by decide +kernel
theorem dX11_cartsFor_57 : decode cX11_cartsFor 57 = .ok (.getfield 39, 3) := by decide +kernel
theorem dX11_cartsFor_60 : decode cX11_cartsFor 60 = .ok (.iload_n 1, 1) := by decide +kernel
theorem dX11_cartsFor_61 : decode cX11_cartsFor 61 = .ok (.invokevirtual 227, 3) := by decide +kernel
theorem dX11_cartsFor_64 : decode cX11_cartsFor 64 = .ok (.ifCond .eq 5, 3) := by decide +kernel
theorem dX11_cartsFor_67 : decode cX11_cartsFor 67 = .ok (.iload_n 3, 1) := by decide +kernel
theorem dX11_cartsFor_68 : decode cX11_cartsFor 68 = .ok (.ireturn, 1) := by decide +kernel
theorem dX11_cartsFor_69 : decode cX11_cartsFor 69 = .ok (.iinc 3 (-1), 3) := by decide +kernel
theorem dX11_cartsFor_72 : decode cX11_cartsFor 72 = .ok (.goto (-44), 3) := by decide +kernel
theorem dX11_cartsFor_75 : decode cX11_cartsFor 75 = .ok (.aload_n 0, 1) := by decide +kernel
theorem dX11_cartsFor_76 : decode cX11_cartsFor 76 = .ok (.ldc 223, 2) := by decide +kernel
theorem dX11_cartsFor_78 : decode cX11_cartsFor 78 = .ok (.invokevirtual 82, 3) := by decide +kernel
theorem dX11_cartsFor_81 : decode cX11_cartsFor 81 = .ok (.ireturn, 1) := by decide +kernel
theorem dX11_stop_0 : decode cX11_stop 0 = .ok (.aload_n 0, 1) := by decide +kernel
theorem dX11_stop_1 : decode cX11_stop 1 = .ok (.iload_n 1, 1) := by decide +kernel
theorem dX11_stop_2 : decode cX11_stop 2 = .ok (.invokevirtual 124, 3) := by decide +kernel
theorem dX11_stop_5 : decode cX11_stop 5 = .ok (.ifCond .eq 13, 3) := by decide +kernel
theorem dX11_stop_8 : decode cX11_stop 8 = .ok (.iload_n 2, 1) := by decide +kernel
theorem dX11_stop_9 : decode cX11_stop 9 = .ok (.iconst 0, 1) := by decide +kernel
theorem dX11_stop_10 : decode cX11_stop 10 = .ok (.bipush 20, 2) := by decide +kernel
theorem dX11_stop_12 : decode cX11_stop 12 = .ok (.invokestatic 86, 3) := by decide +kernel
theorem dX11_stop_15 : decode cX11_stop 15 = .ok (.ifCond .ne 10, 3) := by decide +kernel
theorem dX11_stop_18 : decode cX11_stop 18 = .ok (.aload_n 0, 1) := by decide +kernel
theorem dX11_stop_19 : decode cX11_stop 19 = .ok (.ldc 81, 2) := by decide +kernel
theorem dX11_stop_21 : decode cX11_stop 21 = .ok (.invokevirtual 82, 3) := by decide +kernel
theorem dX11_stop_24 : decode cX11_stop 24 = .ok (.ireturn, 1) := by decide +kernel
theorem dX11_stop_25 : decode cX11_stop 25 = .ok (.aload_n 0, 1) := by decide +kernel
theorem dX11_stop_26 : decode cX11_stop 26 = .ok (.invokevirtual 217, 3) := by decide +kernel
theorem dX11_stop_29 : decode cX11_stop 29 = .ok (.aload_n 0, 1) := by decide +kernel
theorem dX11_stop_30 : decode cX11_stop 30 = .ok (.getfield 39, 3) := by decide +kernel
theorem dX11_stop_33 : decode cX11_stop 33 = .ok (.iload_n 2, 1) := by decide +kernel
theorem dX11_stop_34 : decode cX11_stop 34 = .ok (.aload_n 0, 1) := by decide +kernel
theorem dX11_stop_35 : decode cX11_stop 35 = .ok (.getfield 48, 3) := by decide +kernel
theorem dX11_stop_38 : decode cX11_stop 38 = .ok (.invokevirtual 205, 3) := by decide +kernel
theorem dX11_stop_41 : decode cX11_stop 41 = .ok (.aload_n 0, 1) := by decide +kernel
theorem dX11_stop_42 : decode cX11_stop 42 = .ok (.getfield 39, 3) := by decide +kernel
theorem dX11_stop_45 : decode cX11_stop 45 = .ok (.getfield 142, 3) := by decide +kernel
theorem dX11_stop_48 : decode cX11_stop 48 = .ok (.iload_n 1, 1) := by decide +kernel
theorem dX11_stop_49 : decode cX11_stop 49 = .ok (.iaload, 1) := by decide +kernel
theorem dX11_stop_50 : decode cX11_stop 50 = .ok (.istore_n 3, 1) := by decide +kernel
theorem dX11_stop_51 : decode cX11_stop 51 = .ok (.iconst (-1), 1) := by decide +kernel
theorem dX11_stop_52 : decode cX11_stop 52 = .ok (.istore 4, 2) := by decide +kernel
theorem dX11_stop_54 : decode cX11_stop 54 = .ok (.iconst 0, 1) := by decide +kernel
theorem dX11_stop_55 : decode cX11_stop 55 = .ok (.istore 5, 2) := by decide +kernel
theorem dX11_stop_57 : decode cX11_stop 57 = .ok (.iload 5, 2) := by decide +kernel
theorem dX11_stop_59 : decode cX11_stop 59 = .ok (.bipush 16, 2) := by decide +kernel
theorem dX11_stop_61 : decode cX11_stop 61 = .ok (.if_icmp .ge 64, 3) := by decide +kernel
theorem dX11_stop_64 : decode cX11_stop 64 = .ok (.aload_n 0, 1) := by decide +kernel
theorem dX11_stop_65 : decode cX11_stop 65 = .ok (.invokevirtual 217, 3) := by decide +kernel
theorem dX11_stop_68 : decode cX11_stop 68 = .ok (.aload_n 0, 1) := by decide +kernel
theorem dX11_stop_69 : decode cX11_stop 69 = .ok (.getfield 39, 3) := by decide +kernel
theorem dX11_stop_72 : decode cX11_stop 72 = .ok (.getfield 93, 3) := by decide +kernel
theorem dX11_stop_75 : decode cX11_stop 75 = .ok (.iload 5, 2) := by decide +kernel
theorem dX11_stop_77 : decode cX11_stop 77 = .ok (.iload 5, 2) := by decide +kernel
theorem dX11_stop_79 : decode cX11_stop 79 = .ok (.iastore, 1) := by decide +kernel
theorem dX11_stop_80 : decode cX11_stop 80 = .ok (.aload_n 0, 1) := by decide +kernel
theorem dX11_stop_81 : decode cX11_stop 81 = .ok (.getfield 39, 3) := by decide +kernel
theorem dX11_stop_84 : decode cX11_stop 84 = .ok (.iload_n 2, 1) := by decide +kernel
theorem dX11_stop_85 : decode cX11_stop 85 = .ok (.aload_n 0, 1) := by decide +kernel
theorem dX11_stop_86 : decode cX11_stop 86 = .ok (.getfield 48, 3) := by decide +kernel
theorem dX11_stop_89 : decode cX11_stop 89 = .ok (.invokevirtual 205, 3) := by decide +kernel
theorem dX11_stop_92 : decode cX11_stop 92 = .ok (.aload_n 0, 1) := by decide +kernel
theorem dX11_stop_93 : decode cX11_stop 93 = .ok (.getfield 39, 3) := by decide +kernel
theorem dX11_stop_96 : decode cX11_stop 96 = .ok (.getfield 142, 3) := by decide +kernel
theorem dX11_stop_99 : decode cX11_stop 99 = .ok (.iload_n 1, 1) := by decide +kernel
theorem dX11_stop_100 : decode cX11_stop 100 = .ok (.iaload, 1) := by decide +kernel
theorem dX11_stop_101 : decode cX11_stop 101 = .ok (.iload_n 3, 1) := by decide +kernel
theorem dX11_stop_102 : decode cX11_stop 102 = .ok (.if_icmp .le 17, 3) := by decide +kernel
theorem dX11_stop_105 : decode cX11_stop 105 = .ok (.aload_n 0, 1) := by decide +kernel
theorem dX11_stop_106 : decode cX11_stop 106 = .ok (.getfield 39, 3) := by decide +kernel
theorem dX11_stop_109 : decode cX11_stop 109 = .ok (.getfield 142, 3) := by decide +kernel
theorem dX11_stop_112 : decode cX11_stop 112 = .ok (.iload_n 1, 1) := by decide +kernel
theorem dX11_stop_113 : decode cX11_stop 113 = .ok (.iaload, 1) := by decide +kernel
theorem dX11_stop_114 : decode cX11_stop 114 = .ok (.istore_n 3, 1) := by decide +kernel
theorem dX11_stop_115 : decode cX11_stop 115 = .ok (.iload 5, 2) := by decide +kernel
theorem dX11_stop_117 : decode cX11_stop 117 = .ok (.istore 4, 2) := by decide +kernel
theorem dX11_stop_119 : decode cX11_stop 119 = .ok (.iinc 5 1, 3) := by decide +kernel
theorem dX11_stop_122 : decode cX11_stop 122 = .ok (.goto (-65), 3) := by decide +kernel
theorem dX11_stop_125 : decode cX11_stop 125 = .ok (.iload 4, 2) := by decide +kernel
theorem dX11_stop_127 : decode cX11_stop 127 = .ok (.ireturn, 1) := by decide +kernel
theorem dX11_swap_0 : decode cX11_swap 0 = .ok (.iload_n 1, 1) := by decide +kernel
theorem dX11_swap_1 : decode cX11_swap 1 = .ok (.iconst 0, 1) := by decide +kernel
theorem dX11_swap_2 : decode cX11_swap 2 = .ok (.bipush 20, 2) := by decide +kernel
theorem dX11_swap_4 : decode cX11_swap 4 = .ok (.invokestatic 86, 3) := by decide +kernel
theorem dX11_swap_7 : decode cX11_swap 7 = .ok (.ifCond .ne 10, 3) := by decide +kernel
theorem dX11_swap_10 : decode cX11_swap 10 = .ok (.aload_n 0, 1) := by decide +kernel
theorem dX11_swap_11 : decode cX11_swap 11 = .ok (.ldc 81, 2) := by decide +kernel
theorem dX11_swap_13 : decode cX11_swap 13 = .ok (.invokevirtual 82, 3) := by decide +kernel
theorem dX11_swap_16 : decode cX11_swap 16 = .ok (.ireturn, 1) := by decide +kernel
theorem dX11_swap_17 : decode cX11_swap 17 = .ok (.aload_n 0, 1) := by decide +kernel
theorem dX11_swap_18 : decode cX11_swap 18 = .ok (.invokevirtual 217, 3) := by decide +kernel
theorem dX11_swap_21 : decode cX11_swap 21 = .ok (.aload_n 0, 1) := by decide +kernel
theorem dX11_swap_22 : decode cX11_swap 22 = .ok (.getfield 39, 3) := by decide +kernel
theorem dX11_swap_25 : decode cX11_swap 25 = .ok (.iload_n 1, 1) := by decide +kernel
theorem dX11_swap_26 : decode cX11_swap 26 = .ok (.aload_n 0, 1) := by decide +kernel
theorem dX11_swap_27 : decode cX11_swap 27 = .ok (.getfield 48, 3) := by decide +kernel
theorem dX11_swap_30 : decode cX11_swap 30 = .ok (.invokevirtual 205, 3) := by decide +kernel
theorem dX11_swap_33 : decode cX11_swap 33 = .ok (.aload_n 0, 1) := by decide +kernel
theorem dX11_swap_34 : decode cX11_swap 34 = .ok (.getfield 39, 3) := by decide +kernel
theorem dX11_swap_37 : decode cX11_swap 37 = .ok (.getfield 110, 3) := by decide +kernel
theorem dX11_swap_40 : decode cX11_swap 40 = .ok (.istore_n 2, 1) := by decide +kernel
theorem dX11_swap_41 : decode cX11_swap 41 = .ok (.iconst (-1), 1) := by decide +kernel
theorem dX11_swap_42 : decode cX11_swap 42 = .ok (.istore_n 3, 1) := by decide +kernel
theorem dX11_swap_43 : decode cX11_swap 43 = .ok (.iconst 0, 1) := by decide +kernel
theorem dX11_swap_44 : decode cX11_swap 44 = .ok (.istore 4, 2) := by decide +kernel
theorem dX11_swap_46 : decode cX11_swap 46 = .ok (.iload 4, 2) := by decide +kernel
theorem dX11_swap_48 : decode cX11_swap 48 = .ok (.aload_n 0, 1) := by decide +kernel
theorem dX11_swap_49 : decode cX11_swap 49 = .ok (.getfield 35, 3) := by decide +kernel
theorem dX11_swap_52 : decode cX11_swap 52 = .ok (.getfield 116, 3) := by decide +kernel
theorem dX11_swap_55 : decode cX11_swap 55 = .ok (.if_icmp .ge 117, 3) := by decide +kernel
theorem dX11_swap_58 : decode cX11_swap 58 = .ok (.iload 4, 2) := by decide +kernel
theorem dX11_swap_60 : decode cX11_swap 60 = .ok (.iconst 1, 1) := by decide +kernel
theorem dX11_swap_61 : decode cX11_swap 61 = .ok (.iadd, 1) := by decide +kernel
theorem dX11_swap_62 : decode cX11_swap 62 = .ok (.istore 5, 2) := by decide +kernel
theorem dX11_swap_64 : decode cX11_swap 64 = .ok (.iload 5, 2) := by decide +kernel
theorem dX11_swap_66 : decode cX11_swap 66 = .ok (.aload_n 0, 1) := by decide +kernel
theorem dX11_swap_67 : decode cX11_swap 67 = .ok (.getfield 35, 3) := by decide +kernel
theorem dX11_swap_70 : decode cX11_swap 70 = .ok (.getfield 116, 3) := by decide +kernel
theorem dX11_swap_73 : decode cX11_swap 73 = .ok (.if_icmp .ge 93, 3) := by decide +kernel
theorem dX11_swap_76 : decode cX11_swap 76 = .ok (.aload_n 0, 1) := by decide +kernel
theorem dX11_swap_77 : decode cX11_swap 77 = .ok (.invokevirtual 217, 3) := by decide +kernel
theorem dX11_swap_80 : decode cX11_swap 80 = .ok (.aload_n 0, 1) := by decide +kernel
theorem dX11_swap_81 : decode cX11_swap 81 = .ok (.getfield 39, 3) := by decide +kernel
theorem dX11_swap_84 : decode cX11_swap 84 = .ok (.getfield 133, 3) := by decide +kernel
theorem dX11_swap_87 : decode cX11_swap 87 = .ok (.iload 4, 2) := by decide +kernel
theorem dX11_swap_89 : decode cX11_swap 89 = .ok (.aload_n 0, 1) := by decide +kernel
theorem dX11_swap_90 : decode cX11_swap 90 = .ok (.getfield 35, 3) := by decide +kernel
theorem dX11_swap_93 : decode cX11_swap 93 = .ok (.getfield 133, 3) := by decide +kernel
theorem dX11_swap_96 : decode cX11_swap 96 = .ok (.iload 5, 2) := by decide +kernel
theorem dX11_swap_98 : decode cX11_swap 98 = .ok (.iaload, 1) := by decide +kernel
theorem dX11_swap_99 : decode cX11_swap 99 = .ok (.iastore, 1) := by decide +kernel
theorem dX11_swap_100 : decode cX11_swap 100 = .ok (.aload_n 0, 1) := by decide +kernel
theorem dX11_swap_101 : decode cX11_swap 101 = .ok (.getfield 39, 3) := by decide +kernel
theorem dX11_swap_104 : decode cX11_swap 104 = .ok (.getfield 133, 3) := by decide +kernel
theorem dX11_swap_107 : decode cX11_swap 107 = .ok (.iload 5, 2) := by decide +kernel
theorem dX11_swap_109 : decode cX11_swap 109 = .ok (.aload_n 0, 1) := by decide +kernel
theorem dX11_swap_110 : decode cX11_swap 110 = .ok (.getfield 35, 3) := by decide +kernel
theorem dX11_swap_113 : decode cX11_swap 113 = .ok (.getfield 133, 3) := by decide +kernel
theorem dX11_swap_116 : decode cX11_swap 116 = .ok (.iload 4, 2) := by decide +kernel
theorem dX11_swap_118 : decode cX11_swap 118 = .ok (.iaload, 1) := by decide +kernel
theorem dX11_swap_119 : decode cX11_swap 119 = .ok (.iastore, 1) := by decide +kernel
theorem dX11_swap_120 : decode cX11_swap 120 = .ok (.aload_n 0, 1) := by decide +kernel
theorem dX11_swap_121 : decode cX11_swap 121 = .ok (.getfield 39, 3) := by decide +kernel
theorem dX11_swap_124 : decode cX11_swap 124 = .ok (.iload_n 1, 1) := by decide +kernel
theorem dX11_swap_125 : decode cX11_swap 125 = .ok (.aload_n 0, 1) := by decide +kernel
theorem dX11_swap_126 : decode cX11_swap 126 = .ok (.getfield 48, 3) := by decide +kernel
theorem dX11_swap_129 : decode cX11_swap 129 = .ok (.invokevirtual 205, 3) := by decide +kernel
theorem dX11_swap_132 : decode cX11_swap 132 = .ok (.aload_n 0, 1) := by decide +kernel
theorem dX11_swap_133 : decode cX11_swap 133 = .ok (.getfield 39, 3) := by decide +kernel
theorem dX11_swap_136 : decode cX11_swap 136 = .ok (.getfield 110, 3) := by decide +kernel
theorem dX11_swap_139 : decode cX11_swap 139 = .ok (.iload_n 2, 1) := by decide +kernel
theorem dX11_swap_140 : decode cX11_swap 140 = .ok (.if_icmp .le 20, 3) := by decide +kernel
theorem dX11_swap_143 : decode cX11_swap 143 = .ok (.aload_n 0, 1) := by decide +kernel
theorem dX11_swap_144 : decode cX11_swap 144 = .ok (.getfield 39, 3) := by decide +kernel
theorem dX11_swap_147 : decode cX11_swap 147 = .ok (.getfield 110, 3) := by decide +kernel
theorem dX11_swap_150 : decode cX11_swap 150 = .ok (.istore_n 2, 1) := by decide +kernel
theorem dX11_swap_151 : decode cX11_swap 151 = .ok (.bipush 10, 2) := by decide +kernel
theorem dX11_swap_153 : decode cX11_swap 153 = .ok (.iload 4, 2) := by decide +kernel
theorem dX11_swap_155 : decode cX11_swap 155 = .ok (.imul, 1) := by decide +kernel
theorem dX11_swap_156 : decode cX11_swap 156 = .ok (.iload 5, 2) := by decide +kernel
theorem dX11_swap_158 : decode cX11_swap 158 = .ok (.iadd, 1) := by decide +kernel
theorem dX11_swap_159 : decode cX11_swap 159 = .ok (.istore_n 3, 1) := by decide +kernel
theorem dX11_swap_160 : decode cX11_swap 160 = .ok (.iinc 5 1, 3) := by decide +kernel
theorem dX11_swap_163 : decode cX11_swap 163 = .ok (.goto (-99), 3) := by decide +kernel
theorem dX11_swap_166 : decode cX11_swap 166 = .ok (.iinc 4 1, 3) := by decide +kernel
theorem dX11_swap_169 : decode cX11_swap 169 = .ok (.goto (-123), 3) := by decide +kernel
theorem dX11_swap_172 : decode cX11_swap 172 = .ok (.iload_n 3, 1) := by decide +kernel
theorem dX11_swap_173 : decode cX11_swap 173 = .ok (.ireturn, 1) := by decide +kernel
theorem dX11_sunFor_0 : decode cX11_sunFor 0 = .ok (.iload_n 1, 1) := by decide +kernel
theorem dX11_sunFor_1 : decode cX11_sunFor 1 = .ok (.invokestatic 77, 3) := by decide +kernel
theorem dX11_sunFor_4 : decode cX11_sunFor 4 = .ok (.ifCond .eq 24, 3) := by decide +kernel
theorem dX11_sunFor_7 : decode cX11_sunFor 7 = .ok (.iload_n 2, 1) := by decide +kernel
theorem dX11_sunFor_8 : decode cX11_sunFor 8 = .ok (.iconst 0, 1) := by decide +kernel
theorem dX11_sunFor_9 : decode cX11_sunFor 9 = .ok (.sipush 9999, 3) := by decide +kernel
theorem dX11_sunFor_12 : decode cX11_sunFor 12 = .ok (.invokestatic 86, 3) := by decide +kernel
theorem dX11_sunFor_15 : decode cX11_sunFor 15 = .ok (.ifCond .eq 13, 3) := by decide +kernel
theorem dX11_sunFor_18 : decode cX11_sunFor 18 = .ok (.iload_n 3, 1) := by decide +kernel
theorem dX11_sunFor_19 : decode cX11_sunFor 19 = .ok (.iconst 0, 1) := by decide +kernel
theorem dX11_sunFor_20 : decode cX11_sunFor 20 = .ok (.bipush 30, 2) := by decide +kernel
theorem dX11_sunFor_22 : decode cX11_sunFor 22 = .ok (.invokestatic 86, 3) := by decide +kernel
theorem dX11_sunFor_25 : decode cX11_sunFor 25 = .ok (.ifCond .ne 10, 3) := by decide +kernel
theorem dX11_sunFor_28 : decode cX11_sunFor 28 = .ok (.aload_n 0, 1) := by decide +kernel
theorem dX11_sunFor_29 : decode cX11_sunFor 29 = .ok (.ldc 81, 2) := by decide +kernel
theorem dX11_sunFor_31 : decode cX11_sunFor 31 = .ok (.invokevirtual 82, 3) := by decide +kernel
theorem dX11_sunFor_34 : decode cX11_sunFor 34 = .ok (.ireturn, 1) := by decide +kernel
theorem dX11_sunFor_35 : decode cX11_sunFor 35 = .ok (.iconst 0, 1) := by decide +kernel
theorem dX11_sunFor_36 : decode cX11_sunFor 36 = .ok (.istore 4, 2) := by decide +kernel
theorem dX11_sunFor_38 : decode cX11_sunFor 38 = .ok (.iload 4, 2) := by decide +kernel
theorem dX11_sunFor_40 : decode cX11_sunFor 40 = .ok (.bipush 9, 2) := by decide +kernel
theorem dX11_sunFor_42 : decode cX11_sunFor 42 = .ok (.if_icmp .gt 58, 3) := by decide +kernel
theorem dX11_sunFor_45 : decode cX11_sunFor 45 = .ok (.aload_n 0, 1) := by decide +kernel
theorem dX11_sunFor_46 : decode cX11_sunFor 46 = .ok (.invokevirtual 217, 3) := by decide +kernel
theorem dX11_sunFor_49 : decode cX11_sunFor 49 = .ok (.aload_n 0, 1) := by decide +kernel
theorem dX11_sunFor_50 : decode cX11_sunFor 50 = .ok (.getfield 39, 3) := by decide +kernel
theorem dX11_sunFor_53 : decode cX11_sunFor 53 = .ok (.getfield 90, 3) := by decide +kernel
theorem dX11_sunFor_56 : decode cX11_sunFor 56 = .ok (.iload_n 1, 1) := by decide +kernel
theorem dX11_sunFor_57 : decode cX11_sunFor 57 = .ok (.iload 4, 2) := by decide +kernel
theorem dX11_sunFor_59 : decode cX11_sunFor 59 = .ok (.iastore, 1) := by decide +kernel
theorem dX11_sunFor_60 : decode cX11_sunFor 60 = .ok (.aload_n 0, 1) := by decide +kernel
theorem dX11_sunFor_61 : decode cX11_sunFor 61 = .ok (.getfield 39, 3) := by decide +kernel
theorem dX11_sunFor_64 : decode cX11_sunFor 64 = .ok (.iload_n 3, 1) := by decide +kernel
theorem dX11_sunFor_65 : decode cX11_sunFor 65 = .ok (.aload_n 0, 1) := by decide +kernel
theorem dX11_sunFor_66 : decode cX11_sunFor 66 = .ok (.getfield 48, 3) := by decide +kernel
theorem dX11_sunFor_69 : decode cX11_sunFor 69 = .ok (.invokevirtual 205, 3) := by decide +kernel
theorem dX11_sunFor_72 : decode cX11_sunFor 72 = .ok (.aload_n 0, 1) := by decide +kernel
theorem dX11_sunFor_73 : decode cX11_sunFor 73 = .ok (.getfield 39, 3) := by decide +kernel
theorem dX11_sunFor_76 : decode cX11_sunFor 76 = .ok (.getfield 110, 3) := by decide +kernel
theorem dX11_sunFor_79 : decode cX11_sunFor 79 = .ok (.aload_n 0, 1) := by decide +kernel
theorem dX11_sunFor_80 : decode cX11_sunFor 80 = .ok (.getfield 35, 3) := by decide +kernel
theorem dX11_sunFor_83 : decode cX11_sunFor 83 = .ok (.getfield 110, 3) := by decide +kernel
theorem dX11_sunFor_86 : decode cX11_sunFor 86 = .ok (.isub, 1) := by decide +kernel
theorem dX11_sunFor_87 : decode cX11_sunFor 87 = .ok (.iload_n 2, 1) := by decide +kernel
theorem dX11_sunFor_88 : decode cX11_sunFor 88 = .ok (.if_icmp .lt 6, 3) := by decide +kernel
theorem dX11_sunFor_91 : decode cX11_sunFor 91 = .ok (.iload 4, 2) := by decide +kernel
theorem dX11_sunFor_93 : decode cX11_sunFor 93 = .ok (.ireturn, 1) := by decide +kernel
theorem dX11_sunFor_94 : decode cX11_sunFor 94 = .ok (.iinc 4 1, 3) := by decide +kernel
theorem dX11_sunFor_97 : decode cX11_sunFor 97 = .ok (.goto (-59), 3) := by decide +kernel
theorem dX11_sunFor_100 : decode cX11_sunFor 100 = .ok (.aload_n 0, 1) := by decide +kernel
theorem dX11_sunFor_101 : decode cX11_sunFor 101 = .ok (.ldc 223, 2) := by decide +kernel
theorem dX11_sunFor_103 : decode cX11_sunFor 103 = .ok (.invokevirtual 82, 3) := by decide +kernel
theorem dX11_sunFor_106 : decode cX11_sunFor 106 = .ok (.ireturn, 1) := by decide +kernel
theorem dX11_sweepFor_0 : decode cX11_sweepFor 0 = .ok (.aload_n 0, 1) := by decide +kernel
theorem dX11_sweepFor_1 : decode cX11_sweepFor 1 = .ok (.iload_n 1, 1) := by decide +kernel
theorem dX11_sweepFor_2 : decode cX11_sweepFor 2 = .ok (.invokevirtual 124, 3) := by decide +kernel
theorem dX11_sweepFor_5 : decode cX11_sweepFor 5 = .ok (.ifCond .eq 13, 3) := by decide +kernel
theorem dX11_sweepFor_8 : decode cX11_sweepFor 8 = .ok (.iload_n 2, 1) := by decide +kernel
theorem dX11_sweepFor_9 : decode cX11_sweepFor 9 = .ok (.iconst 0, 1) := by decide +kernel
theorem dX11_sweepFor_10 : decode cX11_sweepFor 10 = .ok (.bipush 60, 2) := by decide +kernel
theorem dX11_sweepFor_12 : decode cX11_sweepFor 12 = .ok (.invokestatic 86, 3) := by decide +kernel
theorem dX11_sweepFor_15 : decode cX11_sweepFor 15 = .ok (.ifCond .ne 10, 3) := by decide +kernel
theorem dX11_sweepFor_18 : decode cX11_sweepFor 18 = .ok (.aload_n 0, 1) := by decide +kernel
theorem dX11_sweepFor_19 : decode cX11_sweepFor 19 = .ok (.ldc 81, 2) := by decide +kernel
theorem dX11_sweepFor_21 : decode cX11_sweepFor 21 = .ok (.invokevirtual 82, 3) := by decide +kernel
theorem dX11_sweepFor_24 : decode cX11_sweepFor 24 = .ok (.ireturn, 1) := by decide +kernel
theorem dX11_sweepFor_25 : decode cX11_sweepFor 25 = .ok (.iconst 1, 1) := by decide +kernel
theorem dX11_sweepFor_26 : decode cX11_sweepFor 26 = .ok (.istore_n 3, 1) := by decide +kernel
theorem dX11_sweepFor_27 : decode cX11_sweepFor 27 = .ok (.iconst (-1), 1) := by decide +kernel
theorem dX11_sweepFor_28 : decode cX11_sweepFor 28 = .ok (.istore 4, 2) := by decide +kernel
theorem dX11_sweepFor_30 : decode cX11_sweepFor 30 = .ok (.iconst 1, 1) := by decide +kernel
theorem dX11_sweepFor_31 : decode cX11_sweepFor 31 = .ok (.istore 5, 2) := by decide +kernel
theorem dX11_sweepFor_33 : decode cX11_sweepFor 33 = .ok (.iload 5, 2) := by decide +kernel
theorem dX11_sweepFor_35 : decode cX11_sweepFor 35 = .ok (.bipush 30, 2) := by decide +kernel
theorem dX11_sweepFor_37 : decode cX11_sweepFor 37 = .ok (.if_icmp .gt 62, 3) := by decide +kernel
theorem dX11_sweepFor_40 : decode cX11_sweepFor 40 = .ok (.aload_n 0, 1) := by decide +kernel
theorem dX11_sweepFor_41 : decode cX11_sweepFor 41 = .ok (.invokevirtual 217, 3) := by decide +kernel
theorem dX11_sweepFor_44 : decode cX11_sweepFor 44 = .ok (.aload_n 0, 1) := by decide +kernel
theorem dX11_sweepFor_45 : decode cX11_sweepFor 45 = .ok (.getfield 39, 3) := by decide +kernel
theorem dX11_sweepFor_48 : decode cX11_sweepFor 48 = .ok (.iload 5, 2) := by decide +kernel
theorem dX11_sweepFor_50 : decode cX11_sweepFor 50 = .ok (.putfield 106, 3) := by decide +kernel
theorem dX11_sweepFor_53 : decode cX11_sweepFor 53 = .ok (.aload_n 0, 1) := by decide +kernel
theorem dX11_sweepFor_54 : decode cX11_sweepFor 54 = .ok (.getfield 39, 3) := by decide +kernel
theorem dX11_sweepFor_57 : decode cX11_sweepFor 57 = .ok (.iload_n 2, 1) := by decide +kernel
theorem dX11_sweepFor_58 : decode cX11_sweepFor 58 = .ok (.aload_n 0, 1) := by decide +kernel
theorem dX11_sweepFor_59 : decode cX11_sweepFor 59 = .ok (.getfield 48, 3) := by decide +kernel
theorem dX11_sweepFor_62 : decode cX11_sweepFor 62 = .ok (.invokevirtual 205, 3) := by decide +kernel
theorem dX11_sweepFor_65 : decode cX11_sweepFor 65 = .ok (.aload_n 0, 1) := by decide +kernel
theorem dX11_sweepFor_66 : decode cX11_sweepFor 66 = .ok (.getfield 39, 3) := by decide +kernel
theorem dX11_sweepFor_69 : decode cX11_sweepFor 69 = .ok (.getfield 142, 3) := by decide +kernel
theorem dX11_sweepFor_72 : decode cX11_sweepFor 72 = .ok (.iload_n 1, 1) := by decide +kernel
theorem dX11_sweepFor_73 : decode cX11_sweepFor 73 = .ok (.iaload, 1) := by decide +kernel
theorem dX11_sweepFor_74 : decode cX11_sweepFor 74 = .ok (.iload 4, 2) := by decide +kernel
theorem dX11_sweepFor_76 : decode cX11_sweepFor 76 = .ok (.if_icmp .le 17, 3) := by decide +kernel
theorem dX11_sweepFor_79 : decode cX11_sweepFor 79 = .ok (.aload_n 0, 1) := by decide +kernel
theorem dX11_sweepFor_80 : decode cX11_sweepFor 80 = .ok (.getfield 39, 3) := by decide +kernel
theorem dX11_sweepFor_83 : decode cX11_sweepFor 83 = .ok (.getfield 142, 3) := by decide +kernel
theorem dX11_sweepFor_86 : decode cX11_sweepFor 86 = .ok (.iload_n 1, 1) := by decide +kernel
theorem dX11_sweepFor_87 : decode cX11_sweepFor 87 = .ok (.iaload, 1) := by decide +kernel
theorem dX11_sweepFor_88 : decode cX11_sweepFor 88 = .ok (.istore 4, 2) := by decide +kernel
theorem dX11_sweepFor_90 : decode cX11_sweepFor 90 = .ok (.iload 5, 2) := by decide +kernel
theorem dX11_sweepFor_92 : decode cX11_sweepFor 92 = .ok (.istore_n 3, 1) := by decide +kernel
theorem dX11_sweepFor_93 : decode cX11_sweepFor 93 = .ok (.iinc 5 1, 3) := by decide +kernel
theorem dX11_sweepFor_96 : decode cX11_sweepFor 96 = .ok (.goto (-63), 3) := by decide +kernel
theorem dX11_sweepFor_99 : decode cX11_sweepFor 99 = .ok (.iload_n 3, 1) := by decide +kernel
theorem dX11_sweepFor_100 : decode cX11_sweepFor 100 = .ok (.ireturn, 1) := by decide +kernel
theorem dX11_whence_0 : decode cX11_whence 0 = .ok (.iload_n 1, 1) := by decide +kernel
theorem dX11_whence_1 : decode cX11_whence 1 = .ok (.invokestatic 230, 3) := by decide +kernel
theorem dX11_whence_4 : decode cX11_whence 4 = .ok (.ifCond .eq 20, 3) := by decide +kernel
theorem dX11_whence_7 : decode cX11_whence 7 = .ok (.aload_n 0, 1) := by decide +kernel
theorem dX11_whence_8 : decode cX11_whence 8 = .ok (.iload_n 2, 1) := by decide +kernel
theorem dX11_whence_9 : decode cX11_whence 9 = .ok (.invokevirtual 124, 3) := by decide +kernel
theorem dX11_whence_12 : decode cX11_whence 12 = .ok (.ifCond .eq 12, 3) := by decide +kernel
theorem dX11_whence_15 : decode cX11_whence 15 = .ok (.iload_n 3, 1) := by decide +kernel
theorem dX11_whence_16 : decode cX11_whence 16 = .ok (.iconst 0, 1) := by decide +kernel
theorem dX11_whence_17 : decode cX11_whence 17 = .ok (.iconst 1, 1) := by decide +kernel
theorem dX11_whence_18 : decode cX11_whence 18 = .ok (.invokestatic 86, 3) := by decide +kernel
theorem dX11_whence_21 : decode cX11_whence 21 = .ok (.ifCond .ne 10, 3) := by decide +kernel
theorem dX11_whence_24 : decode cX11_whence 24 = .ok (.aload_n 0, 1) := by decide +kernel
theorem dX11_whence_25 : decode cX11_whence 25 = .ok (.ldc 81, 2) := by decide +kernel
theorem dX11_whence_27 : decode cX11_whence 27 = .ok (.invokevirtual 82, 3) := by decide +kernel
theorem dX11_whence_30 : decode cX11_whence 30 = .ok (.ireturn, 1) := by decide +kernel
theorem dX11_whence_31 : decode cX11_whence 31 = .ok (.aload_n 0, 1) := by decide +kernel
theorem dX11_whence_32 : decode cX11_whence 32 = .ok (.iload_n 1, 1) := by decide +kernel
theorem dX11_whence_33 : decode cX11_whence 33 = .ok (.invokevirtual 233, 3) := by decide +kernel
theorem dX11_whence_36 : decode cX11_whence 36 = .ok (.ifCond .eq 10, 3) := by decide +kernel
theorem dX11_whence_39 : decode cX11_whence 39 = .ok (.aload_n 0, 1) := by decide +kernel
theorem dX11_whence_40 : decode cX11_whence 40 = .ok (.ldc 223, 2) := by decide +kernel
theorem dX11_whence_42 : decode cX11_whence 42 = .ok (.invokevirtual 82, 3) := by decide +kernel
theorem dX11_whence_45 : decode cX11_whence 45 = .ok (.ireturn, 1) := by decide +kernel
theorem dX11_whence_46 : decode cX11_whence 46 = .ok (.iconst 0, 1) := by decide +kernel
theorem dX11_whence_47 : decode cX11_whence 47 = .ok (.istore 4, 2) := by decide +kernel
theorem dX11_whence_49 : decode cX11_whence 49 = .ok (.iconst (-1), 1) := by decide +kernel
theorem dX11_whence_50 : decode cX11_whence 50 = .ok (.istore 5, 2) := by decide +kernel
theorem dX11_whence_52 : decode cX11_whence 52 = .ok (.iconst 0, 1) := by decide +kernel
theorem dX11_whence_53 : decode cX11_whence 53 = .ok (.istore 6, 2) := by decide +kernel
theorem dX11_whence_55 : decode cX11_whence 55 = .ok (.iload 6, 2) := by decide +kernel
theorem dX11_whence_57 : decode cX11_whence 57 = .ok (.bipush 7, 2) := by decide +kernel
theorem dX11_whence_59 : decode cX11_whence 59 = .ok (.if_icmp .ge 93, 3) := by decide +kernel
theorem dX11_whence_62 : decode cX11_whence 62 = .ok (.iconst 0, 1) := by decide +kernel
theorem dX11_whence_63 : decode cX11_whence 63 = .ok (.istore 7, 2) := by decide +kernel
theorem dX11_whence_65 : decode cX11_whence 65 = .ok (.iload 7, 2) := by decide +kernel
theorem dX11_whence_67 : decode cX11_whence 67 = .ok (.bipush 16, 2) := by decide +kernel
theorem dX11_whence_69 : decode cX11_whence 69 = .ok (.if_icmp .ge 77, 3) := by decide +kernel
theorem dX11_whence_72 : decode cX11_whence 72 = .ok (.aload_n 0, 1) := by decide +kernel
theorem dX11_whence_73 : decode cX11_whence 73 = .ok (.invokevirtual 217, 3) := by decide +kernel
theorem dX11_whence_76 : decode cX11_whence 76 = .ok (.aload_n 0, 1) := by decide +kernel
theorem dX11_whence_77 : decode cX11_whence 77 = .ok (.getfield 39, 3) := by decide +kernel
theorem dX11_whence_80 : decode cX11_whence 80 = .ok (.getfield 127, 3) := by decide +kernel
theorem dX11_whence_83 : decode cX11_whence 83 = .ok (.iload_n 2, 1) := by decide +kernel
theorem dX11_whence_84 : decode cX11_whence 84 = .ok (.iload 6, 2) := by decide +kernel
theorem dX11_whence_86 : decode cX11_whence 86 = .ok (.iastore, 1) := by decide +kernel
theorem dX11_whence_87 : decode cX11_whence 87 = .ok (.aload_n 0, 1) := by decide +kernel
theorem dX11_whence_88 : decode cX11_whence 88 = .ok (.getfield 39, 3) := by decide +kernel
theorem dX11_whence_91 : decode cX11_whence 91 = .ok (.getfield 136, 3) := by decide +kernel
theorem dX11_whence_94 : decode cX11_whence 94 = .ok (.iload_n 2, 1) := by decide +kernel
theorem dX11_whence_95 : decode cX11_whence 95 = .ok (.iconst 0, 1) := by decide +kernel
theorem dX11_whence_96 : decode cX11_whence 96 = .ok (.iastore, 1) := by decide +kernel
theorem dX11_whence_97 : decode cX11_whence 97 = .ok (.aload_n 0, 1) := by decide +kernel
theorem dX11_whence_98 : decode cX11_whence 98 = .ok (.getfield 39, 3) := by decide +kernel
theorem dX11_whence_101 : decode cX11_whence 101 = .ok (.getfield 139, 3) := by decide +kernel
theorem dX11_whence_104 : decode cX11_whence 104 = .ok (.iload_n 2, 1) := by decide +kernel
theorem dX11_whence_105 : decode cX11_whence 105 = .ok (.iload 7, 2) := by decide +kernel
theorem dX11_whence_107 : decode cX11_whence 107 = .ok (.iastore, 1) := by decide +kernel
theorem dX11_whence_108 : decode cX11_whence 108 = .ok (.aload_n 0, 1) := by decide +kernel
theorem dX11_whence_109 : decode cX11_whence 109 = .ok (.iload_n 2, 1) := by decide +kernel
theorem dX11_whence_110 : decode cX11_whence 110 = .ok (.iload_n 1, 1) := by decide +kernel
theorem dX11_whence_111 : decode cX11_whence 111 = .ok (.invokevirtual 236, 3) := by decide +kernel
theorem dX11_whence_114 : decode cX11_whence 114 = .ok (.ifCond .eq 26, 3) := by decide +kernel
theorem dX11_whence_117 : decode cX11_whence 117 = .ok (.iinc 4 1, 3) := by decide +kernel
theorem dX11_whence_120 : decode cX11_whence 120 = .ok (.iload 5, 2) := by decide +kernel
theorem dX11_whence_122 : decode cX11_whence 122 = .ok (.ifCond .ge 14, 3) := by decide +kernel
theorem dX11_whence_125 : decode cX11_whence 125 = .ok (.bipush 100, 2) := by decide +kernel
theorem dX11_whence_127 : decode cX11_whence 127 = .ok (.iload 6, 2) := by decide +kernel
theorem dX11_whence_129 : decode cX11_whence 129 = .ok (.imul, 1) := by decide +kernel
theorem dX11_whence_130 : decode cX11_whence 130 = .ok (.iload 7, 2) := by decide +kernel
theorem dX11_whence_132 : decode cX11_whence 132 = .ok (.iadd, 1) := by decide +kernel
theorem dX11_whence_133 : decode cX11_whence 133 = .ok (.goto 5, 3) := by decide +kernel
theorem dX11_whence_136 : decode cX11_whence 136 = .ok (.iload 5, 2) := by decide +kernel
theorem dX11_whence_138 : decode cX11_whence 138 = .ok (.istore 5, 2) := by decide +kernel
theorem dX11_whence_140 : decode cX11_whence 140 = .ok (.iinc 7 1, 3) := by decide +kernel
theorem dX11_whence_143 : decode cX11_whence 143 = .ok (.goto (-78), 3) := by decide +kernel
theorem dX11_whence_146 : decode cX11_whence 146 = .ok (.iinc 6 1, 3) := by decide +kernel
theorem dX11_whence_149 : decode cX11_whence 149 = .ok (.goto (-94), 3) := by decide +kernel
theorem dX11_whence_152 : decode cX11_whence 152 = .ok (.iload_n 3, 1) := by decide +kernel
theorem dX11_whence_153 : decode cX11_whence 153 = .ok (.ifCond .ne 6, 3) := by decide +kernel
theorem dX11_whence_156 : decode cX11_whence 156 = .ok (.iload 4, 2) := by decide +kernel
theorem dX11_whence_158 : decode cX11_whence 158 = .ok (.ireturn, 1) := by decide +kernel
theorem dX11_whence_159 : decode cX11_whence 159 = .ok (.iload 5, 2) := by decide +kernel
theorem dX11_whence_161 : decode cX11_whence 161 = .ok (.ifCond .ge 12, 3) := by decide +kernel
theorem dX11_whence_164 : decode cX11_whence 164 = .ok (.aload_n 0, 1) := by decide +kernel
theorem dX11_whence_165 : decode cX11_whence 165 = .ok (.ldc 223, 2) := by decide +kernel
theorem dX11_whence_167 : decode cX11_whence 167 = .ok (.invokevirtual 82, 3) := by decide +kernel
theorem dX11_whence_170 : decode cX11_whence 170 = .ok (.goto 5, 3) := by decide +kernel
theorem dX11_whence_173 : decode cX11_whence 173 = .ok (.iload 5, 2) := by decide +kernel
theorem dX11_whence_175 : decode cX11_whence 175 = .ok (.ireturn, 1) := by decide +kernel
theorem dX11_bare_0 : decode cX11_bare 0 = .ok (.iload_n 1, 1) := by decide +kernel
theorem dX11_bare_1 : decode cX11_bare 1 = .ok (.iconst 0, 1) := by decide +kernel
theorem dX11_bare_2 : decode cX11_bare 2 = .ok (.bipush 60, 2) := by decide +kernel
theorem dX11_bare_4 : decode cX11_bare 4 = .ok (.invokestatic 86, 3) := by decide +kernel
theorem dX11_bare_7 : decode cX11_bare 7 = .ok (.ifCond .ne 10, 3) := by decide +kernel
theorem dX11_bare_10 : decode cX11_bare 10 = .ok (.aload_n 0, 1) := by decide +kernel
theorem dX11_bare_11 : decode cX11_bare 11 = .ok (.ldc 81, 2) := by decide +kernel
theorem dX11_bare_13 : decode cX11_bare 13 = .ok (.invokevirtual 82, 3) := by decide +kernel
theorem dX11_bare_16 : decode cX11_bare 16 = .ok (.ireturn, 1) := by decide +kernel
theorem dX11_bare_17 : decode cX11_bare 17 = .ok (.aload_n 0, 1) := by decide +kernel
theorem dX11_bare_18 : decode cX11_bare 18 = .ok (.invokevirtual 217, 3) := by decide +kernel
theorem dX11_bare_21 : decode cX11_bare 21 = .ok (.aload_n 0, 1) := by decide +kernel
theorem dX11_bare_22 : decode cX11_bare 22 = .ok (.getfield 39, 3) := by decide +kernel
theorem dX11_bare_25 : decode cX11_bare 25 = .ok (.iload_n 1, 1) := by decide +kernel
theorem dX11_bare_26 : decode cX11_bare 26 = .ok (.aload_n 0, 1) := by decide +kernel
theorem dX11_bare_27 : decode cX11_bare 27 = .ok (.getfield 48, 3) := by decide +kernel
theorem dX11_bare_30 : decode cX11_bare 30 = .ok (.invokevirtual 205, 3) := by decide +kernel
theorem dX11_bare_33 : decode cX11_bare 33 = .ok (.iconst 0, 1) := by decide +kernel
theorem dX11_bare_34 : decode cX11_bare 34 = .ok (.istore_n 2, 1) := by decide +kernel
theorem dX11_bare_35 : decode cX11_bare 35 = .ok (.iconst 0, 1) := by decide +kernel
theorem dX11_bare_36 : decode cX11_bare 36 = .ok (.istore_n 3, 1) := by decide +kernel
theorem dX11_bare_37 : decode cX11_bare 37 = .ok (.iload_n 3, 1) := by decide +kernel
theorem dX11_bare_38 : decode cX11_bare 38 = .ok (.bipush 16, 2) := by decide +kernel
theorem dX11_bare_40 : decode cX11_bare 40 = .ok (.if_icmp .ge 26, 3) := by decide +kernel
theorem dX11_bare_43 : decode cX11_bare 43 = .ok (.aload_n 0, 1) := by decide +kernel
theorem dX11_bare_44 : decode cX11_bare 44 = .ok (.getfield 39, 3) := by decide +kernel
theorem dX11_bare_47 : decode cX11_bare 47 = .ok (.iload_n 3, 1) := by decide +kernel
theorem dX11_bare_48 : decode cX11_bare 48 = .ok (.invokevirtual 96, 3) := by decide +kernel
theorem dX11_bare_51 : decode cX11_bare 51 = .ok (.ifCond .ne 9, 3) := by decide +kernel
theorem dX11_bare_54 : decode cX11_bare 54 = .ok (.iload_n 2, 1) := by decide +kernel
theorem dX11_bare_55 : decode cX11_bare 55 = .ok (.iconst 1, 1) := by decide +kernel
theorem dX11_bare_56 : decode cX11_bare 56 = .ok (.iload_n 3, 1) := by decide +kernel
theorem dX11_bare_57 : decode cX11_bare 57 = .ok (.ishl, 1) := by decide +kernel
theorem dX11_bare_58 : decode cX11_bare 58 = .ok (.ior, 1) := by decide +kernel
theorem dX11_bare_59 : decode cX11_bare 59 = .ok (.istore_n 2, 1) := by decide +kernel
theorem dX11_bare_60 : decode cX11_bare 60 = .ok (.iinc 3 1, 3) := by decide +kernel
theorem dX11_bare_63 : decode cX11_bare 63 = .ok (.goto (-26), 3) := by decide +kernel
theorem dX11_bare_66 : decode cX11_bare 66 = .ok (.iload_n 2, 1) := by decide +kernel
theorem dX11_bare_67 : decode cX11_bare 67 = .ok (.ireturn, 1) := by decide +kernel
theorem dX11_crowd_0 : decode cX11_crowd 0 = .ok (.iload_n 1, 1) := by decide +kernel
theorem dX11_crowd_1 : decode cX11_crowd 1 = .ok (.iconst 0, 1) := by decide +kernel
theorem dX11_crowd_2 : decode cX11_crowd 2 = .ok (.bipush 60, 2) := by decide +kernel
theorem dX11_crowd_4 : decode cX11_crowd 4 = .ok (.invokestatic 86, 3) := by decide +kernel
theorem dX11_crowd_7 : decode cX11_crowd 7 = .ok (.ifCond .eq 12, 3) := by decide +kernel
theorem dX11_crowd_10 : decode cX11_crowd 10 = .ok (.iload_n 2, 1) := by decide +kernel
theorem dX11_crowd_11 : decode cX11_crowd 11 = .ok (.iconst 0, 1) := by decide +kernel
theorem dX11_crowd_12 : decode cX11_crowd 12 = .ok (.iconst 1, 1) := by decide +kernel
theorem dX11_crowd_13 : decode cX11_crowd 13 = .ok (.invokestatic 86, 3) := by decide +kernel
theorem dX11_crowd_16 : decode cX11_crowd 16 = .ok (.ifCond .ne 10, 3) := by decide +kernel
theorem dX11_crowd_19 : decode cX11_crowd 19 = .ok (.aload_n 0, 1) := by decide +kernel
theorem dX11_crowd_20 : decode cX11_crowd 20 = .ok (.ldc 81, 2) := by decide +kernel
theorem dX11_crowd_22 : decode cX11_crowd 22 = .ok (.invokevirtual 82, 3) := by decide +kernel
theorem dX11_crowd_25 : decode cX11_crowd 25 = .ok (.ireturn, 1) := by decide +kernel
theorem dX11_crowd_26 : decode cX11_crowd 26 = .ok (.aload_n 0, 1) := by decide +kernel
theorem dX11_crowd_27 : decode cX11_crowd 27 = .ok (.invokevirtual 217, 3) := by decide +kernel
theorem dX11_crowd_30 : decode cX11_crowd 30 = .ok (.aload_n 0, 1) := by decide +kernel
theorem dX11_crowd_31 : decode cX11_crowd 31 = .ok (.getfield 39, 3) := by decide +kernel
theorem dX11_crowd_34 : decode cX11_crowd 34 = .ok (.iload_n 1, 1) := by decide +kernel
theorem dX11_crowd_35 : decode cX11_crowd 35 = .ok (.aload_n 0, 1) := by decide +kernel
theorem dX11_crowd_36 : decode cX11_crowd 36 = .ok (.getfield 48, 3) := by decide +kernel
theorem dX11_crowd_39 : decode cX11_crowd 39 = .ok (.invokevirtual 205, 3) := by decide +kernel
theorem dX11_crowd_42 : decode cX11_crowd 42 = .ok (.iconst 0, 1) := by decide +kernel
theorem dX11_crowd_43 : decode cX11_crowd 43 = .ok (.istore_n 3, 1) := by decide +kernel
theorem dX11_crowd_44 : decode cX11_crowd 44 = .ok (.iconst 0, 1) := by decide +kernel
theorem dX11_crowd_45 : decode cX11_crowd 45 = .ok (.istore 4, 2) := by decide +kernel
theorem dX11_crowd_47 : decode cX11_crowd 47 = .ok (.iconst 0, 1) := by decide +kernel
theorem dX11_crowd_48 : decode cX11_crowd 48 = .ok (.istore 5, 2) := by decide +kernel
theorem dX11_crowd_50 : decode cX11_crowd 50 = .ok (.iload 5, 2) := by decide +kernel
theorem dX11_crowd_52 : decode cX11_crowd 52 = .ok (.bipush 16, 2) := by decide +kernel
theorem dX11_crowd_54 : decode cX11_crowd 54 = .ok (.if_icmp .ge 37, 3) := by decide +kernel
theorem dX11_crowd_57 : decode cX11_crowd 57 = .ok (.aload_n 0, 1) := by decide +kernel
theorem dX11_crowd_58 : decode cX11_crowd 58 = .ok (.getfield 39, 3) := by decide +kernel
theorem dX11_crowd_61 : decode cX11_crowd 61 = .ok (.iload 5, 2) := by decide +kernel
theorem dX11_crowd_63 : decode cX11_crowd 63 = .ok (.invokevirtual 96, 3) := by decide +kernel
theorem dX11_crowd_66 : decode cX11_crowd 66 = .ok (.invokestatic 239, 3) := by decide +kernel
theorem dX11_crowd_69 : decode cX11_crowd 69 = .ok (.istore 6, 2) := by decide +kernel
theorem dX11_crowd_71 : decode cX11_crowd 71 = .ok (.iload 6, 2) := by decide +kernel
theorem dX11_crowd_73 : decode cX11_crowd 73 = .ok (.iload 4, 2) := by decide +kernel
theorem dX11_crowd_75 : decode cX11_crowd 75 = .ok (.if_icmp .le 10, 3) := by decide +kernel
theorem dX11_crowd_78 : decode cX11_crowd 78 = .ok (.iload 6, 2) := by decide +kernel
theorem dX11_crowd_80 : decode cX11_crowd 80 = .ok (.istore 4, 2) := by decide +kernel
theorem dX11_crowd_82 : decode cX11_crowd 82 = .ok (.iload 5, 2) := by decide +kernel
theorem dX11_crowd_84 : decode cX11_crowd 84 = .ok (.istore_n 3, 1) := by decide +kernel
theorem dX11_crowd_85 : decode cX11_crowd 85 = .ok (.iinc 5 1, 3) := by decide +kernel
theorem dX11_crowd_88 : decode cX11_crowd 88 = .ok (.goto (-38), 3) := by decide +kernel
theorem dX11_crowd_91 : decode cX11_crowd 91 = .ok (.iload_n 2, 1) := by decide +kernel
theorem dX11_crowd_92 : decode cX11_crowd 92 = .ok (.ifCond .ne 7, 3) := by decide +kernel
theorem dX11_crowd_95 : decode cX11_crowd 95 = .ok (.iload_n 3, 1) := by decide +kernel
theorem dX11_crowd_96 : decode cX11_crowd 96 = .ok (.goto 5, 3) := by decide +kernel
theorem dX11_crowd_99 : decode cX11_crowd 99 = .ok (.iload 4, 2) := by decide +kernel
theorem dX11_crowd_101 : decode cX11_crowd 101 = .ok (.ireturn, 1) := by decide +kernel
theorem dX11_light_0 : decode cX11_light 0 = .ok (.iload_n 1, 1) := by decide +kernel
theorem dX11_light_1 : decode cX11_light 1 = .ok (.iconst 0, 1) := by decide +kernel
theorem dX11_light_2 : decode cX11_light 2 = .ok (.bipush 60, 2) := by decide +kernel
theorem dX11_light_4 : decode cX11_light 4 = .ok (.invokestatic 86, 3) := by decide +kernel
theorem dX11_light_7 : decode cX11_light 7 = .ok (.ifCond .ne 10, 3) := by decide +kernel
theorem dX11_light_10 : decode cX11_light 10 = .ok (.aload_n 0, 1) := by decide +kernel
theorem dX11_light_11 : decode cX11_light 11 = .ok (.ldc 81, 2) := by decide +kernel
theorem dX11_light_13 : decode cX11_light 13 = .ok (.invokevirtual 82, 3) := by decide +kernel
theorem dX11_light_16 : decode cX11_light 16 = .ok (.ireturn, 1) := by decide +kernel
theorem dX11_light_17 : decode cX11_light 17 = .ok (.aload_n 0, 1) := by decide +kernel
theorem dX11_light_18 : decode cX11_light 18 = .ok (.invokevirtual 217, 3) := by decide +kernel
theorem dX11_light_21 : decode cX11_light 21 = .ok (.aload_n 0, 1) := by decide +kernel
theorem dX11_light_22 : decode cX11_light 22 = .ok (.getfield 39, 3) := by decide +kernel
theorem dX11_light_25 : decode cX11_light 25 = .ok (.iload_n 1, 1) := by decide +kernel
theorem dX11_light_26 : decode cX11_light 26 = .ok (.aload_n 0, 1) := by decide +kernel
theorem dX11_light_27 : decode cX11_light 27 = .ok (.getfield 48, 3) := by decide +kernel
theorem dX11_light_30 : decode cX11_light 30 = .ok (.invokevirtual 205, 3) := by decide +kernel
theorem dX11_light_33 : decode cX11_light 33 = .ok (.aload_n 0, 1) := by decide +kernel
theorem dX11_light_34 : decode cX11_light 34 = .ok (.getfield 39, 3) := by decide +kernel
theorem dX11_light_37 : decode cX11_light 37 = .ok (.getfield 110, 3) := by decide +kernel
theorem dX11_light_40 : decode cX11_light 40 = .ok (.aload_n 0, 1) := by decide +kernel
theorem dX11_light_41 : decode cX11_light 41 = .ok (.getfield 35, 3) := by decide +kernel
theorem dX11_light_44 : decode cX11_light 44 = .ok (.getfield 110, 3) := by decide +kernel
theorem dX11_light_47 : decode cX11_light 47 = .ok (.isub, 1) := by decide +kernel
theorem dX11_light_48 : decode cX11_light 48 = .ok (.ireturn, 1) := by decide +kernel
theorem dX11_late_0 : decode cX11_late 0 = .ok (.aload_n 0, 1) := by decide +kernel
theorem dX11_late_1 : decode cX11_late 1 = .ok (.iload_n 1, 1) := by decide +kernel
theorem dX11_late_2 : decode cX11_late 2 = .ok (.invokevirtual 224, 3) := by decide +kernel
theorem dX11_late_5 : decode cX11_late 5 = .ok (.ifCond .ne 10, 3) := by decide +kernel
theorem dX11_late_8 : decode cX11_late 8 = .ok (.aload_n 0, 1) := by decide +kernel
theorem dX11_late_9 : decode cX11_late 9 = .ok (.ldc 81, 2) := by decide +kernel
theorem dX11_late_11 : decode cX11_late 11 = .ok (.invokevirtual 82, 3) := by decide +kernel
theorem dX11_late_14 : decode cX11_late 14 = .ok (.ireturn, 1) := by decide +kernel
theorem dX11_late_15 : decode cX11_late 15 = .ok (.aload_n 0, 1) := by decide +kernel
theorem dX11_late_16 : decode cX11_late 16 = .ok (.invokevirtual 217, 3) := by decide +kernel
theorem dX11_late_19 : decode cX11_late 19 = .ok (.iconst 0, 1) := by decide +kernel
theorem dX11_late_20 : decode cX11_late 20 = .ok (.istore_n 2, 1) := by decide +kernel
theorem dX11_late_21 : decode cX11_late 21 = .ok (.iload_n 2, 1) := by decide +kernel
theorem dX11_late_22 : decode cX11_late 22 = .ok (.bipush 60, 2) := by decide +kernel
theorem dX11_late_24 : decode cX11_late 24 = .ok (.if_icmp .gt 36, 3) := by decide +kernel
theorem dX11_late_27 : decode cX11_late 27 = .ok (.iload_n 1, 1) := by decide +kernel
theorem dX11_late_28 : decode cX11_late 28 = .ok (.aload_n 0, 1) := by decide +kernel
theorem dX11_late_29 : decode cX11_late 29 = .ok (.getfield 39, 3) := by decide +kernel
theorem dX11_late_32 : decode cX11_late 32 = .ok (.invokevirtual 244, 3) := by decide +kernel
theorem dX11_late_35 : decode cX11_late 35 = .ok (.iconst (-1), 1) := by decide +kernel
theorem dX11_late_36 : decode cX11_late 36 = .ok (.ixor, 1) := by decide +kernel
theorem dX11_late_37 : decode cX11_late 37 = .ok (.iand, 1) := by decide +kernel
theorem dX11_late_38 : decode cX11_late 38 = .ok (.ifCond .ne 5, 3) := by decide +kernel
theorem dX11_late_41 : decode cX11_late 41 = .ok (.iload_n 2, 1) := by decide +kernel
theorem dX11_late_42 : decode cX11_late 42 = .ok (.ireturn, 1) := by decide +kernel
theorem dX11_late_43 : decode cX11_late 43 = .ok (.aload_n 0, 1) := by decide +kernel
theorem dX11_late_44 : decode cX11_late 44 = .ok (.getfield 39, 3) := by decide +kernel
theorem dX11_late_47 : decode cX11_late 47 = .ok (.aload_n 0, 1) := by decide +kernel
theorem dX11_late_48 : decode cX11_late 48 = .ok (.getfield 48, 3) := by decide +kernel
theorem dX11_late_51 : decode cX11_late 51 = .ok (.invokevirtual 213, 3) := by decide +kernel
theorem dX11_late_54 : decode cX11_late 54 = .ok (.iinc 2 1, 3) := by decide +kernel
theorem dX11_late_57 : decode cX11_late 57 = .ok (.goto (-36), 3) := by decide +kernel
theorem dX11_late_60 : decode cX11_late 60 = .ok (.aload_n 0, 1) := by decide +kernel
theorem dX11_late_61 : decode cX11_late 61 = .ok (.ldc 223, 2) := by decide +kernel
theorem dX11_late_63 : decode cX11_late 63 = .ok (.invokevirtual 82, 3) := by decide +kernel
theorem dX11_late_66 : decode cX11_late 66 = .ok (.ireturn, 1) := by decide +kernel
theorem dX11_odds_0 : decode cX11_odds 0 = .ok (.aload_n 0, 1) := by decide +kernel
theorem dX11_odds_1 : decode cX11_odds 1 = .ok (.iload_n 1, 1) := by decide +kernel
theorem dX11_odds_2 : decode cX11_odds 2 = .ok (.invokevirtual 124, 3) := by decide +kernel
theorem dX11_odds_5 : decode cX11_odds 5 = .ok (.ifCond .eq 22, 3) := by decide +kernel
theorem dX11_odds_8 : decode cX11_odds 8 = .ok (.iload_n 2, 1) := by decide +kernel
theorem dX11_odds_9 : decode cX11_odds 9 = .ok (.iconst 0, 1) := by decide +kernel
theorem dX11_odds_10 : decode cX11_odds 10 = .ok (.bipush 60, 2) := by decide +kernel
theorem dX11_odds_12 : decode cX11_odds 12 = .ok (.invokestatic 86, 3) := by decide +kernel
theorem dX11_odds_15 : decode cX11_odds 15 = .ok (.ifCond .eq 12, 3) := by decide +kernel
theorem dX11_odds_18 : decode cX11_odds 18 = .ok (.iload_n 3, 1) := by decide +kernel
theorem dX11_odds_19 : decode cX11_odds 19 = .ok (.iconst 0, 1) := by decide +kernel
theorem dX11_odds_20 : decode cX11_odds 20 = .ok (.iconst 1, 1) := by decide +kernel
theorem dX11_odds_21 : decode cX11_odds 21 = .ok (.invokestatic 86, 3) := by decide +kernel
theorem dX11_odds_24 : decode cX11_odds 24 = .ok (.ifCond .ne 10, 3) := by decide +kernel
theorem dX11_odds_27 : decode cX11_odds 27 = .ok (.aload_n 0, 1) := by decide +kernel
theorem dX11_odds_28 : decode cX11_odds 28 = .ok (.ldc 81, 2) := by decide +kernel
theorem dX11_odds_30 : decode cX11_odds 30 = .ok (.invokevirtual 82, 3) := by decide +kernel
theorem dX11_odds_33 : decode cX11_odds 33 = .ok (.ireturn, 1) := by decide +kernel
theorem dX11_odds_34 : decode cX11_odds 34 = .ok (.bipush 10, 2) := by decide +kernel
theorem dX11_odds_36 : decode cX11_odds 36 = .ok (.istore 4, 2) := by decide +kernel
theorem dX11_odds_38 : decode cX11_odds 38 = .ok (.iconst 0, 1) := by decide +kernel
theorem dX11_odds_39 : decode cX11_odds 39 = .ok (.istore 5, 2) := by decide +kernel
theorem dX11_odds_41 : decode cX11_odds 41 = .ok (.iconst 0, 1) := by decide +kernel
theorem dX11_odds_42 : decode cX11_odds 42 = .ok (.istore 6, 2) := by decide +kernel
theorem dX11_odds_44 : decode cX11_odds 44 = .ok (.iload 6, 2) := by decide +kernel
theorem dX11_odds_46 : decode cX11_odds 46 = .ok (.iload 4, 2) := by decide +kernel
theorem dX11_odds_48 : decode cX11_odds 48 = .ok (.if_icmp .ge 48, 3) := by decide +kernel
theorem dX11_odds_51 : decode cX11_odds 51 = .ok (.aload_n 0, 1) := by decide +kernel
theorem dX11_odds_52 : decode cX11_odds 52 = .ok (.invokevirtual 217, 3) := by decide +kernel
theorem dX11_odds_55 : decode cX11_odds 55 = .ok (.aload_n 0, 1) := by decide +kernel
theorem dX11_odds_56 : decode cX11_odds 56 = .ok (.getfield 39, 3) := by decide +kernel
theorem dX11_odds_59 : decode cX11_odds 59 = .ok (.iload 6, 2) := by decide +kernel
theorem dX11_odds_61 : decode cX11_odds 61 = .ok (.putfield 102, 3) := by decide +kernel
theorem dX11_odds_64 : decode cX11_odds 64 = .ok (.aload_n 0, 1) := by decide +kernel
theorem dX11_odds_65 : decode cX11_odds 65 = .ok (.getfield 39, 3) := by decide +kernel
theorem dX11_odds_68 : decode cX11_odds 68 = .ok (.iload_n 2, 1) := by decide +kernel
theorem dX11_odds_69 : decode cX11_odds 69 = .ok (.aload_n 0, 1) := by decide +kernel
theorem dX11_odds_70 : decode cX11_odds 70 = .ok (.getfield 48, 3) := by decide +kernel
theorem dX11_odds_73 : decode cX11_odds 73 = .ok (.invokevirtual 205, 3) := by decide +kernel
theorem dX11_odds_76 : decode cX11_odds 76 = .ok (.aload_n 0, 1) := by decide +kernel
theorem dX11_odds_77 : decode cX11_odds 77 = .ok (.getfield 39, 3) := by decide +kernel
theorem dX11_odds_80 : decode cX11_odds 80 = .ok (.iload_n 1, 1) := by decide +kernel
theorem dX11_odds_81 : decode cX11_odds 81 = .ok (.invokevirtual 158, 3) := by decide +kernel
theorem dX11_odds_84 : decode cX11_odds 84 = .ok (.ifCond .eq 6, 3) := by decide +kernel
theorem dX11_odds_87 : decode cX11_odds 87 = .ok (.iinc 5 1, 3) := by decide +kernel
theorem dX11_odds_90 : decode cX11_odds 90 = .ok (.iinc 6 1, 3) := by decide +kernel
theorem dX11_odds_93 : decode cX11_odds 93 = .ok (.goto (-49), 3) := by decide +kernel
theorem dX11_odds_96 : decode cX11_odds 96 = .ok (.iload 5, 2) := by decide +kernel
theorem dX11_odds_98 : decode cX11_odds 98 = .ok (.iload 4, 2) := by decide +kernel
theorem dX11_odds_100 : decode cX11_odds 100 = .ok (.invokestatic 247, 3) := by decide +kernel
theorem dX11_odds_103 : decode cX11_odds 103 = .ok (.istore 6, 2) := by decide +kernel
theorem dX11_odds_105 : decode cX11_odds 105 = .ok (.iload_n 3, 1) := by decide +kernel
theorem dX11_odds_106 : decode cX11_odds 106 = .ok (.ifCond .ne 8, 3) := by decide +kernel
theorem dX11_odds_109 : decode cX11_odds 109 = .ok (.iload 5, 2) := by decide +kernel
theorem dX11_odds_111 : decode cX11_odds 111 = .ok (.goto 5, 3) := by decide +kernel
theorem dX11_odds_114 : decode cX11_odds 114 = .ok (.iload 4, 2) := by decide +kernel
theorem dX11_odds_116 : decode cX11_odds 116 = .ok (.iload 6, 2) := by decide +kernel
theorem dX11_odds_118 : decode cX11_odds 118 = .ok (.idiv, 1) := by decide +kernel
theorem dX11_odds_119 : decode cX11_odds 119 = .ok (.ireturn, 1) := by decide +kernel
theorem dX11_seed_0 : decode cX11_seed 0 = .ok (.aload_n 0, 1) := by decide +kernel
theorem dX11_seed_1 : decode cX11_seed 1 = .ok (.getfield 48, 3) := by decide +kernel
theorem dX11_seed_4 : decode cX11_seed 4 = .ok (.getfield 250, 3) := by decide +kernel
theorem dX11_seed_7 : decode cX11_seed 7 = .ok (.istore_n 2, 1) := by decide +kernel
theorem dX11_seed_8 : decode cX11_seed 8 = .ok (.aload_n 0, 1) := by decide +kernel
theorem dX11_seed_9 : decode cX11_seed 9 = .ok (.getfield 48, 3) := by decide +kernel
theorem dX11_seed_12 : decode cX11_seed 12 = .ok (.iload_n 1, 1) := by decide +kernel
theorem dX11_seed_13 : decode cX11_seed 13 = .ok (.putfield 250, 3) := by decide +kernel
theorem dX11_seed_16 : decode cX11_seed 16 = .ok (.iload_n 2, 1) := by decide +kernel
theorem dX11_seed_17 : decode cX11_seed 17 = .ok (.ireturn, 1) := by decide +kernel
theorem dX11_voice_0 : decode cX11_voice 0 = .ok (.aload_n 0, 1) := by decide +kernel
theorem dX11_voice_1 : decode cX11_voice 1 = .ok (.iload_n 1, 1) := by decide +kernel
theorem dX11_voice_2 : decode cX11_voice 2 = .ok (.invokevirtual 124, 3) := by decide +kernel
theorem dX11_voice_5 : decode cX11_voice 5 = .ok (.ifCond .eq 12, 3) := by decide +kernel
theorem dX11_voice_8 : decode cX11_voice 8 = .ok (.iload_n 2, 1) := by decide +kernel
theorem dX11_voice_9 : decode cX11_voice 9 = .ok (.iconst 0, 1) := by decide +kernel
theorem dX11_voice_10 : decode cX11_voice 10 = .ok (.iconst 3, 1) := by decide +kernel
theorem dX11_voice_11 : decode cX11_voice 11 = .ok (.invokestatic 86, 3) := by decide +kernel
theorem dX11_voice_14 : decode cX11_voice 14 = .ok (.ifCond .ne 10, 3) := by decide +kernel
theorem dX11_voice_17 : decode cX11_voice 17 = .ok (.aload_n 0, 1) := by decide +kernel
theorem dX11_voice_18 : decode cX11_voice 18 = .ok (.ldc 81, 2) := by decide +kernel
theorem dX11_voice_20 : decode cX11_voice 20 = .ok (.invokevirtual 82, 3) := by decide +kernel
theorem dX11_voice_23 : decode cX11_voice 23 = .ok (.ireturn, 1) := by decide +kernel
theorem dX11_voice_24 : decode cX11_voice 24 = .ok (.aload_n 0, 1) := by decide +kernel
theorem dX11_voice_25 : decode cX11_voice 25 = .ok (.getfield 35, 3) := by decide +kernel
theorem dX11_voice_28 : decode cX11_voice 28 = .ok (.iload_n 1, 1) := by decide +kernel
theorem dX11_voice_29 : decode cX11_voice 29 = .ok (.invokevirtual 253, 3) := by decide +kernel
theorem dX11_voice_32 : decode cX11_voice 32 = .ok (.astore 4, 2) := by decide +kernel
theorem dX11_voice_34 : decode cX11_voice 34 = .ok (.aload_n 0, 1) := by decide +kernel
theorem dX11_voice_35 : decode cX11_voice 35 = .ok (.getfield 58, 3) := by decide +kernel
theorem dX11_voice_38 : decode cX11_voice 38 = .ok (.iload_n 1, 1) := by decide +kernel
theorem dX11_voice_39 : decode cX11_voice 39 = .ok (.aload_n 0, 1) := by decide +kernel
theorem dX11_voice_40 : decode cX11_voice 40 = .ok (.getfield 35, 3) := by decide +kernel
theorem dX11_voice_43 : decode cX11_voice 43 = .ok (.getfield 130, 3) := by decide +kernel
theorem dX11_voice_46 : decode cX11_voice 46 = .ok (.iload_n 1, 1) := by decide +kernel
theorem dX11_voice_47 : decode cX11_voice 47 = .ok (.iaload, 1) := by decide +kernel
theorem dX11_voice_48 : decode cX11_voice 48 = .ok (.invokevirtual 257, 3) := by decide +kernel
theorem dX11_voice_51 : decode cX11_voice 51 = .ok (.iload_n 2, 1) := by decide +kernel
theorem dX11_voice_52 : decode cX11_voice 52 = .ok (.tableswitch 61 0 2 #[28, 39, 50], 28) := by decide +kernel
theorem dX11_voice_80 : decode cX11_voice 80 = .ok (.aload 4, 2) := by decide +kernel
theorem dX11_voice_82 : decode cX11_voice 82 = .ok (.aload_n 0, 1) := by decide +kernel
theorem dX11_voice_83 : decode cX11_voice 83 = .ok (.getfield 58, 3) := by decide +kernel
theorem dX11_voice_86 : decode cX11_voice 86 = .ok (.iload_n 3, 1) := by decide +kernel
theorem dX11_voice_87 : decode cX11_voice 87 = .ok (.invokevirtual 260, 3) := by decide +kernel
theorem dX11_voice_90 : decode cX11_voice 90 = .ok (.ireturn, 1) := by decide +kernel
theorem dX11_voice_91 : decode cX11_voice 91 = .ok (.aload 4, 2) := by decide +kernel
theorem dX11_voice_93 : decode cX11_voice 93 = .ok (.aload_n 0, 1) := by decide +kernel
theorem dX11_voice_94 : decode cX11_voice 94 = .ok (.getfield 58, 3) := by decide +kernel
theorem dX11_voice_97 : decode cX11_voice 97 = .ok (.iload_n 3, 1) := by decide +kernel
theorem dX11_voice_98 : decode cX11_voice 98 = .ok (.invokevirtual 264, 3) := by decide +kernel
theorem dX11_voice_101 : decode cX11_voice 101 = .ok (.ireturn, 1) := by decide +kernel
theorem dX11_voice_102 : decode cX11_voice 102 = .ok (.aload 4, 2) := by decide +kernel
theorem dX11_voice_104 : decode cX11_voice 104 = .ok (.aload_n 0, 1) := by decide +kernel
theorem dX11_voice_105 : decode cX11_voice 105 = .ok (.getfield 58, 3) := by decide +kernel
theorem dX11_voice_108 : decode cX11_voice 108 = .ok (.iload_n 3, 1) := by decide +kernel
theorem dX11_voice_109 : decode cX11_voice 109 = .ok (.invokevirtual 267, 3) := by decide +kernel
theorem dX11_voice_112 : decode cX11_voice 112 = .ok (.ireturn, 1) := by decide +kernel
theorem dX11_voice_113 : decode cX11_voice 113 = .ok (.aload 4, 2) := by decide +kernel
theorem dX11_voice_115 : decode cX11_voice 115 = .ok (.aload_n 0, 1) := by decide +kernel
theorem dX11_voice_116 : decode cX11_voice 116 = .ok (.getfield 58, 3) := by decide +kernel
theorem dX11_voice_119 : decode cX11_voice 119 = .ok (.iload_n 3, 1) := by decide +kernel
theorem dX11_voice_120 : decode cX11_voice 120 = .ok (.invokevirtual 270, 3) := by decide +kernel
theorem dX11_voice_123 : decode cX11_voice 123 = .ok (.ireturn, 1) := by decide +kernel
theorem dX11_trace_0 : decode cX11_trace 0 = .ok (.iload_n 1, 1) := by decide +kernel
theorem dX11_trace_1 : decode cX11_trace 1 = .ok (.ifCond .lt 26, 3) := by decide +kernel
theorem dX11_trace_4 : decode cX11_trace 4 = .ok (.iload_n 1, 1) := by decide +kernel
theorem dX11_trace_5 : decode cX11_trace 5 = .ok (.aload_n 0, 1) := by decide +kernel
theorem dX11_trace_6 : decode cX11_trace 6 = .ok (.getfield 58, 3) := by decide +kernel
theorem dX11_trace_9 : decode cX11_trace 9 = .ok (.getfield 273, 3) := by decide +kernel
theorem dX11_trace_12 : decode cX11_trace 12 = .ok (.if_icmp .ge 15, 3) := by decide +kernel
theorem dX11_trace_15 : decode cX11_trace 15 = .ok (.aload_n 0, 1) := by decide +kernel
theorem dX11_trace_16 : decode cX11_trace 16 = .ok (.getfield 58, 3) := by decide +kernel
theorem dX11_trace_19 : decode cX11_trace 19 = .ok (.getfield 276, 3) := by decide +kernel
theorem dX11_trace_22 : decode cX11_trace 22 = .ok (.iload_n 1, 1) := by decide +kernel
theorem dX11_trace_23 : decode cX11_trace 23 = .ok (.iaload, 1) := by decide +kernel
theorem dX11_trace_24 : decode cX11_trace 24 = .ok (.goto 9, 3) := by decide +kernel
theorem dX11_trace_27 : decode cX11_trace 27 = .ok (.aload_n 0, 1) := by decide +kernel
theorem dX11_trace_28 : decode cX11_trace 28 = .ok (.ldc 223, 2) := by decide +kernel
theorem dX11_trace_30 : decode cX11_trace 30 = .ok (.invokevirtual 82, 3) := by decide +kernel
theorem dX11_trace_33 : decode cX11_trace 33 = .ok (.ireturn, 1) := by decide +kernel
theorem dX11_sheet_0 : decode cX11_sheet 0 = .ok (.iload_n 1, 1) := by decide +kernel
theorem dX11_sheet_1 : decode cX11_sheet 1 = .ok (.invokestatic 230, 3) := by decide +kernel
theorem dX11_sheet_4 : decode cX11_sheet 4 = .ok (.ifCond .eq 25, 3) := by decide +kernel
theorem dX11_sheet_7 : decode cX11_sheet 7 = .ok (.iload_n 2, 1) := by decide +kernel
theorem dX11_sheet_8 : decode cX11_sheet 8 = .ok (.ifCond .eq 28, 3) := by decide +kernel
theorem dX11_sheet_11 : decode cX11_sheet 11 = .ok (.iload_n 2, 1) := by decide +kernel
theorem dX11_sheet_12 : decode cX11_sheet 12 = .ok (.bipush 8, 2) := by decide +kernel
theorem dX11_sheet_14 : decode cX11_sheet 14 = .ok (.if_icmp .eq 22, 3) := by decide +kernel
theorem dX11_sheet_17 : decode cX11_sheet 17 = .ok (.iload_n 2, 1) := by decide +kernel
theorem dX11_sheet_18 : decode cX11_sheet 18 = .ok (.bipush 16, 2) := by decide +kernel
theorem dX11_sheet_20 : decode cX11_sheet 20 = .ok (.if_icmp .eq 16, 3) := by decide +kernel
theorem dX11_sheet_23 : decode cX11_sheet 23 = .ok (.iload_n 2, 1) := by decide +kernel
theorem dX11_sheet_24 : decode cX11_sheet 24 = .ok (.bipush 32, 2) := by decide +kernel
theorem dX11_sheet_26 : decode cX11_sheet 26 = .ok (.if_icmp .eq 10, 3) := by decide +kernel
theorem dX11_sheet_29 : decode cX11_sheet 29 = .ok (.aload_n 0, 1) := by decide +kernel
theorem dX11_sheet_30 : decode cX11_sheet 30 = .ok (.ldc 81, 2) := by decide +kernel
theorem dX11_sheet_32 : decode cX11_sheet 32 = .ok (.invokevirtual 82, 3) := by decide +kernel
theorem dX11_sheet_35 : decode cX11_sheet 35 = .ok (.ireturn, 1) := by decide +kernel
theorem dX11_sheet_36 : decode cX11_sheet 36 = .ok (.iload_n 2, 1) := by decide +kernel
theorem dX11_sheet_37 : decode cX11_sheet 37 = .ok (.ifCond .eq 14, 3) := by decide +kernel
theorem dX11_sheet_40 : decode cX11_sheet 40 = .ok (.iload_n 3, 1) := by decide +kernel
theorem dX11_sheet_41 : decode cX11_sheet 41 = .ok (.ifCond .ge 10, 3) := by decide +kernel
theorem dX11_sheet_44 : decode cX11_sheet 44 = .ok (.aload_n 0, 1) := by decide +kernel
theorem dX11_sheet_45 : decode cX11_sheet 45 = .ok (.ldc 169, 2) := by decide +kernel
theorem dX11_sheet_47 : decode cX11_sheet 47 = .ok (.invokevirtual 82, 3) := by decide +kernel
theorem dX11_sheet_50 : decode cX11_sheet 50 = .ok (.ireturn, 1) := by decide +kernel
theorem dX11_sheet_51 : decode cX11_sheet 51 = .ok (.iload_n 2, 1) := by decide +kernel
theorem dX11_sheet_52 : decode cX11_sheet 52 = .ok (.ifCond .eq 16, 3) := by decide +kernel
theorem dX11_sheet_55 : decode cX11_sheet 55 = .ok (.iload_n 3, 1) := by decide +kernel
theorem dX11_sheet_56 : decode cX11_sheet 56 = .ok (.bipush 40, 2) := by decide +kernel
theorem dX11_sheet_58 : decode cX11_sheet 58 = .ok (.if_icmp .le 10, 3) := by decide +kernel
theorem dX11_sheet_61 : decode cX11_sheet 61 = .ok (.aload_n 0, 1) := by decide +kernel
theorem dX11_sheet_62 : decode cX11_sheet 62 = .ok (.ldc 81, 2) := by decide +kernel
theorem dX11_sheet_64 : decode cX11_sheet 64 = .ok (.invokevirtual 82, 3) := by decide +kernel
theorem dX11_sheet_67 : decode cX11_sheet 67 = .ok (.ireturn, 1) := by decide +kernel
theorem dX11_sheet_68 : decode cX11_sheet 68 = .ok (.aload_n 0, 1) := by decide +kernel
theorem dX11_sheet_69 : decode cX11_sheet 69 = .ok (.getfield 64, 3) := by decide +kernel
theorem dX11_sheet_72 : decode cX11_sheet 72 = .ok (.iload_n 1, 1) := by decide +kernel
theorem dX11_sheet_73 : decode cX11_sheet 73 = .ok (.aaload, 1) := by decide +kernel
theorem dX11_sheet_74 : decode cX11_sheet 74 = .ok (.iconst 0, 1) := by decide +kernel
theorem dX11_sheet_75 : decode cX11_sheet 75 = .ok (.invokestatic 279, 3) := by decide +kernel
theorem dX11_sheet_78 : decode cX11_sheet 78 = .ok (.aload_n 0, 1) := by decide +kernel
theorem dX11_sheet_79 : decode cX11_sheet 79 = .ok (.getfield 67, 3) := by decide +kernel
theorem dX11_sheet_82 : decode cX11_sheet 82 = .ok (.iload_n 1, 1) := by decide +kernel
theorem dX11_sheet_83 : decode cX11_sheet 83 = .ok (.iload_n 2, 1) := by decide +kernel
theorem dX11_sheet_84 : decode cX11_sheet 84 = .ok (.iastore, 1) := by decide +kernel
theorem dX11_sheet_85 : decode cX11_sheet 85 = .ok (.aload_n 0, 1) := by decide +kernel
theorem dX11_sheet_86 : decode cX11_sheet 86 = .ok (.getfield 71, 3) := by decide +kernel
theorem dX11_sheet_89 : decode cX11_sheet 89 = .ok (.iload_n 1, 1) := by decide +kernel
theorem dX11_sheet_90 : decode cX11_sheet 90 = .ok (.iload_n 2, 1) := by decide +kernel
theorem dX11_sheet_91 : decode cX11_sheet 91 = .ok (.ifCond .ne 7, 3) := by decide +kernel
theorem dX11_sheet_94 : decode cX11_sheet 94 = .ok (.iconst 0, 1) := by decide +kernel
theorem dX11_sheet_95 : decode cX11_sheet 95 = .ok (.goto 4, 3) := by decide +kernel
theorem dX11_sheet_98 : decode cX11_sheet 98 = .ok (.iload_n 3, 1) := by decide +kernel
theorem dX11_sheet_99 : decode cX11_sheet 99 = .ok (.iastore, 1) := by decide +kernel
theorem dX11_sheet_100 : decode cX11_sheet 100 = .ok (.iconst 1, 1) := by decide +kernel
theorem dX11_sheet_101 : decode cX11_sheet 101 = .ok (.ireturn, 1) := by decide +kernel
theorem dX11_put_0 : decode cX11_put 0 = .ok (.iload_n 1, 1) := by decide +kernel
theorem dX11_put_1 : decode cX11_put 1 = .ok (.invokestatic 230, 3) := by decide +kernel
theorem dX11_put_4 : decode cX11_put 4 = .ok (.ifCond .ne 10, 3) := by decide +kernel
theorem dX11_put_7 : decode cX11_put 7 = .ok (.aload_n 0, 1) := by decide +kernel
theorem dX11_put_8 : decode cX11_put 8 = .ok (.ldc 81, 2) := by decide +kernel
theorem dX11_put_10 : decode cX11_put 10 = .ok (.invokevirtual 82, 3) := by decide +kernel
theorem dX11_put_13 : decode cX11_put 13 = .ok (.ireturn, 1) := by decide +kernel
theorem dX11_put_14 : decode cX11_put 14 = .ok (.aload_n 0, 1) := by decide +kernel
theorem dX11_put_15 : decode cX11_put 15 = .ok (.iload_n 1, 1) := by decide +kernel
theorem dX11_put_16 : decode cX11_put 16 = .ok (.invokevirtual 233, 3) := by decide +kernel
theorem dX11_put_19 : decode cX11_put 19 = .ok (.ifCond .eq 10, 3) := by decide +kernel
theorem dX11_put_22 : decode cX11_put 22 = .ok (.aload_n 0, 1) := by decide +kernel
theorem dX11_put_23 : decode cX11_put 23 = .ok (.ldc 223, 2) := by decide +kernel
theorem dX11_put_25 : decode cX11_put 25 = .ok (.invokevirtual 82, 3) := by decide +kernel
theorem dX11_put_28 : decode cX11_put 28 = .ok (.ireturn, 1) := by decide +kernel
theorem dX11_put_29 : decode cX11_put 29 = .ok (.aload_n 0, 1) := by decide +kernel
theorem dX11_put_30 : decode cX11_put 30 = .ok (.iload_n 1, 1) := by decide +kernel
theorem dX11_put_31 : decode cX11_put 31 = .ok (.iload_n 2, 1) := by decide +kernel
theorem dX11_put_32 : decode cX11_put 32 = .ok (.iconst 1, 1) := by decide +kernel
theorem dX11_put_33 : decode cX11_put 33 = .ok (.invokevirtual 285, 3) := by decide +kernel
theorem dX11_put_36 : decode cX11_put 36 = .ok (.ifCond .ne 10, 3) := by decide +kernel
theorem dX11_put_39 : decode cX11_put 39 = .ok (.aload_n 0, 1) := by decide +kernel
theorem dX11_put_40 : decode cX11_put 40 = .ok (.ldc 81, 2) := by decide +kernel
theorem dX11_put_42 : decode cX11_put 42 = .ok (.invokevirtual 82, 3) := by decide +kernel
theorem dX11_put_45 : decode cX11_put 45 = .ok (.ireturn, 1) := by decide +kernel
theorem dX11_put_46 : decode cX11_put 46 = .ok (.aload_n 0, 1) := by decide +kernel
theorem dX11_put_47 : decode cX11_put 47 = .ok (.getfield 64, 3) := by decide +kernel
theorem dX11_put_50 : decode cX11_put 50 = .ok (.iload_n 1, 1) := by decide +kernel
theorem dX11_put_51 : decode cX11_put 51 = .ok (.aaload, 1) := by decide +kernel
theorem dX11_put_52 : decode cX11_put 52 = .ok (.iload_n 2, 1) := by decide +kernel
theorem dX11_put_53 : decode cX11_put 53 = .ok (.aload_n 0, 1) := by decide +kernel
theorem dX11_put_54 : decode cX11_put 54 = .ok (.getfield 67, 3) := by decide +kernel
theorem dX11_put_57 : decode cX11_put 57 = .ok (.iload_n 1, 1) := by decide +kernel
theorem dX11_put_58 : decode cX11_put 58 = .ok (.iaload, 1) := by decide +kernel
theorem dX11_put_59 : decode cX11_put 59 = .ok (.iload_n 3, 1) := by decide +kernel
theorem dX11_put_60 : decode cX11_put 60 = .ok (.invokestatic 288, 3) := by decide +kernel
theorem dX11_put_63 : decode cX11_put 63 = .ok (.iastore, 1) := by decide +kernel
theorem dX11_put_64 : decode cX11_put 64 = .ok (.iconst 1, 1) := by decide +kernel
theorem dX11_put_65 : decode cX11_put 65 = .ok (.ireturn, 1) := by decide +kernel
theorem dX11_move_0 : decode cX11_move 0 = .ok (.iload_n 1, 1) := by decide +kernel
theorem dX11_move_1 : decode cX11_move 1 = .ok (.invokestatic 230, 3) := by decide +kernel
theorem dX11_move_4 : decode cX11_move 4 = .ok (.ifCond .eq 10, 3) := by decide +kernel
theorem dX11_move_7 : decode cX11_move 7 = .ok (.iload_n 3, 1) := by decide +kernel
theorem dX11_move_8 : decode cX11_move 8 = .ok (.invokestatic 230, 3) := by decide +kernel
theorem dX11_move_11 : decode cX11_move 11 = .ok (.ifCond .ne 10, 3) := by decide +kernel
theorem dX11_move_14 : decode cX11_move 14 = .ok (.aload_n 0, 1) := by decide +kernel
theorem dX11_move_15 : decode cX11_move 15 = .ok (.ldc 81, 2) := by decide +kernel
theorem dX11_move_17 : decode cX11_move 17 = .ok (.invokevirtual 82, 3) := by decide +kernel
theorem dX11_move_20 : decode cX11_move 20 = .ok (.ireturn, 1) := by decide +kernel
theorem dX11_move_21 : decode cX11_move 21 = .ok (.aload_n 0, 1) := by decide +kernel
theorem dX11_move_22 : decode cX11_move 22 = .ok (.iload_n 1, 1) := by decide +kernel
theorem dX11_move_23 : decode cX11_move 23 = .ok (.invokevirtual 233, 3) := by decide +kernel
theorem dX11_move_26 : decode cX11_move 26 = .ok (.ifCond .ne 11, 3) := by decide +kernel
theorem dX11_move_29 : decode cX11_move 29 = .ok (.aload_n 0, 1) := by decide +kernel
theorem dX11_move_30 : decode cX11_move 30 = .ok (.iload_n 3, 1) := by decide +kernel
theorem dX11_move_31 : decode cX11_move 31 = .ok (.invokevirtual 233, 3) := by decide +kernel
theorem dX11_move_34 : decode cX11_move 34 = .ok (.ifCond .eq 10, 3) := by decide +kernel
theorem dX11_move_37 : decode cX11_move 37 = .ok (.aload_n 0, 1) := by decide +kernel
theorem dX11_move_38 : decode cX11_move 38 = .ok (.ldc 223, 2) := by decide +kernel
theorem dX11_move_40 : decode cX11_move 40 = .ok (.invokevirtual 82, 3) := by decide +kernel
theorem dX11_move_43 : decode cX11_move 43 = .ok (.ireturn, 1) := by decide +kernel
theorem dX11_move_44 : decode cX11_move 44 = .ok (.aload_n 0, 1) := by decide +kernel
theorem dX11_move_45 : decode cX11_move 45 = .ok (.getfield 67, 3) := by decide +kernel
theorem dX11_move_48 : decode cX11_move 48 = .ok (.iload_n 1, 1) := by decide +kernel
theorem dX11_move_49 : decode cX11_move 49 = .ok (.iaload, 1) := by decide +kernel
theorem dX11_move_50 : decode cX11_move 50 = .ok (.aload_n 0, 1) := by decide +kernel
theorem dX11_move_51 : decode cX11_move 51 = .ok (.getfield 67, 3) := by decide +kernel
theorem dX11_move_54 : decode cX11_move 54 = .ok (.iload_n 3, 1) := by decide +kernel
theorem dX11_move_55 : decode cX11_move 55 = .ok (.iaload, 1) := by decide +kernel
theorem dX11_move_56 : decode cX11_move 56 = .ok (.if_icmp .eq 10, 3) := by decide +kernel
theorem dX11_move_59 : decode cX11_move 59 = .ok (.aload_n 0, 1) := by decide +kernel
theorem dX11_move_60 : decode cX11_move 60 = .ok (.ldc 173, 2) := by decide +kernel
theorem dX11_move_62 : decode cX11_move 62 = .ok (.invokevirtual 82, 3) := by decide +kernel
theorem dX11_move_65 : decode cX11_move 65 = .ok (.ireturn, 1) := by decide +kernel
theorem dX11_move_66 : decode cX11_move 66 = .ok (.aload_n 0, 1) := by decide +kernel
theorem dX11_move_67 : decode cX11_move 67 = .ok (.iload_n 1, 1) := by decide +kernel
theorem dX11_move_68 : decode cX11_move 68 = .ok (.iload_n 2, 1) := by decide +kernel
theorem dX11_move_69 : decode cX11_move 69 = .ok (.iload 5, 2) := by decide +kernel
theorem dX11_move_71 : decode cX11_move 71 = .ok (.invokevirtual 285, 3) := by decide +kernel
theorem dX11_move_74 : decode cX11_move 74 = .ok (.ifCond .eq 15, 3) := by decide +kernel
theorem dX11_move_77 : decode cX11_move 77 = .ok (.aload_n 0, 1) := by decide +kernel
theorem dX11_move_78 : decode cX11_move 78 = .ok (.iload_n 3, 1) := by decide +kernel
theorem dX11_move_79 : decode cX11_move 79 = .ok (.iload 4, 2) := by decide +kernel
theorem dX11_move_81 : decode cX11_move 81 = .ok (.iload 5, 2) := by decide +kernel
theorem dX11_move_83 : decode cX11_move 83 = .ok (.invokevirtual 285, 3) := by decide +kernel
theorem dX11_move_86 : decode cX11_move 86 = .ok (.ifCond .ne 10, 3) := by decide +kernel
theorem dX11_move_89 : decode cX11_move 89 = .ok (.aload_n 0, 1) := by decide +kernel
theorem dX11_move_90 : decode cX11_move 90 = .ok (.ldc 81, 2) := by decide +kernel
theorem dX11_move_92 : decode cX11_move 92 = .ok (.invokevirtual 82, 3) := by decide +kernel
theorem dX11_move_95 : decode cX11_move 95 = .ok (.ireturn, 1) := by decide +kernel
theorem dX11_move_96 : decode cX11_move 96 = .ok (.aload_n 0, 1) := by decide +kernel
theorem dX11_move_97 : decode cX11_move 97 = .ok (.getfield 64, 3) := by decide +kernel
theorem dX11_move_100 : decode cX11_move 100 = .ok (.iload_n 1, 1) := by decide +kernel
theorem dX11_move_101 : decode cX11_move 101 = .ok (.aaload, 1) := by decide +kernel
theorem dX11_move_102 : decode cX11_move 102 = .ok (.iload_n 2, 1) := by decide +kernel
theorem dX11_move_103 : decode cX11_move 103 = .ok (.aload_n 0, 1) := by decide +kernel
theorem dX11_move_104 : decode cX11_move 104 = .ok (.getfield 64, 3) := by decide +kernel
theorem dX11_move_107 : decode cX11_move 107 = .ok (.iload_n 3, 1) := by decide +kernel
theorem dX11_move_108 : decode cX11_move 108 = .ok (.aaload, 1) := by decide +kernel
theorem dX11_move_109 : decode cX11_move 109 = .ok (.iload 4, 2) := by decide +kernel
theorem dX11_move_111 : decode cX11_move 111 = .ok (.iload 5, 2) := by decide +kernel
theorem dX11_move_113 : decode cX11_move 113 = .ok (.invokestatic 291, 3) := by decide +kernel
theorem dX11_move_116 : decode cX11_move 116 = .ok (.iload 5, 2) := by decide +kernel
theorem dX11_move_118 : decode cX11_move 118 = .ok (.ireturn, 1) := by decide +kernel
theorem dX11_suns_0 : decode cX11_suns 0 = .ok (.iload_n 1, 1) := by decide +kernel
theorem dX11_suns_1 : decode cX11_suns 1 = .ok (.invokestatic 230, 3) := by decide +kernel
theorem dX11_suns_4 : decode cX11_suns 4 = .ok (.ifCond .ne 10, 3) := by decide +kernel
theorem dX11_suns_7 : decode cX11_suns 7 = .ok (.aload_n 0, 1) := by decide +kernel
theorem dX11_suns_8 : decode cX11_suns 8 = .ok (.ldc 81, 2) := by decide +kernel
theorem dX11_suns_10 : decode cX11_suns 10 = .ok (.invokevirtual 82, 3) := by decide +kernel
theorem dX11_suns_13 : decode cX11_suns 13 = .ok (.ireturn, 1) := by decide +kernel
theorem dX11_suns_14 : decode cX11_suns 14 = .ok (.aload_n 0, 1) := by decide +kernel
theorem dX11_suns_15 : decode cX11_suns 15 = .ok (.iload_n 1, 1) := by decide +kernel
theorem dX11_suns_16 : decode cX11_suns 16 = .ok (.invokevirtual 233, 3) := by decide +kernel
theorem dX11_suns_19 : decode cX11_suns 19 = .ok (.ifCond .eq 10, 3) := by decide +kernel
theorem dX11_suns_22 : decode cX11_suns 22 = .ok (.aload_n 0, 1) := by decide +kernel
theorem dX11_suns_23 : decode cX11_suns 23 = .ok (.ldc 223, 2) := by decide +kernel
theorem dX11_suns_25 : decode cX11_suns 25 = .ok (.invokevirtual 82, 3) := by decide +kernel
theorem dX11_suns_28 : decode cX11_suns 28 = .ok (.ireturn, 1) := by decide +kernel
theorem dX11_suns_29 : decode cX11_suns 29 = .ok (.aload_n 0, 1) := by decide +kernel
theorem dX11_suns_30 : decode cX11_suns 30 = .ok (.getfield 71, 3) := by decide +kernel
theorem dX11_suns_33 : decode cX11_suns 33 = .ok (.iload_n 1, 1) := by decide +kernel
theorem dX11_suns_34 : decode cX11_suns 34 = .ok (.iaload, 1) := by decide +kernel
theorem dX11_suns_35 : decode cX11_suns 35 = .ok (.bipush 16, 2) := by decide +kernel
theorem dX11_suns_37 : decode cX11_suns 37 = .ok (.invokestatic 297, 3) := by decide +kernel
theorem dX11_suns_40 : decode cX11_suns 40 = .ok (.istore_n 2, 1) := by decide +kernel
theorem dX11_suns_41 : decode cX11_suns 41 = .ok (.iconst 0, 1) := by decide +kernel
theorem dX11_suns_42 : decode cX11_suns 42 = .ok (.istore_n 3, 1) := by decide +kernel
theorem dX11_suns_43 : decode cX11_suns 43 = .ok (.iload_n 3, 1) := by decide +kernel
theorem dX11_suns_44 : decode cX11_suns 44 = .ok (.iload_n 2, 1) := by decide +kernel
theorem dX11_suns_45 : decode cX11_suns 45 = .ok (.if_icmp .ge 43, 3) := by decide +kernel
theorem dX11_suns_48 : decode cX11_suns 48 = .ok (.aload_n 0, 1) := by decide +kernel
theorem dX11_suns_49 : decode cX11_suns 49 = .ok (.getfield 64, 3) := by decide +kernel
theorem dX11_suns_52 : decode cX11_suns 52 = .ok (.iload_n 1, 1) := by decide +kernel
theorem dX11_suns_53 : decode cX11_suns 53 = .ok (.aaload, 1) := by decide +kernel
theorem dX11_suns_54 : decode cX11_suns 54 = .ok (.iload_n 3, 1) := by decide +kernel
theorem dX11_suns_55 : decode cX11_suns 55 = .ok (.iaload, 1) := by decide +kernel
theorem dX11_suns_56 : decode cX11_suns 56 = .ok (.istore 4, 2) := by decide +kernel
theorem dX11_suns_58 : decode cX11_suns 58 = .ok (.iload 4, 2) := by decide +kernel
theorem dX11_suns_60 : decode cX11_suns 60 = .ok (.iconst 0, 1) := by decide +kernel
theorem dX11_suns_61 : decode cX11_suns 61 = .ok (.bipush 9, 2) := by decide +kernel
theorem dX11_suns_63 : decode cX11_suns 63 = .ok (.invokestatic 86, 3) := by decide +kernel
theorem dX11_suns_66 : decode cX11_suns 66 = .ok (.ifCond .ne 5, 3) := by decide +kernel
theorem dX11_suns_69 : decode cX11_suns 69 = .ok (.iload_n 3, 1) := by decide +kernel
theorem dX11_suns_70 : decode cX11_suns 70 = .ok (.ireturn, 1) := by decide +kernel
theorem dX11_suns_71 : decode cX11_suns 71 = .ok (.aload_n 0, 1) := by decide +kernel
theorem dX11_suns_72 : decode cX11_suns 72 = .ok (.getfield 35, 3) := by decide +kernel
theorem dX11_suns_75 : decode cX11_suns 75 = .ok (.getfield 90, 3) := by decide +kernel
theorem dX11_suns_78 : decode cX11_suns 78 = .ok (.iload_n 3, 1) := by decide +kernel
theorem dX11_suns_79 : decode cX11_suns 79 = .ok (.iload 4, 2) := by decide +kernel
theorem dX11_suns_81 : decode cX11_suns 81 = .ok (.iastore, 1) := by decide +kernel
theorem dX11_suns_82 : decode cX11_suns 82 = .ok (.iinc 3 1, 3) := by decide +kernel
theorem dX11_suns_85 : decode cX11_suns 85 = .ok (.goto (-42), 3) := by decide +kernel
theorem dX11_suns_88 : decode cX11_suns 88 = .ok (.iload_n 2, 1) := by decide +kernel
theorem dX11_suns_89 : decode cX11_suns 89 = .ok (.ireturn, 1) := by decide +kernel
theorem dX11_judge_0 : decode cX11_judge 0 = .ok (.iload_n 1, 1) := by decide +kernel
theorem dX11_judge_1 : decode cX11_judge 1 = .ok (.invokestatic 230, 3) := by decide +kernel
theorem dX11_judge_4 : decode cX11_judge 4 = .ok (.ifCond .ne 10, 3) := by decide +kernel
theorem dX11_judge_7 : decode cX11_judge 7 = .ok (.aload_n 0, 1) := by decide +kernel
theorem dX11_judge_8 : decode cX11_judge 8 = .ok (.ldc 81, 2) := by decide +kernel
theorem dX11_judge_10 : decode cX11_judge 10 = .ok (.invokevirtual 82, 3) := by decide +kernel
theorem dX11_judge_13 : decode cX11_judge 13 = .ok (.ireturn, 1) := by decide +kernel
theorem dX11_judge_14 : decode cX11_judge 14 = .ok (.aload_n 0, 1) := by decide +kernel
theorem dX11_judge_15 : decode cX11_judge 15 = .ok (.iload_n 1, 1) := by decide +kernel
theorem dX11_judge_16 : decode cX11_judge 16 = .ok (.invokevirtual 233, 3) := by decide +kernel
theorem dX11_judge_19 : decode cX11_judge 19 = .ok (.ifCond .eq 10, 3) := by decide +kernel
theorem dX11_judge_22 : decode cX11_judge 22 = .ok (.aload_n 0, 1) := by decide +kernel
theorem dX11_judge_23 : decode cX11_judge 23 = .ok (.ldc 223, 2) := by decide +kernel
theorem dX11_judge_25 : decode cX11_judge 25 = .ok (.invokevirtual 82, 3) := by decide +kernel
theorem dX11_judge_28 : decode cX11_judge 28 = .ok (.ireturn, 1) := by decide +kernel
theorem dX11_judge_29 : decode cX11_judge 29 = .ok (.aload_n 0, 1) := by decide +kernel
theorem dX11_judge_30 : decode cX11_judge 30 = .ok (.getfield 71, 3) := by decide +kernel
theorem dX11_judge_33 : decode cX11_judge 33 = .ok (.iload_n 1, 1) := by decide +kernel
theorem dX11_judge_34 : decode cX11_judge 34 = .ok (.iaload, 1) := by decide +kernel
theorem dX11_judge_35 : decode cX11_judge 35 = .ok (.aload_n 0, 1) := by decide +kernel
theorem dX11_judge_36 : decode cX11_judge 36 = .ok (.getfield 35, 3) := by decide +kernel
theorem dX11_judge_39 : decode cX11_judge 39 = .ok (.getfield 116, 3) := by decide +kernel
theorem dX11_judge_42 : decode cX11_judge 42 = .ok (.invokestatic 297, 3) := by decide +kernel
theorem dX11_judge_45 : decode cX11_judge 45 = .ok (.istore_n 2, 1) := by decide +kernel
theorem dX11_judge_46 : decode cX11_judge 46 = .ok (.iconst 0, 1) := by decide +kernel
theorem dX11_judge_47 : decode cX11_judge 47 = .ok (.istore_n 3, 1) := by decide +kernel
theorem dX11_judge_48 : decode cX11_judge 48 = .ok (.iload_n 3, 1) := by decide +kernel
theorem dX11_judge_49 : decode cX11_judge 49 = .ok (.iload_n 2, 1) := by decide +kernel
theorem dX11_judge_50 : decode cX11_judge 50 = .ok (.if_icmp .ge 31, 3) := by decide +kernel
theorem dX11_judge_53 : decode cX11_judge 53 = .ok (.aload_n 0, 1) := by decide +kernel
theorem dX11_judge_54 : decode cX11_judge 54 = .ok (.getfield 64, 3) := by decide +kernel
theorem dX11_judge_57 : decode cX11_judge 57 = .ok (.iload_n 1, 1) := by decide +kernel
theorem dX11_judge_58 : decode cX11_judge 58 = .ok (.aaload, 1) := by decide +kernel
theorem dX11_judge_59 : decode cX11_judge 59 = .ok (.iload_n 3, 1) := by decide +kernel
theorem dX11_judge_60 : decode cX11_judge 60 = .ok (.iaload, 1) := by decide +kernel
theorem dX11_judge_61 : decode cX11_judge 61 = .ok (.aload_n 0, 1) := by decide +kernel
theorem dX11_judge_62 : decode cX11_judge 62 = .ok (.getfield 35, 3) := by decide +kernel
theorem dX11_judge_65 : decode cX11_judge 65 = .ok (.getfield 133, 3) := by decide +kernel
theorem dX11_judge_68 : decode cX11_judge 68 = .ok (.iload_n 3, 1) := by decide +kernel
theorem dX11_judge_69 : decode cX11_judge 69 = .ok (.iaload, 1) := by decide +kernel
theorem dX11_judge_70 : decode cX11_judge 70 = .ok (.if_icmp .eq 5, 3) := by decide +kernel
theorem dX11_judge_73 : decode cX11_judge 73 = .ok (.iload_n 3, 1) := by decide +kernel
theorem dX11_judge_74 : decode cX11_judge 74 = .ok (.ireturn, 1) := by decide +kernel
theorem dX11_judge_75 : decode cX11_judge 75 = .ok (.iinc 3 1, 3) := by decide +kernel
theorem dX11_judge_78 : decode cX11_judge 78 = .ok (.goto (-30), 3) := by decide +kernel
theorem dX11_judge_81 : decode cX11_judge 81 = .ok (.aload_n 0, 1) := by decide +kernel
theorem dX11_judge_82 : decode cX11_judge 82 = .ok (.getfield 71, 3) := by decide +kernel
theorem dX11_judge_85 : decode cX11_judge 85 = .ok (.iload_n 1, 1) := by decide +kernel
theorem dX11_judge_86 : decode cX11_judge 86 = .ok (.iaload, 1) := by decide +kernel
theorem dX11_judge_87 : decode cX11_judge 87 = .ok (.aload_n 0, 1) := by decide +kernel
theorem dX11_judge_88 : decode cX11_judge 88 = .ok (.getfield 35, 3) := by decide +kernel
theorem dX11_judge_91 : decode cX11_judge 91 = .ok (.getfield 116, 3) := by decide +kernel
theorem dX11_judge_94 : decode cX11_judge 94 = .ok (.if_icmp .ne 7, 3) := by decide +kernel
theorem dX11_judge_97 : decode cX11_judge 97 = .ok (.iconst (-1), 1) := by decide +kernel
theorem dX11_judge_98 : decode cX11_judge 98 = .ok (.goto 4, 3) := by decide +kernel
theorem dX11_judge_101 : decode cX11_judge 101 = .ok (.iload_n 2, 1) := by decide +kernel
theorem dX11_judge_102 : decode cX11_judge 102 = .ok (.ireturn, 1) := by decide +kernel
theorem dX11_image_0 : decode cX11_image 0 = .ok (.aload_n 0, 1) := by decide +kernel
theorem dX11_image_1 : decode cX11_image 1 = .ok (.getfield 42, 3) := by decide +kernel
theorem dX11_image_4 : decode cX11_image 4 = .ok (.aload_n 0, 1) := by decide +kernel
theorem dX11_image_5 : decode cX11_image 5 = .ok (.getfield 35, 3) := by decide +kernel
theorem dX11_image_8 : decode cX11_image 8 = .ok (.invokevirtual 302, 3) := by decide +kernel
theorem dX11_image_11 : decode cX11_image 11 = .ok (.aload_n 0, 1) := by decide +kernel
theorem dX11_image_12 : decode cX11_image 12 = .ok (.getfield 52, 3) := by decide +kernel
theorem dX11_image_15 : decode cX11_image 15 = .ok (.aload_n 0, 1) := by decide +kernel
theorem dX11_image_16 : decode cX11_image 16 = .ok (.getfield 48, 3) := by decide +kernel
theorem dX11_image_19 : decode cX11_image 19 = .ok (.invokevirtual 306, 3) := by decide +kernel
theorem dX11_image_22 : decode cX11_image 22 = .ok (.aload_n 0, 1) := by decide +kernel
theorem dX11_image_23 : decode cX11_image 23 = .ok (.dup, 1) := by decide +kernel
theorem dX11_image_24 : decode cX11_image 24 = .ok (.getfield 308, 3) := by decide +kernel
theorem dX11_image_27 : decode cX11_image 27 = .ok (.iconst 1, 1) := by decide +kernel
theorem dX11_image_28 : decode cX11_image 28 = .ok (.iadd, 1) := by decide +kernel
theorem dX11_image_29 : decode cX11_image 29 = .ok (.putfield 308, 3) := by decide +kernel
theorem dX11_image_32 : decode cX11_image 32 = .ok (.aload_n 0, 1) := by decide +kernel
theorem dX11_image_33 : decode cX11_image 33 = .ok (.getfield 308, 3) := by decide +kernel
theorem dX11_image_36 : decode cX11_image 36 = .ok (.ireturn, 1) := by decide +kernel
theorem dX11_restore_0 : decode cX11_restore 0 = .ok (.aload_n 0, 1) := by decide +kernel
theorem dX11_restore_1 : decode cX11_restore 1 = .ok (.getfield 308, 3) := by decide +kernel
theorem dX11_restore_4 : decode cX11_restore 4 = .ok (.ifCond .ne 10, 3) := by decide +kernel
theorem dX11_restore_7 : decode cX11_restore 7 = .ok (.aload_n 0, 1) := by decide +kernel
theorem dX11_restore_8 : decode cX11_restore 8 = .ok (.ldc 223, 2) := by decide +kernel
theorem dX11_restore_10 : decode cX11_restore 10 = .ok (.invokevirtual 82, 3) := by decide +kernel
theorem dX11_restore_13 : decode cX11_restore 13 = .ok (.ireturn, 1) := by decide +kernel
theorem dX11_restore_14 : decode cX11_restore 14 = .ok (.aload_n 0, 1) := by decide +kernel
theorem dX11_restore_15 : decode cX11_restore 15 = .ok (.getfield 35, 3) := by decide +kernel
theorem dX11_restore_18 : decode cX11_restore 18 = .ok (.aload_n 0, 1) := by decide +kernel
theorem dX11_restore_19 : decode cX11_restore 19 = .ok (.getfield 42, 3) := by decide +kernel
theorem dX11_restore_22 : decode cX11_restore 22 = .ok (.invokevirtual 302, 3) := by decide +kernel
theorem dX11_restore_25 : decode cX11_restore 25 = .ok (.aload_n 0, 1) := by decide +kernel
theorem dX11_restore_26 : decode cX11_restore 26 = .ok (.getfield 48, 3) := by decide +kernel
theorem dX11_restore_29 : decode cX11_restore 29 = .ok (.aload_n 0, 1) := by decide +kernel
theorem dX11_restore_30 : decode cX11_restore 30 = .ok (.getfield 52, 3) := by decide +kernel
theorem dX11_restore_33 : decode cX11_restore 33 = .ok (.invokevirtual 306, 3) := by decide +kernel
theorem dX11_restore_36 : decode cX11_restore 36 = .ok (.aload_n 0, 1) := by decide +kernel
theorem dX11_restore_37 : decode cX11_restore 37 = .ok (.getfield 35, 3) := by decide +kernel
theorem dX11_restore_40 : decode cX11_restore 40 = .ok (.getfield 202, 3) := by decide +kernel
theorem dX11_restore_43 : decode cX11_restore 43 = .ok (.ireturn, 1) := by decide +kernel
theorem dX11_tell_0 : decode cX11_tell 0 = .ok (.aload_n 0, 1) := by decide +kernel
theorem dX11_tell_1 : decode cX11_tell 1 = .ok (.getfield 48, 3) := by decide +kernel
theorem dX11_tell_4 : decode cX11_tell 4 = .ok (.getfield 311, 3) := by decide +kernel
theorem dX11_tell_7 : decode cX11_tell 7 = .ok (.bipush 20, 2) := by decide +kernel
theorem dX11_tell_9 : decode cX11_tell 9 = .ok (.if_icmp .lt 10, 3) := by decide +kernel
theorem dX11_tell_12 : decode cX11_tell 12 = .ok (.aload_n 0, 1) := by decide +kernel
theorem dX11_tell_13 : decode cX11_tell 13 = .ok (.ldc 119, 2) := by decide +kernel
theorem dX11_tell_15 : decode cX11_tell 15 = .ok (.invokevirtual 82, 3) := by decide +kernel
theorem dX11_tell_18 : decode cX11_tell 18 = .ok (.ireturn, 1) := by decide +kernel
theorem dX11_tell_19 : decode cX11_tell 19 = .ok (.aload_n 0, 1) := by decide +kernel
theorem dX11_tell_20 : decode cX11_tell 20 = .ok (.getfield 48, 3) := by decide +kernel
theorem dX11_tell_23 : decode cX11_tell 23 = .ok (.iload_n 1, 1) := by decide +kernel
theorem dX11_tell_24 : decode cX11_tell 24 = .ok (.invokevirtual 314, 3) := by decide +kernel
theorem dX11_tell_27 : decode cX11_tell 27 = .ok (.aload_n 0, 1) := by decide +kernel
theorem dX11_tell_28 : decode cX11_tell 28 = .ok (.getfield 48, 3) := by decide +kernel
theorem dX11_tell_31 : decode cX11_tell 31 = .ok (.getfield 311, 3) := by decide +kernel
theorem dX11_tell_34 : decode cX11_tell 34 = .ok (.ireturn, 1) := by decide +kernel
theorem dX11_check_0 : decode cX11_check 0 = .ok (.aload_n 0, 1) := by decide +kernel
theorem dX11_check_1 : decode cX11_check 1 = .ok (.getfield 48, 3) := by decide +kernel
theorem dX11_check_4 : decode cX11_check 4 = .ok (.getfield 311, 3) := by decide +kernel
theorem dX11_check_7 : decode cX11_check 7 = .ok (.istore_n 1, 1) := by decide +kernel
theorem dX11_check_8 : decode cX11_check 8 = .ok (.aload_n 0, 1) := by decide +kernel
theorem dX11_check_9 : decode cX11_check 9 = .ok (.getfield 48, 3) := by decide +kernel
theorem dX11_check_12 : decode cX11_check 12 = .ok (.iconst 0, 1) := by decide +kernel
theorem dX11_check_13 : decode cX11_check 13 = .ok (.putfield 311, 3) := by decide +kernel
theorem dX11_check_16 : decode cX11_check 16 = .ok (.aload_n 0, 1) := by decide +kernel
theorem dX11_check_17 : decode cX11_check 17 = .ok (.invokevirtual 217, 3) := by decide +kernel
theorem dX11_check_20 : decode cX11_check 20 = .ok (.iconst 0, 1) := by decide +kernel
theorem dX11_check_21 : decode cX11_check 21 = .ok (.istore_n 2, 1) := by decide +kernel
theorem dX11_check_22 : decode cX11_check 22 = .ok (.iload_n 2, 1) := by decide +kernel
theorem dX11_check_23 : decode cX11_check 23 = .ok (.iload_n 1, 1) := by decide +kernel
theorem dX11_check_24 : decode cX11_check 24 = .ok (.if_icmp .ge 49, 3) := by decide +kernel
theorem dX11_check_27 : decode cX11_check 27 = .ok (.iload_n 2, 1) := by decide +kernel
theorem dX11_check_28 : decode cX11_check 28 = .ok (.bipush 20, 2) := by decide +kernel
theorem dX11_check_30 : decode cX11_check 30 = .ok (.if_icmp .ge 43, 3) := by decide +kernel
theorem dX11_check_33 : decode cX11_check 33 = .ok (.aload_n 0, 1) := by decide +kernel
theorem dX11_check_34 : decode cX11_check 34 = .ok (.getfield 39, 3) := by decide +kernel
theorem dX11_check_37 : decode cX11_check 37 = .ok (.aload_n 0, 1) := by decide +kernel
theorem dX11_check_38 : decode cX11_check 38 = .ok (.getfield 48, 3) := by decide +kernel
theorem dX11_check_41 : decode cX11_check 41 = .ok (.invokevirtual 213, 3) := by decide +kernel
theorem dX11_check_44 : decode cX11_check 44 = .ok (.aload_n 0, 1) := by decide +kernel
theorem dX11_check_45 : decode cX11_check 45 = .ok (.getfield 39, 3) := by decide +kernel
theorem dX11_check_48 : decode cX11_check 48 = .ok (.getfield 110, 3) := by decide +kernel
theorem dX11_check_51 : decode cX11_check 51 = .ok (.aload_n 0, 1) := by decide +kernel
theorem dX11_check_52 : decode cX11_check 52 = .ok (.getfield 48, 3) := by decide +kernel
theorem dX11_check_55 : decode cX11_check 55 = .ok (.getfield 317, 3) := by decide +kernel
theorem dX11_check_58 : decode cX11_check 58 = .ok (.iload_n 2, 1) := by decide +kernel
theorem dX11_check_59 : decode cX11_check 59 = .ok (.iaload, 1) := by decide +kernel
theorem dX11_check_60 : decode cX11_check 60 = .ok (.if_icmp .eq 7, 3) := by decide +kernel
theorem dX11_check_63 : decode cX11_check 63 = .ok (.iconst 1, 1) := by decide +kernel
theorem dX11_check_64 : decode cX11_check 64 = .ok (.iload_n 2, 1) := by decide +kernel
theorem dX11_check_65 : decode cX11_check 65 = .ok (.iadd, 1) := by decide +kernel
theorem dX11_check_66 : decode cX11_check 66 = .ok (.ireturn, 1) := by decide +kernel
theorem dX11_check_67 : decode cX11_check 67 = .ok (.iinc 2 1, 3) := by decide +kernel
theorem dX11_check_70 : decode cX11_check 70 = .ok (.goto (-48), 3) := by decide +kernel
theorem dX11_check_73 : decode cX11_check 73 = .ok (.iconst 0, 1) := by decide +kernel
theorem dX11_check_74 : decode cX11_check 74 = .ok (.ireturn, 1) := by decide +kernel
theorem dX11_count_0 : decode cX11_count 0 = .ok (.iload_n 1, 1) := by decide +kernel
theorem dX11_count_1 : decode cX11_count 1 = .ok (.tableswitch 162 0 10 #[59, 67, 75, 83, 91, 99, 112, 130, 138, 146, 154], 59) := by decide +kernel
theorem dX11_count_60 : decode cX11_count 60 = .ok (.aload_n 0, 1) := by decide +kernel
theorem dX11_count_61 : decode cX11_count 61 = .ok (.getfield 35, 3) := by decide +kernel
theorem dX11_count_64 : decode cX11_count 64 = .ok (.getfield 116, 3) := by decide +kernel
theorem dX11_count_67 : decode cX11_count 67 = .ok (.ireturn, 1) := by decide +kernel
theorem dX11_count_68 : decode cX11_count 68 = .ok (.aload_n 0, 1) := by decide +kernel
theorem dX11_count_69 : decode cX11_count 69 = .ok (.getfield 35, 3) := by decide +kernel
theorem dX11_count_72 : decode cX11_count 72 = .ok (.getfield 202, 3) := by decide +kernel
theorem dX11_count_75 : decode cX11_count 75 = .ok (.ireturn, 1) := by decide +kernel
theorem dX11_count_76 : decode cX11_count 76 = .ok (.aload_n 0, 1) := by decide +kernel
theorem dX11_count_77 : decode cX11_count 77 = .ok (.getfield 35, 3) := by decide +kernel
theorem dX11_count_80 : decode cX11_count 80 = .ok (.getfield 102, 3) := by decide +kernel
theorem dX11_count_83 : decode cX11_count 83 = .ok (.ireturn, 1) := by decide +kernel
theorem dX11_count_84 : decode cX11_count 84 = .ok (.aload_n 0, 1) := by decide +kernel
theorem dX11_count_85 : decode cX11_count 85 = .ok (.getfield 35, 3) := by decide +kernel
theorem dX11_count_88 : decode cX11_count 88 = .ok (.getfield 106, 3) := by decide +kernel
theorem dX11_count_91 : decode cX11_count 91 = .ok (.ireturn, 1) := by decide +kernel
theorem dX11_count_92 : decode cX11_count 92 = .ok (.aload_n 0, 1) := by decide +kernel
theorem dX11_count_93 : decode cX11_count 93 = .ok (.getfield 35, 3) := by decide +kernel
theorem dX11_count_96 : decode cX11_count 96 = .ok (.getfield 110, 3) := by decide +kernel
theorem dX11_count_99 : decode cX11_count 99 = .ok (.ireturn, 1) := by decide +kernel
theorem dX11_count_100 : decode cX11_count 100 = .ok (.aload_n 0, 1) := by decide +kernel
theorem dX11_count_101 : decode cX11_count 101 = .ok (.getfield 35, 3) := by decide +kernel
theorem dX11_count_104 : decode cX11_count 104 = .ok (.getfield 90, 3) := by decide +kernel
theorem dX11_count_107 : decode cX11_count 107 = .ok (.bipush 16, 2) := by decide +kernel
theorem dX11_count_109 : decode cX11_count 109 = .ok (.invokestatic 320, 3) := by decide +kernel
theorem dX11_count_112 : decode cX11_count 112 = .ok (.ireturn, 1) := by decide +kernel
theorem dX11_count_113 : decode cX11_count 113 = .ok (.aload_n 0, 1) := by decide +kernel
theorem dX11_count_114 : decode cX11_count 114 = .ok (.getfield 35, 3) := by decide +kernel
theorem dX11_count_117 : decode cX11_count 117 = .ok (.getfield 142, 3) := by decide +kernel
theorem dX11_count_120 : decode cX11_count 120 = .ok (.aload_n 0, 1) := by decide +kernel
theorem dX11_count_121 : decode cX11_count 121 = .ok (.getfield 35, 3) := by decide +kernel
theorem dX11_count_124 : decode cX11_count 124 = .ok (.getfield 116, 3) := by decide +kernel
theorem dX11_count_127 : decode cX11_count 127 = .ok (.invokestatic 320, 3) := by decide +kernel
theorem dX11_count_130 : decode cX11_count 130 = .ok (.ireturn, 1) := by decide +kernel
theorem dX11_count_131 : decode cX11_count 131 = .ok (.aload_n 0, 1) := by decide +kernel
theorem dX11_count_132 : decode cX11_count 132 = .ok (.getfield 48, 3) := by decide +kernel
theorem dX11_count_135 : decode cX11_count 135 = .ok (.getfield 174, 3) := by decide +kernel
theorem dX11_count_138 : decode cX11_count 138 = .ok (.ireturn, 1) := by decide +kernel
theorem dX11_count_139 : decode cX11_count 139 = .ok (.aload_n 0, 1) := by decide +kernel
theorem dX11_count_140 : decode cX11_count 140 = .ok (.getfield 48, 3) := by decide +kernel
theorem dX11_count_143 : decode cX11_count 143 = .ok (.getfield 311, 3) := by decide +kernel
theorem dX11_count_146 : decode cX11_count 146 = .ok (.ireturn, 1) := by decide +kernel
theorem dX11_count_147 : decode cX11_count 147 = .ok (.aload_n 0, 1) := by decide +kernel
theorem dX11_count_148 : decode cX11_count 148 = .ok (.getfield 58, 3) := by decide +kernel
theorem dX11_count_151 : decode cX11_count 151 = .ok (.getfield 273, 3) := by decide +kernel
theorem dX11_count_154 : decode cX11_count 154 = .ok (.ireturn, 1) := by decide +kernel
theorem dX11_count_155 : decode cX11_count 155 = .ok (.aload_n 0, 1) := by decide +kernel
theorem dX11_count_156 : decode cX11_count 156 = .ok (.getfield 48, 3) := by decide +kernel
theorem dX11_count_159 : decode cX11_count 159 = .ok (.getfield 250, 3) := by decide +kernel
theorem dX11_count_162 : decode cX11_count 162 = .ok (.ireturn, 1) := by decide +kernel
theorem dX11_count_163 : decode cX11_count 163 = .ok (.aload_n 0, 1) := by decide +kernel
theorem dX11_count_164 : decode cX11_count 164 = .ok (.ldc 81, 2) := by decide +kernel
theorem dX11_count_166 : decode cX11_count 166 = .ok (.invokevirtual 82, 3) := by decide +kernel
theorem dX11_count_169 : decode cX11_count 169 = .ok (.ireturn, 1) := by decide +kernel
theorem dX11_told_0 : decode cX11_told 0 = .ok (.iload_n 1, 1) := by decide +kernel
theorem dX11_told_1 : decode cX11_told 1 = .ok (.iconst 1, 1) := by decide +kernel
theorem dX11_told_2 : decode cX11_told 2 = .ok (.iconst 5, 1) := by decide +kernel
theorem dX11_told_3 : decode cX11_told 3 = .ok (.invokestatic 86, 3) := by decide +kernel
theorem dX11_told_6 : decode cX11_told 6 = .ok (.ifCond .eq 12, 3) := by decide +kernel
theorem dX11_told_9 : decode cX11_told 9 = .ok (.aload_n 0, 1) := by decide +kernel
theorem dX11_told_10 : decode cX11_told 10 = .ok (.getfield 74, 3) := by decide +kernel
theorem dX11_told_13 : decode cX11_told 13 = .ok (.iload_n 1, 1) := by decide +kernel
theorem dX11_told_14 : decode cX11_told 14 = .ok (.iaload, 1) := by decide +kernel
theorem dX11_told_15 : decode cX11_told 15 = .ok (.goto 9, 3) := by decide +kernel
theorem dX11_told_18 : decode cX11_told 18 = .ok (.aload_n 0, 1) := by decide +kernel
theorem dX11_told_19 : decode cX11_told 19 = .ok (.ldc 81, 2) := by decide +kernel
theorem dX11_told_21 : decode cX11_told 21 = .ok (.invokevirtual 82, 3) := by decide +kernel
theorem dX11_told_24 : decode cX11_told 24 = .ok (.ireturn, 1) := by decide +kernel
theorem dX11_error_0 : decode cX11_error 0 = .ok (.ldc_w 323, 3) := by decide +kernel
theorem dX11_error_3 : decode cX11_error 3 = .ok (.iload_n 1, 1) := by decide +kernel
theorem dX11_error_4 : decode cX11_error 4 = .ok (.isub, 1) := by decide +kernel
theorem dX11_error_5 : decode cX11_error 5 = .ok (.istore_n 2, 1) := by decide +kernel
theorem dX11_error_6 : decode cX11_error 6 = .ok (.iload_n 2, 1) := by decide +kernel
theorem dX11_error_7 : decode cX11_error 7 = .ok (.iconst 1, 1) := by decide +kernel
theorem dX11_error_8 : decode cX11_error 8 = .ok (.iconst 5, 1) := by decide +kernel
theorem dX11_error_9 : decode cX11_error 9 = .ok (.invokestatic 86, 3) := by decide +kernel
theorem dX11_error_12 : decode cX11_error 12 = .ok (.ifCond .eq 13, 3) := by decide +kernel
theorem dX11_error_15 : decode cX11_error 15 = .ok (.aload_n 0, 1) := by decide +kernel
theorem dX11_error_16 : decode cX11_error 16 = .ok (.getfield 74, 3) := by decide +kernel
theorem dX11_error_19 : decode cX11_error 19 = .ok (.iload_n 2, 1) := by decide +kernel
theorem dX11_error_20 : decode cX11_error 20 = .ok (.dup2, 1) := by decide +kernel
theorem dX11_error_21 : decode cX11_error 21 = .ok (.iaload, 1) := by decide +kernel
theorem dX11_error_22 : decode cX11_error 22 = .ok (.iconst 1, 1) := by decide +kernel
theorem dX11_error_23 : decode cX11_error 23 = .ok (.iadd, 1) := by decide +kernel
theorem dX11_error_24 : decode cX11_error 24 = .ok (.iastore, 1) := by decide +kernel
theorem dX11_error_25 : decode cX11_error 25 = .ok (.iload_n 1, 1) := by decide +kernel
theorem dX11_error_26 : decode cX11_error 26 = .ok (.ireturn, 1) := by decide +kernel
theorem dX11_think_0 : decode cX11_think 0 = .ok (.aload_n 0, 1) := by decide +kernel
theorem dX11_think_1 : decode cX11_think 1 = .ok (.getfield 39, 3) := by decide +kernel
theorem dX11_think_4 : decode cX11_think 4 = .ok (.aload_n 0, 1) := by decide +kernel
theorem dX11_think_5 : decode cX11_think 5 = .ok (.getfield 35, 3) := by decide +kernel
theorem dX11_think_8 : decode cX11_think 8 = .ok (.invokevirtual 302, 3) := by decide +kernel
theorem dX11_think_11 : decode cX11_think 11 = .ok (.return_, 1) := by decide +kernel
theorem dX11_liesAsTold_0 : decode cX11_liesAsTold 0 = .ok (.iconst 0, 1) := by decide +kernel
theorem dX11_liesAsTold_1 : decode cX11_liesAsTold 1 = .ok (.istore_n 3, 1) := by decide +kernel
theorem dX11_liesAsTold_2 : decode cX11_liesAsTold 2 = .ok (.iload_n 3, 1) := by decide +kernel
theorem dX11_liesAsTold_3 : decode cX11_liesAsTold 3 = .ok (.aload_n 0, 1) := by decide +kernel
theorem dX11_liesAsTold_4 : decode cX11_liesAsTold 4 = .ok (.getfield 71, 3) := by decide +kernel
theorem dX11_liesAsTold_7 : decode cX11_liesAsTold 7 = .ok (.iload_n 2, 1) := by decide +kernel
theorem dX11_liesAsTold_8 : decode cX11_liesAsTold 8 = .ok (.iaload, 1) := by decide +kernel
theorem dX11_liesAsTold_9 : decode cX11_liesAsTold 9 = .ok (.if_icmp .ge 48, 3) := by decide +kernel
theorem dX11_liesAsTold_12 : decode cX11_liesAsTold 12 = .ok (.iload_n 3, 1) := by decide +kernel
theorem dX11_liesAsTold_13 : decode cX11_liesAsTold 13 = .ok (.bipush 40, 2) := by decide +kernel
theorem dX11_liesAsTold_15 : decode cX11_liesAsTold 15 = .ok (.if_icmp .ge 42, 3) := by decide +kernel
theorem dX11_liesAsTold_18 : decode cX11_liesAsTold 18 = .ok (.aload_n 0, 1) := by decide +kernel
theorem dX11_liesAsTold_19 : decode cX11_liesAsTold 19 = .ok (.getfield 39, 3) := by decide +kernel
theorem dX11_liesAsTold_22 : decode cX11_liesAsTold 22 = .ok (.aload_n 0, 1) := by decide +kernel
theorem dX11_liesAsTold_23 : decode cX11_liesAsTold 23 = .ok (.getfield 48, 3) := by decide +kernel
theorem dX11_liesAsTold_26 : decode cX11_liesAsTold 26 = .ok (.invokevirtual 213, 3) := by decide +kernel
theorem dX11_liesAsTold_29 : decode cX11_liesAsTold 29 = .ok (.aload_n 0, 1) := by decide +kernel
theorem dX11_liesAsTold_30 : decode cX11_liesAsTold 30 = .ok (.getfield 39, 3) := by decide +kernel
theorem dX11_liesAsTold_33 : decode cX11_liesAsTold 33 = .ok (.getfield 139, 3) := by decide +kernel
theorem dX11_liesAsTold_36 : decode cX11_liesAsTold 36 = .ok (.iload_n 1, 1) := by decide +kernel
theorem dX11_liesAsTold_37 : decode cX11_liesAsTold 37 = .ok (.iaload, 1) := by decide +kernel
theorem dX11_liesAsTold_38 : decode cX11_liesAsTold 38 = .ok (.aload_n 0, 1) := by decide +kernel
theorem dX11_liesAsTold_39 : decode cX11_liesAsTold 39 = .ok (.getfield 64, 3) := by decide +kernel
theorem dX11_liesAsTold_42 : decode cX11_liesAsTold 42 = .ok (.iload_n 2, 1) := by decide +kernel
theorem dX11_liesAsTold_43 : decode cX11_liesAsTold 43 = .ok (.aaload, 1) := by decide +kernel
theorem dX11_liesAsTold_44 : decode cX11_liesAsTold 44 = .ok (.iload_n 3, 1) := by decide +kernel
theorem dX11_liesAsTold_45 : decode cX11_liesAsTold 45 = .ok (.iaload, 1) := by decide +kernel
theorem dX11_liesAsTold_46 : decode cX11_liesAsTold 46 = .ok (.if_icmp .eq 5, 3) := by decide +kernel
theorem dX11_liesAsTold_49 : decode cX11_liesAsTold 49 = .ok (.iconst 0, 1) := by decide +kernel
theorem dX11_liesAsTold_50 : decode cX11_liesAsTold 50 = .ok (.ireturn, 1) := by decide +kernel
theorem dX11_liesAsTold_51 : decode cX11_liesAsTold 51 = .ok (.iinc 3 1, 3) := by decide +kernel
theorem dX11_liesAsTold_54 : decode cX11_liesAsTold 54 = .ok (.goto (-52), 3) := by decide +kernel
theorem dX11_liesAsTold_57 : decode cX11_liesAsTold 57 = .ok (.iconst 1, 1) := by decide +kernel
theorem dX11_liesAsTold_58 : decode cX11_liesAsTold 58 = .ok (.ireturn, 1) := by decide +kernel
theorem dX11_isHeir_0 : decode cX11_isHeir 0 = .ok (.iload_n 1, 1) := by decide +kernel
theorem dX11_isHeir_1 : decode cX11_isHeir 1 = .ok (.ifCond .lt 24, 3) := by decide +kernel
theorem dX11_isHeir_4 : decode cX11_isHeir 4 = .ok (.iload_n 1, 1) := by decide +kernel
theorem dX11_isHeir_5 : decode cX11_isHeir 5 = .ok (.aload_n 0, 1) := by decide +kernel
theorem dX11_isHeir_6 : decode cX11_isHeir 6 = .ok (.getfield 35, 3) := by decide +kernel
theorem dX11_isHeir_9 : decode cX11_isHeir 9 = .ok (.getfield 116, 3) := by decide +kernel
theorem dX11_isHeir_12 : decode cX11_isHeir 12 = .ok (.if_icmp .ge 13, 3) := by decide +kernel
theorem dX11_isHeir_15 : decode cX11_isHeir 15 = .ok (.iload_n 1, 1) := by decide +kernel
theorem dX11_isHeir_16 : decode cX11_isHeir 16 = .ok (.bipush 8, 2) := by decide +kernel
theorem dX11_isHeir_18 : decode cX11_isHeir 18 = .ok (.if_icmp .ge 7, 3) := by decide +kernel
theorem dX11_isHeir_21 : decode cX11_isHeir 21 = .ok (.iconst 1, 1) := by decide +kernel
theorem dX11_isHeir_22 : decode cX11_isHeir 22 = .ok (.goto 4, 3) := by decide +kernel
theorem dX11_isHeir_25 : decode cX11_isHeir 25 = .ok (.iconst 0, 1) := by decide +kernel
theorem dX11_isHeir_26 : decode cX11_isHeir 26 = .ok (.ireturn, 1) := by decide +kernel
theorem dX11_isSetOfHeirs_0 : decode cX11_isSetOfHeirs 0 = .ok (.iload_n 1, 1) := by decide +kernel
theorem dX11_isSetOfHeirs_1 : decode cX11_isSetOfHeirs 1 = .ok (.ifCond .lt 20, 3) := by decide +kernel
theorem dX11_isSetOfHeirs_4 : decode cX11_isSetOfHeirs 4 = .ok (.iload_n 1, 1) := by decide +kernel
theorem dX11_isSetOfHeirs_5 : decode cX11_isSetOfHeirs 5 = .ok (.iconst 1, 1) := by decide +kernel
theorem dX11_isSetOfHeirs_6 : decode cX11_isSetOfHeirs 6 = .ok (.aload_n 0, 1) := by decide +kernel
theorem dX11_isSetOfHeirs_7 : decode cX11_isSetOfHeirs 7 = .ok (.getfield 35, 3) := by decide +kernel
theorem dX11_isSetOfHeirs_10 : decode cX11_isSetOfHeirs 10 = .ok (.getfield 116, 3) := by decide +kernel
theorem dX11_isSetOfHeirs_13 : decode cX11_isSetOfHeirs 13 = .ok (.ishl, 1) := by decide +kernel
theorem dX11_isSetOfHeirs_14 : decode cX11_isSetOfHeirs 14 = .ok (.if_icmp .ge 7, 3) := by decide +kernel
theorem dX11_isSetOfHeirs_17 : decode cX11_isSetOfHeirs 17 = .ok (.iconst 1, 1) := by decide +kernel
theorem dX11_isSetOfHeirs_18 : decode cX11_isSetOfHeirs 18 = .ok (.goto 4, 3) := by decide +kernel
theorem dX11_isSetOfHeirs_21 : decode cX11_isSetOfHeirs 21 = .ok (.iconst 0, 1) := by decide +kernel
theorem dX11_isSetOfHeirs_22 : decode cX11_isSetOfHeirs 22 = .ok (.ireturn, 1) := by decide +kernel
theorem dX11_isMissing_0 : decode cX11_isMissing 0 = .ok (.aload_n 0, 1) := by decide +kernel
theorem dX11_isMissing_1 : decode cX11_isMissing 1 = .ok (.getfield 67, 3) := by decide +kernel
theorem dX11_isMissing_4 : decode cX11_isMissing 4 = .ok (.iload_n 1, 1) := by decide +kernel
theorem dX11_isMissing_5 : decode cX11_isMissing 5 = .ok (.iaload, 1) := by decide +kernel
theorem dX11_isMissing_6 : decode cX11_isMissing 6 = .ok (.ifCond .ne 7, 3) := by decide +kernel
theorem dX11_isMissing_9 : decode cX11_isMissing 9 = .ok (.iconst 1, 1) := by decide +kernel
theorem dX11_isMissing_10 : decode cX11_isMissing 10 = .ok (.goto 4, 3) := by decide +kernel
theorem dX11_isMissing_13 : decode cX11_isMissing 13 = .ok (.iconst 0, 1) := by decide +kernel
theorem dX11_isMissing_14 : decode cX11_isMissing 14 = .ok (.ireturn, 1) := by decide +kernel
theorem dX11_stand_0 : decode cX11_stand 0 = .ok (.iload_n 3, 1) := by decide +kernel
theorem dX11_stand_1 : decode cX11_stand 1 = .ok (.ifCond .lt 33, 3) := by decide +kernel
theorem dX11_stand_4 : decode cX11_stand 4 = .ok (.iload_n 2, 1) := by decide +kernel
theorem dX11_stand_5 : decode cX11_stand 5 = .ok (.ifCond .lt 29, 3) := by decide +kernel
theorem dX11_stand_8 : decode cX11_stand 8 = .ok (.iload_n 3, 1) := by decide +kernel
theorem dX11_stand_9 : decode cX11_stand 9 = .ok (.aload_n 0, 1) := by decide +kernel
theorem dX11_stand_10 : decode cX11_stand 10 = .ok (.getfield 71, 3) := by decide +kernel
theorem dX11_stand_13 : decode cX11_stand 13 = .ok (.iload_n 1, 1) := by decide +kernel
theorem dX11_stand_14 : decode cX11_stand 14 = .ok (.iaload, 1) := by decide +kernel
theorem dX11_stand_15 : decode cX11_stand 15 = .ok (.if_icmp .gt 19, 3) := by decide +kernel
theorem dX11_stand_18 : decode cX11_stand 18 = .ok (.iload_n 2, 1) := by decide +kernel
theorem dX11_stand_19 : decode cX11_stand 19 = .ok (.aload_n 0, 1) := by decide +kernel
theorem dX11_stand_20 : decode cX11_stand 20 = .ok (.getfield 71, 3) := by decide +kernel
theorem dX11_stand_23 : decode cX11_stand 23 = .ok (.iload_n 1, 1) := by decide +kernel
theorem dX11_stand_24 : decode cX11_stand 24 = .ok (.iaload, 1) := by decide +kernel
theorem dX11_stand_25 : decode cX11_stand 25 = .ok (.iload_n 3, 1) := by decide +kernel
theorem dX11_stand_26 : decode cX11_stand 26 = .ok (.isub, 1) := by decide +kernel
theorem dX11_stand_27 : decode cX11_stand 27 = .ok (.if_icmp .gt 7, 3) := by decide +kernel
theorem dX11_stand_30 : decode cX11_stand 30 = .ok (.iconst 1, 1) := by decide +kernel
theorem dX11_stand_31 : decode cX11_stand 31 = .ok (.goto 4, 3) := by decide +kernel
theorem dX11_stand_34 : decode cX11_stand 34 = .ok (.iconst 0, 1) := by decide +kernel
theorem dX11_stand_35 : decode cX11_stand 35 = .ok (.ireturn, 1) := by decide +kernel
theorem dX11_lowestBits_0 : decode cX11_lowestBits 0 = .ok (.iload_n 0, 1) := by decide +kernel
theorem dX11_lowestBits_1 : decode cX11_lowestBits 1 = .ok (.bipush 8, 2) := by decide +kernel
theorem dX11_lowestBits_3 : decode cX11_lowestBits 3 = .ok (.if_icmp .ne 8, 3) := by decide +kernel
theorem dX11_lowestBits_6 : decode cX11_lowestBits 6 = .ok (.iload_n 1, 1) := by decide +kernel
theorem dX11_lowestBits_7 : decode cX11_lowestBits 7 = .ok (.i2b, 1) := by decide +kernel
theorem dX11_lowestBits_8 : decode cX11_lowestBits 8 = .ok (.goto 15, 3) := by decide +kernel
theorem dX11_lowestBits_11 : decode cX11_lowestBits 11 = .ok (.iload_n 0, 1) := by decide +kernel
theorem dX11_lowestBits_12 : decode cX11_lowestBits 12 = .ok (.bipush 16, 2) := by decide +kernel
theorem dX11_lowestBits_14 : decode cX11_lowestBits 14 = .ok (.if_icmp .ne 8, 3) := by decide +kernel
theorem dX11_lowestBits_17 : decode cX11_lowestBits 17 = .ok (.iload_n 1, 1) := by decide +kernel
theorem dX11_lowestBits_18 : decode cX11_lowestBits 18 = .ok (.i2s, 1) := by decide +kernel
theorem dX11_lowestBits_19 : decode cX11_lowestBits 19 = .ok (.goto 4, 3) := by decide +kernel
theorem dX11_lowestBits_22 : decode cX11_lowestBits 22 = .ok (.iload_n 1, 1) := by decide +kernel
theorem dX11_lowestBits_23 : decode cX11_lowestBits 23 = .ok (.ireturn, 1) := by decide +kernel
theorem dX11_isOfHeir_0 : decode cX11_isOfHeir 0 = .ok (.iload_n 0, 1) := by decide +kernel
theorem dX11_isOfHeir_1 : decode cX11_isOfHeir 1 = .ok (.tableswitch 53 0 3 #[31, 36, 31, 44], 31) := by decide +kernel
theorem dX11_isOfHeir_32 : decode cX11_isOfHeir 32 = .ok (.iload_n 1, 1) := by decide +kernel
theorem dX11_isOfHeir_33 : decode cX11_isOfHeir 33 = .ok (.invokestatic 77, 3) := by decide +kernel
theorem dX11_isOfHeir_36 : decode cX11_isOfHeir 36 = .ok (.ireturn, 1) := by decide +kernel
theorem dX11_isOfHeir_37 : decode cX11_isOfHeir 37 = .ok (.iload_n 1, 1) := by decide +kernel
theorem dX11_isOfHeir_38 : decode cX11_isOfHeir 38 = .ok (.iconst 0, 1) := by decide +kernel
theorem dX11_isOfHeir_39 : decode cX11_isOfHeir 39 = .ok (.bipush 99, 2) := by decide +kernel
theorem dX11_isOfHeir_41 : decode cX11_isOfHeir 41 = .ok (.invokestatic 86, 3) := by decide +kernel
theorem dX11_isOfHeir_44 : decode cX11_isOfHeir 44 = .ok (.ireturn, 1) := by decide +kernel
theorem dX11_isOfHeir_45 : decode cX11_isOfHeir 45 = .ok (.iload_n 1, 1) := by decide +kernel
theorem dX11_isOfHeir_46 : decode cX11_isOfHeir 46 = .ok (.iconst 0, 1) := by decide +kernel
theorem dX11_isOfHeir_47 : decode cX11_isOfHeir 47 = .ok (.sipush 9999, 3) := by decide +kernel
theorem dX11_isOfHeir_50 : decode cX11_isOfHeir 50 = .ok (.invokestatic 86, 3) := by decide +kernel
theorem dX11_isOfHeir_53 : decode cX11_isOfHeir 53 = .ok (.ireturn, 1) := by decide +kernel
theorem dX11_isOfHeir_54 : decode cX11_isOfHeir 54 = .ok (.iconst 0, 1) := by decide +kernel
theorem dX11_isOfHeir_55 : decode cX11_isOfHeir 55 = .ok (.ireturn, 1) := by decide +kernel
theorem dX11_isSill_0 : decode cX11_isSill 0 = .ok (.iload_n 0, 1) := by decide +kernel
theorem dX11_isSill_1 : decode cX11_isSill 1 = .ok (.iconst 0, 1) := by decide +kernel
theorem dX11_isSill_2 : decode cX11_isSill 2 = .ok (.bipush 15, 2) := by decide +kernel
theorem dX11_isSill_4 : decode cX11_isSill 4 = .ok (.invokestatic 86, 3) := by decide +kernel
theorem dX11_isSill_7 : decode cX11_isSill 7 = .ok (.ireturn, 1) := by decide +kernel
theorem dX11_isSheet_0 : decode cX11_isSheet 0 = .ok (.iload_n 0, 1) := by decide +kernel
theorem dX11_isSheet_1 : decode cX11_isSheet 1 = .ok (.iconst 0, 1) := by decide +kernel
theorem dX11_isSheet_2 : decode cX11_isSheet 2 = .ok (.iconst 3, 1) := by decide +kernel
theorem dX11_isSheet_3 : decode cX11_isSheet 3 = .ok (.invokestatic 86, 3) := by decide +kernel
theorem dX11_isSheet_6 : decode cX11_isSheet 6 = .ok (.ireturn, 1) := by decide +kernel
theorem dX11_isKindAndNumber_0 : decode cX11_isKindAndNumber 0 = .ok (.iload_n 0, 1) := by decide +kernel
theorem dX11_isKindAndNumber_1 : decode cX11_isKindAndNumber 1 = .ok (.iconst 0, 1) := by decide +kernel
theorem dX11_isKindAndNumber_2 : decode cX11_isKindAndNumber 2 = .ok (.bipush 69, 2) := by decide +kernel
theorem dX11_isKindAndNumber_4 : decode cX11_isKindAndNumber 4 = .ok (.invokestatic 86, 3) := by decide +kernel
theorem dX11_isKindAndNumber_7 : decode cX11_isKindAndNumber 7 = .ok (.ireturn, 1) := by decide +kernel
theorem dX11_within_0 : decode cX11_within 0 = .ok (.iload_n 0, 1) := by decide +kernel
theorem dX11_within_1 : decode cX11_within 1 = .ok (.iload_n 1, 1) := by decide +kernel
theorem dX11_within_2 : decode cX11_within 2 = .ok (.if_icmp .lt 12, 3) := by decide +kernel
theorem dX11_within_5 : decode cX11_within 5 = .ok (.iload_n 0, 1) := by decide +kernel
theorem dX11_within_6 : decode cX11_within 6 = .ok (.iload_n 2, 1) := by decide +kernel
theorem dX11_within_7 : decode cX11_within 7 = .ok (.if_icmp .gt 7, 3) := by decide +kernel
theorem dX11_within_10 : decode cX11_within 10 = .ok (.iconst 1, 1) := by decide +kernel
theorem dX11_within_11 : decode cX11_within 11 = .ok (.goto 4, 3) := by decide +kernel
theorem dX11_within_14 : decode cX11_within 14 = .ok (.iconst 0, 1) := by decide +kernel
theorem dX11_within_15 : decode cX11_within 15 = .ok (.ireturn, 1) := by decide +kernel
theorem dX11_isOrIsUnder_0 : decode cX11_isOrIsUnder 0 = .ok (.iload_n 0, 1) := by decide +kernel
theorem dX11_isOrIsUnder_1 : decode cX11_isOrIsUnder 1 = .ok (.istore_n 2, 1) := by decide +kernel
theorem dX11_isOrIsUnder_2 : decode cX11_isOrIsUnder 2 = .ok (.iconst 0, 1) := by decide +kernel
theorem dX11_isOrIsUnder_3 : decode cX11_isOrIsUnder 3 = .ok (.istore_n 3, 1) := by decide +kernel
theorem dX11_isOrIsUnder_4 : decode cX11_isOrIsUnder 4 = .ok (.iload_n 3, 1) := by decide +kernel
theorem dX11_isOrIsUnder_5 : decode cX11_isOrIsUnder 5 = .ok (.bipush 7, 2) := by decide +kernel
theorem dX11_isOrIsUnder_7 : decode cX11_isOrIsUnder 7 = .ok (.if_icmp .ge 32, 3) := by decide +kernel
theorem dX11_isOrIsUnder_10 : decode cX11_isOrIsUnder 10 = .ok (.iload_n 2, 1) := by decide +kernel
theorem dX11_isOrIsUnder_11 : decode cX11_isOrIsUnder 11 = .ok (.iconst 0, 1) := by decide +kernel
theorem dX11_isOrIsUnder_12 : decode cX11_isOrIsUnder 12 = .ok (.bipush 6, 2) := by decide +kernel
theorem dX11_isOrIsUnder_14 : decode cX11_isOrIsUnder 14 = .ok (.invokestatic 86, 3) := by decide +kernel
theorem dX11_isOrIsUnder_17 : decode cX11_isOrIsUnder 17 = .ok (.ifCond .eq 22, 3) := by decide +kernel
theorem dX11_isOrIsUnder_20 : decode cX11_isOrIsUnder 20 = .ok (.iload_n 2, 1) := by decide +kernel
theorem dX11_isOrIsUnder_21 : decode cX11_isOrIsUnder 21 = .ok (.iload_n 1, 1) := by decide +kernel
theorem dX11_isOrIsUnder_22 : decode cX11_isOrIsUnder 22 = .ok (.if_icmp .ne 5, 3) := by decide +kernel
theorem dX11_isOrIsUnder_25 : decode cX11_isOrIsUnder 25 = .ok (.iconst 1, 1) := by decide +kernel
theorem dX11_isOrIsUnder_26 : decode cX11_isOrIsUnder 26 = .ok (.ireturn, 1) := by decide +kernel
theorem dX11_isOrIsUnder_27 : decode cX11_isOrIsUnder 27 = .ok (.getstatic 324, 3) := by decide +kernel
theorem dX11_isOrIsUnder_30 : decode cX11_isOrIsUnder 30 = .ok (.iload_n 2, 1) := by decide +kernel
theorem dX11_isOrIsUnder_31 : decode cX11_isOrIsUnder 31 = .ok (.iaload, 1) := by decide +kernel
theorem dX11_isOrIsUnder_32 : decode cX11_isOrIsUnder 32 = .ok (.istore_n 2, 1) := by decide +kernel
theorem dX11_isOrIsUnder_33 : decode cX11_isOrIsUnder 33 = .ok (.iinc 3 1, 3) := by decide +kernel
theorem dX11_isOrIsUnder_36 : decode cX11_isOrIsUnder 36 = .ok (.goto (-32), 3) := by decide +kernel
theorem dX11_isOrIsUnder_39 : decode cX11_isOrIsUnder 39 = .ok (.iconst 0, 1) := by decide +kernel
theorem dX11_isOrIsUnder_40 : decode cX11_isOrIsUnder 40 = .ok (.ireturn, 1) := by decide +kernel
theorem dX11_leastOf_0 : decode cX11_leastOf 0 = .ok (.iconst 0, 1) := by decide +kernel
theorem dX11_leastOf_1 : decode cX11_leastOf 1 = .ok (.istore_n 1, 1) := by decide +kernel
theorem dX11_leastOf_2 : decode cX11_leastOf 2 = .ok (.iload_n 1, 1) := by decide +kernel
theorem dX11_leastOf_3 : decode cX11_leastOf 3 = .ok (.bipush 8, 2) := by decide +kernel
theorem dX11_leastOf_5 : decode cX11_leastOf 5 = .ok (.if_icmp .ge 17, 3) := by decide +kernel
theorem dX11_leastOf_8 : decode cX11_leastOf 8 = .ok (.iload_n 0, 1) := by decide +kernel
theorem dX11_leastOf_9 : decode cX11_leastOf 9 = .ok (.iload_n 1, 1) := by decide +kernel
theorem dX11_leastOf_10 : decode cX11_leastOf 10 = .ok (.ishr, 1) := by decide +kernel
theorem dX11_leastOf_11 : decode cX11_leastOf 11 = .ok (.iconst 1, 1) := by decide +kernel
theorem dX11_leastOf_12 : decode cX11_leastOf 12 = .ok (.iand, 1) := by decide +kernel
theorem dX11_leastOf_13 : decode cX11_leastOf 13 = .ok (.ifCond .ne 9, 3) := by decide +kernel
theorem dX11_leastOf_16 : decode cX11_leastOf 16 = .ok (.iinc 1 1, 3) := by decide +kernel
theorem dX11_leastOf_19 : decode cX11_leastOf 19 = .ok (.goto (-17), 3) := by decide +kernel
theorem dX11_leastOf_22 : decode cX11_leastOf 22 = .ok (.iload_n 1, 1) := by decide +kernel
theorem dX11_leastOf_23 : decode cX11_leastOf 23 = .ok (.ireturn, 1) := by decide +kernel
theorem dX11_greatestDivisor_0 : decode cX11_greatestDivisor 0 = .ok (.iload_n 1, 1) := by decide +kernel
theorem dX11_greatestDivisor_1 : decode cX11_greatestDivisor 1 = .ok (.istore_n 2, 1) := by decide +kernel
theorem dX11_greatestDivisor_2 : decode cX11_greatestDivisor 2 = .ok (.iload_n 2, 1) := by decide +kernel
theorem dX11_greatestDivisor_3 : decode cX11_greatestDivisor 3 = .ok (.iconst 1, 1) := by decide +kernel
theorem dX11_greatestDivisor_4 : decode cX11_greatestDivisor 4 = .ok (.if_icmp .le 23, 3) := by decide +kernel
theorem dX11_greatestDivisor_7 : decode cX11_greatestDivisor 7 = .ok (.iload_n 0, 1) := by decide +kernel
theorem dX11_greatestDivisor_8 : decode cX11_greatestDivisor 8 = .ok (.iload_n 2, 1) := by decide +kernel
theorem dX11_greatestDivisor_9 : decode cX11_greatestDivisor 9 = .ok (.irem, 1) := by decide +kernel
theorem dX11_greatestDivisor_10 : decode cX11_greatestDivisor 10 = .ok (.ifCond .ne 11, 3) := by decide +kernel
theorem dX11_greatestDivisor_13 : decode cX11_greatestDivisor 13 = .ok (.iload_n 1, 1) := by decide +kernel
theorem dX11_greatestDivisor_14 : decode cX11_greatestDivisor 14 = .ok (.iload_n 2, 1) := by decide +kernel
theorem dX11_greatestDivisor_15 : decode cX11_greatestDivisor 15 = .ok (.irem, 1) := by decide +kernel
theorem dX11_greatestDivisor_16 : decode cX11_greatestDivisor 16 = .ok (.ifCond .ne 5, 3) := by decide +kernel
theorem dX11_greatestDivisor_19 : decode cX11_greatestDivisor 19 = .ok (.iload_n 2, 1) := by decide +kernel
theorem dX11_greatestDivisor_20 : decode cX11_greatestDivisor 20 = .ok (.ireturn, 1) := by decide +kernel
theorem dX11_greatestDivisor_21 : decode cX11_greatestDivisor 21 = .ok (.iinc 2 (-1), 3) := by decide +kernel
theorem dX11_greatestDivisor_24 : decode cX11_greatestDivisor 24 = .ok (.goto (-22), 3) := by decide +kernel
theorem dX11_greatestDivisor_27 : decode cX11_greatestDivisor 27 = .ok (.iconst 1, 1) := by decide +kernel
theorem dX11_greatestDivisor_28 : decode cX11_greatestDivisor 28 = .ok (.ireturn, 1) := by decide +kernel
theorem dX11_sumOf_0 : decode cX11_sumOf 0 = .ok (.iconst 0, 1) := by decide +kernel
theorem dX11_sumOf_1 : decode cX11_sumOf 1 = .ok (.istore_n 2, 1) := by decide +kernel
theorem dX11_sumOf_2 : decode cX11_sumOf 2 = .ok (.iconst 0, 1) := by decide +kernel
theorem dX11_sumOf_3 : decode cX11_sumOf 3 = .ok (.istore_n 3, 1) := by decide +kernel
theorem dX11_sumOf_4 : decode cX11_sumOf 4 = .ok (.iload_n 3, 1) := by decide +kernel
theorem dX11_sumOf_5 : decode cX11_sumOf 5 = .ok (.iload_n 1, 1) := by decide +kernel
theorem dX11_sumOf_6 : decode cX11_sumOf 6 = .ok (.if_icmp .ge 21, 3) := by decide +kernel
theorem dX11_sumOf_9 : decode cX11_sumOf 9 = .ok (.iload_n 3, 1) := by decide +kernel
theorem dX11_sumOf_10 : decode cX11_sumOf 10 = .ok (.aload_n 0, 1) := by decide +kernel
theorem dX11_sumOf_11 : decode cX11_sumOf 11 = .ok (.arraylength, 1) := by decide +kernel
theorem dX11_sumOf_12 : decode cX11_sumOf 12 = .ok (.if_icmp .ge 15, 3) := by decide +kernel
theorem dX11_sumOf_15 : decode cX11_sumOf 15 = .ok (.iload_n 2, 1) := by decide +kernel
theorem dX11_sumOf_16 : decode cX11_sumOf 16 = .ok (.aload_n 0, 1) := by decide +kernel
theorem dX11_sumOf_17 : decode cX11_sumOf 17 = .ok (.iload_n 3, 1) := by decide +kernel
theorem dX11_sumOf_18 : decode cX11_sumOf 18 = .ok (.iaload, 1) := by decide +kernel
theorem dX11_sumOf_19 : decode cX11_sumOf 19 = .ok (.iadd, 1) := by decide +kernel
theorem dX11_sumOf_20 : decode cX11_sumOf 20 = .ok (.istore_n 2, 1) := by decide +kernel
theorem dX11_sumOf_21 : decode cX11_sumOf 21 = .ok (.iinc 3 1, 3) := by decide +kernel
theorem dX11_sumOf_24 : decode cX11_sumOf 24 = .ok (.goto (-20), 3) := by decide +kernel
theorem dX11_sumOf_27 : decode cX11_sumOf 27 = .ok (.iload_n 2, 1) := by decide +kernel
theorem dX11_sumOf_28 : decode cX11_sumOf 28 = .ok (.ireturn, 1) := by decide +kernel
