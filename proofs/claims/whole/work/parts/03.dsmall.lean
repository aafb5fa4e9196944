theorem dX0_init_0 : decode cX0_init 0 = .ok (.aload_n 0, 1) := by decide +kernel
theorem dX0_init_1 : decode cX0_init 1 = .ok (.invokespecial 3, 3) := by decide +kernel
theorem dX0_init_4 : decode cX0_init 4 = .ok (.return_, 1) := by decide +kernel
theorem dX0_driftsBy_0 : decode cX0_driftsBy 0 = .ok (.iload_n 3, 1) := by decide +kernel
theorem dX0_driftsBy_1 : decode cX0_driftsBy 1 = .ok (.bipush 7, 2) := by decide +kernel
theorem dX0_driftsBy_3 : decode cX0_driftsBy 3 = .ok (.irem, 1) := by decide +kernel
theorem dX0_driftsBy_4 : decode cX0_driftsBy 4 = .ok (.ifCond .ne 7, 3) := by decide +kernel
theorem dX0_driftsBy_7 : decode cX0_driftsBy 7 = .ok (.iconst 0, 1) := by decide +kernel
theorem dX0_driftsBy_8 : decode cX0_driftsBy 8 = .ok (.goto 4, 3) := by decide +kernel
theorem dX0_driftsBy_11 : decode cX0_driftsBy 11 = .ok (.iload_n 1, 1) := by decide +kernel
theorem dX0_driftsBy_12 : decode cX0_driftsBy 12 = .ok (.ireturn, 1) := by decide +kernel
theorem dX0_shinesBy_0 : decode cX0_shinesBy 0 = .ok (.bipush 9, 2) := by decide +kernel
theorem dX0_shinesBy_2 : decode cX0_shinesBy 2 = .ok (.iload_n 1, 1) := by decide +kernel
theorem dX0_shinesBy_3 : decode cX0_shinesBy 3 = .ok (.isub, 1) := by decide +kernel
theorem dX0_shinesBy_4 : decode cX0_shinesBy 4 = .ok (.ireturn, 1) := by decide +kernel
theorem dX0_needsBy_0 : decode cX0_needsBy 0 = .ok (.iconst 0, 1) := by decide +kernel
theorem dX0_needsBy_1 : decode cX0_needsBy 1 = .ok (.ireturn, 1) := by decide +kernel
theorem dX0_drifts_0 : decode cX0_drifts 0 = .ok (.aload_n 1, 1) := by decide +kernel
theorem dX0_drifts_1 : decode cX0_drifts 1 = .ok (.bipush 40, 2) := by decide +kernel
theorem dX0_drifts_3 : decode cX0_drifts 3 = .ok (.invokevirtual 9, 3) := by decide +kernel
theorem dX0_drifts_6 : decode cX0_drifts 6 = .ok (.aload_n 0, 1) := by decide +kernel
theorem dX0_drifts_7 : decode cX0_drifts 7 = .ok (.aload_n 1, 1) := by decide +kernel
theorem dX0_drifts_8 : decode cX0_drifts 8 = .ok (.iload_n 2, 1) := by decide +kernel
theorem dX0_drifts_9 : decode cX0_drifts 9 = .ok (.invokespecial 15, 3) := by decide +kernel
theorem dX0_drifts_12 : decode cX0_drifts 12 = .ok (.ineg, 1) := by decide +kernel
theorem dX0_drifts_13 : decode cX0_drifts 13 = .ok (.ireturn, 1) := by decide +kernel
theorem dX1_init_0 : decode cX1_init 0 = .ok (.aload_n 0, 1) := by decide +kernel
theorem dX1_init_1 : decode cX1_init 1 = .ok (.invokespecial 1, 3) := by decide +kernel
theorem dX1_init_4 : decode cX1_init 4 = .ok (.return_, 1) := by decide +kernel
theorem dX1_driftsBy_0 : decode cX1_driftsBy 0 = .ok (.iload_n 1, 1) := by decide +kernel
theorem dX1_driftsBy_1 : decode cX1_driftsBy 1 = .ok (.iconst 1, 1) := by decide +kernel
theorem dX1_driftsBy_2 : decode cX1_driftsBy 2 = .ok (.iadd, 1) := by decide +kernel
theorem dX1_driftsBy_3 : decode cX1_driftsBy 3 = .ok (.ireturn, 1) := by decide +kernel
theorem dX1_shinesBy_0 : decode cX1_shinesBy 0 = .ok (.iload_n 1, 1) := by decide +kernel
theorem dX1_shinesBy_1 : decode cX1_shinesBy 1 = .ok (.iload_n 2, 1) := by decide +kernel
theorem dX1_shinesBy_2 : decode cX1_shinesBy 2 = .ok (.iconst 2, 1) := by decide +kernel
theorem dX1_shinesBy_3 : decode cX1_shinesBy 3 = .ok (.irem, 1) := by decide +kernel
theorem dX1_shinesBy_4 : decode cX1_shinesBy 4 = .ok (.iadd, 1) := by decide +kernel
theorem dX1_shinesBy_5 : decode cX1_shinesBy 5 = .ok (.ireturn, 1) := by decide +kernel
theorem dX1_needsBy_0 : decode cX1_needsBy 0 = .ok (.iconst 3, 1) := by decide +kernel
theorem dX1_needsBy_1 : decode cX1_needsBy 1 = .ok (.ireturn, 1) := by decide +kernel
theorem dX1_shines_0 : decode cX1_shines 0 = .ok (.aload_n 1, 1) := by decide +kernel
theorem dX1_shines_1 : decode cX1_shines 1 = .ok (.bipush 30, 2) := by decide +kernel
theorem dX1_shines_3 : decode cX1_shines 3 = .ok (.invokevirtual 7, 3) := by decide +kernel
theorem dX1_shines_6 : decode cX1_shines 6 = .ok (.aload_n 0, 1) := by decide +kernel
theorem dX1_shines_7 : decode cX1_shines 7 = .ok (.aload_n 1, 1) := by decide +kernel
theorem dX1_shines_8 : decode cX1_shines 8 = .ok (.iload_n 2, 1) := by decide +kernel
theorem dX1_shines_9 : decode cX1_shines 9 = .ok (.invokespecial 13, 3) := by decide +kernel
theorem dX1_shines_12 : decode cX1_shines 12 = .ok (.aload_n 0, 1) := by decide +kernel
theorem dX1_shines_13 : decode cX1_shines 13 = .ok (.aload_n 1, 1) := by decide +kernel
theorem dX1_shines_14 : decode cX1_shines 14 = .ok (.iconst 1, 1) := by decide +kernel
theorem dX1_shines_15 : decode cX1_shines 15 = .ok (.invokevirtual 17, 3) := by decide +kernel
theorem dX1_shines_18 : decode cX1_shines 18 = .ok (.isub, 1) := by decide +kernel
theorem dX1_shines_19 : decode cX1_shines 19 = .ok (.ireturn, 1) := by decide +kernel
theorem dX2_init_0 : decode cX2_init 0 = .ok (.aload_n 0, 1) := by decide +kernel
theorem dX2_init_1 : decode cX2_init 1 = .ok (.invokespecial 1, 3) := by decide +kernel
theorem dX2_init_4 : decode cX2_init 4 = .ok (.return_, 1) := by decide +kernel
theorem dX2_driftsBy_0 : decode cX2_driftsBy 0 = .ok (.aload_n 0, 1) := by decide +kernel
theorem dX2_driftsBy_1 : decode cX2_driftsBy 1 = .ok (.iload_n 1, 1) := by decide +kernel
theorem dX2_driftsBy_2 : decode cX2_driftsBy 2 = .ok (.iload_n 2, 1) := by decide +kernel
theorem dX2_driftsBy_3 : decode cX2_driftsBy 3 = .ok (.iload_n 3, 1) := by decide +kernel
theorem dX2_driftsBy_4 : decode cX2_driftsBy 4 = .ok (.invokespecial 7, 3) := by decide +kernel
theorem dX2_driftsBy_7 : decode cX2_driftsBy 7 = .ok (.iload_n 3, 1) := by decide +kernel
theorem dX2_driftsBy_8 : decode cX2_driftsBy 8 = .ok (.iconst 5, 1) := by decide +kernel
theorem dX2_driftsBy_9 : decode cX2_driftsBy 9 = .ok (.irem, 1) := by decide +kernel
theorem dX2_driftsBy_10 : decode cX2_driftsBy 10 = .ok (.ifCond .ne 7, 3) := by decide +kernel
theorem dX2_driftsBy_13 : decode cX2_driftsBy 13 = .ok (.iload_n 2, 1) := by decide +kernel
theorem dX2_driftsBy_14 : decode cX2_driftsBy 14 = .ok (.goto 4, 3) := by decide +kernel
theorem dX2_driftsBy_17 : decode cX2_driftsBy 17 = .ok (.iconst 0, 1) := by decide +kernel
theorem dX2_driftsBy_18 : decode cX2_driftsBy 18 = .ok (.iadd, 1) := by decide +kernel
theorem dX2_driftsBy_19 : decode cX2_driftsBy 19 = .ok (.ireturn, 1) := by decide +kernel
theorem dX2_needsBy_0 : decode cX2_needsBy 0 = .ok (.iload_n 1, 1) := by decide +kernel
theorem dX2_needsBy_1 : decode cX2_needsBy 1 = .ok (.ireturn, 1) := by decide +kernel
theorem dX2_shines_0 : decode cX2_shines 0 = .ok (.aload_n 1, 1) := by decide +kernel
theorem dX2_shines_1 : decode cX2_shines 1 = .ok (.bipush 60, 2) := by decide +kernel
theorem dX2_shines_3 : decode cX2_shines 3 = .ok (.invokevirtual 11, 3) := by decide +kernel
theorem dX2_shines_6 : decode cX2_shines 6 = .ok (.aload_n 0, 1) := by decide +kernel
theorem dX2_shines_7 : decode cX2_shines 7 = .ok (.aload_n 1, 1) := by decide +kernel
theorem dX2_shines_8 : decode cX2_shines 8 = .ok (.iload_n 2, 1) := by decide +kernel
theorem dX2_shines_9 : decode cX2_shines 9 = .ok (.iconst 1, 1) := by decide +kernel
theorem dX2_shines_10 : decode cX2_shines 10 = .ok (.iadd, 1) := by decide +kernel
theorem dX2_shines_11 : decode cX2_shines 11 = .ok (.invokespecial 17, 3) := by decide +kernel
theorem dX2_shines_14 : decode cX2_shines 14 = .ok (.ireturn, 1) := by decide +kernel
theorem dX3_init_0 : decode cX3_init 0 = .ok (.aload_n 0, 1) := by decide +kernel
theorem dX3_init_1 : decode cX3_init 1 = .ok (.invokespecial 1, 3) := by decide +kernel
theorem dX3_init_4 : decode cX3_init 4 = .ok (.return_, 1) := by decide +kernel
theorem dX3_driftsBy_0 : decode cX3_driftsBy 0 = .ok (.iconst 0, 1) := by decide +kernel
theorem dX3_driftsBy_1 : decode cX3_driftsBy 1 = .ok (.ireturn, 1) := by decide +kernel
theorem dX3_shinesBy_0 : decode cX3_shinesBy 0 = .ok (.iconst 0, 1) := by decide +kernel
theorem dX3_shinesBy_1 : decode cX3_shinesBy 1 = .ok (.aload_n 0, 1) := by decide +kernel
theorem dX3_shinesBy_2 : decode cX3_shinesBy 2 = .ok (.iload_n 1, 1) := by decide +kernel
theorem dX3_shinesBy_3 : decode cX3_shinesBy 3 = .ok (.iload_n 2, 1) := by decide +kernel
theorem dX3_shinesBy_4 : decode cX3_shinesBy 4 = .ok (.iload_n 3, 1) := by decide +kernel
theorem dX3_shinesBy_5 : decode cX3_shinesBy 5 = .ok (.invokespecial 7, 3) := by decide +kernel
theorem dX3_shinesBy_8 : decode cX3_shinesBy 8 = .ok (.iconst 3, 1) := by decide +kernel
theorem dX3_shinesBy_9 : decode cX3_shinesBy 9 = .ok (.isub, 1) := by decide +kernel
theorem dX3_shinesBy_10 : decode cX3_shinesBy 10 = .ok (.invokestatic 11, 3) := by decide +kernel
theorem dX3_shinesBy_13 : decode cX3_shinesBy 13 = .ok (.ireturn, 1) := by decide +kernel
theorem dX3_needsBy_0 : decode cX3_needsBy 0 = .ok (.bipush 9, 2) := by decide +kernel
theorem dX3_needsBy_2 : decode cX3_needsBy 2 = .ok (.ireturn, 1) := by decide +kernel
theorem dX3_tells_0 : decode cX3_tells 0 = .ok (.aload_n 1, 1) := by decide +kernel
theorem dX3_tells_1 : decode cX3_tells 1 = .ok (.bipush 50, 2) := by decide +kernel
theorem dX3_tells_3 : decode cX3_tells 3 = .ok (.invokevirtual 17, 3) := by decide +kernel
theorem dX3_tells_6 : decode cX3_tells 6 = .ok (.aload_n 0, 1) := by decide +kernel
theorem dX3_tells_7 : decode cX3_tells 7 = .ok (.aload_n 1, 1) := by decide +kernel
theorem dX3_tells_8 : decode cX3_tells 8 = .ok (.iload_n 2, 1) := by decide +kernel
theorem dX3_tells_9 : decode cX3_tells 9 = .ok (.invokespecial 23, 3) := by decide +kernel
theorem dX3_tells_12 : decode cX3_tells 12 = .ok (.aload_n 0, 1) := by decide +kernel
theorem dX3_tells_13 : decode cX3_tells 13 = .ok (.aload_n 1, 1) := by decide +kernel
theorem dX3_tells_14 : decode cX3_tells 14 = .ok (.iconst 2, 1) := by decide +kernel
theorem dX3_tells_15 : decode cX3_tells 15 = .ok (.invokevirtual 27, 3) := by decide +kernel
theorem dX3_tells_18 : decode cX3_tells 18 = .ok (.isub, 1) := by decide +kernel
theorem dX3_tells_19 : decode cX3_tells 19 = .ok (.ireturn, 1) := by decide +kernel
theorem dX4_init_0 : decode cX4_init 0 = .ok (.aload_n 0, 1) := by decide +kernel
theorem dX4_init_1 : decode cX4_init 1 = .ok (.invokespecial 1, 3) := by decide +kernel
theorem dX4_init_4 : decode cX4_init 4 = .ok (.return_, 1) := by decide +kernel
theorem dX4_driftsBy_0 : decode cX4_driftsBy 0 = .ok (.iconst 1, 1) := by decide +kernel
theorem dX4_driftsBy_1 : decode cX4_driftsBy 1 = .ok (.aload_n 0, 1) := by decide +kernel
theorem dX4_driftsBy_2 : decode cX4_driftsBy 2 = .ok (.iload_n 1, 1) := by decide +kernel
theorem dX4_driftsBy_3 : decode cX4_driftsBy 3 = .ok (.iload_n 2, 1) := by decide +kernel
theorem dX4_driftsBy_4 : decode cX4_driftsBy 4 = .ok (.iload_n 3, 1) := by decide +kernel
theorem dX4_driftsBy_5 : decode cX4_driftsBy 5 = .ok (.invokespecial 7, 3) := by decide +kernel
theorem dX4_driftsBy_8 : decode cX4_driftsBy 8 = .ok (.invokestatic 11, 3) := by decide +kernel
theorem dX4_driftsBy_11 : decode cX4_driftsBy 11 = .ok (.ireturn, 1) := by decide +kernel
theorem dX4_shinesBy_0 : decode cX4_shinesBy 0 = .ok (.aload_n 0, 1) := by decide +kernel
theorem dX4_shinesBy_1 : decode cX4_shinesBy 1 = .ok (.iload_n 1, 1) := by decide +kernel
theorem dX4_shinesBy_2 : decode cX4_shinesBy 2 = .ok (.iload_n 2, 1) := by decide +kernel
theorem dX4_shinesBy_3 : decode cX4_shinesBy 3 = .ok (.iload_n 3, 1) := by decide +kernel
theorem dX4_shinesBy_4 : decode cX4_shinesBy 4 = .ok (.invokespecial 17, 3) := by decide +kernel
theorem dX4_shinesBy_7 : decode cX4_shinesBy 7 = .ok (.iload_n 3, 1) := by decide +kernel
theorem dX4_shinesBy_8 : decode cX4_shinesBy 8 = .ok (.iconst 2, 1) := by decide +kernel
theorem dX4_shinesBy_9 : decode cX4_shinesBy 9 = .ok (.irem, 1) := by decide +kernel
theorem dX4_shinesBy_10 : decode cX4_shinesBy 10 = .ok (.ifCond .ne 7, 3) := by decide +kernel
theorem dX4_shinesBy_13 : decode cX4_shinesBy 13 = .ok (.iconst 0, 1) := by decide +kernel
theorem dX4_shinesBy_14 : decode cX4_shinesBy 14 = .ok (.goto 4, 3) := by decide +kernel
theorem dX4_shinesBy_17 : decode cX4_shinesBy 17 = .ok (.iload_n 2, 1) := by decide +kernel
theorem dX4_shinesBy_18 : decode cX4_shinesBy 18 = .ok (.iadd, 1) := by decide +kernel
theorem dX4_shinesBy_19 : decode cX4_shinesBy 19 = .ok (.ireturn, 1) := by decide +kernel
theorem dX4_needsBy_0 : decode cX4_needsBy 0 = .ok (.aload_n 0, 1) := by decide +kernel
theorem dX4_needsBy_1 : decode cX4_needsBy 1 = .ok (.iload_n 1, 1) := by decide +kernel
theorem dX4_needsBy_2 : decode cX4_needsBy 2 = .ok (.invokespecial 20, 3) := by decide +kernel
theorem dX4_needsBy_5 : decode cX4_needsBy 5 = .ok (.iconst 2, 1) := by decide +kernel
theorem dX4_needsBy_6 : decode cX4_needsBy 6 = .ok (.iadd, 1) := by decide +kernel
theorem dX4_needsBy_7 : decode cX4_needsBy 7 = .ok (.ireturn, 1) := by decide +kernel
theorem dX4_drifts_0 : decode cX4_drifts 0 = .ok (.aload_n 1, 1) := by decide +kernel
theorem dX4_drifts_1 : decode cX4_drifts 1 = .ok (.bipush 70, 2) := by decide +kernel
theorem dX4_drifts_3 : decode cX4_drifts 3 = .ok (.invokevirtual 24, 3) := by decide +kernel
theorem dX4_drifts_6 : decode cX4_drifts 6 = .ok (.aload_n 0, 1) := by decide +kernel
theorem dX4_drifts_7 : decode cX4_drifts 7 = .ok (.aload_n 1, 1) := by decide +kernel
theorem dX4_drifts_8 : decode cX4_drifts 8 = .ok (.iload_n 2, 1) := by decide +kernel
theorem dX4_drifts_9 : decode cX4_drifts 9 = .ok (.invokespecial 30, 3) := by decide +kernel
theorem dX4_drifts_12 : decode cX4_drifts 12 = .ok (.aload_n 1, 1) := by decide +kernel
theorem dX4_drifts_13 : decode cX4_drifts 13 = .ok (.getfield 34, 3) := by decide +kernel
theorem dX4_drifts_16 : decode cX4_drifts 16 = .ok (.ixor, 1) := by decide +kernel
theorem dX4_drifts_17 : decode cX4_drifts 17 = .ok (.ireturn, 1) := by decide +kernel
theorem dX4_tells_0 : decode cX4_tells 0 = .ok (.aload_n 1, 1) := by decide +kernel
theorem dX4_tells_1 : decode cX4_tells 1 = .ok (.bipush 71, 2) := by decide +kernel
theorem dX4_tells_3 : decode cX4_tells 3 = .ok (.invokevirtual 24, 3) := by decide +kernel
theorem dX4_tells_6 : decode cX4_tells 6 = .ok (.aload_n 0, 1) := by decide +kernel
theorem dX4_tells_7 : decode cX4_tells 7 = .ok (.aload_n 1, 1) := by decide +kernel
theorem dX4_tells_8 : decode cX4_tells 8 = .ok (.iload_n 2, 1) := by decide +kernel
theorem dX4_tells_9 : decode cX4_tells 9 = .ok (.invokevirtual 38, 3) := by decide +kernel
theorem dX4_tells_12 : decode cX4_tells 12 = .ok (.aload_n 0, 1) := by decide +kernel
theorem dX4_tells_13 : decode cX4_tells 13 = .ok (.aload_n 1, 1) := by decide +kernel
theorem dX4_tells_14 : decode cX4_tells 14 = .ok (.iload_n 2, 1) := by decide +kernel
theorem dX4_tells_15 : decode cX4_tells 15 = .ok (.invokespecial 43, 3) := by decide +kernel
theorem dX4_tells_18 : decode cX4_tells 18 = .ok (.isub, 1) := by decide +kernel
theorem dX4_tells_19 : decode cX4_tells 19 = .ok (.ireturn, 1) := by decide +kernel
theorem dX5_init_0 : decode cX5_init 0 = .ok (.aload_n 0, 1) := by decide +kernel
theorem dX5_init_1 : decode cX5_init 1 = .ok (.invokespecial 1, 3) := by decide +kernel
theorem dX5_init_4 : decode cX5_init 4 = .ok (.return_, 1) := by decide +kernel
theorem dX5_driftsBy_0 : decode cX5_driftsBy 0 = .ok (.iload_n 1, 1) := by decide +kernel
theorem dX5_driftsBy_1 : decode cX5_driftsBy 1 = .ok (.ireturn, 1) := by decide +kernel
theorem dX5_shinesBy_0 : decode cX5_shinesBy 0 = .ok (.iload_n 1, 1) := by decide +kernel
theorem dX5_shinesBy_1 : decode cX5_shinesBy 1 = .ok (.ireturn, 1) := by decide +kernel
theorem dX5_needsBy_0 : decode cX5_needsBy 0 = .ok (.iconst 5, 1) := by decide +kernel
theorem dX5_needsBy_1 : decode cX5_needsBy 1 = .ok (.ireturn, 1) := by decide +kernel
theorem dX5_lies_0 : decode cX5_lies 0 = .ok (.aload_n 1, 1) := by decide +kernel
theorem dX5_lies_1 : decode cX5_lies 1 = .ok (.bipush 10, 2) := by decide +kernel
theorem dX5_lies_3 : decode cX5_lies 3 = .ok (.invokevirtual 7, 3) := by decide +kernel
theorem dX5_lies_6 : decode cX5_lies 6 = .ok (.iload_n 2, 1) := by decide +kernel
theorem dX5_lies_7 : decode cX5_lies 7 = .ok (.aload_n 1, 1) := by decide +kernel
theorem dX5_lies_8 : decode cX5_lies 8 = .ok (.getfield 13, 3) := by decide +kernel
theorem dX5_lies_11 : decode cX5_lies 11 = .ok (.iadd, 1) := by decide +kernel
theorem dX5_lies_12 : decode cX5_lies 12 = .ok (.ireturn, 1) := by decide +kernel
theorem dX5_shines_0 : decode cX5_shines 0 = .ok (.aload_n 1, 1) := by decide +kernel
theorem dX5_shines_1 : decode cX5_shines 1 = .ok (.bipush 11, 2) := by decide +kernel
theorem dX5_shines_3 : decode cX5_shines 3 = .ok (.invokevirtual 7, 3) := by decide +kernel
theorem dX5_shines_6 : decode cX5_shines 6 = .ok (.aload_n 0, 1) := by decide +kernel
theorem dX5_shines_7 : decode cX5_shines 7 = .ok (.aload_n 1, 1) := by decide +kernel
theorem dX5_shines_8 : decode cX5_shines 8 = .ok (.iload_n 2, 1) := by decide +kernel
theorem dX5_shines_9 : decode cX5_shines 9 = .ok (.invokevirtual 17, 3) := by decide +kernel
theorem dX5_shines_12 : decode cX5_shines 12 = .ok (.iconst 2, 1) := by decide +kernel
theorem dX5_shines_13 : decode cX5_shines 13 = .ok (.imul, 1) := by decide +kernel
theorem dX5_shines_14 : decode cX5_shines 14 = .ok (.ireturn, 1) := by decide +kernel
theorem dX5_drifts_0 : decode cX5_drifts 0 = .ok (.aload_n 1, 1) := by decide +kernel
theorem dX5_drifts_1 : decode cX5_drifts 1 = .ok (.bipush 12, 2) := by decide +kernel
theorem dX5_drifts_3 : decode cX5_drifts 3 = .ok (.invokevirtual 7, 3) := by decide +kernel
theorem dX5_drifts_6 : decode cX5_drifts 6 = .ok (.iload_n 2, 1) := by decide +kernel
theorem dX5_drifts_7 : decode cX5_drifts 7 = .ok (.aload_n 1, 1) := by decide +kernel
theorem dX5_drifts_8 : decode cX5_drifts 8 = .ok (.getfield 23, 3) := by decide +kernel
theorem dX5_drifts_11 : decode cX5_drifts 11 = .ok (.isub, 1) := by decide +kernel
theorem dX5_drifts_12 : decode cX5_drifts 12 = .ok (.ireturn, 1) := by decide +kernel
theorem dX5_tells_0 : decode cX5_tells 0 = .ok (.aload_n 1, 1) := by decide +kernel
theorem dX5_tells_1 : decode cX5_tells 1 = .ok (.bipush 13, 2) := by decide +kernel
theorem dX5_tells_3 : decode cX5_tells 3 = .ok (.invokevirtual 7, 3) := by decide +kernel
theorem dX5_tells_6 : decode cX5_tells 6 = .ok (.aload_n 0, 1) := by decide +kernel
theorem dX5_tells_7 : decode cX5_tells 7 = .ok (.aload_n 1, 1) := by decide +kernel
theorem dX5_tells_8 : decode cX5_tells 8 = .ok (.iload_n 2, 1) := by decide +kernel
theorem dX5_tells_9 : decode cX5_tells 9 = .ok (.invokevirtual 26, 3) := by decide +kernel
theorem dX5_tells_12 : decode cX5_tells 12 = .ok (.aload_n 0, 1) := by decide +kernel
theorem dX5_tells_13 : decode cX5_tells 13 = .ok (.aload_n 1, 1) := by decide +kernel
theorem dX5_tells_14 : decode cX5_tells 14 = .ok (.iload_n 2, 1) := by decide +kernel
theorem dX5_tells_15 : decode cX5_tells 15 = .ok (.invokevirtual 29, 3) := by decide +kernel
theorem dX5_tells_18 : decode cX5_tells 18 = .ok (.ixor, 1) := by decide +kernel
theorem dX5_tells_19 : decode cX5_tells 19 = .ok (.ireturn, 1) := by decide +kernel
theorem dX6_init_0 : decode cX6_init 0 = .ok (.aload_n 0, 1) := by decide +kernel
theorem dX6_init_1 : decode cX6_init 1 = .ok (.invokespecial 3, 3) := by decide +kernel
theorem dX6_init_4 : decode cX6_init 4 = .ok (.aload_n 0, 1) := by decide +kernel
theorem dX6_init_5 : decode cX6_init 5 = .ok (.bipush 50, 2) := by decide +kernel
theorem dX6_init_7 : decode cX6_init 7 = .ok (.newarray .int, 2) := by decide +kernel
theorem dX6_init_9 : decode cX6_init 9 = .ok (.putfield 9, 3) := by decide +kernel
theorem dX6_init_12 : decode cX6_init 12 = .ok (.aload_n 0, 1) := by decide +kernel
theorem dX6_init_13 : decode cX6_init 13 = .ok (.bipush 50, 2) := by decide +kernel
theorem dX6_init_15 : decode cX6_init 15 = .ok (.newarray .int, 2) := by decide +kernel
theorem dX6_init_17 : decode cX6_init 17 = .ok (.putfield 15, 3) := by decide +kernel
theorem dX6_init_20 : decode cX6_init 20 = .ok (.aload_n 0, 1) := by decide +kernel
theorem dX6_init_21 : decode cX6_init 21 = .ok (.bipush 50, 2) := by decide +kernel
theorem dX6_init_23 : decode cX6_init 23 = .ok (.newarray .int, 2) := by decide +kernel
theorem dX6_init_25 : decode cX6_init 25 = .ok (.putfield 18, 3) := by decide +kernel
theorem dX6_init_28 : decode cX6_init 28 = .ok (.aload_n 0, 1) := by decide +kernel
theorem dX6_init_29 : decode cX6_init 29 = .ok (.aload_n 1, 1) := by decide +kernel
theorem dX6_init_30 : decode cX6_init 30 = .ok (.putfield 21, 3) := by decide +kernel
theorem dX6_init_33 : decode cX6_init 33 = .ok (.aload_n 0, 1) := by decide +kernel
theorem dX6_init_34 : decode cX6_init 34 = .ok (.iload_n 2, 1) := by decide +kernel
theorem dX6_init_35 : decode cX6_init 35 = .ok (.putfield 25, 3) := by decide +kernel
theorem dX6_init_38 : decode cX6_init 38 = .ok (.return_, 1) := by decide +kernel
theorem dX6_copy_0 : decode cX6_copy 0 = .ok (.aload_n 0, 1) := by decide +kernel
theorem dX6_copy_1 : decode cX6_copy 1 = .ok (.aload_n 1, 1) := by decide +kernel
theorem dX6_copy_2 : decode cX6_copy 2 = .ok (.getfield 9, 3) := by decide +kernel
theorem dX6_copy_5 : decode cX6_copy 5 = .ok (.aload_n 1, 1) := by decide +kernel
theorem dX6_copy_6 : decode cX6_copy 6 = .ok (.getfield 29, 3) := by decide +kernel
theorem dX6_copy_9 : decode cX6_copy 9 = .ok (.invokevirtual 32, 3) := by decide +kernel
theorem dX6_copy_12 : decode cX6_copy 12 = .ok (.return_, 1) := by decide +kernel
theorem dX6_take_0 : decode cX6_take 0 = .ok (.aload_n 0, 1) := by decide +kernel
theorem dX6_take_1 : decode cX6_take 1 = .ok (.iconst 0, 1) := by decide +kernel
theorem dX6_take_2 : decode cX6_take 2 = .ok (.iload_n 2, 1) := by decide +kernel
theorem dX6_take_3 : decode cX6_take 3 = .ok (.bipush 50, 2) := by decide +kernel
theorem dX6_take_5 : decode cX6_take 5 = .ok (.invokestatic 36, 3) := by decide +kernel
theorem dX6_take_8 : decode cX6_take 8 = .ok (.invokestatic 42, 3) := by decide +kernel
theorem dX6_take_11 : decode cX6_take 11 = .ok (.putfield 29, 3) := by decide +kernel
theorem dX6_take_14 : decode cX6_take 14 = .ok (.aload_n 1, 1) := by decide +kernel
theorem dX6_take_15 : decode cX6_take 15 = .ok (.iconst 0, 1) := by decide +kernel
theorem dX6_take_16 : decode cX6_take 16 = .ok (.aload_n 0, 1) := by decide +kernel
theorem dX6_take_17 : decode cX6_take 17 = .ok (.getfield 9, 3) := by decide +kernel
theorem dX6_take_20 : decode cX6_take 20 = .ok (.iconst 0, 1) := by decide +kernel
theorem dX6_take_21 : decode cX6_take 21 = .ok (.aload_n 0, 1) := by decide +kernel
theorem dX6_take_22 : decode cX6_take 22 = .ok (.getfield 29, 3) := by decide +kernel
theorem dX6_take_25 : decode cX6_take 25 = .ok (.invokestatic 45, 3) := by decide +kernel
theorem dX6_take_28 : decode cX6_take 28 = .ok (.return_, 1) := by decide +kernel
theorem dX6_gives_0 : decode cX6_gives 0 = .ok (.aload_n 0, 1) := by decide +kernel
theorem dX6_gives_1 : decode cX6_gives 1 = .ok (.getfield 29, 3) := by decide +kernel
theorem dX6_gives_4 : decode cX6_gives 4 = .ok (.ifCond .ne 7, 3) := by decide +kernel
theorem dX6_gives_7 : decode cX6_gives 7 = .ok (.iload_n 1, 1) := by decide +kernel
theorem dX6_gives_8 : decode cX6_gives 8 = .ok (.goto 10, 3) := by decide +kernel
theorem dX6_gives_11 : decode cX6_gives 11 = .ok (.aload_n 0, 1) := by decide +kernel
theorem dX6_gives_12 : decode cX6_gives 12 = .ok (.iload_n 1, 1) := by decide +kernel
theorem dX6_gives_13 : decode cX6_gives 13 = .ok (.iload_n 2, 1) := by decide +kernel
theorem dX6_gives_14 : decode cX6_gives 14 = .ok (.iload_n 3, 1) := by decide +kernel
theorem dX6_gives_15 : decode cX6_gives 15 = .ok (.invokevirtual 51, 3) := by decide +kernel
theorem dX6_gives_18 : decode cX6_gives 18 = .ok (.istore 4, 2) := by decide +kernel
theorem dX6_gives_20 : decode cX6_gives 20 = .ok (.iconst 0, 1) := by decide +kernel
theorem dX6_gives_21 : decode cX6_gives 21 = .ok (.aload_n 0, 1) := by decide +kernel
theorem dX6_gives_22 : decode cX6_gives 22 = .ok (.getfield 25, 3) := by decide +kernel
theorem dX6_gives_25 : decode cX6_gives 25 = .ok (.iload 4, 2) := by decide +kernel
theorem dX6_gives_27 : decode cX6_gives 27 = .ok (.invokestatic 36, 3) := by decide +kernel
theorem dX6_gives_30 : decode cX6_gives 30 = .ok (.invokestatic 42, 3) := by decide +kernel
theorem dX6_gives_33 : decode cX6_gives 33 = .ok (.ireturn, 1) := by decide +kernel
theorem dX6_workedOut_0 : decode cX6_workedOut 0 = .ok (.iconst 0, 1) := by decide +kernel
theorem dX6_workedOut_1 : decode cX6_workedOut 1 = .ok (.istore 4, 2) := by decide +kernel
theorem dX6_workedOut_3 : decode cX6_workedOut 3 = .ok (.iconst 0, 1) := by decide +kernel
theorem dX6_workedOut_4 : decode cX6_workedOut 4 = .ok (.istore 5, 2) := by decide +kernel
theorem dX6_workedOut_6 : decode cX6_workedOut 6 = .ok (.iload 5, 2) := by decide +kernel
theorem dX6_workedOut_8 : decode cX6_workedOut 8 = .ok (.aload_n 0, 1) := by decide +kernel
theorem dX6_workedOut_9 : decode cX6_workedOut 9 = .ok (.getfield 29, 3) := by decide +kernel
theorem dX6_workedOut_12 : decode cX6_workedOut 12 = .ok (.if_icmp .ge 140, 3) := by decide +kernel
theorem dX6_workedOut_15 : decode cX6_workedOut 15 = .ok (.aload_n 0, 1) := by decide +kernel
theorem dX6_workedOut_16 : decode cX6_workedOut 16 = .ok (.getfield 9, 3) := by decide +kernel
theorem dX6_workedOut_19 : decode cX6_workedOut 19 = .ok (.iload 5, 2) := by decide +kernel
theorem dX6_workedOut_21 : decode cX6_workedOut 21 = .ok (.iaload, 1) := by decide +kernel
theorem dX6_workedOut_22 : decode cX6_workedOut 22 = .ok (.istore 6, 2) := by decide +kernel
theorem dX6_workedOut_24 : decode cX6_workedOut 24 = .ok (.iload 6, 2) := by decide +kernel
theorem dX6_workedOut_26 : decode cX6_workedOut 26 = .ok (.sipush 256, 3) := by decide +kernel
theorem dX6_workedOut_29 : decode cX6_workedOut 29 = .ok (.if_icmp .ge 9, 3) := by decide +kernel
theorem dX6_workedOut_32 : decode cX6_workedOut 32 = .ok (.iload 6, 2) := by decide +kernel
theorem dX6_workedOut_34 : decode cX6_workedOut 34 = .ok (.iconst 2, 1) := by decide +kernel
theorem dX6_workedOut_35 : decode cX6_workedOut 35 = .ok (.if_icmp .gt 31, 3) := by decide +kernel
theorem dX6_workedOut_38 : decode cX6_workedOut 38 = .ok (.iload 4, 2) := by decide +kernel
theorem dX6_workedOut_40 : decode cX6_workedOut 40 = .ok (.bipush 50, 2) := by decide +kernel
theorem dX6_workedOut_42 : decode cX6_workedOut 42 = .ok (.if_icmp .ge 104, 3) := by decide +kernel
theorem dX6_workedOut_45 : decode cX6_workedOut 45 = .ok (.aload_n 0, 1) := by decide +kernel
theorem dX6_workedOut_46 : decode cX6_workedOut 46 = .ok (.getfield 15, 3) := by decide +kernel
theorem dX6_workedOut_49 : decode cX6_workedOut 49 = .ok (.iload 4, 2) := by decide +kernel
theorem dX6_workedOut_51 : decode cX6_workedOut 51 = .ok (.iload 6, 2) := by decide +kernel
theorem dX6_workedOut_53 : decode cX6_workedOut 53 = .ok (.iload_n 1, 1) := by decide +kernel
theorem dX6_workedOut_54 : decode cX6_workedOut 54 = .ok (.iload_n 2, 1) := by decide +kernel
theorem dX6_workedOut_55 : decode cX6_workedOut 55 = .ok (.iload_n 3, 1) := by decide +kernel
theorem dX6_workedOut_56 : decode cX6_workedOut 56 = .ok (.invokestatic 55, 3) := by decide +kernel
theorem dX6_workedOut_59 : decode cX6_workedOut 59 = .ok (.iastore, 1) := by decide +kernel
theorem dX6_workedOut_60 : decode cX6_workedOut 60 = .ok (.iinc 4 1, 3) := by decide +kernel
theorem dX6_workedOut_63 : decode cX6_workedOut 63 = .ok (.goto 83, 3) := by decide +kernel
theorem dX6_workedOut_66 : decode cX6_workedOut 66 = .ok (.iload 6, 2) := by decide +kernel
theorem dX6_workedOut_68 : decode cX6_workedOut 68 = .ok (.bipush 33, 2) := by decide +kernel
theorem dX6_workedOut_70 : decode cX6_workedOut 70 = .ok (.if_icmp .ne 37, 3) := by decide +kernel
theorem dX6_workedOut_73 : decode cX6_workedOut 73 = .ok (.iload 4, 2) := by decide +kernel
theorem dX6_workedOut_75 : decode cX6_workedOut 75 = .ok (.ifCond .le 71, 3) := by decide +kernel
theorem dX6_workedOut_78 : decode cX6_workedOut 78 = .ok (.aload_n 0, 1) := by decide +kernel
theorem dX6_workedOut_79 : decode cX6_workedOut 79 = .ok (.getfield 15, 3) := by decide +kernel
theorem dX6_workedOut_82 : decode cX6_workedOut 82 = .ok (.iload 4, 2) := by decide +kernel
theorem dX6_workedOut_84 : decode cX6_workedOut 84 = .ok (.iconst 1, 1) := by decide +kernel
theorem dX6_workedOut_85 : decode cX6_workedOut 85 = .ok (.isub, 1) := by decide +kernel
theorem dX6_workedOut_86 : decode cX6_workedOut 86 = .ok (.aload_n 0, 1) := by decide +kernel
theorem dX6_workedOut_87 : decode cX6_workedOut 87 = .ok (.getfield 15, 3) := by decide +kernel
theorem dX6_workedOut_90 : decode cX6_workedOut 90 = .ok (.iload 4, 2) := by decide +kernel
theorem dX6_workedOut_92 : decode cX6_workedOut 92 = .ok (.iconst 1, 1) := by decide +kernel
theorem dX6_workedOut_93 : decode cX6_workedOut 93 = .ok (.isub, 1) := by decide +kernel
theorem dX6_workedOut_94 : decode cX6_workedOut 94 = .ok (.iaload, 1) := by decide +kernel
theorem dX6_workedOut_95 : decode cX6_workedOut 95 = .ok (.ifCond .ne 7, 3) := by decide +kernel
theorem dX6_workedOut_98 : decode cX6_workedOut 98 = .ok (.iconst 1, 1) := by decide +kernel
theorem dX6_workedOut_99 : decode cX6_workedOut 99 = .ok (.goto 4, 3) := by decide +kernel
theorem dX6_workedOut_102 : decode cX6_workedOut 102 = .ok (.iconst 0, 1) := by decide +kernel
theorem dX6_workedOut_103 : decode cX6_workedOut 103 = .ok (.iastore, 1) := by decide +kernel
theorem dX6_workedOut_104 : decode cX6_workedOut 104 = .ok (.goto 42, 3) := by decide +kernel
theorem dX6_workedOut_107 : decode cX6_workedOut 107 = .ok (.iload 4, 2) := by decide +kernel
theorem dX6_workedOut_109 : decode cX6_workedOut 109 = .ok (.iconst 1, 1) := by decide +kernel
theorem dX6_workedOut_110 : decode cX6_workedOut 110 = .ok (.if_icmp .le 36, 3) := by decide +kernel
theorem dX6_workedOut_113 : decode cX6_workedOut 113 = .ok (.iinc 4 (-1), 3) := by decide +kernel
theorem dX6_workedOut_116 : decode cX6_workedOut 116 = .ok (.aload_n 0, 1) := by decide +kernel
theorem dX6_workedOut_117 : decode cX6_workedOut 117 = .ok (.getfield 15, 3) := by decide +kernel
theorem dX6_workedOut_120 : decode cX6_workedOut 120 = .ok (.iload 4, 2) := by decide +kernel
theorem dX6_workedOut_122 : decode cX6_workedOut 122 = .ok (.iconst 1, 1) := by decide +kernel
theorem dX6_workedOut_123 : decode cX6_workedOut 123 = .ok (.isub, 1) := by decide +kernel
theorem dX6_workedOut_124 : decode cX6_workedOut 124 = .ok (.iload 6, 2) := by decide +kernel
theorem dX6_workedOut_126 : decode cX6_workedOut 126 = .ok (.aload_n 0, 1) := by decide +kernel
theorem dX6_workedOut_127 : decode cX6_workedOut 127 = .ok (.getfield 15, 3) := by decide +kernel
theorem dX6_workedOut_130 : decode cX6_workedOut 130 = .ok (.iload 4, 2) := by decide +kernel
theorem dX6_workedOut_132 : decode cX6_workedOut 132 = .ok (.iconst 1, 1) := by decide +kernel
theorem dX6_workedOut_133 : decode cX6_workedOut 133 = .ok (.isub, 1) := by decide +kernel
theorem dX6_workedOut_134 : decode cX6_workedOut 134 = .ok (.iaload, 1) := by decide +kernel
theorem dX6_workedOut_135 : decode cX6_workedOut 135 = .ok (.aload_n 0, 1) := by decide +kernel
theorem dX6_workedOut_136 : decode cX6_workedOut 136 = .ok (.getfield 15, 3) := by decide +kernel
theorem dX6_workedOut_139 : decode cX6_workedOut 139 = .ok (.iload 4, 2) := by decide +kernel
theorem dX6_workedOut_141 : decode cX6_workedOut 141 = .ok (.iaload, 1) := by decide +kernel
theorem dX6_workedOut_142 : decode cX6_workedOut 142 = .ok (.invokestatic 59, 3) := by decide +kernel
theorem dX6_workedOut_145 : decode cX6_workedOut 145 = .ok (.iastore, 1) := by decide +kernel
theorem dX6_workedOut_146 : decode cX6_workedOut 146 = .ok (.iinc 5 1, 3) := by decide +kernel
theorem dX6_workedOut_149 : decode cX6_workedOut 149 = .ok (.goto (-143), 3) := by decide +kernel
theorem dX6_workedOut_152 : decode cX6_workedOut 152 = .ok (.aload_n 0, 1) := by decide +kernel
theorem dX6_workedOut_153 : decode cX6_workedOut 153 = .ok (.getfield 15, 3) := by decide +kernel
theorem dX6_workedOut_156 : decode cX6_workedOut 156 = .ok (.iconst 0, 1) := by decide +kernel
theorem dX6_workedOut_157 : decode cX6_workedOut 157 = .ok (.iaload, 1) := by decide +kernel
theorem dX6_workedOut_158 : decode cX6_workedOut 158 = .ok (.ireturn, 1) := by decide +kernel
theorem dX6_valueOf_0 : decode cX6_valueOf 0 = .ok (.iload_n 0, 1) := by decide +kernel
theorem dX6_valueOf_1 : decode cX6_valueOf 1 = .ok (.sipush 256, 3) := by decide +kernel
theorem dX6_valueOf_4 : decode cX6_valueOf 4 = .ok (.if_icmp .lt 9, 3) := by decide +kernel
theorem dX6_valueOf_7 : decode cX6_valueOf 7 = .ok (.iload_n 0, 1) := by decide +kernel
theorem dX6_valueOf_8 : decode cX6_valueOf 8 = .ok (.sipush 256, 3) := by decide +kernel
theorem dX6_valueOf_11 : decode cX6_valueOf 11 = .ok (.isub, 1) := by decide +kernel
theorem dX6_valueOf_12 : decode cX6_valueOf 12 = .ok (.ireturn, 1) := by decide +kernel
theorem dX6_valueOf_13 : decode cX6_valueOf 13 = .ok (.iload_n 0, 1) := by decide +kernel
theorem dX6_valueOf_14 : decode cX6_valueOf 14 = .ok (.ifCond .ne 7, 3) := by decide +kernel
theorem dX6_valueOf_17 : decode cX6_valueOf 17 = .ok (.iload_n 1, 1) := by decide +kernel
theorem dX6_valueOf_18 : decode cX6_valueOf 18 = .ok (.goto 13, 3) := by decide +kernel
theorem dX6_valueOf_21 : decode cX6_valueOf 21 = .ok (.iload_n 0, 1) := by decide +kernel
theorem dX6_valueOf_22 : decode cX6_valueOf 22 = .ok (.iconst 1, 1) := by decide +kernel
theorem dX6_valueOf_23 : decode cX6_valueOf 23 = .ok (.if_icmp .ne 7, 3) := by decide +kernel
theorem dX6_valueOf_26 : decode cX6_valueOf 26 = .ok (.iload_n 2, 1) := by decide +kernel
theorem dX6_valueOf_27 : decode cX6_valueOf 27 = .ok (.goto 4, 3) := by decide +kernel
theorem dX6_valueOf_30 : decode cX6_valueOf 30 = .ok (.iload_n 3, 1) := by decide +kernel
theorem dX6_valueOf_31 : decode cX6_valueOf 31 = .ok (.ireturn, 1) := by decide +kernel
theorem dX6_joined_0 : decode cX6_joined 0 = .ok (.iload_n 0, 1) := by decide +kernel
theorem dX6_joined_1 : decode cX6_joined 1 = .ok (.lookupswitch 168 #[(38, 97), (42, 152), (43, 144), (45, 148), (47, 156), (60, 111), (61, 122), (62, 133), (124, 83)], 83) := by decide +kernel
theorem dX6_joined_84 : decode cX6_joined 84 = .ok (.iload_n 1, 1) := by decide +kernel
theorem dX6_joined_85 : decode cX6_joined 85 = .ok (.ifCond .ne 7, 3) := by decide +kernel
theorem dX6_joined_88 : decode cX6_joined 88 = .ok (.iload_n 2, 1) := by decide +kernel
theorem dX6_joined_89 : decode cX6_joined 89 = .ok (.ifCond .eq 7, 3) := by decide +kernel
theorem dX6_joined_92 : decode cX6_joined 92 = .ok (.iconst 1, 1) := by decide +kernel
theorem dX6_joined_93 : decode cX6_joined 93 = .ok (.goto 4, 3) := by decide +kernel
theorem dX6_joined_96 : decode cX6_joined 96 = .ok (.iconst 0, 1) := by decide +kernel
theorem dX6_joined_97 : decode cX6_joined 97 = .ok (.ireturn, 1) := by decide +kernel
theorem dX6_joined_98 : decode cX6_joined 98 = .ok (.iload_n 1, 1) := by decide +kernel
theorem dX6_joined_99 : decode cX6_joined 99 = .ok (.ifCond .eq 11, 3) := by decide +kernel
theorem dX6_joined_102 : decode cX6_joined 102 = .ok (.iload_n 2, 1) := by decide +kernel
theorem dX6_joined_103 : decode cX6_joined 103 = .ok (.ifCond .eq 7, 3) := by decide +kernel
theorem dX6_joined_106 : decode cX6_joined 106 = .ok (.iconst 1, 1) := by decide +kernel
theorem dX6_joined_107 : decode cX6_joined 107 = .ok (.goto 4, 3) := by decide +kernel
theorem dX6_joined_110 : decode cX6_joined 110 = .ok (.iconst 0, 1) := by decide +kernel
theorem dX6_joined_111 : decode cX6_joined 111 = .ok (.ireturn, 1) := by decide +kernel
theorem dX6_joined_112 : decode cX6_joined 112 = .ok (.iload_n 1, 1) := by decide +kernel
theorem dX6_joined_113 : decode cX6_joined 113 = .ok (.iload_n 2, 1) := by decide +kernel
theorem dX6_joined_114 : decode cX6_joined 114 = .ok (.if_icmp .ge 7, 3) := by decide +kernel
theorem dX6_joined_117 : decode cX6_joined 117 = .ok (.iconst 1, 1) := by decide +kernel
theorem dX6_joined_118 : decode cX6_joined 118 = .ok (.goto 4, 3) := by decide +kernel
theorem dX6_joined_121 : decode cX6_joined 121 = .ok (.iconst 0, 1) := by decide +kernel
theorem dX6_joined_122 : decode cX6_joined 122 = .ok (.ireturn, 1) := by decide +kernel
theorem dX6_joined_123 : decode cX6_joined 123 = .ok (.iload_n 1, 1) := by decide +kernel
theorem dX6_joined_124 : decode cX6_joined 124 = .ok (.iload_n 2, 1) := by decide +kernel
theorem dX6_joined_125 : decode cX6_joined 125 = .ok (.if_icmp .ne 7, 3) := by decide +kernel
theorem dX6_joined_128 : decode cX6_joined 128 = .ok (.iconst 1, 1) := by decide +kernel
theorem dX6_joined_129 : decode cX6_joined 129 = .ok (.goto 4, 3) := by decide +kernel
theorem dX6_joined_132 : decode cX6_joined 132 = .ok (.iconst 0, 1) := by decide +kernel
theorem dX6_joined_133 : decode cX6_joined 133 = .ok (.ireturn, 1) := by decide +kernel
theorem dX6_joined_134 : decode cX6_joined 134 = .ok (.iload_n 1, 1) := by decide +kernel
theorem dX6_joined_135 : decode cX6_joined 135 = .ok (.iload_n 2, 1) := by decide +kernel
theorem dX6_joined_136 : decode cX6_joined 136 = .ok (.if_icmp .le 7, 3) := by decide +kernel
theorem dX6_joined_139 : decode cX6_joined 139 = .ok (.iconst 1, 1) := by decide +kernel
theorem dX6_joined_140 : decode cX6_joined 140 = .ok (.goto 4, 3) := by decide +kernel
theorem dX6_joined_143 : decode cX6_joined 143 = .ok (.iconst 0, 1) := by decide +kernel
theorem dX6_joined_144 : decode cX6_joined 144 = .ok (.ireturn, 1) := by decide +kernel
theorem dX6_joined_145 : decode cX6_joined 145 = .ok (.iload_n 1, 1) := by decide +kernel
theorem dX6_joined_146 : decode cX6_joined 146 = .ok (.iload_n 2, 1) := by decide +kernel
theorem dX6_joined_147 : decode cX6_joined 147 = .ok (.iadd, 1) := by decide +kernel
theorem dX6_joined_148 : decode cX6_joined 148 = .ok (.ireturn, 1) := by decide +kernel
theorem dX6_joined_149 : decode cX6_joined 149 = .ok (.iload_n 1, 1) := by decide +kernel
theorem dX6_joined_150 : decode cX6_joined 150 = .ok (.iload_n 2, 1) := by decide +kernel
theorem dX6_joined_151 : decode cX6_joined 151 = .ok (.isub, 1) := by decide +kernel
theorem dX6_joined_152 : decode cX6_joined 152 = .ok (.ireturn, 1) := by decide +kernel
theorem dX6_joined_153 : decode cX6_joined 153 = .ok (.iload_n 1, 1) := by decide +kernel
theorem dX6_joined_154 : decode cX6_joined 154 = .ok (.iload_n 2, 1) := by decide +kernel
theorem dX6_joined_155 : decode cX6_joined 155 = .ok (.imul, 1) := by decide +kernel
theorem dX6_joined_156 : decode cX6_joined 156 = .ok (.ireturn, 1) := by decide +kernel
theorem dX6_joined_157 : decode cX6_joined 157 = .ok (.iload_n 2, 1) := by decide +kernel
theorem dX6_joined_158 : decode cX6_joined 158 = .ok (.ifCond .ne 7, 3) := by decide +kernel
theorem dX6_joined_161 : decode cX6_joined 161 = .ok (.iconst 0, 1) := by decide +kernel
theorem dX6_joined_162 : decode cX6_joined 162 = .ok (.goto 6, 3) := by decide +kernel
theorem dX6_joined_165 : decode cX6_joined 165 = .ok (.iload_n 1, 1) := by decide +kernel
theorem dX6_joined_166 : decode cX6_joined 166 = .ok (.iload_n 2, 1) := by decide +kernel
theorem dX6_joined_167 : decode cX6_joined 167 = .ok (.idiv, 1) := by decide +kernel
theorem dX6_joined_168 : decode cX6_joined 168 = .ok (.ireturn, 1) := by decide +kernel
theorem dX6_joined_169 : decode cX6_joined 169 = .ok (.iload_n 2, 1) := by decide +kernel
theorem dX6_joined_170 : decode cX6_joined 170 = .ok (.ifCond .ne 7, 3) := by decide +kernel
theorem dX6_joined_173 : decode cX6_joined 173 = .ok (.iconst 0, 1) := by decide +kernel
theorem dX6_joined_174 : decode cX6_joined 174 = .ok (.goto 6, 3) := by decide +kernel
theorem dX6_joined_177 : decode cX6_joined 177 = .ok (.iload_n 1, 1) := by decide +kernel
theorem dX6_joined_178 : decode cX6_joined 178 = .ok (.iload_n 2, 1) := by decide +kernel
theorem dX6_joined_179 : decode cX6_joined 179 = .ok (.irem, 1) := by decide +kernel
theorem dX6_joined_180 : decode cX6_joined 180 = .ok (.ireturn, 1) := by decide +kernel
theorem dX6_read_0 : decode cX6_read 0 = .ok (.aload_n 0, 1) := by decide +kernel
theorem dX6_read_1 : decode cX6_read 1 = .ok (.iconst 0, 1) := by decide +kernel
theorem dX6_read_2 : decode cX6_read 2 = .ok (.putfield 62, 3) := by decide +kernel
theorem dX6_read_5 : decode cX6_read 5 = .ok (.aload_n 0, 1) := by decide +kernel
theorem dX6_read_6 : decode cX6_read 6 = .ok (.iconst 0, 1) := by decide +kernel
theorem dX6_read_7 : decode cX6_read 7 = .ok (.putfield 65, 3) := by decide +kernel
theorem dX6_read_10 : decode cX6_read 10 = .ok (.aload_n 0, 1) := by decide +kernel
theorem dX6_read_11 : decode cX6_read 11 = .ok (.iconst 0, 1) := by decide +kernel
theorem dX6_read_12 : decode cX6_read 12 = .ok (.putfield 68, 3) := by decide +kernel
theorem dX6_read_15 : decode cX6_read 15 = .ok (.iload_n 2, 1) := by decide +kernel
theorem dX6_read_16 : decode cX6_read 16 = .ok (.aload_n 1, 1) := by decide +kernel
theorem dX6_read_17 : decode cX6_read 17 = .ok (.arraylength, 1) := by decide +kernel
theorem dX6_read_18 : decode cX6_read 18 = .ok (.invokestatic 36, 3) := by decide +kernel
theorem dX6_read_21 : decode cX6_read 21 = .ok (.istore_n 3, 1) := by decide +kernel
theorem dX6_read_22 : decode cX6_read 22 = .ok (.aload_n 0, 1) := by decide +kernel
theorem dX6_read_23 : decode cX6_read 23 = .ok (.aload_n 1, 1) := by decide +kernel
theorem dX6_read_24 : decode cX6_read 24 = .ok (.iload_n 3, 1) := by decide +kernel
theorem dX6_read_25 : decode cX6_read 25 = .ok (.iconst 0, 1) := by decide +kernel
theorem dX6_read_26 : decode cX6_read 26 = .ok (.iconst 0, 1) := by decide +kernel
theorem dX6_read_27 : decode cX6_read 27 = .ok (.invokevirtual 72, 3) := by decide +kernel
theorem dX6_read_30 : decode cX6_read 30 = .ok (.aload_n 0, 1) := by decide +kernel
theorem dX6_read_31 : decode cX6_read 31 = .ok (.getfield 68, 3) := by decide +kernel
theorem dX6_read_34 : decode cX6_read 34 = .ok (.ifCond .ne 11, 3) := by decide +kernel
theorem dX6_read_37 : decode cX6_read 37 = .ok (.aload_n 0, 1) := by decide +kernel
theorem dX6_read_38 : decode cX6_read 38 = .ok (.getfield 62, 3) := by decide +kernel
theorem dX6_read_41 : decode cX6_read 41 = .ok (.iload_n 3, 1) := by decide +kernel
theorem dX6_read_42 : decode cX6_read 42 = .ok (.if_icmp .ge 8, 3) := by decide +kernel
theorem dX6_read_45 : decode cX6_read 45 = .ok (.aload_n 0, 1) := by decide +kernel
theorem dX6_read_46 : decode cX6_read 46 = .ok (.getfield 62, 3) := by decide +kernel
theorem dX6_read_49 : decode cX6_read 49 = .ok (.ireturn, 1) := by decide +kernel
theorem dX6_read_50 : decode cX6_read 50 = .ok (.aload_n 0, 1) := by decide +kernel
theorem dX6_read_51 : decode cX6_read 51 = .ok (.aload_n 0, 1) := by decide +kernel
theorem dX6_read_52 : decode cX6_read 52 = .ok (.getfield 18, 3) := by decide +kernel
theorem dX6_read_55 : decode cX6_read 55 = .ok (.aload_n 0, 1) := by decide +kernel
theorem dX6_read_56 : decode cX6_read 56 = .ok (.getfield 65, 3) := by decide +kernel
theorem dX6_read_59 : decode cX6_read 59 = .ok (.invokevirtual 32, 3) := by decide +kernel
theorem dX6_read_62 : decode cX6_read 62 = .ok (.iconst (-1), 1) := by decide +kernel
theorem dX6_read_63 : decode cX6_read 63 = .ok (.ireturn, 1) := by decide +kernel
theorem dX6_readLevel_0 : decode cX6_readLevel 0 = .ok (.iload_n 3, 1) := by decide +kernel
theorem dX6_readLevel_1 : decode cX6_readLevel 1 = .ok (.iconst 5, 1) := by decide +kernel
theorem dX6_readLevel_2 : decode cX6_readLevel 2 = .ok (.if_icmp .lt 12, 3) := by decide +kernel
theorem dX6_readLevel_5 : decode cX6_readLevel 5 = .ok (.aload_n 0, 1) := by decide +kernel
theorem dX6_readLevel_6 : decode cX6_readLevel 6 = .ok (.aload_n 1, 1) := by decide +kernel
theorem dX6_readLevel_7 : decode cX6_readLevel 7 = .ok (.iload_n 2, 1) := by decide +kernel
theorem dX6_readLevel_8 : decode cX6_readLevel 8 = .ok (.iload 4, 2) := by decide +kernel
theorem dX6_readLevel_10 : decode cX6_readLevel 10 = .ok (.invokevirtual 76, 3) := by decide +kernel
theorem dX6_readLevel_13 : decode cX6_readLevel 13 = .ok (.return_, 1) := by decide +kernel
theorem dX6_readLevel_14 : decode cX6_readLevel 14 = .ok (.aload_n 0, 1) := by decide +kernel
theorem dX6_readLevel_15 : decode cX6_readLevel 15 = .ok (.aload_n 1, 1) := by decide +kernel
theorem dX6_readLevel_16 : decode cX6_readLevel 16 = .ok (.iload_n 2, 1) := by decide +kernel
theorem dX6_readLevel_17 : decode cX6_readLevel 17 = .ok (.iload_n 3, 1) := by decide +kernel
theorem dX6_readLevel_18 : decode cX6_readLevel 18 = .ok (.iconst 1, 1) := by decide +kernel
theorem dX6_readLevel_19 : decode cX6_readLevel 19 = .ok (.iadd, 1) := by decide +kernel
theorem dX6_readLevel_20 : decode cX6_readLevel 20 = .ok (.iload 4, 2) := by decide +kernel
theorem dX6_readLevel_22 : decode cX6_readLevel 22 = .ok (.invokevirtual 72, 3) := by decide +kernel
theorem dX6_readLevel_25 : decode cX6_readLevel 25 = .ok (.iload_n 3, 1) := by decide +kernel
theorem dX6_readLevel_26 : decode cX6_readLevel 26 = .ok (.iconst 2, 1) := by decide +kernel
theorem dX6_readLevel_27 : decode cX6_readLevel 27 = .ok (.if_icmp .ne 7, 3) := by decide +kernel
theorem dX6_readLevel_30 : decode cX6_readLevel 30 = .ok (.iconst 1, 1) := by decide +kernel
theorem dX6_readLevel_31 : decode cX6_readLevel 31 = .ok (.goto 5, 3) := by decide +kernel
theorem dX6_readLevel_34 : decode cX6_readLevel 34 = .ok (.bipush 50, 2) := by decide +kernel
theorem dX6_readLevel_36 : decode cX6_readLevel 36 = .ok (.istore 5, 2) := by decide +kernel
theorem dX6_readLevel_38 : decode cX6_readLevel 38 = .ok (.iconst 0, 1) := by decide +kernel
theorem dX6_readLevel_39 : decode cX6_readLevel 39 = .ok (.istore 6, 2) := by decide +kernel
theorem dX6_readLevel_41 : decode cX6_readLevel 41 = .ok (.iload 6, 2) := by decide +kernel
theorem dX6_readLevel_43 : decode cX6_readLevel 43 = .ok (.iload 5, 2) := by decide +kernel
theorem dX6_readLevel_45 : decode cX6_readLevel 45 = .ok (.if_icmp .ge 64, 3) := by decide +kernel
theorem dX6_readLevel_48 : decode cX6_readLevel 48 = .ok (.aload_n 0, 1) := by decide +kernel
theorem dX6_readLevel_49 : decode cX6_readLevel 49 = .ok (.getfield 68, 3) := by decide +kernel
theorem dX6_readLevel_52 : decode cX6_readLevel 52 = .ok (.ifCond .ne 57, 3) := by decide +kernel
theorem dX6_readLevel_55 : decode cX6_readLevel 55 = .ok (.aload_n 1, 1) := by decide +kernel
theorem dX6_readLevel_56 : decode cX6_readLevel 56 = .ok (.iload_n 2, 1) := by decide +kernel
theorem dX6_readLevel_57 : decode cX6_readLevel 57 = .ok (.aload_n 0, 1) := by decide +kernel
theorem dX6_readLevel_58 : decode cX6_readLevel 58 = .ok (.getfield 62, 3) := by decide +kernel
theorem dX6_readLevel_61 : decode cX6_readLevel 61 = .ok (.invokestatic 80, 3) := by decide +kernel
theorem dX6_readLevel_64 : decode cX6_readLevel 64 = .ok (.istore 7, 2) := by decide +kernel
theorem dX6_readLevel_66 : decode cX6_readLevel 66 = .ok (.iload 7, 2) := by decide +kernel
theorem dX6_readLevel_68 : decode cX6_readLevel 68 = .ok (.invokestatic 84, 3) := by decide +kernel
theorem dX6_readLevel_71 : decode cX6_readLevel 71 = .ok (.iload_n 3, 1) := by decide +kernel
theorem dX6_readLevel_72 : decode cX6_readLevel 72 = .ok (.if_icmp .eq 4, 3) := by decide +kernel
theorem dX6_readLevel_75 : decode cX6_readLevel 75 = .ok (.return_, 1) := by decide +kernel
theorem dX6_readLevel_76 : decode cX6_readLevel 76 = .ok (.aload_n 0, 1) := by decide +kernel
theorem dX6_readLevel_77 : decode cX6_readLevel 77 = .ok (.dup, 1) := by decide +kernel
theorem dX6_readLevel_78 : decode cX6_readLevel 78 = .ok (.getfield 62, 3) := by decide +kernel
theorem dX6_readLevel_81 : decode cX6_readLevel 81 = .ok (.iconst 1, 1) := by decide +kernel
theorem dX6_readLevel_82 : decode cX6_readLevel 82 = .ok (.iadd, 1) := by decide +kernel
theorem dX6_readLevel_83 : decode cX6_readLevel 83 = .ok (.putfield 62, 3) := by decide +kernel
theorem dX6_readLevel_86 : decode cX6_readLevel 86 = .ok (.aload_n 0, 1) := by decide +kernel
theorem dX6_readLevel_87 : decode cX6_readLevel 87 = .ok (.aload_n 1, 1) := by decide +kernel
theorem dX6_readLevel_88 : decode cX6_readLevel 88 = .ok (.iload_n 2, 1) := by decide +kernel
theorem dX6_readLevel_89 : decode cX6_readLevel 89 = .ok (.iload_n 3, 1) := by decide +kernel
theorem dX6_readLevel_90 : decode cX6_readLevel 90 = .ok (.iconst 1, 1) := by decide +kernel
theorem dX6_readLevel_91 : decode cX6_readLevel 91 = .ok (.iadd, 1) := by decide +kernel
theorem dX6_readLevel_92 : decode cX6_readLevel 92 = .ok (.iload 4, 2) := by decide +kernel
theorem dX6_readLevel_94 : decode cX6_readLevel 94 = .ok (.invokevirtual 72, 3) := by decide +kernel
theorem dX6_readLevel_97 : decode cX6_readLevel 97 = .ok (.aload_n 0, 1) := by decide +kernel
theorem dX6_readLevel_98 : decode cX6_readLevel 98 = .ok (.iload 7, 2) := by decide +kernel
theorem dX6_readLevel_100 : decode cX6_readLevel 100 = .ok (.invokevirtual 88, 3) := by decide +kernel
theorem dX6_readLevel_103 : decode cX6_readLevel 103 = .ok (.iinc 6 1, 3) := by decide +kernel
theorem dX6_readLevel_106 : decode cX6_readLevel 106 = .ok (.goto (-65), 3) := by decide +kernel
theorem dX6_readLevel_109 : decode cX6_readLevel 109 = .ok (.return_, 1) := by decide +kernel
theorem dX6_readPart_0 : decode cX6_readPart 0 = .ok (.aload_n 1, 1) := by decide +kernel
theorem dX6_readPart_1 : decode cX6_readPart 1 = .ok (.iload_n 2, 1) := by decide +kernel
theorem dX6_readPart_2 : decode cX6_readPart 2 = .ok (.aload_n 0, 1) := by decide +kernel
theorem dX6_readPart_3 : decode cX6_readPart 3 = .ok (.getfield 62, 3) := by decide +kernel
theorem dX6_readPart_6 : decode cX6_readPart 6 = .ok (.invokestatic 80, 3) := by decide +kernel
theorem dX6_readPart_9 : decode cX6_readPart 9 = .ok (.istore 4, 2) := by decide +kernel
theorem dX6_readPart_11 : decode cX6_readPart 11 = .ok (.iload 4, 2) := by decide +kernel
theorem dX6_readPart_13 : decode cX6_readPart 13 = .ok (.ifCond .ge 7, 3) := by decide +kernel
theorem dX6_readPart_16 : decode cX6_readPart 16 = .ok (.iconst (-1), 1) := by decide +kernel
theorem dX6_readPart_17 : decode cX6_readPart 17 = .ok (.goto 13, 3) := by decide +kernel
theorem dX6_readPart_20 : decode cX6_readPart 20 = .ok (.aload_n 0, 1) := by decide +kernel
theorem dX6_readPart_21 : decode cX6_readPart 21 = .ok (.getfield 21, 3) := by decide +kernel
theorem dX6_readPart_24 : decode cX6_readPart 24 = .ok (.iload 4, 2) := by decide +kernel
theorem dX6_readPart_26 : decode cX6_readPart 26 = .ok (.i2c, 1) := by decide +kernel
theorem dX6_readPart_27 : decode cX6_readPart 27 = .ok (.invokevirtual 92, 3) := by decide +kernel
theorem dX6_readPart_30 : decode cX6_readPart 30 = .ok (.istore 5, 2) := by decide +kernel
theorem dX6_readPart_32 : decode cX6_readPart 32 = .ok (.iload 4, 2) := by decide +kernel
theorem dX6_readPart_34 : decode cX6_readPart 34 = .ok (.invokestatic 97, 3) := by decide +kernel
theorem dX6_readPart_37 : decode cX6_readPart 37 = .ok (.ifCond .eq 12, 3) := by decide +kernel
theorem dX6_readPart_40 : decode cX6_readPart 40 = .ok (.aload_n 0, 1) := by decide +kernel
theorem dX6_readPart_41 : decode cX6_readPart 41 = .ok (.aload_n 1, 1) := by decide +kernel
theorem dX6_readPart_42 : decode cX6_readPart 42 = .ok (.iload_n 2, 1) := by decide +kernel
theorem dX6_readPart_43 : decode cX6_readPart 43 = .ok (.invokevirtual 101, 3) := by decide +kernel
theorem dX6_readPart_46 : decode cX6_readPart 46 = .ok (.goto 113, 3) := by decide +kernel
theorem dX6_readPart_49 : decode cX6_readPart 49 = .ok (.iload 5, 2) := by decide +kernel
theorem dX6_readPart_51 : decode cX6_readPart 51 = .ok (.ifCond .lt 22, 3) := by decide +kernel
theorem dX6_readPart_54 : decode cX6_readPart 54 = .ok (.aload_n 0, 1) := by decide +kernel
theorem dX6_readPart_55 : decode cX6_readPart 55 = .ok (.dup, 1) := by decide +kernel
theorem dX6_readPart_56 : decode cX6_readPart 56 = .ok (.getfield 62, 3) := by decide +kernel
theorem dX6_readPart_59 : decode cX6_readPart 59 = .ok (.iconst 1, 1) := by decide +kernel
theorem dX6_readPart_60 : decode cX6_readPart 60 = .ok (.iadd, 1) := by decide +kernel
theorem dX6_readPart_61 : decode cX6_readPart 61 = .ok (.putfield 62, 3) := by decide +kernel
theorem dX6_readPart_64 : decode cX6_readPart 64 = .ok (.aload_n 0, 1) := by decide +kernel
theorem dX6_readPart_65 : decode cX6_readPart 65 = .ok (.iload 5, 2) := by decide +kernel
theorem dX6_readPart_67 : decode cX6_readPart 67 = .ok (.invokevirtual 88, 3) := by decide +kernel
theorem dX6_readPart_70 : decode cX6_readPart 70 = .ok (.goto 89, 3) := by decide +kernel
theorem dX6_readPart_73 : decode cX6_readPart 73 = .ok (.iload 4, 2) := by decide +kernel
theorem dX6_readPart_75 : decode cX6_readPart 75 = .ok (.bipush 33, 2) := by decide +kernel
theorem dX6_readPart_77 : decode cX6_readPart 77 = .ok (.if_icmp .ne 36, 3) := by decide +kernel
theorem dX6_readPart_80 : decode cX6_readPart 80 = .ok (.iload_n 3, 1) := by decide +kernel
theorem dX6_readPart_81 : decode cX6_readPart 81 = .ok (.iconst 5, 1) := by decide +kernel
theorem dX6_readPart_82 : decode cX6_readPart 82 = .ok (.if_icmp .ge 31, 3) := by decide +kernel
theorem dX6_readPart_85 : decode cX6_readPart 85 = .ok (.aload_n 0, 1) := by decide +kernel
theorem dX6_readPart_86 : decode cX6_readPart 86 = .ok (.dup, 1) := by decide +kernel
theorem dX6_readPart_87 : decode cX6_readPart 87 = .ok (.getfield 62, 3) := by decide +kernel
theorem dX6_readPart_90 : decode cX6_readPart 90 = .ok (.iconst 1, 1) := by decide +kernel
theorem dX6_readPart_91 : decode cX6_readPart 91 = .ok (.iadd, 1) := by decide +kernel
theorem dX6_readPart_92 : decode cX6_readPart 92 = .ok (.putfield 62, 3) := by decide +kernel
theorem dX6_readPart_95 : decode cX6_readPart 95 = .ok (.aload_n 0, 1) := by decide +kernel
theorem dX6_readPart_96 : decode cX6_readPart 96 = .ok (.aload_n 1, 1) := by decide +kernel
theorem dX6_readPart_97 : decode cX6_readPart 97 = .ok (.iload_n 2, 1) := by decide +kernel
theorem dX6_readPart_98 : decode cX6_readPart 98 = .ok (.iload_n 3, 1) := by decide +kernel
theorem dX6_readPart_99 : decode cX6_readPart 99 = .ok (.iconst 1, 1) := by decide +kernel
theorem dX6_readPart_100 : decode cX6_readPart 100 = .ok (.iadd, 1) := by decide +kernel
theorem dX6_readPart_101 : decode cX6_readPart 101 = .ok (.invokevirtual 76, 3) := by decide +kernel
theorem dX6_readPart_104 : decode cX6_readPart 104 = .ok (.aload_n 0, 1) := by decide +kernel
theorem dX6_readPart_105 : decode cX6_readPart 105 = .ok (.iload 4, 2) := by decide +kernel
theorem dX6_readPart_107 : decode cX6_readPart 107 = .ok (.invokevirtual 88, 3) := by decide +kernel
theorem dX6_readPart_110 : decode cX6_readPart 110 = .ok (.goto 49, 3) := by decide +kernel
theorem dX6_readPart_113 : decode cX6_readPart 113 = .ok (.iload 4, 2) := by decide +kernel
theorem dX6_readPart_115 : decode cX6_readPart 115 = .ok (.bipush 40, 2) := by decide +kernel
theorem dX6_readPart_117 : decode cX6_readPart 117 = .ok (.if_icmp .ne 37, 3) := by decide +kernel
theorem dX6_readPart_120 : decode cX6_readPart 120 = .ok (.iload_n 3, 1) := by decide +kernel
theorem dX6_readPart_121 : decode cX6_readPart 121 = .ok (.iconst 5, 1) := by decide +kernel
theorem dX6_readPart_122 : decode cX6_readPart 122 = .ok (.if_icmp .ge 32, 3) := by decide +kernel
theorem dX6_readPart_125 : decode cX6_readPart 125 = .ok (.aload_n 0, 1) := by decide +kernel
theorem dX6_readPart_126 : decode cX6_readPart 126 = .ok (.dup, 1) := by decide +kernel
theorem dX6_readPart_127 : decode cX6_readPart 127 = .ok (.getfield 62, 3) := by decide +kernel
theorem dX6_readPart_130 : decode cX6_readPart 130 = .ok (.iconst 1, 1) := by decide +kernel
theorem dX6_readPart_131 : decode cX6_readPart 131 = .ok (.iadd, 1) := by decide +kernel
theorem dX6_readPart_132 : decode cX6_readPart 132 = .ok (.putfield 62, 3) := by decide +kernel
theorem dX6_readPart_135 : decode cX6_readPart 135 = .ok (.aload_n 0, 1) := by decide +kernel
theorem dX6_readPart_136 : decode cX6_readPart 136 = .ok (.aload_n 1, 1) := by decide +kernel
theorem dX6_readPart_137 : decode cX6_readPart 137 = .ok (.iload_n 2, 1) := by decide +kernel
theorem dX6_readPart_138 : decode cX6_readPart 138 = .ok (.iconst 0, 1) := by decide +kernel
theorem dX6_readPart_139 : decode cX6_readPart 139 = .ok (.iload_n 3, 1) := by decide +kernel
theorem dX6_readPart_140 : decode cX6_readPart 140 = .ok (.iconst 1, 1) := by decide +kernel
theorem dX6_readPart_141 : decode cX6_readPart 141 = .ok (.iadd, 1) := by decide +kernel
theorem dX6_readPart_142 : decode cX6_readPart 142 = .ok (.invokevirtual 72, 3) := by decide +kernel
theorem dX6_readPart_145 : decode cX6_readPart 145 = .ok (.aload_n 0, 1) := by decide +kernel
theorem dX6_readPart_146 : decode cX6_readPart 146 = .ok (.aload_n 1, 1) := by decide +kernel
theorem dX6_readPart_147 : decode cX6_readPart 147 = .ok (.iload_n 2, 1) := by decide +kernel
theorem dX6_readPart_148 : decode cX6_readPart 148 = .ok (.invokevirtual 104, 3) := by decide +kernel
theorem dX6_readPart_151 : decode cX6_readPart 151 = .ok (.goto 8, 3) := by decide +kernel
theorem dX6_readPart_154 : decode cX6_readPart 154 = .ok (.aload_n 0, 1) := by decide +kernel
theorem dX6_readPart_155 : decode cX6_readPart 155 = .ok (.iconst 1, 1) := by decide +kernel
theorem dX6_readPart_156 : decode cX6_readPart 156 = .ok (.putfield 68, 3) := by decide +kernel
theorem dX6_readPart_159 : decode cX6_readPart 159 = .ok (.return_, 1) := by decide +kernel
theorem dX6_readClosing_0 : decode cX6_readClosing 0 = .ok (.aload_n 0, 1) := by decide +kernel
theorem dX6_readClosing_1 : decode cX6_readClosing 1 = .ok (.getfield 68, 3) := by decide +kernel
theorem dX6_readClosing_4 : decode cX6_readClosing 4 = .ok (.ifCond .ne 30, 3) := by decide +kernel
theorem dX6_readClosing_7 : decode cX6_readClosing 7 = .ok (.aload_n 1, 1) := by decide +kernel
theorem dX6_readClosing_8 : decode cX6_readClosing 8 = .ok (.iload_n 2, 1) := by decide +kernel
theorem dX6_readClosing_9 : decode cX6_readClosing 9 = .ok (.aload_n 0, 1) := by decide +kernel
theorem dX6_readClosing_10 : decode cX6_readClosing 10 = .ok (.getfield 62, 3) := by decide +kernel
theorem dX6_readClosing_13 : decode cX6_readClosing 13 = .ok (.invokestatic 80, 3) := by decide +kernel
theorem dX6_readClosing_16 : decode cX6_readClosing 16 = .ok (.bipush 41, 2) := by decide +kernel
theorem dX6_readClosing_18 : decode cX6_readClosing 18 = .ok (.if_icmp .ne 16, 3) := by decide +kernel
theorem dX6_readClosing_21 : decode cX6_readClosing 21 = .ok (.aload_n 0, 1) := by decide +kernel
theorem dX6_readClosing_22 : decode cX6_readClosing 22 = .ok (.dup, 1) := by decide +kernel
theorem dX6_readClosing_23 : decode cX6_readClosing 23 = .ok (.getfield 62, 3) := by decide +kernel
theorem dX6_readClosing_26 : decode cX6_readClosing 26 = .ok (.iconst 1, 1) := by decide +kernel
theorem dX6_readClosing_27 : decode cX6_readClosing 27 = .ok (.iadd, 1) := by decide +kernel
theorem dX6_readClosing_28 : decode cX6_readClosing 28 = .ok (.putfield 62, 3) := by decide +kernel
theorem dX6_readClosing_31 : decode cX6_readClosing 31 = .ok (.goto 8, 3) := by decide +kernel
theorem dX6_readClosing_34 : decode cX6_readClosing 34 = .ok (.aload_n 0, 1) := by decide +kernel
theorem dX6_readClosing_35 : decode cX6_readClosing 35 = .ok (.iconst 1, 1) := by decide +kernel
theorem dX6_readClosing_36 : decode cX6_readClosing 36 = .ok (.putfield 68, 3) := by decide +kernel
theorem dX6_readClosing_39 : decode cX6_readClosing 39 = .ok (.return_, 1) := by decide +kernel
theorem dX6_readNumber_0 : decode cX6_readNumber 0 = .ok (.iconst 0, 1) := by decide +kernel
theorem dX6_readNumber_1 : decode cX6_readNumber 1 = .ok (.istore_n 3, 1) := by decide +kernel
theorem dX6_readNumber_2 : decode cX6_readNumber 2 = .ok (.iconst 0, 1) := by decide +kernel
theorem dX6_readNumber_3 : decode cX6_readNumber 3 = .ok (.istore 4, 2) := by decide +kernel
theorem dX6_readNumber_5 : decode cX6_readNumber 5 = .ok (.iload 4, 2) := by decide +kernel
theorem dX6_readNumber_7 : decode cX6_readNumber 7 = .ok (.iconst 4, 1) := by decide +kernel
theorem dX6_readNumber_8 : decode cX6_readNumber 8 = .ok (.if_icmp .ge 52, 3) := by decide +kernel
theorem dX6_readNumber_11 : decode cX6_readNumber 11 = .ok (.aload_n 1, 1) := by decide +kernel
theorem dX6_readNumber_12 : decode cX6_readNumber 12 = .ok (.iload_n 2, 1) := by decide +kernel
theorem dX6_readNumber_13 : decode cX6_readNumber 13 = .ok (.aload_n 0, 1) := by decide +kernel
theorem dX6_readNumber_14 : decode cX6_readNumber 14 = .ok (.getfield 62, 3) := by decide +kernel
theorem dX6_readNumber_17 : decode cX6_readNumber 17 = .ok (.invokestatic 80, 3) := by decide +kernel
theorem dX6_readNumber_20 : decode cX6_readNumber 20 = .ok (.invokestatic 97, 3) := by decide +kernel
theorem dX6_readNumber_23 : decode cX6_readNumber 23 = .ok (.ifCond .eq 37, 3) := by decide +kernel
theorem dX6_readNumber_26 : decode cX6_readNumber 26 = .ok (.bipush 10, 2) := by decide +kernel
theorem dX6_readNumber_28 : decode cX6_readNumber 28 = .ok (.iload_n 3, 1) := by decide +kernel
theorem dX6_readNumber_29 : decode cX6_readNumber 29 = .ok (.imul, 1) := by decide +kernel
theorem dX6_readNumber_30 : decode cX6_readNumber 30 = .ok (.aload_n 1, 1) := by decide +kernel
theorem dX6_readNumber_31 : decode cX6_readNumber 31 = .ok (.iload_n 2, 1) := by decide +kernel
theorem dX6_readNumber_32 : decode cX6_readNumber 32 = .ok (.aload_n 0, 1) := by decide +kernel
theorem dX6_readNumber_33 : decode cX6_readNumber 33 = .ok (.getfield 62, 3) := by decide +kernel
theorem dX6_readNumber_36 : decode cX6_readNumber 36 = .ok (.invokestatic 80, 3) := by decide +kernel
theorem dX6_readNumber_39 : decode cX6_readNumber 39 = .ok (.iadd, 1) := by decide +kernel
theorem dX6_readNumber_40 : decode cX6_readNumber 40 = .ok (.bipush 48, 2) := by decide +kernel
theorem dX6_readNumber_42 : decode cX6_readNumber 42 = .ok (.isub, 1) := by decide +kernel
theorem dX6_readNumber_43 : decode cX6_readNumber 43 = .ok (.istore_n 3, 1) := by decide +kernel
theorem dX6_readNumber_44 : decode cX6_readNumber 44 = .ok (.aload_n 0, 1) := by decide +kernel
theorem dX6_readNumber_45 : decode cX6_readNumber 45 = .ok (.dup, 1) := by decide +kernel
theorem dX6_readNumber_46 : decode cX6_readNumber 46 = .ok (.getfield 62, 3) := by decide +kernel
theorem dX6_readNumber_49 : decode cX6_readNumber 49 = .ok (.iconst 1, 1) := by decide +kernel
theorem dX6_readNumber_50 : decode cX6_readNumber 50 = .ok (.iadd, 1) := by decide +kernel
theorem dX6_readNumber_51 : decode cX6_readNumber 51 = .ok (.putfield 62, 3) := by decide +kernel
theorem dX6_readNumber_54 : decode cX6_readNumber 54 = .ok (.iinc 4 1, 3) := by decide +kernel
theorem dX6_readNumber_57 : decode cX6_readNumber 57 = .ok (.goto (-52), 3) := by decide +kernel
theorem dX6_readNumber_60 : decode cX6_readNumber 60 = .ok (.aload_n 0, 1) := by decide +kernel
theorem dX6_readNumber_61 : decode cX6_readNumber 61 = .ok (.sipush 256, 3) := by decide +kernel
theorem dX6_readNumber_64 : decode cX6_readNumber 64 = .ok (.iload_n 3, 1) := by decide +kernel
theorem dX6_readNumber_65 : decode cX6_readNumber 65 = .ok (.iadd, 1) := by decide +kernel
theorem dX6_readNumber_66 : decode cX6_readNumber 66 = .ok (.invokevirtual 88, 3) := by decide +kernel
theorem dX6_readNumber_69 : decode cX6_readNumber 69 = .ok (.return_, 1) := by decide +kernel
theorem dX6_write_0 : decode cX6_write 0 = .ok (.aload_n 0, 1) := by decide +kernel
theorem dX6_write_1 : decode cX6_write 1 = .ok (.getfield 65, 3) := by decide +kernel
theorem dX6_write_4 : decode cX6_write 4 = .ok (.bipush 50, 2) := by decide +kernel
theorem dX6_write_6 : decode cX6_write 6 = .ok (.if_icmp .ge 23, 3) := by decide +kernel
theorem dX6_write_9 : decode cX6_write 9 = .ok (.aload_n 0, 1) := by decide +kernel
theorem dX6_write_10 : decode cX6_write 10 = .ok (.getfield 18, 3) := by decide +kernel
theorem dX6_write_13 : decode cX6_write 13 = .ok (.aload_n 0, 1) := by decide +kernel
theorem dX6_write_14 : decode cX6_write 14 = .ok (.getfield 65, 3) := by decide +kernel
theorem dX6_write_17 : decode cX6_write 17 = .ok (.iload_n 1, 1) := by decide +kernel
theorem dX6_write_18 : decode cX6_write 18 = .ok (.iastore, 1) := by decide +kernel
theorem dX6_write_19 : decode cX6_write 19 = .ok (.aload_n 0, 1) := by decide +kernel
theorem dX6_write_20 : decode cX6_write 20 = .ok (.dup, 1) := by decide +kernel
theorem dX6_write_21 : decode cX6_write 21 = .ok (.getfield 65, 3) := by decide +kernel
theorem dX6_write_24 : decode cX6_write 24 = .ok (.iconst 1, 1) := by decide +kernel
theorem dX6_write_25 : decode cX6_write 25 = .ok (.iadd, 1) := by decide +kernel
theorem dX6_write_26 : decode cX6_write 26 = .ok (.putfield 65, 3) := by decide +kernel
theorem dX6_write_29 : decode cX6_write 29 = .ok (.return_, 1) := by decide +kernel
theorem dX6_signAt_0 : decode cX6_signAt 0 = .ok (.iload_n 2, 1) := by decide +kernel
theorem dX6_signAt_1 : decode cX6_signAt 1 = .ok (.ifCond .lt 14, 3) := by decide +kernel
theorem dX6_signAt_4 : decode cX6_signAt 4 = .ok (.iload_n 2, 1) := by decide +kernel
theorem dX6_signAt_5 : decode cX6_signAt 5 = .ok (.iload_n 1, 1) := by decide +kernel
theorem dX6_signAt_6 : decode cX6_signAt 6 = .ok (.if_icmp .ge 9, 3) := by decide +kernel
theorem dX6_signAt_9 : decode cX6_signAt 9 = .ok (.aload_n 0, 1) := by decide +kernel
theorem dX6_signAt_10 : decode cX6_signAt 10 = .ok (.iload_n 2, 1) := by decide +kernel
theorem dX6_signAt_11 : decode cX6_signAt 11 = .ok (.iaload, 1) := by decide +kernel
theorem dX6_signAt_12 : decode cX6_signAt 12 = .ok (.goto 4, 3) := by decide +kernel
theorem dX6_signAt_15 : decode cX6_signAt 15 = .ok (.iconst (-1), 1) := by decide +kernel
theorem dX6_signAt_16 : decode cX6_signAt 16 = .ok (.ireturn, 1) := by decide +kernel
theorem dX6_isDigit_0 : decode cX6_isDigit 0 = .ok (.iload_n 0, 1) := by decide +kernel
theorem dX6_isDigit_1 : decode cX6_isDigit 1 = .ok (.bipush 48, 2) := by decide +kernel
theorem dX6_isDigit_3 : decode cX6_isDigit 3 = .ok (.if_icmp .lt 13, 3) := by decide +kernel
theorem dX6_isDigit_6 : decode cX6_isDigit 6 = .ok (.iload_n 0, 1) := by decide +kernel
theorem dX6_isDigit_7 : decode cX6_isDigit 7 = .ok (.bipush 57, 2) := by decide +kernel
theorem dX6_isDigit_9 : decode cX6_isDigit 9 = .ok (.if_icmp .gt 7, 3) := by decide +kernel
theorem dX6_isDigit_12 : decode cX6_isDigit 12 = .ok (.iconst 1, 1) := by decide +kernel
theorem dX6_isDigit_13 : decode cX6_isDigit 13 = .ok (.goto 4, 3) := by decide +kernel
theorem dX6_isDigit_16 : decode cX6_isDigit 16 = .ok (.iconst 0, 1) := by decide +kernel
theorem dX6_isDigit_17 : decode cX6_isDigit 17 = .ok (.ireturn, 1) := by decide +kernel
theorem dX6_levelOf_0 : decode cX6_levelOf 0 = .ok (.iload_n 0, 1) := by decide +kernel
theorem dX6_levelOf_1 : decode cX6_levelOf 1 = .ok (.lookupswitch 101 #[(37, 99), (38, 93), (42, 99), (43, 97), (45, 97), (47, 99), (60, 95), (61, 95), (62, 95), (124, 91)], 91) := by decide +kernel
theorem dX6_levelOf_92 : decode cX6_levelOf 92 = .ok (.iconst 0, 1) := by decide +kernel
theorem dX6_levelOf_93 : decode cX6_levelOf 93 = .ok (.ireturn, 1) := by decide +kernel
theorem dX6_levelOf_94 : decode cX6_levelOf 94 = .ok (.iconst 1, 1) := by decide +kernel
theorem dX6_levelOf_95 : decode cX6_levelOf 95 = .ok (.ireturn, 1) := by decide +kernel
theorem dX6_levelOf_96 : decode cX6_levelOf 96 = .ok (.iconst 2, 1) := by decide +kernel
theorem dX6_levelOf_97 : decode cX6_levelOf 97 = .ok (.ireturn, 1) := by decide +kernel
theorem dX6_levelOf_98 : decode cX6_levelOf 98 = .ok (.iconst 3, 1) := by decide +kernel
theorem dX6_levelOf_99 : decode cX6_levelOf 99 = .ok (.ireturn, 1) := by decide +kernel
theorem dX6_levelOf_100 : decode cX6_levelOf 100 = .ok (.iconst 4, 1) := by decide +kernel
theorem dX6_levelOf_101 : decode cX6_levelOf 101 = .ok (.ireturn, 1) := by decide +kernel
theorem dX6_levelOf_102 : decode cX6_levelOf 102 = .ok (.iconst (-1), 1) := by decide +kernel
theorem dX6_levelOf_103 : decode cX6_levelOf 103 = .ok (.ireturn, 1) := by decide +kernel
theorem dX7_init_0 : decode cX7_init 0 = .ok (.aload_n 0, 1) := by decide +kernel
theorem dX7_init_1 : decode cX7_init 1 = .ok (.invokespecial 1, 3) := by decide +kernel
theorem dX7_init_4 : decode cX7_init 4 = .ok (.return_, 1) := by decide +kernel
theorem dX7_driftsBy_0 : decode cX7_driftsBy 0 = .ok (.iload_n 1, 1) := by decide +kernel
theorem dX7_driftsBy_1 : decode cX7_driftsBy 1 = .ok (.iconst 2, 1) := by decide +kernel
theorem dX7_driftsBy_2 : decode cX7_driftsBy 2 = .ok (.idiv, 1) := by decide +kernel
theorem dX7_driftsBy_3 : decode cX7_driftsBy 3 = .ok (.ireturn, 1) := by decide +kernel
theorem dX7_shinesBy_0 : decode cX7_shinesBy 0 = .ok (.iload_n 1, 1) := by decide +kernel
theorem dX7_shinesBy_1 : decode cX7_shinesBy 1 = .ok (.iconst 2, 1) := by decide +kernel
theorem dX7_shinesBy_2 : decode cX7_shinesBy 2 = .ok (.imul, 1) := by decide +kernel
theorem dX7_shinesBy_3 : decode cX7_shinesBy 3 = .ok (.ireturn, 1) := by decide +kernel
theorem dX7_needsBy_0 : decode cX7_needsBy 0 = .ok (.bipush 8, 2) := by decide +kernel
theorem dX7_needsBy_2 : decode cX7_needsBy 2 = .ok (.ireturn, 1) := by decide +kernel
theorem dX7_lies_0 : decode cX7_lies 0 = .ok (.aload_n 1, 1) := by decide +kernel
theorem dX7_lies_1 : decode cX7_lies 1 = .ok (.bipush 20, 2) := by decide +kernel
theorem dX7_lies_3 : decode cX7_lies 3 = .ok (.invokevirtual 7, 3) := by decide +kernel
theorem dX7_lies_6 : decode cX7_lies 6 = .ok (.aload_n 0, 1) := by decide +kernel
theorem dX7_lies_7 : decode cX7_lies 7 = .ok (.aload_n 1, 1) := by decide +kernel
theorem dX7_lies_8 : decode cX7_lies 8 = .ok (.iload_n 2, 1) := by decide +kernel
theorem dX7_lies_9 : decode cX7_lies 9 = .ok (.invokespecial 13, 3) := by decide +kernel
theorem dX7_lies_12 : decode cX7_lies 12 = .ok (.iconst 3, 1) := by decide +kernel
theorem dX7_lies_13 : decode cX7_lies 13 = .ok (.imul, 1) := by decide +kernel
theorem dX7_lies_14 : decode cX7_lies 14 = .ok (.ireturn, 1) := by decide +kernel
theorem dX8_init_0 : decode cX8_init 0 = .ok (.aload_n 0, 1) := by decide +kernel
theorem dX8_init_1 : decode cX8_init 1 = .ok (.invokespecial 3, 3) := by decide +kernel
theorem dX8_init_4 : decode cX8_init 4 = .ok (.aload_n 0, 1) := by decide +kernel
theorem dX8_init_5 : decode cX8_init 5 = .ok (.bipush 50, 2) := by decide +kernel
theorem dX8_init_7 : decode cX8_init 7 = .ok (.newarray .int, 2) := by decide +kernel
theorem dX8_init_9 : decode cX8_init 9 = .ok (.putfield 9, 3) := by decide +kernel
theorem dX8_init_12 : decode cX8_init 12 = .ok (.aload_n 0, 1) := by decide +kernel
theorem dX8_init_13 : decode cX8_init 13 = .ok (.bipush 20, 2) := by decide +kernel
theorem dX8_init_15 : decode cX8_init 15 = .ok (.newarray .int, 2) := by decide +kernel
theorem dX8_init_17 : decode cX8_init 17 = .ok (.putfield 15, 3) := by decide +kernel
theorem dX8_init_20 : decode cX8_init 20 = .ok (.aload_n 0, 1) := by decide +kernel
theorem dX8_init_21 : decode cX8_init 21 = .ok (.new 18, 3) := by decide +kernel
theorem dX8_init_24 : decode cX8_init 24 = .ok (.dup, 1) := by decide +kernel
theorem dX8_init_25 : decode cX8_init 25 = .ok (.ldc 20, 2) := by decide +kernel
theorem dX8_init_27 : decode cX8_init 27 = .ok (.bipush 9, 2) := by decide +kernel
theorem dX8_init_29 : decode cX8_init 29 = .ok (.invokespecial 22, 3) := by decide +kernel
theorem dX8_init_32 : decode cX8_init 32 = .ok (.putfield 25, 3) := by decide +kernel
theorem dX8_init_35 : decode cX8_init 35 = .ok (.aload_n 0, 1) := by decide +kernel
theorem dX8_init_36 : decode cX8_init 36 = .ok (.new 18, 3) := by decide +kernel
theorem dX8_init_39 : decode cX8_init 39 = .ok (.dup, 1) := by decide +kernel
theorem dX8_init_40 : decode cX8_init 40 = .ok (.ldc 29, 2) := by decide +kernel
theorem dX8_init_42 : decode cX8_init 42 = .ok (.bipush 99, 2) := by decide +kernel
theorem dX8_init_44 : decode cX8_init 44 = .ok (.invokespecial 22, 3) := by decide +kernel
theorem dX8_init_47 : decode cX8_init 47 = .ok (.putfield 31, 3) := by decide +kernel
theorem dX8_init_50 : decode cX8_init 50 = .ok (.aload_n 0, 1) := by decide +kernel
theorem dX8_init_51 : decode cX8_init 51 = .ok (.iconst 1, 1) := by decide +kernel
theorem dX8_init_52 : decode cX8_init 52 = .ok (.putfield 34, 3) := by decide +kernel
theorem dX8_init_55 : decode cX8_init 55 = .ok (.return_, 1) := by decide +kernel
theorem dX8_copy_0 : decode cX8_copy 0 = .ok (.aload_n 1, 1) := by decide +kernel
theorem dX8_copy_1 : decode cX8_copy 1 = .ok (.getfield 9, 3) := by decide +kernel
theorem dX8_copy_4 : decode cX8_copy 4 = .ok (.iconst 0, 1) := by decide +kernel
theorem dX8_copy_5 : decode cX8_copy 5 = .ok (.aload_n 0, 1) := by decide +kernel
theorem dX8_copy_6 : decode cX8_copy 6 = .ok (.getfield 9, 3) := by decide +kernel
theorem dX8_copy_9 : decode cX8_copy 9 = .ok (.iconst 0, 1) := by decide +kernel
theorem dX8_copy_10 : decode cX8_copy 10 = .ok (.bipush 50, 2) := by decide +kernel
theorem dX8_copy_12 : decode cX8_copy 12 = .ok (.invokestatic 38, 3) := by decide +kernel
theorem dX8_copy_15 : decode cX8_copy 15 = .ok (.aload_n 1, 1) := by decide +kernel
theorem dX8_copy_16 : decode cX8_copy 16 = .ok (.getfield 15, 3) := by decide +kernel
theorem dX8_copy_19 : decode cX8_copy 19 = .ok (.iconst 0, 1) := by decide +kernel
theorem dX8_copy_20 : decode cX8_copy 20 = .ok (.aload_n 0, 1) := by decide +kernel
theorem dX8_copy_21 : decode cX8_copy 21 = .ok (.getfield 15, 3) := by decide +kernel
theorem dX8_copy_24 : decode cX8_copy 24 = .ok (.iconst 0, 1) := by decide +kernel
theorem dX8_copy_25 : decode cX8_copy 25 = .ok (.bipush 20, 2) := by decide +kernel
theorem dX8_copy_27 : decode cX8_copy 27 = .ok (.invokestatic 38, 3) := by decide +kernel
theorem dX8_copy_30 : decode cX8_copy 30 = .ok (.aload_n 0, 1) := by decide +kernel
theorem dX8_copy_31 : decode cX8_copy 31 = .ok (.getfield 25, 3) := by decide +kernel
theorem dX8_copy_34 : decode cX8_copy 34 = .ok (.aload_n 1, 1) := by decide +kernel
theorem dX8_copy_35 : decode cX8_copy 35 = .ok (.getfield 25, 3) := by decide +kernel
theorem dX8_copy_38 : decode cX8_copy 38 = .ok (.invokevirtual 44, 3) := by decide +kernel
theorem dX8_copy_41 : decode cX8_copy 41 = .ok (.aload_n 0, 1) := by decide +kernel
theorem dX8_copy_42 : decode cX8_copy 42 = .ok (.getfield 31, 3) := by decide +kernel
theorem dX8_copy_45 : decode cX8_copy 45 = .ok (.aload_n 1, 1) := by decide +kernel
theorem dX8_copy_46 : decode cX8_copy 46 = .ok (.getfield 31, 3) := by decide +kernel
theorem dX8_copy_49 : decode cX8_copy 49 = .ok (.invokevirtual 44, 3) := by decide +kernel
theorem dX8_copy_52 : decode cX8_copy 52 = .ok (.aload_n 0, 1) := by decide +kernel
theorem dX8_copy_53 : decode cX8_copy 53 = .ok (.aload_n 1, 1) := by decide +kernel
theorem dX8_copy_54 : decode cX8_copy 54 = .ok (.getfield 48, 3) := by decide +kernel
theorem dX8_copy_57 : decode cX8_copy 57 = .ok (.putfield 48, 3) := by decide +kernel
theorem dX8_copy_60 : decode cX8_copy 60 = .ok (.aload_n 0, 1) := by decide +kernel
theorem dX8_copy_61 : decode cX8_copy 61 = .ok (.aload_n 1, 1) := by decide +kernel
theorem dX8_copy_62 : decode cX8_copy 62 = .ok (.getfield 51, 3) := by decide +kernel
theorem dX8_copy_65 : decode cX8_copy 65 = .ok (.putfield 51, 3) := by decide +kernel
theorem dX8_copy_68 : decode cX8_copy 68 = .ok (.aload_n 0, 1) := by decide +kernel
theorem dX8_copy_69 : decode cX8_copy 69 = .ok (.aload_n 1, 1) := by decide +kernel
theorem dX8_copy_70 : decode cX8_copy 70 = .ok (.getfield 34, 3) := by decide +kernel
theorem dX8_copy_73 : decode cX8_copy 73 = .ok (.putfield 34, 3) := by decide +kernel
theorem dX8_copy_76 : decode cX8_copy 76 = .ok (.return_, 1) := by decide +kernel
theorem dX8_take_0 : decode cX8_take 0 = .ok (.aload_n 0, 1) := by decide +kernel
theorem dX8_take_1 : decode cX8_take 1 = .ok (.getfield 48, 3) := by decide +kernel
theorem dX8_take_4 : decode cX8_take 4 = .ok (.ifCond .lt 32, 3) := by decide +kernel
theorem dX8_take_7 : decode cX8_take 7 = .ok (.aload_n 0, 1) := by decide +kernel
theorem dX8_take_8 : decode cX8_take 8 = .ok (.getfield 48, 3) := by decide +kernel
theorem dX8_take_11 : decode cX8_take 11 = .ok (.bipush 50, 2) := by decide +kernel
theorem dX8_take_13 : decode cX8_take 13 = .ok (.if_icmp .ge 23, 3) := by decide +kernel
theorem dX8_take_16 : decode cX8_take 16 = .ok (.aload_n 0, 1) := by decide +kernel
theorem dX8_take_17 : decode cX8_take 17 = .ok (.getfield 9, 3) := by decide +kernel
theorem dX8_take_20 : decode cX8_take 20 = .ok (.aload_n 0, 1) := by decide +kernel
theorem dX8_take_21 : decode cX8_take 21 = .ok (.getfield 48, 3) := by decide +kernel
theorem dX8_take_24 : decode cX8_take 24 = .ok (.iload_n 1, 1) := by decide +kernel
theorem dX8_take_25 : decode cX8_take 25 = .ok (.iastore, 1) := by decide +kernel
theorem dX8_take_26 : decode cX8_take 26 = .ok (.aload_n 0, 1) := by decide +kernel
theorem dX8_take_27 : decode cX8_take 27 = .ok (.dup, 1) := by decide +kernel
theorem dX8_take_28 : decode cX8_take 28 = .ok (.getfield 48, 3) := by decide +kernel
theorem dX8_take_31 : decode cX8_take 31 = .ok (.iconst 1, 1) := by decide +kernel
theorem dX8_take_32 : decode cX8_take 32 = .ok (.iadd, 1) := by decide +kernel
theorem dX8_take_33 : decode cX8_take 33 = .ok (.putfield 48, 3) := by decide +kernel
theorem dX8_take_36 : decode cX8_take 36 = .ok (.return_, 1) := by decide +kernel
theorem dX8_keepWaiting_0 : decode cX8_keepWaiting 0 = .ok (.aload_n 0, 1) := by decide +kernel
theorem dX8_keepWaiting_1 : decode cX8_keepWaiting 1 = .ok (.getfield 51, 3) := by decide +kernel
theorem dX8_keepWaiting_4 : decode cX8_keepWaiting 4 = .ok (.ifCond .lt 32, 3) := by decide +kernel
theorem dX8_keepWaiting_7 : decode cX8_keepWaiting 7 = .ok (.aload_n 0, 1) := by decide +kernel
theorem dX8_keepWaiting_8 : decode cX8_keepWaiting 8 = .ok (.getfield 51, 3) := by decide +kernel
theorem dX8_keepWaiting_11 : decode cX8_keepWaiting 11 = .ok (.bipush 20, 2) := by decide +kernel
theorem dX8_keepWaiting_13 : decode cX8_keepWaiting 13 = .ok (.if_icmp .ge 23, 3) := by decide +kernel
theorem dX8_keepWaiting_16 : decode cX8_keepWaiting 16 = .ok (.aload_n 0, 1) := by decide +kernel
theorem dX8_keepWaiting_17 : decode cX8_keepWaiting 17 = .ok (.getfield 15, 3) := by decide +kernel
theorem dX8_keepWaiting_20 : decode cX8_keepWaiting 20 = .ok (.aload_n 0, 1) := by decide +kernel
theorem dX8_keepWaiting_21 : decode cX8_keepWaiting 21 = .ok (.getfield 51, 3) := by decide +kernel
theorem dX8_keepWaiting_24 : decode cX8_keepWaiting 24 = .ok (.iload_n 1, 1) := by decide +kernel
theorem dX8_keepWaiting_25 : decode cX8_keepWaiting 25 = .ok (.iastore, 1) := by decide +kernel
theorem dX8_keepWaiting_26 : decode cX8_keepWaiting 26 = .ok (.aload_n 0, 1) := by decide +kernel
theorem dX8_keepWaiting_27 : decode cX8_keepWaiting 27 = .ok (.dup, 1) := by decide +kernel
theorem dX8_keepWaiting_28 : decode cX8_keepWaiting 28 = .ok (.getfield 51, 3) := by decide +kernel
theorem dX8_keepWaiting_31 : decode cX8_keepWaiting 31 = .ok (.iconst 1, 1) := by decide +kernel
theorem dX8_keepWaiting_32 : decode cX8_keepWaiting 32 = .ok (.iadd, 1) := by decide +kernel
theorem dX8_keepWaiting_33 : decode cX8_keepWaiting 33 = .ok (.putfield 51, 3) := by decide +kernel
theorem dX8_keepWaiting_36 : decode cX8_keepWaiting 36 = .ok (.return_, 1) := by decide +kernel
theorem dX8_draw_0 : decode cX8_draw 0 = .ok (.aload_n 0, 1) := by decide +kernel
theorem dX8_draw_1 : decode cX8_draw 1 = .ok (.aload_n 0, 1) := by decide +kernel
theorem dX8_draw_2 : decode cX8_draw 2 = .ok (.getfield 34, 3) := by decide +kernel
theorem dX8_draw_5 : decode cX8_draw 5 = .ok (.ldc 54, 2) := by decide +kernel
theorem dX8_draw_7 : decode cX8_draw 7 = .ok (.imul, 1) := by decide +kernel
theorem dX8_draw_8 : decode cX8_draw 8 = .ok (.sipush 12345, 3) := by decide +kernel
theorem dX8_draw_11 : decode cX8_draw 11 = .ok (.iadd, 1) := by decide +kernel
theorem dX8_draw_12 : decode cX8_draw 12 = .ok (.putfield 34, 3) := by decide +kernel
theorem dX8_draw_15 : decode cX8_draw 15 = .ok (.aload_n 0, 1) := by decide +kernel
theorem dX8_draw_16 : decode cX8_draw 16 = .ok (.getfield 34, 3) := by decide +kernel
theorem dX8_draw_19 : decode cX8_draw 19 = .ok (.bipush 8, 2) := by decide +kernel
theorem dX8_draw_21 : decode cX8_draw 21 = .ok (.iushr, 1) := by decide +kernel
theorem dX8_draw_22 : decode cX8_draw 22 = .ok (.ireturn, 1) := by decide +kernel
theorem dX9_init_0 : decode cX9_init 0 = .ok (.aload_n 0, 1) := by decide +kernel
theorem dX9_init_1 : decode cX9_init 1 = .ok (.invokespecial 3, 3) := by decide +kernel
theorem dX9_init_4 : decode cX9_init 4 = .ok (.aload_n 0, 1) := by decide +kernel
theorem dX9_init_5 : decode cX9_init 5 = .ok (.bipush 40, 2) := by decide +kernel
theorem dX9_init_7 : decode cX9_init 7 = .ok (.newarray .int, 2) := by decide +kernel
theorem dX9_init_9 : decode cX9_init 9 = .ok (.putfield 9, 3) := by decide +kernel
theorem dX9_init_12 : decode cX9_init 12 = .ok (.return_, 1) := by decide +kernel
theorem dX9_open_0 : decode cX9_open 0 = .ok (.aload_n 0, 1) := by decide +kernel
theorem dX9_open_1 : decode cX9_open 1 = .ok (.iload_n 1, 1) := by decide +kernel
theorem dX9_open_2 : decode cX9_open 2 = .ok (.putfield 15, 3) := by decide +kernel
theorem dX9_open_5 : decode cX9_open 5 = .ok (.aload_n 0, 1) := by decide +kernel
theorem dX9_open_6 : decode cX9_open 6 = .ok (.iload_n 2, 1) := by decide +kernel
theorem dX9_open_7 : decode cX9_open 7 = .ok (.putfield 19, 3) := by decide +kernel
theorem dX9_open_10 : decode cX9_open 10 = .ok (.aload_n 0, 1) := by decide +kernel
theorem dX9_open_11 : decode cX9_open 11 = .ok (.iconst 0, 1) := by decide +kernel
theorem dX9_open_12 : decode cX9_open 12 = .ok (.putfield 22, 3) := by decide +kernel
theorem dX9_open_15 : decode cX9_open 15 = .ok (.return_, 1) := by decide +kernel
theorem dX9_begin_0 : decode cX9_begin 0 = .ok (.aload_n 0, 1) := by decide +kernel
theorem dX9_begin_1 : decode cX9_begin 1 = .ok (.getfield 22, 3) := by decide +kernel
theorem dX9_begin_4 : decode cX9_begin 4 = .ok (.ifCond .lt 32, 3) := by decide +kernel
theorem dX9_begin_7 : decode cX9_begin 7 = .ok (.aload_n 0, 1) := by decide +kernel
theorem dX9_begin_8 : decode cX9_begin 8 = .ok (.getfield 22, 3) := by decide +kernel
theorem dX9_begin_11 : decode cX9_begin 11 = .ok (.bipush 40, 2) := by decide +kernel
theorem dX9_begin_13 : decode cX9_begin 13 = .ok (.if_icmp .ge 23, 3) := by decide +kernel
theorem dX9_begin_16 : decode cX9_begin 16 = .ok (.aload_n 0, 1) := by decide +kernel
theorem dX9_begin_17 : decode cX9_begin 17 = .ok (.getfield 9, 3) := by decide +kernel
theorem dX9_begin_20 : decode cX9_begin 20 = .ok (.aload_n 0, 1) := by decide +kernel
theorem dX9_begin_21 : decode cX9_begin 21 = .ok (.getfield 22, 3) := by decide +kernel
theorem dX9_begin_24 : decode cX9_begin 24 = .ok (.iload_n 1, 1) := by decide +kernel
theorem dX9_begin_25 : decode cX9_begin 25 = .ok (.iastore, 1) := by decide +kernel
theorem dX9_begin_26 : decode cX9_begin 26 = .ok (.aload_n 0, 1) := by decide +kernel
theorem dX9_begin_27 : decode cX9_begin 27 = .ok (.dup, 1) := by decide +kernel
theorem dX9_begin_28 : decode cX9_begin 28 = .ok (.getfield 22, 3) := by decide +kernel
theorem dX9_begin_31 : decode cX9_begin 31 = .ok (.iconst 1, 1) := by decide +kernel
theorem dX9_begin_32 : decode cX9_begin 32 = .ok (.iadd, 1) := by decide +kernel
theorem dX9_begin_33 : decode cX9_begin 33 = .ok (.putfield 22, 3) := by decide +kernel
theorem dX9_begin_36 : decode cX9_begin 36 = .ok (.return_, 1) := by decide +kernel
theorem dJ11_isValidCodePoint_9a6ad_0 : decode cJ11_isValidCodePoint_9a6ad 0 = .ok (.iload_n 0, 1) := by decide +kernel
theorem dJ11_isValidCodePoint_9a6ad_1 : decode cJ11_isValidCodePoint_9a6ad 1 = .ok (.bipush 16, 2) := by decide +kernel
theorem dJ11_isValidCodePoint_9a6ad_3 : decode cJ11_isValidCodePoint_9a6ad 3 = .ok (.iushr, 1) := by decide +kernel
theorem dJ11_isValidCodePoint_9a6ad_4 : decode cJ11_isValidCodePoint_9a6ad 4 = .ok (.istore_n 1, 1) := by decide +kernel
theorem dJ11_isValidCodePoint_9a6ad_5 : decode cJ11_isValidCodePoint_9a6ad 5 = .ok (.iload_n 1, 1) := by decide +kernel
theorem dJ11_isValidCodePoint_9a6ad_6 : decode cJ11_isValidCodePoint_9a6ad 6 = .ok (.bipush 17, 2) := by decide +kernel
theorem dJ11_isValidCodePoint_9a6ad_8 : decode cJ11_isValidCodePoint_9a6ad 8 = .ok (.if_icmp .ge 7, 3) := by decide +kernel
theorem dJ11_isValidCodePoint_9a6ad_11 : decode cJ11_isValidCodePoint_9a6ad 11 = .ok (.iconst 1, 1) := by decide +kernel
theorem dJ11_isValidCodePoint_9a6ad_12 : decode cJ11_isValidCodePoint_9a6ad 12 = .ok (.goto 4, 3) := by decide +kernel
theorem dJ11_isValidCodePoint_9a6ad_15 : decode cJ11_isValidCodePoint_9a6ad 15 = .ok (.iconst 0, 1) := by decide +kernel
theorem dJ11_isValidCodePoint_9a6ad_16 : decode cJ11_isValidCodePoint_9a6ad 16 = .ok (.ireturn, 1) := by decide +kernel
theorem dJ11_highSurrogate_5068e_0 : decode cJ11_highSurrogate_5068e 0 = .ok (.iload_n 0, 1) := by decide +kernel
theorem dJ11_highSurrogate_5068e_1 : decode cJ11_highSurrogate_5068e 1 = .ok (.bipush 10, 2) := by decide +kernel
theorem dJ11_highSurrogate_5068e_3 : decode cJ11_highSurrogate_5068e 3 = .ok (.iushr, 1) := by decide +kernel
theorem dJ11_highSurrogate_5068e_4 : decode cJ11_highSurrogate_5068e 4 = .ok (.ldc 110, 2) := by decide +kernel
theorem dJ11_highSurrogate_5068e_6 : decode cJ11_highSurrogate_5068e 6 = .ok (.iadd, 1) := by decide +kernel
theorem dJ11_highSurrogate_5068e_7 : decode cJ11_highSurrogate_5068e 7 = .ok (.i2c, 1) := by decide +kernel
theorem dJ11_highSurrogate_5068e_8 : decode cJ11_highSurrogate_5068e 8 = .ok (.ireturn, 1) := by decide +kernel
theorem dJ11_lowSurrogate_5068e_0 : decode cJ11_lowSurrogate_5068e 0 = .ok (.iload_n 0, 1) := by decide +kernel
theorem dJ11_lowSurrogate_5068e_1 : decode cJ11_lowSurrogate_5068e 1 = .ok (.sipush 1023, 3) := by decide +kernel
theorem dJ11_lowSurrogate_5068e_4 : decode cJ11_lowSurrogate_5068e 4 = .ok (.iand, 1) := by decide +kernel
theorem dJ11_lowSurrogate_5068e_5 : decode cJ11_lowSurrogate_5068e 5 = .ok (.ldc 76, 2) := by decide +kernel
theorem dJ11_lowSurrogate_5068e_7 : decode cJ11_lowSurrogate_5068e 7 = .ok (.iadd, 1) := by decide +kernel
theorem dJ11_lowSurrogate_5068e_8 : decode cJ11_lowSurrogate_5068e 8 = .ok (.i2c, 1) := by decide +kernel
theorem dJ11_lowSurrogate_5068e_9 : decode cJ11_lowSurrogate_5068e 9 = .ok (.ireturn, 1) := by decide +kernel
theorem dJ6_bitCount_0f7a4_0 : decode cJ6_bitCount_0f7a4 0 = .ok (.iload_n 0, 1) := by decide +kernel
theorem dJ6_bitCount_0f7a4_1 : decode cJ6_bitCount_0f7a4 1 = .ok (.iload_n 0, 1) := by decide +kernel
theorem dJ6_bitCount_0f7a4_2 : decode cJ6_bitCount_0f7a4 2 = .ok (.iconst 1, 1) := by decide +kernel
theorem dJ6_bitCount_0f7a4_3 : decode cJ6_bitCount_0f7a4 3 = .ok (.iushr, 1) := by decide +kernel
theorem dJ6_bitCount_0f7a4_4 : decode cJ6_bitCount_0f7a4 4 = .ok (.ldc_w 265, 3) := by decide +kernel
theorem dJ6_bitCount_0f7a4_7 : decode cJ6_bitCount_0f7a4 7 = .ok (.iand, 1) := by decide +kernel
theorem dJ6_bitCount_0f7a4_8 : decode cJ6_bitCount_0f7a4 8 = .ok (.isub, 1) := by decide +kernel
theorem dJ6_bitCount_0f7a4_9 : decode cJ6_bitCount_0f7a4 9 = .ok (.istore_n 0, 1) := by decide +kernel
theorem dJ6_bitCount_0f7a4_10 : decode cJ6_bitCount_0f7a4 10 = .ok (.iload_n 0, 1) := by decide +kernel
theorem dJ6_bitCount_0f7a4_11 : decode cJ6_bitCount_0f7a4 11 = .ok (.ldc_w 266, 3) := by decide +kernel
theorem dJ6_bitCount_0f7a4_14 : decode cJ6_bitCount_0f7a4 14 = .ok (.iand, 1) := by decide +kernel
theorem dJ6_bitCount_0f7a4_15 : decode cJ6_bitCount_0f7a4 15 = .ok (.iload_n 0, 1) := by decide +kernel
theorem dJ6_bitCount_0f7a4_16 : decode cJ6_bitCount_0f7a4 16 = .ok (.iconst 2, 1) := by decide +kernel
theorem dJ6_bitCount_0f7a4_17 : decode cJ6_bitCount_0f7a4 17 = .ok (.iushr, 1) := by decide +kernel
theorem dJ6_bitCount_0f7a4_18 : decode cJ6_bitCount_0f7a4 18 = .ok (.ldc_w 266, 3) := by decide +kernel
theorem dJ6_bitCount_0f7a4_21 : decode cJ6_bitCount_0f7a4 21 = .ok (.iand, 1) := by decide +kernel
theorem dJ6_bitCount_0f7a4_22 : decode cJ6_bitCount_0f7a4 22 = .ok (.iadd, 1) := by decide +kernel
theorem dJ6_bitCount_0f7a4_23 : decode cJ6_bitCount_0f7a4 23 = .ok (.istore_n 0, 1) := by decide +kernel
theorem dJ6_bitCount_0f7a4_24 : decode cJ6_bitCount_0f7a4 24 = .ok (.iload_n 0, 1) := by decide +kernel
theorem dJ6_bitCount_0f7a4_25 : decode cJ6_bitCount_0f7a4 25 = .ok (.iload_n 0, 1) := by decide +kernel
theorem dJ6_bitCount_0f7a4_26 : decode cJ6_bitCount_0f7a4 26 = .ok (.iconst 4, 1) := by decide +kernel
theorem dJ6_bitCount_0f7a4_27 : decode cJ6_bitCount_0f7a4 27 = .ok (.iushr, 1) := by decide +kernel
theorem dJ6_bitCount_0f7a4_28 : decode cJ6_bitCount_0f7a4 28 = .ok (.iadd, 1) := by decide +kernel
theorem dJ6_bitCount_0f7a4_29 : decode cJ6_bitCount_0f7a4 29 = .ok (.ldc_w 267, 3) := by decide +kernel
theorem dJ6_bitCount_0f7a4_32 : decode cJ6_bitCount_0f7a4 32 = .ok (.iand, 1) := by decide +kernel
theorem dJ6_bitCount_0f7a4_33 : decode cJ6_bitCount_0f7a4 33 = .ok (.istore_n 0, 1) := by decide +kernel
theorem dJ6_bitCount_0f7a4_34 : decode cJ6_bitCount_0f7a4 34 = .ok (.iload_n 0, 1) := by decide +kernel
theorem dJ6_bitCount_0f7a4_35 : decode cJ6_bitCount_0f7a4 35 = .ok (.iload_n 0, 1) := by decide +kernel
theorem dJ6_bitCount_0f7a4_36 : decode cJ6_bitCount_0f7a4 36 = .ok (.bipush 8, 2) := by decide +kernel
theorem dJ6_bitCount_0f7a4_38 : decode cJ6_bitCount_0f7a4 38 = .ok (.iushr, 1) := by decide +kernel
theorem dJ6_bitCount_0f7a4_39 : decode cJ6_bitCount_0f7a4 39 = .ok (.iadd, 1) := by decide +kernel
theorem dJ6_bitCount_0f7a4_40 : decode cJ6_bitCount_0f7a4 40 = .ok (.istore_n 0, 1) := by decide +kernel
theorem dJ6_bitCount_0f7a4_41 : decode cJ6_bitCount_0f7a4 41 = .ok (.iload_n 0, 1) := by decide +kernel
theorem dJ6_bitCount_0f7a4_42 : decode cJ6_bitCount_0f7a4 42 = .ok (.iload_n 0, 1) := by decide +kernel
theorem dJ6_bitCount_0f7a4_43 : decode cJ6_bitCount_0f7a4 43 = .ok (.bipush 16, 2) := by decide +kernel
theorem dJ6_bitCount_0f7a4_45 : decode cJ6_bitCount_0f7a4 45 = .ok (.iushr, 1) := by decide +kernel
theorem dJ6_bitCount_0f7a4_46 : decode cJ6_bitCount_0f7a4 46 = .ok (.iadd, 1) := by decide +kernel
theorem dJ6_bitCount_0f7a4_47 : decode cJ6_bitCount_0f7a4 47 = .ok (.istore_n 0, 1) := by decide +kernel
theorem dJ6_bitCount_0f7a4_48 : decode cJ6_bitCount_0f7a4 48 = .ok (.iload_n 0, 1) := by decide +kernel
theorem dJ6_bitCount_0f7a4_49 : decode cJ6_bitCount_0f7a4 49 = .ok (.bipush 63, 2) := by decide +kernel
theorem dJ6_bitCount_0f7a4_51 : decode cJ6_bitCount_0f7a4 51 = .ok (.iand, 1) := by decide +kernel
theorem dJ6_bitCount_0f7a4_52 : decode cJ6_bitCount_0f7a4 52 = .ok (.ireturn, 1) := by decide +kernel
theorem dJ9_max_7cf53_0 : decode cJ9_max_7cf53 0 = .ok (.iload_n 0, 1) := by decide +kernel
theorem dJ9_max_7cf53_1 : decode cJ9_max_7cf53 1 = .ok (.iload_n 1, 1) := by decide +kernel
theorem dJ9_max_7cf53_2 : decode cJ9_max_7cf53 2 = .ok (.if_icmp .lt 7, 3) := by decide +kernel
theorem dJ9_max_7cf53_5 : decode cJ9_max_7cf53 5 = .ok (.iload_n 0, 1) := by decide +kernel
theorem dJ9_max_7cf53_6 : decode cJ9_max_7cf53 6 = .ok (.goto 4, 3) := by decide +kernel
theorem dJ9_max_7cf53_9 : decode cJ9_max_7cf53 9 = .ok (.iload_n 1, 1) := by decide +kernel
theorem dJ9_max_7cf53_10 : decode cJ9_max_7cf53 10 = .ok (.ireturn, 1) := by decide +kernel
theorem dJ9_min_7cf53_0 : decode cJ9_min_7cf53 0 = .ok (.iload_n 0, 1) := by decide +kernel
theorem dJ9_min_7cf53_1 : decode cJ9_min_7cf53 1 = .ok (.iload_n 1, 1) := by decide +kernel
theorem dJ9_min_7cf53_2 : decode cJ9_min_7cf53 2 = .ok (.if_icmp .gt 7, 3) := by decide +kernel
theorem dJ9_min_7cf53_5 : decode cJ9_min_7cf53 5 = .ok (.iload_n 0, 1) := by decide +kernel
theorem dJ9_min_7cf53_6 : decode cJ9_min_7cf53 6 = .ok (.goto 4, 3) := by decide +kernel
theorem dJ9_min_7cf53_9 : decode cJ9_min_7cf53 9 = .ok (.iload_n 1, 1) := by decide +kernel
theorem dJ9_min_7cf53_10 : decode cJ9_min_7cf53 10 = .ok (.ireturn, 1) := by decide +kernel
theorem dJ0_length_8abf5_0 : decode cJ0_length_8abf5 0 = .ok (.aload_n 0, 1) := by decide +kernel
theorem dJ0_length_8abf5_1 : decode cJ0_length_8abf5 1 = .ok (.getfield 9, 3) := by decide +kernel
theorem dJ0_length_8abf5_4 : decode cJ0_length_8abf5 4 = .ok (.arraylength, 1) := by decide +kernel
theorem dJ0_length_8abf5_5 : decode cJ0_length_8abf5 5 = .ok (.aload_n 0, 1) := by decide +kernel
theorem dJ0_length_8abf5_6 : decode cJ0_length_8abf5 6 = .ok (.invokevirtual 335, 3) := by decide +kernel
theorem dJ0_length_8abf5_9 : decode cJ0_length_8abf5 9 = .ok (.ishr, 1) := by decide +kernel
theorem dJ0_length_8abf5_10 : decode cJ0_length_8abf5 10 = .ok (.ireturn, 1) := by decide +kernel
theorem dJ0_indexOf_0f7a4_0 : decode cJ0_indexOf_0f7a4 0 = .ok (.aload_n 0, 1) := by decide +kernel
theorem dJ0_indexOf_0f7a4_1 : decode cJ0_indexOf_0f7a4 1 = .ok (.iload_n 1, 1) := by decide +kernel
theorem dJ0_indexOf_0f7a4_2 : decode cJ0_indexOf_0f7a4 2 = .ok (.iconst 0, 1) := by decide +kernel
theorem dJ0_indexOf_0f7a4_3 : decode cJ0_indexOf_0f7a4 3 = .ok (.invokevirtual 633, 3) := by decide +kernel
theorem dJ0_indexOf_0f7a4_6 : decode cJ0_indexOf_0f7a4 6 = .ok (.ireturn, 1) := by decide +kernel
theorem dJ0_indexOf_7cf53_0 : decode cJ0_indexOf_7cf53 0 = .ok (.aload_n 0, 1) := by decide +kernel
theorem dJ0_indexOf_7cf53_1 : decode cJ0_indexOf_7cf53 1 = .ok (.invokevirtual 492, 3) := by decide +kernel
theorem dJ0_indexOf_7cf53_4 : decode cJ0_indexOf_7cf53 4 = .ok (.ifCond .eq 19, 3) := by decide +kernel
theorem dJ0_indexOf_7cf53_7 : decode cJ0_indexOf_7cf53 7 = .ok (.aload_n 0, 1) := by decide +kernel
theorem dJ0_indexOf_7cf53_8 : decode cJ0_indexOf_7cf53 8 = .ok (.getfield 9, 3) := by decide +kernel
theorem dJ0_indexOf_7cf53_11 : decode cJ0_indexOf_7cf53 11 = .ok (.iload_n 1, 1) := by decide +kernel
theorem dJ0_indexOf_7cf53_12 : decode cJ0_indexOf_7cf53 12 = .ok (.iload_n 2, 1) := by decide +kernel
theorem dJ0_indexOf_7cf53_13 : decode cJ0_indexOf_7cf53 13 = .ok (.aload_n 0, 1) := by decide +kernel
theorem dJ0_indexOf_7cf53_14 : decode cJ0_indexOf_7cf53 14 = .ok (.invokevirtual 505, 3) := by decide +kernel
theorem dJ0_indexOf_7cf53_17 : decode cJ0_indexOf_7cf53 17 = .ok (.invokestatic 637, 3) := by decide +kernel
theorem dJ0_indexOf_7cf53_20 : decode cJ0_indexOf_7cf53 20 = .ok (.goto 16, 3) := by decide +kernel
theorem dJ0_indexOf_7cf53_23 : decode cJ0_indexOf_7cf53 23 = .ok (.aload_n 0, 1) := by decide +kernel
theorem dJ0_indexOf_7cf53_24 : decode cJ0_indexOf_7cf53 24 = .ok (.getfield 9, 3) := by decide +kernel
theorem dJ0_indexOf_7cf53_27 : decode cJ0_indexOf_7cf53 27 = .ok (.iload_n 1, 1) := by decide +kernel
theorem dJ0_indexOf_7cf53_28 : decode cJ0_indexOf_7cf53 28 = .ok (.iload_n 2, 1) := by decide +kernel
theorem dJ0_indexOf_7cf53_29 : decode cJ0_indexOf_7cf53 29 = .ok (.aload_n 0, 1) := by decide +kernel
theorem dJ0_indexOf_7cf53_30 : decode cJ0_indexOf_7cf53 30 = .ok (.invokevirtual 505, 3) := by decide +kernel
theorem dJ0_indexOf_7cf53_33 : decode cJ0_indexOf_7cf53 33 = .ok (.invokestatic 640, 3) := by decide +kernel
theorem dJ0_indexOf_7cf53_36 : decode cJ0_indexOf_7cf53 36 = .ok (.ireturn, 1) := by decide +kernel
theorem dJ0_coder_7d493_0 : decode cJ0_coder_7d493 0 = .ok (.getstatic 38, 3) := by decide +kernel
theorem dJ0_coder_7d493_3 : decode cJ0_coder_7d493 3 = .ok (.ifCond .eq 10, 3) := by decide +kernel
theorem dJ0_coder_7d493_6 : decode cJ0_coder_7d493 6 = .ok (.aload_n 0, 1) := by decide +kernel
theorem dJ0_coder_7d493_7 : decode cJ0_coder_7d493 7 = .ok (.getfield 15, 3) := by decide +kernel
theorem dJ0_coder_7d493_10 : decode cJ0_coder_7d493 10 = .ok (.goto 4, 3) := by decide +kernel
theorem dJ0_coder_7d493_13 : decode cJ0_coder_7d493 13 = .ok (.iconst 1, 1) := by decide +kernel
theorem dJ0_coder_7d493_14 : decode cJ0_coder_7d493 14 = .ok (.ireturn, 1) := by decide +kernel
theorem dJ0_isLatin1_aae02_0 : decode cJ0_isLatin1_aae02 0 = .ok (.getstatic 38, 3) := by decide +kernel
theorem dJ0_isLatin1_aae02_3 : decode cJ0_isLatin1_aae02 3 = .ok (.ifCond .eq 14, 3) := by decide +kernel
theorem dJ0_isLatin1_aae02_6 : decode cJ0_isLatin1_aae02 6 = .ok (.aload_n 0, 1) := by decide +kernel
theorem dJ0_isLatin1_aae02_7 : decode cJ0_isLatin1_aae02 7 = .ok (.getfield 15, 3) := by decide +kernel
theorem dJ0_isLatin1_aae02_10 : decode cJ0_isLatin1_aae02 10 = .ok (.ifCond .ne 7, 3) := by decide +kernel
theorem dJ0_isLatin1_aae02_13 : decode cJ0_isLatin1_aae02 13 = .ok (.iconst 1, 1) := by decide +kernel
theorem dJ0_isLatin1_aae02_14 : decode cJ0_isLatin1_aae02 14 = .ok (.goto 4, 3) := by decide +kernel
theorem dJ0_isLatin1_aae02_17 : decode cJ0_isLatin1_aae02 17 = .ok (.iconst 0, 1) := by decide +kernel
theorem dJ0_isLatin1_aae02_18 : decode cJ0_isLatin1_aae02 18 = .ok (.ireturn, 1) := by decide +kernel
theorem dJ0_checkBoundsBeginEnd_23922_0 : decode cJ0_checkBoundsBeginEnd_23922 0 = .ok (.iload_n 0, 1) := by decide +kernel
theorem dJ0_checkBoundsBeginEnd_23922_1 : decode cJ0_checkBoundsBeginEnd_23922 1 = .ok (.iload_n 1, 1) := by decide +kernel
theorem dJ0_checkBoundsBeginEnd_23922_2 : decode cJ0_checkBoundsBeginEnd_23922 2 = .ok (.iload_n 2, 1) := by decide +kernel
theorem dJ0_checkBoundsBeginEnd_23922_3 : decode cJ0_checkBoundsBeginEnd_23922 3 = .ok (.getstatic 1053, 3) := by decide +kernel
theorem dJ0_checkBoundsBeginEnd_23922_6 : decode cJ0_checkBoundsBeginEnd_23922 6 = .ok (.invokestatic 1062, 3) := by decide +kernel
theorem dJ0_checkBoundsBeginEnd_23922_9 : decode cJ0_checkBoundsBeginEnd_23922 9 = .ok (.pop, 1) := by decide +kernel
theorem dJ0_checkBoundsBeginEnd_23922_10 : decode cJ0_checkBoundsBeginEnd_23922 10 = .ok (.return_, 1) := by decide +kernel
theorem dJ1_canEncode_9a6ad_0 : decode cJ1_canEncode_9a6ad 0 = .ok (.iload_n 0, 1) := by decide +kernel
theorem dJ1_canEncode_9a6ad_1 : decode cJ1_canEncode_9a6ad 1 = .ok (.ifCond .lt 14, 3) := by decide +kernel
theorem dJ1_canEncode_9a6ad_4 : decode cJ1_canEncode_9a6ad 4 = .ok (.iload_n 0, 1) := by decide +kernel
theorem dJ1_canEncode_9a6ad_5 : decode cJ1_canEncode_9a6ad 5 = .ok (.sipush 255, 3) := by decide +kernel
theorem dJ1_canEncode_9a6ad_8 : decode cJ1_canEncode_9a6ad 8 = .ok (.if_icmp .gt 7, 3) := by decide +kernel
theorem dJ1_canEncode_9a6ad_11 : decode cJ1_canEncode_9a6ad 11 = .ok (.iconst 1, 1) := by decide +kernel
theorem dJ1_canEncode_9a6ad_12 : decode cJ1_canEncode_9a6ad 12 = .ok (.goto 4, 3) := by decide +kernel
theorem dJ1_canEncode_9a6ad_15 : decode cJ1_canEncode_9a6ad 15 = .ok (.iconst 0, 1) := by decide +kernel
theorem dJ1_canEncode_9a6ad_16 : decode cJ1_canEncode_9a6ad 16 = .ok (.ireturn, 1) := by decide +kernel
theorem dJ1_indexOf_4cfef_0 : decode cJ1_indexOf_4cfef 0 = .ok (.iload_n 1, 1) := by decide +kernel
theorem dJ1_indexOf_4cfef_1 : decode cJ1_indexOf_4cfef 1 = .ok (.invokestatic 88, 3) := by decide +kernel
theorem dJ1_indexOf_4cfef_4 : decode cJ1_indexOf_4cfef 4 = .ok (.ifCond .ne 5, 3) := by decide +kernel
theorem dJ1_indexOf_4cfef_7 : decode cJ1_indexOf_4cfef 7 = .ok (.iconst (-1), 1) := by decide +kernel
theorem dJ1_indexOf_4cfef_8 : decode cJ1_indexOf_4cfef 8 = .ok (.ireturn, 1) := by decide +kernel
theorem dJ1_indexOf_4cfef_9 : decode cJ1_indexOf_4cfef 9 = .ok (.iload_n 2, 1) := by decide +kernel
theorem dJ1_indexOf_4cfef_10 : decode cJ1_indexOf_4cfef 10 = .ok (.iconst 0, 1) := by decide +kernel
theorem dJ1_indexOf_4cfef_11 : decode cJ1_indexOf_4cfef 11 = .ok (.invokestatic 92, 3) := by decide +kernel
theorem dJ1_indexOf_4cfef_14 : decode cJ1_indexOf_4cfef 14 = .ok (.istore_n 2, 1) := by decide +kernel
theorem dJ1_indexOf_4cfef_15 : decode cJ1_indexOf_4cfef 15 = .ok (.iload_n 3, 1) := by decide +kernel
theorem dJ1_indexOf_4cfef_16 : decode cJ1_indexOf_4cfef 16 = .ok (.aload_n 0, 1) := by decide +kernel
theorem dJ1_indexOf_4cfef_17 : decode cJ1_indexOf_4cfef 17 = .ok (.arraylength, 1) := by decide +kernel
theorem dJ1_indexOf_4cfef_18 : decode cJ1_indexOf_4cfef 18 = .ok (.invokestatic 38, 3) := by decide +kernel
theorem dJ1_indexOf_4cfef_21 : decode cJ1_indexOf_4cfef 21 = .ok (.istore_n 3, 1) := by decide +kernel
theorem dJ1_indexOf_4cfef_22 : decode cJ1_indexOf_4cfef 22 = .ok (.iload_n 2, 1) := by decide +kernel
theorem dJ1_indexOf_4cfef_23 : decode cJ1_indexOf_4cfef 23 = .ok (.iload_n 3, 1) := by decide +kernel
theorem dJ1_indexOf_4cfef_24 : decode cJ1_indexOf_4cfef 24 = .ok (.if_icmp .lt 5, 3) := by decide +kernel
theorem dJ1_indexOf_4cfef_27 : decode cJ1_indexOf_4cfef 27 = .ok (.iconst (-1), 1) := by decide +kernel
theorem dJ1_indexOf_4cfef_28 : decode cJ1_indexOf_4cfef 28 = .ok (.ireturn, 1) := by decide +kernel
theorem dJ1_indexOf_4cfef_29 : decode cJ1_indexOf_4cfef 29 = .ok (.aload_n 0, 1) := by decide +kernel
theorem dJ1_indexOf_4cfef_30 : decode cJ1_indexOf_4cfef 30 = .ok (.iload_n 1, 1) := by decide +kernel
theorem dJ1_indexOf_4cfef_31 : decode cJ1_indexOf_4cfef 31 = .ok (.iload_n 2, 1) := by decide +kernel
theorem dJ1_indexOf_4cfef_32 : decode cJ1_indexOf_4cfef 32 = .ok (.iload_n 3, 1) := by decide +kernel
theorem dJ1_indexOf_4cfef_33 : decode cJ1_indexOf_4cfef 33 = .ok (.invokestatic 95, 3) := by decide +kernel
theorem dJ1_indexOf_4cfef_36 : decode cJ1_indexOf_4cfef 36 = .ok (.ireturn, 1) := by decide +kernel
theorem dJ1_indexOfChar_4cfef_0 : decode cJ1_indexOfChar_4cfef 0 = .ok (.iload_n 1, 1) := by decide +kernel
theorem dJ1_indexOfChar_4cfef_1 : decode cJ1_indexOfChar_4cfef 1 = .ok (.i2b, 1) := by decide +kernel
theorem dJ1_indexOfChar_4cfef_2 : decode cJ1_indexOfChar_4cfef 2 = .ok (.istore 4, 2) := by decide +kernel
theorem dJ1_indexOfChar_4cfef_4 : decode cJ1_indexOfChar_4cfef 4 = .ok (.iload_n 2, 1) := by decide +kernel
theorem dJ1_indexOfChar_4cfef_5 : decode cJ1_indexOfChar_4cfef 5 = .ok (.istore 5, 2) := by decide +kernel
theorem dJ1_indexOfChar_4cfef_7 : decode cJ1_indexOfChar_4cfef 7 = .ok (.iload 5, 2) := by decide +kernel
theorem dJ1_indexOfChar_4cfef_9 : decode cJ1_indexOfChar_4cfef 9 = .ok (.iload_n 3, 1) := by decide +kernel
theorem dJ1_indexOfChar_4cfef_10 : decode cJ1_indexOfChar_4cfef 10 = .ok (.if_icmp .ge 21, 3) := by decide +kernel
theorem dJ1_indexOfChar_4cfef_13 : decode cJ1_indexOfChar_4cfef 13 = .ok (.aload_n 0, 1) := by decide +kernel
theorem dJ1_indexOfChar_4cfef_14 : decode cJ1_indexOfChar_4cfef 14 = .ok (.iload 5, 2) := by decide +kernel
theorem dJ1_indexOfChar_4cfef_16 : decode cJ1_indexOfChar_4cfef 16 = .ok (.baload, 1) := by decide +kernel
theorem dJ1_indexOfChar_4cfef_17 : decode cJ1_indexOfChar_4cfef 17 = .ok (.iload 4, 2) := by decide +kernel
theorem dJ1_indexOfChar_4cfef_19 : decode cJ1_indexOfChar_4cfef 19 = .ok (.if_icmp .ne 6, 3) := by decide +kernel
theorem dJ1_indexOfChar_4cfef_22 : decode cJ1_indexOfChar_4cfef 22 = .ok (.iload 5, 2) := by decide +kernel
theorem dJ1_indexOfChar_4cfef_24 : decode cJ1_indexOfChar_4cfef 24 = .ok (.ireturn, 1) := by decide +kernel
theorem dJ1_indexOfChar_4cfef_25 : decode cJ1_indexOfChar_4cfef 25 = .ok (.iinc 5 1, 3) := by decide +kernel
theorem dJ1_indexOfChar_4cfef_28 : decode cJ1_indexOfChar_4cfef 28 = .ok (.goto (-21), 3) := by decide +kernel
theorem dJ1_indexOfChar_4cfef_31 : decode cJ1_indexOfChar_4cfef 31 = .ok (.iconst (-1), 1) := by decide +kernel
theorem dJ1_indexOfChar_4cfef_32 : decode cJ1_indexOfChar_4cfef 32 = .ok (.ireturn, 1) := by decide +kernel
theorem dJ2_getChar_3b067_0 : decode cJ2_getChar_3b067 0 = .ok (.getstatic 44, 3) := by decide +kernel
theorem dJ2_getChar_3b067_3 : decode cJ2_getChar_3b067 3 = .ok (.ifCond .ne 25, 3) := by decide +kernel
theorem dJ2_getChar_3b067_6 : decode cJ2_getChar_3b067 6 = .ok (.iload_n 1, 1) := by decide +kernel
theorem dJ2_getChar_3b067_7 : decode cJ2_getChar_3b067 7 = .ok (.ifCond .lt 11, 3) := by decide +kernel
theorem dJ2_getChar_3b067_10 : decode cJ2_getChar_3b067 10 = .ok (.iload_n 1, 1) := by decide +kernel
theorem dJ2_getChar_3b067_11 : decode cJ2_getChar_3b067 11 = .ok (.aload_n 0, 1) := by decide +kernel
theorem dJ2_getChar_3b067_12 : decode cJ2_getChar_3b067 12 = .ok (.invokestatic 48, 3) := by decide +kernel
theorem dJ2_getChar_3b067_15 : decode cJ2_getChar_3b067 15 = .ok (.if_icmp .lt 13, 3) := by decide +kernel
theorem dJ2_getChar_3b067_18 : decode cJ2_getChar_3b067 18 = .ok (.new 52, 3) := by decide +kernel
theorem dJ2_getChar_3b067_21 : decode cJ2_getChar_3b067 21 = .ok (.dup, 1) := by decide +kernel
theorem dJ2_getChar_3b067_22 : decode cJ2_getChar_3b067 22 = .ok (.ldc 54, 2) := by decide +kernel
theorem dJ2_getChar_3b067_24 : decode cJ2_getChar_3b067 24 = .ok (.invokespecial 56, 3) := by decide +kernel
theorem dJ2_getChar_3b067_27 : decode cJ2_getChar_3b067 27 = .ok (.athrow, 1) := by decide +kernel
theorem dJ2_getChar_3b067_28 : decode cJ2_getChar_3b067 28 = .ok (.iload_n 1, 1) := by decide +kernel
theorem dJ2_getChar_3b067_29 : decode cJ2_getChar_3b067 29 = .ok (.iconst 1, 1) := by decide +kernel
theorem dJ2_getChar_3b067_30 : decode cJ2_getChar_3b067 30 = .ok (.ishl, 1) := by decide +kernel
theorem dJ2_getChar_3b067_31 : decode cJ2_getChar_3b067 31 = .ok (.istore_n 1, 1) := by decide +kernel
theorem dJ2_getChar_3b067_32 : decode cJ2_getChar_3b067 32 = .ok (.aload_n 0, 1) := by decide +kernel
theorem dJ2_getChar_3b067_33 : decode cJ2_getChar_3b067 33 = .ok (.iload_n 1, 1) := by decide +kernel
theorem dJ2_getChar_3b067_34 : decode cJ2_getChar_3b067 34 = .ok (.iinc 1 1, 3) := by decide +kernel
theorem dJ2_getChar_3b067_37 : decode cJ2_getChar_3b067 37 = .ok (.baload, 1) := by decide +kernel
theorem dJ2_getChar_3b067_38 : decode cJ2_getChar_3b067 38 = .ok (.sipush 255, 3) := by decide +kernel
theorem dJ2_getChar_3b067_41 : decode cJ2_getChar_3b067 41 = .ok (.iand, 1) := by decide +kernel
theorem dJ2_getChar_3b067_42 : decode cJ2_getChar_3b067 42 = .ok (.getstatic 59, 3) := by decide +kernel
theorem dJ2_getChar_3b067_45 : decode cJ2_getChar_3b067 45 = .ok (.ishl, 1) := by decide +kernel
theorem dJ2_getChar_3b067_46 : decode cJ2_getChar_3b067 46 = .ok (.aload_n 0, 1) := by decide +kernel
theorem dJ2_getChar_3b067_47 : decode cJ2_getChar_3b067 47 = .ok (.iload_n 1, 1) := by decide +kernel
theorem dJ2_getChar_3b067_48 : decode cJ2_getChar_3b067 48 = .ok (.baload, 1) := by decide +kernel
theorem dJ2_getChar_3b067_49 : decode cJ2_getChar_3b067 49 = .ok (.sipush 255, 3) := by decide +kernel
theorem dJ2_getChar_3b067_52 : decode cJ2_getChar_3b067 52 = .ok (.iand, 1) := by decide +kernel
theorem dJ2_getChar_3b067_53 : decode cJ2_getChar_3b067 53 = .ok (.getstatic 63, 3) := by decide +kernel
theorem dJ2_getChar_3b067_56 : decode cJ2_getChar_3b067 56 = .ok (.ishl, 1) := by decide +kernel
theorem dJ2_getChar_3b067_57 : decode cJ2_getChar_3b067 57 = .ok (.ior, 1) := by decide +kernel
theorem dJ2_getChar_3b067_58 : decode cJ2_getChar_3b067 58 = .ok (.i2c, 1) := by decide +kernel
theorem dJ2_getChar_3b067_59 : decode cJ2_getChar_3b067 59 = .ok (.ireturn, 1) := by decide +kernel
theorem dJ2_length_9d52b_0 : decode cJ2_length_9d52b 0 = .ok (.aload_n 0, 1) := by decide +kernel
theorem dJ2_length_9d52b_1 : decode cJ2_length_9d52b 1 = .ok (.arraylength, 1) := by decide +kernel
theorem dJ2_length_9d52b_2 : decode cJ2_length_9d52b 2 = .ok (.iconst 1, 1) := by decide +kernel
theorem dJ2_length_9d52b_3 : decode cJ2_length_9d52b 3 = .ok (.ishr, 1) := by decide +kernel
theorem dJ2_length_9d52b_4 : decode cJ2_length_9d52b 4 = .ok (.ireturn, 1) := by decide +kernel
theorem dJ2_indexOf_4cfef_0 : decode cJ2_indexOf_4cfef 0 = .ok (.iload_n 2, 1) := by decide +kernel
theorem dJ2_indexOf_4cfef_1 : decode cJ2_indexOf_4cfef 1 = .ok (.iconst 0, 1) := by decide +kernel
theorem dJ2_indexOf_4cfef_2 : decode cJ2_indexOf_4cfef 2 = .ok (.invokestatic 224, 3) := by decide +kernel
theorem dJ2_indexOf_4cfef_5 : decode cJ2_indexOf_4cfef 5 = .ok (.istore_n 2, 1) := by decide +kernel
theorem dJ2_indexOf_4cfef_6 : decode cJ2_indexOf_4cfef 6 = .ok (.iload_n 3, 1) := by decide +kernel
theorem dJ2_indexOf_4cfef_7 : decode cJ2_indexOf_4cfef 7 = .ok (.aload_n 0, 1) := by decide +kernel
theorem dJ2_indexOf_4cfef_8 : decode cJ2_indexOf_4cfef 8 = .ok (.arraylength, 1) := by decide +kernel
theorem dJ2_indexOf_4cfef_9 : decode cJ2_indexOf_4cfef 9 = .ok (.iconst 1, 1) := by decide +kernel
theorem dJ2_indexOf_4cfef_10 : decode cJ2_indexOf_4cfef 10 = .ok (.ishr, 1) := by decide +kernel
theorem dJ2_indexOf_4cfef_11 : decode cJ2_indexOf_4cfef 11 = .ok (.invokestatic 183, 3) := by decide +kernel
theorem dJ2_indexOf_4cfef_14 : decode cJ2_indexOf_4cfef 14 = .ok (.istore_n 3, 1) := by decide +kernel
theorem dJ2_indexOf_4cfef_15 : decode cJ2_indexOf_4cfef 15 = .ok (.iload_n 2, 1) := by decide +kernel
theorem dJ2_indexOf_4cfef_16 : decode cJ2_indexOf_4cfef 16 = .ok (.iload_n 3, 1) := by decide +kernel
theorem dJ2_indexOf_4cfef_17 : decode cJ2_indexOf_4cfef 17 = .ok (.if_icmp .lt 5, 3) := by decide +kernel
theorem dJ2_indexOf_4cfef_20 : decode cJ2_indexOf_4cfef 20 = .ok (.iconst (-1), 1) := by decide +kernel
theorem dJ2_indexOf_4cfef_21 : decode cJ2_indexOf_4cfef 21 = .ok (.ireturn, 1) := by decide +kernel
theorem dJ2_indexOf_4cfef_22 : decode cJ2_indexOf_4cfef 22 = .ok (.iload_n 1, 1) := by decide +kernel
theorem dJ2_indexOf_4cfef_23 : decode cJ2_indexOf_4cfef 23 = .ok (.ldc 227, 2) := by decide +kernel
theorem dJ2_indexOf_4cfef_25 : decode cJ2_indexOf_4cfef 25 = .ok (.if_icmp .ge 11, 3) := by decide +kernel
theorem dJ2_indexOf_4cfef_28 : decode cJ2_indexOf_4cfef 28 = .ok (.aload_n 0, 1) := by decide +kernel
theorem dJ2_indexOf_4cfef_29 : decode cJ2_indexOf_4cfef 29 = .ok (.iload_n 1, 1) := by decide +kernel
theorem dJ2_indexOf_4cfef_30 : decode cJ2_indexOf_4cfef 30 = .ok (.iload_n 2, 1) := by decide +kernel
theorem dJ2_indexOf_4cfef_31 : decode cJ2_indexOf_4cfef 31 = .ok (.iload_n 3, 1) := by decide +kernel
theorem dJ2_indexOf_4cfef_32 : decode cJ2_indexOf_4cfef 32 = .ok (.invokestatic 228, 3) := by decide +kernel
theorem dJ2_indexOf_4cfef_35 : decode cJ2_indexOf_4cfef 35 = .ok (.ireturn, 1) := by decide +kernel
theorem dJ2_indexOf_4cfef_36 : decode cJ2_indexOf_4cfef 36 = .ok (.aload_n 0, 1) := by decide +kernel
theorem dJ2_indexOf_4cfef_37 : decode cJ2_indexOf_4cfef 37 = .ok (.iload_n 1, 1) := by decide +kernel
theorem dJ2_indexOf_4cfef_38 : decode cJ2_indexOf_4cfef 38 = .ok (.iload_n 2, 1) := by decide +kernel
theorem dJ2_indexOf_4cfef_39 : decode cJ2_indexOf_4cfef 39 = .ok (.iload_n 3, 1) := by decide +kernel
theorem dJ2_indexOf_4cfef_40 : decode cJ2_indexOf_4cfef 40 = .ok (.invokestatic 232, 3) := by decide +kernel
theorem dJ2_indexOf_4cfef_43 : decode cJ2_indexOf_4cfef 43 = .ok (.ireturn, 1) := by decide +kernel
theorem dJ2_indexOfChar_4cfef_0 : decode cJ2_indexOfChar_4cfef 0 = .ok (.iload_n 2, 1) := by decide +kernel
theorem dJ2_indexOfChar_4cfef_1 : decode cJ2_indexOfChar_4cfef 1 = .ok (.iload_n 3, 1) := by decide +kernel
theorem dJ2_indexOfChar_4cfef_2 : decode cJ2_indexOfChar_4cfef 2 = .ok (.aload_n 0, 1) := by decide +kernel
theorem dJ2_indexOfChar_4cfef_3 : decode cJ2_indexOfChar_4cfef 3 = .ok (.invokestatic 96, 3) := by decide +kernel
theorem dJ2_indexOfChar_4cfef_6 : decode cJ2_indexOfChar_4cfef 6 = .ok (.aload_n 0, 1) := by decide +kernel
theorem dJ2_indexOfChar_4cfef_7 : decode cJ2_indexOfChar_4cfef 7 = .ok (.iload_n 1, 1) := by decide +kernel
theorem dJ2_indexOfChar_4cfef_8 : decode cJ2_indexOfChar_4cfef 8 = .ok (.iload_n 2, 1) := by decide +kernel
theorem dJ2_indexOfChar_4cfef_9 : decode cJ2_indexOfChar_4cfef 9 = .ok (.iload_n 3, 1) := by decide +kernel
theorem dJ2_indexOfChar_4cfef_10 : decode cJ2_indexOfChar_4cfef 10 = .ok (.invokestatic 244, 3) := by decide +kernel
theorem dJ2_indexOfChar_4cfef_13 : decode cJ2_indexOfChar_4cfef 13 = .ok (.ireturn, 1) := by decide +kernel
theorem dJ2_indexOfCharUnsafe_4cfef_0 : decode cJ2_indexOfCharUnsafe_4cfef 0 = .ok (.iload_n 2, 1) := by decide +kernel
theorem dJ2_indexOfCharUnsafe_4cfef_1 : decode cJ2_indexOfCharUnsafe_4cfef 1 = .ok (.istore 4, 2) := by decide +kernel
theorem dJ2_indexOfCharUnsafe_4cfef_3 : decode cJ2_indexOfCharUnsafe_4cfef 3 = .ok (.iload 4, 2) := by decide +kernel
theorem dJ2_indexOfCharUnsafe_4cfef_5 : decode cJ2_indexOfCharUnsafe_4cfef 5 = .ok (.iload_n 3, 1) := by decide +kernel
theorem dJ2_indexOfCharUnsafe_4cfef_6 : decode cJ2_indexOfCharUnsafe_4cfef 6 = .ok (.if_icmp .ge 22, 3) := by decide +kernel
theorem dJ2_indexOfCharUnsafe_4cfef_9 : decode cJ2_indexOfCharUnsafe_4cfef 9 = .ok (.aload_n 0, 1) := by decide +kernel
theorem dJ2_indexOfCharUnsafe_4cfef_10 : decode cJ2_indexOfCharUnsafe_4cfef 10 = .ok (.iload 4, 2) := by decide +kernel
theorem dJ2_indexOfCharUnsafe_4cfef_12 : decode cJ2_indexOfCharUnsafe_4cfef 12 = .ok (.invokestatic 71, 3) := by decide +kernel
theorem dJ2_indexOfCharUnsafe_4cfef_15 : decode cJ2_indexOfCharUnsafe_4cfef 15 = .ok (.iload_n 1, 1) := by decide +kernel
theorem dJ2_indexOfCharUnsafe_4cfef_16 : decode cJ2_indexOfCharUnsafe_4cfef 16 = .ok (.if_icmp .ne 6, 3) := by decide +kernel
theorem dJ2_indexOfCharUnsafe_4cfef_19 : decode cJ2_indexOfCharUnsafe_4cfef 19 = .ok (.iload 4, 2) := by decide +kernel
theorem dJ2_indexOfCharUnsafe_4cfef_21 : decode cJ2_indexOfCharUnsafe_4cfef 21 = .ok (.ireturn, 1) := by decide +kernel
theorem dJ2_indexOfCharUnsafe_4cfef_22 : decode cJ2_indexOfCharUnsafe_4cfef 22 = .ok (.iinc 4 1, 3) := by decide +kernel
theorem dJ2_indexOfCharUnsafe_4cfef_25 : decode cJ2_indexOfCharUnsafe_4cfef 25 = .ok (.goto (-22), 3) := by decide +kernel
theorem dJ2_indexOfCharUnsafe_4cfef_28 : decode cJ2_indexOfCharUnsafe_4cfef 28 = .ok (.iconst (-1), 1) := by decide +kernel
theorem dJ2_indexOfCharUnsafe_4cfef_29 : decode cJ2_indexOfCharUnsafe_4cfef 29 = .ok (.ireturn, 1) := by decide +kernel
theorem dJ2_indexOfSupplementary_4cfef_0 : decode cJ2_indexOfSupplementary_4cfef 0 = .ok (.iload_n 1, 1) := by decide +kernel
theorem dJ2_indexOfSupplementary_4cfef_1 : decode cJ2_indexOfSupplementary_4cfef 1 = .ok (.invokestatic 164, 3) := by decide +kernel
theorem dJ2_indexOfSupplementary_4cfef_4 : decode cJ2_indexOfSupplementary_4cfef 4 = .ok (.ifCond .eq 65, 3) := by decide +kernel
theorem dJ2_indexOfSupplementary_4cfef_7 : decode cJ2_indexOfSupplementary_4cfef 7 = .ok (.iload_n 1, 1) := by decide +kernel
theorem dJ2_indexOfSupplementary_4cfef_8 : decode cJ2_indexOfSupplementary_4cfef 8 = .ok (.invokestatic 157, 3) := by decide +kernel
theorem dJ2_indexOfSupplementary_4cfef_11 : decode cJ2_indexOfSupplementary_4cfef 11 = .ok (.istore 4, 2) := by decide +kernel
theorem dJ2_indexOfSupplementary_4cfef_13 : decode cJ2_indexOfSupplementary_4cfef 13 = .ok (.iload_n 1, 1) := by decide +kernel
theorem dJ2_indexOfSupplementary_4cfef_14 : decode cJ2_indexOfSupplementary_4cfef 14 = .ok (.invokestatic 161, 3) := by decide +kernel
theorem dJ2_indexOfSupplementary_4cfef_17 : decode cJ2_indexOfSupplementary_4cfef 17 = .ok (.istore 5, 2) := by decide +kernel
theorem dJ2_indexOfSupplementary_4cfef_19 : decode cJ2_indexOfSupplementary_4cfef 19 = .ok (.iload_n 2, 1) := by decide +kernel
theorem dJ2_indexOfSupplementary_4cfef_20 : decode cJ2_indexOfSupplementary_4cfef 20 = .ok (.iload_n 3, 1) := by decide +kernel
theorem dJ2_indexOfSupplementary_4cfef_21 : decode cJ2_indexOfSupplementary_4cfef 21 = .ok (.aload_n 0, 1) := by decide +kernel
theorem dJ2_indexOfSupplementary_4cfef_22 : decode cJ2_indexOfSupplementary_4cfef 22 = .ok (.invokestatic 96, 3) := by decide +kernel
theorem dJ2_indexOfSupplementary_4cfef_25 : decode cJ2_indexOfSupplementary_4cfef 25 = .ok (.iload_n 2, 1) := by decide +kernel
theorem dJ2_indexOfSupplementary_4cfef_26 : decode cJ2_indexOfSupplementary_4cfef 26 = .ok (.istore 6, 2) := by decide +kernel
theorem dJ2_indexOfSupplementary_4cfef_28 : decode cJ2_indexOfSupplementary_4cfef 28 = .ok (.iload 6, 2) := by decide +kernel
theorem dJ2_indexOfSupplementary_4cfef_30 : decode cJ2_indexOfSupplementary_4cfef 30 = .ok (.iload_n 3, 1) := by decide +kernel
theorem dJ2_indexOfSupplementary_4cfef_31 : decode cJ2_indexOfSupplementary_4cfef 31 = .ok (.iconst 1, 1) := by decide +kernel
theorem dJ2_indexOfSupplementary_4cfef_32 : decode cJ2_indexOfSupplementary_4cfef 32 = .ok (.isub, 1) := by decide +kernel
theorem dJ2_indexOfSupplementary_4cfef_33 : decode cJ2_indexOfSupplementary_4cfef 33 = .ok (.if_icmp .ge 36, 3) := by decide +kernel
theorem dJ2_indexOfSupplementary_4cfef_36 : decode cJ2_indexOfSupplementary_4cfef 36 = .ok (.aload_n 0, 1) := by decide +kernel
theorem dJ2_indexOfSupplementary_4cfef_37 : decode cJ2_indexOfSupplementary_4cfef 37 = .ok (.iload 6, 2) := by decide +kernel
theorem dJ2_indexOfSupplementary_4cfef_39 : decode cJ2_indexOfSupplementary_4cfef 39 = .ok (.invokestatic 71, 3) := by decide +kernel
theorem dJ2_indexOfSupplementary_4cfef_42 : decode cJ2_indexOfSupplementary_4cfef 42 = .ok (.iload 4, 2) := by decide +kernel
theorem dJ2_indexOfSupplementary_4cfef_44 : decode cJ2_indexOfSupplementary_4cfef 44 = .ok (.if_icmp .ne 19, 3) := by decide +kernel
theorem dJ2_indexOfSupplementary_4cfef_47 : decode cJ2_indexOfSupplementary_4cfef 47 = .ok (.aload_n 0, 1) := by decide +kernel
theorem dJ2_indexOfSupplementary_4cfef_48 : decode cJ2_indexOfSupplementary_4cfef 48 = .ok (.iload 6, 2) := by decide +kernel
theorem dJ2_indexOfSupplementary_4cfef_50 : decode cJ2_indexOfSupplementary_4cfef 50 = .ok (.iconst 1, 1) := by decide +kernel
theorem dJ2_indexOfSupplementary_4cfef_51 : decode cJ2_indexOfSupplementary_4cfef 51 = .ok (.iadd, 1) := by decide +kernel
theorem dJ2_indexOfSupplementary_4cfef_52 : decode cJ2_indexOfSupplementary_4cfef 52 = .ok (.invokestatic 71, 3) := by decide +kernel
theorem dJ2_indexOfSupplementary_4cfef_55 : decode cJ2_indexOfSupplementary_4cfef 55 = .ok (.iload 5, 2) := by decide +kernel
theorem dJ2_indexOfSupplementary_4cfef_57 : decode cJ2_indexOfSupplementary_4cfef 57 = .ok (.if_icmp .ne 6, 3) := by decide +kernel
theorem dJ2_indexOfSupplementary_4cfef_60 : decode cJ2_indexOfSupplementary_4cfef 60 = .ok (.iload 6, 2) := by decide +kernel
theorem dJ2_indexOfSupplementary_4cfef_62 : decode cJ2_indexOfSupplementary_4cfef 62 = .ok (.ireturn, 1) := by decide +kernel
theorem dJ2_indexOfSupplementary_4cfef_63 : decode cJ2_indexOfSupplementary_4cfef 63 = .ok (.iinc 6 1, 3) := by decide +kernel
theorem dJ2_indexOfSupplementary_4cfef_66 : decode cJ2_indexOfSupplementary_4cfef 66 = .ok (.goto (-38), 3) := by decide +kernel
theorem dJ2_indexOfSupplementary_4cfef_69 : decode cJ2_indexOfSupplementary_4cfef 69 = .ok (.iconst (-1), 1) := by decide +kernel
theorem dJ2_indexOfSupplementary_4cfef_70 : decode cJ2_indexOfSupplementary_4cfef 70 = .ok (.ireturn, 1) := by decide +kernel
theorem dJ2_checkBoundsBeginEnd_d044e_0 : decode cJ2_checkBoundsBeginEnd_d044e 0 = .ok (.iload_n 0, 1) := by decide +kernel
theorem dJ2_checkBoundsBeginEnd_d044e_1 : decode cJ2_checkBoundsBeginEnd_d044e 1 = .ok (.iload_n 1, 1) := by decide +kernel
theorem dJ2_checkBoundsBeginEnd_d044e_2 : decode cJ2_checkBoundsBeginEnd_d044e 2 = .ok (.aload_n 2, 1) := by decide +kernel
theorem dJ2_checkBoundsBeginEnd_d044e_3 : decode cJ2_checkBoundsBeginEnd_d044e 3 = .ok (.invokestatic 48, 3) := by decide +kernel
theorem dJ2_checkBoundsBeginEnd_d044e_6 : decode cJ2_checkBoundsBeginEnd_d044e 6 = .ok (.invokestatic 241, 3) := by decide +kernel
theorem dJ2_checkBoundsBeginEnd_d044e_9 : decode cJ2_checkBoundsBeginEnd_d044e 9 = .ok (.return_, 1) := by decide +kernel
theorem dJ7_fill_53178_0 : decode cJ7_fill_53178 0 = .ok (.iconst 0, 1) := by decide +kernel
theorem dJ7_fill_53178_1 : decode cJ7_fill_53178 1 = .ok (.istore_n 2, 1) := by decide +kernel
theorem dJ7_fill_53178_2 : decode cJ7_fill_53178 2 = .ok (.aload_n 0, 1) := by decide +kernel
theorem dJ7_fill_53178_3 : decode cJ7_fill_53178 3 = .ok (.arraylength, 1) := by decide +kernel
theorem dJ7_fill_53178_4 : decode cJ7_fill_53178 4 = .ok (.istore_n 3, 1) := by decide +kernel
theorem dJ7_fill_53178_5 : decode cJ7_fill_53178 5 = .ok (.iload_n 2, 1) := by decide +kernel
theorem dJ7_fill_53178_6 : decode cJ7_fill_53178 6 = .ok (.iload_n 3, 1) := by decide +kernel
theorem dJ7_fill_53178_7 : decode cJ7_fill_53178 7 = .ok (.if_icmp .ge 13, 3) := by decide +kernel
theorem dJ7_fill_53178_10 : decode cJ7_fill_53178 10 = .ok (.aload_n 0, 1) := by decide +kernel
theorem dJ7_fill_53178_11 : decode cJ7_fill_53178 11 = .ok (.iload_n 2, 1) := by decide +kernel
theorem dJ7_fill_53178_12 : decode cJ7_fill_53178 12 = .ok (.iload_n 1, 1) := by decide +kernel
theorem dJ7_fill_53178_13 : decode cJ7_fill_53178 13 = .ok (.iastore, 1) := by decide +kernel
theorem dJ7_fill_53178_14 : decode cJ7_fill_53178 14 = .ok (.iinc 2 1, 3) := by decide +kernel
theorem dJ7_fill_53178_17 : decode cJ7_fill_53178 17 = .ok (.goto (-12), 3) := by decide +kernel
theorem dJ7_fill_53178_20 : decode cJ7_fill_53178 20 = .ok (.return_, 1) := by decide +kernel
theorem dJ3_checkFromToIndex_8c36e_0 : decode cJ3_checkFromToIndex_8c36e 0 = .ok (.iload_n 0, 1) := by decide +kernel
theorem dJ3_checkFromToIndex_8c36e_1 : decode cJ3_checkFromToIndex_8c36e 1 = .ok (.ifCond .lt 13, 3) := by decide +kernel
theorem dJ3_checkFromToIndex_8c36e_4 : decode cJ3_checkFromToIndex_8c36e 4 = .ok (.iload_n 0, 1) := by decide +kernel
theorem dJ3_checkFromToIndex_8c36e_5 : decode cJ3_checkFromToIndex_8c36e 5 = .ok (.iload_n 1, 1) := by decide +kernel
theorem dJ3_checkFromToIndex_8c36e_6 : decode cJ3_checkFromToIndex_8c36e 6 = .ok (.if_icmp .gt 8, 3) := by decide +kernel
theorem dJ3_checkFromToIndex_8c36e_9 : decode cJ3_checkFromToIndex_8c36e 9 = .ok (.iload_n 1, 1) := by decide +kernel
theorem dJ3_checkFromToIndex_8c36e_10 : decode cJ3_checkFromToIndex_8c36e 10 = .ok (.iload_n 2, 1) := by decide +kernel
theorem dJ3_checkFromToIndex_8c36e_11 : decode cJ3_checkFromToIndex_8c36e 11 = .ok (.if_icmp .le 11, 3) := by decide +kernel
theorem dJ3_checkFromToIndex_8c36e_14 : decode cJ3_checkFromToIndex_8c36e 14 = .ok (.aload_n 3, 1) := by decide +kernel
theorem dJ3_checkFromToIndex_8c36e_15 : decode cJ3_checkFromToIndex_8c36e 15 = .ok (.iload_n 0, 1) := by decide +kernel
theorem dJ3_checkFromToIndex_8c36e_16 : decode cJ3_checkFromToIndex_8c36e 16 = .ok (.iload_n 1, 1) := by decide +kernel
theorem dJ3_checkFromToIndex_8c36e_17 : decode cJ3_checkFromToIndex_8c36e 17 = .ok (.iload_n 2, 1) := by decide +kernel
theorem dJ3_checkFromToIndex_8c36e_18 : decode cJ3_checkFromToIndex_8c36e 18 = .ok (.invokestatic 99, 3) := by decide +kernel
theorem dJ3_checkFromToIndex_8c36e_21 : decode cJ3_checkFromToIndex_8c36e 21 = .ok (.athrow, 1) := by decide +kernel
theorem dJ3_checkFromToIndex_8c36e_22 : decode cJ3_checkFromToIndex_8c36e 22 = .ok (.iload_n 0, 1) := by decide +kernel
theorem dJ3_checkFromToIndex_8c36e_23 : decode cJ3_checkFromToIndex_8c36e 23 = .ok (.ireturn, 1) := by decide +kernel
theorem dX10_init_0 : decode cX10_init 0 = .ok (.aload_n 0, 1) := by decide +kernel
theorem dX10_init_1 : decode cX10_init 1 = .ok (.invokespecial 3, 3) := by decide +kernel
theorem dX10_init_4 : decode cX10_init 4 = .ok (.aload_n 0, 1) := by decide +kernel
theorem dX10_init_5 : decode cX10_init 5 = .ok (.bipush 16, 2) := by decide +kernel
theorem dX10_init_7 : decode cX10_init 7 = .ok (.newarray .int, 2) := by decide +kernel
theorem dX10_init_9 : decode cX10_init 9 = .ok (.putfield 9, 3) := by decide +kernel
theorem dX10_init_12 : decode cX10_init 12 = .ok (.aload_n 0, 1) := by decide +kernel
theorem dX10_init_13 : decode cX10_init 13 = .ok (.bipush 16, 2) := by decide +kernel
theorem dX10_init_15 : decode cX10_init 15 = .ok (.newarray .int, 2) := by decide +kernel
theorem dX10_init_17 : decode cX10_init 17 = .ok (.putfield 15, 3) := by decide +kernel
theorem dX10_init_20 : decode cX10_init 20 = .ok (.aload_n 0, 1) := by decide +kernel
theorem dX10_init_21 : decode cX10_init 21 = .ok (.bipush 8, 2) := by decide +kernel
theorem dX10_init_23 : decode cX10_init 23 = .ok (.newarray .int, 2) := by decide +kernel
theorem dX10_init_25 : decode cX10_init 25 = .ok (.putfield 18, 3) := by decide +kernel
theorem dX10_init_28 : decode cX10_init 28 = .ok (.aload_n 0, 1) := by decide +kernel
theorem dX10_init_29 : decode cX10_init 29 = .ok (.bipush 8, 2) := by decide +kernel
theorem dX10_init_31 : decode cX10_init 31 = .ok (.newarray .int, 2) := by decide +kernel
theorem dX10_init_33 : decode cX10_init 33 = .ok (.putfield 21, 3) := by decide +kernel
theorem dX10_init_36 : decode cX10_init 36 = .ok (.aload_n 0, 1) := by decide +kernel
theorem dX10_init_37 : decode cX10_init 37 = .ok (.bipush 8, 2) := by decide +kernel
theorem dX10_init_39 : decode cX10_init 39 = .ok (.newarray .int, 2) := by decide +kernel
theorem dX10_init_41 : decode cX10_init 41 = .ok (.putfield 24, 3) := by decide +kernel
theorem dX10_init_44 : decode cX10_init 44 = .ok (.aload_n 0, 1) := by decide +kernel
theorem dX10_init_45 : decode cX10_init 45 = .ok (.bipush 8, 2) := by decide +kernel
theorem dX10_init_47 : decode cX10_init 47 = .ok (.newarray .int, 2) := by decide +kernel
theorem dX10_init_49 : decode cX10_init 49 = .ok (.putfield 27, 3) := by decide +kernel
theorem dX10_init_52 : decode cX10_init 52 = .ok (.aload_n 0, 1) := by decide +kernel
theorem dX10_init_53 : decode cX10_init 53 = .ok (.bipush 8, 2) := by decide +kernel
theorem dX10_init_55 : decode cX10_init 55 = .ok (.newarray .int, 2) := by decide +kernel
theorem dX10_init_57 : decode cX10_init 57 = .ok (.putfield 30, 3) := by decide +kernel
theorem dX10_init_60 : decode cX10_init 60 = .ok (.aload_n 0, 1) := by decide +kernel
theorem dX10_init_61 : decode cX10_init 61 = .ok (.bipush 8, 2) := by decide +kernel
theorem dX10_init_63 : decode cX10_init 63 = .ok (.newarray .int, 2) := by decide +kernel
theorem dX10_init_65 : decode cX10_init 65 = .ok (.putfield 33, 3) := by decide +kernel
theorem dX10_init_68 : decode cX10_init 68 = .ok (.aload_n 0, 1) := by decide +kernel
theorem dX10_init_69 : decode cX10_init 69 = .ok (.iconst 1, 1) := by decide +kernel
theorem dX10_init_70 : decode cX10_init 70 = .ok (.putfield 36, 3) := by decide +kernel
theorem dX10_init_73 : decode cX10_init 73 = .ok (.aload_n 0, 1) := by decide +kernel
theorem dX10_init_74 : decode cX10_init 74 = .ok (.bipush 7, 2) := by decide +kernel
theorem dX10_init_76 : decode cX10_init 76 = .ok (.putfield 40, 3) := by decide +kernel
theorem dX10_init_79 : decode cX10_init 79 = .ok (.aload_n 0, 1) := by decide +kernel
theorem dX10_init_80 : decode cX10_init 80 = .ok (.aload_n 1, 1) := by decide +kernel
theorem dX10_init_81 : decode cX10_init 81 = .ok (.putfield 43, 3) := by decide +kernel
theorem dX10_init_84 : decode cX10_init 84 = .ok (.iconst 0, 1) := by decide +kernel
theorem dX10_init_85 : decode cX10_init 85 = .ok (.istore_n 2, 1) := by decide +kernel
theorem dX10_init_86 : decode cX10_init 86 = .ok (.iload_n 2, 1) := by decide +kernel
theorem dX10_init_87 : decode cX10_init 87 = .ok (.bipush 16, 2) := by decide +kernel
theorem dX10_init_89 : decode cX10_init 89 = .ok (.if_icmp .ge 28, 3) := by decide +kernel
theorem dX10_init_92 : decode cX10_init 92 = .ok (.aload_n 0, 1) := by decide +kernel
theorem dX10_init_93 : decode cX10_init 93 = .ok (.getfield 9, 3) := by decide +kernel
theorem dX10_init_96 : decode cX10_init 96 = .ok (.iload_n 2, 1) := by decide +kernel
theorem dX10_init_97 : decode cX10_init 97 = .ok (.iconst 3, 1) := by decide +kernel
theorem dX10_init_98 : decode cX10_init 98 = .ok (.iastore, 1) := by decide +kernel
theorem dX10_init_99 : decode cX10_init 99 = .ok (.aload_n 0, 1) := by decide +kernel
theorem dX10_init_100 : decode cX10_init 100 = .ok (.getfield 15, 3) := by decide +kernel
theorem dX10_init_103 : decode cX10_init 103 = .ok (.iload_n 2, 1) := by decide +kernel
theorem dX10_init_104 : decode cX10_init 104 = .ok (.iload_n 2, 1) := by decide +kernel
theorem dX10_init_105 : decode cX10_init 105 = .ok (.iconst 1, 1) := by decide +kernel
theorem dX10_init_106 : decode cX10_init 106 = .ok (.iadd, 1) := by decide +kernel
theorem dX10_init_107 : decode cX10_init 107 = .ok (.bipush 16, 2) := by decide +kernel
theorem dX10_init_109 : decode cX10_init 109 = .ok (.irem, 1) := by decide +kernel
theorem dX10_init_110 : decode cX10_init 110 = .ok (.iastore, 1) := by decide +kernel
theorem dX10_init_111 : decode cX10_init 111 = .ok (.iinc 2 1, 3) := by decide +kernel
theorem dX10_init_114 : decode cX10_init 114 = .ok (.goto (-28), 3) := by decide +kernel
theorem dX10_init_117 : decode cX10_init 117 = .ok (.return_, 1) := by decide +kernel
theorem dX10_copy_0 : decode cX10_copy 0 = .ok (.aload_n 1, 1) := by decide +kernel
theorem dX10_copy_1 : decode cX10_copy 1 = .ok (.getfield 9, 3) := by decide +kernel
theorem dX10_copy_4 : decode cX10_copy 4 = .ok (.iconst 0, 1) := by decide +kernel
theorem dX10_copy_5 : decode cX10_copy 5 = .ok (.aload_n 0, 1) := by decide +kernel
theorem dX10_copy_6 : decode cX10_copy 6 = .ok (.getfield 9, 3) := by decide +kernel
theorem dX10_copy_9 : decode cX10_copy 9 = .ok (.iconst 0, 1) := by decide +kernel
theorem dX10_copy_10 : decode cX10_copy 10 = .ok (.bipush 16, 2) := by decide +kernel
theorem dX10_copy_12 : decode cX10_copy 12 = .ok (.invokestatic 47, 3) := by decide +kernel
theorem dX10_copy_15 : decode cX10_copy 15 = .ok (.aload_n 1, 1) := by decide +kernel
theorem dX10_copy_16 : decode cX10_copy 16 = .ok (.getfield 15, 3) := by decide +kernel
theorem dX10_copy_19 : decode cX10_copy 19 = .ok (.iconst 0, 1) := by decide +kernel
theorem dX10_copy_20 : decode cX10_copy 20 = .ok (.aload_n 0, 1) := by decide +kernel
theorem dX10_copy_21 : decode cX10_copy 21 = .ok (.getfield 15, 3) := by decide +kernel
theorem dX10_copy_24 : decode cX10_copy 24 = .ok (.iconst 0, 1) := by decide +kernel
theorem dX10_copy_25 : decode cX10_copy 25 = .ok (.bipush 16, 2) := by decide +kernel
theorem dX10_copy_27 : decode cX10_copy 27 = .ok (.invokestatic 47, 3) := by decide +kernel
theorem dX10_copy_30 : decode cX10_copy 30 = .ok (.aload_n 1, 1) := by decide +kernel
theorem dX10_copy_31 : decode cX10_copy 31 = .ok (.getfield 18, 3) := by decide +kernel
theorem dX10_copy_34 : decode cX10_copy 34 = .ok (.iconst 0, 1) := by decide +kernel
theorem dX10_copy_35 : decode cX10_copy 35 = .ok (.aload_n 0, 1) := by decide +kernel
theorem dX10_copy_36 : decode cX10_copy 36 = .ok (.getfield 18, 3) := by decide +kernel
theorem dX10_copy_39 : decode cX10_copy 39 = .ok (.iconst 0, 1) := by decide +kernel
theorem dX10_copy_40 : decode cX10_copy 40 = .ok (.bipush 8, 2) := by decide +kernel
theorem dX10_copy_42 : decode cX10_copy 42 = .ok (.invokestatic 47, 3) := by decide +kernel
theorem dX10_copy_45 : decode cX10_copy 45 = .ok (.aload_n 1, 1) := by decide +kernel
theorem dX10_copy_46 : decode cX10_copy 46 = .ok (.getfield 21, 3) := by decide +kernel
theorem dX10_copy_49 : decode cX10_copy 49 = .ok (.iconst 0, 1) := by decide +kernel
theorem dX10_copy_50 : decode cX10_copy 50 = .ok (.aload_n 0, 1) := by decide +kernel
theorem dX10_copy_51 : decode cX10_copy 51 = .ok (.getfield 21, 3) := by decide +kernel
theorem dX10_copy_54 : decode cX10_copy 54 = .ok (.iconst 0, 1) := by decide +kernel
theorem dX10_copy_55 : decode cX10_copy 55 = .ok (.bipush 8, 2) := by decide +kernel
theorem dX10_copy_57 : decode cX10_copy 57 = .ok (.invokestatic 47, 3) := by decide +kernel
theorem dX10_copy_60 : decode cX10_copy 60 = .ok (.aload_n 1, 1) := by decide +kernel
theorem dX10_copy_61 : decode cX10_copy 61 = .ok (.getfield 24, 3) := by decide +kernel
theorem dX10_copy_64 : decode cX10_copy 64 = .ok (.iconst 0, 1) := by decide +kernel
theorem dX10_copy_65 : decode cX10_copy 65 = .ok (.aload_n 0, 1) := by decide +kernel
theorem dX10_copy_66 : decode cX10_copy 66 = .ok (.getfield 24, 3) := by decide +kernel
theorem dX10_copy_69 : decode cX10_copy 69 = .ok (.iconst 0, 1) := by decide +kernel
theorem dX10_copy_70 : decode cX10_copy 70 = .ok (.bipush 8, 2) := by decide +kernel
theorem dX10_copy_72 : decode cX10_copy 72 = .ok (.invokestatic 47, 3) := by decide +kernel
theorem dX10_copy_75 : decode cX10_copy 75 = .ok (.aload_n 1, 1) := by decide +kernel
theorem dX10_copy_76 : decode cX10_copy 76 = .ok (.getfield 27, 3) := by decide +kernel
theorem dX10_copy_79 : decode cX10_copy 79 = .ok (.iconst 0, 1) := by decide +kernel
theorem dX10_copy_80 : decode cX10_copy 80 = .ok (.aload_n 0, 1) := by decide +kernel
theorem dX10_copy_81 : decode cX10_copy 81 = .ok (.getfield 27, 3) := by decide +kernel
theorem dX10_copy_84 : decode cX10_copy 84 = .ok (.iconst 0, 1) := by decide +kernel
theorem dX10_copy_85 : decode cX10_copy 85 = .ok (.bipush 8, 2) := by decide +kernel
theorem dX10_copy_87 : decode cX10_copy 87 = .ok (.invokestatic 47, 3) := by decide +kernel
theorem dX10_copy_90 : decode cX10_copy 90 = .ok (.aload_n 1, 1) := by decide +kernel
theorem dX10_copy_91 : decode cX10_copy 91 = .ok (.getfield 30, 3) := by decide +kernel
theorem dX10_copy_94 : decode cX10_copy 94 = .ok (.iconst 0, 1) := by decide +kernel
theorem dX10_copy_95 : decode cX10_copy 95 = .ok (.aload_n 0, 1) := by decide +kernel
theorem dX10_copy_96 : decode cX10_copy 96 = .ok (.getfield 30, 3) := by decide +kernel
theorem dX10_copy_99 : decode cX10_copy 99 = .ok (.iconst 0, 1) := by decide +kernel
theorem dX10_copy_100 : decode cX10_copy 100 = .ok (.bipush 8, 2) := by decide +kernel
theorem dX10_copy_102 : decode cX10_copy 102 = .ok (.invokestatic 47, 3) := by decide +kernel
theorem dX10_copy_105 : decode cX10_copy 105 = .ok (.aload_n 1, 1) := by decide +kernel
theorem dX10_copy_106 : decode cX10_copy 106 = .ok (.getfield 33, 3) := by decide +kernel
theorem dX10_copy_109 : decode cX10_copy 109 = .ok (.iconst 0, 1) := by decide +kernel
theorem dX10_copy_110 : decode cX10_copy 110 = .ok (.aload_n 0, 1) := by decide +kernel
theorem dX10_copy_111 : decode cX10_copy 111 = .ok (.getfield 33, 3) := by decide +kernel
theorem dX10_copy_114 : decode cX10_copy 114 = .ok (.iconst 0, 1) := by decide +kernel
theorem dX10_copy_115 : decode cX10_copy 115 = .ok (.bipush 8, 2) := by decide +kernel
theorem dX10_copy_117 : decode cX10_copy 117 = .ok (.invokestatic 47, 3) := by decide +kernel
theorem dX10_copy_120 : decode cX10_copy 120 = .ok (.aload_n 0, 1) := by decide +kernel
theorem dX10_copy_121 : decode cX10_copy 121 = .ok (.aload_n 1, 1) := by decide +kernel
theorem dX10_copy_122 : decode cX10_copy 122 = .ok (.getfield 53, 3) := by decide +kernel
theorem dX10_copy_125 : decode cX10_copy 125 = .ok (.putfield 53, 3) := by decide +kernel
theorem dX10_copy_128 : decode cX10_copy 128 = .ok (.aload_n 0, 1) := by decide +kernel
theorem dX10_copy_129 : decode cX10_copy 129 = .ok (.aload_n 1, 1) := by decide +kernel
theorem dX10_copy_130 : decode cX10_copy 130 = .ok (.getfield 36, 3) := by decide +kernel
theorem dX10_copy_133 : decode cX10_copy 133 = .ok (.putfield 36, 3) := by decide +kernel
theorem dX10_copy_136 : decode cX10_copy 136 = .ok (.aload_n 0, 1) := by decide +kernel
theorem dX10_copy_137 : decode cX10_copy 137 = .ok (.aload_n 1, 1) := by decide +kernel
theorem dX10_copy_138 : decode cX10_copy 138 = .ok (.getfield 40, 3) := by decide +kernel
theorem dX10_copy_141 : decode cX10_copy 141 = .ok (.putfield 40, 3) := by decide +kernel
theorem dX10_copy_144 : decode cX10_copy 144 = .ok (.aload_n 0, 1) := by decide +kernel
theorem dX10_copy_145 : decode cX10_copy 145 = .ok (.aload_n 1, 1) := by decide +kernel
theorem dX10_copy_146 : decode cX10_copy 146 = .ok (.getfield 56, 3) := by decide +kernel
theorem dX10_copy_149 : decode cX10_copy 149 = .ok (.putfield 56, 3) := by decide +kernel
theorem dX10_copy_152 : decode cX10_copy 152 = .ok (.aload_n 0, 1) := by decide +kernel
theorem dX10_copy_153 : decode cX10_copy 153 = .ok (.aload_n 1, 1) := by decide +kernel
theorem dX10_copy_154 : decode cX10_copy 154 = .ok (.getfield 59, 3) := by decide +kernel
theorem dX10_copy_157 : decode cX10_copy 157 = .ok (.putfield 59, 3) := by decide +kernel
theorem dX10_copy_160 : decode cX10_copy 160 = .ok (.return_, 1) := by decide +kernel
theorem dX10_welcome_0 : decode cX10_welcome 0 = .ok (.aload_n 0, 1) := by decide +kernel
theorem dX10_welcome_1 : decode cX10_welcome 1 = .ok (.getfield 53, 3) := by decide +kernel
theorem dX10_welcome_4 : decode cX10_welcome 4 = .ok (.istore 4, 2) := by decide +kernel
theorem dX10_welcome_6 : decode cX10_welcome 6 = .ok (.iload 4, 2) := by decide +kernel
theorem dX10_welcome_8 : decode cX10_welcome 8 = .ok (.ifCond .lt 10, 3) := by decide +kernel
theorem dX10_welcome_11 : decode cX10_welcome 11 = .ok (.iload 4, 2) := by decide +kernel
theorem dX10_welcome_13 : decode cX10_welcome 13 = .ok (.bipush 8, 2) := by decide +kernel
theorem dX10_welcome_15 : decode cX10_welcome 15 = .ok (.if_icmp .lt 5, 3) := by decide +kernel
theorem dX10_welcome_18 : decode cX10_welcome 18 = .ok (.iconst (-1), 1) := by decide +kernel
theorem dX10_welcome_19 : decode cX10_welcome 19 = .ok (.ireturn, 1) := by decide +kernel
theorem dX10_welcome_20 : decode cX10_welcome 20 = .ok (.aload_n 0, 1) := by decide +kernel
theorem dX10_welcome_21 : decode cX10_welcome 21 = .ok (.getfield 18, 3) := by decide +kernel
theorem dX10_welcome_24 : decode cX10_welcome 24 = .ok (.iload 4, 2) := by decide +kernel
theorem dX10_welcome_26 : decode cX10_welcome 26 = .ok (.iload_n 1, 1) := by decide +kernel
theorem dX10_welcome_27 : decode cX10_welcome 27 = .ok (.bipush 10, 2) := by decide +kernel
theorem dX10_welcome_29 : decode cX10_welcome 29 = .ok (.idiv, 1) := by decide +kernel
theorem dX10_welcome_30 : decode cX10_welcome 30 = .ok (.iastore, 1) := by decide +kernel
theorem dX10_welcome_31 : decode cX10_welcome 31 = .ok (.aload_n 0, 1) := by decide +kernel
theorem dX10_welcome_32 : decode cX10_welcome 32 = .ok (.getfield 21, 3) := by decide +kernel
theorem dX10_welcome_35 : decode cX10_welcome 35 = .ok (.iload 4, 2) := by decide +kernel
theorem dX10_welcome_37 : decode cX10_welcome 37 = .ok (.iload_n 1, 1) := by decide +kernel
theorem dX10_welcome_38 : decode cX10_welcome 38 = .ok (.bipush 10, 2) := by decide +kernel
theorem dX10_welcome_40 : decode cX10_welcome 40 = .ok (.irem, 1) := by decide +kernel
theorem dX10_welcome_41 : decode cX10_welcome 41 = .ok (.iastore, 1) := by decide +kernel
theorem dX10_welcome_42 : decode cX10_welcome 42 = .ok (.aload_n 0, 1) := by decide +kernel
theorem dX10_welcome_43 : decode cX10_welcome 43 = .ok (.getfield 24, 3) := by decide +kernel
theorem dX10_welcome_46 : decode cX10_welcome 46 = .ok (.iload 4, 2) := by decide +kernel
theorem dX10_welcome_48 : decode cX10_welcome 48 = .ok (.iload_n 2, 1) := by decide +kernel
theorem dX10_welcome_49 : decode cX10_welcome 49 = .ok (.iastore, 1) := by decide +kernel
theorem dX10_welcome_50 : decode cX10_welcome 50 = .ok (.aload_n 0, 1) := by decide +kernel
theorem dX10_welcome_51 : decode cX10_welcome 51 = .ok (.getfield 33, 3) := by decide +kernel
theorem dX10_welcome_54 : decode cX10_welcome 54 = .ok (.iload 4, 2) := by decide +kernel
theorem dX10_welcome_56 : decode cX10_welcome 56 = .ok (.iconst 0, 1) := by decide +kernel
theorem dX10_welcome_57 : decode cX10_welcome 57 = .ok (.iastore, 1) := by decide +kernel
theorem dX10_welcome_58 : decode cX10_welcome 58 = .ok (.aload_n 0, 1) := by decide +kernel
theorem dX10_welcome_59 : decode cX10_welcome 59 = .ok (.iload 4, 2) := by decide +kernel
theorem dX10_welcome_61 : decode cX10_welcome 61 = .ok (.iload_n 3, 1) := by decide +kernel
theorem dX10_welcome_62 : decode cX10_welcome 62 = .ok (.invokevirtual 62, 3) := by decide +kernel
theorem dX10_welcome_65 : decode cX10_welcome 65 = .ok (.aload_n 0, 1) := by decide +kernel
theorem dX10_welcome_66 : decode cX10_welcome 66 = .ok (.dup, 1) := by decide +kernel
theorem dX10_welcome_67 : decode cX10_welcome 67 = .ok (.getfield 53, 3) := by decide +kernel
theorem dX10_welcome_70 : decode cX10_welcome 70 = .ok (.iconst 1, 1) := by decide +kernel
theorem dX10_welcome_71 : decode cX10_welcome 71 = .ok (.iadd, 1) := by decide +kernel
theorem dX10_welcome_72 : decode cX10_welcome 72 = .ok (.putfield 53, 3) := by decide +kernel
theorem dX10_welcome_75 : decode cX10_welcome 75 = .ok (.iload 4, 2) := by decide +kernel
theorem dX10_welcome_77 : decode cX10_welcome 77 = .ok (.ireturn, 1) := by decide +kernel
theorem dX10_setLeft_0 : decode cX10_setLeft 0 = .ok (.aload_n 0, 1) := by decide +kernel
theorem dX10_setLeft_1 : decode cX10_setLeft 1 = .ok (.getfield 27, 3) := by decide +kernel
theorem dX10_setLeft_4 : decode cX10_setLeft 4 = .ok (.iload_n 1, 1) := by decide +kernel
theorem dX10_setLeft_5 : decode cX10_setLeft 5 = .ok (.iload_n 2, 1) := by decide +kernel
theorem dX10_setLeft_6 : decode cX10_setLeft 6 = .ok (.iastore, 1) := by decide +kernel
theorem dX10_setLeft_7 : decode cX10_setLeft 7 = .ok (.aload_n 0, 1) := by decide +kernel
theorem dX10_setLeft_8 : decode cX10_setLeft 8 = .ok (.getfield 30, 3) := by decide +kernel
theorem dX10_setLeft_11 : decode cX10_setLeft 11 = .ok (.iload_n 1, 1) := by decide +kernel
theorem dX10_setLeft_12 : decode cX10_setLeft 12 = .ok (.iload_n 2, 1) := by decide +kernel
theorem dX10_setLeft_13 : decode cX10_setLeft 13 = .ok (.ifCond .ne 12, 3) := by decide +kernel
theorem dX10_setLeft_16 : decode cX10_setLeft 16 = .ok (.aload_n 0, 1) := by decide +kernel
theorem dX10_setLeft_17 : decode cX10_setLeft 17 = .ok (.getfield 24, 3) := by decide +kernel
theorem dX10_setLeft_20 : decode cX10_setLeft 20 = .ok (.iload_n 1, 1) := by decide +kernel
theorem dX10_setLeft_21 : decode cX10_setLeft 21 = .ok (.iaload, 1) := by decide +kernel
theorem dX10_setLeft_22 : decode cX10_setLeft 22 = .ok (.goto 4, 3) := by decide +kernel
theorem dX10_setLeft_25 : decode cX10_setLeft 25 = .ok (.iconst (-1), 1) := by decide +kernel
theorem dX10_setLeft_26 : decode cX10_setLeft 26 = .ok (.iastore, 1) := by decide +kernel
theorem dX10_setLeft_27 : decode cX10_setLeft 27 = .ok (.return_, 1) := by decide +kernel
theorem dX10_isDust_0 : decode cX10_isDust 0 = .ok (.aload_n 0, 1) := by decide +kernel
theorem dX10_isDust_1 : decode cX10_isDust 1 = .ok (.getfield 27, 3) := by decide +kernel
theorem dX10_isDust_4 : decode cX10_isDust 4 = .ok (.iload_n 1, 1) := by decide +kernel
theorem dX10_isDust_5 : decode cX10_isDust 5 = .ok (.iaload, 1) := by decide +kernel
theorem dX10_isDust_6 : decode cX10_isDust 6 = .ok (.ifCond .ne 7, 3) := by decide +kernel
theorem dX10_isDust_9 : decode cX10_isDust 9 = .ok (.iconst 1, 1) := by decide +kernel
theorem dX10_isDust_10 : decode cX10_isDust 10 = .ok (.goto 4, 3) := by decide +kernel
theorem dX10_isDust_13 : decode cX10_isDust 13 = .ok (.iconst 0, 1) := by decide +kernel
theorem dX10_isDust_14 : decode cX10_isDust 14 = .ok (.ireturn, 1) := by decide +kernel
theorem dX10_kindOf_0 : decode cX10_kindOf 0 = .ok (.aload_n 0, 1) := by decide +kernel
theorem dX10_kindOf_1 : decode cX10_kindOf 1 = .ok (.getfield 18, 3) := by decide +kernel
theorem dX10_kindOf_4 : decode cX10_kindOf 4 = .ok (.iload_n 1, 1) := by decide +kernel
theorem dX10_kindOf_5 : decode cX10_kindOf 5 = .ok (.iaload, 1) := by decide +kernel
theorem dX10_kindOf_6 : decode cX10_kindOf 6 = .ok (.istore_n 2, 1) := by decide +kernel
theorem dX10_kindOf_7 : decode cX10_kindOf 7 = .ok (.aload_n 0, 1) := by decide +kernel
theorem dX10_kindOf_8 : decode cX10_kindOf 8 = .ok (.getfield 43, 3) := by decide +kernel
theorem dX10_kindOf_11 : decode cX10_kindOf 11 = .ok (.iload_n 2, 1) := by decide +kernel
theorem dX10_kindOf_12 : decode cX10_kindOf 12 = .ok (.ifCond .lt 16, 3) := by decide +kernel
theorem dX10_kindOf_15 : decode cX10_kindOf 15 = .ok (.iload_n 2, 1) := by decide +kernel
theorem dX10_kindOf_16 : decode cX10_kindOf 16 = .ok (.aload_n 0, 1) := by decide +kernel
theorem dX10_kindOf_17 : decode cX10_kindOf 17 = .ok (.getfield 43, 3) := by decide +kernel
theorem dX10_kindOf_20 : decode cX10_kindOf 20 = .ok (.arraylength, 1) := by decide +kernel
theorem dX10_kindOf_21 : decode cX10_kindOf 21 = .ok (.if_icmp .ge 7, 3) := by decide +kernel
theorem dX10_kindOf_24 : decode cX10_kindOf 24 = .ok (.iload_n 2, 1) := by decide +kernel
theorem dX10_kindOf_25 : decode cX10_kindOf 25 = .ok (.goto 4, 3) := by decide +kernel
theorem dX10_kindOf_28 : decode cX10_kindOf 28 = .ok (.iconst 0, 1) := by decide +kernel
theorem dX10_kindOf_29 : decode cX10_kindOf 29 = .ok (.aaload, 1) := by decide +kernel
theorem dX10_kindOf_30 : decode cX10_kindOf 30 = .ok (.areturn, 1) := by decide +kernel
theorem dX10_sunOf_0 : decode cX10_sunOf 0 = .ok (.iload_n 1, 1) := by decide +kernel
theorem dX10_sunOf_1 : decode cX10_sunOf 1 = .ok (.ifCond .lt 18, 3) := by decide +kernel
theorem dX10_sunOf_4 : decode cX10_sunOf 4 = .ok (.iload_n 1, 1) := by decide +kernel
theorem dX10_sunOf_5 : decode cX10_sunOf 5 = .ok (.bipush 16, 2) := by decide +kernel
theorem dX10_sunOf_7 : decode cX10_sunOf 7 = .ok (.if_icmp .ge 12, 3) := by decide +kernel
theorem dX10_sunOf_10 : decode cX10_sunOf 10 = .ok (.aload_n 0, 1) := by decide +kernel
theorem dX10_sunOf_11 : decode cX10_sunOf 11 = .ok (.getfield 9, 3) := by decide +kernel
theorem dX10_sunOf_14 : decode cX10_sunOf 14 = .ok (.iload_n 1, 1) := by decide +kernel
theorem dX10_sunOf_15 : decode cX10_sunOf 15 = .ok (.iaload, 1) := by decide +kernel
theorem dX10_sunOf_16 : decode cX10_sunOf 16 = .ok (.goto 4, 3) := by decide +kernel
theorem dX10_sunOf_19 : decode cX10_sunOf 19 = .ok (.iconst 0, 1) := by decide +kernel
theorem dX10_sunOf_20 : decode cX10_sunOf 20 = .ok (.ireturn, 1) := by decide +kernel
theorem dX10_driftsOf_0 : decode cX10_driftsOf 0 = .ok (.aload_n 0, 1) := by decide +kernel
theorem dX10_driftsOf_1 : decode cX10_driftsOf 1 = .ok (.iload_n 1, 1) := by decide +kernel
theorem dX10_driftsOf_2 : decode cX10_driftsOf 2 = .ok (.invokevirtual 66, 3) := by decide +kernel
theorem dX10_driftsOf_5 : decode cX10_driftsOf 5 = .ok (.iload_n 2, 1) := by decide +kernel
theorem dX10_driftsOf_6 : decode cX10_driftsOf 6 = .ok (.aload_n 0, 1) := by decide +kernel
theorem dX10_driftsOf_7 : decode cX10_driftsOf 7 = .ok (.getfield 21, 3) := by decide +kernel
theorem dX10_driftsOf_10 : decode cX10_driftsOf 10 = .ok (.iload_n 1, 1) := by decide +kernel
theorem dX10_driftsOf_11 : decode cX10_driftsOf 11 = .ok (.iaload, 1) := by decide +kernel
theorem dX10_driftsOf_12 : decode cX10_driftsOf 12 = .ok (.aload_n 0, 1) := by decide +kernel
theorem dX10_driftsOf_13 : decode cX10_driftsOf 13 = .ok (.getfield 59, 3) := by decide +kernel
theorem dX10_driftsOf_16 : decode cX10_driftsOf 16 = .ok (.invokevirtual 70, 3) := by decide +kernel
theorem dX10_driftsOf_19 : decode cX10_driftsOf 19 = .ok (.ireturn, 1) := by decide +kernel
theorem dX10_shinesOf_0 : decode cX10_shinesOf 0 = .ok (.aload_n 0, 1) := by decide +kernel
theorem dX10_shinesOf_1 : decode cX10_shinesOf 1 = .ok (.iload_n 1, 1) := by decide +kernel
theorem dX10_shinesOf_2 : decode cX10_shinesOf 2 = .ok (.invokevirtual 66, 3) := by decide +kernel
theorem dX10_shinesOf_5 : decode cX10_shinesOf 5 = .ok (.aload_n 0, 1) := by decide +kernel
theorem dX10_shinesOf_6 : decode cX10_shinesOf 6 = .ok (.iload_n 2, 1) := by decide +kernel
theorem dX10_shinesOf_7 : decode cX10_shinesOf 7 = .ok (.invokevirtual 76, 3) := by decide +kernel
theorem dX10_shinesOf_10 : decode cX10_shinesOf 10 = .ok (.aload_n 0, 1) := by decide +kernel
theorem dX10_shinesOf_11 : decode cX10_shinesOf 11 = .ok (.getfield 21, 3) := by decide +kernel
theorem dX10_shinesOf_14 : decode cX10_shinesOf 14 = .ok (.iload_n 1, 1) := by decide +kernel
theorem dX10_shinesOf_15 : decode cX10_shinesOf 15 = .ok (.iaload, 1) := by decide +kernel
theorem dX10_shinesOf_16 : decode cX10_shinesOf 16 = .ok (.aload_n 0, 1) := by decide +kernel
theorem dX10_shinesOf_17 : decode cX10_shinesOf 17 = .ok (.getfield 59, 3) := by decide +kernel
theorem dX10_shinesOf_20 : decode cX10_shinesOf 20 = .ok (.invokevirtual 80, 3) := by decide +kernel
theorem dX10_shinesOf_23 : decode cX10_shinesOf 23 = .ok (.ireturn, 1) := by decide +kernel
theorem dX10_needsOf_0 : decode cX10_needsOf 0 = .ok (.aload_n 0, 1) := by decide +kernel
theorem dX10_needsOf_1 : decode cX10_needsOf 1 = .ok (.iload_n 1, 1) := by decide +kernel
theorem dX10_needsOf_2 : decode cX10_needsOf 2 = .ok (.invokevirtual 66, 3) := by decide +kernel
theorem dX10_needsOf_5 : decode cX10_needsOf 5 = .ok (.aload_n 0, 1) := by decide +kernel
theorem dX10_needsOf_6 : decode cX10_needsOf 6 = .ok (.getfield 21, 3) := by decide +kernel
theorem dX10_needsOf_9 : decode cX10_needsOf 9 = .ok (.iload_n 1, 1) := by decide +kernel
theorem dX10_needsOf_10 : decode cX10_needsOf 10 = .ok (.iaload, 1) := by decide +kernel
theorem dX10_needsOf_11 : decode cX10_needsOf 11 = .ok (.invokevirtual 83, 3) := by decide +kernel
theorem dX10_needsOf_14 : decode cX10_needsOf 14 = .ok (.ireturn, 1) := by decide +kernel
theorem dX10_isContent_0 : decode cX10_isContent 0 = .ok (.aload_n 0, 1) := by decide +kernel
theorem dX10_isContent_1 : decode cX10_isContent 1 = .ok (.iload_n 1, 1) := by decide +kernel
theorem dX10_isContent_2 : decode cX10_isContent 2 = .ok (.invokevirtual 86, 3) := by decide +kernel
theorem dX10_isContent_5 : decode cX10_isContent 5 = .ok (.ifCond .eq 40, 3) := by decide +kernel
theorem dX10_isContent_8 : decode cX10_isContent 8 = .ok (.aload_n 0, 1) := by decide +kernel
theorem dX10_isContent_9 : decode cX10_isContent 9 = .ok (.getfield 30, 3) := by decide +kernel
theorem dX10_isContent_12 : decode cX10_isContent 12 = .ok (.iload_n 1, 1) := by decide +kernel
theorem dX10_isContent_13 : decode cX10_isContent 13 = .ok (.iaload, 1) := by decide +kernel
theorem dX10_isContent_14 : decode cX10_isContent 14 = .ok (.aload_n 0, 1) := by decide +kernel
theorem dX10_isContent_15 : decode cX10_isContent 15 = .ok (.getfield 24, 3) := by decide +kernel
theorem dX10_isContent_18 : decode cX10_isContent 18 = .ok (.iload_n 1, 1) := by decide +kernel
theorem dX10_isContent_19 : decode cX10_isContent 19 = .ok (.iaload, 1) := by decide +kernel
theorem dX10_isContent_20 : decode cX10_isContent 20 = .ok (.if_icmp .eq 21, 3) := by decide +kernel
theorem dX10_isContent_23 : decode cX10_isContent 23 = .ok (.aload_n 0, 1) := by decide +kernel
theorem dX10_isContent_24 : decode cX10_isContent 24 = .ok (.aload_n 0, 1) := by decide +kernel
theorem dX10_isContent_25 : decode cX10_isContent 25 = .ok (.getfield 30, 3) := by decide +kernel
theorem dX10_isContent_28 : decode cX10_isContent 28 = .ok (.iload_n 1, 1) := by decide +kernel
theorem dX10_isContent_29 : decode cX10_isContent 29 = .ok (.iaload, 1) := by decide +kernel
theorem dX10_isContent_30 : decode cX10_isContent 30 = .ok (.invokevirtual 76, 3) := by decide +kernel
theorem dX10_isContent_33 : decode cX10_isContent 33 = .ok (.aload_n 0, 1) := by decide +kernel
theorem dX10_isContent_34 : decode cX10_isContent 34 = .ok (.iload_n 1, 1) := by decide +kernel
theorem dX10_isContent_35 : decode cX10_isContent 35 = .ok (.invokevirtual 90, 3) := by decide +kernel
theorem dX10_isContent_38 : decode cX10_isContent 38 = .ok (.if_icmp .lt 7, 3) := by decide +kernel
theorem dX10_isContent_41 : decode cX10_isContent 41 = .ok (.iconst 1, 1) := by decide +kernel
theorem dX10_isContent_42 : decode cX10_isContent 42 = .ok (.goto 4, 3) := by decide +kernel
theorem dX10_isContent_45 : decode cX10_isContent 45 = .ok (.iconst 0, 1) := by decide +kernel
theorem dX10_isContent_46 : decode cX10_isContent 46 = .ok (.ireturn, 1) := by decide +kernel
theorem dX10_areContent_0 : decode cX10_areContent 0 = .ok (.iconst 0, 1) := by decide +kernel
theorem dX10_areContent_1 : decode cX10_areContent 1 = .ok (.istore_n 2, 1) := by decide +kernel
theorem dX10_areContent_2 : decode cX10_areContent 2 = .ok (.iload_n 2, 1) := by decide +kernel
theorem dX10_areContent_3 : decode cX10_areContent 3 = .ok (.aload_n 0, 1) := by decide +kernel
theorem dX10_areContent_4 : decode cX10_areContent 4 = .ok (.getfield 53, 3) := by decide +kernel
theorem dX10_areContent_7 : decode cX10_areContent 7 = .ok (.if_icmp .ge 28, 3) := by decide +kernel
theorem dX10_areContent_10 : decode cX10_areContent 10 = .ok (.iload_n 1, 1) := by decide +kernel
theorem dX10_areContent_11 : decode cX10_areContent 11 = .ok (.iload_n 2, 1) := by decide +kernel
theorem dX10_areContent_12 : decode cX10_areContent 12 = .ok (.ishr, 1) := by decide +kernel
theorem dX10_areContent_13 : decode cX10_areContent 13 = .ok (.iconst 1, 1) := by decide +kernel
theorem dX10_areContent_14 : decode cX10_areContent 14 = .ok (.iand, 1) := by decide +kernel
theorem dX10_areContent_15 : decode cX10_areContent 15 = .ok (.iconst 1, 1) := by decide +kernel
theorem dX10_areContent_16 : decode cX10_areContent 16 = .ok (.if_icmp .ne 13, 3) := by decide +kernel
theorem dX10_areContent_19 : decode cX10_areContent 19 = .ok (.aload_n 0, 1) := by decide +kernel
theorem dX10_areContent_20 : decode cX10_areContent 20 = .ok (.iload_n 2, 1) := by decide +kernel
theorem dX10_areContent_21 : decode cX10_areContent 21 = .ok (.invokevirtual 93, 3) := by decide +kernel
theorem dX10_areContent_24 : decode cX10_areContent 24 = .ok (.ifCond .ne 5, 3) := by decide +kernel
theorem dX10_areContent_27 : decode cX10_areContent 27 = .ok (.iconst 0, 1) := by decide +kernel
theorem dX10_areContent_28 : decode cX10_areContent 28 = .ok (.ireturn, 1) := by decide +kernel
theorem dX10_areContent_29 : decode cX10_areContent 29 = .ok (.iinc 2 1, 3) := by decide +kernel
theorem dX10_areContent_32 : decode cX10_areContent 32 = .ok (.goto (-30), 3) := by decide +kernel
theorem dX10_areContent_35 : decode cX10_areContent 35 = .ok (.iconst 1, 1) := by decide +kernel
theorem dX10_areContent_36 : decode cX10_areContent 36 = .ok (.ireturn, 1) := by decide +kernel
theorem dX10_dust_0 : decode cX10_dust 0 = .ok (.iconst 0, 1) := by decide +kernel
theorem dX10_dust_1 : decode cX10_dust 1 = .ok (.istore_n 1, 1) := by decide +kernel
theorem dX10_dust_2 : decode cX10_dust 2 = .ok (.iconst 0, 1) := by decide +kernel
theorem dX10_dust_3 : decode cX10_dust 3 = .ok (.istore_n 2, 1) := by decide +kernel
theorem dX10_dust_4 : decode cX10_dust 4 = .ok (.iload_n 2, 1) := by decide +kernel
theorem dX10_dust_5 : decode cX10_dust 5 = .ok (.aload_n 0, 1) := by decide +kernel
theorem dX10_dust_6 : decode cX10_dust 6 = .ok (.getfield 53, 3) := by decide +kernel
theorem dX10_dust_9 : decode cX10_dust 9 = .ok (.if_icmp .ge 23, 3) := by decide +kernel
theorem dX10_dust_12 : decode cX10_dust 12 = .ok (.aload_n 0, 1) := by decide +kernel
theorem dX10_dust_13 : decode cX10_dust 13 = .ok (.iload_n 2, 1) := by decide +kernel
theorem dX10_dust_14 : decode cX10_dust 14 = .ok (.invokevirtual 86, 3) := by decide +kernel
theorem dX10_dust_17 : decode cX10_dust 17 = .ok (.ifCond .eq 9, 3) := by decide +kernel
theorem dX10_dust_20 : decode cX10_dust 20 = .ok (.iload_n 1, 1) := by decide +kernel
theorem dX10_dust_21 : decode cX10_dust 21 = .ok (.iconst 1, 1) := by decide +kernel
theorem dX10_dust_22 : decode cX10_dust 22 = .ok (.iload_n 2, 1) := by decide +kernel
theorem dX10_dust_23 : decode cX10_dust 23 = .ok (.ishl, 1) := by decide +kernel
theorem dX10_dust_24 : decode cX10_dust 24 = .ok (.ior, 1) := by decide +kernel
theorem dX10_dust_25 : decode cX10_dust 25 = .ok (.istore_n 1, 1) := by decide +kernel
theorem dX10_dust_26 : decode cX10_dust 26 = .ok (.iinc 2 1, 3) := by decide +kernel
theorem dX10_dust_29 : decode cX10_dust 29 = .ok (.goto (-25), 3) := by decide +kernel
theorem dX10_dust_32 : decode cX10_dust 32 = .ok (.iload_n 1, 1) := by decide +kernel
theorem dX10_dust_33 : decode cX10_dust 33 = .ok (.ireturn, 1) := by decide +kernel
theorem dX10_dustAt_0 : decode cX10_dustAt 0 = .ok (.iconst 0, 1) := by decide +kernel
theorem dX10_dustAt_1 : decode cX10_dustAt 1 = .ok (.istore_n 2, 1) := by decide +kernel
theorem dX10_dustAt_2 : decode cX10_dustAt 2 = .ok (.iconst 0, 1) := by decide +kernel
theorem dX10_dustAt_3 : decode cX10_dustAt 3 = .ok (.istore_n 3, 1) := by decide +kernel
theorem dX10_dustAt_4 : decode cX10_dustAt 4 = .ok (.iload_n 3, 1) := by decide +kernel
theorem dX10_dustAt_5 : decode cX10_dustAt 5 = .ok (.aload_n 0, 1) := by decide +kernel
theorem dX10_dustAt_6 : decode cX10_dustAt 6 = .ok (.getfield 53, 3) := by decide +kernel
theorem dX10_dustAt_9 : decode cX10_dustAt 9 = .ok (.if_icmp .ge 33, 3) := by decide +kernel
theorem dX10_dustAt_12 : decode cX10_dustAt 12 = .ok (.aload_n 0, 1) := by decide +kernel
theorem dX10_dustAt_13 : decode cX10_dustAt 13 = .ok (.iload_n 3, 1) := by decide +kernel
theorem dX10_dustAt_14 : decode cX10_dustAt 14 = .ok (.invokevirtual 86, 3) := by decide +kernel
theorem dX10_dustAt_17 : decode cX10_dustAt 17 = .ok (.ifCond .eq 19, 3) := by decide +kernel
theorem dX10_dustAt_20 : decode cX10_dustAt 20 = .ok (.aload_n 0, 1) := by decide +kernel
theorem dX10_dustAt_21 : decode cX10_dustAt 21 = .ok (.getfield 30, 3) := by decide +kernel
theorem dX10_dustAt_24 : decode cX10_dustAt 24 = .ok (.iload_n 3, 1) := by decide +kernel
theorem dX10_dustAt_25 : decode cX10_dustAt 25 = .ok (.iaload, 1) := by decide +kernel
theorem dX10_dustAt_26 : decode cX10_dustAt 26 = .ok (.iload_n 1, 1) := by decide +kernel
theorem dX10_dustAt_27 : decode cX10_dustAt 27 = .ok (.if_icmp .ne 9, 3) := by decide +kernel
theorem dX10_dustAt_30 : decode cX10_dustAt 30 = .ok (.iload_n 2, 1) := by decide +kernel
theorem dX10_dustAt_31 : decode cX10_dustAt 31 = .ok (.iconst 1, 1) := by decide +kernel
theorem dX10_dustAt_32 : decode cX10_dustAt 32 = .ok (.iload_n 3, 1) := by decide +kernel
theorem dX10_dustAt_33 : decode cX10_dustAt 33 = .ok (.ishl, 1) := by decide +kernel
theorem dX10_dustAt_34 : decode cX10_dustAt 34 = .ok (.ior, 1) := by decide +kernel
theorem dX10_dustAt_35 : decode cX10_dustAt 35 = .ok (.istore_n 2, 1) := by decide +kernel
theorem dX10_dustAt_36 : decode cX10_dustAt 36 = .ok (.iinc 3 1, 3) := by decide +kernel
theorem dX10_dustAt_39 : decode cX10_dustAt 39 = .ok (.goto (-35), 3) := by decide +kernel
theorem dX10_dustAt_42 : decode cX10_dustAt 42 = .ok (.iload_n 2, 1) := by decide +kernel
theorem dX10_dustAt_43 : decode cX10_dustAt 43 = .ok (.ireturn, 1) := by decide +kernel
theorem dX10_lotsOf_0 : decode cX10_lotsOf 0 = .ok (.iconst 0, 1) := by decide +kernel
theorem dX10_lotsOf_1 : decode cX10_lotsOf 1 = .ok (.istore_n 2, 1) := by decide +kernel
theorem dX10_lotsOf_2 : decode cX10_lotsOf 2 = .ok (.iconst 0, 1) := by decide +kernel
theorem dX10_lotsOf_3 : decode cX10_lotsOf 3 = .ok (.istore_n 3, 1) := by decide +kernel
theorem dX10_lotsOf_4 : decode cX10_lotsOf 4 = .ok (.iload_n 3, 1) := by decide +kernel
theorem dX10_lotsOf_5 : decode cX10_lotsOf 5 = .ok (.aload_n 0, 1) := by decide +kernel
theorem dX10_lotsOf_6 : decode cX10_lotsOf 6 = .ok (.getfield 53, 3) := by decide +kernel
theorem dX10_lotsOf_9 : decode cX10_lotsOf 9 = .ok (.if_icmp .ge 25, 3) := by decide +kernel
theorem dX10_lotsOf_12 : decode cX10_lotsOf 12 = .ok (.aload_n 0, 1) := by decide +kernel
theorem dX10_lotsOf_13 : decode cX10_lotsOf 13 = .ok (.getfield 24, 3) := by decide +kernel
theorem dX10_lotsOf_16 : decode cX10_lotsOf 16 = .ok (.iload_n 3, 1) := by decide +kernel
theorem dX10_lotsOf_17 : decode cX10_lotsOf 17 = .ok (.iaload, 1) := by decide +kernel
theorem dX10_lotsOf_18 : decode cX10_lotsOf 18 = .ok (.iload_n 1, 1) := by decide +kernel
theorem dX10_lotsOf_19 : decode cX10_lotsOf 19 = .ok (.if_icmp .ne 9, 3) := by decide +kernel
theorem dX10_lotsOf_22 : decode cX10_lotsOf 22 = .ok (.iload_n 2, 1) := by decide +kernel
theorem dX10_lotsOf_23 : decode cX10_lotsOf 23 = .ok (.iconst 1, 1) := by decide +kernel
theorem dX10_lotsOf_24 : decode cX10_lotsOf 24 = .ok (.iload_n 3, 1) := by decide +kernel
theorem dX10_lotsOf_25 : decode cX10_lotsOf 25 = .ok (.ishl, 1) := by decide +kernel
theorem dX10_lotsOf_26 : decode cX10_lotsOf 26 = .ok (.ior, 1) := by decide +kernel
theorem dX10_lotsOf_27 : decode cX10_lotsOf 27 = .ok (.istore_n 2, 1) := by decide +kernel
theorem dX10_lotsOf_28 : decode cX10_lotsOf 28 = .ok (.iinc 3 1, 3) := by decide +kernel
theorem dX10_lotsOf_31 : decode cX10_lotsOf 31 = .ok (.goto (-27), 3) := by decide +kernel
theorem dX10_lotsOf_34 : decode cX10_lotsOf 34 = .ok (.iload_n 2, 1) := by decide +kernel
theorem dX10_lotsOf_35 : decode cX10_lotsOf 35 = .ok (.ireturn, 1) := by decide +kernel
theorem dX10_goDays_0 : decode cX10_goDays 0 = .ok (.iconst 0, 1) := by decide +kernel
theorem dX10_goDays_1 : decode cX10_goDays 1 = .ok (.istore_n 3, 1) := by decide +kernel
theorem dX10_goDays_2 : decode cX10_goDays 2 = .ok (.iload_n 3, 1) := by decide +kernel
theorem dX10_goDays_3 : decode cX10_goDays 3 = .ok (.iload_n 1, 1) := by decide +kernel
theorem dX10_goDays_4 : decode cX10_goDays 4 = .ok (.if_icmp .ge 14, 3) := by decide +kernel
theorem dX10_goDays_7 : decode cX10_goDays 7 = .ok (.aload_n 0, 1) := by decide +kernel
theorem dX10_goDays_8 : decode cX10_goDays 8 = .ok (.aload_n 2, 1) := by decide +kernel
theorem dX10_goDays_9 : decode cX10_goDays 9 = .ok (.invokevirtual 96, 3) := by decide +kernel
theorem dX10_goDays_12 : decode cX10_goDays 12 = .ok (.iinc 3 1, 3) := by decide +kernel
theorem dX10_goDays_15 : decode cX10_goDays 15 = .ok (.goto (-13), 3) := by decide +kernel
theorem dX10_goDays_18 : decode cX10_goDays 18 = .ok (.return_, 1) := by decide +kernel
theorem dX10_goDay_0 : decode cX10_goDay 0 = .ok (.aload_n 0, 1) := by decide +kernel
theorem dX10_goDay_1 : decode cX10_goDay 1 = .ok (.aload_n 1, 1) := by decide +kernel
theorem dX10_goDay_2 : decode cX10_goDay 2 = .ok (.getfield 100, 3) := by decide +kernel
theorem dX10_goDay_5 : decode cX10_goDay 5 = .ok (.aload_n 0, 1) := by decide +kernel
theorem dX10_goDay_6 : decode cX10_goDay 6 = .ok (.getfield 36, 3) := by decide +kernel
theorem dX10_goDay_9 : decode cX10_goDay 9 = .ok (.aload_n 0, 1) := by decide +kernel
theorem dX10_goDay_10 : decode cX10_goDay 10 = .ok (.getfield 59, 3) := by decide +kernel
theorem dX10_goDay_13 : decode cX10_goDay 13 = .ok (.bipush 24, 2) := by decide +kernel
theorem dX10_goDay_15 : decode cX10_goDay 15 = .ok (.irem, 1) := by decide +kernel
theorem dX10_goDay_16 : decode cX10_goDay 16 = .ok (.aload_n 0, 1) := by decide +kernel
theorem dX10_goDay_17 : decode cX10_goDay 17 = .ok (.invokevirtual 106, 3) := by decide +kernel
theorem dX10_goDay_20 : decode cX10_goDay 20 = .ok (.invokestatic 110, 3) := by decide +kernel
theorem dX10_goDay_23 : decode cX10_goDay 23 = .ok (.invokevirtual 115, 3) := by decide +kernel
theorem dX10_goDay_26 : decode cX10_goDay 26 = .ok (.invokevirtual 120, 3) := by decide +kernel
theorem dX10_goDay_29 : decode cX10_goDay 29 = .ok (.aload_n 0, 1) := by decide +kernel
theorem dX10_goDay_30 : decode cX10_goDay 30 = .ok (.aload_n 1, 1) := by decide +kernel
theorem dX10_goDay_31 : decode cX10_goDay 31 = .ok (.getfield 124, 3) := by decide +kernel
theorem dX10_goDay_34 : decode cX10_goDay 34 = .ok (.invokevirtual 127, 3) := by decide +kernel
theorem dX10_goDay_37 : decode cX10_goDay 37 = .ok (.aload_n 0, 1) := by decide +kernel
theorem dX10_goDay_38 : decode cX10_goDay 38 = .ok (.dup, 1) := by decide +kernel
theorem dX10_goDay_39 : decode cX10_goDay 39 = .ok (.getfield 59, 3) := by decide +kernel
theorem dX10_goDay_42 : decode cX10_goDay 42 = .ok (.iconst 1, 1) := by decide +kernel
theorem dX10_goDay_43 : decode cX10_goDay 43 = .ok (.iadd, 1) := by decide +kernel
theorem dX10_goDay_44 : decode cX10_goDay 44 = .ok (.putfield 59, 3) := by decide +kernel
theorem dX10_goDay_47 : decode cX10_goDay 47 = .ok (.aload_n 0, 1) := by decide +kernel
theorem dX10_goDay_48 : decode cX10_goDay 48 = .ok (.getfield 40, 3) := by decide +kernel
theorem dX10_goDay_51 : decode cX10_goDay 51 = .ok (.ifCond .le 19, 3) := by decide +kernel
theorem dX10_goDay_54 : decode cX10_goDay 54 = .ok (.aload_n 0, 1) := by decide +kernel
theorem dX10_goDay_55 : decode cX10_goDay 55 = .ok (.getfield 59, 3) := by decide +kernel
theorem dX10_goDay_58 : decode cX10_goDay 58 = .ok (.aload_n 0, 1) := by decide +kernel
theorem dX10_goDay_59 : decode cX10_goDay 59 = .ok (.getfield 40, 3) := by decide +kernel
theorem dX10_goDay_62 : decode cX10_goDay 62 = .ok (.irem, 1) := by decide +kernel
theorem dX10_goDay_63 : decode cX10_goDay 63 = .ok (.ifCond .ne 7, 3) := by decide +kernel
theorem dX10_goDay_66 : decode cX10_goDay 66 = .ok (.aload_n 0, 1) := by decide +kernel
theorem dX10_goDay_67 : decode cX10_goDay 67 = .ok (.invokevirtual 130, 3) := by decide +kernel
theorem dX10_goDay_70 : decode cX10_goDay 70 = .ok (.return_, 1) := by decide +kernel
theorem dX10_carry_0 : decode cX10_carry 0 = .ok (.iconst 0, 1) := by decide +kernel
theorem dX10_carry_1 : decode cX10_carry 1 = .ok (.istore_n 2, 1) := by decide +kernel
theorem dX10_carry_2 : decode cX10_carry 2 = .ok (.iload_n 2, 1) := by decide +kernel
theorem dX10_carry_3 : decode cX10_carry 3 = .ok (.aload_n 0, 1) := by decide +kernel
theorem dX10_carry_4 : decode cX10_carry 4 = .ok (.getfield 53, 3) := by decide +kernel
theorem dX10_carry_7 : decode cX10_carry 7 = .ok (.if_icmp .ge 44, 3) := by decide +kernel
theorem dX10_carry_10 : decode cX10_carry 10 = .ok (.aload_n 0, 1) := by decide +kernel
theorem dX10_carry_11 : decode cX10_carry 11 = .ok (.iload_n 2, 1) := by decide +kernel
theorem dX10_carry_12 : decode cX10_carry 12 = .ok (.invokevirtual 86, 3) := by decide +kernel
theorem dX10_carry_15 : decode cX10_carry 15 = .ok (.ifCond .eq 17, 3) := by decide +kernel
theorem dX10_carry_18 : decode cX10_carry 18 = .ok (.aload_n 0, 1) := by decide +kernel
theorem dX10_carry_19 : decode cX10_carry 19 = .ok (.iload_n 2, 1) := by decide +kernel
theorem dX10_carry_20 : decode cX10_carry 20 = .ok (.aload_n 0, 1) := by decide +kernel
theorem dX10_carry_21 : decode cX10_carry 21 = .ok (.iload_n 2, 1) := by decide +kernel
theorem dX10_carry_22 : decode cX10_carry 22 = .ok (.iload_n 1, 1) := by decide +kernel
theorem dX10_carry_23 : decode cX10_carry 23 = .ok (.invokevirtual 133, 3) := by decide +kernel
theorem dX10_carry_26 : decode cX10_carry 26 = .ok (.invokevirtual 137, 3) := by decide +kernel
theorem dX10_carry_29 : decode cX10_carry 29 = .ok (.goto 16, 3) := by decide +kernel
theorem dX10_carry_32 : decode cX10_carry 32 = .ok (.aload_n 0, 1) := by decide +kernel
theorem dX10_carry_33 : decode cX10_carry 33 = .ok (.iload_n 2, 1) := by decide +kernel
theorem dX10_carry_34 : decode cX10_carry 34 = .ok (.aload_n 0, 1) := by decide +kernel
theorem dX10_carry_35 : decode cX10_carry 35 = .ok (.getfield 27, 3) := by decide +kernel
theorem dX10_carry_38 : decode cX10_carry 38 = .ok (.iload_n 2, 1) := by decide +kernel
theorem dX10_carry_39 : decode cX10_carry 39 = .ok (.iaload, 1) := by decide +kernel
theorem dX10_carry_40 : decode cX10_carry 40 = .ok (.iconst 1, 1) := by decide +kernel
theorem dX10_carry_41 : decode cX10_carry 41 = .ok (.isub, 1) := by decide +kernel
theorem dX10_carry_42 : decode cX10_carry 42 = .ok (.invokevirtual 62, 3) := by decide +kernel
theorem dX10_carry_45 : decode cX10_carry 45 = .ok (.iinc 2 1, 3) := by decide +kernel
theorem dX10_carry_48 : decode cX10_carry 48 = .ok (.goto (-46), 3) := by decide +kernel
theorem dX10_carry_51 : decode cX10_carry 51 = .ok (.return_, 1) := by decide +kernel
theorem dX10_drift_0 : decode cX10_drift 0 = .ok (.aload_n 0, 1) := by decide +kernel
theorem dX10_drift_1 : decode cX10_drift 1 = .ok (.getfield 30, 3) := by decide +kernel
theorem dX10_drift_4 : decode cX10_drift 4 = .ok (.iload_n 1, 1) := by decide +kernel
theorem dX10_drift_5 : decode cX10_drift 5 = .ok (.iaload, 1) := by decide +kernel
theorem dX10_drift_6 : decode cX10_drift 6 = .ok (.istore_n 3, 1) := by decide +kernel
theorem dX10_drift_7 : decode cX10_drift 7 = .ok (.iconst 0, 1) := by decide +kernel
theorem dX10_drift_8 : decode cX10_drift 8 = .ok (.istore 4, 2) := by decide +kernel
theorem dX10_drift_10 : decode cX10_drift 10 = .ok (.iload 4, 2) := by decide +kernel
theorem dX10_drift_12 : decode cX10_drift 12 = .ok (.iload_n 2, 1) := by decide +kernel
theorem dX10_drift_13 : decode cX10_drift 13 = .ok (.if_icmp .ge 26, 3) := by decide +kernel
theorem dX10_drift_16 : decode cX10_drift 16 = .ok (.iload_n 3, 1) := by decide +kernel
theorem dX10_drift_17 : decode cX10_drift 17 = .ok (.ifCond .lt 22, 3) := by decide +kernel
theorem dX10_drift_20 : decode cX10_drift 20 = .ok (.iload_n 3, 1) := by decide +kernel
theorem dX10_drift_21 : decode cX10_drift 21 = .ok (.bipush 16, 2) := by decide +kernel
theorem dX10_drift_23 : decode cX10_drift 23 = .ok (.if_icmp .ge 16, 3) := by decide +kernel
theorem dX10_drift_26 : decode cX10_drift 26 = .ok (.aload_n 0, 1) := by decide +kernel
theorem dX10_drift_27 : decode cX10_drift 27 = .ok (.getfield 15, 3) := by decide +kernel
theorem dX10_drift_30 : decode cX10_drift 30 = .ok (.iload_n 3, 1) := by decide +kernel
theorem dX10_drift_31 : decode cX10_drift 31 = .ok (.iaload, 1) := by decide +kernel
theorem dX10_drift_32 : decode cX10_drift 32 = .ok (.istore_n 3, 1) := by decide +kernel
theorem dX10_drift_33 : decode cX10_drift 33 = .ok (.iinc 4 1, 3) := by decide +kernel
theorem dX10_drift_36 : decode cX10_drift 36 = .ok (.goto (-26), 3) := by decide +kernel
theorem dX10_drift_39 : decode cX10_drift 39 = .ok (.aload_n 0, 1) := by decide +kernel
theorem dX10_drift_40 : decode cX10_drift 40 = .ok (.getfield 30, 3) := by decide +kernel
theorem dX10_drift_43 : decode cX10_drift 43 = .ok (.iload_n 1, 1) := by decide +kernel
theorem dX10_drift_44 : decode cX10_drift 44 = .ok (.iload_n 3, 1) := by decide +kernel
theorem dX10_drift_45 : decode cX10_drift 45 = .ok (.iastore, 1) := by decide +kernel
theorem dX10_drift_46 : decode cX10_drift 46 = .ok (.return_, 1) := by decide +kernel
theorem dX10_shine_0 : decode cX10_shine 0 = .ok (.iconst 0, 1) := by decide +kernel
theorem dX10_shine_1 : decode cX10_shine 1 = .ok (.istore_n 2, 1) := by decide +kernel
theorem dX10_shine_2 : decode cX10_shine 2 = .ok (.iload_n 2, 1) := by decide +kernel
theorem dX10_shine_3 : decode cX10_shine 3 = .ok (.aload_n 0, 1) := by decide +kernel
theorem dX10_shine_4 : decode cX10_shine 4 = .ok (.getfield 53, 3) := by decide +kernel
theorem dX10_shine_7 : decode cX10_shine 7 = .ok (.if_icmp .ge 85, 3) := by decide +kernel
theorem dX10_shine_10 : decode cX10_shine 10 = .ok (.aload_n 0, 1) := by decide +kernel
theorem dX10_shine_11 : decode cX10_shine 11 = .ok (.iload_n 2, 1) := by decide +kernel
theorem dX10_shine_12 : decode cX10_shine 12 = .ok (.invokevirtual 86, 3) := by decide +kernel
theorem dX10_shine_15 : decode cX10_shine 15 = .ok (.ifCond .eq 71, 3) := by decide +kernel
theorem dX10_shine_18 : decode cX10_shine 18 = .ok (.aload_n 1, 1) := by decide +kernel
theorem dX10_shine_19 : decode cX10_shine 19 = .ok (.aload_n 0, 1) := by decide +kernel
theorem dX10_shine_20 : decode cX10_shine 20 = .ok (.iload_n 2, 1) := by decide +kernel
theorem dX10_shine_21 : decode cX10_shine 21 = .ok (.aload_n 0, 1) := by decide +kernel
theorem dX10_shine_22 : decode cX10_shine 22 = .ok (.getfield 30, 3) := by decide +kernel
theorem dX10_shine_25 : decode cX10_shine 25 = .ok (.iload_n 2, 1) := by decide +kernel
theorem dX10_shine_26 : decode cX10_shine 26 = .ok (.iaload, 1) := by decide +kernel
theorem dX10_shine_27 : decode cX10_shine 27 = .ok (.invokevirtual 140, 3) := by decide +kernel
theorem dX10_shine_30 : decode cX10_shine 30 = .ok (.aload_n 0, 1) := by decide +kernel
theorem dX10_shine_31 : decode cX10_shine 31 = .ok (.aload_n 0, 1) := by decide +kernel
theorem dX10_shine_32 : decode cX10_shine 32 = .ok (.getfield 30, 3) := by decide +kernel
theorem dX10_shine_35 : decode cX10_shine 35 = .ok (.iload_n 2, 1) := by decide +kernel
theorem dX10_shine_36 : decode cX10_shine 36 = .ok (.iaload, 1) := by decide +kernel
theorem dX10_shine_37 : decode cX10_shine 37 = .ok (.invokevirtual 76, 3) := by decide +kernel
theorem dX10_shine_40 : decode cX10_shine 40 = .ok (.aload_n 0, 1) := by decide +kernel
theorem dX10_shine_41 : decode cX10_shine 41 = .ok (.getfield 59, 3) := by decide +kernel
theorem dX10_shine_44 : decode cX10_shine 44 = .ok (.bipush 24, 2) := by decide +kernel
theorem dX10_shine_46 : decode cX10_shine 46 = .ok (.irem, 1) := by decide +kernel
theorem dX10_shine_47 : decode cX10_shine 47 = .ok (.invokevirtual 115, 3) := by decide +kernel
theorem dX10_shine_50 : decode cX10_shine 50 = .ok (.istore_n 3, 1) := by decide +kernel
theorem dX10_shine_51 : decode cX10_shine 51 = .ok (.aload_n 0, 1) := by decide +kernel
theorem dX10_shine_52 : decode cX10_shine 52 = .ok (.getfield 33, 3) := by decide +kernel
theorem dX10_shine_55 : decode cX10_shine 55 = .ok (.iload_n 2, 1) := by decide +kernel
theorem dX10_shine_56 : decode cX10_shine 56 = .ok (.sipush 9999, 3) := by decide +kernel
theorem dX10_shine_59 : decode cX10_shine 59 = .ok (.aload_n 0, 1) := by decide +kernel
theorem dX10_shine_60 : decode cX10_shine 60 = .ok (.getfield 33, 3) := by decide +kernel
theorem dX10_shine_63 : decode cX10_shine 63 = .ok (.iload_n 2, 1) := by decide +kernel
theorem dX10_shine_64 : decode cX10_shine 64 = .ok (.iaload, 1) := by decide +kernel
theorem dX10_shine_65 : decode cX10_shine 65 = .ok (.iload_n 3, 1) := by decide +kernel
theorem dX10_shine_66 : decode cX10_shine 66 = .ok (.iadd, 1) := by decide +kernel
theorem dX10_shine_67 : decode cX10_shine 67 = .ok (.invokestatic 143, 3) := by decide +kernel
theorem dX10_shine_70 : decode cX10_shine 70 = .ok (.iastore, 1) := by decide +kernel
theorem dX10_shine_71 : decode cX10_shine 71 = .ok (.aload_n 0, 1) := by decide +kernel
theorem dX10_shine_72 : decode cX10_shine 72 = .ok (.ldc 148, 2) := by decide +kernel
theorem dX10_shine_74 : decode cX10_shine 74 = .ok (.aload_n 0, 1) := by decide +kernel
theorem dX10_shine_75 : decode cX10_shine 75 = .ok (.getfield 56, 3) := by decide +kernel
theorem dX10_shine_78 : decode cX10_shine 78 = .ok (.iload_n 3, 1) := by decide +kernel
theorem dX10_shine_79 : decode cX10_shine 79 = .ok (.iadd, 1) := by decide +kernel
theorem dX10_shine_80 : decode cX10_shine 80 = .ok (.invokestatic 143, 3) := by decide +kernel
theorem dX10_shine_83 : decode cX10_shine 83 = .ok (.putfield 56, 3) := by decide +kernel
theorem dX10_shine_86 : decode cX10_shine 86 = .ok (.iinc 2 1, 3) := by decide +kernel
theorem dX10_shine_89 : decode cX10_shine 89 = .ok (.goto (-87), 3) := by decide +kernel
theorem dX10_shine_92 : decode cX10_shine 92 = .ok (.return_, 1) := by decide +kernel
theorem dX10_sweepUp_0 : decode cX10_sweepUp 0 = .ok (.iconst 0, 1) := by decide +kernel
theorem dX10_sweepUp_1 : decode cX10_sweepUp 1 = .ok (.istore_n 1, 1) := by decide +kernel
theorem dX10_sweepUp_2 : decode cX10_sweepUp 2 = .ok (.iload_n 1, 1) := by decide +kernel
theorem dX10_sweepUp_3 : decode cX10_sweepUp 3 = .ok (.aload_n 0, 1) := by decide +kernel
theorem dX10_sweepUp_4 : decode cX10_sweepUp 4 = .ok (.getfield 53, 3) := by decide +kernel
theorem dX10_sweepUp_7 : decode cX10_sweepUp 7 = .ok (.if_icmp .ge 42, 3) := by decide +kernel
theorem dX10_sweepUp_10 : decode cX10_sweepUp 10 = .ok (.aload_n 0, 1) := by decide +kernel
theorem dX10_sweepUp_11 : decode cX10_sweepUp 11 = .ok (.iload_n 1, 1) := by decide +kernel
theorem dX10_sweepUp_12 : decode cX10_sweepUp 12 = .ok (.invokevirtual 86, 3) := by decide +kernel
theorem dX10_sweepUp_15 : decode cX10_sweepUp 15 = .ok (.ifCond .eq 28, 3) := by decide +kernel
theorem dX10_sweepUp_18 : decode cX10_sweepUp 18 = .ok (.aload_n 0, 1) := by decide +kernel
theorem dX10_sweepUp_19 : decode cX10_sweepUp 19 = .ok (.aload_n 0, 1) := by decide +kernel
theorem dX10_sweepUp_20 : decode cX10_sweepUp 20 = .ok (.getfield 30, 3) := by decide +kernel
theorem dX10_sweepUp_23 : decode cX10_sweepUp 23 = .ok (.iload_n 1, 1) := by decide +kernel
theorem dX10_sweepUp_24 : decode cX10_sweepUp 24 = .ok (.iaload, 1) := by decide +kernel
theorem dX10_sweepUp_25 : decode cX10_sweepUp 25 = .ok (.invokevirtual 76, 3) := by decide +kernel
theorem dX10_sweepUp_28 : decode cX10_sweepUp 28 = .ok (.ifCond .ne 15, 3) := by decide +kernel
theorem dX10_sweepUp_31 : decode cX10_sweepUp 31 = .ok (.aload_n 0, 1) := by decide +kernel
theorem dX10_sweepUp_32 : decode cX10_sweepUp 32 = .ok (.getfield 30, 3) := by decide +kernel
theorem dX10_sweepUp_35 : decode cX10_sweepUp 35 = .ok (.iload_n 1, 1) := by decide +kernel
theorem dX10_sweepUp_36 : decode cX10_sweepUp 36 = .ok (.aload_n 0, 1) := by decide +kernel
theorem dX10_sweepUp_37 : decode cX10_sweepUp 37 = .ok (.getfield 24, 3) := by decide +kernel
theorem dX10_sweepUp_40 : decode cX10_sweepUp 40 = .ok (.iload_n 1, 1) := by decide +kernel
theorem dX10_sweepUp_41 : decode cX10_sweepUp 41 = .ok (.iaload, 1) := by decide +kernel
theorem dX10_sweepUp_42 : decode cX10_sweepUp 42 = .ok (.iastore, 1) := by decide +kernel
theorem dX10_sweepUp_43 : decode cX10_sweepUp 43 = .ok (.iinc 1 1, 3) := by decide +kernel
theorem dX10_sweepUp_46 : decode cX10_sweepUp 46 = .ok (.goto (-44), 3) := by decide +kernel
theorem dX10_sweepUp_49 : decode cX10_sweepUp 49 = .ok (.return_, 1) := by decide +kernel
