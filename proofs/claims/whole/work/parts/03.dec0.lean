theorem dX0_init_0 : decode cX0_init 0 = .ok (.aload_n 0, 1) := by decide +kernel
theorem dX0_init_1 : decode cX0_init 1 = .ok (.invokespecial 1, 3) := by decide +kernel
theorem dX0_init_4 : decode cX0_init 4 = .ok (.return_, 1) := by decide +kernel
theorem dX0_sinks_0 : decode cX0_sinks 0 = .ok (.aload_n 0, 1) := by decide +kernel
theorem dX0_sinks_1 : decode cX0_sinks 1 = .ok (.iload_n 1, 1) := by decide +kernel
theorem dX0_sinks_2 : decode cX0_sinks 2 = .ok (.iload_n 2, 1) := by decide +kernel
theorem dX0_sinks_3 : decode cX0_sinks 3 = .ok (.iload_n 3, 1) := by decide +kernel
theorem dX0_sinks_4 : decode cX0_sinks 4 = .ok (.invokespecial 7, 3) := by decide +kernel
theorem dX0_sinks_7 : decode cX0_sinks 7 = .ok (.iconst 2, 1) := by decide +kernel
theorem dX0_sinks_8 : decode cX0_sinks 8 = .ok (.idiv, 1) := by decide +kernel
theorem dX0_sinks_9 : decode cX0_sinks 9 = .ok (.ireturn, 1) := by decide +kernel
theorem dX0_drifts_0 : decode cX0_drifts 0 = .ok (.aload_n 0, 1) := by decide +kernel
theorem dX0_drifts_1 : decode cX0_drifts 1 = .ok (.iload_n 1, 1) := by decide +kernel
theorem dX0_drifts_2 : decode cX0_drifts 2 = .ok (.invokespecial 11, 3) := by decide +kernel
theorem dX0_drifts_5 : decode cX0_drifts 5 = .ok (.iload_n 1, 1) := by decide +kernel
theorem dX0_drifts_6 : decode cX0_drifts 6 = .ok (.bipush 7, 2) := by decide +kernel
theorem dX0_drifts_8 : decode cX0_drifts 8 = .ok (.if_icmp .le 7, 3) := by decide +kernel
theorem dX0_drifts_11 : decode cX0_drifts 11 = .ok (.iconst 2, 1) := by decide +kernel
theorem dX0_drifts_12 : decode cX0_drifts 12 = .ok (.goto 4, 3) := by decide +kernel
theorem dX0_drifts_15 : decode cX0_drifts 15 = .ok (.iconst 0, 1) := by decide +kernel
theorem dX0_drifts_16 : decode cX0_drifts 16 = .ok (.iadd, 1) := by decide +kernel
theorem dX0_drifts_17 : decode cX0_drifts 17 = .ok (.ireturn, 1) := by decide +kernel
theorem dX0_reads_0 : decode cX0_reads 0 = .ok (.aload_n 0, 1) := by decide +kernel
theorem dX0_reads_1 : decode cX0_reads 1 = .ok (.bipush 60, 2) := by decide +kernel
theorem dX0_reads_3 : decode cX0_reads 3 = .ok (.invokevirtual 15, 3) := by decide +kernel
theorem dX0_reads_6 : decode cX0_reads 6 = .ok (.iconst 0, 1) := by decide +kernel
theorem dX0_reads_7 : decode cX0_reads 7 = .ok (.aload_n 0, 1) := by decide +kernel
theorem dX0_reads_8 : decode cX0_reads 8 = .ok (.iload_n 1, 1) := by decide +kernel
theorem dX0_reads_9 : decode cX0_reads 9 = .ok (.invokespecial 21, 3) := by decide +kernel
theorem dX0_reads_12 : decode cX0_reads 12 = .ok (.isub, 1) := by decide +kernel
theorem dX0_reads_13 : decode cX0_reads 13 = .ok (.ireturn, 1) := by decide +kernel
theorem dX0_rounds_0 : decode cX0_rounds 0 = .ok (.aload_n 0, 1) := by decide +kernel
theorem dX0_rounds_1 : decode cX0_rounds 1 = .ok (.bipush 61, 2) := by decide +kernel
theorem dX0_rounds_3 : decode cX0_rounds 3 = .ok (.invokevirtual 15, 3) := by decide +kernel
theorem dX0_rounds_6 : decode cX0_rounds 6 = .ok (.aload_n 0, 1) := by decide +kernel
theorem dX0_rounds_7 : decode cX0_rounds 7 = .ok (.iload_n 1, 1) := by decide +kernel
theorem dX0_rounds_8 : decode cX0_rounds 8 = .ok (.invokespecial 24, 3) := by decide +kernel
theorem dX0_rounds_11 : decode cX0_rounds 11 = .ok (.aload_n 0, 1) := by decide +kernel
theorem dX0_rounds_12 : decode cX0_rounds 12 = .ok (.aload_n 0, 1) := by decide +kernel
theorem dX0_rounds_13 : decode cX0_rounds 13 = .ok (.getfield 27, 3) := by decide +kernel
theorem dX0_rounds_16 : decode cX0_rounds 16 = .ok (.invokevirtual 31, 3) := by decide +kernel
theorem dX0_rounds_19 : decode cX0_rounds 19 = .ok (.ixor, 1) := by decide +kernel
theorem dX0_rounds_20 : decode cX0_rounds 20 = .ok (.ireturn, 1) := by decide +kernel
theorem dX1_init_0 : decode cX1_init 0 = .ok (.aload_n 0, 1) := by decide +kernel
theorem dX1_init_1 : decode cX1_init 1 = .ok (.invokespecial 1, 3) := by decide +kernel
theorem dX1_init_4 : decode cX1_init 4 = .ok (.return_, 1) := by decide +kernel
theorem dX1_sinks_0 : decode cX1_sinks 0 = .ok (.iconst 0, 1) := by decide +kernel
theorem dX1_sinks_1 : decode cX1_sinks 1 = .ok (.aload_n 0, 1) := by decide +kernel
theorem dX1_sinks_2 : decode cX1_sinks 2 = .ok (.iload_n 1, 1) := by decide +kernel
theorem dX1_sinks_3 : decode cX1_sinks 3 = .ok (.iload_n 2, 1) := by decide +kernel
theorem dX1_sinks_4 : decode cX1_sinks 4 = .ok (.iload_n 3, 1) := by decide +kernel
theorem dX1_sinks_5 : decode cX1_sinks 5 = .ok (.invokespecial 7, 3) := by decide +kernel
theorem dX1_sinks_8 : decode cX1_sinks 8 = .ok (.iload_n 2, 1) := by decide +kernel
theorem dX1_sinks_9 : decode cX1_sinks 9 = .ok (.isub, 1) := by decide +kernel
theorem dX1_sinks_10 : decode cX1_sinks 10 = .ok (.invokestatic 11, 3) := by decide +kernel
theorem dX1_sinks_13 : decode cX1_sinks 13 = .ok (.ireturn, 1) := by decide +kernel
theorem dX1_drifts_0 : decode cX1_drifts 0 = .ok (.iload_n 1, 1) := by decide +kernel
theorem dX1_drifts_1 : decode cX1_drifts 1 = .ok (.iconst 2, 1) := by decide +kernel
theorem dX1_drifts_2 : decode cX1_drifts 2 = .ok (.irem, 1) := by decide +kernel
theorem dX1_drifts_3 : decode cX1_drifts 3 = .ok (.ifCond .ne 7, 3) := by decide +kernel
theorem dX1_drifts_6 : decode cX1_drifts 6 = .ok (.iconst 1, 1) := by decide +kernel
theorem dX1_drifts_7 : decode cX1_drifts 7 = .ok (.goto 4, 3) := by decide +kernel
theorem dX1_drifts_10 : decode cX1_drifts 10 = .ok (.iconst 0, 1) := by decide +kernel
theorem dX1_drifts_11 : decode cX1_drifts 11 = .ok (.ireturn, 1) := by decide +kernel
theorem dX1_rounds_0 : decode cX1_rounds 0 = .ok (.aload_n 0, 1) := by decide +kernel
theorem dX1_rounds_1 : decode cX1_rounds 1 = .ok (.bipush 40, 2) := by decide +kernel
theorem dX1_rounds_3 : decode cX1_rounds 3 = .ok (.invokevirtual 17, 3) := by decide +kernel
theorem dX1_rounds_6 : decode cX1_rounds 6 = .ok (.aload_n 0, 1) := by decide +kernel
theorem dX1_rounds_7 : decode cX1_rounds 7 = .ok (.iload_n 1, 1) := by decide +kernel
theorem dX1_rounds_8 : decode cX1_rounds 8 = .ok (.invokespecial 23, 3) := by decide +kernel
theorem dX1_rounds_11 : decode cX1_rounds 11 = .ok (.iconst 5, 1) := by decide +kernel
theorem dX1_rounds_12 : decode cX1_rounds 12 = .ok (.isub, 1) := by decide +kernel
theorem dX1_rounds_13 : decode cX1_rounds 13 = .ok (.ireturn, 1) := by decide +kernel
theorem dX2_init_0 : decode cX2_init 0 = .ok (.aload_n 0, 1) := by decide +kernel
theorem dX2_init_1 : decode cX2_init 1 = .ok (.invokespecial 1, 3) := by decide +kernel
theorem dX2_init_4 : decode cX2_init 4 = .ok (.return_, 1) := by decide +kernel
theorem dX2_sinks_0 : decode cX2_sinks 0 = .ok (.aload_n 0, 1) := by decide +kernel
theorem dX2_sinks_1 : decode cX2_sinks 1 = .ok (.iload_n 1, 1) := by decide +kernel
theorem dX2_sinks_2 : decode cX2_sinks 2 = .ok (.iload_n 2, 1) := by decide +kernel
theorem dX2_sinks_3 : decode cX2_sinks 3 = .ok (.iload_n 3, 1) := by decide +kernel
theorem dX2_sinks_4 : decode cX2_sinks 4 = .ok (.invokespecial 7, 3) := by decide +kernel
theorem dX2_sinks_7 : decode cX2_sinks 7 = .ok (.iconst 3, 1) := by decide +kernel
theorem dX2_sinks_8 : decode cX2_sinks 8 = .ok (.iadd, 1) := by decide +kernel
theorem dX2_sinks_9 : decode cX2_sinks 9 = .ok (.ireturn, 1) := by decide +kernel
theorem dX2_drifts_0 : decode cX2_drifts 0 = .ok (.iconst 2, 1) := by decide +kernel
theorem dX2_drifts_1 : decode cX2_drifts 1 = .ok (.aload_n 0, 1) := by decide +kernel
theorem dX2_drifts_2 : decode cX2_drifts 2 = .ok (.iload_n 1, 1) := by decide +kernel
theorem dX2_drifts_3 : decode cX2_drifts 3 = .ok (.invokespecial 11, 3) := by decide +kernel
theorem dX2_drifts_6 : decode cX2_drifts 6 = .ok (.imul, 1) := by decide +kernel
theorem dX2_drifts_7 : decode cX2_drifts 7 = .ok (.ireturn, 1) := by decide +kernel
theorem dX2_stands_0 : decode cX2_stands 0 = .ok (.aload_n 0, 1) := by decide +kernel
theorem dX2_stands_1 : decode cX2_stands 1 = .ok (.bipush 50, 2) := by decide +kernel
theorem dX2_stands_3 : decode cX2_stands 3 = .ok (.invokevirtual 15, 3) := by decide +kernel
theorem dX2_stands_6 : decode cX2_stands 6 = .ok (.aload_n 0, 1) := by decide +kernel
theorem dX2_stands_7 : decode cX2_stands 7 = .ok (.iload_n 1, 1) := by decide +kernel
theorem dX2_stands_8 : decode cX2_stands 8 = .ok (.bipush 11, 2) := by decide +kernel
theorem dX2_stands_10 : decode cX2_stands 10 = .ok (.iadd, 1) := by decide +kernel
theorem dX2_stands_11 : decode cX2_stands 11 = .ok (.invokespecial 21, 3) := by decide +kernel
theorem dX2_stands_14 : decode cX2_stands 14 = .ok (.ireturn, 1) := by decide +kernel
theorem dX2_rises_0 : decode cX2_rises 0 = .ok (.aload_n 0, 1) := by decide +kernel
theorem dX2_rises_1 : decode cX2_rises 1 = .ok (.bipush 51, 2) := by decide +kernel
theorem dX2_rises_3 : decode cX2_rises 3 = .ok (.invokevirtual 15, 3) := by decide +kernel
theorem dX2_rises_6 : decode cX2_rises 6 = .ok (.aload_n 0, 1) := by decide +kernel
theorem dX2_rises_7 : decode cX2_rises 7 = .ok (.iload_n 1, 1) := by decide +kernel
theorem dX2_rises_8 : decode cX2_rises 8 = .ok (.invokespecial 24, 3) := by decide +kernel
theorem dX2_rises_11 : decode cX2_rises 11 = .ok (.aload_n 0, 1) := by decide +kernel
theorem dX2_rises_12 : decode cX2_rises 12 = .ok (.aload_n 0, 1) := by decide +kernel
theorem dX2_rises_13 : decode cX2_rises 13 = .ok (.getfield 27, 3) := by decide +kernel
theorem dX2_rises_16 : decode cX2_rises 16 = .ok (.invokevirtual 31, 3) := by decide +kernel
theorem dX2_rises_19 : decode cX2_rises 19 = .ok (.iadd, 1) := by decide +kernel
theorem dX2_rises_20 : decode cX2_rises 20 = .ok (.ireturn, 1) := by decide +kernel
theorem dX3_init_0 : decode cX3_init 0 = .ok (.aload_n 0, 1) := by decide +kernel
theorem dX3_init_1 : decode cX3_init 1 = .ok (.invokespecial 1, 3) := by decide +kernel
theorem dX3_init_4 : decode cX3_init 4 = .ok (.return_, 1) := by decide +kernel
theorem dX3_sinks_0 : decode cX3_sinks 0 = .ok (.iconst 2, 1) := by decide +kernel
theorem dX3_sinks_1 : decode cX3_sinks 1 = .ok (.aload_n 0, 1) := by decide +kernel
theorem dX3_sinks_2 : decode cX3_sinks 2 = .ok (.iload_n 1, 1) := by decide +kernel
theorem dX3_sinks_3 : decode cX3_sinks 3 = .ok (.iload_n 2, 1) := by decide +kernel
theorem dX3_sinks_4 : decode cX3_sinks 4 = .ok (.iload_n 3, 1) := by decide +kernel
theorem dX3_sinks_5 : decode cX3_sinks 5 = .ok (.invokespecial 7, 3) := by decide +kernel
theorem dX3_sinks_8 : decode cX3_sinks 8 = .ok (.imul, 1) := by decide +kernel
theorem dX3_sinks_9 : decode cX3_sinks 9 = .ok (.ireturn, 1) := by decide +kernel
theorem dX3_drifts_0 : decode cX3_drifts 0 = .ok (.iload_n 1, 1) := by decide +kernel
theorem dX3_drifts_1 : decode cX3_drifts 1 = .ok (.iconst 2, 1) := by decide +kernel
theorem dX3_drifts_2 : decode cX3_drifts 2 = .ok (.irem, 1) := by decide +kernel
theorem dX3_drifts_3 : decode cX3_drifts 3 = .ok (.ifCond .ne 7, 3) := by decide +kernel
theorem dX3_drifts_6 : decode cX3_drifts 6 = .ok (.iconst 0, 1) := by decide +kernel
theorem dX3_drifts_7 : decode cX3_drifts 7 = .ok (.goto 4, 3) := by decide +kernel
theorem dX3_drifts_10 : decode cX3_drifts 10 = .ok (.iconst 1, 1) := by decide +kernel
theorem dX3_drifts_11 : decode cX3_drifts 11 = .ok (.ireturn, 1) := by decide +kernel
theorem dX3_reads_0 : decode cX3_reads 0 = .ok (.aload_n 0, 1) := by decide +kernel
theorem dX3_reads_1 : decode cX3_reads 1 = .ok (.bipush 30, 2) := by decide +kernel
theorem dX3_reads_3 : decode cX3_reads 3 = .ok (.invokevirtual 11, 3) := by decide +kernel
theorem dX3_reads_6 : decode cX3_reads 6 = .ok (.aload_n 0, 1) := by decide +kernel
theorem dX3_reads_7 : decode cX3_reads 7 = .ok (.iload_n 1, 1) := by decide +kernel
theorem dX3_reads_8 : decode cX3_reads 8 = .ok (.invokespecial 17, 3) := by decide +kernel
theorem dX3_reads_11 : decode cX3_reads 11 = .ok (.iconst 3, 1) := by decide +kernel
theorem dX3_reads_12 : decode cX3_reads 12 = .ok (.imul, 1) := by decide +kernel
theorem dX3_reads_13 : decode cX3_reads 13 = .ok (.ireturn, 1) := by decide +kernel
theorem dX4_init_0 : decode cX4_init 0 = .ok (.aload_n 0, 1) := by decide +kernel
theorem dX4_init_1 : decode cX4_init 1 = .ok (.invokespecial 3, 3) := by decide +kernel
theorem dX4_init_4 : decode cX4_init 4 = .ok (.aload_n 0, 1) := by decide +kernel
theorem dX4_init_5 : decode cX4_init 5 = .ok (.bipush 6, 2) := by decide +kernel
theorem dX4_init_7 : decode cX4_init 7 = .ok (.newarray .int, 2) := by decide +kernel
theorem dX4_init_9 : decode cX4_init 9 = .ok (.putfield 9, 3) := by decide +kernel
theorem dX4_init_12 : decode cX4_init 12 = .ok (.aload_n 0, 1) := by decide +kernel
theorem dX4_init_13 : decode cX4_init 13 = .ok (.bipush 6, 2) := by decide +kernel
theorem dX4_init_15 : decode cX4_init 15 = .ok (.newarray .int, 2) := by decide +kernel
theorem dX4_init_17 : decode cX4_init 17 = .ok (.putfield 15, 3) := by decide +kernel
theorem dX4_init_20 : decode cX4_init 20 = .ok (.return_, 1) := by decide +kernel
theorem dX4_become_0 : decode cX4_become 0 = .ok (.aload_n 0, 1) := by decide +kernel
theorem dX4_become_1 : decode cX4_become 1 = .ok (.aload_n 1, 1) := by decide +kernel
theorem dX4_become_2 : decode cX4_become 2 = .ok (.getfield 18, 3) := by decide +kernel
theorem dX4_become_5 : decode cX4_become 5 = .ok (.putfield 18, 3) := by decide +kernel
theorem dX4_become_8 : decode cX4_become 8 = .ok (.aload_n 0, 1) := by decide +kernel
theorem dX4_become_9 : decode cX4_become 9 = .ok (.aload_n 1, 1) := by decide +kernel
theorem dX4_become_10 : decode cX4_become 10 = .ok (.getfield 22, 3) := by decide +kernel
theorem dX4_become_13 : decode cX4_become 13 = .ok (.putfield 22, 3) := by decide +kernel
theorem dX4_become_16 : decode cX4_become 16 = .ok (.aload_n 1, 1) := by decide +kernel
theorem dX4_become_17 : decode cX4_become 17 = .ok (.getfield 9, 3) := by decide +kernel
theorem dX4_become_20 : decode cX4_become 20 = .ok (.iconst 0, 1) := by decide +kernel
theorem dX4_become_21 : decode cX4_become 21 = .ok (.aload_n 0, 1) := by decide +kernel
theorem dX4_become_22 : decode cX4_become 22 = .ok (.getfield 9, 3) := by decide +kernel
theorem dX4_become_25 : decode cX4_become 25 = .ok (.iconst 0, 1) := by decide +kernel
theorem dX4_become_26 : decode cX4_become 26 = .ok (.bipush 6, 2) := by decide +kernel
theorem dX4_become_28 : decode cX4_become 28 = .ok (.invokestatic 25, 3) := by decide +kernel
theorem dX4_become_31 : decode cX4_become 31 = .ok (.aload_n 1, 1) := by decide +kernel
theorem dX4_become_32 : decode cX4_become 32 = .ok (.getfield 15, 3) := by decide +kernel
theorem dX4_become_35 : decode cX4_become 35 = .ok (.iconst 0, 1) := by decide +kernel
theorem dX4_become_36 : decode cX4_become 36 = .ok (.aload_n 0, 1) := by decide +kernel
theorem dX4_become_37 : decode cX4_become 37 = .ok (.getfield 15, 3) := by decide +kernel
theorem dX4_become_40 : decode cX4_become 40 = .ok (.iconst 0, 1) := by decide +kernel
theorem dX4_become_41 : decode cX4_become 41 = .ok (.bipush 6, 2) := by decide +kernel
theorem dX4_become_43 : decode cX4_become 43 = .ok (.invokestatic 25, 3) := by decide +kernel
theorem dX4_become_46 : decode cX4_become 46 = .ok (.return_, 1) := by decide +kernel
theorem dX4_isOut_0 : decode cX4_isOut 0 = .ok (.aload_n 0, 1) := by decide +kernel
theorem dX4_isOut_1 : decode cX4_isOut 1 = .ok (.getfield 22, 3) := by decide +kernel
theorem dX4_isOut_4 : decode cX4_isOut 4 = .ok (.iload_n 1, 1) := by decide +kernel
theorem dX4_isOut_5 : decode cX4_isOut 5 = .ok (.ishr, 1) := by decide +kernel
theorem dX4_isOut_6 : decode cX4_isOut 6 = .ok (.iconst 1, 1) := by decide +kernel
theorem dX4_isOut_7 : decode cX4_isOut 7 = .ok (.iand, 1) := by decide +kernel
theorem dX4_isOut_8 : decode cX4_isOut 8 = .ok (.ifCond .eq 7, 3) := by decide +kernel
theorem dX4_isOut_11 : decode cX4_isOut 11 = .ok (.iconst 1, 1) := by decide +kernel
theorem dX4_isOut_12 : decode cX4_isOut 12 = .ok (.goto 4, 3) := by decide +kernel
theorem dX4_isOut_15 : decode cX4_isOut 15 = .ok (.iconst 0, 1) := by decide +kernel
theorem dX4_isOut_16 : decode cX4_isOut 16 = .ok (.ireturn, 1) := by decide +kernel
theorem dX5_init_0 : decode cX5_init 0 = .ok (.aload_n 0, 1) := by decide +kernel
theorem dX5_init_1 : decode cX5_init 1 = .ok (.invokespecial 3, 3) := by decide +kernel
theorem dX5_init_4 : decode cX5_init 4 = .ok (.aload_n 0, 1) := by decide +kernel
theorem dX5_init_5 : decode cX5_init 5 = .ok (.bipush 16, 2) := by decide +kernel
theorem dX5_init_7 : decode cX5_init 7 = .ok (.newarray .int, 2) := by decide +kernel
theorem dX5_init_9 : decode cX5_init 9 = .ok (.putfield 9, 3) := by decide +kernel
theorem dX5_init_12 : decode cX5_init 12 = .ok (.aload_n 0, 1) := by decide +kernel
theorem dX5_init_13 : decode cX5_init 13 = .ok (.bipush 6, 2) := by decide +kernel
theorem dX5_init_15 : decode cX5_init 15 = .ok (.newarray .int, 2) := by decide +kernel
theorem dX5_init_17 : decode cX5_init 17 = .ok (.putfield 15, 3) := by decide +kernel
theorem dX5_init_20 : decode cX5_init 20 = .ok (.aload_n 0, 1) := by decide +kernel
theorem dX5_init_21 : decode cX5_init 21 = .ok (.bipush 6, 2) := by decide +kernel
theorem dX5_init_23 : decode cX5_init 23 = .ok (.newarray .int, 2) := by decide +kernel
theorem dX5_init_25 : decode cX5_init 25 = .ok (.putfield 18, 3) := by decide +kernel
theorem dX5_init_28 : decode cX5_init 28 = .ok (.aload_n 0, 1) := by decide +kernel
theorem dX5_init_29 : decode cX5_init 29 = .ok (.bipush 6, 2) := by decide +kernel
theorem dX5_init_31 : decode cX5_init 31 = .ok (.newarray .int, 2) := by decide +kernel
theorem dX5_init_33 : decode cX5_init 33 = .ok (.putfield 21, 3) := by decide +kernel
theorem dX5_init_36 : decode cX5_init 36 = .ok (.aload_n 0, 1) := by decide +kernel
theorem dX5_init_37 : decode cX5_init 37 = .ok (.bipush 6, 2) := by decide +kernel
theorem dX5_init_39 : decode cX5_init 39 = .ok (.newarray .int, 2) := by decide +kernel
theorem dX5_init_41 : decode cX5_init 41 = .ok (.putfield 24, 3) := by decide +kernel
theorem dX5_init_44 : decode cX5_init 44 = .ok (.aload_n 0, 1) := by decide +kernel
theorem dX5_init_45 : decode cX5_init 45 = .ok (.bipush 6, 2) := by decide +kernel
theorem dX5_init_47 : decode cX5_init 47 = .ok (.newarray .int, 2) := by decide +kernel
theorem dX5_init_49 : decode cX5_init 49 = .ok (.putfield 27, 3) := by decide +kernel
theorem dX5_init_52 : decode cX5_init 52 = .ok (.aload_n 0, 1) := by decide +kernel
theorem dX5_init_53 : decode cX5_init 53 = .ok (.new 30, 3) := by decide +kernel
theorem dX5_init_56 : decode cX5_init 56 = .ok (.dup, 1) := by decide +kernel
theorem dX5_init_57 : decode cX5_init 57 = .ok (.invokespecial 32, 3) := by decide +kernel
theorem dX5_init_60 : decode cX5_init 60 = .ok (.putfield 33, 3) := by decide +kernel
theorem dX5_init_63 : decode cX5_init 63 = .ok (.aload_n 0, 1) := by decide +kernel
theorem dX5_init_64 : decode cX5_init 64 = .ok (.new 37, 3) := by decide +kernel
theorem dX5_init_67 : decode cX5_init 67 = .ok (.dup, 1) := by decide +kernel
theorem dX5_init_68 : decode cX5_init 68 = .ok (.invokespecial 39, 3) := by decide +kernel
theorem dX5_init_71 : decode cX5_init 71 = .ok (.putfield 40, 3) := by decide +kernel
theorem dX5_init_74 : decode cX5_init 74 = .ok (.aload_n 0, 1) := by decide +kernel
theorem dX5_init_75 : decode cX5_init 75 = .ok (.new 44, 3) := by decide +kernel
theorem dX5_init_78 : decode cX5_init 78 = .ok (.dup, 1) := by decide +kernel
theorem dX5_init_79 : decode cX5_init 79 = .ok (.invokespecial 46, 3) := by decide +kernel
theorem dX5_init_82 : decode cX5_init 82 = .ok (.putfield 47, 3) := by decide +kernel
theorem dX5_init_85 : decode cX5_init 85 = .ok (.aload_n 0, 1) := by decide +kernel
theorem dX5_init_86 : decode cX5_init 86 = .ok (.bipush 12, 2) := by decide +kernel
theorem dX5_init_88 : decode cX5_init 88 = .ok (.putfield 51, 3) := by decide +kernel
theorem dX5_init_91 : decode cX5_init 91 = .ok (.aload_n 0, 1) := by decide +kernel
theorem dX5_init_92 : decode cX5_init 92 = .ok (.iconst 1, 1) := by decide +kernel
theorem dX5_init_93 : decode cX5_init 93 = .ok (.putfield 55, 3) := by decide +kernel
theorem dX5_init_96 : decode cX5_init 96 = .ok (.aload_n 0, 1) := by decide +kernel
theorem dX5_init_97 : decode cX5_init 97 = .ok (.bipush 6, 2) := by decide +kernel
theorem dX5_init_99 : decode cX5_init 99 = .ok (.newarray .int, 2) := by decide +kernel
theorem dX5_init_101 : decode cX5_init 101 = .ok (.putfield 58, 3) := by decide +kernel
theorem dX5_init_104 : decode cX5_init 104 = .ok (.aload_n 0, 1) := by decide +kernel
theorem dX5_init_105 : decode cX5_init 105 = .ok (.iconst 5, 1) := by decide +kernel
theorem dX5_init_106 : decode cX5_init 106 = .ok (.newarray .int, 2) := by decide +kernel
theorem dX5_init_108 : decode cX5_init 108 = .ok (.putfield 61, 3) := by decide +kernel
theorem dX5_init_111 : decode cX5_init 111 = .ok (.aload_n 0, 1) := by decide +kernel
theorem dX5_init_112 : decode cX5_init 112 = .ok (.aload_n 1, 1) := by decide +kernel
theorem dX5_init_113 : decode cX5_init 113 = .ok (.putfield 64, 3) := by decide +kernel
theorem dX5_init_116 : decode cX5_init 116 = .ok (.iconst 0, 1) := by decide +kernel
theorem dX5_init_117 : decode cX5_init 117 = .ok (.istore_n 2, 1) := by decide +kernel
theorem dX5_init_118 : decode cX5_init 118 = .ok (.iload_n 2, 1) := by decide +kernel
theorem dX5_init_119 : decode cX5_init 119 = .ok (.bipush 16, 2) := by decide +kernel
theorem dX5_init_121 : decode cX5_init 121 = .ok (.if_icmp .ge 16, 3) := by decide +kernel
theorem dX5_init_124 : decode cX5_init 124 = .ok (.aload_n 0, 1) := by decide +kernel
theorem dX5_init_125 : decode cX5_init 125 = .ok (.getfield 9, 3) := by decide +kernel
theorem dX5_init_128 : decode cX5_init 128 = .ok (.iload_n 2, 1) := by decide +kernel
theorem dX5_init_129 : decode cX5_init 129 = .ok (.iconst 5, 1) := by decide +kernel
theorem dX5_init_130 : decode cX5_init 130 = .ok (.iastore, 1) := by decide +kernel
theorem dX5_init_131 : decode cX5_init 131 = .ok (.iinc 2 1, 3) := by decide +kernel
theorem dX5_init_134 : decode cX5_init 134 = .ok (.goto (-16), 3) := by decide +kernel
theorem dX5_init_137 : decode cX5_init 137 = .ok (.return_, 1) := by decide +kernel
theorem dX5_become_0 : decode cX5_become 0 = .ok (.aload_n 1, 1) := by decide +kernel
theorem dX5_become_1 : decode cX5_become 1 = .ok (.getfield 9, 3) := by decide +kernel
theorem dX5_become_4 : decode cX5_become 4 = .ok (.iconst 0, 1) := by decide +kernel
theorem dX5_become_5 : decode cX5_become 5 = .ok (.aload_n 0, 1) := by decide +kernel
theorem dX5_become_6 : decode cX5_become 6 = .ok (.getfield 9, 3) := by decide +kernel
theorem dX5_become_9 : decode cX5_become 9 = .ok (.iconst 0, 1) := by decide +kernel
theorem dX5_become_10 : decode cX5_become 10 = .ok (.bipush 16, 2) := by decide +kernel
theorem dX5_become_12 : decode cX5_become 12 = .ok (.invokestatic 68, 3) := by decide +kernel
theorem dX5_become_15 : decode cX5_become 15 = .ok (.aload_n 1, 1) := by decide +kernel
theorem dX5_become_16 : decode cX5_become 16 = .ok (.getfield 15, 3) := by decide +kernel
theorem dX5_become_19 : decode cX5_become 19 = .ok (.iconst 0, 1) := by decide +kernel
theorem dX5_become_20 : decode cX5_become 20 = .ok (.aload_n 0, 1) := by decide +kernel
theorem dX5_become_21 : decode cX5_become 21 = .ok (.getfield 15, 3) := by decide +kernel
theorem dX5_become_24 : decode cX5_become 24 = .ok (.iconst 0, 1) := by decide +kernel
theorem dX5_become_25 : decode cX5_become 25 = .ok (.bipush 6, 2) := by decide +kernel
theorem dX5_become_27 : decode cX5_become 27 = .ok (.invokestatic 68, 3) := by decide +kernel
theorem dX5_become_30 : decode cX5_become 30 = .ok (.aload_n 1, 1) := by decide +kernel
theorem dX5_become_31 : decode cX5_become 31 = .ok (.getfield 18, 3) := by decide +kernel
theorem dX5_become_34 : decode cX5_become 34 = .ok (.iconst 0, 1) := by decide +kernel
theorem dX5_become_35 : decode cX5_become 35 = .ok (.aload_n 0, 1) := by decide +kernel
theorem dX5_become_36 : decode cX5_become 36 = .ok (.getfield 18, 3) := by decide +kernel
theorem dX5_become_39 : decode cX5_become 39 = .ok (.iconst 0, 1) := by decide +kernel
theorem dX5_become_40 : decode cX5_become 40 = .ok (.bipush 6, 2) := by decide +kernel
theorem dX5_become_42 : decode cX5_become 42 = .ok (.invokestatic 68, 3) := by decide +kernel
theorem dX5_become_45 : decode cX5_become 45 = .ok (.aload_n 1, 1) := by decide +kernel
theorem dX5_become_46 : decode cX5_become 46 = .ok (.getfield 21, 3) := by decide +kernel
theorem dX5_become_49 : decode cX5_become 49 = .ok (.iconst 0, 1) := by decide +kernel
theorem dX5_become_50 : decode cX5_become 50 = .ok (.aload_n 0, 1) := by decide +kernel
theorem dX5_become_51 : decode cX5_become 51 = .ok (.getfield 21, 3) := by decide +kernel
theorem dX5_become_54 : decode cX5_become 54 = .ok (.iconst 0, 1) := by decide +kernel
theorem dX5_become_55 : decode cX5_become 55 = .ok (.bipush 6, 2) := by decide +kernel
theorem dX5_become_57 : decode cX5_become 57 = .ok (.invokestatic 68, 3) := by decide +kernel
theorem dX5_become_60 : decode cX5_become 60 = .ok (.aload_n 1, 1) := by decide +kernel
theorem dX5_become_61 : decode cX5_become 61 = .ok (.getfield 24, 3) := by decide +kernel
theorem dX5_become_64 : decode cX5_become 64 = .ok (.iconst 0, 1) := by decide +kernel
theorem dX5_become_65 : decode cX5_become 65 = .ok (.aload_n 0, 1) := by decide +kernel
theorem dX5_become_66 : decode cX5_become 66 = .ok (.getfield 24, 3) := by decide +kernel
theorem dX5_become_69 : decode cX5_become 69 = .ok (.iconst 0, 1) := by decide +kernel
theorem dX5_become_70 : decode cX5_become 70 = .ok (.bipush 6, 2) := by decide +kernel
theorem dX5_become_72 : decode cX5_become 72 = .ok (.invokestatic 68, 3) := by decide +kernel
theorem dX5_become_75 : decode cX5_become 75 = .ok (.aload_n 1, 1) := by decide +kernel
theorem dX5_become_76 : decode cX5_become 76 = .ok (.getfield 27, 3) := by decide +kernel
theorem dX5_become_79 : decode cX5_become 79 = .ok (.iconst 0, 1) := by decide +kernel
theorem dX5_become_80 : decode cX5_become 80 = .ok (.aload_n 0, 1) := by decide +kernel
theorem dX5_become_81 : decode cX5_become 81 = .ok (.getfield 27, 3) := by decide +kernel
theorem dX5_become_84 : decode cX5_become 84 = .ok (.iconst 0, 1) := by decide +kernel
theorem dX5_become_85 : decode cX5_become 85 = .ok (.bipush 6, 2) := by decide +kernel
theorem dX5_become_87 : decode cX5_become 87 = .ok (.invokestatic 68, 3) := by decide +kernel
theorem dX5_become_90 : decode cX5_become 90 = .ok (.aload_n 0, 1) := by decide +kernel
theorem dX5_become_91 : decode cX5_become 91 = .ok (.getfield 33, 3) := by decide +kernel
theorem dX5_become_94 : decode cX5_become 94 = .ok (.aload_n 1, 1) := by decide +kernel
theorem dX5_become_95 : decode cX5_become 95 = .ok (.getfield 33, 3) := by decide +kernel
theorem dX5_become_98 : decode cX5_become 98 = .ok (.invokevirtual 74, 3) := by decide +kernel
theorem dX5_become_101 : decode cX5_become 101 = .ok (.aload_n 0, 1) := by decide +kernel
theorem dX5_become_102 : decode cX5_become 102 = .ok (.getfield 40, 3) := by decide +kernel
theorem dX5_become_105 : decode cX5_become 105 = .ok (.aload_n 1, 1) := by decide +kernel
theorem dX5_become_106 : decode cX5_become 106 = .ok (.getfield 40, 3) := by decide +kernel
theorem dX5_become_109 : decode cX5_become 109 = .ok (.invokevirtual 78, 3) := by decide +kernel
theorem dX5_become_112 : decode cX5_become 112 = .ok (.aload_n 0, 1) := by decide +kernel
theorem dX5_become_113 : decode cX5_become 113 = .ok (.getfield 47, 3) := by decide +kernel
theorem dX5_become_116 : decode cX5_become 116 = .ok (.aload_n 1, 1) := by decide +kernel
theorem dX5_become_117 : decode cX5_become 117 = .ok (.getfield 47, 3) := by decide +kernel
theorem dX5_become_120 : decode cX5_become 120 = .ok (.invokevirtual 81, 3) := by decide +kernel
theorem dX5_become_123 : decode cX5_become 123 = .ok (.aload_n 0, 1) := by decide +kernel
theorem dX5_become_124 : decode cX5_become 124 = .ok (.aload_n 1, 1) := by decide +kernel
theorem dX5_become_125 : decode cX5_become 125 = .ok (.getfield 84, 3) := by decide +kernel
theorem dX5_become_128 : decode cX5_become 128 = .ok (.putfield 84, 3) := by decide +kernel
theorem dX5_become_131 : decode cX5_become 131 = .ok (.aload_n 0, 1) := by decide +kernel
theorem dX5_become_132 : decode cX5_become 132 = .ok (.aload_n 1, 1) := by decide +kernel
theorem dX5_become_133 : decode cX5_become 133 = .ok (.getfield 51, 3) := by decide +kernel
theorem dX5_become_136 : decode cX5_become 136 = .ok (.putfield 51, 3) := by decide +kernel
theorem dX5_become_139 : decode cX5_become 139 = .ok (.aload_n 0, 1) := by decide +kernel
theorem dX5_become_140 : decode cX5_become 140 = .ok (.aload_n 1, 1) := by decide +kernel
theorem dX5_become_141 : decode cX5_become 141 = .ok (.getfield 87, 3) := by decide +kernel
theorem dX5_become_144 : decode cX5_become 144 = .ok (.putfield 87, 3) := by decide +kernel
theorem dX5_become_147 : decode cX5_become 147 = .ok (.aload_n 0, 1) := by decide +kernel
theorem dX5_become_148 : decode cX5_become 148 = .ok (.aload_n 1, 1) := by decide +kernel
theorem dX5_become_149 : decode cX5_become 149 = .ok (.getfield 55, 3) := by decide +kernel
theorem dX5_become_152 : decode cX5_become 152 = .ok (.putfield 55, 3) := by decide +kernel
theorem dX5_become_155 : decode cX5_become 155 = .ok (.return_, 1) := by decide +kernel
theorem dX5_add_0 : decode cX5_add 0 = .ok (.aload_n 0, 1) := by decide +kernel
theorem dX5_add_1 : decode cX5_add 1 = .ok (.getfield 84, 3) := by decide +kernel
theorem dX5_add_4 : decode cX5_add 4 = .ok (.istore 5, 2) := by decide +kernel
theorem dX5_add_6 : decode cX5_add 6 = .ok (.aload_n 0, 1) := by decide +kernel
theorem dX5_add_7 : decode cX5_add 7 = .ok (.getfield 21, 3) := by decide +kernel
theorem dX5_add_10 : decode cX5_add 10 = .ok (.iload 5, 2) := by decide +kernel
theorem dX5_add_12 : decode cX5_add 12 = .ok (.iload_n 1, 1) := by decide +kernel
theorem dX5_add_13 : decode cX5_add 13 = .ok (.iastore, 1) := by decide +kernel
theorem dX5_add_14 : decode cX5_add 14 = .ok (.aload_n 0, 1) := by decide +kernel
theorem dX5_add_15 : decode cX5_add 15 = .ok (.getfield 24, 3) := by decide +kernel
theorem dX5_add_18 : decode cX5_add 18 = .ok (.iload 5, 2) := by decide +kernel
theorem dX5_add_20 : decode cX5_add 20 = .ok (.iload_n 3, 1) := by decide +kernel
theorem dX5_add_21 : decode cX5_add 21 = .ok (.iastore, 1) := by decide +kernel
theorem dX5_add_22 : decode cX5_add 22 = .ok (.aload_n 0, 1) := by decide +kernel
theorem dX5_add_23 : decode cX5_add 23 = .ok (.getfield 27, 3) := by decide +kernel
theorem dX5_add_26 : decode cX5_add 26 = .ok (.iload 5, 2) := by decide +kernel
theorem dX5_add_28 : decode cX5_add 28 = .ok (.iload 4, 2) := by decide +kernel
theorem dX5_add_30 : decode cX5_add 30 = .ok (.iastore, 1) := by decide +kernel
theorem dX5_add_31 : decode cX5_add 31 = .ok (.aload_n 0, 1) := by decide +kernel
theorem dX5_add_32 : decode cX5_add 32 = .ok (.getfield 33, 3) := by decide +kernel
theorem dX5_add_35 : decode cX5_add 35 = .ok (.getfield 90, 3) := by decide +kernel
theorem dX5_add_38 : decode cX5_add 38 = .ok (.iload 5, 2) := by decide +kernel
theorem dX5_add_40 : decode cX5_add 40 = .ok (.iload_n 2, 1) := by decide +kernel
theorem dX5_add_41 : decode cX5_add 41 = .ok (.iastore, 1) := by decide +kernel
theorem dX5_add_42 : decode cX5_add 42 = .ok (.aload_n 0, 1) := by decide +kernel
theorem dX5_add_43 : decode cX5_add 43 = .ok (.getfield 33, 3) := by decide +kernel
theorem dX5_add_46 : decode cX5_add 46 = .ok (.getfield 93, 3) := by decide +kernel
theorem dX5_add_49 : decode cX5_add 49 = .ok (.iload 5, 2) := by decide +kernel
theorem dX5_add_51 : decode cX5_add 51 = .ok (.iload 4, 2) := by decide +kernel
theorem dX5_add_53 : decode cX5_add 53 = .ok (.iastore, 1) := by decide +kernel
theorem dX5_add_54 : decode cX5_add 54 = .ok (.aload_n 0, 1) := by decide +kernel
theorem dX5_add_55 : decode cX5_add 55 = .ok (.dup, 1) := by decide +kernel
theorem dX5_add_56 : decode cX5_add 56 = .ok (.getfield 84, 3) := by decide +kernel
theorem dX5_add_59 : decode cX5_add 59 = .ok (.iconst 1, 1) := by decide +kernel
theorem dX5_add_60 : decode cX5_add 60 = .ok (.iadd, 1) := by decide +kernel
theorem dX5_add_61 : decode cX5_add 61 = .ok (.putfield 84, 3) := by decide +kernel
theorem dX5_add_64 : decode cX5_add 64 = .ok (.iload 5, 2) := by decide +kernel
theorem dX5_add_66 : decode cX5_add 66 = .ok (.ireturn, 1) := by decide +kernel
theorem dX5_put_0 : decode cX5_put 0 = .ok (.iload_n 2, 1) := by decide +kernel
theorem dX5_put_1 : decode cX5_put 1 = .ok (.tableswitch 108 1 5 #[35, 48, 58, 68, 95], 35) := by decide +kernel
theorem dX5_put_36 : decode cX5_put 36 = .ok (.aload_n 0, 1) := by decide +kernel
theorem dX5_put_37 : decode cX5_put 37 = .ok (.getfield 33, 3) := by decide +kernel
theorem dX5_put_40 : decode cX5_put 40 = .ok (.getfield 90, 3) := by decide +kernel
theorem dX5_put_43 : decode cX5_put 43 = .ok (.iload_n 1, 1) := by decide +kernel
theorem dX5_put_44 : decode cX5_put 44 = .ok (.iload_n 3, 1) := by decide +kernel
theorem dX5_put_45 : decode cX5_put 45 = .ok (.iastore, 1) := by decide +kernel
theorem dX5_put_46 : decode cX5_put 46 = .ok (.goto 63, 3) := by decide +kernel
theorem dX5_put_49 : decode cX5_put 49 = .ok (.aload_n 0, 1) := by decide +kernel
theorem dX5_put_50 : decode cX5_put 50 = .ok (.getfield 24, 3) := by decide +kernel
theorem dX5_put_53 : decode cX5_put 53 = .ok (.iload_n 1, 1) := by decide +kernel
theorem dX5_put_54 : decode cX5_put 54 = .ok (.iload_n 3, 1) := by decide +kernel
theorem dX5_put_55 : decode cX5_put 55 = .ok (.iastore, 1) := by decide +kernel
theorem dX5_put_56 : decode cX5_put 56 = .ok (.goto 53, 3) := by decide +kernel
theorem dX5_put_59 : decode cX5_put 59 = .ok (.aload_n 0, 1) := by decide +kernel
theorem dX5_put_60 : decode cX5_put 60 = .ok (.getfield 27, 3) := by decide +kernel
theorem dX5_put_63 : decode cX5_put 63 = .ok (.iload_n 1, 1) := by decide +kernel
theorem dX5_put_64 : decode cX5_put 64 = .ok (.iload_n 3, 1) := by decide +kernel
theorem dX5_put_65 : decode cX5_put 65 = .ok (.iastore, 1) := by decide +kernel
theorem dX5_put_66 : decode cX5_put 66 = .ok (.goto 43, 3) := by decide +kernel
theorem dX5_put_69 : decode cX5_put 69 = .ok (.aload_n 0, 1) := by decide +kernel
theorem dX5_put_70 : decode cX5_put 70 = .ok (.getfield 33, 3) := by decide +kernel
theorem dX5_put_73 : decode cX5_put 73 = .ok (.aload_n 0, 1) := by decide +kernel
theorem dX5_put_74 : decode cX5_put 74 = .ok (.getfield 33, 3) := by decide +kernel
theorem dX5_put_77 : decode cX5_put 77 = .ok (.getfield 96, 3) := by decide +kernel
theorem dX5_put_80 : decode cX5_put 80 = .ok (.iconst 1, 1) := by decide +kernel
theorem dX5_put_81 : decode cX5_put 81 = .ok (.iload_n 1, 1) := by decide +kernel
theorem dX5_put_82 : decode cX5_put 82 = .ok (.ishl, 1) := by decide +kernel
theorem dX5_put_83 : decode cX5_put 83 = .ok (.iconst (-1), 1) := by decide +kernel
theorem dX5_put_84 : decode cX5_put 84 = .ok (.ixor, 1) := by decide +kernel
theorem dX5_put_85 : decode cX5_put 85 = .ok (.iand, 1) := by decide +kernel
theorem dX5_put_86 : decode cX5_put 86 = .ok (.iload_n 3, 1) := by decide +kernel
theorem dX5_put_87 : decode cX5_put 87 = .ok (.iload_n 1, 1) := by decide +kernel
theorem dX5_put_88 : decode cX5_put 88 = .ok (.ishl, 1) := by decide +kernel
theorem dX5_put_89 : decode cX5_put 89 = .ok (.ior, 1) := by decide +kernel
theorem dX5_put_90 : decode cX5_put 90 = .ok (.putfield 96, 3) := by decide +kernel
theorem dX5_put_93 : decode cX5_put 93 = .ok (.goto 16, 3) := by decide +kernel
theorem dX5_put_96 : decode cX5_put 96 = .ok (.aload_n 0, 1) := by decide +kernel
theorem dX5_put_97 : decode cX5_put 97 = .ok (.getfield 33, 3) := by decide +kernel
theorem dX5_put_100 : decode cX5_put 100 = .ok (.getfield 93, 3) := by decide +kernel
theorem dX5_put_103 : decode cX5_put 103 = .ok (.iload_n 1, 1) := by decide +kernel
theorem dX5_put_104 : decode cX5_put 104 = .ok (.iload_n 3, 1) := by decide +kernel
theorem dX5_put_105 : decode cX5_put 105 = .ok (.iastore, 1) := by decide +kernel
theorem dX5_put_106 : decode cX5_put 106 = .ok (.goto 3, 3) := by decide +kernel
theorem dX5_put_109 : decode cX5_put 109 = .ok (.return_, 1) := by decide +kernel
theorem dX5_startAgain_0 : decode cX5_startAgain 0 = .ok (.aload_n 0, 1) := by decide +kernel
theorem dX5_startAgain_1 : decode cX5_startAgain 1 = .ok (.getfield 33, 3) := by decide +kernel
theorem dX5_startAgain_4 : decode cX5_startAgain 4 = .ok (.iconst 0, 1) := by decide +kernel
theorem dX5_startAgain_5 : decode cX5_startAgain 5 = .ok (.putfield 99, 3) := by decide +kernel
theorem dX5_startAgain_8 : decode cX5_startAgain 8 = .ok (.aload_n 0, 1) := by decide +kernel
theorem dX5_startAgain_9 : decode cX5_startAgain 9 = .ok (.getfield 33, 3) := by decide +kernel
theorem dX5_startAgain_12 : decode cX5_startAgain 12 = .ok (.iconst 0, 1) := by decide +kernel
theorem dX5_startAgain_13 : decode cX5_startAgain 13 = .ok (.putfield 96, 3) := by decide +kernel
theorem dX5_startAgain_16 : decode cX5_startAgain 16 = .ok (.aload_n 0, 1) := by decide +kernel
theorem dX5_startAgain_17 : decode cX5_startAgain 17 = .ok (.iconst 0, 1) := by decide +kernel
theorem dX5_startAgain_18 : decode cX5_startAgain 18 = .ok (.putfield 87, 3) := by decide +kernel
theorem dX5_startAgain_21 : decode cX5_startAgain 21 = .ok (.iconst 0, 1) := by decide +kernel
theorem dX5_startAgain_22 : decode cX5_startAgain 22 = .ok (.istore_n 1, 1) := by decide +kernel
theorem dX5_startAgain_23 : decode cX5_startAgain 23 = .ok (.iload_n 1, 1) := by decide +kernel
theorem dX5_startAgain_24 : decode cX5_startAgain 24 = .ok (.aload_n 0, 1) := by decide +kernel
theorem dX5_startAgain_25 : decode cX5_startAgain 25 = .ok (.getfield 84, 3) := by decide +kernel
theorem dX5_startAgain_28 : decode cX5_startAgain 28 = .ok (.if_icmp .ge 24, 3) := by decide +kernel
theorem dX5_startAgain_31 : decode cX5_startAgain 31 = .ok (.aload_n 0, 1) := by decide +kernel
theorem dX5_startAgain_32 : decode cX5_startAgain 32 = .ok (.getfield 33, 3) := by decide +kernel
theorem dX5_startAgain_35 : decode cX5_startAgain 35 = .ok (.getfield 93, 3) := by decide +kernel
theorem dX5_startAgain_38 : decode cX5_startAgain 38 = .ok (.iload_n 1, 1) := by decide +kernel
theorem dX5_startAgain_39 : decode cX5_startAgain 39 = .ok (.aload_n 0, 1) := by decide +kernel
theorem dX5_startAgain_40 : decode cX5_startAgain 40 = .ok (.getfield 27, 3) := by decide +kernel
theorem dX5_startAgain_43 : decode cX5_startAgain 43 = .ok (.iload_n 1, 1) := by decide +kernel
theorem dX5_startAgain_44 : decode cX5_startAgain 44 = .ok (.iaload, 1) := by decide +kernel
theorem dX5_startAgain_45 : decode cX5_startAgain 45 = .ok (.iastore, 1) := by decide +kernel
theorem dX5_startAgain_46 : decode cX5_startAgain 46 = .ok (.iinc 1 1, 3) := by decide +kernel
theorem dX5_startAgain_49 : decode cX5_startAgain 49 = .ok (.goto (-26), 3) := by decide +kernel
theorem dX5_startAgain_52 : decode cX5_startAgain 52 = .ok (.return_, 1) := by decide +kernel
theorem dX5_atHome_0 : decode cX5_atHome 0 = .ok (.iconst 0, 1) := by decide +kernel
theorem dX5_atHome_1 : decode cX5_atHome 1 = .ok (.istore_n 1, 1) := by decide +kernel
theorem dX5_atHome_2 : decode cX5_atHome 2 = .ok (.iconst 0, 1) := by decide +kernel
theorem dX5_atHome_3 : decode cX5_atHome 3 = .ok (.istore_n 2, 1) := by decide +kernel
theorem dX5_atHome_4 : decode cX5_atHome 4 = .ok (.iload_n 2, 1) := by decide +kernel
theorem dX5_atHome_5 : decode cX5_atHome 5 = .ok (.aload_n 0, 1) := by decide +kernel
theorem dX5_atHome_6 : decode cX5_atHome 6 = .ok (.getfield 84, 3) := by decide +kernel
theorem dX5_atHome_9 : decode cX5_atHome 9 = .ok (.if_icmp .ge 33, 3) := by decide +kernel
theorem dX5_atHome_12 : decode cX5_atHome 12 = .ok (.aload_n 0, 1) := by decide +kernel
theorem dX5_atHome_13 : decode cX5_atHome 13 = .ok (.getfield 33, 3) := by decide +kernel
theorem dX5_atHome_16 : decode cX5_atHome 16 = .ok (.getfield 93, 3) := by decide +kernel
theorem dX5_atHome_19 : decode cX5_atHome 19 = .ok (.iload_n 2, 1) := by decide +kernel
theorem dX5_atHome_20 : decode cX5_atHome 20 = .ok (.iaload, 1) := by decide +kernel
theorem dX5_atHome_21 : decode cX5_atHome 21 = .ok (.aload_n 0, 1) := by decide +kernel
theorem dX5_atHome_22 : decode cX5_atHome 22 = .ok (.getfield 27, 3) := by decide +kernel
theorem dX5_atHome_25 : decode cX5_atHome 25 = .ok (.iload_n 2, 1) := by decide +kernel
theorem dX5_atHome_26 : decode cX5_atHome 26 = .ok (.iaload, 1) := by decide +kernel
theorem dX5_atHome_27 : decode cX5_atHome 27 = .ok (.if_icmp .ne 9, 3) := by decide +kernel
theorem dX5_atHome_30 : decode cX5_atHome 30 = .ok (.iload_n 1, 1) := by decide +kernel
theorem dX5_atHome_31 : decode cX5_atHome 31 = .ok (.iconst 1, 1) := by decide +kernel
theorem dX5_atHome_32 : decode cX5_atHome 32 = .ok (.iload_n 2, 1) := by decide +kernel
theorem dX5_atHome_33 : decode cX5_atHome 33 = .ok (.ishl, 1) := by decide +kernel
theorem dX5_atHome_34 : decode cX5_atHome 34 = .ok (.ior, 1) := by decide +kernel
theorem dX5_atHome_35 : decode cX5_atHome 35 = .ok (.istore_n 1, 1) := by decide +kernel
theorem dX5_atHome_36 : decode cX5_atHome 36 = .ok (.iinc 2 1, 3) := by decide +kernel
theorem dX5_atHome_39 : decode cX5_atHome 39 = .ok (.goto (-35), 3) := by decide +kernel
theorem dX5_atHome_42 : decode cX5_atHome 42 = .ok (.iload_n 1, 1) := by decide +kernel
theorem dX5_atHome_43 : decode cX5_atHome 43 = .ok (.ireturn, 1) := by decide +kernel
theorem dX5_isOver_0 : decode cX5_isOver 0 = .ok (.aload_n 1, 1) := by decide +kernel
theorem dX5_isOver_1 : decode cX5_isOver 1 = .ok (.getfield 99, 3) := by decide +kernel
theorem dX5_isOver_4 : decode cX5_isOver 4 = .ok (.aload_n 0, 1) := by decide +kernel
theorem dX5_isOver_5 : decode cX5_isOver 5 = .ok (.getfield 51, 3) := by decide +kernel
theorem dX5_isOver_8 : decode cX5_isOver 8 = .ok (.if_icmp .lt 7, 3) := by decide +kernel
theorem dX5_isOver_11 : decode cX5_isOver 11 = .ok (.iconst 1, 1) := by decide +kernel
theorem dX5_isOver_12 : decode cX5_isOver 12 = .ok (.goto 4, 3) := by decide +kernel
theorem dX5_isOver_15 : decode cX5_isOver 15 = .ok (.iconst 0, 1) := by decide +kernel
theorem dX5_isOver_16 : decode cX5_isOver 16 = .ok (.ireturn, 1) := by decide +kernel
theorem dX5_crowdOf_0 : decode cX5_crowdOf 0 = .ok (.iload_n 1, 1) := by decide +kernel
theorem dX5_crowdOf_1 : decode cX5_crowdOf 1 = .ok (.ifCond .lt 18, 3) := by decide +kernel
theorem dX5_crowdOf_4 : decode cX5_crowdOf 4 = .ok (.iload_n 1, 1) := by decide +kernel
theorem dX5_crowdOf_5 : decode cX5_crowdOf 5 = .ok (.bipush 16, 2) := by decide +kernel
theorem dX5_crowdOf_7 : decode cX5_crowdOf 7 = .ok (.if_icmp .ge 12, 3) := by decide +kernel
theorem dX5_crowdOf_10 : decode cX5_crowdOf 10 = .ok (.aload_n 0, 1) := by decide +kernel
theorem dX5_crowdOf_11 : decode cX5_crowdOf 11 = .ok (.getfield 9, 3) := by decide +kernel
theorem dX5_crowdOf_14 : decode cX5_crowdOf 14 = .ok (.iload_n 1, 1) := by decide +kernel
theorem dX5_crowdOf_15 : decode cX5_crowdOf 15 = .ok (.iaload, 1) := by decide +kernel
theorem dX5_crowdOf_16 : decode cX5_crowdOf 16 = .ok (.goto 4, 3) := by decide +kernel
theorem dX5_crowdOf_19 : decode cX5_crowdOf 19 = .ok (.iconst 0, 1) := by decide +kernel
theorem dX5_crowdOf_20 : decode cX5_crowdOf 20 = .ok (.ireturn, 1) := by decide +kernel
theorem dX5_count_0 : decode cX5_count 0 = .ok (.iconst 0, 1) := by decide +kernel
theorem dX5_count_1 : decode cX5_count 1 = .ok (.istore_n 2, 1) := by decide +kernel
theorem dX5_count_2 : decode cX5_count 2 = .ok (.iload_n 2, 1) := by decide +kernel
theorem dX5_count_3 : decode cX5_count 3 = .ok (.bipush 6, 2) := by decide +kernel
theorem dX5_count_5 : decode cX5_count 5 = .ok (.if_icmp .ge 16, 3) := by decide +kernel
theorem dX5_count_8 : decode cX5_count 8 = .ok (.aload_n 0, 1) := by decide +kernel
theorem dX5_count_9 : decode cX5_count 9 = .ok (.getfield 58, 3) := by decide +kernel
theorem dX5_count_12 : decode cX5_count 12 = .ok (.iload_n 2, 1) := by decide +kernel
theorem dX5_count_13 : decode cX5_count 13 = .ok (.iconst 0, 1) := by decide +kernel
theorem dX5_count_14 : decode cX5_count 14 = .ok (.iastore, 1) := by decide +kernel
theorem dX5_count_15 : decode cX5_count 15 = .ok (.iinc 2 1, 3) := by decide +kernel
theorem dX5_count_18 : decode cX5_count 18 = .ok (.goto (-16), 3) := by decide +kernel
theorem dX5_count_21 : decode cX5_count 21 = .ok (.iconst 0, 1) := by decide +kernel
theorem dX5_count_22 : decode cX5_count 22 = .ok (.istore_n 2, 1) := by decide +kernel
theorem dX5_count_23 : decode cX5_count 23 = .ok (.iload_n 2, 1) := by decide +kernel
theorem dX5_count_24 : decode cX5_count 24 = .ok (.aload_n 0, 1) := by decide +kernel
theorem dX5_count_25 : decode cX5_count 25 = .ok (.getfield 84, 3) := by decide +kernel
theorem dX5_count_28 : decode cX5_count 28 = .ok (.if_icmp .ge 32, 3) := by decide +kernel
theorem dX5_count_31 : decode cX5_count 31 = .ok (.aload_n 1, 1) := by decide +kernel
theorem dX5_count_32 : decode cX5_count 32 = .ok (.iload_n 2, 1) := by decide +kernel
theorem dX5_count_33 : decode cX5_count 33 = .ok (.invokevirtual 102, 3) := by decide +kernel
theorem dX5_count_36 : decode cX5_count 36 = .ok (.ifCond .ne 18, 3) := by decide +kernel
theorem dX5_count_39 : decode cX5_count 39 = .ok (.aload_n 0, 1) := by decide +kernel
theorem dX5_count_40 : decode cX5_count 40 = .ok (.getfield 58, 3) := by decide +kernel
theorem dX5_count_43 : decode cX5_count 43 = .ok (.aload_n 1, 1) := by decide +kernel
theorem dX5_count_44 : decode cX5_count 44 = .ok (.getfield 93, 3) := by decide +kernel
theorem dX5_count_47 : decode cX5_count 47 = .ok (.iload_n 2, 1) := by decide +kernel
theorem dX5_count_48 : decode cX5_count 48 = .ok (.iaload, 1) := by decide +kernel
theorem dX5_count_49 : decode cX5_count 49 = .ok (.dup2, 1) := by decide +kernel
theorem dX5_count_50 : decode cX5_count 50 = .ok (.iaload, 1) := by decide +kernel
theorem dX5_count_51 : decode cX5_count 51 = .ok (.iconst 1, 1) := by decide +kernel
theorem dX5_count_52 : decode cX5_count 52 = .ok (.iadd, 1) := by decide +kernel
theorem dX5_count_53 : decode cX5_count 53 = .ok (.iastore, 1) := by decide +kernel
theorem dX5_count_54 : decode cX5_count 54 = .ok (.iinc 2 1, 3) := by decide +kernel
theorem dX5_count_57 : decode cX5_count 57 = .ok (.goto (-34), 3) := by decide +kernel
theorem dX5_count_60 : decode cX5_count 60 = .ok (.return_, 1) := by decide +kernel
theorem dX5_fullest_0 : decode cX5_fullest 0 = .ok (.aload_n 0, 1) := by decide +kernel
theorem dX5_fullest_1 : decode cX5_fullest 1 = .ok (.aload_n 1, 1) := by decide +kernel
theorem dX5_fullest_2 : decode cX5_fullest 2 = .ok (.invokevirtual 106, 3) := by decide +kernel
theorem dX5_fullest_5 : decode cX5_fullest 5 = .ok (.iconst 0, 1) := by decide +kernel
theorem dX5_fullest_6 : decode cX5_fullest 6 = .ok (.istore_n 2, 1) := by decide +kernel
theorem dX5_fullest_7 : decode cX5_fullest 7 = .ok (.iconst 1, 1) := by decide +kernel
theorem dX5_fullest_8 : decode cX5_fullest 8 = .ok (.istore_n 3, 1) := by decide +kernel
theorem dX5_fullest_9 : decode cX5_fullest 9 = .ok (.iload_n 3, 1) := by decide +kernel
theorem dX5_fullest_10 : decode cX5_fullest 10 = .ok (.bipush 6, 2) := by decide +kernel
theorem dX5_fullest_12 : decode cX5_fullest 12 = .ok (.if_icmp .ge 26, 3) := by decide +kernel
theorem dX5_fullest_15 : decode cX5_fullest 15 = .ok (.aload_n 0, 1) := by decide +kernel
theorem dX5_fullest_16 : decode cX5_fullest 16 = .ok (.getfield 58, 3) := by decide +kernel
theorem dX5_fullest_19 : decode cX5_fullest 19 = .ok (.iload_n 3, 1) := by decide +kernel
theorem dX5_fullest_20 : decode cX5_fullest 20 = .ok (.iaload, 1) := by decide +kernel
theorem dX5_fullest_21 : decode cX5_fullest 21 = .ok (.aload_n 0, 1) := by decide +kernel
theorem dX5_fullest_22 : decode cX5_fullest 22 = .ok (.getfield 58, 3) := by decide +kernel
theorem dX5_fullest_25 : decode cX5_fullest 25 = .ok (.iload_n 2, 1) := by decide +kernel
theorem dX5_fullest_26 : decode cX5_fullest 26 = .ok (.iaload, 1) := by decide +kernel
theorem dX5_fullest_27 : decode cX5_fullest 27 = .ok (.if_icmp .le 5, 3) := by decide +kernel
theorem dX5_fullest_30 : decode cX5_fullest 30 = .ok (.iload_n 3, 1) := by decide +kernel
theorem dX5_fullest_31 : decode cX5_fullest 31 = .ok (.istore_n 2, 1) := by decide +kernel
theorem dX5_fullest_32 : decode cX5_fullest 32 = .ok (.iinc 3 1, 3) := by decide +kernel
theorem dX5_fullest_35 : decode cX5_fullest 35 = .ok (.goto (-26), 3) := by decide +kernel
theorem dX5_fullest_38 : decode cX5_fullest 38 = .ok (.iload_n 2, 1) := by decide +kernel
theorem dX5_fullest_39 : decode cX5_fullest 39 = .ok (.ireturn, 1) := by decide +kernel
theorem dX5_closeTo_0 : decode cX5_closeTo 0 = .ok (.iconst 0, 1) := by decide +kernel
theorem dX5_closeTo_1 : decode cX5_closeTo 1 = .ok (.istore_n 2, 1) := by decide +kernel
theorem dX5_closeTo_2 : decode cX5_closeTo 2 = .ok (.iconst 0, 1) := by decide +kernel
theorem dX5_closeTo_3 : decode cX5_closeTo 3 = .ok (.istore_n 3, 1) := by decide +kernel
theorem dX5_closeTo_4 : decode cX5_closeTo 4 = .ok (.iload_n 3, 1) := by decide +kernel
theorem dX5_closeTo_5 : decode cX5_closeTo 5 = .ok (.aload_n 0, 1) := by decide +kernel
theorem dX5_closeTo_6 : decode cX5_closeTo 6 = .ok (.getfield 84, 3) := by decide +kernel
theorem dX5_closeTo_9 : decode cX5_closeTo 9 = .ok (.if_icmp .ge 85, 3) := by decide +kernel
theorem dX5_closeTo_12 : decode cX5_closeTo 12 = .ok (.aload_n 0, 1) := by decide +kernel
theorem dX5_closeTo_13 : decode cX5_closeTo 13 = .ok (.getfield 33, 3) := by decide +kernel
theorem dX5_closeTo_16 : decode cX5_closeTo 16 = .ok (.getfield 90, 3) := by decide +kernel
theorem dX5_closeTo_19 : decode cX5_closeTo 19 = .ok (.iload_n 3, 1) := by decide +kernel
theorem dX5_closeTo_20 : decode cX5_closeTo 20 = .ok (.iaload, 1) := by decide +kernel
theorem dX5_closeTo_21 : decode cX5_closeTo 21 = .ok (.aload_n 0, 1) := by decide +kernel
theorem dX5_closeTo_22 : decode cX5_closeTo 22 = .ok (.getfield 33, 3) := by decide +kernel
theorem dX5_closeTo_25 : decode cX5_closeTo 25 = .ok (.getfield 90, 3) := by decide +kernel
theorem dX5_closeTo_28 : decode cX5_closeTo 28 = .ok (.iload_n 1, 1) := by decide +kernel
theorem dX5_closeTo_29 : decode cX5_closeTo 29 = .ok (.iaload, 1) := by decide +kernel
theorem dX5_closeTo_30 : decode cX5_closeTo 30 = .ok (.isub, 1) := by decide +kernel
theorem dX5_closeTo_31 : decode cX5_closeTo 31 = .ok (.invokestatic 109, 3) := by decide +kernel
theorem dX5_closeTo_34 : decode cX5_closeTo 34 = .ok (.iconst 4, 1) := by decide +kernel
theorem dX5_closeTo_35 : decode cX5_closeTo 35 = .ok (.if_icmp .gt 7, 3) := by decide +kernel
theorem dX5_closeTo_38 : decode cX5_closeTo 38 = .ok (.iconst 1, 1) := by decide +kernel
theorem dX5_closeTo_39 : decode cX5_closeTo 39 = .ok (.goto 4, 3) := by decide +kernel
theorem dX5_closeTo_42 : decode cX5_closeTo 42 = .ok (.iconst 0, 1) := by decide +kernel
theorem dX5_closeTo_43 : decode cX5_closeTo 43 = .ok (.istore 4, 2) := by decide +kernel
theorem dX5_closeTo_45 : decode cX5_closeTo 45 = .ok (.aload_n 0, 1) := by decide +kernel
theorem dX5_closeTo_46 : decode cX5_closeTo 46 = .ok (.getfield 33, 3) := by decide +kernel
theorem dX5_closeTo_49 : decode cX5_closeTo 49 = .ok (.iload_n 3, 1) := by decide +kernel
theorem dX5_closeTo_50 : decode cX5_closeTo 50 = .ok (.invokevirtual 102, 3) := by decide +kernel
theorem dX5_closeTo_53 : decode cX5_closeTo 53 = .ok (.ifCond .ne 35, 3) := by decide +kernel
theorem dX5_closeTo_56 : decode cX5_closeTo 56 = .ok (.iload 4, 2) := by decide +kernel
theorem dX5_closeTo_58 : decode cX5_closeTo 58 = .ok (.ifCond .ne 24, 3) := by decide +kernel
theorem dX5_closeTo_61 : decode cX5_closeTo 61 = .ok (.aload_n 0, 1) := by decide +kernel
theorem dX5_closeTo_62 : decode cX5_closeTo 62 = .ok (.getfield 33, 3) := by decide +kernel
theorem dX5_closeTo_65 : decode cX5_closeTo 65 = .ok (.getfield 93, 3) := by decide +kernel
theorem dX5_closeTo_68 : decode cX5_closeTo 68 = .ok (.iload_n 3, 1) := by decide +kernel
theorem dX5_closeTo_69 : decode cX5_closeTo 69 = .ok (.iaload, 1) := by decide +kernel
theorem dX5_closeTo_70 : decode cX5_closeTo 70 = .ok (.aload_n 0, 1) := by decide +kernel
theorem dX5_closeTo_71 : decode cX5_closeTo 71 = .ok (.getfield 33, 3) := by decide +kernel
theorem dX5_closeTo_74 : decode cX5_closeTo 74 = .ok (.getfield 93, 3) := by decide +kernel
theorem dX5_closeTo_77 : decode cX5_closeTo 77 = .ok (.iload_n 1, 1) := by decide +kernel
theorem dX5_closeTo_78 : decode cX5_closeTo 78 = .ok (.iaload, 1) := by decide +kernel
theorem dX5_closeTo_79 : decode cX5_closeTo 79 = .ok (.if_icmp .ne 9, 3) := by decide +kernel
theorem dX5_closeTo_82 : decode cX5_closeTo 82 = .ok (.iload_n 2, 1) := by decide +kernel
theorem dX5_closeTo_83 : decode cX5_closeTo 83 = .ok (.iconst 1, 1) := by decide +kernel
theorem dX5_closeTo_84 : decode cX5_closeTo 84 = .ok (.iload_n 3, 1) := by decide +kernel
theorem dX5_closeTo_85 : decode cX5_closeTo 85 = .ok (.ishl, 1) := by decide +kernel
theorem dX5_closeTo_86 : decode cX5_closeTo 86 = .ok (.ior, 1) := by decide +kernel
theorem dX5_closeTo_87 : decode cX5_closeTo 87 = .ok (.istore_n 2, 1) := by decide +kernel
theorem dX5_closeTo_88 : decode cX5_closeTo 88 = .ok (.iinc 3 1, 3) := by decide +kernel
theorem dX5_closeTo_91 : decode cX5_closeTo 91 = .ok (.goto (-87), 3) := by decide +kernel
theorem dX5_closeTo_94 : decode cX5_closeTo 94 = .ok (.iload_n 2, 1) := by decide +kernel
theorem dX5_closeTo_95 : decode cX5_closeTo 95 = .ok (.ireturn, 1) := by decide +kernel
theorem dX5_sinking_0 : decode cX5_sinking 0 = .ok (.aload_n 0, 1) := by decide +kernel
theorem dX5_sinking_1 : decode cX5_sinking 1 = .ok (.aload_n 1, 1) := by decide +kernel
theorem dX5_sinking_2 : decode cX5_sinking 2 = .ok (.invokevirtual 106, 3) := by decide +kernel
theorem dX5_sinking_5 : decode cX5_sinking 5 = .ok (.aload_n 0, 1) := by decide +kernel
theorem dX5_sinking_6 : decode cX5_sinking 6 = .ok (.getfield 58, 3) := by decide +kernel
theorem dX5_sinking_9 : decode cX5_sinking 9 = .ok (.aload_n 1, 1) := by decide +kernel
theorem dX5_sinking_10 : decode cX5_sinking 10 = .ok (.getfield 93, 3) := by decide +kernel
theorem dX5_sinking_13 : decode cX5_sinking 13 = .ok (.iload_n 2, 1) := by decide +kernel
theorem dX5_sinking_14 : decode cX5_sinking 14 = .ok (.iaload, 1) := by decide +kernel
theorem dX5_sinking_15 : decode cX5_sinking 15 = .ok (.iaload, 1) := by decide +kernel
theorem dX5_sinking_16 : decode cX5_sinking 16 = .ok (.aload_n 1, 1) := by decide +kernel
theorem dX5_sinking_17 : decode cX5_sinking 17 = .ok (.iload_n 2, 1) := by decide +kernel
theorem dX5_sinking_18 : decode cX5_sinking 18 = .ok (.invokevirtual 102, 3) := by decide +kernel
theorem dX5_sinking_21 : decode cX5_sinking 21 = .ok (.ifCond .eq 7, 3) := by decide +kernel
theorem dX5_sinking_24 : decode cX5_sinking 24 = .ok (.iconst 0, 1) := by decide +kernel
theorem dX5_sinking_25 : decode cX5_sinking 25 = .ok (.goto 4, 3) := by decide +kernel
theorem dX5_sinking_28 : decode cX5_sinking 28 = .ok (.iconst 1, 1) := by decide +kernel
theorem dX5_sinking_29 : decode cX5_sinking 29 = .ok (.isub, 1) := by decide +kernel
theorem dX5_sinking_30 : decode cX5_sinking 30 = .ok (.istore_n 3, 1) := by decide +kernel
theorem dX5_sinking_31 : decode cX5_sinking 31 = .ok (.aload_n 0, 1) := by decide +kernel
theorem dX5_sinking_32 : decode cX5_sinking 32 = .ok (.aload_n 1, 1) := by decide +kernel
theorem dX5_sinking_33 : decode cX5_sinking 33 = .ok (.getfield 99, 3) := by decide +kernel
theorem dX5_sinking_36 : decode cX5_sinking 36 = .ok (.invokevirtual 115, 3) := by decide +kernel
theorem dX5_sinking_39 : decode cX5_sinking 39 = .ok (.istore 4, 2) := by decide +kernel
theorem dX5_sinking_41 : decode cX5_sinking 41 = .ok (.aload_n 0, 1) := by decide +kernel
theorem dX5_sinking_42 : decode cX5_sinking 42 = .ok (.getfield 64, 3) := by decide +kernel
theorem dX5_sinking_45 : decode cX5_sinking 45 = .ok (.aload_n 0, 1) := by decide +kernel
theorem dX5_sinking_46 : decode cX5_sinking 46 = .ok (.getfield 21, 3) := by decide +kernel
theorem dX5_sinking_49 : decode cX5_sinking 49 = .ok (.iload_n 2, 1) := by decide +kernel
theorem dX5_sinking_50 : decode cX5_sinking 50 = .ok (.iaload, 1) := by decide +kernel
theorem dX5_sinking_51 : decode cX5_sinking 51 = .ok (.aaload, 1) := by decide +kernel
theorem dX5_sinking_52 : decode cX5_sinking 52 = .ok (.iload 4, 2) := by decide +kernel
theorem dX5_sinking_54 : decode cX5_sinking 54 = .ok (.iconst 2, 1) := by decide +kernel
theorem dX5_sinking_55 : decode cX5_sinking 55 = .ok (.ishr, 1) := by decide +kernel
theorem dX5_sinking_56 : decode cX5_sinking 56 = .ok (.iload 4, 2) := by decide +kernel
theorem dX5_sinking_58 : decode cX5_sinking 58 = .ok (.iconst 3, 1) := by decide +kernel
theorem dX5_sinking_59 : decode cX5_sinking 59 = .ok (.iand, 1) := by decide +kernel
theorem dX5_sinking_60 : decode cX5_sinking 60 = .ok (.iload_n 3, 1) := by decide +kernel
theorem dX5_sinking_61 : decode cX5_sinking 61 = .ok (.invokevirtual 118, 3) := by decide +kernel
theorem dX5_sinking_64 : decode cX5_sinking 64 = .ok (.ireturn, 1) := by decide +kernel
theorem dX5_drifting_0 : decode cX5_drifting 0 = .ok (.aload_n 0, 1) := by decide +kernel
theorem dX5_drifting_1 : decode cX5_drifting 1 = .ok (.getfield 64, 3) := by decide +kernel
theorem dX5_drifting_4 : decode cX5_drifting 4 = .ok (.aload_n 0, 1) := by decide +kernel
theorem dX5_drifting_5 : decode cX5_drifting 5 = .ok (.getfield 21, 3) := by decide +kernel
theorem dX5_drifting_8 : decode cX5_drifting 8 = .ok (.iload_n 1, 1) := by decide +kernel
theorem dX5_drifting_9 : decode cX5_drifting 9 = .ok (.iaload, 1) := by decide +kernel
theorem dX5_drifting_10 : decode cX5_drifting 10 = .ok (.aaload, 1) := by decide +kernel
theorem dX5_drifting_11 : decode cX5_drifting 11 = .ok (.iload_n 2, 1) := by decide +kernel
theorem dX5_drifting_12 : decode cX5_drifting 12 = .ok (.invokevirtual 124, 3) := by decide +kernel
theorem dX5_drifting_15 : decode cX5_drifting 15 = .ok (.ireturn, 1) := by decide +kernel
theorem dX5_pays_0 : decode cX5_pays 0 = .ok (.aload_n 1, 1) := by decide +kernel
theorem dX5_pays_1 : decode cX5_pays 1 = .ok (.iload_n 2, 1) := by decide +kernel
theorem dX5_pays_2 : decode cX5_pays 2 = .ok (.invokevirtual 102, 3) := by decide +kernel
theorem dX5_pays_5 : decode cX5_pays 5 = .ok (.ifCond .eq 5, 3) := by decide +kernel
theorem dX5_pays_8 : decode cX5_pays 8 = .ok (.iconst 0, 1) := by decide +kernel
theorem dX5_pays_9 : decode cX5_pays 9 = .ok (.ireturn, 1) := by decide +kernel
theorem dX5_pays_10 : decode cX5_pays 10 = .ok (.aload_n 1, 1) := by decide +kernel
theorem dX5_pays_11 : decode cX5_pays 11 = .ok (.getfield 93, 3) := by decide +kernel
theorem dX5_pays_14 : decode cX5_pays 14 = .ok (.iload_n 2, 1) := by decide +kernel
theorem dX5_pays_15 : decode cX5_pays 15 = .ok (.iaload, 1) := by decide +kernel
theorem dX5_pays_16 : decode cX5_pays 16 = .ok (.istore_n 3, 1) := by decide +kernel
theorem dX5_pays_17 : decode cX5_pays 17 = .ok (.aload_n 0, 1) := by decide +kernel
theorem dX5_pays_18 : decode cX5_pays 18 = .ok (.getfield 24, 3) := by decide +kernel
theorem dX5_pays_21 : decode cX5_pays 21 = .ok (.iload_n 2, 1) := by decide +kernel
theorem dX5_pays_22 : decode cX5_pays 22 = .ok (.iaload, 1) := by decide +kernel
theorem dX5_pays_23 : decode cX5_pays 23 = .ok (.aload_n 0, 1) := by decide +kernel
theorem dX5_pays_24 : decode cX5_pays 24 = .ok (.getfield 15, 3) := by decide +kernel
theorem dX5_pays_27 : decode cX5_pays 27 = .ok (.iload_n 3, 1) := by decide +kernel
theorem dX5_pays_28 : decode cX5_pays 28 = .ok (.iaload, 1) := by decide +kernel
theorem dX5_pays_29 : decode cX5_pays 29 = .ok (.iadd, 1) := by decide +kernel
theorem dX5_pays_30 : decode cX5_pays 30 = .ok (.iload_n 3, 1) := by decide +kernel
theorem dX5_pays_31 : decode cX5_pays 31 = .ok (.aload_n 0, 1) := by decide +kernel
theorem dX5_pays_32 : decode cX5_pays 32 = .ok (.getfield 27, 3) := by decide +kernel
theorem dX5_pays_35 : decode cX5_pays 35 = .ok (.iload_n 2, 1) := by decide +kernel
theorem dX5_pays_36 : decode cX5_pays 36 = .ok (.iaload, 1) := by decide +kernel
theorem dX5_pays_37 : decode cX5_pays 37 = .ok (.if_icmp .ne 8, 3) := by decide +kernel
theorem dX5_pays_40 : decode cX5_pays 40 = .ok (.bipush 9, 2) := by decide +kernel
theorem dX5_pays_42 : decode cX5_pays 42 = .ok (.goto 4, 3) := by decide +kernel
theorem dX5_pays_45 : decode cX5_pays 45 = .ok (.iconst 2, 1) := by decide +kernel
theorem dX5_pays_46 : decode cX5_pays 46 = .ok (.iadd, 1) := by decide +kernel
theorem dX5_pays_47 : decode cX5_pays 47 = .ok (.istore 4, 2) := by decide +kernel
theorem dX5_pays_49 : decode cX5_pays 49 = .ok (.iconst 0, 1) := by decide +kernel
theorem dX5_pays_50 : decode cX5_pays 50 = .ok (.iload 4, 2) := by decide +kernel
theorem dX5_pays_52 : decode cX5_pays 52 = .ok (.aload_n 1, 1) := by decide +kernel
theorem dX5_pays_53 : decode cX5_pays 53 = .ok (.getfield 90, 3) := by decide +kernel
theorem dX5_pays_56 : decode cX5_pays 56 = .ok (.iload_n 2, 1) := by decide +kernel
theorem dX5_pays_57 : decode cX5_pays 57 = .ok (.iaload, 1) := by decide +kernel
theorem dX5_pays_58 : decode cX5_pays 58 = .ok (.bipush 7, 2) := by decide +kernel
theorem dX5_pays_60 : decode cX5_pays 60 = .ok (.idiv, 1) := by decide +kernel
theorem dX5_pays_61 : decode cX5_pays 61 = .ok (.isub, 1) := by decide +kernel
theorem dX5_pays_62 : decode cX5_pays 62 = .ok (.invokestatic 127, 3) := by decide +kernel
theorem dX5_pays_65 : decode cX5_pays 65 = .ok (.ireturn, 1) := by decide +kernel
theorem dX5_will_0 : decode cX5_will 0 = .ok (.aload_n 0, 1) := by decide +kernel
theorem dX5_will_1 : decode cX5_will 1 = .ok (.getfield 40, 3) := by decide +kernel
theorem dX5_will_4 : decode cX5_will 4 = .ok (.getfield 131, 3) := by decide +kernel
theorem dX5_will_7 : decode cX5_will 7 = .ok (.ifCond .ne 5, 3) := by decide +kernel
theorem dX5_will_10 : decode cX5_will 10 = .ok (.iconst 0, 1) := by decide +kernel
theorem dX5_will_11 : decode cX5_will 11 = .ok (.ireturn, 1) := by decide +kernel
theorem dX5_will_12 : decode cX5_will 12 = .ok (.aload_n 0, 1) := by decide +kernel
theorem dX5_will_13 : decode cX5_will 13 = .ok (.getfield 61, 3) := by decide +kernel
theorem dX5_will_16 : decode cX5_will 16 = .ok (.iconst 0, 1) := by decide +kernel
theorem dX5_will_17 : decode cX5_will 17 = .ok (.aload_n 1, 1) := by decide +kernel
theorem dX5_will_18 : decode cX5_will 18 = .ok (.getfield 99, 3) := by decide +kernel
theorem dX5_will_21 : decode cX5_will 21 = .ok (.iastore, 1) := by decide +kernel
theorem dX5_will_22 : decode cX5_will 22 = .ok (.aload_n 0, 1) := by decide +kernel
theorem dX5_will_23 : decode cX5_will 23 = .ok (.getfield 61, 3) := by decide +kernel
theorem dX5_will_26 : decode cX5_will 26 = .ok (.iconst 1, 1) := by decide +kernel
theorem dX5_will_27 : decode cX5_will 27 = .ok (.aload_n 1, 1) := by decide +kernel
theorem dX5_will_28 : decode cX5_will 28 = .ok (.getfield 90, 3) := by decide +kernel
theorem dX5_will_31 : decode cX5_will 31 = .ok (.iload_n 2, 1) := by decide +kernel
theorem dX5_will_32 : decode cX5_will 32 = .ok (.iaload, 1) := by decide +kernel
theorem dX5_will_33 : decode cX5_will 33 = .ok (.iastore, 1) := by decide +kernel
theorem dX5_will_34 : decode cX5_will 34 = .ok (.aload_n 0, 1) := by decide +kernel
theorem dX5_will_35 : decode cX5_will 35 = .ok (.getfield 61, 3) := by decide +kernel
theorem dX5_will_38 : decode cX5_will 38 = .ok (.iconst 2, 1) := by decide +kernel
theorem dX5_will_39 : decode cX5_will 39 = .ok (.aload_n 0, 1) := by decide +kernel
theorem dX5_will_40 : decode cX5_will 40 = .ok (.getfield 24, 3) := by decide +kernel
theorem dX5_will_43 : decode cX5_will 43 = .ok (.iload_n 2, 1) := by decide +kernel
theorem dX5_will_44 : decode cX5_will 44 = .ok (.iaload, 1) := by decide +kernel
theorem dX5_will_45 : decode cX5_will 45 = .ok (.iastore, 1) := by decide +kernel
theorem dX5_will_46 : decode cX5_will 46 = .ok (.aload_n 0, 1) := by decide +kernel
theorem dX5_will_47 : decode cX5_will 47 = .ok (.getfield 61, 3) := by decide +kernel
theorem dX5_will_50 : decode cX5_will 50 = .ok (.iconst 3, 1) := by decide +kernel
theorem dX5_will_51 : decode cX5_will 51 = .ok (.aload_n 0, 1) := by decide +kernel
theorem dX5_will_52 : decode cX5_will 52 = .ok (.aload_n 1, 1) := by decide +kernel
theorem dX5_will_53 : decode cX5_will 53 = .ok (.getfield 99, 3) := by decide +kernel
theorem dX5_will_56 : decode cX5_will 56 = .ok (.invokevirtual 115, 3) := by decide +kernel
theorem dX5_will_59 : decode cX5_will 59 = .ok (.iconst 2, 1) := by decide +kernel
theorem dX5_will_60 : decode cX5_will 60 = .ok (.ishr, 1) := by decide +kernel
theorem dX5_will_61 : decode cX5_will 61 = .ok (.iastore, 1) := by decide +kernel
theorem dX5_will_62 : decode cX5_will 62 = .ok (.aload_n 0, 1) := by decide +kernel
theorem dX5_will_63 : decode cX5_will 63 = .ok (.getfield 61, 3) := by decide +kernel
theorem dX5_will_66 : decode cX5_will 66 = .ok (.iconst 4, 1) := by decide +kernel
theorem dX5_will_67 : decode cX5_will 67 = .ok (.iload_n 2, 1) := by decide +kernel
theorem dX5_will_68 : decode cX5_will 68 = .ok (.iastore, 1) := by decide +kernel
theorem dX5_will_69 : decode cX5_will 69 = .ok (.iconst 0, 1) := by decide +kernel
theorem dX5_will_70 : decode cX5_will 70 = .ok (.istore_n 3, 1) := by decide +kernel
theorem dX5_will_71 : decode cX5_will 71 = .ok (.iload_n 3, 1) := by decide +kernel
theorem dX5_will_72 : decode cX5_will 72 = .ok (.aload_n 0, 1) := by decide +kernel
theorem dX5_will_73 : decode cX5_will 73 = .ok (.getfield 40, 3) := by decide +kernel
theorem dX5_will_76 : decode cX5_will 76 = .ok (.getfield 131, 3) := by decide +kernel
theorem dX5_will_79 : decode cX5_will 79 = .ok (.if_icmp .ge 55, 3) := by decide +kernel
theorem dX5_will_82 : decode cX5_will 82 = .ok (.aload_n 0, 1) := by decide +kernel
theorem dX5_will_83 : decode cX5_will 83 = .ok (.getfield 21, 3) := by decide +kernel
theorem dX5_will_86 : decode cX5_will 86 = .ok (.iload_n 2, 1) := by decide +kernel
theorem dX5_will_87 : decode cX5_will 87 = .ok (.iaload, 1) := by decide +kernel
theorem dX5_will_88 : decode cX5_will 88 = .ok (.aload_n 0, 1) := by decide +kernel
theorem dX5_will_89 : decode cX5_will 89 = .ok (.getfield 40, 3) := by decide +kernel
theorem dX5_will_92 : decode cX5_will 92 = .ok (.getfield 133, 3) := by decide +kernel
theorem dX5_will_95 : decode cX5_will 95 = .ok (.iload_n 3, 1) := by decide +kernel
theorem dX5_will_96 : decode cX5_will 96 = .ok (.iaload, 1) := by decide +kernel
theorem dX5_will_97 : decode cX5_will 97 = .ok (.invokestatic 134, 3) := by decide +kernel
theorem dX5_will_100 : decode cX5_will 100 = .ok (.ifCond .eq 28, 3) := by decide +kernel
theorem dX5_will_103 : decode cX5_will 103 = .ok (.aload_n 0, 1) := by decide +kernel
theorem dX5_will_104 : decode cX5_will 104 = .ok (.getfield 40, 3) := by decide +kernel
theorem dX5_will_107 : decode cX5_will 107 = .ok (.iload_n 3, 1) := by decide +kernel
theorem dX5_will_108 : decode cX5_will 108 = .ok (.aload_n 0, 1) := by decide +kernel
theorem dX5_will_109 : decode cX5_will 109 = .ok (.getfield 61, 3) := by decide +kernel
theorem dX5_will_112 : decode cX5_will 112 = .ok (.invokevirtual 138, 3) := by decide +kernel
theorem dX5_will_115 : decode cX5_will 115 = .ok (.ifCond .eq 13, 3) := by decide +kernel
theorem dX5_will_118 : decode cX5_will 118 = .ok (.aload_n 0, 1) := by decide +kernel
theorem dX5_will_119 : decode cX5_will 119 = .ok (.getfield 40, 3) := by decide +kernel
theorem dX5_will_122 : decode cX5_will 122 = .ok (.getfield 142, 3) := by decide +kernel
theorem dX5_will_125 : decode cX5_will 125 = .ok (.iload_n 3, 1) := by decide +kernel
theorem dX5_will_126 : decode cX5_will 126 = .ok (.iaload, 1) := by decide +kernel
theorem dX5_will_127 : decode cX5_will 127 = .ok (.ireturn, 1) := by decide +kernel
theorem dX5_will_128 : decode cX5_will 128 = .ok (.iinc 3 1, 3) := by decide +kernel
theorem dX5_will_131 : decode cX5_will 131 = .ok (.goto (-60), 3) := by decide +kernel
theorem dX5_will_134 : decode cX5_will 134 = .ok (.iconst 0, 1) := by decide +kernel
theorem dX5_will_135 : decode cX5_will 135 = .ok (.ireturn, 1) := by decide +kernel
theorem dX5_deed_0 : decode cX5_deed 0 = .ok (.aload_n 1, 1) := by decide +kernel
theorem dX5_deed_1 : decode cX5_deed 1 = .ok (.iload_n 2, 1) := by decide +kernel
theorem dX5_deed_2 : decode cX5_deed 2 = .ok (.invokevirtual 102, 3) := by decide +kernel
theorem dX5_deed_5 : decode cX5_deed 5 = .ok (.ifCond .eq 5, 3) := by decide +kernel
theorem dX5_deed_8 : decode cX5_deed 8 = .ok (.iconst 2, 1) := by decide +kernel
theorem dX5_deed_9 : decode cX5_deed 9 = .ok (.ireturn, 1) := by decide +kernel
theorem dX5_deed_10 : decode cX5_deed 10 = .ok (.aload_n 0, 1) := by decide +kernel
theorem dX5_deed_11 : decode cX5_deed 11 = .ok (.aload_n 1, 1) := by decide +kernel
theorem dX5_deed_12 : decode cX5_deed 12 = .ok (.iload_n 2, 1) := by decide +kernel
theorem dX5_deed_13 : decode cX5_deed 13 = .ok (.invokevirtual 145, 3) := by decide +kernel
theorem dX5_deed_16 : decode cX5_deed 16 = .ok (.istore_n 3, 1) := by decide +kernel
theorem dX5_deed_17 : decode cX5_deed 17 = .ok (.iload_n 3, 1) := by decide +kernel
theorem dX5_deed_18 : decode cX5_deed 18 = .ok (.ifCond .ne 16, 3) := by decide +kernel
theorem dX5_deed_21 : decode cX5_deed 21 = .ok (.aload_n 0, 1) := by decide +kernel
theorem dX5_deed_22 : decode cX5_deed 22 = .ok (.aload_n 1, 1) := by decide +kernel
theorem dX5_deed_23 : decode cX5_deed 23 = .ok (.iload_n 2, 1) := by decide +kernel
theorem dX5_deed_24 : decode cX5_deed 24 = .ok (.invokevirtual 149, 3) := by decide +kernel
theorem dX5_deed_27 : decode cX5_deed 27 = .ok (.ifCond .ne 7, 3) := by decide +kernel
theorem dX5_deed_30 : decode cX5_deed 30 = .ok (.iconst 2, 1) := by decide +kernel
theorem dX5_deed_31 : decode cX5_deed 31 = .ok (.goto 4, 3) := by decide +kernel
theorem dX5_deed_34 : decode cX5_deed 34 = .ok (.iload_n 3, 1) := by decide +kernel
theorem dX5_deed_35 : decode cX5_deed 35 = .ok (.ireturn, 1) := by decide +kernel
theorem dX5_idlers_0 : decode cX5_idlers 0 = .ok (.iconst 0, 1) := by decide +kernel
theorem dX5_idlers_1 : decode cX5_idlers 1 = .ok (.istore_n 2, 1) := by decide +kernel
theorem dX5_idlers_2 : decode cX5_idlers 2 = .ok (.iconst 0, 1) := by decide +kernel
theorem dX5_idlers_3 : decode cX5_idlers 3 = .ok (.istore_n 3, 1) := by decide +kernel
theorem dX5_idlers_4 : decode cX5_idlers 4 = .ok (.iload_n 3, 1) := by decide +kernel
theorem dX5_idlers_5 : decode cX5_idlers 5 = .ok (.aload_n 0, 1) := by decide +kernel
theorem dX5_idlers_6 : decode cX5_idlers 6 = .ok (.getfield 84, 3) := by decide +kernel
theorem dX5_idlers_9 : decode cX5_idlers 9 = .ok (.if_icmp .ge 25, 3) := by decide +kernel
theorem dX5_idlers_12 : decode cX5_idlers 12 = .ok (.aload_n 0, 1) := by decide +kernel
theorem dX5_idlers_13 : decode cX5_idlers 13 = .ok (.aload_n 1, 1) := by decide +kernel
theorem dX5_idlers_14 : decode cX5_idlers 14 = .ok (.iload_n 3, 1) := by decide +kernel
theorem dX5_idlers_15 : decode cX5_idlers 15 = .ok (.invokevirtual 152, 3) := by decide +kernel
theorem dX5_idlers_18 : decode cX5_idlers 18 = .ok (.iconst 2, 1) := by decide +kernel
theorem dX5_idlers_19 : decode cX5_idlers 19 = .ok (.if_icmp .ne 9, 3) := by decide +kernel
theorem dX5_idlers_22 : decode cX5_idlers 22 = .ok (.iload_n 2, 1) := by decide +kernel
theorem dX5_idlers_23 : decode cX5_idlers 23 = .ok (.iconst 1, 1) := by decide +kernel
theorem dX5_idlers_24 : decode cX5_idlers 24 = .ok (.iload_n 3, 1) := by decide +kernel
theorem dX5_idlers_25 : decode cX5_idlers 25 = .ok (.ishl, 1) := by decide +kernel
theorem dX5_idlers_26 : decode cX5_idlers 26 = .ok (.ior, 1) := by decide +kernel
theorem dX5_idlers_27 : decode cX5_idlers 27 = .ok (.istore_n 2, 1) := by decide +kernel
theorem dX5_idlers_28 : decode cX5_idlers 28 = .ok (.iinc 3 1, 3) := by decide +kernel
theorem dX5_idlers_31 : decode cX5_idlers 31 = .ok (.goto (-27), 3) := by decide +kernel
theorem dX5_idlers_34 : decode cX5_idlers 34 = .ok (.iload_n 2, 1) := by decide +kernel
theorem dX5_idlers_35 : decode cX5_idlers 35 = .ok (.ireturn, 1) := by decide +kernel
theorem dX5_actOfRest_0 : decode cX5_actOfRest 0 = .ok (.iconst 0, 1) := by decide +kernel
theorem dX5_actOfRest_1 : decode cX5_actOfRest 1 = .ok (.istore_n 2, 1) := by decide +kernel
theorem dX5_actOfRest_2 : decode cX5_actOfRest 2 = .ok (.iload_n 2, 1) := by decide +kernel
theorem dX5_actOfRest_3 : decode cX5_actOfRest 3 = .ok (.aload_n 0, 1) := by decide +kernel
theorem dX5_actOfRest_4 : decode cX5_actOfRest 4 = .ok (.getfield 84, 3) := by decide +kernel
theorem dX5_actOfRest_7 : decode cX5_actOfRest 7 = .ok (.if_icmp .ge 22, 3) := by decide +kernel
theorem dX5_actOfRest_10 : decode cX5_actOfRest 10 = .ok (.aload_n 0, 1) := by decide +kernel
theorem dX5_actOfRest_11 : decode cX5_actOfRest 11 = .ok (.aload_n 1, 1) := by decide +kernel
theorem dX5_actOfRest_12 : decode cX5_actOfRest 12 = .ok (.iload_n 2, 1) := by decide +kernel
theorem dX5_actOfRest_13 : decode cX5_actOfRest 13 = .ok (.invokevirtual 152, 3) := by decide +kernel
theorem dX5_actOfRest_16 : decode cX5_actOfRest 16 = .ok (.ifCond .ne 7, 3) := by decide +kernel
theorem dX5_actOfRest_19 : decode cX5_actOfRest 19 = .ok (.iload_n 2, 1) := by decide +kernel
theorem dX5_actOfRest_20 : decode cX5_actOfRest 20 = .ok (.iconst 1, 1) := by decide +kernel
theorem dX5_actOfRest_21 : decode cX5_actOfRest 21 = .ok (.iadd, 1) := by decide +kernel
theorem dX5_actOfRest_22 : decode cX5_actOfRest 22 = .ok (.ireturn, 1) := by decide +kernel
theorem dX5_actOfRest_23 : decode cX5_actOfRest 23 = .ok (.iinc 2 1, 3) := by decide +kernel
theorem dX5_actOfRest_26 : decode cX5_actOfRest 26 = .ok (.goto (-24), 3) := by decide +kernel
theorem dX5_actOfRest_29 : decode cX5_actOfRest 29 = .ok (.iconst 0, 1) := by decide +kernel
theorem dX5_actOfRest_30 : decode cX5_actOfRest 30 = .ok (.ireturn, 1) := by decide +kernel
theorem dX5_actByLot_0 : decode cX5_actByLot 0 = .ok (.iload_n 1, 1) := by decide +kernel
theorem dX5_actByLot_1 : decode cX5_actByLot 1 = .ok (.bipush 16, 2) := by decide +kernel
theorem dX5_actByLot_3 : decode cX5_actByLot 3 = .ok (.iushr, 1) := by decide +kernel
theorem dX5_actByLot_4 : decode cX5_actByLot 4 = .ok (.aload_n 0, 1) := by decide +kernel
theorem dX5_actByLot_5 : decode cX5_actByLot 5 = .ok (.getfield 84, 3) := by decide +kernel
theorem dX5_actByLot_8 : decode cX5_actByLot 8 = .ok (.iconst 1, 1) := by decide +kernel
theorem dX5_actByLot_9 : decode cX5_actByLot 9 = .ok (.iadd, 1) := by decide +kernel
theorem dX5_actByLot_10 : decode cX5_actByLot 10 = .ok (.irem, 1) := by decide +kernel
theorem dX5_actByLot_11 : decode cX5_actByLot 11 = .ok (.ireturn, 1) := by decide +kernel
theorem dX5_goes_0 : decode cX5_goes 0 = .ok (.aload_n 0, 1) := by decide +kernel
theorem dX5_goes_1 : decode cX5_goes 1 = .ok (.aload_n 0, 1) := by decide +kernel
theorem dX5_goes_2 : decode cX5_goes 2 = .ok (.getfield 33, 3) := by decide +kernel
theorem dX5_goes_5 : decode cX5_goes 5 = .ok (.iload_n 1, 1) := by decide +kernel
theorem dX5_goes_6 : decode cX5_goes 6 = .ok (.invokevirtual 154, 3) := by decide +kernel
theorem dX5_goes_9 : decode cX5_goes 9 = .ok (.istore_n 2, 1) := by decide +kernel
theorem dX5_goes_10 : decode cX5_goes 10 = .ok (.aload_n 0, 1) := by decide +kernel
theorem dX5_goes_11 : decode cX5_goes 11 = .ok (.dup, 1) := by decide +kernel
theorem dX5_goes_12 : decode cX5_goes 12 = .ok (.getfield 87, 3) := by decide +kernel
theorem dX5_goes_15 : decode cX5_goes 15 = .ok (.iload_n 2, 1) := by decide +kernel
theorem dX5_goes_16 : decode cX5_goes 16 = .ok (.iadd, 1) := by decide +kernel
theorem dX5_goes_17 : decode cX5_goes 17 = .ok (.putfield 87, 3) := by decide +kernel
theorem dX5_goes_20 : decode cX5_goes 20 = .ok (.iload_n 2, 1) := by decide +kernel
theorem dX5_goes_21 : decode cX5_goes 21 = .ok (.ireturn, 1) := by decide +kernel
theorem dX5_goBy_0 : decode cX5_goBy 0 = .ok (.aload_n 0, 1) := by decide +kernel
theorem dX5_goBy_1 : decode cX5_goBy 1 = .ok (.aload_n 1, 1) := by decide +kernel
theorem dX5_goBy_2 : decode cX5_goBy 2 = .ok (.getfield 99, 3) := by decide +kernel
theorem dX5_goBy_5 : decode cX5_goBy 5 = .ok (.invokevirtual 115, 3) := by decide +kernel
theorem dX5_goBy_8 : decode cX5_goBy 8 = .ok (.istore_n 3, 1) := by decide +kernel
theorem dX5_goBy_9 : decode cX5_goBy 9 = .ok (.iload_n 3, 1) := by decide +kernel
theorem dX5_goBy_10 : decode cX5_goBy 10 = .ok (.iconst 2, 1) := by decide +kernel
theorem dX5_goBy_11 : decode cX5_goBy 11 = .ok (.ishr, 1) := by decide +kernel
theorem dX5_goBy_12 : decode cX5_goBy 12 = .ok (.istore 4, 2) := by decide +kernel
theorem dX5_goBy_14 : decode cX5_goBy 14 = .ok (.iload_n 3, 1) := by decide +kernel
theorem dX5_goBy_15 : decode cX5_goBy 15 = .ok (.iconst 3, 1) := by decide +kernel
theorem dX5_goBy_16 : decode cX5_goBy 16 = .ok (.iand, 1) := by decide +kernel
theorem dX5_goBy_17 : decode cX5_goBy 17 = .ok (.istore 5, 2) := by decide +kernel
theorem dX5_goBy_19 : decode cX5_goBy 19 = .ok (.iload_n 2, 1) := by decide +kernel
theorem dX5_goBy_20 : decode cX5_goBy 20 = .ok (.ifCond .le 16, 3) := by decide +kernel
theorem dX5_goBy_23 : decode cX5_goBy 23 = .ok (.aload_n 0, 1) := by decide +kernel
theorem dX5_goBy_24 : decode cX5_goBy 24 = .ok (.aload_n 1, 1) := by decide +kernel
theorem dX5_goBy_25 : decode cX5_goBy 25 = .ok (.iload_n 2, 1) := by decide +kernel
theorem dX5_goBy_26 : decode cX5_goBy 26 = .ok (.iconst 1, 1) := by decide +kernel
theorem dX5_goBy_27 : decode cX5_goBy 27 = .ok (.isub, 1) := by decide +kernel
theorem dX5_goBy_28 : decode cX5_goBy 28 = .ok (.iload 5, 2) := by decide +kernel
theorem dX5_goBy_30 : decode cX5_goBy 30 = .ok (.invokevirtual 157, 3) := by decide +kernel
theorem dX5_goBy_33 : decode cX5_goBy 33 = .ok (.goto 4, 3) := by decide +kernel
theorem dX5_goBy_36 : decode cX5_goBy 36 = .ok (.iconst 0, 1) := by decide +kernel
theorem dX5_goBy_37 : decode cX5_goBy 37 = .ok (.istore 6, 2) := by decide +kernel
theorem dX5_goBy_39 : decode cX5_goBy 39 = .ok (.aload_n 0, 1) := by decide +kernel
theorem dX5_goBy_40 : decode cX5_goBy 40 = .ok (.aload_n 1, 1) := by decide +kernel
theorem dX5_goBy_41 : decode cX5_goBy 41 = .ok (.invokevirtual 106, 3) := by decide +kernel
theorem dX5_goBy_44 : decode cX5_goBy 44 = .ok (.iconst 0, 1) := by decide +kernel
theorem dX5_goBy_45 : decode cX5_goBy 45 = .ok (.istore 7, 2) := by decide +kernel
theorem dX5_goBy_47 : decode cX5_goBy 47 = .ok (.iload 7, 2) := by decide +kernel
theorem dX5_goBy_49 : decode cX5_goBy 49 = .ok (.aload_n 0, 1) := by decide +kernel
theorem dX5_goBy_50 : decode cX5_goBy 50 = .ok (.getfield 84, 3) := by decide +kernel
theorem dX5_goBy_53 : decode cX5_goBy 53 = .ok (.if_icmp .ge 124, 3) := by decide +kernel
theorem dX5_goBy_56 : decode cX5_goBy 56 = .ok (.aload_n 1, 1) := by decide +kernel
theorem dX5_goBy_57 : decode cX5_goBy 57 = .ok (.iload 7, 2) := by decide +kernel
theorem dX5_goBy_59 : decode cX5_goBy 59 = .ok (.invokevirtual 102, 3) := by decide +kernel
theorem dX5_goBy_62 : decode cX5_goBy 62 = .ok (.ifCond .eq 6, 3) := by decide +kernel
theorem dX5_goBy_65 : decode cX5_goBy 65 = .ok (.goto 106, 3) := by decide +kernel
theorem dX5_goBy_68 : decode cX5_goBy 68 = .ok (.aload_n 1, 1) := by decide +kernel
theorem dX5_goBy_69 : decode cX5_goBy 69 = .ok (.getfield 93, 3) := by decide +kernel
theorem dX5_goBy_72 : decode cX5_goBy 72 = .ok (.iload 7, 2) := by decide +kernel
theorem dX5_goBy_74 : decode cX5_goBy 74 = .ok (.iaload, 1) := by decide +kernel
theorem dX5_goBy_75 : decode cX5_goBy 75 = .ok (.istore 8, 2) := by decide +kernel
theorem dX5_goBy_77 : decode cX5_goBy 77 = .ok (.aload_n 0, 1) := by decide +kernel
theorem dX5_goBy_78 : decode cX5_goBy 78 = .ok (.getfield 64, 3) := by decide +kernel
theorem dX5_goBy_81 : decode cX5_goBy 81 = .ok (.aload_n 0, 1) := by decide +kernel
theorem dX5_goBy_82 : decode cX5_goBy 82 = .ok (.getfield 21, 3) := by decide +kernel
theorem dX5_goBy_85 : decode cX5_goBy 85 = .ok (.iload 7, 2) := by decide +kernel
theorem dX5_goBy_87 : decode cX5_goBy 87 = .ok (.iaload, 1) := by decide +kernel
theorem dX5_goBy_88 : decode cX5_goBy 88 = .ok (.aaload, 1) := by decide +kernel
theorem dX5_goBy_89 : decode cX5_goBy 89 = .ok (.astore 9, 2) := by decide +kernel
theorem dX5_goBy_91 : decode cX5_goBy 91 = .ok (.aload_n 1, 1) := by decide +kernel
theorem dX5_goBy_92 : decode cX5_goBy 92 = .ok (.getfield 90, 3) := by decide +kernel
theorem dX5_goBy_95 : decode cX5_goBy 95 = .ok (.iload 7, 2) := by decide +kernel
theorem dX5_goBy_97 : decode cX5_goBy 97 = .ok (.bipush 99, 2) := by decide +kernel
theorem dX5_goBy_99 : decode cX5_goBy 99 = .ok (.aload_n 1, 1) := by decide +kernel
theorem dX5_goBy_100 : decode cX5_goBy 100 = .ok (.getfield 90, 3) := by decide +kernel
theorem dX5_goBy_103 : decode cX5_goBy 103 = .ok (.iload 7, 2) := by decide +kernel
theorem dX5_goBy_105 : decode cX5_goBy 105 = .ok (.iaload, 1) := by decide +kernel
theorem dX5_goBy_106 : decode cX5_goBy 106 = .ok (.aload 9, 2) := by decide +kernel
theorem dX5_goBy_108 : decode cX5_goBy 108 = .ok (.iload 4, 2) := by decide +kernel
theorem dX5_goBy_110 : decode cX5_goBy 110 = .ok (.iload 5, 2) := by decide +kernel
theorem dX5_goBy_112 : decode cX5_goBy 112 = .ok (.aload_n 0, 1) := by decide +kernel
theorem dX5_goBy_113 : decode cX5_goBy 113 = .ok (.getfield 58, 3) := by decide +kernel
theorem dX5_goBy_116 : decode cX5_goBy 116 = .ok (.iload 8, 2) := by decide +kernel
theorem dX5_goBy_118 : decode cX5_goBy 118 = .ok (.iaload, 1) := by decide +kernel
theorem dX5_goBy_119 : decode cX5_goBy 119 = .ok (.iconst 1, 1) := by decide +kernel
theorem dX5_goBy_120 : decode cX5_goBy 120 = .ok (.isub, 1) := by decide +kernel
theorem dX5_goBy_121 : decode cX5_goBy 121 = .ok (.invokevirtual 118, 3) := by decide +kernel
theorem dX5_goBy_124 : decode cX5_goBy 124 = .ok (.iadd, 1) := by decide +kernel
theorem dX5_goBy_125 : decode cX5_goBy 125 = .ok (.invokestatic 161, 3) := by decide +kernel
theorem dX5_goBy_128 : decode cX5_goBy 128 = .ok (.iastore, 1) := by decide +kernel
theorem dX5_goBy_129 : decode cX5_goBy 129 = .ok (.aload_n 1, 1) := by decide +kernel
theorem dX5_goBy_130 : decode cX5_goBy 130 = .ok (.getfield 93, 3) := by decide +kernel
theorem dX5_goBy_133 : decode cX5_goBy 133 = .ok (.iload 7, 2) := by decide +kernel
theorem dX5_goBy_135 : decode cX5_goBy 135 = .ok (.iload 8, 2) := by decide +kernel
theorem dX5_goBy_137 : decode cX5_goBy 137 = .ok (.aload 9, 2) := by decide +kernel
theorem dX5_goBy_139 : decode cX5_goBy 139 = .ok (.aload_n 1, 1) := by decide +kernel
theorem dX5_goBy_140 : decode cX5_goBy 140 = .ok (.getfield 99, 3) := by decide +kernel
theorem dX5_goBy_143 : decode cX5_goBy 143 = .ok (.invokevirtual 124, 3) := by decide +kernel
theorem dX5_goBy_146 : decode cX5_goBy 146 = .ok (.iadd, 1) := by decide +kernel
theorem dX5_goBy_147 : decode cX5_goBy 147 = .ok (.bipush 6, 2) := by decide +kernel
theorem dX5_goBy_149 : decode cX5_goBy 149 = .ok (.irem, 1) := by decide +kernel
theorem dX5_goBy_150 : decode cX5_goBy 150 = .ok (.iastore, 1) := by decide +kernel
theorem dX5_goBy_151 : decode cX5_goBy 151 = .ok (.aload_n 1, 1) := by decide +kernel
theorem dX5_goBy_152 : decode cX5_goBy 152 = .ok (.getfield 93, 3) := by decide +kernel
theorem dX5_goBy_155 : decode cX5_goBy 155 = .ok (.iload 7, 2) := by decide +kernel
theorem dX5_goBy_157 : decode cX5_goBy 157 = .ok (.iaload, 1) := by decide +kernel
theorem dX5_goBy_158 : decode cX5_goBy 158 = .ok (.aload_n 0, 1) := by decide +kernel
theorem dX5_goBy_159 : decode cX5_goBy 159 = .ok (.getfield 27, 3) := by decide +kernel
theorem dX5_goBy_162 : decode cX5_goBy 162 = .ok (.iload 7, 2) := by decide +kernel
theorem dX5_goBy_164 : decode cX5_goBy 164 = .ok (.iaload, 1) := by decide +kernel
theorem dX5_goBy_165 : decode cX5_goBy 165 = .ok (.if_icmp .ne 6, 3) := by decide +kernel
theorem dX5_goBy_168 : decode cX5_goBy 168 = .ok (.iinc 6 1, 3) := by decide +kernel
theorem dX5_goBy_171 : decode cX5_goBy 171 = .ok (.iinc 7 1, 3) := by decide +kernel
theorem dX5_goBy_174 : decode cX5_goBy 174 = .ok (.goto (-127), 3) := by decide +kernel
theorem dX5_goBy_177 : decode cX5_goBy 177 = .ok (.aload_n 1, 1) := by decide +kernel
theorem dX5_goBy_178 : decode cX5_goBy 178 = .ok (.dup, 1) := by decide +kernel
theorem dX5_goBy_179 : decode cX5_goBy 179 = .ok (.getfield 99, 3) := by decide +kernel
theorem dX5_goBy_182 : decode cX5_goBy 182 = .ok (.iconst 1, 1) := by decide +kernel
theorem dX5_goBy_183 : decode cX5_goBy 183 = .ok (.iadd, 1) := by decide +kernel
theorem dX5_goBy_184 : decode cX5_goBy 184 = .ok (.putfield 99, 3) := by decide +kernel
theorem dX5_goBy_187 : decode cX5_goBy 187 = .ok (.iload 6, 2) := by decide +kernel
theorem dX5_goBy_189 : decode cX5_goBy 189 = .ok (.ireturn, 1) := by decide +kernel
theorem dX5_obey_0 : decode cX5_obey 0 = .ok (.aload_n 0, 1) := by decide +kernel
theorem dX5_obey_1 : decode cX5_obey 1 = .ok (.aload_n 1, 1) := by decide +kernel
theorem dX5_obey_2 : decode cX5_obey 2 = .ok (.iload_n 2, 1) := by decide +kernel
theorem dX5_obey_3 : decode cX5_obey 3 = .ok (.invokevirtual 152, 3) := by decide +kernel
theorem dX5_obey_6 : decode cX5_obey 6 = .ok (.istore 4, 2) := by decide +kernel
theorem dX5_obey_8 : decode cX5_obey 8 = .ok (.iload 4, 2) := by decide +kernel
theorem dX5_obey_10 : decode cX5_obey 10 = .ok (.iconst 2, 1) := by decide +kernel
theorem dX5_obey_11 : decode cX5_obey 11 = .ok (.if_icmp .ne 5, 3) := by decide +kernel
theorem dX5_obey_14 : decode cX5_obey 14 = .ok (.iconst 0, 1) := by decide +kernel
theorem dX5_obey_15 : decode cX5_obey 15 = .ok (.ireturn, 1) := by decide +kernel
theorem dX5_obey_16 : decode cX5_obey 16 = .ok (.iload 4, 2) := by decide +kernel
theorem dX5_obey_18 : decode cX5_obey 18 = .ok (.ifCond .ne 26, 3) := by decide +kernel
theorem dX5_obey_21 : decode cX5_obey 21 = .ok (.aload_n 0, 1) := by decide +kernel
theorem dX5_obey_22 : decode cX5_obey 22 = .ok (.aload_n 1, 1) := by decide +kernel
theorem dX5_obey_23 : decode cX5_obey 23 = .ok (.iload_n 2, 1) := by decide +kernel
theorem dX5_obey_24 : decode cX5_obey 24 = .ok (.invokevirtual 149, 3) := by decide +kernel
theorem dX5_obey_27 : decode cX5_obey 27 = .ok (.istore 5, 2) := by decide +kernel
theorem dX5_obey_29 : decode cX5_obey 29 = .ok (.aload_n 1, 1) := by decide +kernel
theorem dX5_obey_30 : decode cX5_obey 30 = .ok (.dup, 1) := by decide +kernel
theorem dX5_obey_31 : decode cX5_obey 31 = .ok (.getfield 96, 3) := by decide +kernel
theorem dX5_obey_34 : decode cX5_obey 34 = .ok (.iconst 1, 1) := by decide +kernel
theorem dX5_obey_35 : decode cX5_obey 35 = .ok (.iload_n 2, 1) := by decide +kernel
theorem dX5_obey_36 : decode cX5_obey 36 = .ok (.ishl, 1) := by decide +kernel
theorem dX5_obey_37 : decode cX5_obey 37 = .ok (.ior, 1) := by decide +kernel
theorem dX5_obey_38 : decode cX5_obey 38 = .ok (.putfield 96, 3) := by decide +kernel
theorem dX5_obey_41 : decode cX5_obey 41 = .ok (.iload 5, 2) := by decide +kernel
theorem dX5_obey_43 : decode cX5_obey 43 = .ok (.ireturn, 1) := by decide +kernel
theorem dX5_obey_44 : decode cX5_obey 44 = .ok (.aload_n 1, 1) := by decide +kernel
theorem dX5_obey_45 : decode cX5_obey 45 = .ok (.getfield 93, 3) := by decide +kernel
theorem dX5_obey_48 : decode cX5_obey 48 = .ok (.iload_n 2, 1) := by decide +kernel
theorem dX5_obey_49 : decode cX5_obey 49 = .ok (.iaload, 1) := by decide +kernel
theorem dX5_obey_50 : decode cX5_obey 50 = .ok (.iconst 1, 1) := by decide +kernel
theorem dX5_obey_51 : decode cX5_obey 51 = .ok (.iadd, 1) := by decide +kernel
theorem dX5_obey_52 : decode cX5_obey 52 = .ok (.bipush 6, 2) := by decide +kernel
theorem dX5_obey_54 : decode cX5_obey 54 = .ok (.irem, 1) := by decide +kernel
theorem dX5_obey_55 : decode cX5_obey 55 = .ok (.istore 5, 2) := by decide +kernel
theorem dX5_obey_57 : decode cX5_obey 57 = .ok (.aload_n 1, 1) := by decide +kernel
theorem dX5_obey_58 : decode cX5_obey 58 = .ok (.getfield 93, 3) := by decide +kernel
theorem dX5_obey_61 : decode cX5_obey 61 = .ok (.iload_n 2, 1) := by decide +kernel
theorem dX5_obey_62 : decode cX5_obey 62 = .ok (.iload 5, 2) := by decide +kernel
theorem dX5_obey_64 : decode cX5_obey 64 = .ok (.iastore, 1) := by decide +kernel
theorem dX5_obey_65 : decode cX5_obey 65 = .ok (.aload_n 1, 1) := by decide +kernel
theorem dX5_obey_66 : decode cX5_obey 66 = .ok (.getfield 90, 3) := by decide +kernel
theorem dX5_obey_69 : decode cX5_obey 69 = .ok (.iload_n 2, 1) := by decide +kernel
theorem dX5_obey_70 : decode cX5_obey 70 = .ok (.iconst 0, 1) := by decide +kernel
theorem dX5_obey_71 : decode cX5_obey 71 = .ok (.aload_n 1, 1) := by decide +kernel
theorem dX5_obey_72 : decode cX5_obey 72 = .ok (.getfield 90, 3) := by decide +kernel
theorem dX5_obey_75 : decode cX5_obey 75 = .ok (.iload_n 2, 1) := by decide +kernel
theorem dX5_obey_76 : decode cX5_obey 76 = .ok (.iaload, 1) := by decide +kernel
theorem dX5_obey_77 : decode cX5_obey 77 = .ok (.aload_n 0, 1) := by decide +kernel
theorem dX5_obey_78 : decode cX5_obey 78 = .ok (.getfield 18, 3) := by decide +kernel
theorem dX5_obey_81 : decode cX5_obey 81 = .ok (.iload 5, 2) := by decide +kernel
theorem dX5_obey_83 : decode cX5_obey 83 = .ok (.iaload, 1) := by decide +kernel
theorem dX5_obey_84 : decode cX5_obey 84 = .ok (.isub, 1) := by decide +kernel
theorem dX5_obey_85 : decode cX5_obey 85 = .ok (.invokestatic 127, 3) := by decide +kernel
theorem dX5_obey_88 : decode cX5_obey 88 = .ok (.iastore, 1) := by decide +kernel
theorem dX5_obey_89 : decode cX5_obey 89 = .ok (.iload_n 3, 1) := by decide +kernel
theorem dX5_obey_90 : decode cX5_obey 90 = .ok (.ifCond .le 7, 3) := by decide +kernel
theorem dX5_obey_93 : decode cX5_obey 93 = .ok (.iconst 1, 1) := by decide +kernel
theorem dX5_obey_94 : decode cX5_obey 94 = .ok (.goto 4, 3) := by decide +kernel
theorem dX5_obey_97 : decode cX5_obey 97 = .ok (.iconst 0, 1) := by decide +kernel
theorem dX5_obey_98 : decode cX5_obey 98 = .ok (.ireturn, 1) := by decide +kernel
theorem dX6_init_0 : decode cX6_init 0 = .ok (.aload_n 0, 1) := by decide +kernel
theorem dX6_init_1 : decode cX6_init 1 = .ok (.invokespecial 3, 3) := by decide +kernel
theorem dX6_init_4 : decode cX6_init 4 = .ok (.aload_n 0, 1) := by decide +kernel
theorem dX6_init_5 : decode cX6_init 5 = .ok (.iconst 5, 1) := by decide +kernel
theorem dX6_init_6 : decode cX6_init 6 = .ok (.anewarray 9, 3) := by decide +kernel
theorem dX6_init_9 : decode cX6_init 9 = .ok (.putfield 11, 3) := by decide +kernel
theorem dX6_init_12 : decode cX6_init 12 = .ok (.aload_n 0, 1) := by decide +kernel
theorem dX6_init_13 : decode cX6_init 13 = .ok (.iconst 4, 1) := by decide +kernel
theorem dX6_init_14 : decode cX6_init 14 = .ok (.newarray .int, 2) := by decide +kernel
theorem dX6_init_16 : decode cX6_init 16 = .ok (.putfield 17, 3) := by decide +kernel
theorem dX6_init_19 : decode cX6_init 19 = .ok (.aload_n 0, 1) := by decide +kernel
theorem dX6_init_20 : decode cX6_init 20 = .ok (.iconst 4, 1) := by decide +kernel
theorem dX6_init_21 : decode cX6_init 21 = .ok (.newarray .int, 2) := by decide +kernel
theorem dX6_init_23 : decode cX6_init 23 = .ok (.putfield 21, 3) := by decide +kernel
theorem dX6_init_26 : decode cX6_init 26 = .ok (.aload_n 0, 1) := by decide +kernel
theorem dX6_init_27 : decode cX6_init 27 = .ok (.aload_n 1, 1) := by decide +kernel
theorem dX6_init_28 : decode cX6_init 28 = .ok (.putfield 24, 3) := by decide +kernel
theorem dX6_init_31 : decode cX6_init 31 = .ok (.iconst 0, 1) := by decide +kernel
theorem dX6_init_32 : decode cX6_init 32 = .ok (.istore_n 2, 1) := by decide +kernel
theorem dX6_init_33 : decode cX6_init 33 = .ok (.iload_n 2, 1) := by decide +kernel
theorem dX6_init_34 : decode cX6_init 34 = .ok (.iconst 4, 1) := by decide +kernel
theorem dX6_init_35 : decode cX6_init 35 = .ok (.if_icmp .gt 22, 3) := by decide +kernel
theorem dX6_init_38 : decode cX6_init 38 = .ok (.aload_n 0, 1) := by decide +kernel
theorem dX6_init_39 : decode cX6_init 39 = .ok (.getfield 11, 3) := by decide +kernel
theorem dX6_init_42 : decode cX6_init 42 = .ok (.iload_n 2, 1) := by decide +kernel
theorem dX6_init_43 : decode cX6_init 43 = .ok (.new 9, 3) := by decide +kernel
theorem dX6_init_46 : decode cX6_init 46 = .ok (.dup, 1) := by decide +kernel
theorem dX6_init_47 : decode cX6_init 47 = .ok (.invokespecial 28, 3) := by decide +kernel
theorem dX6_init_50 : decode cX6_init 50 = .ok (.aastore, 1) := by decide +kernel
theorem dX6_init_51 : decode cX6_init 51 = .ok (.iinc 2 1, 3) := by decide +kernel
theorem dX6_init_54 : decode cX6_init 54 = .ok (.goto (-21), 3) := by decide +kernel
theorem dX6_init_57 : decode cX6_init 57 = .ok (.return_, 1) := by decide +kernel
theorem dX6_begin_0 : decode cX6_begin 0 = .ok (.aload_n 0, 1) := by decide +kernel
theorem dX6_begin_1 : decode cX6_begin 1 = .ok (.iconst 0, 1) := by decide +kernel
theorem dX6_begin_2 : decode cX6_begin 2 = .ok (.iload_n 1, 1) := by decide +kernel
theorem dX6_begin_3 : decode cX6_begin 3 = .ok (.aload_n 0, 1) := by decide +kernel
theorem dX6_begin_4 : decode cX6_begin 4 = .ok (.getfield 24, 3) := by decide +kernel
theorem dX6_begin_7 : decode cX6_begin 7 = .ok (.getfield 29, 3) := by decide +kernel
theorem dX6_begin_10 : decode cX6_begin 10 = .ok (.aload_n 0, 1) := by decide +kernel
theorem dX6_begin_11 : decode cX6_begin 11 = .ok (.getfield 24, 3) := by decide +kernel
theorem dX6_begin_14 : decode cX6_begin 14 = .ok (.getfield 35, 3) := by decide +kernel
theorem dX6_begin_17 : decode cX6_begin 17 = .ok (.getfield 39, 3) := by decide +kernel
theorem dX6_begin_20 : decode cX6_begin 20 = .ok (.isub, 1) := by decide +kernel
theorem dX6_begin_21 : decode cX6_begin 21 = .ok (.invokestatic 42, 3) := by decide +kernel
theorem dX6_begin_24 : decode cX6_begin 24 = .ok (.invokestatic 48, 3) := by decide +kernel
theorem dX6_begin_27 : decode cX6_begin 27 = .ok (.putfield 51, 3) := by decide +kernel
theorem dX6_begin_30 : decode cX6_begin 30 = .ok (.aload_n 0, 1) := by decide +kernel
theorem dX6_begin_31 : decode cX6_begin 31 = .ok (.getfield 11, 3) := by decide +kernel
theorem dX6_begin_34 : decode cX6_begin 34 = .ok (.iconst 0, 1) := by decide +kernel
theorem dX6_begin_35 : decode cX6_begin 35 = .ok (.aaload, 1) := by decide +kernel
theorem dX6_begin_36 : decode cX6_begin 36 = .ok (.aload_n 0, 1) := by decide +kernel
theorem dX6_begin_37 : decode cX6_begin 37 = .ok (.getfield 24, 3) := by decide +kernel
theorem dX6_begin_40 : decode cX6_begin 40 = .ok (.getfield 35, 3) := by decide +kernel
theorem dX6_begin_43 : decode cX6_begin 43 = .ok (.invokevirtual 54, 3) := by decide +kernel
theorem dX6_begin_46 : decode cX6_begin 46 = .ok (.return_, 1) := by decide +kernel
theorem dX6_tryAll_0 : decode cX6_tryAll 0 = .ok (.aload_n 0, 1) := by decide +kernel
theorem dX6_tryAll_1 : decode cX6_tryAll 1 = .ok (.iload_n 1, 1) := by decide +kernel
theorem dX6_tryAll_2 : decode cX6_tryAll 2 = .ok (.invokevirtual 58, 3) := by decide +kernel
theorem dX6_tryAll_5 : decode cX6_tryAll 5 = .ok (.aload_n 0, 1) := by decide +kernel
theorem dX6_tryAll_6 : decode cX6_tryAll 6 = .ok (.iload_n 2, 1) := by decide +kernel
theorem dX6_tryAll_7 : decode cX6_tryAll 7 = .ok (.putfield 62, 3) := by decide +kernel
theorem dX6_tryAll_10 : decode cX6_tryAll 10 = .ok (.aload_n 0, 1) := by decide +kernel
theorem dX6_tryAll_11 : decode cX6_tryAll 11 = .ok (.iconst (-1), 1) := by decide +kernel
theorem dX6_tryAll_12 : decode cX6_tryAll 12 = .ok (.putfield 65, 3) := by decide +kernel
theorem dX6_tryAll_15 : decode cX6_tryAll 15 = .ok (.aload_n 0, 1) := by decide +kernel
theorem dX6_tryAll_16 : decode cX6_tryAll 16 = .ok (.iconst 0, 1) := by decide +kernel
theorem dX6_tryAll_17 : decode cX6_tryAll 17 = .ok (.putfield 68, 3) := by decide +kernel
theorem dX6_tryAll_20 : decode cX6_tryAll 20 = .ok (.aload_n 0, 1) := by decide +kernel
theorem dX6_tryAll_21 : decode cX6_tryAll 21 = .ok (.iconst 0, 1) := by decide +kernel
theorem dX6_tryAll_22 : decode cX6_tryAll 22 = .ok (.putfield 71, 3) := by decide +kernel
theorem dX6_tryAll_25 : decode cX6_tryAll 25 = .ok (.aload_n 0, 1) := by decide +kernel
theorem dX6_tryAll_26 : decode cX6_tryAll 26 = .ok (.bipush (-3), 2) := by decide +kernel
theorem dX6_tryAll_28 : decode cX6_tryAll 28 = .ok (.putfield 74, 3) := by decide +kernel
theorem dX6_tryAll_31 : decode cX6_tryAll 31 = .ok (.aload_n 0, 1) := by decide +kernel
theorem dX6_tryAll_32 : decode cX6_tryAll 32 = .ok (.iconst 0, 1) := by decide +kernel
theorem dX6_tryAll_33 : decode cX6_tryAll 33 = .ok (.iconst 0, 1) := by decide +kernel
theorem dX6_tryAll_34 : decode cX6_tryAll 34 = .ok (.iconst 0, 1) := by decide +kernel
theorem dX6_tryAll_35 : decode cX6_tryAll 35 = .ok (.iconst 1, 1) := by decide +kernel
theorem dX6_tryAll_36 : decode cX6_tryAll 36 = .ok (.invokevirtual 77, 3) := by decide +kernel
theorem dX6_tryAll_39 : decode cX6_tryAll 39 = .ok (.return_, 1) := by decide +kernel
theorem dX6_branch_0 : decode cX6_branch 0 = .ok (.iload_n 1, 1) := by decide +kernel
theorem dX6_branch_1 : decode cX6_branch 1 = .ok (.aload_n 0, 1) := by decide +kernel
theorem dX6_branch_2 : decode cX6_branch 2 = .ok (.getfield 51, 3) := by decide +kernel
theorem dX6_branch_5 : decode cX6_branch 5 = .ok (.if_icmp .lt 12, 3) := by decide +kernel
theorem dX6_branch_8 : decode cX6_branch 8 = .ok (.aload_n 0, 1) := by decide +kernel
theorem dX6_branch_9 : decode cX6_branch 9 = .ok (.iload_n 2, 1) := by decide +kernel
theorem dX6_branch_10 : decode cX6_branch 10 = .ok (.iload_n 3, 1) := by decide +kernel
theorem dX6_branch_11 : decode cX6_branch 11 = .ok (.iload 4, 2) := by decide +kernel
theorem dX6_branch_13 : decode cX6_branch 13 = .ok (.invokevirtual 81, 3) := by decide +kernel
theorem dX6_branch_16 : decode cX6_branch 16 = .ok (.return_, 1) := by decide +kernel
theorem dX6_branch_17 : decode cX6_branch 17 = .ok (.aload_n 0, 1) := by decide +kernel
theorem dX6_branch_18 : decode cX6_branch 18 = .ok (.getfield 11, 3) := by decide +kernel
theorem dX6_branch_21 : decode cX6_branch 21 = .ok (.iload_n 1, 1) := by decide +kernel
theorem dX6_branch_22 : decode cX6_branch 22 = .ok (.iconst 1, 1) := by decide +kernel
theorem dX6_branch_23 : decode cX6_branch 23 = .ok (.iadd, 1) := by decide +kernel
theorem dX6_branch_24 : decode cX6_branch 24 = .ok (.aaload, 1) := by decide +kernel
theorem dX6_branch_25 : decode cX6_branch 25 = .ok (.astore 5, 2) := by decide +kernel
theorem dX6_branch_27 : decode cX6_branch 27 = .ok (.aload_n 0, 1) := by decide +kernel
theorem dX6_branch_28 : decode cX6_branch 28 = .ok (.getfield 24, 3) := by decide +kernel
theorem dX6_branch_31 : decode cX6_branch 31 = .ok (.aload_n 0, 1) := by decide +kernel
theorem dX6_branch_32 : decode cX6_branch 32 = .ok (.getfield 11, 3) := by decide +kernel
theorem dX6_branch_35 : decode cX6_branch 35 = .ok (.iload_n 1, 1) := by decide +kernel
theorem dX6_branch_36 : decode cX6_branch 36 = .ok (.aaload, 1) := by decide +kernel
theorem dX6_branch_37 : decode cX6_branch 37 = .ok (.invokevirtual 85, 3) := by decide +kernel
theorem dX6_branch_40 : decode cX6_branch 40 = .ok (.istore 6, 2) := by decide +kernel
theorem dX6_branch_42 : decode cX6_branch 42 = .ok (.iconst 0, 1) := by decide +kernel
theorem dX6_branch_43 : decode cX6_branch 43 = .ok (.istore 7, 2) := by decide +kernel
theorem dX6_branch_45 : decode cX6_branch 45 = .ok (.iload 7, 2) := by decide +kernel
theorem dX6_branch_47 : decode cX6_branch 47 = .ok (.aload_n 0, 1) := by decide +kernel
theorem dX6_branch_48 : decode cX6_branch 48 = .ok (.getfield 24, 3) := by decide +kernel
theorem dX6_branch_51 : decode cX6_branch 51 = .ok (.getfield 89, 3) := by decide +kernel
theorem dX6_branch_54 : decode cX6_branch 54 = .ok (.if_icmp .gt 107, 3) := by decide +kernel
theorem dX6_branch_57 : decode cX6_branch 57 = .ok (.iload 7, 2) := by decide +kernel
theorem dX6_branch_59 : decode cX6_branch 59 = .ok (.ifCond .le 18, 3) := by decide +kernel
theorem dX6_branch_62 : decode cX6_branch 62 = .ok (.iload 6, 2) := by decide +kernel
theorem dX6_branch_64 : decode cX6_branch 64 = .ok (.iload 7, 2) := by decide +kernel
theorem dX6_branch_66 : decode cX6_branch 66 = .ok (.iconst 1, 1) := by decide +kernel
theorem dX6_branch_67 : decode cX6_branch 67 = .ok (.isub, 1) := by decide +kernel
theorem dX6_branch_68 : decode cX6_branch 68 = .ok (.invokestatic 92, 3) := by decide +kernel
theorem dX6_branch_71 : decode cX6_branch 71 = .ok (.ifCond .eq 6, 3) := by decide +kernel
theorem dX6_branch_74 : decode cX6_branch 74 = .ok (.goto 81, 3) := by decide +kernel
theorem dX6_branch_77 : decode cX6_branch 77 = .ok (.aload_n 0, 1) := by decide +kernel
theorem dX6_branch_78 : decode cX6_branch 78 = .ok (.getfield 17, 3) := by decide +kernel
theorem dX6_branch_81 : decode cX6_branch 81 = .ok (.iload_n 1, 1) := by decide +kernel
theorem dX6_branch_82 : decode cX6_branch 82 = .ok (.iload 7, 2) := by decide +kernel
theorem dX6_branch_84 : decode cX6_branch 84 = .ok (.iastore, 1) := by decide +kernel
theorem dX6_branch_85 : decode cX6_branch 85 = .ok (.aload 5, 2) := by decide +kernel
theorem dX6_branch_87 : decode cX6_branch 87 = .ok (.aload_n 0, 1) := by decide +kernel
theorem dX6_branch_88 : decode cX6_branch 88 = .ok (.getfield 11, 3) := by decide +kernel
theorem dX6_branch_91 : decode cX6_branch 91 = .ok (.iload_n 1, 1) := by decide +kernel
theorem dX6_branch_92 : decode cX6_branch 92 = .ok (.aaload, 1) := by decide +kernel
theorem dX6_branch_93 : decode cX6_branch 93 = .ok (.invokevirtual 54, 3) := by decide +kernel
theorem dX6_branch_96 : decode cX6_branch 96 = .ok (.aload_n 0, 1) := by decide +kernel
theorem dX6_branch_97 : decode cX6_branch 97 = .ok (.getfield 24, 3) := by decide +kernel
theorem dX6_branch_100 : decode cX6_branch 100 = .ok (.aload 5, 2) := by decide +kernel
theorem dX6_branch_102 : decode cX6_branch 102 = .ok (.iload 7, 2) := by decide +kernel
theorem dX6_branch_104 : decode cX6_branch 104 = .ok (.invokevirtual 96, 3) := by decide +kernel
theorem dX6_branch_107 : decode cX6_branch 107 = .ok (.istore 8, 2) := by decide +kernel
theorem dX6_branch_109 : decode cX6_branch 109 = .ok (.iload 7, 2) := by decide +kernel
theorem dX6_branch_111 : decode cX6_branch 111 = .ok (.ifCond .ne 28, 3) := by decide +kernel
theorem dX6_branch_114 : decode cX6_branch 114 = .ok (.aload_n 0, 1) := by decide +kernel
theorem dX6_branch_115 : decode cX6_branch 115 = .ok (.iload_n 1, 1) := by decide +kernel
theorem dX6_branch_116 : decode cX6_branch 116 = .ok (.iconst 1, 1) := by decide +kernel
theorem dX6_branch_117 : decode cX6_branch 117 = .ok (.iadd, 1) := by decide +kernel
theorem dX6_branch_118 : decode cX6_branch 118 = .ok (.iload_n 2, 1) := by decide +kernel
theorem dX6_branch_119 : decode cX6_branch 119 = .ok (.iload 8, 2) := by decide +kernel
theorem dX6_branch_121 : decode cX6_branch 121 = .ok (.iadd, 1) := by decide +kernel
theorem dX6_branch_122 : decode cX6_branch 122 = .ok (.iload_n 3, 1) := by decide +kernel
theorem dX6_branch_123 : decode cX6_branch 123 = .ok (.iload 4, 2) := by decide +kernel
theorem dX6_branch_125 : decode cX6_branch 125 = .ok (.iconst 1, 1) := by decide +kernel
theorem dX6_branch_126 : decode cX6_branch 126 = .ok (.iload 6, 2) := by decide +kernel
theorem dX6_branch_128 : decode cX6_branch 128 = .ok (.invokestatic 100, 3) := by decide +kernel
theorem dX6_branch_131 : decode cX6_branch 131 = .ok (.iadd, 1) := by decide +kernel
theorem dX6_branch_132 : decode cX6_branch 132 = .ok (.imul, 1) := by decide +kernel
theorem dX6_branch_133 : decode cX6_branch 133 = .ok (.invokevirtual 77, 3) := by decide +kernel
theorem dX6_branch_136 : decode cX6_branch 136 = .ok (.goto 19, 3) := by decide +kernel
theorem dX6_branch_139 : decode cX6_branch 139 = .ok (.aload_n 0, 1) := by decide +kernel
theorem dX6_branch_140 : decode cX6_branch 140 = .ok (.iload_n 1, 1) := by decide +kernel
theorem dX6_branch_141 : decode cX6_branch 141 = .ok (.iconst 1, 1) := by decide +kernel
theorem dX6_branch_142 : decode cX6_branch 142 = .ok (.iadd, 1) := by decide +kernel
theorem dX6_branch_143 : decode cX6_branch 143 = .ok (.iload_n 2, 1) := by decide +kernel
theorem dX6_branch_144 : decode cX6_branch 144 = .ok (.iload 8, 2) := by decide +kernel
theorem dX6_branch_146 : decode cX6_branch 146 = .ok (.iadd, 1) := by decide +kernel
theorem dX6_branch_147 : decode cX6_branch 147 = .ok (.iload_n 3, 1) := by decide +kernel
theorem dX6_branch_148 : decode cX6_branch 148 = .ok (.iconst 1, 1) := by decide +kernel
theorem dX6_branch_149 : decode cX6_branch 149 = .ok (.iadd, 1) := by decide +kernel
theorem dX6_branch_150 : decode cX6_branch 150 = .ok (.iload 4, 2) := by decide +kernel
theorem dX6_branch_152 : decode cX6_branch 152 = .ok (.invokevirtual 77, 3) := by decide +kernel
theorem dX6_branch_155 : decode cX6_branch 155 = .ok (.iinc 7 1, 3) := by decide +kernel
theorem dX6_branch_158 : decode cX6_branch 158 = .ok (.goto (-113), 3) := by decide +kernel
theorem dX6_branch_161 : decode cX6_branch 161 = .ok (.return_, 1) := by decide +kernel
theorem dX6_arrive_0 : decode cX6_arrive 0 = .ok (.iload_n 1, 1) := by decide +kernel
theorem dX6_arrive_1 : decode cX6_arrive 1 = .ok (.aload_n 0, 1) := by decide +kernel
theorem dX6_arrive_2 : decode cX6_arrive 2 = .ok (.getfield 65, 3) := by decide +kernel
theorem dX6_arrive_5 : decode cX6_arrive 5 = .ok (.if_icmp .le 30, 3) := by decide +kernel
theorem dX6_arrive_8 : decode cX6_arrive 8 = .ok (.aload_n 0, 1) := by decide +kernel
theorem dX6_arrive_9 : decode cX6_arrive 9 = .ok (.iload_n 1, 1) := by decide +kernel
theorem dX6_arrive_10 : decode cX6_arrive 10 = .ok (.putfield 65, 3) := by decide +kernel
theorem dX6_arrive_13 : decode cX6_arrive 13 = .ok (.aload_n 0, 1) := by decide +kernel
theorem dX6_arrive_14 : decode cX6_arrive 14 = .ok (.iconst 0, 1) := by decide +kernel
theorem dX6_arrive_15 : decode cX6_arrive 15 = .ok (.putfield 68, 3) := by decide +kernel
theorem dX6_arrive_18 : decode cX6_arrive 18 = .ok (.aload_n 0, 1) := by decide +kernel
theorem dX6_arrive_19 : decode cX6_arrive 19 = .ok (.getfield 17, 3) := by decide +kernel
theorem dX6_arrive_22 : decode cX6_arrive 22 = .ok (.iconst 0, 1) := by decide +kernel
theorem dX6_arrive_23 : decode cX6_arrive 23 = .ok (.aload_n 0, 1) := by decide +kernel
theorem dX6_arrive_24 : decode cX6_arrive 24 = .ok (.getfield 21, 3) := by decide +kernel
theorem dX6_arrive_27 : decode cX6_arrive 27 = .ok (.iconst 0, 1) := by decide +kernel
theorem dX6_arrive_28 : decode cX6_arrive 28 = .ok (.aload_n 0, 1) := by decide +kernel
theorem dX6_arrive_29 : decode cX6_arrive 29 = .ok (.getfield 51, 3) := by decide +kernel
theorem dX6_arrive_32 : decode cX6_arrive 32 = .ok (.invokestatic 106, 3) := by decide +kernel
theorem dX6_arrive_35 : decode cX6_arrive 35 = .ok (.iload_n 1, 1) := by decide +kernel
theorem dX6_arrive_36 : decode cX6_arrive 36 = .ok (.aload_n 0, 1) := by decide +kernel
theorem dX6_arrive_37 : decode cX6_arrive 37 = .ok (.getfield 65, 3) := by decide +kernel
theorem dX6_arrive_40 : decode cX6_arrive 40 = .ok (.if_icmp .ne 13, 3) := by decide +kernel
theorem dX6_arrive_43 : decode cX6_arrive 43 = .ok (.aload_n 0, 1) := by decide +kernel
theorem dX6_arrive_44 : decode cX6_arrive 44 = .ok (.dup, 1) := by decide +kernel
theorem dX6_arrive_45 : decode cX6_arrive 45 = .ok (.getfield 68, 3) := by decide +kernel
theorem dX6_arrive_48 : decode cX6_arrive 48 = .ok (.iload_n 3, 1) := by decide +kernel
theorem dX6_arrive_49 : decode cX6_arrive 49 = .ok (.iadd, 1) := by decide +kernel
theorem dX6_arrive_50 : decode cX6_arrive 50 = .ok (.putfield 68, 3) := by decide +kernel
theorem dX6_arrive_53 : decode cX6_arrive 53 = .ok (.aload_n 0, 1) := by decide +kernel
theorem dX6_arrive_54 : decode cX6_arrive 54 = .ok (.getfield 11, 3) := by decide +kernel
theorem dX6_arrive_57 : decode cX6_arrive 57 = .ok (.aload_n 0, 1) := by decide +kernel
theorem dX6_arrive_58 : decode cX6_arrive 58 = .ok (.getfield 51, 3) := by decide +kernel
theorem dX6_arrive_61 : decode cX6_arrive 61 = .ok (.aaload, 1) := by decide +kernel
theorem dX6_arrive_62 : decode cX6_arrive 62 = .ok (.getfield 112, 3) := by decide +kernel
theorem dX6_arrive_65 : decode cX6_arrive 65 = .ok (.istore 4, 2) := by decide +kernel
theorem dX6_arrive_67 : decode cX6_arrive 67 = .ok (.aload_n 0, 1) := by decide +kernel
theorem dX6_arrive_68 : decode cX6_arrive 68 = .ok (.dup, 1) := by decide +kernel
theorem dX6_arrive_69 : decode cX6_arrive 69 = .ok (.getfield 71, 3) := by decide +kernel
theorem dX6_arrive_72 : decode cX6_arrive 72 = .ok (.iload 4, 2) := by decide +kernel
theorem dX6_arrive_74 : decode cX6_arrive 74 = .ok (.ior, 1) := by decide +kernel
theorem dX6_arrive_75 : decode cX6_arrive 75 = .ok (.putfield 71, 3) := by decide +kernel
theorem dX6_arrive_78 : decode cX6_arrive 78 = .ok (.aload_n 0, 1) := by decide +kernel
theorem dX6_arrive_79 : decode cX6_arrive 79 = .ok (.getfield 62, 3) := by decide +kernel
theorem dX6_arrive_82 : decode cX6_arrive 82 = .ok (.iload 4, 2) := by decide +kernel
theorem dX6_arrive_84 : decode cX6_arrive 84 = .ok (.iconst (-1), 1) := by decide +kernel
theorem dX6_arrive_85 : decode cX6_arrive 85 = .ok (.ixor, 1) := by decide +kernel
theorem dX6_arrive_86 : decode cX6_arrive 86 = .ok (.iand, 1) := by decide +kernel
theorem dX6_arrive_87 : decode cX6_arrive 87 = .ok (.ifCond .ne 7, 3) := by decide +kernel
theorem dX6_arrive_90 : decode cX6_arrive 90 = .ok (.iconst 1, 1) := by decide +kernel
theorem dX6_arrive_91 : decode cX6_arrive 91 = .ok (.goto 4, 3) := by decide +kernel
theorem dX6_arrive_94 : decode cX6_arrive 94 = .ok (.iconst 0, 1) := by decide +kernel
theorem dX6_arrive_95 : decode cX6_arrive 95 = .ok (.istore 5, 2) := by decide +kernel
theorem dX6_arrive_97 : decode cX6_arrive 97 = .ok (.iload 5, 2) := by decide +kernel
theorem dX6_arrive_99 : decode cX6_arrive 99 = .ok (.ifCond .eq 25, 3) := by decide +kernel
theorem dX6_arrive_102 : decode cX6_arrive 102 = .ok (.aload_n 0, 1) := by decide +kernel
theorem dX6_arrive_103 : decode cX6_arrive 103 = .ok (.getfield 74, 3) := by decide +kernel
theorem dX6_arrive_106 : decode cX6_arrive 106 = .ok (.bipush (-3), 2) := by decide +kernel
theorem dX6_arrive_108 : decode cX6_arrive 108 = .ok (.if_icmp .eq 11, 3) := by decide +kernel
theorem dX6_arrive_111 : decode cX6_arrive 111 = .ok (.iload_n 2, 1) := by decide +kernel
theorem dX6_arrive_112 : decode cX6_arrive 112 = .ok (.aload_n 0, 1) := by decide +kernel
theorem dX6_arrive_113 : decode cX6_arrive 113 = .ok (.getfield 74, 3) := by decide +kernel
theorem dX6_arrive_116 : decode cX6_arrive 116 = .ok (.if_icmp .ge 8, 3) := by decide +kernel
theorem dX6_arrive_119 : decode cX6_arrive 119 = .ok (.aload_n 0, 1) := by decide +kernel
theorem dX6_arrive_120 : decode cX6_arrive 120 = .ok (.iload_n 2, 1) := by decide +kernel
theorem dX6_arrive_121 : decode cX6_arrive 121 = .ok (.putfield 74, 3) := by decide +kernel
theorem dX6_arrive_124 : decode cX6_arrive 124 = .ok (.return_, 1) := by decide +kernel
theorem dX6_contest_0 : decode cX6_contest 0 = .ok (.aload_n 0, 1) := by decide +kernel
theorem dX6_contest_1 : decode cX6_contest 1 = .ok (.iload_n 1, 1) := by decide +kernel
theorem dX6_contest_2 : decode cX6_contest 2 = .ok (.invokevirtual 58, 3) := by decide +kernel
theorem dX6_contest_5 : decode cX6_contest 5 = .ok (.aload_n 0, 1) := by decide +kernel
theorem dX6_contest_6 : decode cX6_contest 6 = .ok (.iconst 0, 1) := by decide +kernel
theorem dX6_contest_7 : decode cX6_contest 7 = .ok (.putfield 115, 3) := by decide +kernel
theorem dX6_contest_10 : decode cX6_contest 10 = .ok (.aload_n 0, 1) := by decide +kernel
theorem dX6_contest_11 : decode cX6_contest 11 = .ok (.iconst 0, 1) := by decide +kernel
theorem dX6_contest_12 : decode cX6_contest 12 = .ok (.invokevirtual 118, 3) := by decide +kernel
theorem dX6_contest_15 : decode cX6_contest 15 = .ok (.ireturn, 1) := by decide +kernel
theorem dX6_valueFrom_0 : decode cX6_valueFrom 0 = .ok (.iload_n 1, 1) := by decide +kernel
theorem dX6_valueFrom_1 : decode cX6_valueFrom 1 = .ok (.aload_n 0, 1) := by decide +kernel
theorem dX6_valueFrom_2 : decode cX6_valueFrom 2 = .ok (.getfield 51, 3) := by decide +kernel
theorem dX6_valueFrom_5 : decode cX6_valueFrom 5 = .ok (.if_icmp .lt 5, 3) := by decide +kernel
theorem dX6_valueFrom_8 : decode cX6_valueFrom 8 = .ok (.iconst 0, 1) := by decide +kernel
theorem dX6_valueFrom_9 : decode cX6_valueFrom 9 = .ok (.ireturn, 1) := by decide +kernel
theorem dX6_valueFrom_10 : decode cX6_valueFrom 10 = .ok (.aload_n 0, 1) := by decide +kernel
theorem dX6_valueFrom_11 : decode cX6_valueFrom 11 = .ok (.getfield 11, 3) := by decide +kernel
theorem dX6_valueFrom_14 : decode cX6_valueFrom 14 = .ok (.iload_n 1, 1) := by decide +kernel
theorem dX6_valueFrom_15 : decode cX6_valueFrom 15 = .ok (.iconst 1, 1) := by decide +kernel
theorem dX6_valueFrom_16 : decode cX6_valueFrom 16 = .ok (.iadd, 1) := by decide +kernel
theorem dX6_valueFrom_17 : decode cX6_valueFrom 17 = .ok (.aaload, 1) := by decide +kernel
theorem dX6_valueFrom_18 : decode cX6_valueFrom 18 = .ok (.astore_n 2, 1) := by decide +kernel
theorem dX6_valueFrom_19 : decode cX6_valueFrom 19 = .ok (.aload_n 0, 1) := by decide +kernel
theorem dX6_valueFrom_20 : decode cX6_valueFrom 20 = .ok (.getfield 24, 3) := by decide +kernel
theorem dX6_valueFrom_23 : decode cX6_valueFrom 23 = .ok (.aload_n 0, 1) := by decide +kernel
theorem dX6_valueFrom_24 : decode cX6_valueFrom 24 = .ok (.getfield 11, 3) := by decide +kernel
theorem dX6_valueFrom_27 : decode cX6_valueFrom 27 = .ok (.iload_n 1, 1) := by decide +kernel
theorem dX6_valueFrom_28 : decode cX6_valueFrom 28 = .ok (.aaload, 1) := by decide +kernel
theorem dX6_valueFrom_29 : decode cX6_valueFrom 29 = .ok (.invokevirtual 85, 3) := by decide +kernel
theorem dX6_valueFrom_32 : decode cX6_valueFrom 32 = .ok (.istore_n 3, 1) := by decide +kernel
theorem dX6_valueFrom_33 : decode cX6_valueFrom 33 = .ok (.iconst 0, 1) := by decide +kernel
theorem dX6_valueFrom_34 : decode cX6_valueFrom 34 = .ok (.istore 4, 2) := by decide +kernel
theorem dX6_valueFrom_36 : decode cX6_valueFrom 36 = .ok (.iconst 0, 1) := by decide +kernel
theorem dX6_valueFrom_37 : decode cX6_valueFrom 37 = .ok (.istore 5, 2) := by decide +kernel
theorem dX6_valueFrom_39 : decode cX6_valueFrom 39 = .ok (.iload 5, 2) := by decide +kernel
theorem dX6_valueFrom_41 : decode cX6_valueFrom 41 = .ok (.aload_n 0, 1) := by decide +kernel
theorem dX6_valueFrom_42 : decode cX6_valueFrom 42 = .ok (.getfield 24, 3) := by decide +kernel
theorem dX6_valueFrom_45 : decode cX6_valueFrom 45 = .ok (.getfield 89, 3) := by decide +kernel
theorem dX6_valueFrom_48 : decode cX6_valueFrom 48 = .ok (.if_icmp .gt 121, 3) := by decide +kernel
theorem dX6_valueFrom_51 : decode cX6_valueFrom 51 = .ok (.iload 5, 2) := by decide +kernel
theorem dX6_valueFrom_53 : decode cX6_valueFrom 53 = .ok (.ifCond .le 17, 3) := by decide +kernel
theorem dX6_valueFrom_56 : decode cX6_valueFrom 56 = .ok (.iload_n 3, 1) := by decide +kernel
theorem dX6_valueFrom_57 : decode cX6_valueFrom 57 = .ok (.iload 5, 2) := by decide +kernel
theorem dX6_valueFrom_59 : decode cX6_valueFrom 59 = .ok (.iconst 1, 1) := by decide +kernel
theorem dX6_valueFrom_60 : decode cX6_valueFrom 60 = .ok (.isub, 1) := by decide +kernel
theorem dX6_valueFrom_61 : decode cX6_valueFrom 61 = .ok (.invokestatic 92, 3) := by decide +kernel
theorem dX6_valueFrom_64 : decode cX6_valueFrom 64 = .ok (.ifCond .eq 6, 3) := by decide +kernel
theorem dX6_valueFrom_67 : decode cX6_valueFrom 67 = .ok (.goto 96, 3) := by decide +kernel
theorem dX6_valueFrom_70 : decode cX6_valueFrom 70 = .ok (.aload_n 2, 1) := by decide +kernel
theorem dX6_valueFrom_71 : decode cX6_valueFrom 71 = .ok (.aload_n 0, 1) := by decide +kernel
theorem dX6_valueFrom_72 : decode cX6_valueFrom 72 = .ok (.getfield 11, 3) := by decide +kernel
theorem dX6_valueFrom_75 : decode cX6_valueFrom 75 = .ok (.iload_n 1, 1) := by decide +kernel
theorem dX6_valueFrom_76 : decode cX6_valueFrom 76 = .ok (.aaload, 1) := by decide +kernel
theorem dX6_valueFrom_77 : decode cX6_valueFrom 77 = .ok (.invokevirtual 54, 3) := by decide +kernel
theorem dX6_valueFrom_80 : decode cX6_valueFrom 80 = .ok (.aload_n 0, 1) := by decide +kernel
theorem dX6_valueFrom_81 : decode cX6_valueFrom 81 = .ok (.getfield 24, 3) := by decide +kernel
theorem dX6_valueFrom_84 : decode cX6_valueFrom 84 = .ok (.aload_n 2, 1) := by decide +kernel
theorem dX6_valueFrom_85 : decode cX6_valueFrom 85 = .ok (.iload 5, 2) := by decide +kernel
theorem dX6_valueFrom_87 : decode cX6_valueFrom 87 = .ok (.invokevirtual 96, 3) := by decide +kernel
theorem dX6_valueFrom_90 : decode cX6_valueFrom 90 = .ok (.istore 6, 2) := by decide +kernel
theorem dX6_valueFrom_92 : decode cX6_valueFrom 92 = .ok (.iload 6, 2) := by decide +kernel
theorem dX6_valueFrom_94 : decode cX6_valueFrom 94 = .ok (.aload_n 0, 1) := by decide +kernel
theorem dX6_valueFrom_95 : decode cX6_valueFrom 95 = .ok (.iload_n 1, 1) := by decide +kernel
theorem dX6_valueFrom_96 : decode cX6_valueFrom 96 = .ok (.iconst 1, 1) := by decide +kernel
theorem dX6_valueFrom_97 : decode cX6_valueFrom 97 = .ok (.iadd, 1) := by decide +kernel
theorem dX6_valueFrom_98 : decode cX6_valueFrom 98 = .ok (.invokevirtual 118, 3) := by decide +kernel
theorem dX6_valueFrom_101 : decode cX6_valueFrom 101 = .ok (.iadd, 1) := by decide +kernel
theorem dX6_valueFrom_102 : decode cX6_valueFrom 102 = .ok (.istore 6, 2) := by decide +kernel
theorem dX6_valueFrom_104 : decode cX6_valueFrom 104 = .ok (.iload_n 1, 1) := by decide +kernel
theorem dX6_valueFrom_105 : decode cX6_valueFrom 105 = .ok (.iconst 2, 1) := by decide +kernel
theorem dX6_valueFrom_106 : decode cX6_valueFrom 106 = .ok (.irem, 1) := by decide +kernel
theorem dX6_valueFrom_107 : decode cX6_valueFrom 107 = .ok (.ifCond .ne 18, 3) := by decide +kernel
theorem dX6_valueFrom_110 : decode cX6_valueFrom 110 = .ok (.iload 6, 2) := by decide +kernel
theorem dX6_valueFrom_112 : decode cX6_valueFrom 112 = .ok (.iload 4, 2) := by decide +kernel
theorem dX6_valueFrom_114 : decode cX6_valueFrom 114 = .ok (.if_icmp .le 7, 3) := by decide +kernel
theorem dX6_valueFrom_117 : decode cX6_valueFrom 117 = .ok (.iconst 1, 1) := by decide +kernel
theorem dX6_valueFrom_118 : decode cX6_valueFrom 118 = .ok (.goto 19, 3) := by decide +kernel
theorem dX6_valueFrom_121 : decode cX6_valueFrom 121 = .ok (.iconst 0, 1) := by decide +kernel
theorem dX6_valueFrom_122 : decode cX6_valueFrom 122 = .ok (.goto 15, 3) := by decide +kernel
theorem dX6_valueFrom_125 : decode cX6_valueFrom 125 = .ok (.iload 6, 2) := by decide +kernel
theorem dX6_valueFrom_127 : decode cX6_valueFrom 127 = .ok (.iload 4, 2) := by decide +kernel
theorem dX6_valueFrom_129 : decode cX6_valueFrom 129 = .ok (.if_icmp .ge 7, 3) := by decide +kernel
theorem dX6_valueFrom_132 : decode cX6_valueFrom 132 = .ok (.iconst 1, 1) := by decide +kernel
theorem dX6_valueFrom_133 : decode cX6_valueFrom 133 = .ok (.goto 4, 3) := by decide +kernel
theorem dX6_valueFrom_136 : decode cX6_valueFrom 136 = .ok (.iconst 0, 1) := by decide +kernel
theorem dX6_valueFrom_137 : decode cX6_valueFrom 137 = .ok (.istore 7, 2) := by decide +kernel
theorem dX6_valueFrom_139 : decode cX6_valueFrom 139 = .ok (.iload 5, 2) := by decide +kernel
theorem dX6_valueFrom_141 : decode cX6_valueFrom 141 = .ok (.ifCond .eq 8, 3) := by decide +kernel
theorem dX6_valueFrom_144 : decode cX6_valueFrom 144 = .ok (.iload 7, 2) := by decide +kernel
theorem dX6_valueFrom_146 : decode cX6_valueFrom 146 = .ok (.ifCond .eq 17, 3) := by decide +kernel
theorem dX6_valueFrom_149 : decode cX6_valueFrom 149 = .ok (.iload 6, 2) := by decide +kernel
theorem dX6_valueFrom_151 : decode cX6_valueFrom 151 = .ok (.istore 4, 2) := by decide +kernel
theorem dX6_valueFrom_153 : decode cX6_valueFrom 153 = .ok (.iload_n 1, 1) := by decide +kernel
theorem dX6_valueFrom_154 : decode cX6_valueFrom 154 = .ok (.ifCond .ne 9, 3) := by decide +kernel
theorem dX6_valueFrom_157 : decode cX6_valueFrom 157 = .ok (.aload_n 0, 1) := by decide +kernel
theorem dX6_valueFrom_158 : decode cX6_valueFrom 158 = .ok (.iload 5, 2) := by decide +kernel
theorem dX6_valueFrom_160 : decode cX6_valueFrom 160 = .ok (.putfield 115, 3) := by decide +kernel
theorem dX6_valueFrom_163 : decode cX6_valueFrom 163 = .ok (.iinc 5 1, 3) := by decide +kernel
theorem dX6_valueFrom_166 : decode cX6_valueFrom 166 = .ok (.goto (-127), 3) := by decide +kernel
theorem dX6_valueFrom_169 : decode cX6_valueFrom 169 = .ok (.iload 4, 2) := by decide +kernel
theorem dX6_valueFrom_171 : decode cX6_valueFrom 171 = .ok (.ireturn, 1) := by decide +kernel
theorem dX7_init_0 : decode cX7_init 0 = .ok (.aload_n 0, 1) := by decide +kernel
theorem dX7_init_1 : decode cX7_init 1 = .ok (.invokespecial 1, 3) := by decide +kernel
theorem dX7_init_4 : decode cX7_init 4 = .ok (.return_, 1) := by decide +kernel
theorem dX7_sinks_0 : decode cX7_sinks 0 = .ok (.iload_n 2, 1) := by decide +kernel
theorem dX7_sinks_1 : decode cX7_sinks 1 = .ok (.ifCond .le 7, 3) := by decide +kernel
theorem dX7_sinks_4 : decode cX7_sinks 4 = .ok (.iconst 0, 1) := by decide +kernel
theorem dX7_sinks_5 : decode cX7_sinks 5 = .ok (.goto 4, 3) := by decide +kernel
theorem dX7_sinks_8 : decode cX7_sinks 8 = .ok (.iconst 1, 1) := by decide +kernel
theorem dX7_sinks_9 : decode cX7_sinks 9 = .ok (.ireturn, 1) := by decide +kernel
theorem dX7_drifts_0 : decode cX7_drifts 0 = .ok (.iconst 1, 1) := by decide +kernel
theorem dX7_drifts_1 : decode cX7_drifts 1 = .ok (.ireturn, 1) := by decide +kernel
theorem dX7_stands_0 : decode cX7_stands 0 = .ok (.aload_n 0, 1) := by decide +kernel
theorem dX7_stands_1 : decode cX7_stands 1 = .ok (.bipush 20, 2) := by decide +kernel
theorem dX7_stands_3 : decode cX7_stands 3 = .ok (.invokevirtual 7, 3) := by decide +kernel
theorem dX7_stands_6 : decode cX7_stands 6 = .ok (.aload_n 0, 1) := by decide +kernel
theorem dX7_stands_7 : decode cX7_stands 7 = .ok (.iload_n 1, 1) := by decide +kernel
theorem dX7_stands_8 : decode cX7_stands 8 = .ok (.invokespecial 13, 3) := by decide +kernel
theorem dX7_stands_11 : decode cX7_stands 11 = .ok (.bipush 14, 2) := by decide +kernel
theorem dX7_stands_13 : decode cX7_stands 13 = .ok (.ixor, 1) := by decide +kernel
theorem dX7_stands_14 : decode cX7_stands 14 = .ok (.ireturn, 1) := by decide +kernel
theorem dX8_init_0 : decode cX8_init 0 = .ok (.aload_n 0, 1) := by decide +kernel
theorem dX8_init_1 : decode cX8_init 1 = .ok (.invokespecial 3, 3) := by decide +kernel
theorem dX8_init_4 : decode cX8_init 4 = .ok (.aload_n 0, 1) := by decide +kernel
theorem dX8_init_5 : decode cX8_init 5 = .ok (.bipush 6, 2) := by decide +kernel
theorem dX8_init_7 : decode cX8_init 7 = .ok (.iconst 4, 1) := by decide +kernel
theorem dX8_init_8 : decode cX8_init 8 = .ok (.multianewarray 9 2, 4) := by decide +kernel
theorem dX8_init_12 : decode cX8_init 12 = .ok (.putfield 11, 3) := by decide +kernel
theorem dX8_init_15 : decode cX8_init 15 = .ok (.aload_n 0, 1) := by decide +kernel
theorem dX8_init_16 : decode cX8_init 16 = .ok (.bipush 16, 2) := by decide +kernel
theorem dX8_init_18 : decode cX8_init 18 = .ok (.newarray .int, 2) := by decide +kernel
theorem dX8_init_20 : decode cX8_init 20 = .ok (.putfield 16, 3) := by decide +kernel
theorem dX8_init_23 : decode cX8_init 23 = .ok (.aload_n 0, 1) := by decide +kernel
theorem dX8_init_24 : decode cX8_init 24 = .ok (.bipush 16, 2) := by decide +kernel
theorem dX8_init_26 : decode cX8_init 26 = .ok (.newarray .int, 2) := by decide +kernel
theorem dX8_init_28 : decode cX8_init 28 = .ok (.putfield 20, 3) := by decide +kernel
theorem dX8_init_31 : decode cX8_init 31 = .ok (.return_, 1) := by decide +kernel
theorem dX8_become_0 : decode cX8_become 0 = .ok (.aload_n 0, 1) := by decide +kernel
theorem dX8_become_1 : decode cX8_become 1 = .ok (.aload_n 1, 1) := by decide +kernel
theorem dX8_become_2 : decode cX8_become 2 = .ok (.getfield 23, 3) := by decide +kernel
theorem dX8_become_5 : decode cX8_become 5 = .ok (.putfield 23, 3) := by decide +kernel
theorem dX8_become_8 : decode cX8_become 8 = .ok (.iconst 0, 1) := by decide +kernel
theorem dX8_become_9 : decode cX8_become 9 = .ok (.istore_n 2, 1) := by decide +kernel
theorem dX8_become_10 : decode cX8_become 10 = .ok (.iload_n 2, 1) := by decide +kernel
theorem dX8_become_11 : decode cX8_become 11 = .ok (.bipush 6, 2) := by decide +kernel
theorem dX8_become_13 : decode cX8_become 13 = .ok (.if_icmp .ge 27, 3) := by decide +kernel
theorem dX8_become_16 : decode cX8_become 16 = .ok (.aload_n 1, 1) := by decide +kernel
theorem dX8_become_17 : decode cX8_become 17 = .ok (.getfield 11, 3) := by decide +kernel
theorem dX8_become_20 : decode cX8_become 20 = .ok (.iload_n 2, 1) := by decide +kernel
theorem dX8_become_21 : decode cX8_become 21 = .ok (.aaload, 1) := by decide +kernel
theorem dX8_become_22 : decode cX8_become 22 = .ok (.iconst 0, 1) := by decide +kernel
theorem dX8_become_23 : decode cX8_become 23 = .ok (.aload_n 0, 1) := by decide +kernel
theorem dX8_become_24 : decode cX8_become 24 = .ok (.getfield 11, 3) := by decide +kernel
theorem dX8_become_27 : decode cX8_become 27 = .ok (.iload_n 2, 1) := by decide +kernel
theorem dX8_become_28 : decode cX8_become 28 = .ok (.aaload, 1) := by decide +kernel
theorem dX8_become_29 : decode cX8_become 29 = .ok (.iconst 0, 1) := by decide +kernel
theorem dX8_become_30 : decode cX8_become 30 = .ok (.iconst 4, 1) := by decide +kernel
theorem dX8_become_31 : decode cX8_become 31 = .ok (.invokestatic 27, 3) := by decide +kernel
theorem dX8_become_34 : decode cX8_become 34 = .ok (.iinc 2 1, 3) := by decide +kernel
theorem dX8_become_37 : decode cX8_become 37 = .ok (.goto (-27), 3) := by decide +kernel
theorem dX8_become_40 : decode cX8_become 40 = .ok (.return_, 1) := by decide +kernel
theorem dX8_add_0 : decode cX8_add 0 = .ok (.aload_n 0, 1) := by decide +kernel
theorem dX8_add_1 : decode cX8_add 1 = .ok (.getfield 23, 3) := by decide +kernel
theorem dX8_add_4 : decode cX8_add 4 = .ok (.istore 5, 2) := by decide +kernel
theorem dX8_add_6 : decode cX8_add 6 = .ok (.aload_n 0, 1) := by decide +kernel
theorem dX8_add_7 : decode cX8_add 7 = .ok (.getfield 11, 3) := by decide +kernel
theorem dX8_add_10 : decode cX8_add 10 = .ok (.iload 5, 2) := by decide +kernel
theorem dX8_add_12 : decode cX8_add 12 = .ok (.aaload, 1) := by decide +kernel
theorem dX8_add_13 : decode cX8_add 13 = .ok (.iconst 0, 1) := by decide +kernel
theorem dX8_add_14 : decode cX8_add 14 = .ok (.iload_n 1, 1) := by decide +kernel
theorem dX8_add_15 : decode cX8_add 15 = .ok (.iastore, 1) := by decide +kernel
theorem dX8_add_16 : decode cX8_add 16 = .ok (.aload_n 0, 1) := by decide +kernel
theorem dX8_add_17 : decode cX8_add 17 = .ok (.getfield 11, 3) := by decide +kernel
theorem dX8_add_20 : decode cX8_add 20 = .ok (.iload 5, 2) := by decide +kernel
theorem dX8_add_22 : decode cX8_add 22 = .ok (.aaload, 1) := by decide +kernel
theorem dX8_add_23 : decode cX8_add 23 = .ok (.iconst 1, 1) := by decide +kernel
theorem dX8_add_24 : decode cX8_add 24 = .ok (.iload_n 2, 1) := by decide +kernel
theorem dX8_add_25 : decode cX8_add 25 = .ok (.iastore, 1) := by decide +kernel
theorem dX8_add_26 : decode cX8_add 26 = .ok (.aload_n 0, 1) := by decide +kernel
theorem dX8_add_27 : decode cX8_add 27 = .ok (.getfield 11, 3) := by decide +kernel
theorem dX8_add_30 : decode cX8_add 30 = .ok (.iload 5, 2) := by decide +kernel
theorem dX8_add_32 : decode cX8_add 32 = .ok (.aaload, 1) := by decide +kernel
theorem dX8_add_33 : decode cX8_add 33 = .ok (.iconst 2, 1) := by decide +kernel
theorem dX8_add_34 : decode cX8_add 34 = .ok (.iload_n 3, 1) := by decide +kernel
theorem dX8_add_35 : decode cX8_add 35 = .ok (.iastore, 1) := by decide +kernel
theorem dX8_add_36 : decode cX8_add 36 = .ok (.aload_n 0, 1) := by decide +kernel
theorem dX8_add_37 : decode cX8_add 37 = .ok (.getfield 11, 3) := by decide +kernel
theorem dX8_add_40 : decode cX8_add 40 = .ok (.iload 5, 2) := by decide +kernel
theorem dX8_add_42 : decode cX8_add 42 = .ok (.aaload, 1) := by decide +kernel
theorem dX8_add_43 : decode cX8_add 43 = .ok (.iconst 3, 1) := by decide +kernel
theorem dX8_add_44 : decode cX8_add 44 = .ok (.iload 4, 2) := by decide +kernel
theorem dX8_add_46 : decode cX8_add 46 = .ok (.iastore, 1) := by decide +kernel
theorem dX8_add_47 : decode cX8_add 47 = .ok (.aload_n 0, 1) := by decide +kernel
theorem dX8_add_48 : decode cX8_add 48 = .ok (.dup, 1) := by decide +kernel
theorem dX8_add_49 : decode cX8_add 49 = .ok (.getfield 23, 3) := by decide +kernel
theorem dX8_add_52 : decode cX8_add 52 = .ok (.iconst 1, 1) := by decide +kernel
theorem dX8_add_53 : decode cX8_add 53 = .ok (.iadd, 1) := by decide +kernel
theorem dX8_add_54 : decode cX8_add 54 = .ok (.putfield 23, 3) := by decide +kernel
theorem dX8_add_57 : decode cX8_add 57 = .ok (.iload 5, 2) := by decide +kernel
theorem dX8_add_59 : decode cX8_add 59 = .ok (.ireturn, 1) := by decide +kernel
theorem dX8_ask_0 : decode cX8_ask 0 = .ok (.aload_n 0, 1) := by decide +kernel
theorem dX8_ask_1 : decode cX8_ask 1 = .ok (.iconst 0, 1) := by decide +kernel
theorem dX8_ask_2 : decode cX8_ask 2 = .ok (.putfield 33, 3) := by decide +kernel
theorem dX8_ask_5 : decode cX8_ask 5 = .ok (.aload_n 0, 1) := by decide +kernel
theorem dX8_ask_6 : decode cX8_ask 6 = .ok (.iconst 0, 1) := by decide +kernel
theorem dX8_ask_7 : decode cX8_ask 7 = .ok (.putfield 36, 3) := by decide +kernel
theorem dX8_ask_10 : decode cX8_ask 10 = .ok (.iconst 1, 1) := by decide +kernel
theorem dX8_ask_11 : decode cX8_ask 11 = .ok (.istore_n 2, 1) := by decide +kernel
theorem dX8_ask_12 : decode cX8_ask 12 = .ok (.iload_n 2, 1) := by decide +kernel
theorem dX8_ask_13 : decode cX8_ask 13 = .ok (.bipush 6, 2) := by decide +kernel
theorem dX8_ask_15 : decode cX8_ask 15 = .ok (.if_icmp .ge 53, 3) := by decide +kernel
theorem dX8_ask_18 : decode cX8_ask 18 = .ok (.aload_n 0, 1) := by decide +kernel
theorem dX8_ask_19 : decode cX8_ask 19 = .ok (.aload_n 1, 1) := by decide +kernel
theorem dX8_ask_20 : decode cX8_ask 20 = .ok (.iload_n 2, 1) := by decide +kernel
theorem dX8_ask_21 : decode cX8_ask 21 = .ok (.invokevirtual 39, 3) := by decide +kernel
theorem dX8_ask_24 : decode cX8_ask 24 = .ok (.iconst 0, 1) := by decide +kernel
theorem dX8_ask_25 : decode cX8_ask 25 = .ok (.istore_n 3, 1) := by decide +kernel
theorem dX8_ask_26 : decode cX8_ask 26 = .ok (.iload_n 3, 1) := by decide +kernel
theorem dX8_ask_27 : decode cX8_ask 27 = .ok (.bipush 6, 2) := by decide +kernel
theorem dX8_ask_29 : decode cX8_ask 29 = .ok (.if_icmp .ge 33, 3) := by decide +kernel
theorem dX8_ask_32 : decode cX8_ask 32 = .ok (.iconst 0, 1) := by decide +kernel
theorem dX8_ask_33 : decode cX8_ask 33 = .ok (.istore 4, 2) := by decide +kernel
theorem dX8_ask_35 : decode cX8_ask 35 = .ok (.iload 4, 2) := by decide +kernel
theorem dX8_ask_37 : decode cX8_ask 37 = .ok (.bipush 81, 2) := by decide +kernel
theorem dX8_ask_39 : decode cX8_ask 39 = .ok (.if_icmp .gt 17, 3) := by decide +kernel
theorem dX8_ask_42 : decode cX8_ask 42 = .ok (.aload_n 0, 1) := by decide +kernel
theorem dX8_ask_43 : decode cX8_ask 43 = .ok (.iload_n 2, 1) := by decide +kernel
theorem dX8_ask_44 : decode cX8_ask 44 = .ok (.iload_n 3, 1) := by decide +kernel
theorem dX8_ask_45 : decode cX8_ask 45 = .ok (.iload 4, 2) := by decide +kernel
theorem dX8_ask_47 : decode cX8_ask 47 = .ok (.invokevirtual 43, 3) := by decide +kernel
theorem dX8_ask_50 : decode cX8_ask 50 = .ok (.iinc 4 9, 3) := by decide +kernel
theorem dX8_ask_53 : decode cX8_ask 53 = .ok (.goto (-18), 3) := by decide +kernel
theorem dX8_ask_56 : decode cX8_ask 56 = .ok (.iinc 3 1, 3) := by decide +kernel
theorem dX8_ask_59 : decode cX8_ask 59 = .ok (.goto (-33), 3) := by decide +kernel
theorem dX8_ask_62 : decode cX8_ask 62 = .ok (.iinc 2 1, 3) := by decide +kernel
theorem dX8_ask_65 : decode cX8_ask 65 = .ok (.goto (-53), 3) := by decide +kernel
theorem dX8_ask_68 : decode cX8_ask 68 = .ok (.return_, 1) := by decide +kernel
theorem dX8_follow_0 : decode cX8_follow 0 = .ok (.iconst 0, 1) := by decide +kernel
theorem dX8_follow_1 : decode cX8_follow 1 = .ok (.istore_n 3, 1) := by decide +kernel
theorem dX8_follow_2 : decode cX8_follow 2 = .ok (.iload_n 3, 1) := by decide +kernel
theorem dX8_follow_3 : decode cX8_follow 3 = .ok (.bipush 15, 2) := by decide +kernel
theorem dX8_follow_5 : decode cX8_follow 5 = .ok (.if_icmp .ge 74, 3) := by decide +kernel
theorem dX8_follow_8 : decode cX8_follow 8 = .ok (.aload_n 1, 1) := by decide +kernel
theorem dX8_follow_9 : decode cX8_follow 9 = .ok (.iload_n 3, 1) := by decide +kernel
theorem dX8_follow_10 : decode cX8_follow 10 = .ok (.invokevirtual 47, 3) := by decide +kernel
theorem dX8_follow_13 : decode cX8_follow 13 = .ok (.istore 4, 2) := by decide +kernel
theorem dX8_follow_15 : decode cX8_follow 15 = .ok (.aload_n 0, 1) := by decide +kernel
theorem dX8_follow_16 : decode cX8_follow 16 = .ok (.getfield 16, 3) := by decide +kernel
theorem dX8_follow_19 : decode cX8_follow 19 = .ok (.iload_n 3, 1) := by decide +kernel
theorem dX8_follow_20 : decode cX8_follow 20 = .ok (.iconst 1, 1) := by decide +kernel
theorem dX8_follow_21 : decode cX8_follow 21 = .ok (.iadd, 1) := by decide +kernel
theorem dX8_follow_22 : decode cX8_follow 22 = .ok (.aload_n 0, 1) := by decide +kernel
theorem dX8_follow_23 : decode cX8_follow 23 = .ok (.getfield 16, 3) := by decide +kernel
theorem dX8_follow_26 : decode cX8_follow 26 = .ok (.iload_n 3, 1) := by decide +kernel
theorem dX8_follow_27 : decode cX8_follow 27 = .ok (.iaload, 1) := by decide +kernel
theorem dX8_follow_28 : decode cX8_follow 28 = .ok (.aload_n 1, 1) := by decide +kernel
theorem dX8_follow_29 : decode cX8_follow 29 = .ok (.getfield 53, 3) := by decide +kernel
theorem dX8_follow_32 : decode cX8_follow 32 = .ok (.iload_n 2, 1) := by decide +kernel
theorem dX8_follow_33 : decode cX8_follow 33 = .ok (.aaload, 1) := by decide +kernel
theorem dX8_follow_34 : decode cX8_follow 34 = .ok (.iload 4, 2) := by decide +kernel
theorem dX8_follow_36 : decode cX8_follow 36 = .ok (.iconst 2, 1) := by decide +kernel
theorem dX8_follow_37 : decode cX8_follow 37 = .ok (.ishr, 1) := by decide +kernel
theorem dX8_follow_38 : decode cX8_follow 38 = .ok (.iload 4, 2) := by decide +kernel
theorem dX8_follow_40 : decode cX8_follow 40 = .ok (.iconst 3, 1) := by decide +kernel
theorem dX8_follow_41 : decode cX8_follow 41 = .ok (.iand, 1) := by decide +kernel
theorem dX8_follow_42 : decode cX8_follow 42 = .ok (.iconst 0, 1) := by decide +kernel
theorem dX8_follow_43 : decode cX8_follow 43 = .ok (.invokevirtual 57, 3) := by decide +kernel
theorem dX8_follow_46 : decode cX8_follow 46 = .ok (.iadd, 1) := by decide +kernel
theorem dX8_follow_47 : decode cX8_follow 47 = .ok (.iastore, 1) := by decide +kernel
theorem dX8_follow_48 : decode cX8_follow 48 = .ok (.aload_n 0, 1) := by decide +kernel
theorem dX8_follow_49 : decode cX8_follow 49 = .ok (.getfield 20, 3) := by decide +kernel
theorem dX8_follow_52 : decode cX8_follow 52 = .ok (.iload_n 3, 1) := by decide +kernel
theorem dX8_follow_53 : decode cX8_follow 53 = .ok (.iconst 1, 1) := by decide +kernel
theorem dX8_follow_54 : decode cX8_follow 54 = .ok (.iadd, 1) := by decide +kernel
theorem dX8_follow_55 : decode cX8_follow 55 = .ok (.aload_n 0, 1) := by decide +kernel
theorem dX8_follow_56 : decode cX8_follow 56 = .ok (.getfield 20, 3) := by decide +kernel
theorem dX8_follow_59 : decode cX8_follow 59 = .ok (.iload_n 3, 1) := by decide +kernel
theorem dX8_follow_60 : decode cX8_follow 60 = .ok (.iaload, 1) := by decide +kernel
theorem dX8_follow_61 : decode cX8_follow 61 = .ok (.aload_n 1, 1) := by decide +kernel
theorem dX8_follow_62 : decode cX8_follow 62 = .ok (.getfield 53, 3) := by decide +kernel
theorem dX8_follow_65 : decode cX8_follow 65 = .ok (.iload_n 2, 1) := by decide +kernel
theorem dX8_follow_66 : decode cX8_follow 66 = .ok (.aaload, 1) := by decide +kernel
theorem dX8_follow_67 : decode cX8_follow 67 = .ok (.iload_n 3, 1) := by decide +kernel
theorem dX8_follow_68 : decode cX8_follow 68 = .ok (.invokevirtual 63, 3) := by decide +kernel
theorem dX8_follow_71 : decode cX8_follow 71 = .ok (.iadd, 1) := by decide +kernel
theorem dX8_follow_72 : decode cX8_follow 72 = .ok (.iastore, 1) := by decide +kernel
theorem dX8_follow_73 : decode cX8_follow 73 = .ok (.iinc 3 1, 3) := by decide +kernel
theorem dX8_follow_76 : decode cX8_follow 76 = .ok (.goto (-74), 3) := by decide +kernel
theorem dX8_follow_79 : decode cX8_follow 79 = .ok (.return_, 1) := by decide +kernel
theorem dX8_hear_0 : decode cX8_hear 0 = .ok (.aload_n 0, 1) := by decide +kernel
theorem dX8_hear_1 : decode cX8_hear 1 = .ok (.iload_n 2, 1) := by decide +kernel
theorem dX8_hear_2 : decode cX8_hear 2 = .ok (.iload_n 3, 1) := by decide +kernel
theorem dX8_hear_3 : decode cX8_hear 3 = .ok (.invokevirtual 66, 3) := by decide +kernel
theorem dX8_hear_6 : decode cX8_hear 6 = .ok (.istore 4, 2) := by decide +kernel
theorem dX8_hear_8 : decode cX8_hear 8 = .ok (.iload 4, 2) := by decide +kernel
theorem dX8_hear_10 : decode cX8_hear 10 = .ok (.invokestatic 70, 3) := by decide +kernel
theorem dX8_hear_13 : decode cX8_hear 13 = .ok (.iconst 1, 1) := by decide +kernel
theorem dX8_hear_14 : decode cX8_hear 14 = .ok (.if_icmp .ne 14, 3) := by decide +kernel
theorem dX8_hear_17 : decode cX8_hear 17 = .ok (.aload_n 0, 1) := by decide +kernel
theorem dX8_hear_18 : decode cX8_hear 18 = .ok (.dup, 1) := by decide +kernel
theorem dX8_hear_19 : decode cX8_hear 19 = .ok (.getfield 36, 3) := by decide +kernel
theorem dX8_hear_22 : decode cX8_hear 22 = .ok (.iload 4, 2) := by decide +kernel
theorem dX8_hear_24 : decode cX8_hear 24 = .ok (.ior, 1) := by decide +kernel
theorem dX8_hear_25 : decode cX8_hear 25 = .ok (.putfield 36, 3) := by decide +kernel
theorem dX8_hear_28 : decode cX8_hear 28 = .ok (.iload 4, 2) := by decide +kernel
theorem dX8_hear_30 : decode cX8_hear 30 = .ok (.ifCond .eq 4, 3) := by decide +kernel
theorem dX8_hear_33 : decode cX8_hear 33 = .ok (.return_, 1) := by decide +kernel
theorem dX8_hear_34 : decode cX8_hear 34 = .ok (.aload_n 0, 1) := by decide +kernel
theorem dX8_hear_35 : decode cX8_hear 35 = .ok (.getfield 33, 3) := by decide +kernel
theorem dX8_hear_38 : decode cX8_hear 38 = .ok (.ifCond .ne 18, 3) := by decide +kernel
theorem dX8_hear_41 : decode cX8_hear 41 = .ok (.aload_n 0, 1) := by decide +kernel
theorem dX8_hear_42 : decode cX8_hear 42 = .ok (.iload_n 1, 1) := by decide +kernel
theorem dX8_hear_43 : decode cX8_hear 43 = .ok (.putfield 75, 3) := by decide +kernel
theorem dX8_hear_46 : decode cX8_hear 46 = .ok (.aload_n 0, 1) := by decide +kernel
theorem dX8_hear_47 : decode cX8_hear 47 = .ok (.iload_n 2, 1) := by decide +kernel
theorem dX8_hear_48 : decode cX8_hear 48 = .ok (.putfield 78, 3) := by decide +kernel
theorem dX8_hear_51 : decode cX8_hear 51 = .ok (.aload_n 0, 1) := by decide +kernel
theorem dX8_hear_52 : decode cX8_hear 52 = .ok (.iload_n 3, 1) := by decide +kernel
theorem dX8_hear_53 : decode cX8_hear 53 = .ok (.putfield 81, 3) := by decide +kernel
theorem dX8_hear_56 : decode cX8_hear 56 = .ok (.aload_n 0, 1) := by decide +kernel
theorem dX8_hear_57 : decode cX8_hear 57 = .ok (.dup, 1) := by decide +kernel
theorem dX8_hear_58 : decode cX8_hear 58 = .ok (.getfield 33, 3) := by decide +kernel
theorem dX8_hear_61 : decode cX8_hear 61 = .ok (.iconst 1, 1) := by decide +kernel
theorem dX8_hear_62 : decode cX8_hear 62 = .ok (.iadd, 1) := by decide +kernel
theorem dX8_hear_63 : decode cX8_hear 63 = .ok (.putfield 33, 3) := by decide +kernel
theorem dX8_hear_66 : decode cX8_hear 66 = .ok (.return_, 1) := by decide +kernel
theorem dX8_wrongOf_0 : decode cX8_wrongOf 0 = .ok (.iconst 0, 1) := by decide +kernel
theorem dX8_wrongOf_1 : decode cX8_wrongOf 1 = .ok (.istore_n 3, 1) := by decide +kernel
theorem dX8_wrongOf_2 : decode cX8_wrongOf 2 = .ok (.iconst 0, 1) := by decide +kernel
theorem dX8_wrongOf_3 : decode cX8_wrongOf 3 = .ok (.istore 4, 2) := by decide +kernel
theorem dX8_wrongOf_5 : decode cX8_wrongOf 5 = .ok (.iload 4, 2) := by decide +kernel
theorem dX8_wrongOf_7 : decode cX8_wrongOf 7 = .ok (.aload_n 0, 1) := by decide +kernel
theorem dX8_wrongOf_8 : decode cX8_wrongOf 8 = .ok (.getfield 23, 3) := by decide +kernel
theorem dX8_wrongOf_11 : decode cX8_wrongOf 11 = .ok (.if_icmp .ge 96, 3) := by decide +kernel
theorem dX8_wrongOf_14 : decode cX8_wrongOf 14 = .ok (.aload_n 0, 1) := by decide +kernel
theorem dX8_wrongOf_15 : decode cX8_wrongOf 15 = .ok (.getfield 11, 3) := by decide +kernel
theorem dX8_wrongOf_18 : decode cX8_wrongOf 18 = .ok (.iload 4, 2) := by decide +kernel
theorem dX8_wrongOf_20 : decode cX8_wrongOf 20 = .ok (.aaload, 1) := by decide +kernel
theorem dX8_wrongOf_21 : decode cX8_wrongOf 21 = .ok (.iconst 0, 1) := by decide +kernel
theorem dX8_wrongOf_22 : decode cX8_wrongOf 22 = .ok (.iaload, 1) := by decide +kernel
theorem dX8_wrongOf_23 : decode cX8_wrongOf 23 = .ok (.istore 5, 2) := by decide +kernel
theorem dX8_wrongOf_25 : decode cX8_wrongOf 25 = .ok (.aload_n 0, 1) := by decide +kernel
theorem dX8_wrongOf_26 : decode cX8_wrongOf 26 = .ok (.getfield 11, 3) := by decide +kernel
theorem dX8_wrongOf_29 : decode cX8_wrongOf 29 = .ok (.iload 4, 2) := by decide +kernel
theorem dX8_wrongOf_31 : decode cX8_wrongOf 31 = .ok (.aaload, 1) := by decide +kernel
theorem dX8_wrongOf_32 : decode cX8_wrongOf 32 = .ok (.iconst 1, 1) := by decide +kernel
theorem dX8_wrongOf_33 : decode cX8_wrongOf 33 = .ok (.iaload, 1) := by decide +kernel
theorem dX8_wrongOf_34 : decode cX8_wrongOf 34 = .ok (.ifCond .ne 18, 3) := by decide +kernel
theorem dX8_wrongOf_37 : decode cX8_wrongOf 37 = .ok (.iload_n 1, 1) := by decide +kernel
theorem dX8_wrongOf_38 : decode cX8_wrongOf 38 = .ok (.aload_n 0, 1) := by decide +kernel
theorem dX8_wrongOf_39 : decode cX8_wrongOf 39 = .ok (.getfield 20, 3) := by decide +kernel
theorem dX8_wrongOf_42 : decode cX8_wrongOf 42 = .ok (.iload 5, 2) := by decide +kernel
theorem dX8_wrongOf_44 : decode cX8_wrongOf 44 = .ok (.iaload, 1) := by decide +kernel
theorem dX8_wrongOf_45 : decode cX8_wrongOf 45 = .ok (.iadd, 1) := by decide +kernel
theorem dX8_wrongOf_46 : decode cX8_wrongOf 46 = .ok (.bipush 6, 2) := by decide +kernel
theorem dX8_wrongOf_48 : decode cX8_wrongOf 48 = .ok (.irem, 1) := by decide +kernel
theorem dX8_wrongOf_49 : decode cX8_wrongOf 49 = .ok (.goto 17, 3) := by decide +kernel
theorem dX8_wrongOf_52 : decode cX8_wrongOf 52 = .ok (.bipush 99, 2) := by decide +kernel
theorem dX8_wrongOf_54 : decode cX8_wrongOf 54 = .ok (.iload_n 2, 1) := by decide +kernel
theorem dX8_wrongOf_55 : decode cX8_wrongOf 55 = .ok (.aload_n 0, 1) := by decide +kernel
theorem dX8_wrongOf_56 : decode cX8_wrongOf 56 = .ok (.getfield 16, 3) := by decide +kernel
theorem dX8_wrongOf_59 : decode cX8_wrongOf 59 = .ok (.iload 5, 2) := by decide +kernel
theorem dX8_wrongOf_61 : decode cX8_wrongOf 61 = .ok (.iaload, 1) := by decide +kernel
theorem dX8_wrongOf_62 : decode cX8_wrongOf 62 = .ok (.iadd, 1) := by decide +kernel
theorem dX8_wrongOf_63 : decode cX8_wrongOf 63 = .ok (.invokestatic 84, 3) := by decide +kernel
theorem dX8_wrongOf_66 : decode cX8_wrongOf 66 = .ok (.istore 6, 2) := by decide +kernel
theorem dX8_wrongOf_68 : decode cX8_wrongOf 68 = .ok (.iload 6, 2) := by decide +kernel
theorem dX8_wrongOf_70 : decode cX8_wrongOf 70 = .ok (.aload_n 0, 1) := by decide +kernel
theorem dX8_wrongOf_71 : decode cX8_wrongOf 71 = .ok (.getfield 11, 3) := by decide +kernel
theorem dX8_wrongOf_74 : decode cX8_wrongOf 74 = .ok (.iload 4, 2) := by decide +kernel
theorem dX8_wrongOf_76 : decode cX8_wrongOf 76 = .ok (.aaload, 1) := by decide +kernel
theorem dX8_wrongOf_77 : decode cX8_wrongOf 77 = .ok (.iconst 2, 1) := by decide +kernel
theorem dX8_wrongOf_78 : decode cX8_wrongOf 78 = .ok (.iaload, 1) := by decide +kernel
theorem dX8_wrongOf_79 : decode cX8_wrongOf 79 = .ok (.aload_n 0, 1) := by decide +kernel
theorem dX8_wrongOf_80 : decode cX8_wrongOf 80 = .ok (.getfield 11, 3) := by decide +kernel
theorem dX8_wrongOf_83 : decode cX8_wrongOf 83 = .ok (.iload 4, 2) := by decide +kernel
theorem dX8_wrongOf_85 : decode cX8_wrongOf 85 = .ok (.aaload, 1) := by decide +kernel
theorem dX8_wrongOf_86 : decode cX8_wrongOf 86 = .ok (.iconst 3, 1) := by decide +kernel
theorem dX8_wrongOf_87 : decode cX8_wrongOf 87 = .ok (.iaload, 1) := by decide +kernel
theorem dX8_wrongOf_88 : decode cX8_wrongOf 88 = .ok (.invokestatic 89, 3) := by decide +kernel
theorem dX8_wrongOf_91 : decode cX8_wrongOf 91 = .ok (.ifCond .ne 10, 3) := by decide +kernel
theorem dX8_wrongOf_94 : decode cX8_wrongOf 94 = .ok (.iload_n 3, 1) := by decide +kernel
theorem dX8_wrongOf_95 : decode cX8_wrongOf 95 = .ok (.iconst 1, 1) := by decide +kernel
theorem dX8_wrongOf_96 : decode cX8_wrongOf 96 = .ok (.iload 4, 2) := by decide +kernel
theorem dX8_wrongOf_98 : decode cX8_wrongOf 98 = .ok (.ishl, 1) := by decide +kernel
theorem dX8_wrongOf_99 : decode cX8_wrongOf 99 = .ok (.ior, 1) := by decide +kernel
theorem dX8_wrongOf_100 : decode cX8_wrongOf 100 = .ok (.istore_n 3, 1) := by decide +kernel
theorem dX8_wrongOf_101 : decode cX8_wrongOf 101 = .ok (.iinc 4 1, 3) := by decide +kernel
theorem dX8_wrongOf_104 : decode cX8_wrongOf 104 = .ok (.goto (-99), 3) := by decide +kernel
theorem dX8_wrongOf_107 : decode cX8_wrongOf 107 = .ok (.iload_n 3, 1) := by decide +kernel
theorem dX8_wrongOf_108 : decode cX8_wrongOf 108 = .ok (.ireturn, 1) := by decide +kernel
theorem dX9_init_0 : decode cX9_init 0 = .ok (.aload_n 0, 1) := by decide +kernel
theorem dX9_init_1 : decode cX9_init 1 = .ok (.invokespecial 3, 3) := by decide +kernel
theorem dX9_init_4 : decode cX9_init 4 = .ok (.aload_n 0, 1) := by decide +kernel
theorem dX9_init_5 : decode cX9_init 5 = .ok (.bipush 30, 2) := by decide +kernel
theorem dX9_init_7 : decode cX9_init 7 = .ok (.newarray .int, 2) := by decide +kernel
theorem dX9_init_9 : decode cX9_init 9 = .ok (.putfield 9, 3) := by decide +kernel
theorem dX9_init_12 : decode cX9_init 12 = .ok (.return_, 1) := by decide +kernel
theorem dX9_become_0 : decode cX9_become 0 = .ok (.aload_n 0, 1) := by decide +kernel
theorem dX9_become_1 : decode cX9_become 1 = .ok (.iload_n 1, 1) := by decide +kernel
theorem dX9_become_2 : decode cX9_become 2 = .ok (.putfield 15, 3) := by decide +kernel
theorem dX9_become_5 : decode cX9_become 5 = .ok (.aload_n 0, 1) := by decide +kernel
theorem dX9_become_6 : decode cX9_become 6 = .ok (.iload_n 2, 1) := by decide +kernel
theorem dX9_become_7 : decode cX9_become 7 = .ok (.putfield 19, 3) := by decide +kernel
theorem dX9_become_10 : decode cX9_become 10 = .ok (.aload_n 0, 1) := by decide +kernel
theorem dX9_become_11 : decode cX9_become 11 = .ok (.iconst 0, 1) := by decide +kernel
theorem dX9_become_12 : decode cX9_become 12 = .ok (.putfield 22, 3) := by decide +kernel
theorem dX9_become_15 : decode cX9_become 15 = .ok (.aload_n 0, 1) := by decide +kernel
theorem dX9_become_16 : decode cX9_become 16 = .ok (.iconst 0, 1) := by decide +kernel
theorem dX9_become_17 : decode cX9_become 17 = .ok (.putfield 25, 3) := by decide +kernel
theorem dX9_become_20 : decode cX9_become 20 = .ok (.return_, 1) := by decide +kernel
theorem dX9_begins_0 : decode cX9_begins 0 = .ok (.aload_n 0, 1) := by decide +kernel
theorem dX9_begins_1 : decode cX9_begins 1 = .ok (.getfield 25, 3) := by decide +kernel
theorem dX9_begins_4 : decode cX9_begins 4 = .ok (.ifCond .ne 12, 3) := by decide +kernel
theorem dX9_begins_7 : decode cX9_begins 7 = .ok (.aload_n 0, 1) := by decide +kernel
theorem dX9_begins_8 : decode cX9_begins 8 = .ok (.getfield 22, 3) := by decide +kernel
theorem dX9_begins_11 : decode cX9_begins 11 = .ok (.bipush 30, 2) := by decide +kernel
theorem dX9_begins_13 : decode cX9_begins 13 = .ok (.if_icmp .lt 4, 3) := by decide +kernel
theorem dX9_begins_16 : decode cX9_begins 16 = .ok (.return_, 1) := by decide +kernel
theorem dX9_begins_17 : decode cX9_begins 17 = .ok (.aload_n 0, 1) := by decide +kernel
theorem dX9_begins_18 : decode cX9_begins 18 = .ok (.getfield 9, 3) := by decide +kernel
theorem dX9_begins_21 : decode cX9_begins 21 = .ok (.aload_n 0, 1) := by decide +kernel
theorem dX9_begins_22 : decode cX9_begins 22 = .ok (.getfield 22, 3) := by decide +kernel
theorem dX9_begins_25 : decode cX9_begins 25 = .ok (.iload_n 1, 1) := by decide +kernel
theorem dX9_begins_26 : decode cX9_begins 26 = .ok (.iastore, 1) := by decide +kernel
theorem dX9_begins_27 : decode cX9_begins 27 = .ok (.aload_n 0, 1) := by decide +kernel
theorem dX9_begins_28 : decode cX9_begins 28 = .ok (.dup, 1) := by decide +kernel
theorem dX9_begins_29 : decode cX9_begins 29 = .ok (.getfield 22, 3) := by decide +kernel
theorem dX9_begins_32 : decode cX9_begins 32 = .ok (.iconst 1, 1) := by decide +kernel
theorem dX9_begins_33 : decode cX9_begins 33 = .ok (.iadd, 1) := by decide +kernel
theorem dX9_begins_34 : decode cX9_begins 34 = .ok (.putfield 22, 3) := by decide +kernel
theorem dX9_begins_37 : decode cX9_begins 37 = .ok (.return_, 1) := by decide +kernel
theorem dX9_sinks_0 : decode cX9_sinks 0 = .ok (.iload_n 1, 1) := by decide +kernel
theorem dX9_sinks_1 : decode cX9_sinks 1 = .ok (.iload_n 3, 1) := by decide +kernel
theorem dX9_sinks_2 : decode cX9_sinks 2 = .ok (.iadd, 1) := by decide +kernel
theorem dX9_sinks_3 : decode cX9_sinks 3 = .ok (.ireturn, 1) := by decide +kernel
theorem dX9_drifts_0 : decode cX9_drifts 0 = .ok (.iconst 0, 1) := by decide +kernel
theorem dX9_drifts_1 : decode cX9_drifts 1 = .ok (.ireturn, 1) := by decide +kernel
theorem dX9_stands_0 : decode cX9_stands 0 = .ok (.aload_n 0, 1) := by decide +kernel
theorem dX9_stands_1 : decode cX9_stands 1 = .ok (.bipush 10, 2) := by decide +kernel
theorem dX9_stands_3 : decode cX9_stands 3 = .ok (.invokevirtual 29, 3) := by decide +kernel
theorem dX9_stands_6 : decode cX9_stands 6 = .ok (.iload_n 1, 1) := by decide +kernel
theorem dX9_stands_7 : decode cX9_stands 7 = .ok (.iconst 5, 1) := by decide +kernel
theorem dX9_stands_8 : decode cX9_stands 8 = .ok (.imul, 1) := by decide +kernel
theorem dX9_stands_9 : decode cX9_stands 9 = .ok (.aload_n 0, 1) := by decide +kernel
theorem dX9_stands_10 : decode cX9_stands 10 = .ok (.getfield 15, 3) := by decide +kernel
theorem dX9_stands_13 : decode cX9_stands 13 = .ok (.isub, 1) := by decide +kernel
theorem dX9_stands_14 : decode cX9_stands 14 = .ok (.ireturn, 1) := by decide +kernel
theorem dX9_reads_0 : decode cX9_reads 0 = .ok (.aload_n 0, 1) := by decide +kernel
theorem dX9_reads_1 : decode cX9_reads 1 = .ok (.bipush 11, 2) := by decide +kernel
theorem dX9_reads_3 : decode cX9_reads 3 = .ok (.invokevirtual 29, 3) := by decide +kernel
theorem dX9_reads_6 : decode cX9_reads 6 = .ok (.aload_n 0, 1) := by decide +kernel
theorem dX9_reads_7 : decode cX9_reads 7 = .ok (.iload_n 1, 1) := by decide +kernel
theorem dX9_reads_8 : decode cX9_reads 8 = .ok (.invokevirtual 33, 3) := by decide +kernel
theorem dX9_reads_11 : decode cX9_reads 11 = .ok (.iconst 4, 1) := by decide +kernel
theorem dX9_reads_12 : decode cX9_reads 12 = .ok (.aload_n 0, 1) := by decide +kernel
theorem dX9_reads_13 : decode cX9_reads 13 = .ok (.getfield 19, 3) := by decide +kernel
theorem dX9_reads_16 : decode cX9_reads 16 = .ok (.imul, 1) := by decide +kernel
theorem dX9_reads_17 : decode cX9_reads 17 = .ok (.iadd, 1) := by decide +kernel
theorem dX9_reads_18 : decode cX9_reads 18 = .ok (.ireturn, 1) := by decide +kernel
theorem dX9_rounds_0 : decode cX9_rounds 0 = .ok (.aload_n 0, 1) := by decide +kernel
theorem dX9_rounds_1 : decode cX9_rounds 1 = .ok (.bipush 12, 2) := by decide +kernel
theorem dX9_rounds_3 : decode cX9_rounds 3 = .ok (.invokevirtual 29, 3) := by decide +kernel
theorem dX9_rounds_6 : decode cX9_rounds 6 = .ok (.aload_n 0, 1) := by decide +kernel
theorem dX9_rounds_7 : decode cX9_rounds 7 = .ok (.getfield 15, 3) := by decide +kernel
theorem dX9_rounds_10 : decode cX9_rounds 10 = .ok (.aload_n 0, 1) := by decide +kernel
theorem dX9_rounds_11 : decode cX9_rounds 11 = .ok (.getfield 19, 3) := by decide +kernel
theorem dX9_rounds_14 : decode cX9_rounds 14 = .ok (.isub, 1) := by decide +kernel
theorem dX9_rounds_15 : decode cX9_rounds 15 = .ok (.iconst 4, 1) := by decide +kernel
theorem dX9_rounds_16 : decode cX9_rounds 16 = .ok (.iadd, 1) := by decide +kernel
theorem dX9_rounds_17 : decode cX9_rounds 17 = .ok (.istore_n 2, 1) := by decide +kernel
theorem dX9_rounds_18 : decode cX9_rounds 18 = .ok (.iload_n 2, 1) := by decide +kernel
theorem dX9_rounds_19 : decode cX9_rounds 19 = .ok (.ifCond .ne 10, 3) := by decide +kernel
theorem dX9_rounds_22 : decode cX9_rounds 22 = .ok (.aload_n 0, 1) := by decide +kernel
theorem dX9_rounds_23 : decode cX9_rounds 23 = .ok (.iconst 1, 1) := by decide +kernel
theorem dX9_rounds_24 : decode cX9_rounds 24 = .ok (.putfield 25, 3) := by decide +kernel
theorem dX9_rounds_27 : decode cX9_rounds 27 = .ok (.iconst 0, 1) := by decide +kernel
theorem dX9_rounds_28 : decode cX9_rounds 28 = .ok (.ireturn, 1) := by decide +kernel
theorem dX9_rounds_29 : decode cX9_rounds 29 = .ok (.iload_n 1, 1) := by decide +kernel
theorem dX9_rounds_30 : decode cX9_rounds 30 = .ok (.iload_n 2, 1) := by decide +kernel
theorem dX9_rounds_31 : decode cX9_rounds 31 = .ok (.irem, 1) := by decide +kernel
theorem dX9_rounds_32 : decode cX9_rounds 32 = .ok (.ireturn, 1) := by decide +kernel
theorem dX9_rises_0 : decode cX9_rises 0 = .ok (.aload_n 0, 1) := by decide +kernel
theorem dX9_rises_1 : decode cX9_rises 1 = .ok (.bipush 13, 2) := by decide +kernel
theorem dX9_rises_3 : decode cX9_rises 3 = .ok (.invokevirtual 29, 3) := by decide +kernel
theorem dX9_rises_6 : decode cX9_rises 6 = .ok (.aload_n 0, 1) := by decide +kernel
theorem dX9_rises_7 : decode cX9_rises 7 = .ok (.iload_n 1, 1) := by decide +kernel
theorem dX9_rises_8 : decode cX9_rises 8 = .ok (.invokevirtual 37, 3) := by decide +kernel
theorem dX9_rises_11 : decode cX9_rises 11 = .ok (.aload_n 0, 1) := by decide +kernel
theorem dX9_rises_12 : decode cX9_rises 12 = .ok (.iload_n 1, 1) := by decide +kernel
theorem dX9_rises_13 : decode cX9_rises 13 = .ok (.invokevirtual 40, 3) := by decide +kernel
theorem dX9_rises_16 : decode cX9_rises 16 = .ok (.isub, 1) := by decide +kernel
theorem dX9_rises_17 : decode cX9_rises 17 = .ok (.ireturn, 1) := by decide +kernel
theorem dX10_init_0 : decode cX10_init 0 = .ok (.aload_n 0, 1) := by decide +kernel
theorem dX10_init_1 : decode cX10_init 1 = .ok (.invokespecial 5, 3) := by decide +kernel
theorem dX10_init_4 : decode cX10_init 4 = .ok (.aload_n 0, 1) := by decide +kernel
theorem dX10_init_5 : decode cX10_init 5 = .ok (.bipush 8, 2) := by decide +kernel
theorem dX10_init_7 : decode cX10_init 7 = .ok (.newarray .int, 2) := by decide +kernel
theorem dX10_init_9 : decode cX10_init 9 = .ok (.putfield 11, 3) := by decide +kernel
theorem dX10_init_12 : decode cX10_init 12 = .ok (.aload_n 0, 1) := by decide +kernel
theorem dX10_init_13 : decode cX10_init 13 = .ok (.bipush 8, 2) := by decide +kernel
theorem dX10_init_15 : decode cX10_init 15 = .ok (.newarray .int, 2) := by decide +kernel
theorem dX10_init_17 : decode cX10_init 17 = .ok (.putfield 15, 3) := by decide +kernel
theorem dX10_init_20 : decode cX10_init 20 = .ok (.aload_n 0, 1) := by decide +kernel
theorem dX10_init_21 : decode cX10_init 21 = .ok (.bipush 8, 2) := by decide +kernel
theorem dX10_init_23 : decode cX10_init 23 = .ok (.newarray .int, 2) := by decide +kernel
theorem dX10_init_25 : decode cX10_init 25 = .ok (.putfield 18, 3) := by decide +kernel
theorem dX10_init_28 : decode cX10_init 28 = .ok (.aload_n 0, 1) := by decide +kernel
theorem dX10_init_29 : decode cX10_init 29 = .ok (.sipush 200, 3) := by decide +kernel
theorem dX10_init_32 : decode cX10_init 32 = .ok (.newarray .int, 2) := by decide +kernel
theorem dX10_init_34 : decode cX10_init 34 = .ok (.putfield 21, 3) := by decide +kernel
theorem dX10_init_37 : decode cX10_init 37 = .ok (.aload_n 0, 1) := by decide +kernel
theorem dX10_init_38 : decode cX10_init 38 = .ok (.iconst 0, 1) := by decide +kernel
theorem dX10_init_39 : decode cX10_init 39 = .ok (.newarray .byte, 2) := by decide +kernel
theorem dX10_init_41 : decode cX10_init 41 = .ok (.putfield 24, 3) := by decide +kernel
theorem dX10_init_44 : decode cX10_init 44 = .ok (.return_, 1) := by decide +kernel
theorem dX10_become_0 : decode cX10_become 0 = .ok (.aload_n 0, 1) := by decide +kernel
theorem dX10_become_1 : decode cX10_become 1 = .ok (.aload_n 1, 1) := by decide +kernel
theorem dX10_become_2 : decode cX10_become 2 = .ok (.getfield 28, 3) := by decide +kernel
theorem dX10_become_5 : decode cX10_become 5 = .ok (.putfield 28, 3) := by decide +kernel
theorem dX10_become_8 : decode cX10_become 8 = .ok (.aload_n 0, 1) := by decide +kernel
theorem dX10_become_9 : decode cX10_become 9 = .ok (.aload_n 1, 1) := by decide +kernel
theorem dX10_become_10 : decode cX10_become 10 = .ok (.getfield 32, 3) := by decide +kernel
theorem dX10_become_13 : decode cX10_become 13 = .ok (.putfield 32, 3) := by decide +kernel
theorem dX10_become_16 : decode cX10_become 16 = .ok (.aload_n 1, 1) := by decide +kernel
theorem dX10_become_17 : decode cX10_become 17 = .ok (.getfield 11, 3) := by decide +kernel
theorem dX10_become_20 : decode cX10_become 20 = .ok (.iconst 0, 1) := by decide +kernel
theorem dX10_become_21 : decode cX10_become 21 = .ok (.aload_n 0, 1) := by decide +kernel
theorem dX10_become_22 : decode cX10_become 22 = .ok (.getfield 11, 3) := by decide +kernel
theorem dX10_become_25 : decode cX10_become 25 = .ok (.iconst 0, 1) := by decide +kernel
theorem dX10_become_26 : decode cX10_become 26 = .ok (.bipush 8, 2) := by decide +kernel
theorem dX10_become_28 : decode cX10_become 28 = .ok (.invokestatic 35, 3) := by decide +kernel
theorem dX10_become_31 : decode cX10_become 31 = .ok (.aload_n 1, 1) := by decide +kernel
theorem dX10_become_32 : decode cX10_become 32 = .ok (.getfield 15, 3) := by decide +kernel
theorem dX10_become_35 : decode cX10_become 35 = .ok (.iconst 0, 1) := by decide +kernel
theorem dX10_become_36 : decode cX10_become 36 = .ok (.aload_n 0, 1) := by decide +kernel
theorem dX10_become_37 : decode cX10_become 37 = .ok (.getfield 15, 3) := by decide +kernel
theorem dX10_become_40 : decode cX10_become 40 = .ok (.iconst 0, 1) := by decide +kernel
theorem dX10_become_41 : decode cX10_become 41 = .ok (.bipush 8, 2) := by decide +kernel
theorem dX10_become_43 : decode cX10_become 43 = .ok (.invokestatic 35, 3) := by decide +kernel
theorem dX10_become_46 : decode cX10_become 46 = .ok (.aload_n 1, 1) := by decide +kernel
theorem dX10_become_47 : decode cX10_become 47 = .ok (.getfield 18, 3) := by decide +kernel
theorem dX10_become_50 : decode cX10_become 50 = .ok (.iconst 0, 1) := by decide +kernel
theorem dX10_become_51 : decode cX10_become 51 = .ok (.aload_n 0, 1) := by decide +kernel
theorem dX10_become_52 : decode cX10_become 52 = .ok (.getfield 18, 3) := by decide +kernel
theorem dX10_become_55 : decode cX10_become 55 = .ok (.iconst 0, 1) := by decide +kernel
theorem dX10_become_56 : decode cX10_become 56 = .ok (.bipush 8, 2) := by decide +kernel
theorem dX10_become_58 : decode cX10_become 58 = .ok (.invokestatic 35, 3) := by decide +kernel
theorem dX10_become_61 : decode cX10_become 61 = .ok (.aload_n 1, 1) := by decide +kernel
theorem dX10_become_62 : decode cX10_become 62 = .ok (.getfield 21, 3) := by decide +kernel
theorem dX10_become_65 : decode cX10_become 65 = .ok (.iconst 0, 1) := by decide +kernel
theorem dX10_become_66 : decode cX10_become 66 = .ok (.aload_n 0, 1) := by decide +kernel
theorem dX10_become_67 : decode cX10_become 67 = .ok (.getfield 21, 3) := by decide +kernel
theorem dX10_become_70 : decode cX10_become 70 = .ok (.iconst 0, 1) := by decide +kernel
theorem dX10_become_71 : decode cX10_become 71 = .ok (.sipush 200, 3) := by decide +kernel
theorem dX10_become_74 : decode cX10_become 74 = .ok (.invokestatic 35, 3) := by decide +kernel
theorem dX10_become_77 : decode cX10_become 77 = .ok (.return_, 1) := by decide +kernel
theorem dX10_holds_0 : decode cX10_holds 0 = .ok (.iload_n 1, 1) := by decide +kernel
theorem dX10_holds_1 : decode cX10_holds 1 = .ok (.ifCond .ne 7, 3) := by decide +kernel
theorem dX10_holds_4 : decode cX10_holds 4 = .ok (.iconst 0, 1) := by decide +kernel
theorem dX10_holds_5 : decode cX10_holds 5 = .ok (.goto 11, 3) := by decide +kernel
theorem dX10_holds_8 : decode cX10_holds 8 = .ok (.aload_n 0, 1) := by decide +kernel
theorem dX10_holds_9 : decode cX10_holds 9 = .ok (.getfield 18, 3) := by decide +kernel
theorem dX10_holds_12 : decode cX10_holds 12 = .ok (.iload_n 1, 1) := by decide +kernel
theorem dX10_holds_13 : decode cX10_holds 13 = .ok (.iconst 1, 1) := by decide +kernel
theorem dX10_holds_14 : decode cX10_holds 14 = .ok (.isub, 1) := by decide +kernel
theorem dX10_holds_15 : decode cX10_holds 15 = .ok (.iaload, 1) := by decide +kernel
theorem dX10_holds_16 : decode cX10_holds 16 = .ok (.istore_n 3, 1) := by decide +kernel
theorem dX10_holds_17 : decode cX10_holds 17 = .ok (.iconst 1, 1) := by decide +kernel
theorem dX10_holds_18 : decode cX10_holds 18 = .ok (.istore 4, 2) := by decide +kernel
theorem dX10_holds_20 : decode cX10_holds 20 = .ok (.iload_n 3, 1) := by decide +kernel
theorem dX10_holds_21 : decode cX10_holds 21 = .ok (.istore 5, 2) := by decide +kernel
theorem dX10_holds_23 : decode cX10_holds 23 = .ok (.iload 5, 2) := by decide +kernel
theorem dX10_holds_25 : decode cX10_holds 25 = .ok (.aload_n 0, 1) := by decide +kernel
theorem dX10_holds_26 : decode cX10_holds 26 = .ok (.getfield 18, 3) := by decide +kernel
theorem dX10_holds_29 : decode cX10_holds 29 = .ok (.iload_n 1, 1) := by decide +kernel
theorem dX10_holds_30 : decode cX10_holds 30 = .ok (.iaload, 1) := by decide +kernel
theorem dX10_holds_31 : decode cX10_holds 31 = .ok (.if_icmp .ge 210, 3) := by decide +kernel
theorem dX10_holds_34 : decode cX10_holds 34 = .ok (.aload_n 0, 1) := by decide +kernel
theorem dX10_holds_35 : decode cX10_holds 35 = .ok (.getfield 21, 3) := by decide +kernel
theorem dX10_holds_38 : decode cX10_holds 38 = .ok (.iload 5, 2) := by decide +kernel
theorem dX10_holds_40 : decode cX10_holds 40 = .ok (.iaload, 1) := by decide +kernel
theorem dX10_holds_41 : decode cX10_holds 41 = .ok (.istore 6, 2) := by decide +kernel
theorem dX10_holds_43 : decode cX10_holds 43 = .ok (.iload 6, 2) := by decide +kernel
theorem dX10_holds_45 : decode cX10_holds 45 = .ok (.iconst (-1), 1) := by decide +kernel
theorem dX10_holds_46 : decode cX10_holds 46 = .ok (.if_icmp .ne 12, 3) := by decide +kernel
theorem dX10_holds_49 : decode cX10_holds 49 = .ok (.iload 4, 2) := by decide +kernel
theorem dX10_holds_51 : decode cX10_holds 51 = .ok (.iconst 1, 1) := by decide +kernel
theorem dX10_holds_52 : decode cX10_holds 52 = .ok (.ixor, 1) := by decide +kernel
theorem dX10_holds_53 : decode cX10_holds 53 = .ok (.istore 4, 2) := by decide +kernel
theorem dX10_holds_55 : decode cX10_holds 55 = .ok (.goto 180, 3) := by decide +kernel
theorem dX10_holds_58 : decode cX10_holds 58 = .ok (.iload 6, 2) := by decide +kernel
theorem dX10_holds_60 : decode cX10_holds 60 = .ok (.bipush (-2), 2) := by decide +kernel
theorem dX10_holds_62 : decode cX10_holds 62 = .ok (.if_icmp .ne 18, 3) := by decide +kernel
theorem dX10_holds_65 : decode cX10_holds 65 = .ok (.iload 4, 2) := by decide +kernel
theorem dX10_holds_67 : decode cX10_holds 67 = .ok (.iconst 1, 1) := by decide +kernel
theorem dX10_holds_68 : decode cX10_holds 68 = .ok (.ishr, 1) := by decide +kernel
theorem dX10_holds_69 : decode cX10_holds 69 = .ok (.iload 4, 2) := by decide +kernel
theorem dX10_holds_71 : decode cX10_holds 71 = .ok (.bipush (-2), 2) := by decide +kernel
theorem dX10_holds_73 : decode cX10_holds 73 = .ok (.ior, 1) := by decide +kernel
theorem dX10_holds_74 : decode cX10_holds 74 = .ok (.iand, 1) := by decide +kernel
theorem dX10_holds_75 : decode cX10_holds 75 = .ok (.istore 4, 2) := by decide +kernel
theorem dX10_holds_77 : decode cX10_holds 77 = .ok (.goto 158, 3) := by decide +kernel
theorem dX10_holds_80 : decode cX10_holds 80 = .ok (.iload 6, 2) := by decide +kernel
theorem dX10_holds_82 : decode cX10_holds 82 = .ok (.bipush (-3), 2) := by decide +kernel
theorem dX10_holds_84 : decode cX10_holds 84 = .ok (.if_icmp .ne 17, 3) := by decide +kernel
theorem dX10_holds_87 : decode cX10_holds 87 = .ok (.iload 4, 2) := by decide +kernel
theorem dX10_holds_89 : decode cX10_holds 89 = .ok (.iconst 1, 1) := by decide +kernel
theorem dX10_holds_90 : decode cX10_holds 90 = .ok (.ishr, 1) := by decide +kernel
theorem dX10_holds_91 : decode cX10_holds 91 = .ok (.iload 4, 2) := by decide +kernel
theorem dX10_holds_93 : decode cX10_holds 93 = .ok (.iconst 1, 1) := by decide +kernel
theorem dX10_holds_94 : decode cX10_holds 94 = .ok (.iand, 1) := by decide +kernel
theorem dX10_holds_95 : decode cX10_holds 95 = .ok (.ior, 1) := by decide +kernel
theorem dX10_holds_96 : decode cX10_holds 96 = .ok (.istore 4, 2) := by decide +kernel
theorem dX10_holds_98 : decode cX10_holds 98 = .ok (.goto 137, 3) := by decide +kernel
theorem dX10_holds_101 : decode cX10_holds 101 = .ok (.iload 6, 2) := by decide +kernel
theorem dX10_holds_103 : decode cX10_holds 103 = .ok (.sipush 16383, 3) := by decide +kernel
theorem dX10_holds_106 : decode cX10_holds 106 = .ok (.iand, 1) := by decide +kernel
theorem dX10_holds_107 : decode cX10_holds 107 = .ok (.istore 7, 2) := by decide +kernel
theorem dX10_holds_109 : decode cX10_holds 109 = .ok (.iload 6, 2) := by decide +kernel
theorem dX10_holds_111 : decode cX10_holds 111 = .ok (.bipush 14, 2) := by decide +kernel
theorem dX10_holds_113 : decode cX10_holds 113 = .ok (.ishr, 1) := by decide +kernel
theorem dX10_holds_114 : decode cX10_holds 114 = .ok (.sipush 16383, 3) := by decide +kernel
theorem dX10_holds_117 : decode cX10_holds 117 = .ok (.iand, 1) := by decide +kernel
theorem dX10_holds_118 : decode cX10_holds 118 = .ok (.istore 8, 2) := by decide +kernel
theorem dX10_holds_120 : decode cX10_holds 120 = .ok (.iload 7, 2) := by decide +kernel
theorem dX10_holds_122 : decode cX10_holds 122 = .ok (.sipush 10000, 3) := by decide +kernel
theorem dX10_holds_125 : decode cX10_holds 125 = .ok (.if_icmp .lt 13, 3) := by decide +kernel
theorem dX10_holds_128 : decode cX10_holds 128 = .ok (.aload_n 2, 1) := by decide +kernel
theorem dX10_holds_129 : decode cX10_holds 129 = .ok (.iload 7, 2) := by decide +kernel
theorem dX10_holds_131 : decode cX10_holds 131 = .ok (.sipush 10000, 3) := by decide +kernel
theorem dX10_holds_134 : decode cX10_holds 134 = .ok (.isub, 1) := by decide +kernel
theorem dX10_holds_135 : decode cX10_holds 135 = .ok (.iaload, 1) := by decide +kernel
theorem dX10_holds_136 : decode cX10_holds 136 = .ok (.istore 7, 2) := by decide +kernel
theorem dX10_holds_138 : decode cX10_holds 138 = .ok (.iload 8, 2) := by decide +kernel
theorem dX10_holds_140 : decode cX10_holds 140 = .ok (.sipush 10000, 3) := by decide +kernel
theorem dX10_holds_143 : decode cX10_holds 143 = .ok (.if_icmp .lt 13, 3) := by decide +kernel
theorem dX10_holds_146 : decode cX10_holds 146 = .ok (.aload_n 2, 1) := by decide +kernel
theorem dX10_holds_147 : decode cX10_holds 147 = .ok (.iload 8, 2) := by decide +kernel
theorem dX10_holds_149 : decode cX10_holds 149 = .ok (.sipush 10000, 3) := by decide +kernel
theorem dX10_holds_152 : decode cX10_holds 152 = .ok (.isub, 1) := by decide +kernel
theorem dX10_holds_153 : decode cX10_holds 153 = .ok (.iaload, 1) := by decide +kernel
theorem dX10_holds_154 : decode cX10_holds 154 = .ok (.istore 8, 2) := by decide +kernel
theorem dX10_holds_156 : decode cX10_holds 156 = .ok (.iload 6, 2) := by decide +kernel
theorem dX10_holds_158 : decode cX10_holds 158 = .ok (.bipush 28, 2) := by decide +kernel
theorem dX10_holds_160 : decode cX10_holds 160 = .ok (.ishr, 1) := by decide +kernel
theorem dX10_holds_161 : decode cX10_holds 161 = .ok (.istore 9, 2) := by decide +kernel
theorem dX10_holds_163 : decode cX10_holds 163 = .ok (.iload 9, 2) := by decide +kernel
theorem dX10_holds_165 : decode cX10_holds 165 = .ok (.ifCond .ne 18, 3) := by decide +kernel
theorem dX10_holds_168 : decode cX10_holds 168 = .ok (.iload 7, 2) := by decide +kernel
theorem dX10_holds_170 : decode cX10_holds 170 = .ok (.iload 8, 2) := by decide +kernel
theorem dX10_holds_172 : decode cX10_holds 172 = .ok (.if_icmp .ge 7, 3) := by decide +kernel
theorem dX10_holds_175 : decode cX10_holds 175 = .ok (.iconst 1, 1) := by decide +kernel
theorem dX10_holds_176 : decode cX10_holds 176 = .ok (.goto 40, 3) := by decide +kernel
theorem dX10_holds_179 : decode cX10_holds 179 = .ok (.iconst 0, 1) := by decide +kernel
theorem dX10_holds_180 : decode cX10_holds 180 = .ok (.goto 36, 3) := by decide +kernel
theorem dX10_holds_183 : decode cX10_holds 183 = .ok (.iload 9, 2) := by decide +kernel
theorem dX10_holds_185 : decode cX10_holds 185 = .ok (.iconst 1, 1) := by decide +kernel
theorem dX10_holds_186 : decode cX10_holds 186 = .ok (.if_icmp .ne 18, 3) := by decide +kernel
theorem dX10_holds_189 : decode cX10_holds 189 = .ok (.iload 7, 2) := by decide +kernel
theorem dX10_holds_191 : decode cX10_holds 191 = .ok (.iload 8, 2) := by decide +kernel
theorem dX10_holds_193 : decode cX10_holds 193 = .ok (.if_icmp .ne 7, 3) := by decide +kernel
theorem dX10_holds_196 : decode cX10_holds 196 = .ok (.iconst 1, 1) := by decide +kernel
theorem dX10_holds_197 : decode cX10_holds 197 = .ok (.goto 19, 3) := by decide +kernel
theorem dX10_holds_200 : decode cX10_holds 200 = .ok (.iconst 0, 1) := by decide +kernel
theorem dX10_holds_201 : decode cX10_holds 201 = .ok (.goto 15, 3) := by decide +kernel
theorem dX10_holds_204 : decode cX10_holds 204 = .ok (.iload 7, 2) := by decide +kernel
theorem dX10_holds_206 : decode cX10_holds 206 = .ok (.iload 8, 2) := by decide +kernel
theorem dX10_holds_208 : decode cX10_holds 208 = .ok (.if_icmp .le 7, 3) := by decide +kernel
theorem dX10_holds_211 : decode cX10_holds 211 = .ok (.iconst 1, 1) := by decide +kernel
theorem dX10_holds_212 : decode cX10_holds 212 = .ok (.goto 4, 3) := by decide +kernel
theorem dX10_holds_215 : decode cX10_holds 215 = .ok (.iconst 0, 1) := by decide +kernel
theorem dX10_holds_216 : decode cX10_holds 216 = .ok (.istore 10, 2) := by decide +kernel
theorem dX10_holds_218 : decode cX10_holds 218 = .ok (.iload 4, 2) := by decide +kernel
theorem dX10_holds_220 : decode cX10_holds 220 = .ok (.iconst 1, 1) := by decide +kernel
theorem dX10_holds_221 : decode cX10_holds 221 = .ok (.ishl, 1) := by decide +kernel
theorem dX10_holds_222 : decode cX10_holds 222 = .ok (.iload 10, 2) := by decide +kernel
theorem dX10_holds_224 : decode cX10_holds 224 = .ok (.ifCond .eq 7, 3) := by decide +kernel
theorem dX10_holds_227 : decode cX10_holds 227 = .ok (.iconst 1, 1) := by decide +kernel
theorem dX10_holds_228 : decode cX10_holds 228 = .ok (.goto 4, 3) := by decide +kernel
theorem dX10_holds_231 : decode cX10_holds 231 = .ok (.iconst 0, 1) := by decide +kernel
theorem dX10_holds_232 : decode cX10_holds 232 = .ok (.ior, 1) := by decide +kernel
theorem dX10_holds_233 : decode cX10_holds 233 = .ok (.istore 4, 2) := by decide +kernel
theorem dX10_holds_235 : decode cX10_holds 235 = .ok (.iinc 5 1, 3) := by decide +kernel
theorem dX10_holds_238 : decode cX10_holds 238 = .ok (.goto (-215), 3) := by decide +kernel
theorem dX10_holds_241 : decode cX10_holds 241 = .ok (.iload 4, 2) := by decide +kernel
theorem dX10_holds_243 : decode cX10_holds 243 = .ok (.iconst 1, 1) := by decide +kernel
theorem dX10_holds_244 : decode cX10_holds 244 = .ok (.iand, 1) := by decide +kernel
theorem dX10_holds_245 : decode cX10_holds 245 = .ok (.ifCond .eq 7, 3) := by decide +kernel
theorem dX10_holds_248 : decode cX10_holds 248 = .ok (.iconst 1, 1) := by decide +kernel
theorem dX10_holds_249 : decode cX10_holds 249 = .ok (.goto 4, 3) := by decide +kernel
theorem dX10_holds_252 : decode cX10_holds 252 = .ok (.iconst 0, 1) := by decide +kernel
theorem dX10_holds_253 : decode cX10_holds 253 = .ok (.ireturn, 1) := by decide +kernel
theorem dX10_read_0 : decode cX10_read 0 = .ok (.aload_n 0, 1) := by decide +kernel
theorem dX10_read_1 : decode cX10_read 1 = .ok (.aload_n 1, 1) := by decide +kernel
theorem dX10_read_2 : decode cX10_read 2 = .ok (.putfield 24, 3) := by decide +kernel
theorem dX10_read_5 : decode cX10_read 5 = .ok (.aload_n 0, 1) := by decide +kernel
theorem dX10_read_6 : decode cX10_read 6 = .ok (.iload_n 2, 1) := by decide +kernel
theorem dX10_read_7 : decode cX10_read 7 = .ok (.aload_n 1, 1) := by decide +kernel
theorem dX10_read_8 : decode cX10_read 8 = .ok (.arraylength, 1) := by decide +kernel
theorem dX10_read_9 : decode cX10_read 9 = .ok (.invokestatic 41, 3) := by decide +kernel
theorem dX10_read_12 : decode cX10_read 12 = .ok (.putfield 47, 3) := by decide +kernel
theorem dX10_read_15 : decode cX10_read 15 = .ok (.aload_n 0, 1) := by decide +kernel
theorem dX10_read_16 : decode cX10_read 16 = .ok (.iconst 0, 1) := by decide +kernel
theorem dX10_read_17 : decode cX10_read 17 = .ok (.putfield 28, 3) := by decide +kernel
theorem dX10_read_20 : decode cX10_read 20 = .ok (.aload_n 0, 1) := by decide +kernel
theorem dX10_read_21 : decode cX10_read 21 = .ok (.iconst 0, 1) := by decide +kernel
theorem dX10_read_22 : decode cX10_read 22 = .ok (.putfield 32, 3) := by decide +kernel
theorem dX10_read_25 : decode cX10_read 25 = .ok (.aload_n 0, 1) := by decide +kernel
theorem dX10_read_26 : decode cX10_read 26 = .ok (.iconst 0, 1) := by decide +kernel
theorem dX10_read_27 : decode cX10_read 27 = .ok (.putfield 50, 3) := by decide +kernel
theorem dX10_read_30 : decode cX10_read 30 = .ok (.aload_n 0, 1) := by decide +kernel
theorem dX10_read_31 : decode cX10_read 31 = .ok (.invokevirtual 53, 3) := by decide +kernel
theorem dX10_read_34 : decode cX10_read 34 = .ok (.iconst 0, 1) := by decide +kernel
theorem dX10_read_35 : decode cX10_read 35 = .ok (.istore_n 3, 1) := by decide +kernel
theorem dX10_read_36 : decode cX10_read 36 = .ok (.iload_n 3, 1) := by decide +kernel
theorem dX10_read_37 : decode cX10_read 37 = .ok (.bipush 8, 2) := by decide +kernel
theorem dX10_read_39 : decode cX10_read 39 = .ok (.if_icmp .gt 37, 3) := by decide +kernel
theorem dX10_read_42 : decode cX10_read 42 = .ok (.aload_n 0, 1) := by decide +kernel
theorem dX10_read_43 : decode cX10_read 43 = .ok (.getfield 56, 3) := by decide +kernel
theorem dX10_read_46 : decode cX10_read 46 = .ok (.ifCond .eq 30, 3) := by decide +kernel
theorem dX10_read_49 : decode cX10_read 49 = .ok (.aload_n 0, 1) := by decide +kernel
theorem dX10_read_50 : decode cX10_read 50 = .ok (.getfield 28, 3) := by decide +kernel
theorem dX10_read_53 : decode cX10_read 53 = .ok (.bipush 8, 2) := by decide +kernel
theorem dX10_read_55 : decode cX10_read 55 = .ok (.if_icmp .eq 10, 3) := by decide +kernel
theorem dX10_read_58 : decode cX10_read 58 = .ok (.aload_n 0, 1) := by decide +kernel
theorem dX10_read_59 : decode cX10_read 59 = .ok (.invokevirtual 59, 3) := by decide +kernel
theorem dX10_read_62 : decode cX10_read 62 = .ok (.ifCond .ne 8, 3) := by decide +kernel
theorem dX10_read_65 : decode cX10_read 65 = .ok (.aload_n 0, 1) := by decide +kernel
theorem dX10_read_66 : decode cX10_read 66 = .ok (.getfield 63, 3) := by decide +kernel
theorem dX10_read_69 : decode cX10_read 69 = .ok (.ireturn, 1) := by decide +kernel
theorem dX10_read_70 : decode cX10_read 70 = .ok (.iinc 3 1, 3) := by decide +kernel
theorem dX10_read_73 : decode cX10_read 73 = .ok (.goto (-37), 3) := by decide +kernel
theorem dX10_read_76 : decode cX10_read 76 = .ok (.iconst (-1), 1) := by decide +kernel
theorem dX10_read_77 : decode cX10_read 77 = .ok (.ireturn, 1) := by decide +kernel
theorem dX10_readRule_0 : decode cX10_readRule 0 = .ok (.aload_n 0, 1) := by decide +kernel
theorem dX10_readRule_1 : decode cX10_readRule 1 = .ok (.invokevirtual 66, 3) := by decide +kernel
theorem dX10_readRule_4 : decode cX10_readRule 4 = .ok (.istore_n 1, 1) := by decide +kernel
theorem dX10_readRule_5 : decode cX10_readRule 5 = .ok (.iload_n 1, 1) := by decide +kernel
theorem dX10_readRule_6 : decode cX10_readRule 6 = .ok (.ifCond .ge 5, 3) := by decide +kernel
theorem dX10_readRule_9 : decode cX10_readRule 9 = .ok (.iconst 0, 1) := by decide +kernel
theorem dX10_readRule_10 : decode cX10_readRule 10 = .ok (.ireturn, 1) := by decide +kernel
theorem dX10_readRule_11 : decode cX10_readRule 11 = .ok (.aload_n 0, 1) := by decide +kernel
theorem dX10_readRule_12 : decode cX10_readRule 12 = .ok (.invokevirtual 53, 3) := by decide +kernel
theorem dX10_readRule_15 : decode cX10_readRule 15 = .ok (.aload_n 0, 1) := by decide +kernel
theorem dX10_readRule_16 : decode cX10_readRule 16 = .ok (.ldc 70, 2) := by decide +kernel
theorem dX10_readRule_18 : decode cX10_readRule 18 = .ok (.invokevirtual 72, 3) := by decide +kernel
theorem dX10_readRule_21 : decode cX10_readRule 21 = .ok (.ifCond .eq 17, 3) := by decide +kernel
theorem dX10_readRule_24 : decode cX10_readRule 24 = .ok (.aload_n 0, 1) := by decide +kernel
theorem dX10_readRule_25 : decode cX10_readRule 25 = .ok (.invokevirtual 53, 3) := by decide +kernel
theorem dX10_readRule_28 : decode cX10_readRule 28 = .ok (.aload_n 0, 1) := by decide +kernel
theorem dX10_readRule_29 : decode cX10_readRule 29 = .ok (.iconst 0, 1) := by decide +kernel
theorem dX10_readRule_30 : decode cX10_readRule 30 = .ok (.invokevirtual 76, 3) := by decide +kernel
theorem dX10_readRule_33 : decode cX10_readRule 33 = .ok (.ifCond .ne 5, 3) := by decide +kernel
theorem dX10_readRule_36 : decode cX10_readRule 36 = .ok (.iconst 0, 1) := by decide +kernel
theorem dX10_readRule_37 : decode cX10_readRule 37 = .ok (.ireturn, 1) := by decide +kernel
theorem dX10_readRule_38 : decode cX10_readRule 38 = .ok (.aload_n 0, 1) := by decide +kernel
theorem dX10_readRule_39 : decode cX10_readRule 39 = .ok (.invokevirtual 80, 3) := by decide +kernel
theorem dX10_readRule_42 : decode cX10_readRule 42 = .ok (.istore_n 2, 1) := by decide +kernel
theorem dX10_readRule_43 : decode cX10_readRule 43 = .ok (.iload_n 2, 1) := by decide +kernel
theorem dX10_readRule_44 : decode cX10_readRule 44 = .ok (.ifCond .ge 5, 3) := by decide +kernel
theorem dX10_readRule_47 : decode cX10_readRule 47 = .ok (.iconst 0, 1) := by decide +kernel
theorem dX10_readRule_48 : decode cX10_readRule 48 = .ok (.ireturn, 1) := by decide +kernel
theorem dX10_readRule_49 : decode cX10_readRule 49 = .ok (.aload_n 0, 1) := by decide +kernel
theorem dX10_readRule_50 : decode cX10_readRule 50 = .ok (.invokevirtual 53, 3) := by decide +kernel
theorem dX10_readRule_53 : decode cX10_readRule 53 = .ok (.aload_n 0, 1) := by decide +kernel
theorem dX10_readRule_54 : decode cX10_readRule 54 = .ok (.bipush 59, 2) := by decide +kernel
theorem dX10_readRule_56 : decode cX10_readRule 56 = .ok (.invokevirtual 83, 3) := by decide +kernel
theorem dX10_readRule_59 : decode cX10_readRule 59 = .ok (.ifCond .ne 5, 3) := by decide +kernel
theorem dX10_readRule_62 : decode cX10_readRule 62 = .ok (.iconst 0, 1) := by decide +kernel
theorem dX10_readRule_63 : decode cX10_readRule 63 = .ok (.ireturn, 1) := by decide +kernel
theorem dX10_readRule_64 : decode cX10_readRule 64 = .ok (.aload_n 0, 1) := by decide +kernel
theorem dX10_readRule_65 : decode cX10_readRule 65 = .ok (.invokevirtual 53, 3) := by decide +kernel
theorem dX10_readRule_68 : decode cX10_readRule 68 = .ok (.aload_n 0, 1) := by decide +kernel
theorem dX10_readRule_69 : decode cX10_readRule 69 = .ok (.getfield 11, 3) := by decide +kernel
theorem dX10_readRule_72 : decode cX10_readRule 72 = .ok (.aload_n 0, 1) := by decide +kernel
theorem dX10_readRule_73 : decode cX10_readRule 73 = .ok (.getfield 28, 3) := by decide +kernel
theorem dX10_readRule_76 : decode cX10_readRule 76 = .ok (.iload_n 1, 1) := by decide +kernel
theorem dX10_readRule_77 : decode cX10_readRule 77 = .ok (.iastore, 1) := by decide +kernel
theorem dX10_readRule_78 : decode cX10_readRule 78 = .ok (.aload_n 0, 1) := by decide +kernel
theorem dX10_readRule_79 : decode cX10_readRule 79 = .ok (.getfield 15, 3) := by decide +kernel
theorem dX10_readRule_82 : decode cX10_readRule 82 = .ok (.aload_n 0, 1) := by decide +kernel
theorem dX10_readRule_83 : decode cX10_readRule 83 = .ok (.getfield 28, 3) := by decide +kernel
theorem dX10_readRule_86 : decode cX10_readRule 86 = .ok (.iload_n 2, 1) := by decide +kernel
theorem dX10_readRule_87 : decode cX10_readRule 87 = .ok (.iastore, 1) := by decide +kernel
theorem dX10_readRule_88 : decode cX10_readRule 88 = .ok (.aload_n 0, 1) := by decide +kernel
theorem dX10_readRule_89 : decode cX10_readRule 89 = .ok (.getfield 18, 3) := by decide +kernel
theorem dX10_readRule_92 : decode cX10_readRule 92 = .ok (.aload_n 0, 1) := by decide +kernel
theorem dX10_readRule_93 : decode cX10_readRule 93 = .ok (.getfield 28, 3) := by decide +kernel
theorem dX10_readRule_96 : decode cX10_readRule 96 = .ok (.aload_n 0, 1) := by decide +kernel
theorem dX10_readRule_97 : decode cX10_readRule 97 = .ok (.getfield 32, 3) := by decide +kernel
theorem dX10_readRule_100 : decode cX10_readRule 100 = .ok (.iastore, 1) := by decide +kernel
theorem dX10_readRule_101 : decode cX10_readRule 101 = .ok (.aload_n 0, 1) := by decide +kernel
theorem dX10_readRule_102 : decode cX10_readRule 102 = .ok (.dup, 1) := by decide +kernel
theorem dX10_readRule_103 : decode cX10_readRule 103 = .ok (.getfield 28, 3) := by decide +kernel
theorem dX10_readRule_106 : decode cX10_readRule 106 = .ok (.iconst 1, 1) := by decide +kernel
theorem dX10_readRule_107 : decode cX10_readRule 107 = .ok (.iadd, 1) := by decide +kernel
theorem dX10_readRule_108 : decode cX10_readRule 108 = .ok (.putfield 28, 3) := by decide +kernel
theorem dX10_readRule_111 : decode cX10_readRule 111 = .ok (.iconst 1, 1) := by decide +kernel
theorem dX10_readRule_112 : decode cX10_readRule 112 = .ok (.ireturn, 1) := by decide +kernel
theorem dX10_readCondition_0 : decode cX10_readCondition 0 = .ok (.aload_n 0, 1) := by decide +kernel
theorem dX10_readCondition_1 : decode cX10_readCondition 1 = .ok (.iload_n 1, 1) := by decide +kernel
theorem dX10_readCondition_2 : decode cX10_readCondition 2 = .ok (.invokevirtual 87, 3) := by decide +kernel
theorem dX10_readCondition_5 : decode cX10_readCondition 5 = .ok (.ifCond .ne 5, 3) := by decide +kernel
theorem dX10_readCondition_8 : decode cX10_readCondition 8 = .ok (.iconst 0, 1) := by decide +kernel
theorem dX10_readCondition_9 : decode cX10_readCondition 9 = .ok (.ireturn, 1) := by decide +kernel
theorem dX10_readCondition_10 : decode cX10_readCondition 10 = .ok (.iconst 0, 1) := by decide +kernel
theorem dX10_readCondition_11 : decode cX10_readCondition 11 = .ok (.istore_n 2, 1) := by decide +kernel
theorem dX10_readCondition_12 : decode cX10_readCondition 12 = .ok (.iload_n 2, 1) := by decide +kernel
theorem dX10_readCondition_13 : decode cX10_readCondition 13 = .ok (.sipush 200, 3) := by decide +kernel
theorem dX10_readCondition_16 : decode cX10_readCondition 16 = .ok (.if_icmp .ge 41, 3) := by decide +kernel
theorem dX10_readCondition_19 : decode cX10_readCondition 19 = .ok (.aload_n 0, 1) := by decide +kernel
theorem dX10_readCondition_20 : decode cX10_readCondition 20 = .ok (.ldc 90, 2) := by decide +kernel
theorem dX10_readCondition_22 : decode cX10_readCondition 22 = .ok (.invokevirtual 72, 3) := by decide +kernel
theorem dX10_readCondition_25 : decode cX10_readCondition 25 = .ok (.ifCond .eq 32, 3) := by decide +kernel
theorem dX10_readCondition_28 : decode cX10_readCondition 28 = .ok (.aload_n 0, 1) := by decide +kernel
theorem dX10_readCondition_29 : decode cX10_readCondition 29 = .ok (.invokevirtual 53, 3) := by decide +kernel
theorem dX10_readCondition_32 : decode cX10_readCondition 32 = .ok (.aload_n 0, 1) := by decide +kernel
theorem dX10_readCondition_33 : decode cX10_readCondition 33 = .ok (.iload_n 1, 1) := by decide +kernel
theorem dX10_readCondition_34 : decode cX10_readCondition 34 = .ok (.invokevirtual 87, 3) := by decide +kernel
theorem dX10_readCondition_37 : decode cX10_readCondition 37 = .ok (.ifCond .eq 12, 3) := by decide +kernel
theorem dX10_readCondition_40 : decode cX10_readCondition 40 = .ok (.aload_n 0, 1) := by decide +kernel
theorem dX10_readCondition_41 : decode cX10_readCondition 41 = .ok (.bipush (-3), 2) := by decide +kernel
theorem dX10_readCondition_43 : decode cX10_readCondition 43 = .ok (.invokevirtual 92, 3) := by decide +kernel
theorem dX10_readCondition_46 : decode cX10_readCondition 46 = .ok (.ifCond .ne 5, 3) := by decide +kernel
theorem dX10_readCondition_49 : decode cX10_readCondition 49 = .ok (.iconst 0, 1) := by decide +kernel
theorem dX10_readCondition_50 : decode cX10_readCondition 50 = .ok (.ireturn, 1) := by decide +kernel
theorem dX10_readCondition_51 : decode cX10_readCondition 51 = .ok (.iinc 2 1, 3) := by decide +kernel
theorem dX10_readCondition_54 : decode cX10_readCondition 54 = .ok (.goto (-42), 3) := by decide +kernel
theorem dX10_readCondition_57 : decode cX10_readCondition 57 = .ok (.iconst 1, 1) := by decide +kernel
theorem dX10_readCondition_58 : decode cX10_readCondition 58 = .ok (.ireturn, 1) := by decide +kernel
theorem dX10_readAll_0 : decode cX10_readAll 0 = .ok (.aload_n 0, 1) := by decide +kernel
theorem dX10_readAll_1 : decode cX10_readAll 1 = .ok (.iload_n 1, 1) := by decide +kernel
theorem dX10_readAll_2 : decode cX10_readAll 2 = .ok (.invokevirtual 95, 3) := by decide +kernel
theorem dX10_readAll_5 : decode cX10_readAll 5 = .ok (.ifCond .ne 5, 3) := by decide +kernel
theorem dX10_readAll_8 : decode cX10_readAll 8 = .ok (.iconst 0, 1) := by decide +kernel
theorem dX10_readAll_9 : decode cX10_readAll 9 = .ok (.ireturn, 1) := by decide +kernel
theorem dX10_readAll_10 : decode cX10_readAll 10 = .ok (.iconst 0, 1) := by decide +kernel
theorem dX10_readAll_11 : decode cX10_readAll 11 = .ok (.istore_n 2, 1) := by decide +kernel
theorem dX10_readAll_12 : decode cX10_readAll 12 = .ok (.iload_n 2, 1) := by decide +kernel
theorem dX10_readAll_13 : decode cX10_readAll 13 = .ok (.sipush 200, 3) := by decide +kernel
theorem dX10_readAll_16 : decode cX10_readAll 16 = .ok (.if_icmp .ge 41, 3) := by decide +kernel
theorem dX10_readAll_19 : decode cX10_readAll 19 = .ok (.aload_n 0, 1) := by decide +kernel
theorem dX10_readAll_20 : decode cX10_readAll 20 = .ok (.ldc 98, 2) := by decide +kernel
theorem dX10_readAll_22 : decode cX10_readAll 22 = .ok (.invokevirtual 72, 3) := by decide +kernel
theorem dX10_readAll_25 : decode cX10_readAll 25 = .ok (.ifCond .eq 32, 3) := by decide +kernel
theorem dX10_readAll_28 : decode cX10_readAll 28 = .ok (.aload_n 0, 1) := by decide +kernel
theorem dX10_readAll_29 : decode cX10_readAll 29 = .ok (.invokevirtual 53, 3) := by decide +kernel
theorem dX10_readAll_32 : decode cX10_readAll 32 = .ok (.aload_n 0, 1) := by decide +kernel
theorem dX10_readAll_33 : decode cX10_readAll 33 = .ok (.iload_n 1, 1) := by decide +kernel
theorem dX10_readAll_34 : decode cX10_readAll 34 = .ok (.invokevirtual 95, 3) := by decide +kernel
theorem dX10_readAll_37 : decode cX10_readAll 37 = .ok (.ifCond .eq 12, 3) := by decide +kernel
theorem dX10_readAll_40 : decode cX10_readAll 40 = .ok (.aload_n 0, 1) := by decide +kernel
theorem dX10_readAll_41 : decode cX10_readAll 41 = .ok (.bipush (-2), 2) := by decide +kernel
theorem dX10_readAll_43 : decode cX10_readAll 43 = .ok (.invokevirtual 92, 3) := by decide +kernel
theorem dX10_readAll_46 : decode cX10_readAll 46 = .ok (.ifCond .ne 5, 3) := by decide +kernel
theorem dX10_readAll_49 : decode cX10_readAll 49 = .ok (.iconst 0, 1) := by decide +kernel
theorem dX10_readAll_50 : decode cX10_readAll 50 = .ok (.ireturn, 1) := by decide +kernel
theorem dX10_readAll_51 : decode cX10_readAll 51 = .ok (.iinc 2 1, 3) := by decide +kernel
theorem dX10_readAll_54 : decode cX10_readAll 54 = .ok (.goto (-42), 3) := by decide +kernel
theorem dX10_readAll_57 : decode cX10_readAll 57 = .ok (.iconst 1, 1) := by decide +kernel
theorem dX10_readAll_58 : decode cX10_readAll 58 = .ok (.ireturn, 1) := by decide +kernel
theorem dX10_readOne_0 : decode cX10_readOne 0 = .ok (.iconst 0, 1) := by decide +kernel
theorem dX10_readOne_1 : decode cX10_readOne 1 = .ok (.istore_n 2, 1) := by decide +kernel
theorem dX10_readOne_2 : decode cX10_readOne 2 = .ok (.iconst 0, 1) := by decide +kernel
theorem dX10_readOne_3 : decode cX10_readOne 3 = .ok (.istore_n 3, 1) := by decide +kernel
theorem dX10_readOne_4 : decode cX10_readOne 4 = .ok (.iload_n 3, 1) := by decide +kernel
theorem dX10_readOne_5 : decode cX10_readOne 5 = .ok (.sipush 200, 3) := by decide +kernel
theorem dX10_readOne_8 : decode cX10_readOne 8 = .ok (.if_icmp .ge 32, 3) := by decide +kernel
theorem dX10_readOne_11 : decode cX10_readOne 11 = .ok (.aload_n 0, 1) := by decide +kernel
theorem dX10_readOne_12 : decode cX10_readOne 12 = .ok (.ldc 100, 2) := by decide +kernel
theorem dX10_readOne_14 : decode cX10_readOne 14 = .ok (.invokevirtual 72, 3) := by decide +kernel
theorem dX10_readOne_17 : decode cX10_readOne 17 = .ok (.ifCond .eq 23, 3) := by decide +kernel
theorem dX10_readOne_20 : decode cX10_readOne 20 = .ok (.iload_n 2, 1) := by decide +kernel
theorem dX10_readOne_21 : decode cX10_readOne 21 = .ok (.ifCond .ne 7, 3) := by decide +kernel
theorem dX10_readOne_24 : decode cX10_readOne 24 = .ok (.iconst 1, 1) := by decide +kernel
theorem dX10_readOne_25 : decode cX10_readOne 25 = .ok (.goto 4, 3) := by decide +kernel
theorem dX10_readOne_28 : decode cX10_readOne 28 = .ok (.iconst 0, 1) := by decide +kernel
theorem dX10_readOne_29 : decode cX10_readOne 29 = .ok (.istore_n 2, 1) := by decide +kernel
theorem dX10_readOne_30 : decode cX10_readOne 30 = .ok (.aload_n 0, 1) := by decide +kernel
theorem dX10_readOne_31 : decode cX10_readOne 31 = .ok (.invokevirtual 53, 3) := by decide +kernel
theorem dX10_readOne_34 : decode cX10_readOne 34 = .ok (.iinc 3 1, 3) := by decide +kernel
theorem dX10_readOne_37 : decode cX10_readOne 37 = .ok (.goto (-33), 3) := by decide +kernel
theorem dX10_readOne_40 : decode cX10_readOne 40 = .ok (.aload_n 0, 1) := by decide +kernel
theorem dX10_readOne_41 : decode cX10_readOne 41 = .ok (.bipush 40, 2) := by decide +kernel
theorem dX10_readOne_43 : decode cX10_readOne 43 = .ok (.invokevirtual 83, 3) := by decide +kernel
theorem dX10_readOne_46 : decode cX10_readOne 46 = .ok (.ifCond .eq 42, 3) := by decide +kernel
theorem dX10_readOne_49 : decode cX10_readOne 49 = .ok (.iload_n 1, 1) := by decide +kernel
theorem dX10_readOne_50 : decode cX10_readOne 50 = .ok (.iconst 3, 1) := by decide +kernel
theorem dX10_readOne_51 : decode cX10_readOne 51 = .ok (.if_icmp .lt 5, 3) := by decide +kernel
theorem dX10_readOne_54 : decode cX10_readOne 54 = .ok (.iconst 0, 1) := by decide +kernel
theorem dX10_readOne_55 : decode cX10_readOne 55 = .ok (.ireturn, 1) := by decide +kernel
theorem dX10_readOne_56 : decode cX10_readOne 56 = .ok (.aload_n 0, 1) := by decide +kernel
theorem dX10_readOne_57 : decode cX10_readOne 57 = .ok (.invokevirtual 53, 3) := by decide +kernel
theorem dX10_readOne_60 : decode cX10_readOne 60 = .ok (.aload_n 0, 1) := by decide +kernel
theorem dX10_readOne_61 : decode cX10_readOne 61 = .ok (.iload_n 1, 1) := by decide +kernel
theorem dX10_readOne_62 : decode cX10_readOne 62 = .ok (.iconst 1, 1) := by decide +kernel
theorem dX10_readOne_63 : decode cX10_readOne 63 = .ok (.iadd, 1) := by decide +kernel
theorem dX10_readOne_64 : decode cX10_readOne 64 = .ok (.invokevirtual 76, 3) := by decide +kernel
theorem dX10_readOne_67 : decode cX10_readOne 67 = .ok (.ifCond .eq 12, 3) := by decide +kernel
theorem dX10_readOne_70 : decode cX10_readOne 70 = .ok (.aload_n 0, 1) := by decide +kernel
theorem dX10_readOne_71 : decode cX10_readOne 71 = .ok (.bipush 41, 2) := by decide +kernel
theorem dX10_readOne_73 : decode cX10_readOne 73 = .ok (.invokevirtual 83, 3) := by decide +kernel
theorem dX10_readOne_76 : decode cX10_readOne 76 = .ok (.ifCond .ne 5, 3) := by decide +kernel
theorem dX10_readOne_79 : decode cX10_readOne 79 = .ok (.iconst 0, 1) := by decide +kernel
theorem dX10_readOne_80 : decode cX10_readOne 80 = .ok (.ireturn, 1) := by decide +kernel
theorem dX10_readOne_81 : decode cX10_readOne 81 = .ok (.aload_n 0, 1) := by decide +kernel
theorem dX10_readOne_82 : decode cX10_readOne 82 = .ok (.invokevirtual 53, 3) := by decide +kernel
theorem dX10_readOne_85 : decode cX10_readOne 85 = .ok (.goto 108, 3) := by decide +kernel
theorem dX10_readOne_88 : decode cX10_readOne 88 = .ok (.aload_n 0, 1) := by decide +kernel
theorem dX10_readOne_89 : decode cX10_readOne 89 = .ok (.invokevirtual 102, 3) := by decide +kernel
theorem dX10_readOne_92 : decode cX10_readOne 92 = .ok (.istore_n 3, 1) := by decide +kernel
theorem dX10_readOne_93 : decode cX10_readOne 93 = .ok (.iload_n 3, 1) := by decide +kernel
theorem dX10_readOne_94 : decode cX10_readOne 94 = .ok (.ifCond .ge 5, 3) := by decide +kernel
theorem dX10_readOne_97 : decode cX10_readOne 97 = .ok (.iconst 0, 1) := by decide +kernel
theorem dX10_readOne_98 : decode cX10_readOne 98 = .ok (.ireturn, 1) := by decide +kernel
theorem dX10_readOne_99 : decode cX10_readOne 99 = .ok (.aload_n 0, 1) := by decide +kernel
theorem dX10_readOne_100 : decode cX10_readOne 100 = .ok (.invokevirtual 53, 3) := by decide +kernel
theorem dX10_readOne_103 : decode cX10_readOne 103 = .ok (.aload_n 0, 1) := by decide +kernel
theorem dX10_readOne_104 : decode cX10_readOne 104 = .ok (.bipush 60, 2) := by decide +kernel
theorem dX10_readOne_106 : decode cX10_readOne 106 = .ok (.invokevirtual 83, 3) := by decide +kernel
theorem dX10_readOne_109 : decode cX10_readOne 109 = .ok (.ifCond .eq 7, 3) := by decide +kernel
theorem dX10_readOne_112 : decode cX10_readOne 112 = .ok (.iconst 0, 1) := by decide +kernel
theorem dX10_readOne_113 : decode cX10_readOne 113 = .ok (.goto 30, 3) := by decide +kernel
theorem dX10_readOne_116 : decode cX10_readOne 116 = .ok (.aload_n 0, 1) := by decide +kernel
theorem dX10_readOne_117 : decode cX10_readOne 117 = .ok (.bipush 61, 2) := by decide +kernel
theorem dX10_readOne_119 : decode cX10_readOne 119 = .ok (.invokevirtual 83, 3) := by decide +kernel
theorem dX10_readOne_122 : decode cX10_readOne 122 = .ok (.ifCond .eq 7, 3) := by decide +kernel
theorem dX10_readOne_125 : decode cX10_readOne 125 = .ok (.iconst 1, 1) := by decide +kernel
theorem dX10_readOne_126 : decode cX10_readOne 126 = .ok (.goto 17, 3) := by decide +kernel
theorem dX10_readOne_129 : decode cX10_readOne 129 = .ok (.aload_n 0, 1) := by decide +kernel
theorem dX10_readOne_130 : decode cX10_readOne 130 = .ok (.bipush 62, 2) := by decide +kernel
theorem dX10_readOne_132 : decode cX10_readOne 132 = .ok (.invokevirtual 83, 3) := by decide +kernel
theorem dX10_readOne_135 : decode cX10_readOne 135 = .ok (.ifCond .eq 7, 3) := by decide +kernel
theorem dX10_readOne_138 : decode cX10_readOne 138 = .ok (.iconst 2, 1) := by decide +kernel
theorem dX10_readOne_139 : decode cX10_readOne 139 = .ok (.goto 4, 3) := by decide +kernel
theorem dX10_readOne_142 : decode cX10_readOne 142 = .ok (.iconst (-1), 1) := by decide +kernel
theorem dX10_readOne_143 : decode cX10_readOne 143 = .ok (.istore 4, 2) := by decide +kernel
theorem dX10_readOne_145 : decode cX10_readOne 145 = .ok (.iload 4, 2) := by decide +kernel
theorem dX10_readOne_147 : decode cX10_readOne 147 = .ok (.ifCond .ge 5, 3) := by decide +kernel
theorem dX10_readOne_150 : decode cX10_readOne 150 = .ok (.iconst 0, 1) := by decide +kernel
theorem dX10_readOne_151 : decode cX10_readOne 151 = .ok (.ireturn, 1) := by decide +kernel
theorem dX10_readOne_152 : decode cX10_readOne 152 = .ok (.aload_n 0, 1) := by decide +kernel
theorem dX10_readOne_153 : decode cX10_readOne 153 = .ok (.invokevirtual 53, 3) := by decide +kernel
theorem dX10_readOne_156 : decode cX10_readOne 156 = .ok (.aload_n 0, 1) := by decide +kernel
theorem dX10_readOne_157 : decode cX10_readOne 157 = .ok (.invokevirtual 102, 3) := by decide +kernel
theorem dX10_readOne_160 : decode cX10_readOne 160 = .ok (.istore 5, 2) := by decide +kernel
theorem dX10_readOne_162 : decode cX10_readOne 162 = .ok (.iload 5, 2) := by decide +kernel
theorem dX10_readOne_164 : decode cX10_readOne 164 = .ok (.ifCond .lt 23, 3) := by decide +kernel
theorem dX10_readOne_167 : decode cX10_readOne 167 = .ok (.aload_n 0, 1) := by decide +kernel
theorem dX10_readOne_168 : decode cX10_readOne 168 = .ok (.iload_n 3, 1) := by decide +kernel
theorem dX10_readOne_169 : decode cX10_readOne 169 = .ok (.iload 5, 2) := by decide +kernel
theorem dX10_readOne_171 : decode cX10_readOne 171 = .ok (.bipush 14, 2) := by decide +kernel
theorem dX10_readOne_173 : decode cX10_readOne 173 = .ok (.ishl, 1) := by decide +kernel
theorem dX10_readOne_174 : decode cX10_readOne 174 = .ok (.ior, 1) := by decide +kernel
theorem dX10_readOne_175 : decode cX10_readOne 175 = .ok (.iload 4, 2) := by decide +kernel
theorem dX10_readOne_177 : decode cX10_readOne 177 = .ok (.bipush 28, 2) := by decide +kernel
theorem dX10_readOne_179 : decode cX10_readOne 179 = .ok (.ishl, 1) := by decide +kernel
theorem dX10_readOne_180 : decode cX10_readOne 180 = .ok (.ior, 1) := by decide +kernel
theorem dX10_readOne_181 : decode cX10_readOne 181 = .ok (.invokevirtual 92, 3) := by decide +kernel
theorem dX10_readOne_184 : decode cX10_readOne 184 = .ok (.ifCond .ne 5, 3) := by decide +kernel
theorem dX10_readOne_187 : decode cX10_readOne 187 = .ok (.iconst 0, 1) := by decide +kernel
theorem dX10_readOne_188 : decode cX10_readOne 188 = .ok (.ireturn, 1) := by decide +kernel
theorem dX10_readOne_189 : decode cX10_readOne 189 = .ok (.aload_n 0, 1) := by decide +kernel
theorem dX10_readOne_190 : decode cX10_readOne 190 = .ok (.invokevirtual 53, 3) := by decide +kernel
theorem dX10_readOne_193 : decode cX10_readOne 193 = .ok (.iload_n 2, 1) := by decide +kernel
theorem dX10_readOne_194 : decode cX10_readOne 194 = .ok (.ifCond .eq 11, 3) := by decide +kernel
theorem dX10_readOne_197 : decode cX10_readOne 197 = .ok (.aload_n 0, 1) := by decide +kernel
theorem dX10_readOne_198 : decode cX10_readOne 198 = .ok (.iconst (-1), 1) := by decide +kernel
theorem dX10_readOne_199 : decode cX10_readOne 199 = .ok (.invokevirtual 92, 3) := by decide +kernel
theorem dX10_readOne_202 : decode cX10_readOne 202 = .ok (.ifCond .eq 7, 3) := by decide +kernel
theorem dX10_readOne_205 : decode cX10_readOne 205 = .ok (.iconst 1, 1) := by decide +kernel
