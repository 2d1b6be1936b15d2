theorem dX10_readOne_206 : decode cX10_readOne 206 = .ok (.goto 4, 3) := by decide +kernel
theorem dX10_readOne_209 : decode cX10_readOne 209 = .ok (.iconst 0, 1) := by decide +kernel
theorem dX10_readOne_210 : decode cX10_readOne 210 = .ok (.ireturn, 1) := by decide +kernel
theorem dX10_emit_0 : decode cX10_emit 0 = .ok (.aload_n 0, 1) := by decide +kernel
theorem dX10_emit_1 : decode cX10_emit 1 = .ok (.getfield 32, 3) := by decide +kernel
theorem dX10_emit_4 : decode cX10_emit 4 = .ok (.aload_n 0, 1) := by decide +kernel
theorem dX10_emit_5 : decode cX10_emit 5 = .ok (.getfield 21, 3) := by decide +kernel
theorem dX10_emit_8 : decode cX10_emit 8 = .ok (.arraylength, 1) := by decide +kernel
theorem dX10_emit_9 : decode cX10_emit 9 = .ok (.if_icmp .lt 5, 3) := by decide +kernel
theorem dX10_emit_12 : decode cX10_emit 12 = .ok (.iconst 0, 1) := by decide +kernel
theorem dX10_emit_13 : decode cX10_emit 13 = .ok (.ireturn, 1) := by decide +kernel
theorem dX10_emit_14 : decode cX10_emit 14 = .ok (.aload_n 0, 1) := by decide +kernel
theorem dX10_emit_15 : decode cX10_emit 15 = .ok (.getfield 21, 3) := by decide +kernel
theorem dX10_emit_18 : decode cX10_emit 18 = .ok (.aload_n 0, 1) := by decide +kernel
theorem dX10_emit_19 : decode cX10_emit 19 = .ok (.getfield 32, 3) := by decide +kernel
theorem dX10_emit_22 : decode cX10_emit 22 = .ok (.iload_n 1, 1) := by decide +kernel
theorem dX10_emit_23 : decode cX10_emit 23 = .ok (.iastore, 1) := by decide +kernel
theorem dX10_emit_24 : decode cX10_emit 24 = .ok (.aload_n 0, 1) := by decide +kernel
theorem dX10_emit_25 : decode cX10_emit 25 = .ok (.dup, 1) := by decide +kernel
theorem dX10_emit_26 : decode cX10_emit 26 = .ok (.getfield 32, 3) := by decide +kernel
theorem dX10_emit_29 : decode cX10_emit 29 = .ok (.iconst 1, 1) := by decide +kernel
theorem dX10_emit_30 : decode cX10_emit 30 = .ok (.iadd, 1) := by decide +kernel
theorem dX10_emit_31 : decode cX10_emit 31 = .ok (.putfield 32, 3) := by decide +kernel
theorem dX10_emit_34 : decode cX10_emit 34 = .ok (.iconst 1, 1) := by decide +kernel
theorem dX10_emit_35 : decode cX10_emit 35 = .ok (.ireturn, 1) := by decide +kernel
theorem dX10_valueRead_0 : decode cX10_valueRead 0 = .ok (.aload_n 0, 1) := by decide +kernel
theorem dX10_valueRead_1 : decode cX10_valueRead 1 = .ok (.getfield 56, 3) := by decide +kernel
theorem dX10_valueRead_4 : decode cX10_valueRead 4 = .ok (.iconst 2, 1) := by decide +kernel
theorem dX10_valueRead_5 : decode cX10_valueRead 5 = .ok (.if_icmp .ne 54, 3) := by decide +kernel
theorem dX10_valueRead_8 : decode cX10_valueRead 8 = .ok (.aload_n 0, 1) := by decide +kernel
theorem dX10_valueRead_9 : decode cX10_valueRead 9 = .ok (.getfield 50, 3) := by decide +kernel
theorem dX10_valueRead_12 : decode cX10_valueRead 12 = .ok (.aload_n 0, 1) := by decide +kernel
theorem dX10_valueRead_13 : decode cX10_valueRead 13 = .ok (.getfield 63, 3) := by decide +kernel
theorem dX10_valueRead_16 : decode cX10_valueRead 16 = .ok (.isub, 1) := by decide +kernel
theorem dX10_valueRead_17 : decode cX10_valueRead 17 = .ok (.iconst 4, 1) := by decide +kernel
theorem dX10_valueRead_18 : decode cX10_valueRead 18 = .ok (.if_icmp .gt 41, 3) := by decide +kernel
theorem dX10_valueRead_21 : decode cX10_valueRead 21 = .ok (.iconst 0, 1) := by decide +kernel
theorem dX10_valueRead_22 : decode cX10_valueRead 22 = .ok (.istore_n 1, 1) := by decide +kernel
theorem dX10_valueRead_23 : decode cX10_valueRead 23 = .ok (.aload_n 0, 1) := by decide +kernel
theorem dX10_valueRead_24 : decode cX10_valueRead 24 = .ok (.getfield 63, 3) := by decide +kernel
theorem dX10_valueRead_27 : decode cX10_valueRead 27 = .ok (.istore_n 2, 1) := by decide +kernel
theorem dX10_valueRead_28 : decode cX10_valueRead 28 = .ok (.iload_n 2, 1) := by decide +kernel
theorem dX10_valueRead_29 : decode cX10_valueRead 29 = .ok (.aload_n 0, 1) := by decide +kernel
theorem dX10_valueRead_30 : decode cX10_valueRead 30 = .ok (.getfield 50, 3) := by decide +kernel
theorem dX10_valueRead_33 : decode cX10_valueRead 33 = .ok (.if_icmp .ge 24, 3) := by decide +kernel
theorem dX10_valueRead_36 : decode cX10_valueRead 36 = .ok (.iload_n 1, 1) := by decide +kernel
theorem dX10_valueRead_37 : decode cX10_valueRead 37 = .ok (.bipush 10, 2) := by decide +kernel
theorem dX10_valueRead_39 : decode cX10_valueRead 39 = .ok (.imul, 1) := by decide +kernel
theorem dX10_valueRead_40 : decode cX10_valueRead 40 = .ok (.aload_n 0, 1) := by decide +kernel
theorem dX10_valueRead_41 : decode cX10_valueRead 41 = .ok (.getfield 24, 3) := by decide +kernel
theorem dX10_valueRead_44 : decode cX10_valueRead 44 = .ok (.iload_n 2, 1) := by decide +kernel
theorem dX10_valueRead_45 : decode cX10_valueRead 45 = .ok (.baload, 1) := by decide +kernel
theorem dX10_valueRead_46 : decode cX10_valueRead 46 = .ok (.iadd, 1) := by decide +kernel
theorem dX10_valueRead_47 : decode cX10_valueRead 47 = .ok (.bipush 48, 2) := by decide +kernel
theorem dX10_valueRead_49 : decode cX10_valueRead 49 = .ok (.isub, 1) := by decide +kernel
theorem dX10_valueRead_50 : decode cX10_valueRead 50 = .ok (.istore_n 1, 1) := by decide +kernel
theorem dX10_valueRead_51 : decode cX10_valueRead 51 = .ok (.iinc 2 1, 3) := by decide +kernel
theorem dX10_valueRead_54 : decode cX10_valueRead 54 = .ok (.goto (-26), 3) := by decide +kernel
theorem dX10_valueRead_57 : decode cX10_valueRead 57 = .ok (.iload_n 1, 1) := by decide +kernel
theorem dX10_valueRead_58 : decode cX10_valueRead 58 = .ok (.ireturn, 1) := by decide +kernel
theorem dX10_valueRead_59 : decode cX10_valueRead 59 = .ok (.aload_n 0, 1) := by decide +kernel
theorem dX10_valueRead_60 : decode cX10_valueRead 60 = .ok (.ldc 105, 2) := by decide +kernel
theorem dX10_valueRead_62 : decode cX10_valueRead 62 = .ok (.invokevirtual 72, 3) := by decide +kernel
theorem dX10_valueRead_65 : decode cX10_valueRead 65 = .ok (.ifCond .eq 7, 3) := by decide +kernel
theorem dX10_valueRead_68 : decode cX10_valueRead 68 = .ok (.sipush 10000, 3) := by decide +kernel
theorem dX10_valueRead_71 : decode cX10_valueRead 71 = .ok (.ireturn, 1) := by decide +kernel
theorem dX10_valueRead_72 : decode cX10_valueRead 72 = .ok (.aload_n 0, 1) := by decide +kernel
theorem dX10_valueRead_73 : decode cX10_valueRead 73 = .ok (.ldc 107, 2) := by decide +kernel
theorem dX10_valueRead_75 : decode cX10_valueRead 75 = .ok (.invokevirtual 72, 3) := by decide +kernel
theorem dX10_valueRead_78 : decode cX10_valueRead 78 = .ok (.ifCond .eq 7, 3) := by decide +kernel
theorem dX10_valueRead_81 : decode cX10_valueRead 81 = .ok (.sipush 10001, 3) := by decide +kernel
theorem dX10_valueRead_84 : decode cX10_valueRead 84 = .ok (.ireturn, 1) := by decide +kernel
theorem dX10_valueRead_85 : decode cX10_valueRead 85 = .ok (.aload_n 0, 1) := by decide +kernel
theorem dX10_valueRead_86 : decode cX10_valueRead 86 = .ok (.ldc 109, 2) := by decide +kernel
theorem dX10_valueRead_88 : decode cX10_valueRead 88 = .ok (.invokevirtual 72, 3) := by decide +kernel
theorem dX10_valueRead_91 : decode cX10_valueRead 91 = .ok (.ifCond .eq 7, 3) := by decide +kernel
theorem dX10_valueRead_94 : decode cX10_valueRead 94 = .ok (.sipush 10002, 3) := by decide +kernel
theorem dX10_valueRead_97 : decode cX10_valueRead 97 = .ok (.ireturn, 1) := by decide +kernel
theorem dX10_valueRead_98 : decode cX10_valueRead 98 = .ok (.aload_n 0, 1) := by decide +kernel
theorem dX10_valueRead_99 : decode cX10_valueRead 99 = .ok (.ldc 111, 2) := by decide +kernel
theorem dX10_valueRead_101 : decode cX10_valueRead 101 = .ok (.invokevirtual 72, 3) := by decide +kernel
theorem dX10_valueRead_104 : decode cX10_valueRead 104 = .ok (.ifCond .eq 7, 3) := by decide +kernel
theorem dX10_valueRead_107 : decode cX10_valueRead 107 = .ok (.sipush 10003, 3) := by decide +kernel
theorem dX10_valueRead_110 : decode cX10_valueRead 110 = .ok (.ireturn, 1) := by decide +kernel
theorem dX10_valueRead_111 : decode cX10_valueRead 111 = .ok (.aload_n 0, 1) := by decide +kernel
theorem dX10_valueRead_112 : decode cX10_valueRead 112 = .ok (.ldc 113, 2) := by decide +kernel
theorem dX10_valueRead_114 : decode cX10_valueRead 114 = .ok (.invokevirtual 72, 3) := by decide +kernel
theorem dX10_valueRead_117 : decode cX10_valueRead 117 = .ok (.ifCond .eq 9, 3) := by decide +kernel
theorem dX10_valueRead_120 : decode cX10_valueRead 120 = .ok (.sipush 10004, 3) := by decide +kernel
theorem dX10_valueRead_123 : decode cX10_valueRead 123 = .ok (.goto 4, 3) := by decide +kernel
theorem dX10_valueRead_126 : decode cX10_valueRead 126 = .ok (.iconst (-1), 1) := by decide +kernel
theorem dX10_valueRead_127 : decode cX10_valueRead 127 = .ok (.ireturn, 1) := by decide +kernel
theorem dX10_kindNamed_0 : decode cX10_kindNamed 0 = .ok (.aload_n 0, 1) := by decide +kernel
theorem dX10_kindNamed_1 : decode cX10_kindNamed 1 = .ok (.ldc 115, 2) := by decide +kernel
theorem dX10_kindNamed_3 : decode cX10_kindNamed 3 = .ok (.invokevirtual 72, 3) := by decide +kernel
theorem dX10_kindNamed_6 : decode cX10_kindNamed 6 = .ok (.ifCond .eq 5, 3) := by decide +kernel
theorem dX10_kindNamed_9 : decode cX10_kindNamed 9 = .ok (.iconst 0, 1) := by decide +kernel
theorem dX10_kindNamed_10 : decode cX10_kindNamed 10 = .ok (.ireturn, 1) := by decide +kernel
theorem dX10_kindNamed_11 : decode cX10_kindNamed 11 = .ok (.aload_n 0, 1) := by decide +kernel
theorem dX10_kindNamed_12 : decode cX10_kindNamed 12 = .ok (.ldc 117, 2) := by decide +kernel
theorem dX10_kindNamed_14 : decode cX10_kindNamed 14 = .ok (.invokevirtual 72, 3) := by decide +kernel
theorem dX10_kindNamed_17 : decode cX10_kindNamed 17 = .ok (.ifCond .eq 5, 3) := by decide +kernel
theorem dX10_kindNamed_20 : decode cX10_kindNamed 20 = .ok (.iconst 1, 1) := by decide +kernel
theorem dX10_kindNamed_21 : decode cX10_kindNamed 21 = .ok (.ireturn, 1) := by decide +kernel
theorem dX10_kindNamed_22 : decode cX10_kindNamed 22 = .ok (.aload_n 0, 1) := by decide +kernel
theorem dX10_kindNamed_23 : decode cX10_kindNamed 23 = .ok (.ldc 119, 2) := by decide +kernel
theorem dX10_kindNamed_25 : decode cX10_kindNamed 25 = .ok (.invokevirtual 72, 3) := by decide +kernel
theorem dX10_kindNamed_28 : decode cX10_kindNamed 28 = .ok (.ifCond .eq 5, 3) := by decide +kernel
theorem dX10_kindNamed_31 : decode cX10_kindNamed 31 = .ok (.iconst 2, 1) := by decide +kernel
theorem dX10_kindNamed_32 : decode cX10_kindNamed 32 = .ok (.ireturn, 1) := by decide +kernel
theorem dX10_kindNamed_33 : decode cX10_kindNamed 33 = .ok (.aload_n 0, 1) := by decide +kernel
theorem dX10_kindNamed_34 : decode cX10_kindNamed 34 = .ok (.ldc 121, 2) := by decide +kernel
theorem dX10_kindNamed_36 : decode cX10_kindNamed 36 = .ok (.invokevirtual 72, 3) := by decide +kernel
theorem dX10_kindNamed_39 : decode cX10_kindNamed 39 = .ok (.ifCond .eq 5, 3) := by decide +kernel
theorem dX10_kindNamed_42 : decode cX10_kindNamed 42 = .ok (.iconst 3, 1) := by decide +kernel
theorem dX10_kindNamed_43 : decode cX10_kindNamed 43 = .ok (.ireturn, 1) := by decide +kernel
theorem dX10_kindNamed_44 : decode cX10_kindNamed 44 = .ok (.aload_n 0, 1) := by decide +kernel
theorem dX10_kindNamed_45 : decode cX10_kindNamed 45 = .ok (.ldc 123, 2) := by decide +kernel
theorem dX10_kindNamed_47 : decode cX10_kindNamed 47 = .ok (.invokevirtual 72, 3) := by decide +kernel
theorem dX10_kindNamed_50 : decode cX10_kindNamed 50 = .ok (.ifCond .eq 5, 3) := by decide +kernel
theorem dX10_kindNamed_53 : decode cX10_kindNamed 53 = .ok (.iconst 4, 1) := by decide +kernel
theorem dX10_kindNamed_54 : decode cX10_kindNamed 54 = .ok (.ireturn, 1) := by decide +kernel
theorem dX10_kindNamed_55 : decode cX10_kindNamed 55 = .ok (.aload_n 0, 1) := by decide +kernel
theorem dX10_kindNamed_56 : decode cX10_kindNamed 56 = .ok (.ldc 125, 2) := by decide +kernel
theorem dX10_kindNamed_58 : decode cX10_kindNamed 58 = .ok (.invokevirtual 72, 3) := by decide +kernel
theorem dX10_kindNamed_61 : decode cX10_kindNamed 61 = .ok (.ifCond .eq 7, 3) := by decide +kernel
theorem dX10_kindNamed_64 : decode cX10_kindNamed 64 = .ok (.iconst 5, 1) := by decide +kernel
theorem dX10_kindNamed_65 : decode cX10_kindNamed 65 = .ok (.goto 4, 3) := by decide +kernel
theorem dX10_kindNamed_68 : decode cX10_kindNamed 68 = .ok (.iconst (-1), 1) := by decide +kernel
theorem dX10_kindNamed_69 : decode cX10_kindNamed 69 = .ok (.ireturn, 1) := by decide +kernel
theorem dX10_deedNamed_0 : decode cX10_deedNamed 0 = .ok (.aload_n 0, 1) := by decide +kernel
theorem dX10_deedNamed_1 : decode cX10_deedNamed 1 = .ok (.ldc 127, 2) := by decide +kernel
theorem dX10_deedNamed_3 : decode cX10_deedNamed 3 = .ok (.invokevirtual 72, 3) := by decide +kernel
theorem dX10_deedNamed_6 : decode cX10_deedNamed 6 = .ok (.ifCond .eq 5, 3) := by decide +kernel
theorem dX10_deedNamed_9 : decode cX10_deedNamed 9 = .ok (.iconst 0, 1) := by decide +kernel
theorem dX10_deedNamed_10 : decode cX10_deedNamed 10 = .ok (.ireturn, 1) := by decide +kernel
theorem dX10_deedNamed_11 : decode cX10_deedNamed 11 = .ok (.aload_n 0, 1) := by decide +kernel
theorem dX10_deedNamed_12 : decode cX10_deedNamed 12 = .ok (.ldc 129, 2) := by decide +kernel
theorem dX10_deedNamed_14 : decode cX10_deedNamed 14 = .ok (.invokevirtual 72, 3) := by decide +kernel
theorem dX10_deedNamed_17 : decode cX10_deedNamed 17 = .ok (.ifCond .eq 5, 3) := by decide +kernel
theorem dX10_deedNamed_20 : decode cX10_deedNamed 20 = .ok (.iconst 1, 1) := by decide +kernel
theorem dX10_deedNamed_21 : decode cX10_deedNamed 21 = .ok (.ireturn, 1) := by decide +kernel
theorem dX10_deedNamed_22 : decode cX10_deedNamed 22 = .ok (.aload_n 0, 1) := by decide +kernel
theorem dX10_deedNamed_23 : decode cX10_deedNamed 23 = .ok (.ldc 131, 2) := by decide +kernel
theorem dX10_deedNamed_25 : decode cX10_deedNamed 25 = .ok (.invokevirtual 72, 3) := by decide +kernel
theorem dX10_deedNamed_28 : decode cX10_deedNamed 28 = .ok (.ifCond .eq 7, 3) := by decide +kernel
theorem dX10_deedNamed_31 : decode cX10_deedNamed 31 = .ok (.iconst 2, 1) := by decide +kernel
theorem dX10_deedNamed_32 : decode cX10_deedNamed 32 = .ok (.goto 4, 3) := by decide +kernel
theorem dX10_deedNamed_35 : decode cX10_deedNamed 35 = .ok (.iconst (-1), 1) := by decide +kernel
theorem dX10_deedNamed_36 : decode cX10_deedNamed 36 = .ok (.ireturn, 1) := by decide +kernel
theorem dX10_isNamed_0 : decode cX10_isNamed 0 = .ok (.aload_n 0, 1) := by decide +kernel
theorem dX10_isNamed_1 : decode cX10_isNamed 1 = .ok (.getfield 56, 3) := by decide +kernel
theorem dX10_isNamed_4 : decode cX10_isNamed 4 = .ok (.iconst 1, 1) := by decide +kernel
theorem dX10_isNamed_5 : decode cX10_isNamed 5 = .ok (.if_icmp .ne 19, 3) := by decide +kernel
theorem dX10_isNamed_8 : decode cX10_isNamed 8 = .ok (.aload_n 0, 1) := by decide +kernel
theorem dX10_isNamed_9 : decode cX10_isNamed 9 = .ok (.getfield 50, 3) := by decide +kernel
theorem dX10_isNamed_12 : decode cX10_isNamed 12 = .ok (.aload_n 0, 1) := by decide +kernel
theorem dX10_isNamed_13 : decode cX10_isNamed 13 = .ok (.getfield 63, 3) := by decide +kernel
theorem dX10_isNamed_16 : decode cX10_isNamed 16 = .ok (.isub, 1) := by decide +kernel
theorem dX10_isNamed_17 : decode cX10_isNamed 17 = .ok (.aload_n 1, 1) := by decide +kernel
theorem dX10_isNamed_18 : decode cX10_isNamed 18 = .ok (.invokevirtual 133, 3) := by decide +kernel
theorem dX10_isNamed_21 : decode cX10_isNamed 21 = .ok (.if_icmp .eq 5, 3) := by decide +kernel
theorem dX10_isNamed_24 : decode cX10_isNamed 24 = .ok (.iconst 0, 1) := by decide +kernel
theorem dX10_isNamed_25 : decode cX10_isNamed 25 = .ok (.ireturn, 1) := by decide +kernel
theorem dX10_isNamed_26 : decode cX10_isNamed 26 = .ok (.iconst 0, 1) := by decide +kernel
theorem dX10_isNamed_27 : decode cX10_isNamed 27 = .ok (.istore_n 2, 1) := by decide +kernel
theorem dX10_isNamed_28 : decode cX10_isNamed 28 = .ok (.iload_n 2, 1) := by decide +kernel
theorem dX10_isNamed_29 : decode cX10_isNamed 29 = .ok (.aload_n 1, 1) := by decide +kernel
theorem dX10_isNamed_30 : decode cX10_isNamed 30 = .ok (.invokevirtual 133, 3) := by decide +kernel
theorem dX10_isNamed_33 : decode cX10_isNamed 33 = .ok (.if_icmp .ge 30, 3) := by decide +kernel
theorem dX10_isNamed_36 : decode cX10_isNamed 36 = .ok (.aload_n 0, 1) := by decide +kernel
theorem dX10_isNamed_37 : decode cX10_isNamed 37 = .ok (.getfield 24, 3) := by decide +kernel
theorem dX10_isNamed_40 : decode cX10_isNamed 40 = .ok (.aload_n 0, 1) := by decide +kernel
theorem dX10_isNamed_41 : decode cX10_isNamed 41 = .ok (.getfield 63, 3) := by decide +kernel
theorem dX10_isNamed_44 : decode cX10_isNamed 44 = .ok (.iload_n 2, 1) := by decide +kernel
theorem dX10_isNamed_45 : decode cX10_isNamed 45 = .ok (.iadd, 1) := by decide +kernel
theorem dX10_isNamed_46 : decode cX10_isNamed 46 = .ok (.baload, 1) := by decide +kernel
theorem dX10_isNamed_47 : decode cX10_isNamed 47 = .ok (.aload_n 1, 1) := by decide +kernel
theorem dX10_isNamed_48 : decode cX10_isNamed 48 = .ok (.iload_n 2, 1) := by decide +kernel
theorem dX10_isNamed_49 : decode cX10_isNamed 49 = .ok (.invokevirtual 137, 3) := by decide +kernel
theorem dX10_isNamed_52 : decode cX10_isNamed 52 = .ok (.if_icmp .eq 5, 3) := by decide +kernel
theorem dX10_isNamed_55 : decode cX10_isNamed 55 = .ok (.iconst 0, 1) := by decide +kernel
theorem dX10_isNamed_56 : decode cX10_isNamed 56 = .ok (.ireturn, 1) := by decide +kernel
theorem dX10_isNamed_57 : decode cX10_isNamed 57 = .ok (.iinc 2 1, 3) := by decide +kernel
theorem dX10_isNamed_60 : decode cX10_isNamed 60 = .ok (.goto (-32), 3) := by decide +kernel
theorem dX10_isNamed_63 : decode cX10_isNamed 63 = .ok (.iconst 1, 1) := by decide +kernel
theorem dX10_isNamed_64 : decode cX10_isNamed 64 = .ok (.ireturn, 1) := by decide +kernel
theorem dX10_isByte_0 : decode cX10_isByte 0 = .ok (.aload_n 0, 1) := by decide +kernel
theorem dX10_isByte_1 : decode cX10_isByte 1 = .ok (.getfield 56, 3) := by decide +kernel
theorem dX10_isByte_4 : decode cX10_isByte 4 = .ok (.iconst 3, 1) := by decide +kernel
theorem dX10_isByte_5 : decode cX10_isByte 5 = .ok (.if_icmp .ne 20, 3) := by decide +kernel
theorem dX10_isByte_8 : decode cX10_isByte 8 = .ok (.aload_n 0, 1) := by decide +kernel
theorem dX10_isByte_9 : decode cX10_isByte 9 = .ok (.getfield 24, 3) := by decide +kernel
theorem dX10_isByte_12 : decode cX10_isByte 12 = .ok (.aload_n 0, 1) := by decide +kernel
theorem dX10_isByte_13 : decode cX10_isByte 13 = .ok (.getfield 63, 3) := by decide +kernel
theorem dX10_isByte_16 : decode cX10_isByte 16 = .ok (.baload, 1) := by decide +kernel
theorem dX10_isByte_17 : decode cX10_isByte 17 = .ok (.iload_n 1, 1) := by decide +kernel
theorem dX10_isByte_18 : decode cX10_isByte 18 = .ok (.if_icmp .ne 7, 3) := by decide +kernel
theorem dX10_isByte_21 : decode cX10_isByte 21 = .ok (.iconst 1, 1) := by decide +kernel
theorem dX10_isByte_22 : decode cX10_isByte 22 = .ok (.goto 4, 3) := by decide +kernel
theorem dX10_isByte_25 : decode cX10_isByte 25 = .ok (.iconst 0, 1) := by decide +kernel
theorem dX10_isByte_26 : decode cX10_isByte 26 = .ok (.ireturn, 1) := by decide +kernel
theorem dX10_advance_0 : decode cX10_advance 0 = .ok (.aload_n 0, 1) := by decide +kernel
theorem dX10_advance_1 : decode cX10_advance 1 = .ok (.aload_n 0, 1) := by decide +kernel
theorem dX10_advance_2 : decode cX10_advance 2 = .ok (.getfield 50, 3) := by decide +kernel
theorem dX10_advance_5 : decode cX10_advance 5 = .ok (.putfield 63, 3) := by decide +kernel
theorem dX10_advance_8 : decode cX10_advance 8 = .ok (.aload_n 0, 1) := by decide +kernel
theorem dX10_advance_9 : decode cX10_advance 9 = .ok (.getfield 63, 3) := by decide +kernel
theorem dX10_advance_12 : decode cX10_advance 12 = .ok (.aload_n 0, 1) := by decide +kernel
theorem dX10_advance_13 : decode cX10_advance 13 = .ok (.getfield 47, 3) := by decide +kernel
theorem dX10_advance_16 : decode cX10_advance 16 = .ok (.if_icmp .ge 30, 3) := by decide +kernel
theorem dX10_advance_19 : decode cX10_advance 19 = .ok (.aload_n 0, 1) := by decide +kernel
theorem dX10_advance_20 : decode cX10_advance 20 = .ok (.getfield 24, 3) := by decide +kernel
theorem dX10_advance_23 : decode cX10_advance 23 = .ok (.aload_n 0, 1) := by decide +kernel
theorem dX10_advance_24 : decode cX10_advance 24 = .ok (.getfield 63, 3) := by decide +kernel
theorem dX10_advance_27 : decode cX10_advance 27 = .ok (.baload, 1) := by decide +kernel
theorem dX10_advance_28 : decode cX10_advance 28 = .ok (.bipush 32, 2) := by decide +kernel
theorem dX10_advance_30 : decode cX10_advance 30 = .ok (.if_icmp .ne 16, 3) := by decide +kernel
theorem dX10_advance_33 : decode cX10_advance 33 = .ok (.aload_n 0, 1) := by decide +kernel
theorem dX10_advance_34 : decode cX10_advance 34 = .ok (.dup, 1) := by decide +kernel
theorem dX10_advance_35 : decode cX10_advance 35 = .ok (.getfield 63, 3) := by decide +kernel
theorem dX10_advance_38 : decode cX10_advance 38 = .ok (.iconst 1, 1) := by decide +kernel
theorem dX10_advance_39 : decode cX10_advance 39 = .ok (.iadd, 1) := by decide +kernel
theorem dX10_advance_40 : decode cX10_advance 40 = .ok (.putfield 63, 3) := by decide +kernel
theorem dX10_advance_43 : decode cX10_advance 43 = .ok (.goto (-35), 3) := by decide +kernel
theorem dX10_advance_46 : decode cX10_advance 46 = .ok (.aload_n 0, 1) := by decide +kernel
theorem dX10_advance_47 : decode cX10_advance 47 = .ok (.aload_n 0, 1) := by decide +kernel
theorem dX10_advance_48 : decode cX10_advance 48 = .ok (.getfield 63, 3) := by decide +kernel
theorem dX10_advance_51 : decode cX10_advance 51 = .ok (.putfield 50, 3) := by decide +kernel
theorem dX10_advance_54 : decode cX10_advance 54 = .ok (.aload_n 0, 1) := by decide +kernel
theorem dX10_advance_55 : decode cX10_advance 55 = .ok (.aload_n 0, 1) := by decide +kernel
theorem dX10_advance_56 : decode cX10_advance 56 = .ok (.aload_n 0, 1) := by decide +kernel
theorem dX10_advance_57 : decode cX10_advance 57 = .ok (.getfield 63, 3) := by decide +kernel
theorem dX10_advance_60 : decode cX10_advance 60 = .ok (.invokevirtual 141, 3) := by decide +kernel
theorem dX10_advance_63 : decode cX10_advance 63 = .ok (.putfield 56, 3) := by decide +kernel
theorem dX10_advance_66 : decode cX10_advance 66 = .ok (.aload_n 0, 1) := by decide +kernel
theorem dX10_advance_67 : decode cX10_advance 67 = .ok (.getfield 56, 3) := by decide +kernel
theorem dX10_advance_70 : decode cX10_advance 70 = .ok (.iconst 3, 1) := by decide +kernel
theorem dX10_advance_71 : decode cX10_advance 71 = .ok (.if_icmp .ne 16, 3) := by decide +kernel
theorem dX10_advance_74 : decode cX10_advance 74 = .ok (.aload_n 0, 1) := by decide +kernel
theorem dX10_advance_75 : decode cX10_advance 75 = .ok (.dup, 1) := by decide +kernel
theorem dX10_advance_76 : decode cX10_advance 76 = .ok (.getfield 50, 3) := by decide +kernel
theorem dX10_advance_79 : decode cX10_advance 79 = .ok (.iconst 1, 1) := by decide +kernel
theorem dX10_advance_80 : decode cX10_advance 80 = .ok (.iadd, 1) := by decide +kernel
theorem dX10_advance_81 : decode cX10_advance 81 = .ok (.putfield 50, 3) := by decide +kernel
theorem dX10_advance_84 : decode cX10_advance 84 = .ok (.goto 42, 3) := by decide +kernel
theorem dX10_advance_87 : decode cX10_advance 87 = .ok (.aload_n 0, 1) := by decide +kernel
theorem dX10_advance_88 : decode cX10_advance 88 = .ok (.getfield 50, 3) := by decide +kernel
theorem dX10_advance_91 : decode cX10_advance 91 = .ok (.aload_n 0, 1) := by decide +kernel
theorem dX10_advance_92 : decode cX10_advance 92 = .ok (.getfield 47, 3) := by decide +kernel
theorem dX10_advance_95 : decode cX10_advance 95 = .ok (.if_icmp .ge 31, 3) := by decide +kernel
theorem dX10_advance_98 : decode cX10_advance 98 = .ok (.aload_n 0, 1) := by decide +kernel
theorem dX10_advance_99 : decode cX10_advance 99 = .ok (.aload_n 0, 1) := by decide +kernel
theorem dX10_advance_100 : decode cX10_advance 100 = .ok (.getfield 50, 3) := by decide +kernel
theorem dX10_advance_103 : decode cX10_advance 103 = .ok (.invokevirtual 141, 3) := by decide +kernel
theorem dX10_advance_106 : decode cX10_advance 106 = .ok (.aload_n 0, 1) := by decide +kernel
theorem dX10_advance_107 : decode cX10_advance 107 = .ok (.getfield 56, 3) := by decide +kernel
theorem dX10_advance_110 : decode cX10_advance 110 = .ok (.if_icmp .ne 16, 3) := by decide +kernel
theorem dX10_advance_113 : decode cX10_advance 113 = .ok (.aload_n 0, 1) := by decide +kernel
theorem dX10_advance_114 : decode cX10_advance 114 = .ok (.dup, 1) := by decide +kernel
theorem dX10_advance_115 : decode cX10_advance 115 = .ok (.getfield 50, 3) := by decide +kernel
theorem dX10_advance_118 : decode cX10_advance 118 = .ok (.iconst 1, 1) := by decide +kernel
theorem dX10_advance_119 : decode cX10_advance 119 = .ok (.iadd, 1) := by decide +kernel
theorem dX10_advance_120 : decode cX10_advance 120 = .ok (.putfield 50, 3) := by decide +kernel
theorem dX10_advance_123 : decode cX10_advance 123 = .ok (.goto (-36), 3) := by decide +kernel
theorem dX10_advance_126 : decode cX10_advance 126 = .ok (.return_, 1) := by decide +kernel
theorem dX10_sortAt_0 : decode cX10_sortAt 0 = .ok (.iload_n 1, 1) := by decide +kernel
theorem dX10_sortAt_1 : decode cX10_sortAt 1 = .ok (.aload_n 0, 1) := by decide +kernel
theorem dX10_sortAt_2 : decode cX10_sortAt 2 = .ok (.getfield 47, 3) := by decide +kernel
theorem dX10_sortAt_5 : decode cX10_sortAt 5 = .ok (.if_icmp .lt 5, 3) := by decide +kernel
theorem dX10_sortAt_8 : decode cX10_sortAt 8 = .ok (.iconst 0, 1) := by decide +kernel
theorem dX10_sortAt_9 : decode cX10_sortAt 9 = .ok (.ireturn, 1) := by decide +kernel
theorem dX10_sortAt_10 : decode cX10_sortAt 10 = .ok (.aload_n 0, 1) := by decide +kernel
theorem dX10_sortAt_11 : decode cX10_sortAt 11 = .ok (.getfield 24, 3) := by decide +kernel
theorem dX10_sortAt_14 : decode cX10_sortAt 14 = .ok (.iload_n 1, 1) := by decide +kernel
theorem dX10_sortAt_15 : decode cX10_sortAt 15 = .ok (.baload, 1) := by decide +kernel
theorem dX10_sortAt_16 : decode cX10_sortAt 16 = .ok (.istore_n 2, 1) := by decide +kernel
theorem dX10_sortAt_17 : decode cX10_sortAt 17 = .ok (.iload_n 2, 1) := by decide +kernel
theorem dX10_sortAt_18 : decode cX10_sortAt 18 = .ok (.bipush 97, 2) := by decide +kernel
theorem dX10_sortAt_20 : decode cX10_sortAt 20 = .ok (.if_icmp .lt 11, 3) := by decide +kernel
theorem dX10_sortAt_23 : decode cX10_sortAt 23 = .ok (.iload_n 2, 1) := by decide +kernel
theorem dX10_sortAt_24 : decode cX10_sortAt 24 = .ok (.bipush 122, 2) := by decide +kernel
theorem dX10_sortAt_26 : decode cX10_sortAt 26 = .ok (.if_icmp .gt 5, 3) := by decide +kernel
theorem dX10_sortAt_29 : decode cX10_sortAt 29 = .ok (.iconst 1, 1) := by decide +kernel
theorem dX10_sortAt_30 : decode cX10_sortAt 30 = .ok (.ireturn, 1) := by decide +kernel
theorem dX10_sortAt_31 : decode cX10_sortAt 31 = .ok (.iload_n 2, 1) := by decide +kernel
theorem dX10_sortAt_32 : decode cX10_sortAt 32 = .ok (.bipush 48, 2) := by decide +kernel
theorem dX10_sortAt_34 : decode cX10_sortAt 34 = .ok (.if_icmp .lt 13, 3) := by decide +kernel
theorem dX10_sortAt_37 : decode cX10_sortAt 37 = .ok (.iload_n 2, 1) := by decide +kernel
theorem dX10_sortAt_38 : decode cX10_sortAt 38 = .ok (.bipush 57, 2) := by decide +kernel
theorem dX10_sortAt_40 : decode cX10_sortAt 40 = .ok (.if_icmp .gt 7, 3) := by decide +kernel
theorem dX10_sortAt_43 : decode cX10_sortAt 43 = .ok (.iconst 2, 1) := by decide +kernel
theorem dX10_sortAt_44 : decode cX10_sortAt 44 = .ok (.goto 4, 3) := by decide +kernel
theorem dX10_sortAt_47 : decode cX10_sortAt 47 = .ok (.iconst 3, 1) := by decide +kernel
theorem dX10_sortAt_48 : decode cX10_sortAt 48 = .ok (.ireturn, 1) := by decide +kernel
theorem dX11_init_0 : decode cX11_init 0 = .ok (.aload_n 0, 1) := by decide +kernel
theorem dX11_init_1 : decode cX11_init 1 = .ok (.invokespecial 1, 3) := by decide +kernel
theorem dX11_init_4 : decode cX11_init 4 = .ok (.aload_n 0, 1) := by decide +kernel
theorem dX11_init_5 : decode cX11_init 5 = .ok (.new 7, 3) := by decide +kernel
theorem dX11_init_8 : decode cX11_init 8 = .ok (.dup, 1) := by decide +kernel
theorem dX11_init_9 : decode cX11_init 9 = .ok (.invokespecial 9, 3) := by decide +kernel
theorem dX11_init_12 : decode cX11_init 12 = .ok (.putfield 10, 3) := by decide +kernel
theorem dX11_init_15 : decode cX11_init 15 = .ok (.aload_n 0, 1) := by decide +kernel
theorem dX11_init_16 : decode cX11_init 16 = .ok (.sipush 200, 3) := by decide +kernel
theorem dX11_init_19 : decode cX11_init 19 = .ok (.newarray .byte, 2) := by decide +kernel
theorem dX11_init_21 : decode cX11_init 21 = .ok (.putfield 16, 3) := by decide +kernel
theorem dX11_init_24 : decode cX11_init 24 = .ok (.aload_n 0, 1) := by decide +kernel
theorem dX11_init_25 : decode cX11_init 25 = .ok (.new 20, 3) := by decide +kernel
theorem dX11_init_28 : decode cX11_init 28 = .ok (.dup, 1) := by decide +kernel
theorem dX11_init_29 : decode cX11_init 29 = .ok (.invokespecial 22, 3) := by decide +kernel
theorem dX11_init_32 : decode cX11_init 32 = .ok (.putfield 23, 3) := by decide +kernel
theorem dX11_init_35 : decode cX11_init 35 = .ok (.aload_n 0, 1) := by decide +kernel
theorem dX11_init_36 : decode cX11_init 36 = .ok (.iconst 4, 1) := by decide +kernel
theorem dX11_init_37 : decode cX11_init 37 = .ok (.iconst 3, 1) := by decide +kernel
theorem dX11_init_38 : decode cX11_init 38 = .ok (.multianewarray 27 2, 4) := by decide +kernel
theorem dX11_init_42 : decode cX11_init 42 = .ok (.putfield 29, 3) := by decide +kernel
theorem dX11_init_45 : decode cX11_init 45 = .ok (.aload_n 0, 1) := by decide +kernel
theorem dX11_init_46 : decode cX11_init 46 = .ok (.iconst 4, 1) := by decide +kernel
theorem dX11_init_47 : decode cX11_init 47 = .ok (.newarray .int, 2) := by decide +kernel
theorem dX11_init_49 : decode cX11_init 49 = .ok (.dup, 1) := by decide +kernel
theorem dX11_init_50 : decode cX11_init 50 = .ok (.iconst 0, 1) := by decide +kernel
theorem dX11_init_51 : decode cX11_init 51 = .ok (.iconst (-1), 1) := by decide +kernel
theorem dX11_init_52 : decode cX11_init 52 = .ok (.iastore, 1) := by decide +kernel
theorem dX11_init_53 : decode cX11_init 53 = .ok (.dup, 1) := by decide +kernel
theorem dX11_init_54 : decode cX11_init 54 = .ok (.iconst 1, 1) := by decide +kernel
theorem dX11_init_55 : decode cX11_init 55 = .ok (.iconst (-1), 1) := by decide +kernel
theorem dX11_init_56 : decode cX11_init 56 = .ok (.iastore, 1) := by decide +kernel
theorem dX11_init_57 : decode cX11_init 57 = .ok (.dup, 1) := by decide +kernel
theorem dX11_init_58 : decode cX11_init 58 = .ok (.iconst 2, 1) := by decide +kernel
theorem dX11_init_59 : decode cX11_init 59 = .ok (.iconst (-1), 1) := by decide +kernel
theorem dX11_init_60 : decode cX11_init 60 = .ok (.iastore, 1) := by decide +kernel
theorem dX11_init_61 : decode cX11_init 61 = .ok (.dup, 1) := by decide +kernel
theorem dX11_init_62 : decode cX11_init 62 = .ok (.iconst 3, 1) := by decide +kernel
theorem dX11_init_63 : decode cX11_init 63 = .ok (.iconst (-1), 1) := by decide +kernel
theorem dX11_init_64 : decode cX11_init 64 = .ok (.iastore, 1) := by decide +kernel
theorem dX11_init_65 : decode cX11_init 65 = .ok (.putfield 32, 3) := by decide +kernel
theorem dX11_init_68 : decode cX11_init 68 = .ok (.aload_n 0, 1) := by decide +kernel
theorem dX11_init_69 : decode cX11_init 69 = .ok (.iconst 4, 1) := by decide +kernel
theorem dX11_init_70 : decode cX11_init 70 = .ok (.newarray .int, 2) := by decide +kernel
theorem dX11_init_72 : decode cX11_init 72 = .ok (.putfield 36, 3) := by decide +kernel
theorem dX11_init_75 : decode cX11_init 75 = .ok (.aload_n 0, 1) := by decide +kernel
theorem dX11_init_76 : decode cX11_init 76 = .ok (.iconst 4, 1) := by decide +kernel
theorem dX11_init_77 : decode cX11_init 77 = .ok (.bipush 40, 2) := by decide +kernel
theorem dX11_init_79 : decode cX11_init 79 = .ok (.multianewarray 27 2, 4) := by decide +kernel
theorem dX11_init_83 : decode cX11_init 83 = .ok (.putfield 39, 3) := by decide +kernel
theorem dX11_init_86 : decode cX11_init 86 = .ok (.aload_n 0, 1) := by decide +kernel
theorem dX11_init_87 : decode cX11_init 87 = .ok (.iconst 4, 1) := by decide +kernel
theorem dX11_init_88 : decode cX11_init 88 = .ok (.newarray .int, 2) := by decide +kernel
theorem dX11_init_90 : decode cX11_init 90 = .ok (.dup, 1) := by decide +kernel
theorem dX11_init_91 : decode cX11_init 91 = .ok (.iconst 0, 1) := by decide +kernel
theorem dX11_init_92 : decode cX11_init 92 = .ok (.iconst 2, 1) := by decide +kernel
theorem dX11_init_93 : decode cX11_init 93 = .ok (.iastore, 1) := by decide +kernel
theorem dX11_init_94 : decode cX11_init 94 = .ok (.dup, 1) := by decide +kernel
theorem dX11_init_95 : decode cX11_init 95 = .ok (.iconst 1, 1) := by decide +kernel
theorem dX11_init_96 : decode cX11_init 96 = .ok (.iconst 2, 1) := by decide +kernel
theorem dX11_init_97 : decode cX11_init 97 = .ok (.iastore, 1) := by decide +kernel
theorem dX11_init_98 : decode cX11_init 98 = .ok (.dup, 1) := by decide +kernel
theorem dX11_init_99 : decode cX11_init 99 = .ok (.iconst 2, 1) := by decide +kernel
theorem dX11_init_100 : decode cX11_init 100 = .ok (.iconst 2, 1) := by decide +kernel
theorem dX11_init_101 : decode cX11_init 101 = .ok (.iastore, 1) := by decide +kernel
theorem dX11_init_102 : decode cX11_init 102 = .ok (.dup, 1) := by decide +kernel
theorem dX11_init_103 : decode cX11_init 103 = .ok (.iconst 3, 1) := by decide +kernel
theorem dX11_init_104 : decode cX11_init 104 = .ok (.iconst 2, 1) := by decide +kernel
theorem dX11_init_105 : decode cX11_init 105 = .ok (.iastore, 1) := by decide +kernel
theorem dX11_init_106 : decode cX11_init 106 = .ok (.putfield 42, 3) := by decide +kernel
theorem dX11_init_109 : decode cX11_init 109 = .ok (.aload_n 0, 1) := by decide +kernel
theorem dX11_init_110 : decode cX11_init 110 = .ok (.iconst 4, 1) := by decide +kernel
theorem dX11_init_111 : decode cX11_init 111 = .ok (.newarray .int, 2) := by decide +kernel
theorem dX11_init_113 : decode cX11_init 113 = .ok (.putfield 45, 3) := by decide +kernel
theorem dX11_init_116 : decode cX11_init 116 = .ok (.aload_n 0, 1) := by decide +kernel
theorem dX11_init_117 : decode cX11_init 117 = .ok (.iconst 4, 1) := by decide +kernel
theorem dX11_init_118 : decode cX11_init 118 = .ok (.newarray .int, 2) := by decide +kernel
theorem dX11_init_120 : decode cX11_init 120 = .ok (.putfield 48, 3) := by decide +kernel
theorem dX11_init_123 : decode cX11_init 123 = .ok (.bipush 6, 2) := by decide +kernel
theorem dX11_init_125 : decode cX11_init 125 = .ok (.anewarray 51, 3) := by decide +kernel
theorem dX11_init_128 : decode cX11_init 128 = .ok (.astore_n 1, 1) := by decide +kernel
theorem dX11_init_129 : decode cX11_init 129 = .ok (.aload_n 1, 1) := by decide +kernel
theorem dX11_init_130 : decode cX11_init 130 = .ok (.iconst 0, 1) := by decide +kernel
theorem dX11_init_131 : decode cX11_init 131 = .ok (.new 51, 3) := by decide +kernel
theorem dX11_init_134 : decode cX11_init 134 = .ok (.dup, 1) := by decide +kernel
theorem dX11_init_135 : decode cX11_init 135 = .ok (.invokespecial 53, 3) := by decide +kernel
theorem dX11_init_138 : decode cX11_init 138 = .ok (.aastore, 1) := by decide +kernel
theorem dX11_init_139 : decode cX11_init 139 = .ok (.aload_n 1, 1) := by decide +kernel
theorem dX11_init_140 : decode cX11_init 140 = .ok (.iconst 1, 1) := by decide +kernel
theorem dX11_init_141 : decode cX11_init 141 = .ok (.new 54, 3) := by decide +kernel
theorem dX11_init_144 : decode cX11_init 144 = .ok (.dup, 1) := by decide +kernel
theorem dX11_init_145 : decode cX11_init 145 = .ok (.invokespecial 56, 3) := by decide +kernel
theorem dX11_init_148 : decode cX11_init 148 = .ok (.aastore, 1) := by decide +kernel
theorem dX11_init_149 : decode cX11_init 149 = .ok (.aload_n 1, 1) := by decide +kernel
theorem dX11_init_150 : decode cX11_init 150 = .ok (.iconst 2, 1) := by decide +kernel
theorem dX11_init_151 : decode cX11_init 151 = .ok (.new 57, 3) := by decide +kernel
theorem dX11_init_154 : decode cX11_init 154 = .ok (.dup, 1) := by decide +kernel
theorem dX11_init_155 : decode cX11_init 155 = .ok (.invokespecial 59, 3) := by decide +kernel
theorem dX11_init_158 : decode cX11_init 158 = .ok (.aastore, 1) := by decide +kernel
theorem dX11_init_159 : decode cX11_init 159 = .ok (.aload_n 1, 1) := by decide +kernel
theorem dX11_init_160 : decode cX11_init 160 = .ok (.iconst 3, 1) := by decide +kernel
theorem dX11_init_161 : decode cX11_init 161 = .ok (.new 60, 3) := by decide +kernel
theorem dX11_init_164 : decode cX11_init 164 = .ok (.dup, 1) := by decide +kernel
theorem dX11_init_165 : decode cX11_init 165 = .ok (.invokespecial 62, 3) := by decide +kernel
theorem dX11_init_168 : decode cX11_init 168 = .ok (.aastore, 1) := by decide +kernel
theorem dX11_init_169 : decode cX11_init 169 = .ok (.aload_n 1, 1) := by decide +kernel
theorem dX11_init_170 : decode cX11_init 170 = .ok (.iconst 4, 1) := by decide +kernel
theorem dX11_init_171 : decode cX11_init 171 = .ok (.new 63, 3) := by decide +kernel
theorem dX11_init_174 : decode cX11_init 174 = .ok (.dup, 1) := by decide +kernel
theorem dX11_init_175 : decode cX11_init 175 = .ok (.invokespecial 65, 3) := by decide +kernel
theorem dX11_init_178 : decode cX11_init 178 = .ok (.aastore, 1) := by decide +kernel
theorem dX11_init_179 : decode cX11_init 179 = .ok (.aload_n 1, 1) := by decide +kernel
theorem dX11_init_180 : decode cX11_init 180 = .ok (.iconst 5, 1) := by decide +kernel
theorem dX11_init_181 : decode cX11_init 181 = .ok (.new 66, 3) := by decide +kernel
theorem dX11_init_184 : decode cX11_init 184 = .ok (.dup, 1) := by decide +kernel
theorem dX11_init_185 : decode cX11_init 185 = .ok (.invokespecial 68, 3) := by decide +kernel
theorem dX11_init_188 : decode cX11_init 188 = .ok (.aastore, 1) := by decide +kernel
theorem dX11_init_189 : decode cX11_init 189 = .ok (.aload_n 0, 1) := by decide +kernel
theorem dX11_init_190 : decode cX11_init 190 = .ok (.new 69, 3) := by decide +kernel
theorem dX11_init_193 : decode cX11_init 193 = .ok (.dup, 1) := by decide +kernel
theorem dX11_init_194 : decode cX11_init 194 = .ok (.aload_n 1, 1) := by decide +kernel
theorem dX11_init_195 : decode cX11_init 195 = .ok (.invokespecial 71, 3) := by decide +kernel
theorem dX11_init_198 : decode cX11_init 198 = .ok (.putfield 74, 3) := by decide +kernel
theorem dX11_init_201 : decode cX11_init 201 = .ok (.aload_n 0, 1) := by decide +kernel
theorem dX11_init_202 : decode cX11_init 202 = .ok (.new 69, 3) := by decide +kernel
theorem dX11_init_205 : decode cX11_init 205 = .ok (.dup, 1) := by decide +kernel
theorem dX11_init_206 : decode cX11_init 206 = .ok (.aload_n 1, 1) := by decide +kernel
theorem dX11_init_207 : decode cX11_init 207 = .ok (.invokespecial 71, 3) := by decide +kernel
theorem dX11_init_210 : decode cX11_init 210 = .ok (.putfield 78, 3) := by decide +kernel
theorem dX11_init_213 : decode cX11_init 213 = .ok (.aload_n 0, 1) := by decide +kernel
theorem dX11_init_214 : decode cX11_init 214 = .ok (.new 81, 3) := by decide +kernel
theorem dX11_init_217 : decode cX11_init 217 = .ok (.dup, 1) := by decide +kernel
theorem dX11_init_218 : decode cX11_init 218 = .ok (.aload_n 0, 1) := by decide +kernel
theorem dX11_init_219 : decode cX11_init 219 = .ok (.getfield 74, 3) := by decide +kernel
theorem dX11_init_222 : decode cX11_init 222 = .ok (.invokespecial 83, 3) := by decide +kernel
theorem dX11_init_225 : decode cX11_init 225 = .ok (.putfield 86, 3) := by decide +kernel
theorem dX11_init_228 : decode cX11_init 228 = .ok (.return_, 1) := by decide +kernel
theorem dX11_rider_0 : decode cX11_rider 0 = .ok (.iload_n 1, 1) := by decide +kernel
theorem dX11_rider_1 : decode cX11_rider 1 = .ok (.invokestatic 90, 3) := by decide +kernel
theorem dX11_rider_4 : decode cX11_rider 4 = .ok (.ifCond .eq 35, 3) := by decide +kernel
theorem dX11_rider_7 : decode cX11_rider 7 = .ok (.iload_n 2, 1) := by decide +kernel
theorem dX11_rider_8 : decode cX11_rider 8 = .ok (.iconst 0, 1) := by decide +kernel
theorem dX11_rider_9 : decode cX11_rider 9 = .ok (.bipush 99, 2) := by decide +kernel
theorem dX11_rider_11 : decode cX11_rider 11 = .ok (.invokestatic 94, 3) := by decide +kernel
theorem dX11_rider_14 : decode cX11_rider 14 = .ok (.ifCond .eq 25, 3) := by decide +kernel
theorem dX11_rider_17 : decode cX11_rider 17 = .ok (.iload_n 3, 1) := by decide +kernel
theorem dX11_rider_18 : decode cX11_rider 18 = .ok (.iconst 0, 1) := by decide +kernel
theorem dX11_rider_19 : decode cX11_rider 19 = .ok (.bipush 9, 2) := by decide +kernel
theorem dX11_rider_21 : decode cX11_rider 21 = .ok (.invokestatic 94, 3) := by decide +kernel
theorem dX11_rider_24 : decode cX11_rider 24 = .ok (.ifCond .eq 15, 3) := by decide +kernel
theorem dX11_rider_27 : decode cX11_rider 27 = .ok (.iload 4, 2) := by decide +kernel
theorem dX11_rider_29 : decode cX11_rider 29 = .ok (.invokestatic 98, 3) := by decide +kernel
theorem dX11_rider_32 : decode cX11_rider 32 = .ok (.ifCond .eq 7, 3) := by decide +kernel
theorem dX11_rider_35 : decode cX11_rider 35 = .ok (.iconst 1, 1) := by decide +kernel
theorem dX11_rider_36 : decode cX11_rider 36 = .ok (.goto 4, 3) := by decide +kernel
theorem dX11_rider_39 : decode cX11_rider 39 = .ok (.iconst 0, 1) := by decide +kernel
theorem dX11_rider_40 : decode cX11_rider 40 = .ok (.istore 5, 2) := by decide +kernel
theorem dX11_rider_42 : decode cX11_rider 42 = .ok (.iload 5, 2) := by decide +kernel
theorem dX11_rider_44 : decode cX11_rider 44 = .ok (.ifCond .ne 5, 3) := by decide +kernel
theorem dX11_rider_47 : decode cX11_rider 47 = .ok (.iconst (-1), 1) := by decide +kernel
theorem dX11_rider_48 : decode cX11_rider 48 = .ok (.ireturn, 1) := by decide +kernel
theorem dX11_rider_49 : decode cX11_rider 49 = .ok (.aload_n 0, 1) := by decide +kernel
theorem dX11_rider_50 : decode cX11_rider 50 = .ok (.getfield 74, 3) := by decide +kernel
theorem dX11_rider_53 : decode cX11_rider 53 = .ok (.getfield 101, 3) := by decide +kernel
theorem dX11_rider_56 : decode cX11_rider 56 = .ok (.bipush 6, 2) := by decide +kernel
theorem dX11_rider_58 : decode cX11_rider 58 = .ok (.if_icmp .lt 6, 3) := by decide +kernel
theorem dX11_rider_61 : decode cX11_rider 61 = .ok (.bipush (-2), 2) := by decide +kernel
theorem dX11_rider_63 : decode cX11_rider 63 = .ok (.ireturn, 1) := by decide +kernel
theorem dX11_rider_64 : decode cX11_rider 64 = .ok (.aload_n 0, 1) := by decide +kernel
theorem dX11_rider_65 : decode cX11_rider 65 = .ok (.getfield 74, 3) := by decide +kernel
theorem dX11_rider_68 : decode cX11_rider 68 = .ok (.iload_n 1, 1) := by decide +kernel
theorem dX11_rider_69 : decode cX11_rider 69 = .ok (.iload_n 2, 1) := by decide +kernel
theorem dX11_rider_70 : decode cX11_rider 70 = .ok (.iload_n 3, 1) := by decide +kernel
theorem dX11_rider_71 : decode cX11_rider 71 = .ok (.iload 4, 2) := by decide +kernel
theorem dX11_rider_73 : decode cX11_rider 73 = .ok (.invokevirtual 105, 3) := by decide +kernel
theorem dX11_rider_76 : decode cX11_rider 76 = .ok (.ireturn, 1) := by decide +kernel
theorem dX11_riderOf_0 : decode cX11_riderOf 0 = .ok (.aload_n 0, 1) := by decide +kernel
theorem dX11_riderOf_1 : decode cX11_riderOf 1 = .ok (.iload_n 1, 1) := by decide +kernel
theorem dX11_riderOf_2 : decode cX11_riderOf 2 = .ok (.invokevirtual 109, 3) := by decide +kernel
theorem dX11_riderOf_5 : decode cX11_riderOf 5 = .ok (.ifCond .ne 5, 3) := by decide +kernel
theorem dX11_riderOf_8 : decode cX11_riderOf 8 = .ok (.iconst (-1), 1) := by decide +kernel
theorem dX11_riderOf_9 : decode cX11_riderOf 9 = .ok (.ireturn, 1) := by decide +kernel
theorem dX11_riderOf_10 : decode cX11_riderOf 10 = .ok (.aload_n 0, 1) := by decide +kernel
theorem dX11_riderOf_11 : decode cX11_riderOf 11 = .ok (.getfield 74, 3) := by decide +kernel
theorem dX11_riderOf_14 : decode cX11_riderOf 14 = .ok (.getfield 112, 3) := by decide +kernel
theorem dX11_riderOf_17 : decode cX11_riderOf 17 = .ok (.astore_n 3, 1) := by decide +kernel
theorem dX11_riderOf_18 : decode cX11_riderOf 18 = .ok (.iload_n 2, 1) := by decide +kernel
theorem dX11_riderOf_19 : decode cX11_riderOf 19 = .ok (.tableswitch 176 0 10 #[57, 67, 74, 84, 94, 108, 115, 125, 138, 148, 166], 57) := by decide +kernel
theorem dX11_riderOf_76 : decode cX11_riderOf 76 = .ok (.aload_n 0, 1) := by decide +kernel
theorem dX11_riderOf_77 : decode cX11_riderOf 77 = .ok (.getfield 74, 3) := by decide +kernel
theorem dX11_riderOf_80 : decode cX11_riderOf 80 = .ok (.getfield 115, 3) := by decide +kernel
theorem dX11_riderOf_83 : decode cX11_riderOf 83 = .ok (.iload_n 1, 1) := by decide +kernel
theorem dX11_riderOf_84 : decode cX11_riderOf 84 = .ok (.iaload, 1) := by decide +kernel
theorem dX11_riderOf_85 : decode cX11_riderOf 85 = .ok (.ireturn, 1) := by decide +kernel
theorem dX11_riderOf_86 : decode cX11_riderOf 86 = .ok (.aload_n 3, 1) := by decide +kernel
theorem dX11_riderOf_87 : decode cX11_riderOf 87 = .ok (.getfield 118, 3) := by decide +kernel
theorem dX11_riderOf_90 : decode cX11_riderOf 90 = .ok (.iload_n 1, 1) := by decide +kernel
theorem dX11_riderOf_91 : decode cX11_riderOf 91 = .ok (.iaload, 1) := by decide +kernel
theorem dX11_riderOf_92 : decode cX11_riderOf 92 = .ok (.ireturn, 1) := by decide +kernel
theorem dX11_riderOf_93 : decode cX11_riderOf 93 = .ok (.aload_n 0, 1) := by decide +kernel
theorem dX11_riderOf_94 : decode cX11_riderOf 94 = .ok (.getfield 74, 3) := by decide +kernel
theorem dX11_riderOf_97 : decode cX11_riderOf 97 = .ok (.getfield 121, 3) := by decide +kernel
theorem dX11_riderOf_100 : decode cX11_riderOf 100 = .ok (.iload_n 1, 1) := by decide +kernel
theorem dX11_riderOf_101 : decode cX11_riderOf 101 = .ok (.iaload, 1) := by decide +kernel
theorem dX11_riderOf_102 : decode cX11_riderOf 102 = .ok (.ireturn, 1) := by decide +kernel
theorem dX11_riderOf_103 : decode cX11_riderOf 103 = .ok (.aload_n 0, 1) := by decide +kernel
theorem dX11_riderOf_104 : decode cX11_riderOf 104 = .ok (.getfield 74, 3) := by decide +kernel
theorem dX11_riderOf_107 : decode cX11_riderOf 107 = .ok (.getfield 124, 3) := by decide +kernel
theorem dX11_riderOf_110 : decode cX11_riderOf 110 = .ok (.iload_n 1, 1) := by decide +kernel
theorem dX11_riderOf_111 : decode cX11_riderOf 111 = .ok (.iaload, 1) := by decide +kernel
theorem dX11_riderOf_112 : decode cX11_riderOf 112 = .ok (.ireturn, 1) := by decide +kernel
theorem dX11_riderOf_113 : decode cX11_riderOf 113 = .ok (.aload_n 3, 1) := by decide +kernel
theorem dX11_riderOf_114 : decode cX11_riderOf 114 = .ok (.iload_n 1, 1) := by decide +kernel
theorem dX11_riderOf_115 : decode cX11_riderOf 115 = .ok (.invokevirtual 127, 3) := by decide +kernel
theorem dX11_riderOf_118 : decode cX11_riderOf 118 = .ok (.ifCond .eq 7, 3) := by decide +kernel
theorem dX11_riderOf_121 : decode cX11_riderOf 121 = .ok (.iconst 1, 1) := by decide +kernel
theorem dX11_riderOf_122 : decode cX11_riderOf 122 = .ok (.goto 4, 3) := by decide +kernel
theorem dX11_riderOf_125 : decode cX11_riderOf 125 = .ok (.iconst 0, 1) := by decide +kernel
theorem dX11_riderOf_126 : decode cX11_riderOf 126 = .ok (.ireturn, 1) := by decide +kernel
theorem dX11_riderOf_127 : decode cX11_riderOf 127 = .ok (.aload_n 3, 1) := by decide +kernel
theorem dX11_riderOf_128 : decode cX11_riderOf 128 = .ok (.getfield 130, 3) := by decide +kernel
theorem dX11_riderOf_131 : decode cX11_riderOf 131 = .ok (.iload_n 1, 1) := by decide +kernel
theorem dX11_riderOf_132 : decode cX11_riderOf 132 = .ok (.iaload, 1) := by decide +kernel
theorem dX11_riderOf_133 : decode cX11_riderOf 133 = .ok (.ireturn, 1) := by decide +kernel
theorem dX11_riderOf_134 : decode cX11_riderOf 134 = .ok (.aload_n 0, 1) := by decide +kernel
theorem dX11_riderOf_135 : decode cX11_riderOf 135 = .ok (.getfield 74, 3) := by decide +kernel
theorem dX11_riderOf_138 : decode cX11_riderOf 138 = .ok (.aload_n 3, 1) := by decide +kernel
theorem dX11_riderOf_139 : decode cX11_riderOf 139 = .ok (.iload_n 1, 1) := by decide +kernel
theorem dX11_riderOf_140 : decode cX11_riderOf 140 = .ok (.invokevirtual 133, 3) := by decide +kernel
theorem dX11_riderOf_143 : decode cX11_riderOf 143 = .ok (.ireturn, 1) := by decide +kernel
theorem dX11_riderOf_144 : decode cX11_riderOf 144 = .ok (.aload_n 0, 1) := by decide +kernel
theorem dX11_riderOf_145 : decode cX11_riderOf 145 = .ok (.getfield 74, 3) := by decide +kernel
theorem dX11_riderOf_148 : decode cX11_riderOf 148 = .ok (.iload_n 1, 1) := by decide +kernel
theorem dX11_riderOf_149 : decode cX11_riderOf 149 = .ok (.aload_n 3, 1) := by decide +kernel
theorem dX11_riderOf_150 : decode cX11_riderOf 150 = .ok (.getfield 137, 3) := by decide +kernel
theorem dX11_riderOf_153 : decode cX11_riderOf 153 = .ok (.invokevirtual 140, 3) := by decide +kernel
theorem dX11_riderOf_156 : decode cX11_riderOf 156 = .ok (.ireturn, 1) := by decide +kernel
theorem dX11_riderOf_157 : decode cX11_riderOf 157 = .ok (.aload_n 0, 1) := by decide +kernel
theorem dX11_riderOf_158 : decode cX11_riderOf 158 = .ok (.getfield 74, 3) := by decide +kernel
theorem dX11_riderOf_161 : decode cX11_riderOf 161 = .ok (.aload_n 3, 1) := by decide +kernel
theorem dX11_riderOf_162 : decode cX11_riderOf 162 = .ok (.iload_n 1, 1) := by decide +kernel
theorem dX11_riderOf_163 : decode cX11_riderOf 163 = .ok (.invokevirtual 144, 3) := by decide +kernel
theorem dX11_riderOf_166 : decode cX11_riderOf 166 = .ok (.ireturn, 1) := by decide +kernel
theorem dX11_riderOf_167 : decode cX11_riderOf 167 = .ok (.aload_n 0, 1) := by decide +kernel
theorem dX11_riderOf_168 : decode cX11_riderOf 168 = .ok (.getfield 74, 3) := by decide +kernel
theorem dX11_riderOf_171 : decode cX11_riderOf 171 = .ok (.aload_n 3, 1) := by decide +kernel
theorem dX11_riderOf_172 : decode cX11_riderOf 172 = .ok (.iload_n 1, 1) := by decide +kernel
theorem dX11_riderOf_173 : decode cX11_riderOf 173 = .ok (.invokevirtual 147, 3) := by decide +kernel
theorem dX11_riderOf_176 : decode cX11_riderOf 176 = .ok (.ifCond .ne 7, 3) := by decide +kernel
theorem dX11_riderOf_179 : decode cX11_riderOf 179 = .ok (.iconst 1, 1) := by decide +kernel
theorem dX11_riderOf_180 : decode cX11_riderOf 180 = .ok (.goto 4, 3) := by decide +kernel
theorem dX11_riderOf_183 : decode cX11_riderOf 183 = .ok (.iconst 0, 1) := by decide +kernel
theorem dX11_riderOf_184 : decode cX11_riderOf 184 = .ok (.ireturn, 1) := by decide +kernel
theorem dX11_riderOf_185 : decode cX11_riderOf 185 = .ok (.aload_n 0, 1) := by decide +kernel
theorem dX11_riderOf_186 : decode cX11_riderOf 186 = .ok (.getfield 74, 3) := by decide +kernel
theorem dX11_riderOf_189 : decode cX11_riderOf 189 = .ok (.aload_n 3, 1) := by decide +kernel
theorem dX11_riderOf_190 : decode cX11_riderOf 190 = .ok (.iload_n 1, 1) := by decide +kernel
theorem dX11_riderOf_191 : decode cX11_riderOf 191 = .ok (.invokevirtual 150, 3) := by decide +kernel
theorem dX11_riderOf_194 : decode cX11_riderOf 194 = .ok (.ireturn, 1) := by decide +kernel
theorem dX11_riderOf_195 : decode cX11_riderOf 195 = .ok (.iconst (-1), 1) := by decide +kernel
theorem dX11_riderOf_196 : decode cX11_riderOf 196 = .ok (.ireturn, 1) := by decide +kernel
theorem dX11_change_0 : decode cX11_change 0 = .ok (.aload_n 0, 1) := by decide +kernel
theorem dX11_change_1 : decode cX11_change 1 = .ok (.iload_n 1, 1) := by decide +kernel
theorem dX11_change_2 : decode cX11_change 2 = .ok (.invokevirtual 109, 3) := by decide +kernel
theorem dX11_change_5 : decode cX11_change 5 = .ok (.ifCond .eq 24, 3) := by decide +kernel
theorem dX11_change_8 : decode cX11_change 8 = .ok (.iload_n 2, 1) := by decide +kernel
theorem dX11_change_9 : decode cX11_change 9 = .ok (.iconst 1, 1) := by decide +kernel
theorem dX11_change_10 : decode cX11_change 10 = .ok (.iconst 5, 1) := by decide +kernel
theorem dX11_change_11 : decode cX11_change 11 = .ok (.invokestatic 94, 3) := by decide +kernel
theorem dX11_change_14 : decode cX11_change 14 = .ok (.ifCond .eq 15, 3) := by decide +kernel
theorem dX11_change_17 : decode cX11_change 17 = .ok (.iload_n 3, 1) := by decide +kernel
theorem dX11_change_18 : decode cX11_change 18 = .ok (.iconst 0, 1) := by decide +kernel
theorem dX11_change_19 : decode cX11_change 19 = .ok (.iload_n 2, 1) := by decide +kernel
theorem dX11_change_20 : decode cX11_change 20 = .ok (.invokestatic 153, 3) := by decide +kernel
theorem dX11_change_23 : decode cX11_change 23 = .ok (.invokestatic 94, 3) := by decide +kernel
theorem dX11_change_26 : decode cX11_change 26 = .ok (.ifCond .ne 5, 3) := by decide +kernel
theorem dX11_change_29 : decode cX11_change 29 = .ok (.iconst (-1), 1) := by decide +kernel
theorem dX11_change_30 : decode cX11_change 30 = .ok (.ireturn, 1) := by decide +kernel
theorem dX11_change_31 : decode cX11_change 31 = .ok (.aload_n 0, 1) := by decide +kernel
theorem dX11_change_32 : decode cX11_change 32 = .ok (.iload_n 1, 1) := by decide +kernel
theorem dX11_change_33 : decode cX11_change 33 = .ok (.iload_n 2, 1) := by decide +kernel
theorem dX11_change_34 : decode cX11_change 34 = .ok (.invokevirtual 157, 3) := by decide +kernel
theorem dX11_change_37 : decode cX11_change 37 = .ok (.istore 4, 2) := by decide +kernel
theorem dX11_change_39 : decode cX11_change 39 = .ok (.aload_n 0, 1) := by decide +kernel
theorem dX11_change_40 : decode cX11_change 40 = .ok (.getfield 74, 3) := by decide +kernel
theorem dX11_change_43 : decode cX11_change 43 = .ok (.iload_n 1, 1) := by decide +kernel
theorem dX11_change_44 : decode cX11_change 44 = .ok (.iload_n 2, 1) := by decide +kernel
theorem dX11_change_45 : decode cX11_change 45 = .ok (.iload_n 3, 1) := by decide +kernel
theorem dX11_change_46 : decode cX11_change 46 = .ok (.invokevirtual 160, 3) := by decide +kernel
theorem dX11_change_49 : decode cX11_change 49 = .ok (.iload 4, 2) := by decide +kernel
theorem dX11_change_51 : decode cX11_change 51 = .ok (.ireturn, 1) := by decide +kernel
theorem dX11_remake_0 : decode cX11_remake 0 = .ok (.aload_n 0, 1) := by decide +kernel
theorem dX11_remake_1 : decode cX11_remake 1 = .ok (.iload_n 1, 1) := by decide +kernel
theorem dX11_remake_2 : decode cX11_remake 2 = .ok (.invokevirtual 109, 3) := by decide +kernel
theorem dX11_remake_5 : decode cX11_remake 5 = .ok (.ifCond .eq 10, 3) := by decide +kernel
theorem dX11_remake_8 : decode cX11_remake 8 = .ok (.iload_n 2, 1) := by decide +kernel
theorem dX11_remake_9 : decode cX11_remake 9 = .ok (.invokestatic 90, 3) := by decide +kernel
theorem dX11_remake_12 : decode cX11_remake 12 = .ok (.ifCond .ne 5, 3) := by decide +kernel
theorem dX11_remake_15 : decode cX11_remake 15 = .ok (.iconst (-1), 1) := by decide +kernel
theorem dX11_remake_16 : decode cX11_remake 16 = .ok (.ireturn, 1) := by decide +kernel
theorem dX11_remake_17 : decode cX11_remake 17 = .ok (.aload_n 0, 1) := by decide +kernel
theorem dX11_remake_18 : decode cX11_remake 18 = .ok (.getfield 74, 3) := by decide +kernel
theorem dX11_remake_21 : decode cX11_remake 21 = .ok (.getfield 115, 3) := by decide +kernel
theorem dX11_remake_24 : decode cX11_remake 24 = .ok (.iload_n 1, 1) := by decide +kernel
theorem dX11_remake_25 : decode cX11_remake 25 = .ok (.iaload, 1) := by decide +kernel
theorem dX11_remake_26 : decode cX11_remake 26 = .ok (.istore_n 3, 1) := by decide +kernel
theorem dX11_remake_27 : decode cX11_remake 27 = .ok (.aload_n 0, 1) := by decide +kernel
theorem dX11_remake_28 : decode cX11_remake 28 = .ok (.getfield 74, 3) := by decide +kernel
theorem dX11_remake_31 : decode cX11_remake 31 = .ok (.getfield 115, 3) := by decide +kernel
theorem dX11_remake_34 : decode cX11_remake 34 = .ok (.iload_n 1, 1) := by decide +kernel
theorem dX11_remake_35 : decode cX11_remake 35 = .ok (.iload_n 2, 1) := by decide +kernel
theorem dX11_remake_36 : decode cX11_remake 36 = .ok (.iastore, 1) := by decide +kernel
theorem dX11_remake_37 : decode cX11_remake 37 = .ok (.iload_n 3, 1) := by decide +kernel
theorem dX11_remake_38 : decode cX11_remake 38 = .ok (.ireturn, 1) := by decide +kernel
theorem dX11_crowd_0 : decode cX11_crowd 0 = .ok (.iload_n 1, 1) := by decide +kernel
theorem dX11_crowd_1 : decode cX11_crowd 1 = .ok (.iconst 0, 1) := by decide +kernel
theorem dX11_crowd_2 : decode cX11_crowd 2 = .ok (.bipush 15, 2) := by decide +kernel
theorem dX11_crowd_4 : decode cX11_crowd 4 = .ok (.invokestatic 94, 3) := by decide +kernel
theorem dX11_crowd_7 : decode cX11_crowd 7 = .ok (.ifCond .eq 13, 3) := by decide +kernel
theorem dX11_crowd_10 : decode cX11_crowd 10 = .ok (.iload_n 2, 1) := by decide +kernel
theorem dX11_crowd_11 : decode cX11_crowd 11 = .ok (.iconst 0, 1) := by decide +kernel
theorem dX11_crowd_12 : decode cX11_crowd 12 = .ok (.bipush 15, 2) := by decide +kernel
theorem dX11_crowd_14 : decode cX11_crowd 14 = .ok (.invokestatic 94, 3) := by decide +kernel
theorem dX11_crowd_17 : decode cX11_crowd 17 = .ok (.ifCond .ne 5, 3) := by decide +kernel
theorem dX11_crowd_20 : decode cX11_crowd 20 = .ok (.iconst (-1), 1) := by decide +kernel
theorem dX11_crowd_21 : decode cX11_crowd 21 = .ok (.ireturn, 1) := by decide +kernel
theorem dX11_crowd_22 : decode cX11_crowd 22 = .ok (.aload_n 0, 1) := by decide +kernel
theorem dX11_crowd_23 : decode cX11_crowd 23 = .ok (.getfield 74, 3) := by decide +kernel
theorem dX11_crowd_26 : decode cX11_crowd 26 = .ok (.getfield 164, 3) := by decide +kernel
theorem dX11_crowd_29 : decode cX11_crowd 29 = .ok (.iload_n 1, 1) := by decide +kernel
theorem dX11_crowd_30 : decode cX11_crowd 30 = .ok (.iaload, 1) := by decide +kernel
theorem dX11_crowd_31 : decode cX11_crowd 31 = .ok (.istore_n 3, 1) := by decide +kernel
theorem dX11_crowd_32 : decode cX11_crowd 32 = .ok (.aload_n 0, 1) := by decide +kernel
theorem dX11_crowd_33 : decode cX11_crowd 33 = .ok (.getfield 74, 3) := by decide +kernel
theorem dX11_crowd_36 : decode cX11_crowd 36 = .ok (.getfield 164, 3) := by decide +kernel
theorem dX11_crowd_39 : decode cX11_crowd 39 = .ok (.iload_n 1, 1) := by decide +kernel
theorem dX11_crowd_40 : decode cX11_crowd 40 = .ok (.iload_n 2, 1) := by decide +kernel
theorem dX11_crowd_41 : decode cX11_crowd 41 = .ok (.iastore, 1) := by decide +kernel
theorem dX11_crowd_42 : decode cX11_crowd 42 = .ok (.iload_n 3, 1) := by decide +kernel
theorem dX11_crowd_43 : decode cX11_crowd 43 = .ok (.ireturn, 1) := by decide +kernel
theorem dX11_home_0 : decode cX11_home 0 = .ok (.aload_n 0, 1) := by decide +kernel
theorem dX11_home_1 : decode cX11_home 1 = .ok (.iload_n 1, 1) := by decide +kernel
theorem dX11_home_2 : decode cX11_home 2 = .ok (.iload_n 2, 1) := by decide +kernel
theorem dX11_home_3 : decode cX11_home 3 = .ok (.invokevirtual 167, 3) := by decide +kernel
theorem dX11_home_6 : decode cX11_home 6 = .ok (.istore 4, 2) := by decide +kernel
theorem dX11_home_8 : decode cX11_home 8 = .ok (.iload 4, 2) := by decide +kernel
theorem dX11_home_10 : decode cX11_home 10 = .ok (.ifCond .lt 13, 3) := by decide +kernel
theorem dX11_home_13 : decode cX11_home 13 = .ok (.iload_n 3, 1) := by decide +kernel
theorem dX11_home_14 : decode cX11_home 14 = .ok (.iconst 0, 1) := by decide +kernel
theorem dX11_home_15 : decode cX11_home 15 = .ok (.bipush 9, 2) := by decide +kernel
theorem dX11_home_17 : decode cX11_home 17 = .ok (.invokestatic 94, 3) := by decide +kernel
theorem dX11_home_20 : decode cX11_home 20 = .ok (.ifCond .ne 5, 3) := by decide +kernel
theorem dX11_home_23 : decode cX11_home 23 = .ok (.iconst (-1), 1) := by decide +kernel
theorem dX11_home_24 : decode cX11_home 24 = .ok (.ireturn, 1) := by decide +kernel
theorem dX11_home_25 : decode cX11_home 25 = .ok (.iload_n 2, 1) := by decide +kernel
theorem dX11_home_26 : decode cX11_home 26 = .ok (.ifCond .ne 16, 3) := by decide +kernel
theorem dX11_home_29 : decode cX11_home 29 = .ok (.aload_n 0, 1) := by decide +kernel
theorem dX11_home_30 : decode cX11_home 30 = .ok (.getfield 74, 3) := by decide +kernel
theorem dX11_home_33 : decode cX11_home 33 = .ok (.getfield 170, 3) := by decide +kernel
theorem dX11_home_36 : decode cX11_home 36 = .ok (.iload_n 1, 1) := by decide +kernel
theorem dX11_home_37 : decode cX11_home 37 = .ok (.iload_n 3, 1) := by decide +kernel
theorem dX11_home_38 : decode cX11_home 38 = .ok (.iastore, 1) := by decide +kernel
theorem dX11_home_39 : decode cX11_home 39 = .ok (.goto 13, 3) := by decide +kernel
theorem dX11_home_42 : decode cX11_home 42 = .ok (.aload_n 0, 1) := by decide +kernel
theorem dX11_home_43 : decode cX11_home 43 = .ok (.getfield 74, 3) := by decide +kernel
theorem dX11_home_46 : decode cX11_home 46 = .ok (.getfield 173, 3) := by decide +kernel
theorem dX11_home_49 : decode cX11_home 49 = .ok (.iload_n 1, 1) := by decide +kernel
theorem dX11_home_50 : decode cX11_home 50 = .ok (.iload_n 3, 1) := by decide +kernel
theorem dX11_home_51 : decode cX11_home 51 = .ok (.iastore, 1) := by decide +kernel
theorem dX11_home_52 : decode cX11_home 52 = .ok (.iload 4, 2) := by decide +kernel
theorem dX11_home_54 : decode cX11_home 54 = .ok (.ireturn, 1) := by decide +kernel
theorem dX11_homeOf_0 : decode cX11_homeOf 0 = .ok (.iload_n 1, 1) := by decide +kernel
theorem dX11_homeOf_1 : decode cX11_homeOf 1 = .ok (.invokestatic 98, 3) := by decide +kernel
theorem dX11_homeOf_4 : decode cX11_homeOf 4 = .ok (.ifCond .eq 12, 3) := by decide +kernel
theorem dX11_homeOf_7 : decode cX11_homeOf 7 = .ok (.iload_n 2, 1) := by decide +kernel
theorem dX11_homeOf_8 : decode cX11_homeOf 8 = .ok (.iconst 0, 1) := by decide +kernel
theorem dX11_homeOf_9 : decode cX11_homeOf 9 = .ok (.iconst 1, 1) := by decide +kernel
theorem dX11_homeOf_10 : decode cX11_homeOf 10 = .ok (.invokestatic 94, 3) := by decide +kernel
theorem dX11_homeOf_13 : decode cX11_homeOf 13 = .ok (.ifCond .ne 5, 3) := by decide +kernel
theorem dX11_homeOf_16 : decode cX11_homeOf 16 = .ok (.iconst (-1), 1) := by decide +kernel
theorem dX11_homeOf_17 : decode cX11_homeOf 17 = .ok (.ireturn, 1) := by decide +kernel
theorem dX11_homeOf_18 : decode cX11_homeOf 18 = .ok (.iload_n 2, 1) := by decide +kernel
theorem dX11_homeOf_19 : decode cX11_homeOf 19 = .ok (.ifCond .ne 15, 3) := by decide +kernel
theorem dX11_homeOf_22 : decode cX11_homeOf 22 = .ok (.aload_n 0, 1) := by decide +kernel
theorem dX11_homeOf_23 : decode cX11_homeOf 23 = .ok (.getfield 74, 3) := by decide +kernel
theorem dX11_homeOf_26 : decode cX11_homeOf 26 = .ok (.getfield 170, 3) := by decide +kernel
theorem dX11_homeOf_29 : decode cX11_homeOf 29 = .ok (.iload_n 1, 1) := by decide +kernel
theorem dX11_homeOf_30 : decode cX11_homeOf 30 = .ok (.iaload, 1) := by decide +kernel
theorem dX11_homeOf_31 : decode cX11_homeOf 31 = .ok (.goto 12, 3) := by decide +kernel
theorem dX11_homeOf_34 : decode cX11_homeOf 34 = .ok (.aload_n 0, 1) := by decide +kernel
theorem dX11_homeOf_35 : decode cX11_homeOf 35 = .ok (.getfield 74, 3) := by decide +kernel
theorem dX11_homeOf_38 : decode cX11_homeOf 38 = .ok (.getfield 173, 3) := by decide +kernel
theorem dX11_homeOf_41 : decode cX11_homeOf 41 = .ok (.iload_n 1, 1) := by decide +kernel
theorem dX11_homeOf_42 : decode cX11_homeOf 42 = .ok (.iaload, 1) := by decide +kernel
theorem dX11_homeOf_43 : decode cX11_homeOf 43 = .ok (.ireturn, 1) := by decide +kernel
theorem dX11_ends_0 : decode cX11_ends 0 = .ok (.iload_n 1, 1) := by decide +kernel
theorem dX11_ends_1 : decode cX11_ends 1 = .ok (.iconst 1, 1) := by decide +kernel
theorem dX11_ends_2 : decode cX11_ends 2 = .ok (.bipush 16, 2) := by decide +kernel
theorem dX11_ends_4 : decode cX11_ends 4 = .ok (.invokestatic 94, 3) := by decide +kernel
theorem dX11_ends_7 : decode cX11_ends 7 = .ok (.ifCond .ne 5, 3) := by decide +kernel
theorem dX11_ends_10 : decode cX11_ends 10 = .ok (.iconst (-1), 1) := by decide +kernel
theorem dX11_ends_11 : decode cX11_ends 11 = .ok (.ireturn, 1) := by decide +kernel
theorem dX11_ends_12 : decode cX11_ends 12 = .ok (.iload_n 1, 1) := by decide +kernel
theorem dX11_ends_13 : decode cX11_ends 13 = .ok (.aload_n 0, 1) := by decide +kernel
theorem dX11_ends_14 : decode cX11_ends 14 = .ok (.getfield 74, 3) := by decide +kernel
theorem dX11_ends_17 : decode cX11_ends 17 = .ok (.getfield 112, 3) := by decide +kernel
theorem dX11_ends_20 : decode cX11_ends 20 = .ok (.getfield 137, 3) := by decide +kernel
theorem dX11_ends_23 : decode cX11_ends 23 = .ok (.if_icmp .ge 6, 3) := by decide +kernel
theorem dX11_ends_26 : decode cX11_ends 26 = .ok (.bipush (-4), 2) := by decide +kernel
theorem dX11_ends_28 : decode cX11_ends 28 = .ok (.ireturn, 1) := by decide +kernel
theorem dX11_ends_29 : decode cX11_ends 29 = .ok (.aload_n 0, 1) := by decide +kernel
theorem dX11_ends_30 : decode cX11_ends 30 = .ok (.getfield 74, 3) := by decide +kernel
theorem dX11_ends_33 : decode cX11_ends 33 = .ok (.getfield 176, 3) := by decide +kernel
theorem dX11_ends_36 : decode cX11_ends 36 = .ok (.istore_n 2, 1) := by decide +kernel
theorem dX11_ends_37 : decode cX11_ends 37 = .ok (.aload_n 0, 1) := by decide +kernel
theorem dX11_ends_38 : decode cX11_ends 38 = .ok (.getfield 74, 3) := by decide +kernel
theorem dX11_ends_41 : decode cX11_ends 41 = .ok (.iload_n 1, 1) := by decide +kernel
theorem dX11_ends_42 : decode cX11_ends 42 = .ok (.putfield 176, 3) := by decide +kernel
theorem dX11_ends_45 : decode cX11_ends 45 = .ok (.iload_n 2, 1) := by decide +kernel
theorem dX11_ends_46 : decode cX11_ends 46 = .ok (.ireturn, 1) := by decide +kernel
theorem dX11_anew_0 : decode cX11_anew 0 = .ok (.aload_n 0, 1) := by decide +kernel
theorem dX11_anew_1 : decode cX11_anew 1 = .ok (.getfield 74, 3) := by decide +kernel
theorem dX11_anew_4 : decode cX11_anew 4 = .ok (.getfield 112, 3) := by decide +kernel
theorem dX11_anew_7 : decode cX11_anew 7 = .ok (.getfield 137, 3) := by decide +kernel
theorem dX11_anew_10 : decode cX11_anew 10 = .ok (.istore_n 1, 1) := by decide +kernel
theorem dX11_anew_11 : decode cX11_anew 11 = .ok (.aload_n 0, 1) := by decide +kernel
theorem dX11_anew_12 : decode cX11_anew 12 = .ok (.getfield 74, 3) := by decide +kernel
theorem dX11_anew_15 : decode cX11_anew 15 = .ok (.invokevirtual 179, 3) := by decide +kernel
theorem dX11_anew_18 : decode cX11_anew 18 = .ok (.iload_n 1, 1) := by decide +kernel
theorem dX11_anew_19 : decode cX11_anew 19 = .ok (.ireturn, 1) := by decide +kernel
theorem dX11_state_0 : decode cX11_state 0 = .ok (.iload_n 1, 1) := by decide +kernel
theorem dX11_state_1 : decode cX11_state 1 = .ok (.tableswitch 130 0 6 #[43, 54, 62, 70, 93, 104, 122], 43) := by decide +kernel
theorem dX11_state_44 : decode cX11_state 44 = .ok (.aload_n 0, 1) := by decide +kernel
theorem dX11_state_45 : decode cX11_state 45 = .ok (.getfield 74, 3) := by decide +kernel
theorem dX11_state_48 : decode cX11_state 48 = .ok (.getfield 112, 3) := by decide +kernel
theorem dX11_state_51 : decode cX11_state 51 = .ok (.getfield 137, 3) := by decide +kernel
theorem dX11_state_54 : decode cX11_state 54 = .ok (.ireturn, 1) := by decide +kernel
theorem dX11_state_55 : decode cX11_state 55 = .ok (.aload_n 0, 1) := by decide +kernel
theorem dX11_state_56 : decode cX11_state 56 = .ok (.getfield 74, 3) := by decide +kernel
theorem dX11_state_59 : decode cX11_state 59 = .ok (.getfield 176, 3) := by decide +kernel
theorem dX11_state_62 : decode cX11_state 62 = .ok (.ireturn, 1) := by decide +kernel
theorem dX11_state_63 : decode cX11_state 63 = .ok (.aload_n 0, 1) := by decide +kernel
theorem dX11_state_64 : decode cX11_state 64 = .ok (.getfield 74, 3) := by decide +kernel
theorem dX11_state_67 : decode cX11_state 67 = .ok (.getfield 182, 3) := by decide +kernel
theorem dX11_state_70 : decode cX11_state 70 = .ok (.ireturn, 1) := by decide +kernel
theorem dX11_state_71 : decode cX11_state 71 = .ok (.aload_n 0, 1) := by decide +kernel
theorem dX11_state_72 : decode cX11_state 72 = .ok (.getfield 74, 3) := by decide +kernel
theorem dX11_state_75 : decode cX11_state 75 = .ok (.aload_n 0, 1) := by decide +kernel
theorem dX11_state_76 : decode cX11_state 76 = .ok (.getfield 74, 3) := by decide +kernel
theorem dX11_state_79 : decode cX11_state 79 = .ok (.getfield 112, 3) := by decide +kernel
theorem dX11_state_82 : decode cX11_state 82 = .ok (.invokevirtual 185, 3) := by decide +kernel
theorem dX11_state_85 : decode cX11_state 85 = .ok (.ifCond .eq 7, 3) := by decide +kernel
theorem dX11_state_88 : decode cX11_state 88 = .ok (.iconst 1, 1) := by decide +kernel
theorem dX11_state_89 : decode cX11_state 89 = .ok (.goto 4, 3) := by decide +kernel
theorem dX11_state_92 : decode cX11_state 92 = .ok (.iconst 0, 1) := by decide +kernel
theorem dX11_state_93 : decode cX11_state 93 = .ok (.ireturn, 1) := by decide +kernel
theorem dX11_state_94 : decode cX11_state 94 = .ok (.aload_n 0, 1) := by decide +kernel
theorem dX11_state_95 : decode cX11_state 95 = .ok (.getfield 74, 3) := by decide +kernel
theorem dX11_state_98 : decode cX11_state 98 = .ok (.getfield 112, 3) := by decide +kernel
theorem dX11_state_101 : decode cX11_state 101 = .ok (.getfield 189, 3) := by decide +kernel
theorem dX11_state_104 : decode cX11_state 104 = .ok (.ireturn, 1) := by decide +kernel
theorem dX11_state_105 : decode cX11_state 105 = .ok (.aload_n 0, 1) := by decide +kernel
theorem dX11_state_106 : decode cX11_state 106 = .ok (.getfield 74, 3) := by decide +kernel
theorem dX11_state_109 : decode cX11_state 109 = .ok (.aload_n 0, 1) := by decide +kernel
theorem dX11_state_110 : decode cX11_state 110 = .ok (.getfield 74, 3) := by decide +kernel
theorem dX11_state_113 : decode cX11_state 113 = .ok (.getfield 112, 3) := by decide +kernel
theorem dX11_state_116 : decode cX11_state 116 = .ok (.getfield 137, 3) := by decide +kernel
theorem dX11_state_119 : decode cX11_state 119 = .ok (.invokevirtual 192, 3) := by decide +kernel
theorem dX11_state_122 : decode cX11_state 122 = .ok (.ireturn, 1) := by decide +kernel
theorem dX11_state_123 : decode cX11_state 123 = .ok (.aload_n 0, 1) := by decide +kernel
theorem dX11_state_124 : decode cX11_state 124 = .ok (.getfield 74, 3) := by decide +kernel
theorem dX11_state_127 : decode cX11_state 127 = .ok (.invokevirtual 195, 3) := by decide +kernel
theorem dX11_state_130 : decode cX11_state 130 = .ok (.ireturn, 1) := by decide +kernel
theorem dX11_state_131 : decode cX11_state 131 = .ok (.iconst (-1), 1) := by decide +kernel
theorem dX11_state_132 : decode cX11_state 132 = .ok (.ireturn, 1) := by decide +kernel
theorem dX11_feed_0 : decode cX11_feed 0 = .ok (.iload_n 3, 1) := by decide +kernel
theorem dX11_feed_1 : decode cX11_feed 1 = .ok (.iconst 1, 1) := by decide +kernel
theorem dX11_feed_2 : decode cX11_feed 2 = .ok (.bipush 8, 2) := by decide +kernel
theorem dX11_feed_4 : decode cX11_feed 4 = .ok (.invokestatic 94, 3) := by decide +kernel
theorem dX11_feed_7 : decode cX11_feed 7 = .ok (.ifCond .ne 5, 3) := by decide +kernel
theorem dX11_feed_10 : decode cX11_feed 10 = .ok (.iconst (-1), 1) := by decide +kernel
theorem dX11_feed_11 : decode cX11_feed 11 = .ok (.ireturn, 1) := by decide +kernel
theorem dX11_feed_12 : decode cX11_feed 12 = .ok (.aload_n 0, 1) := by decide +kernel
theorem dX11_feed_13 : decode cX11_feed 13 = .ok (.getfield 199, 3) := by decide +kernel
theorem dX11_feed_16 : decode cX11_feed 16 = .ok (.iload_n 3, 1) := by decide +kernel
theorem dX11_feed_17 : decode cX11_feed 17 = .ok (.iadd, 1) := by decide +kernel
theorem dX11_feed_18 : decode cX11_feed 18 = .ok (.sipush 200, 3) := by decide +kernel
theorem dX11_feed_21 : decode cX11_feed 21 = .ok (.if_icmp .le 6, 3) := by decide +kernel
theorem dX11_feed_24 : decode cX11_feed 24 = .ok (.bipush (-2), 2) := by decide +kernel
theorem dX11_feed_26 : decode cX11_feed 26 = .ok (.ireturn, 1) := by decide +kernel
theorem dX11_feed_27 : decode cX11_feed 27 = .ok (.iconst 0, 1) := by decide +kernel
theorem dX11_feed_28 : decode cX11_feed 28 = .ok (.istore 4, 2) := by decide +kernel
theorem dX11_feed_30 : decode cX11_feed 30 = .ok (.iload 4, 2) := by decide +kernel
theorem dX11_feed_32 : decode cX11_feed 32 = .ok (.iload_n 3, 1) := by decide +kernel
theorem dX11_feed_33 : decode cX11_feed 33 = .ok (.if_icmp .ge 30, 3) := by decide +kernel
theorem dX11_feed_36 : decode cX11_feed 36 = .ok (.aload_n 0, 1) := by decide +kernel
theorem dX11_feed_37 : decode cX11_feed 37 = .ok (.getfield 16, 3) := by decide +kernel
theorem dX11_feed_40 : decode cX11_feed 40 = .ok (.aload_n 0, 1) := by decide +kernel
theorem dX11_feed_41 : decode cX11_feed 41 = .ok (.getfield 199, 3) := by decide +kernel
theorem dX11_feed_44 : decode cX11_feed 44 = .ok (.iload 4, 2) := by decide +kernel
theorem dX11_feed_46 : decode cX11_feed 46 = .ok (.iadd, 1) := by decide +kernel
theorem dX11_feed_47 : decode cX11_feed 47 = .ok (.lload_n 1, 1) := by decide +kernel
theorem dX11_feed_48 : decode cX11_feed 48 = .ok (.bipush 8, 2) := by decide +kernel
theorem dX11_feed_50 : decode cX11_feed 50 = .ok (.iload 4, 2) := by decide +kernel
theorem dX11_feed_52 : decode cX11_feed 52 = .ok (.imul, 1) := by decide +kernel
theorem dX11_feed_53 : decode cX11_feed 53 = .ok (.lushr, 1) := by decide +kernel
theorem dX11_feed_54 : decode cX11_feed 54 = .ok (.l2i, 1) := by decide +kernel
theorem dX11_feed_55 : decode cX11_feed 55 = .ok (.i2b, 1) := by decide +kernel
theorem dX11_feed_56 : decode cX11_feed 56 = .ok (.bastore, 1) := by decide +kernel
theorem dX11_feed_57 : decode cX11_feed 57 = .ok (.iinc 4 1, 3) := by decide +kernel
theorem dX11_feed_60 : decode cX11_feed 60 = .ok (.goto (-30), 3) := by decide +kernel
theorem dX11_feed_63 : decode cX11_feed 63 = .ok (.aload_n 0, 1) := by decide +kernel
theorem dX11_feed_64 : decode cX11_feed 64 = .ok (.dup, 1) := by decide +kernel
theorem dX11_feed_65 : decode cX11_feed 65 = .ok (.getfield 199, 3) := by decide +kernel
theorem dX11_feed_68 : decode cX11_feed 68 = .ok (.iload_n 3, 1) := by decide +kernel
theorem dX11_feed_69 : decode cX11_feed 69 = .ok (.iadd, 1) := by decide +kernel
theorem dX11_feed_70 : decode cX11_feed 70 = .ok (.putfield 199, 3) := by decide +kernel
theorem dX11_feed_73 : decode cX11_feed 73 = .ok (.aload_n 0, 1) := by decide +kernel
theorem dX11_feed_74 : decode cX11_feed 74 = .ok (.getfield 199, 3) := by decide +kernel
theorem dX11_feed_77 : decode cX11_feed 77 = .ok (.ireturn, 1) := by decide +kernel
theorem dX11_rules_0 : decode cX11_rules 0 = .ok (.aload_n 0, 1) := by decide +kernel
theorem dX11_rules_1 : decode cX11_rules 1 = .ok (.getfield 23, 3) := by decide +kernel
theorem dX11_rules_4 : decode cX11_rules 4 = .ok (.aload_n 0, 1) := by decide +kernel
theorem dX11_rules_5 : decode cX11_rules 5 = .ok (.getfield 16, 3) := by decide +kernel
theorem dX11_rules_8 : decode cX11_rules 8 = .ok (.aload_n 0, 1) := by decide +kernel
theorem dX11_rules_9 : decode cX11_rules 9 = .ok (.getfield 199, 3) := by decide +kernel
theorem dX11_rules_12 : decode cX11_rules 12 = .ok (.invokevirtual 202, 3) := by decide +kernel
theorem dX11_rules_15 : decode cX11_rules 15 = .ok (.istore_n 1, 1) := by decide +kernel
theorem dX11_rules_16 : decode cX11_rules 16 = .ok (.aload_n 0, 1) := by decide +kernel
theorem dX11_rules_17 : decode cX11_rules 17 = .ok (.iconst 0, 1) := by decide +kernel
theorem dX11_rules_18 : decode cX11_rules 18 = .ok (.putfield 199, 3) := by decide +kernel
theorem dX11_rules_21 : decode cX11_rules 21 = .ok (.iload_n 1, 1) := by decide +kernel
theorem dX11_rules_22 : decode cX11_rules 22 = .ok (.ifCond .lt 8, 3) := by decide +kernel
theorem dX11_rules_25 : decode cX11_rules 25 = .ok (.bipush (-100), 2) := by decide +kernel
theorem dX11_rules_27 : decode cX11_rules 27 = .ok (.iload_n 1, 1) := by decide +kernel
theorem dX11_rules_28 : decode cX11_rules 28 = .ok (.isub, 1) := by decide +kernel
theorem dX11_rules_29 : decode cX11_rules 29 = .ok (.ireturn, 1) := by decide +kernel
theorem dX11_rules_30 : decode cX11_rules 30 = .ok (.aload_n 0, 1) := by decide +kernel
theorem dX11_rules_31 : decode cX11_rules 31 = .ok (.getfield 74, 3) := by decide +kernel
theorem dX11_rules_34 : decode cX11_rules 34 = .ok (.getfield 206, 3) := by decide +kernel
theorem dX11_rules_37 : decode cX11_rules 37 = .ok (.aload_n 0, 1) := by decide +kernel
theorem dX11_rules_38 : decode cX11_rules 38 = .ok (.getfield 23, 3) := by decide +kernel
theorem dX11_rules_41 : decode cX11_rules 41 = .ok (.invokevirtual 209, 3) := by decide +kernel
theorem dX11_rules_44 : decode cX11_rules 44 = .ok (.aload_n 0, 1) := by decide +kernel
theorem dX11_rules_45 : decode cX11_rules 45 = .ok (.getfield 74, 3) := by decide +kernel
theorem dX11_rules_48 : decode cX11_rules 48 = .ok (.getfield 206, 3) := by decide +kernel
theorem dX11_rules_51 : decode cX11_rules 51 = .ok (.getfield 213, 3) := by decide +kernel
theorem dX11_rules_54 : decode cX11_rules 54 = .ok (.ireturn, 1) := by decide +kernel
theorem dX11_train_0 : decode cX11_train 0 = .ok (.aload_n 0, 1) := by decide +kernel
theorem dX11_train_1 : decode cX11_train 1 = .ok (.getfield 74, 3) := by decide +kernel
theorem dX11_train_4 : decode cX11_train 4 = .ok (.aload_n 0, 1) := by decide +kernel
theorem dX11_train_5 : decode cX11_train 5 = .ok (.getfield 74, 3) := by decide +kernel
theorem dX11_train_8 : decode cX11_train 8 = .ok (.getfield 112, 3) := by decide +kernel
theorem dX11_train_11 : decode cX11_train 11 = .ok (.invokevirtual 185, 3) := by decide +kernel
theorem dX11_train_14 : decode cX11_train 14 = .ok (.ifCond .eq 6, 3) := by decide +kernel
theorem dX11_train_17 : decode cX11_train 17 = .ok (.bipush (-4), 2) := by decide +kernel
theorem dX11_train_19 : decode cX11_train 19 = .ok (.ireturn, 1) := by decide +kernel
theorem dX11_train_20 : decode cX11_train 20 = .ok (.aload_n 0, 1) := by decide +kernel
theorem dX11_train_21 : decode cX11_train 21 = .ok (.getfield 74, 3) := by decide +kernel
theorem dX11_train_24 : decode cX11_train 24 = .ok (.aload_n 0, 1) := by decide +kernel
theorem dX11_train_25 : decode cX11_train 25 = .ok (.getfield 74, 3) := by decide +kernel
theorem dX11_train_28 : decode cX11_train 28 = .ok (.aload_n 0, 1) := by decide +kernel
theorem dX11_train_29 : decode cX11_train 29 = .ok (.getfield 74, 3) := by decide +kernel
theorem dX11_train_32 : decode cX11_train 32 = .ok (.getfield 112, 3) := by decide +kernel
theorem dX11_train_35 : decode cX11_train 35 = .ok (.invokevirtual 216, 3) := by decide +kernel
theorem dX11_train_38 : decode cX11_train 38 = .ok (.invokevirtual 220, 3) := by decide +kernel
theorem dX11_train_41 : decode cX11_train 41 = .ok (.ireturn, 1) := by decide +kernel
theorem dX11_on_0 : decode cX11_on 0 = .ok (.iload_n 1, 1) := by decide +kernel
theorem dX11_on_1 : decode cX11_on 1 = .ok (.iconst 0, 1) := by decide +kernel
theorem dX11_on_2 : decode cX11_on 2 = .ok (.bipush 16, 2) := by decide +kernel
theorem dX11_on_4 : decode cX11_on 4 = .ok (.invokestatic 94, 3) := by decide +kernel
theorem dX11_on_7 : decode cX11_on 7 = .ok (.ifCond .ne 5, 3) := by decide +kernel
theorem dX11_on_10 : decode cX11_on 10 = .ok (.iconst (-1), 1) := by decide +kernel
theorem dX11_on_11 : decode cX11_on 11 = .ok (.ireturn, 1) := by decide +kernel
theorem dX11_on_12 : decode cX11_on 12 = .ok (.aload_n 0, 1) := by decide +kernel
theorem dX11_on_13 : decode cX11_on 13 = .ok (.iload_n 1, 1) := by decide +kernel
theorem dX11_on_14 : decode cX11_on 14 = .ok (.invokevirtual 223, 3) := by decide +kernel
theorem dX11_on_17 : decode cX11_on 17 = .ok (.ireturn, 1) := by decide +kernel
theorem dX11_when_0 : decode cX11_when 0 = .ok (.aload_n 0, 1) := by decide +kernel
theorem dX11_when_1 : decode cX11_when 1 = .ok (.iload_n 1, 1) := by decide +kernel
theorem dX11_when_2 : decode cX11_when 2 = .ok (.invokevirtual 109, 3) := by decide +kernel
theorem dX11_when_5 : decode cX11_when 5 = .ok (.ifCond .ne 5, 3) := by decide +kernel
theorem dX11_when_8 : decode cX11_when 8 = .ok (.iconst (-1), 1) := by decide +kernel
theorem dX11_when_9 : decode cX11_when 9 = .ok (.ireturn, 1) := by decide +kernel
theorem dX11_when_10 : decode cX11_when 10 = .ok (.aload_n 0, 1) := by decide +kernel
theorem dX11_when_11 : decode cX11_when 11 = .ok (.getfield 74, 3) := by decide +kernel
theorem dX11_when_14 : decode cX11_when 14 = .ok (.getfield 112, 3) := by decide +kernel
theorem dX11_when_17 : decode cX11_when 17 = .ok (.iload_n 1, 1) := by decide +kernel
theorem dX11_when_18 : decode cX11_when 18 = .ok (.invokevirtual 127, 3) := by decide +kernel
theorem dX11_when_21 : decode cX11_when 21 = .ok (.ifCond .eq 6, 3) := by decide +kernel
theorem dX11_when_24 : decode cX11_when 24 = .ok (.bipush (-3), 2) := by decide +kernel
theorem dX11_when_26 : decode cX11_when 26 = .ok (.ireturn, 1) := by decide +kernel
theorem dX11_when_27 : decode cX11_when 27 = .ok (.aload_n 0, 1) := by decide +kernel
theorem dX11_when_28 : decode cX11_when 28 = .ok (.getfield 10, 3) := by decide +kernel
theorem dX11_when_31 : decode cX11_when 31 = .ok (.aload_n 0, 1) := by decide +kernel
theorem dX11_when_32 : decode cX11_when 32 = .ok (.getfield 74, 3) := by decide +kernel
theorem dX11_when_35 : decode cX11_when 35 = .ok (.getfield 112, 3) := by decide +kernel
theorem dX11_when_38 : decode cX11_when 38 = .ok (.invokevirtual 226, 3) := by decide +kernel
theorem dX11_when_41 : decode cX11_when 41 = .ok (.iconst 0, 1) := by decide +kernel
theorem dX11_when_42 : decode cX11_when 42 = .ok (.istore_n 2, 1) := by decide +kernel
theorem dX11_when_43 : decode cX11_when 43 = .ok (.iload_n 2, 1) := by decide +kernel
theorem dX11_when_44 : decode cX11_when 44 = .ok (.bipush 16, 2) := by decide +kernel
theorem dX11_when_46 : decode cX11_when 46 = .ok (.if_icmp .ge 67, 3) := by decide +kernel
theorem dX11_when_49 : decode cX11_when 49 = .ok (.aload_n 0, 1) := by decide +kernel
theorem dX11_when_50 : decode cX11_when 50 = .ok (.getfield 74, 3) := by decide +kernel
theorem dX11_when_53 : decode cX11_when 53 = .ok (.aload_n 0, 1) := by decide +kernel
theorem dX11_when_54 : decode cX11_when 54 = .ok (.getfield 10, 3) := by decide +kernel
theorem dX11_when_57 : decode cX11_when 57 = .ok (.invokevirtual 185, 3) := by decide +kernel
theorem dX11_when_60 : decode cX11_when 60 = .ok (.ifCond .ne 53, 3) := by decide +kernel
theorem dX11_when_63 : decode cX11_when 63 = .ok (.aload_n 0, 1) := by decide +kernel
theorem dX11_when_64 : decode cX11_when 64 = .ok (.getfield 10, 3) := by decide +kernel
theorem dX11_when_67 : decode cX11_when 67 = .ok (.getfield 137, 3) := by decide +kernel
theorem dX11_when_70 : decode cX11_when 70 = .ok (.istore_n 3, 1) := by decide +kernel
theorem dX11_when_71 : decode cX11_when 71 = .ok (.aload_n 0, 1) := by decide +kernel
theorem dX11_when_72 : decode cX11_when 72 = .ok (.getfield 74, 3) := by decide +kernel
theorem dX11_when_75 : decode cX11_when 75 = .ok (.aload_n 0, 1) := by decide +kernel
theorem dX11_when_76 : decode cX11_when 76 = .ok (.getfield 10, 3) := by decide +kernel
theorem dX11_when_79 : decode cX11_when 79 = .ok (.aload_n 0, 1) := by decide +kernel
theorem dX11_when_80 : decode cX11_when 80 = .ok (.getfield 74, 3) := by decide +kernel
theorem dX11_when_83 : decode cX11_when 83 = .ok (.aload_n 0, 1) := by decide +kernel
theorem dX11_when_84 : decode cX11_when 84 = .ok (.getfield 10, 3) := by decide +kernel
theorem dX11_when_87 : decode cX11_when 87 = .ok (.invokevirtual 216, 3) := by decide +kernel
theorem dX11_when_90 : decode cX11_when 90 = .ok (.invokevirtual 229, 3) := by decide +kernel
theorem dX11_when_93 : decode cX11_when 93 = .ok (.pop, 1) := by decide +kernel
theorem dX11_when_94 : decode cX11_when 94 = .ok (.aload_n 0, 1) := by decide +kernel
theorem dX11_when_95 : decode cX11_when 95 = .ok (.getfield 10, 3) := by decide +kernel
theorem dX11_when_98 : decode cX11_when 98 = .ok (.iload_n 1, 1) := by decide +kernel
theorem dX11_when_99 : decode cX11_when 99 = .ok (.invokevirtual 127, 3) := by decide +kernel
theorem dX11_when_102 : decode cX11_when 102 = .ok (.ifCond .eq 5, 3) := by decide +kernel
theorem dX11_when_105 : decode cX11_when 105 = .ok (.iload_n 3, 1) := by decide +kernel
theorem dX11_when_106 : decode cX11_when 106 = .ok (.ireturn, 1) := by decide +kernel
theorem dX11_when_107 : decode cX11_when 107 = .ok (.iinc 2 1, 3) := by decide +kernel
theorem dX11_when_110 : decode cX11_when 110 = .ok (.goto (-67), 3) := by decide +kernel
theorem dX11_when_113 : decode cX11_when 113 = .ok (.bipush (-3), 2) := by decide +kernel
theorem dX11_when_115 : decode cX11_when 115 = .ok (.ireturn, 1) := by decide +kernel
theorem dX11_wishFor_0 : decode cX11_wishFor 0 = .ok (.aload_n 0, 1) := by decide +kernel
theorem dX11_wishFor_1 : decode cX11_wishFor 1 = .ok (.iload_n 1, 1) := by decide +kernel
theorem dX11_wishFor_2 : decode cX11_wishFor 2 = .ok (.invokevirtual 109, 3) := by decide +kernel
theorem dX11_wishFor_5 : decode cX11_wishFor 5 = .ok (.ifCond .eq 20, 3) := by decide +kernel
theorem dX11_wishFor_8 : decode cX11_wishFor 8 = .ok (.aload_n 0, 1) := by decide +kernel
theorem dX11_wishFor_9 : decode cX11_wishFor 9 = .ok (.iload_n 1, 1) := by decide +kernel
theorem dX11_wishFor_10 : decode cX11_wishFor 10 = .ok (.aload_n 0, 1) := by decide +kernel
theorem dX11_wishFor_11 : decode cX11_wishFor 11 = .ok (.getfield 74, 3) := by decide +kernel
theorem dX11_wishFor_14 : decode cX11_wishFor 14 = .ok (.getfield 121, 3) := by decide +kernel
theorem dX11_wishFor_17 : decode cX11_wishFor 17 = .ok (.bipush 9, 2) := by decide +kernel
theorem dX11_wishFor_19 : decode cX11_wishFor 19 = .ok (.invokevirtual 232, 3) := by decide +kernel
theorem dX11_wishFor_22 : decode cX11_wishFor 22 = .ok (.goto 4, 3) := by decide +kernel
theorem dX11_wishFor_25 : decode cX11_wishFor 25 = .ok (.iconst (-1), 1) := by decide +kernel
theorem dX11_wishFor_26 : decode cX11_wishFor 26 = .ok (.ireturn, 1) := by decide +kernel
theorem dX11_homeFor_0 : decode cX11_homeFor 0 = .ok (.aload_n 0, 1) := by decide +kernel
theorem dX11_homeFor_1 : decode cX11_homeFor 1 = .ok (.iload_n 1, 1) := by decide +kernel
theorem dX11_homeFor_2 : decode cX11_homeFor 2 = .ok (.invokevirtual 109, 3) := by decide +kernel
theorem dX11_homeFor_5 : decode cX11_homeFor 5 = .ok (.ifCond .eq 19, 3) := by decide +kernel
theorem dX11_homeFor_8 : decode cX11_homeFor 8 = .ok (.aload_n 0, 1) := by decide +kernel
theorem dX11_homeFor_9 : decode cX11_homeFor 9 = .ok (.iload_n 1, 1) := by decide +kernel
theorem dX11_homeFor_10 : decode cX11_homeFor 10 = .ok (.aload_n 0, 1) := by decide +kernel
theorem dX11_homeFor_11 : decode cX11_homeFor 11 = .ok (.getfield 74, 3) := by decide +kernel
theorem dX11_homeFor_14 : decode cX11_homeFor 14 = .ok (.getfield 124, 3) := by decide +kernel
theorem dX11_homeFor_17 : decode cX11_homeFor 17 = .ok (.iconst 5, 1) := by decide +kernel
theorem dX11_homeFor_18 : decode cX11_homeFor 18 = .ok (.invokevirtual 232, 3) := by decide +kernel
theorem dX11_homeFor_21 : decode cX11_homeFor 21 = .ok (.goto 4, 3) := by decide +kernel
theorem dX11_homeFor_24 : decode cX11_homeFor 24 = .ok (.iconst (-1), 1) := by decide +kernel
theorem dX11_homeFor_25 : decode cX11_homeFor 25 = .ok (.ireturn, 1) := by decide +kernel
theorem dX11_lost_0 : decode cX11_lost 0 = .ok (.aload_n 0, 1) := by decide +kernel
theorem dX11_lost_1 : decode cX11_lost 1 = .ok (.iload_n 1, 1) := by decide +kernel
theorem dX11_lost_2 : decode cX11_lost 2 = .ok (.invokevirtual 109, 3) := by decide +kernel
theorem dX11_lost_5 : decode cX11_lost 5 = .ok (.ifCond .ne 5, 3) := by decide +kernel
theorem dX11_lost_8 : decode cX11_lost 8 = .ok (.iconst (-1), 1) := by decide +kernel
theorem dX11_lost_9 : decode cX11_lost 9 = .ok (.ireturn, 1) := by decide +kernel
theorem dX11_lost_10 : decode cX11_lost 10 = .ok (.aload_n 0, 1) := by decide +kernel
theorem dX11_lost_11 : decode cX11_lost 11 = .ok (.getfield 10, 3) := by decide +kernel
theorem dX11_lost_14 : decode cX11_lost 14 = .ok (.aload_n 0, 1) := by decide +kernel
theorem dX11_lost_15 : decode cX11_lost 15 = .ok (.getfield 74, 3) := by decide +kernel
theorem dX11_lost_18 : decode cX11_lost 18 = .ok (.getfield 112, 3) := by decide +kernel
theorem dX11_lost_21 : decode cX11_lost 21 = .ok (.invokevirtual 226, 3) := by decide +kernel
theorem dX11_lost_24 : decode cX11_lost 24 = .ok (.iconst 0, 1) := by decide +kernel
theorem dX11_lost_25 : decode cX11_lost 25 = .ok (.istore_n 2, 1) := by decide +kernel
theorem dX11_lost_26 : decode cX11_lost 26 = .ok (.iload_n 2, 1) := by decide +kernel
theorem dX11_lost_27 : decode cX11_lost 27 = .ok (.bipush 16, 2) := by decide +kernel
theorem dX11_lost_29 : decode cX11_lost 29 = .ok (.if_icmp .gt 71, 3) := by decide +kernel
theorem dX11_lost_32 : decode cX11_lost 32 = .ok (.aload_n 0, 1) := by decide +kernel
theorem dX11_lost_33 : decode cX11_lost 33 = .ok (.getfield 10, 3) := by decide +kernel
theorem dX11_lost_36 : decode cX11_lost 36 = .ok (.getfield 118, 3) := by decide +kernel
theorem dX11_lost_39 : decode cX11_lost 39 = .ok (.iload_n 1, 1) := by decide +kernel
theorem dX11_lost_40 : decode cX11_lost 40 = .ok (.iaload, 1) := by decide +kernel
theorem dX11_lost_41 : decode cX11_lost 41 = .ok (.bipush 50, 2) := by decide +kernel
theorem dX11_lost_43 : decode cX11_lost 43 = .ok (.if_icmp .lt 11, 3) := by decide +kernel
theorem dX11_lost_46 : decode cX11_lost 46 = .ok (.aload_n 0, 1) := by decide +kernel
theorem dX11_lost_47 : decode cX11_lost 47 = .ok (.getfield 10, 3) := by decide +kernel
theorem dX11_lost_50 : decode cX11_lost 50 = .ok (.getfield 137, 3) := by decide +kernel
theorem dX11_lost_53 : decode cX11_lost 53 = .ok (.ireturn, 1) := by decide +kernel
theorem dX11_lost_54 : decode cX11_lost 54 = .ok (.aload_n 0, 1) := by decide +kernel
theorem dX11_lost_55 : decode cX11_lost 55 = .ok (.getfield 74, 3) := by decide +kernel
theorem dX11_lost_58 : decode cX11_lost 58 = .ok (.aload_n 0, 1) := by decide +kernel
theorem dX11_lost_59 : decode cX11_lost 59 = .ok (.getfield 10, 3) := by decide +kernel
theorem dX11_lost_62 : decode cX11_lost 62 = .ok (.invokevirtual 185, 3) := by decide +kernel
theorem dX11_lost_65 : decode cX11_lost 65 = .ok (.ifCond .eq 6, 3) := by decide +kernel
theorem dX11_lost_68 : decode cX11_lost 68 = .ok (.bipush (-3), 2) := by decide +kernel
theorem dX11_lost_70 : decode cX11_lost 70 = .ok (.ireturn, 1) := by decide +kernel
theorem dX11_lost_71 : decode cX11_lost 71 = .ok (.aload_n 0, 1) := by decide +kernel
theorem dX11_lost_72 : decode cX11_lost 72 = .ok (.getfield 74, 3) := by decide +kernel
theorem dX11_lost_75 : decode cX11_lost 75 = .ok (.aload_n 0, 1) := by decide +kernel
theorem dX11_lost_76 : decode cX11_lost 76 = .ok (.getfield 10, 3) := by decide +kernel
theorem dX11_lost_79 : decode cX11_lost 79 = .ok (.aload_n 0, 1) := by decide +kernel
theorem dX11_lost_80 : decode cX11_lost 80 = .ok (.getfield 74, 3) := by decide +kernel
theorem dX11_lost_83 : decode cX11_lost 83 = .ok (.aload_n 0, 1) := by decide +kernel
theorem dX11_lost_84 : decode cX11_lost 84 = .ok (.getfield 10, 3) := by decide +kernel
theorem dX11_lost_87 : decode cX11_lost 87 = .ok (.invokevirtual 216, 3) := by decide +kernel
theorem dX11_lost_90 : decode cX11_lost 90 = .ok (.invokevirtual 229, 3) := by decide +kernel
theorem dX11_lost_93 : decode cX11_lost 93 = .ok (.pop, 1) := by decide +kernel
theorem dX11_lost_94 : decode cX11_lost 94 = .ok (.iinc 2 1, 3) := by decide +kernel
theorem dX11_lost_97 : decode cX11_lost 97 = .ok (.goto (-71), 3) := by decide +kernel
theorem dX11_lost_100 : decode cX11_lost 100 = .ok (.bipush (-3), 2) := by decide +kernel
theorem dX11_lost_102 : decode cX11_lost 102 = .ok (.ireturn, 1) := by decide +kernel
theorem dX11_reach_0 : decode cX11_reach 0 = .ok (.aload_n 0, 1) := by decide +kernel
theorem dX11_reach_1 : decode cX11_reach 1 = .ok (.iload_n 1, 1) := by decide +kernel
theorem dX11_reach_2 : decode cX11_reach 2 = .ok (.invokevirtual 109, 3) := by decide +kernel
theorem dX11_reach_5 : decode cX11_reach 5 = .ok (.ifCond .eq 10, 3) := by decide +kernel
theorem dX11_reach_8 : decode cX11_reach 8 = .ok (.iload_n 2, 1) := by decide +kernel
theorem dX11_reach_9 : decode cX11_reach 9 = .ok (.invokestatic 98, 3) := by decide +kernel
theorem dX11_reach_12 : decode cX11_reach 12 = .ok (.ifCond .ne 5, 3) := by decide +kernel
theorem dX11_reach_15 : decode cX11_reach 15 = .ok (.iconst (-1), 1) := by decide +kernel
theorem dX11_reach_16 : decode cX11_reach 16 = .ok (.ireturn, 1) := by decide +kernel
theorem dX11_reach_17 : decode cX11_reach 17 = .ok (.iconst 1, 1) := by decide +kernel
theorem dX11_reach_18 : decode cX11_reach 18 = .ok (.aload_n 0, 1) := by decide +kernel
theorem dX11_reach_19 : decode cX11_reach 19 = .ok (.getfield 74, 3) := by decide +kernel
theorem dX11_reach_22 : decode cX11_reach 22 = .ok (.getfield 112, 3) := by decide +kernel
theorem dX11_reach_25 : decode cX11_reach 25 = .ok (.getfield 130, 3) := by decide +kernel
theorem dX11_reach_28 : decode cX11_reach 28 = .ok (.iload_n 1, 1) := by decide +kernel
theorem dX11_reach_29 : decode cX11_reach 29 = .ok (.iaload, 1) := by decide +kernel
theorem dX11_reach_30 : decode cX11_reach 30 = .ok (.ishl, 1) := by decide +kernel
theorem dX11_reach_31 : decode cX11_reach 31 = .ok (.istore_n 3, 1) := by decide +kernel
theorem dX11_reach_32 : decode cX11_reach 32 = .ok (.iconst 0, 1) := by decide +kernel
theorem dX11_reach_33 : decode cX11_reach 33 = .ok (.istore 4, 2) := by decide +kernel
theorem dX11_reach_35 : decode cX11_reach 35 = .ok (.iload 4, 2) := by decide +kernel
theorem dX11_reach_37 : decode cX11_reach 37 = .ok (.bipush 16, 2) := by decide +kernel
theorem dX11_reach_39 : decode cX11_reach 39 = .ok (.if_icmp .gt 52, 3) := by decide +kernel
theorem dX11_reach_42 : decode cX11_reach 42 = .ok (.iload_n 3, 1) := by decide +kernel
theorem dX11_reach_43 : decode cX11_reach 43 = .ok (.iload_n 2, 1) := by decide +kernel
theorem dX11_reach_44 : decode cX11_reach 44 = .ok (.invokestatic 236, 3) := by decide +kernel
theorem dX11_reach_47 : decode cX11_reach 47 = .ok (.ifCond .eq 6, 3) := by decide +kernel
theorem dX11_reach_50 : decode cX11_reach 50 = .ok (.iload 4, 2) := by decide +kernel
theorem dX11_reach_52 : decode cX11_reach 52 = .ok (.ireturn, 1) := by decide +kernel
theorem dX11_reach_53 : decode cX11_reach 53 = .ok (.iload_n 3, 1) := by decide +kernel
theorem dX11_reach_54 : decode cX11_reach 54 = .ok (.iload_n 3, 1) := by decide +kernel
theorem dX11_reach_55 : decode cX11_reach 55 = .ok (.iconst 1, 1) := by decide +kernel
theorem dX11_reach_56 : decode cX11_reach 56 = .ok (.invokestatic 240, 3) := by decide +kernel
theorem dX11_reach_59 : decode cX11_reach 59 = .ok (.ior, 1) := by decide +kernel
theorem dX11_reach_60 : decode cX11_reach 60 = .ok (.aload_n 0, 1) := by decide +kernel
theorem dX11_reach_61 : decode cX11_reach 61 = .ok (.getfield 74, 3) := by decide +kernel
theorem dX11_reach_64 : decode cX11_reach 64 = .ok (.iload_n 1, 1) := by decide +kernel
theorem dX11_reach_65 : decode cX11_reach 65 = .ok (.aload_n 0, 1) := by decide +kernel
theorem dX11_reach_66 : decode cX11_reach 66 = .ok (.getfield 74, 3) := by decide +kernel
theorem dX11_reach_69 : decode cX11_reach 69 = .ok (.getfield 112, 3) := by decide +kernel
theorem dX11_reach_72 : decode cX11_reach 72 = .ok (.getfield 137, 3) := by decide +kernel
theorem dX11_reach_75 : decode cX11_reach 75 = .ok (.iload 4, 2) := by decide +kernel
theorem dX11_reach_77 : decode cX11_reach 77 = .ok (.iadd, 1) := by decide +kernel
theorem dX11_reach_78 : decode cX11_reach 78 = .ok (.invokevirtual 140, 3) := by decide +kernel
theorem dX11_reach_81 : decode cX11_reach 81 = .ok (.invokestatic 240, 3) := by decide +kernel
theorem dX11_reach_84 : decode cX11_reach 84 = .ok (.istore_n 3, 1) := by decide +kernel
theorem dX11_reach_85 : decode cX11_reach 85 = .ok (.iinc 4 1, 3) := by decide +kernel
theorem dX11_reach_88 : decode cX11_reach 88 = .ok (.goto (-53), 3) := by decide +kernel
theorem dX11_reach_91 : decode cX11_reach 91 = .ok (.bipush (-3), 2) := by decide +kernel
theorem dX11_reach_93 : decode cX11_reach 93 = .ok (.ireturn, 1) := by decide +kernel
theorem dX11_carriages_0 : decode cX11_carriages 0 = .ok (.iload_n 1, 1) := by decide +kernel
theorem dX11_carriages_1 : decode cX11_carriages 1 = .ok (.iconst (-1), 1) := by decide +kernel
theorem dX11_carriages_2 : decode cX11_carriages 2 = .ok (.if_icmp .eq 13, 3) := by decide +kernel
theorem dX11_carriages_5 : decode cX11_carriages 5 = .ok (.aload_n 0, 1) := by decide +kernel
theorem dX11_carriages_6 : decode cX11_carriages 6 = .ok (.iload_n 1, 1) := by decide +kernel
theorem dX11_carriages_7 : decode cX11_carriages 7 = .ok (.invokevirtual 109, 3) := by decide +kernel
theorem dX11_carriages_10 : decode cX11_carriages 10 = .ok (.ifCond .ne 5, 3) := by decide +kernel
theorem dX11_carriages_13 : decode cX11_carriages 13 = .ok (.iconst (-1), 1) := by decide +kernel
theorem dX11_carriages_14 : decode cX11_carriages 14 = .ok (.ireturn, 1) := by decide +kernel
theorem dX11_carriages_15 : decode cX11_carriages 15 = .ok (.iload_n 1, 1) := by decide +kernel
theorem dX11_carriages_16 : decode cX11_carriages 16 = .ok (.iconst (-1), 1) := by decide +kernel
theorem dX11_carriages_17 : decode cX11_carriages 17 = .ok (.if_icmp .eq 9, 3) := by decide +kernel
theorem dX11_carriages_20 : decode cX11_carriages 20 = .ok (.aload_n 0, 1) := by decide +kernel
theorem dX11_carriages_21 : decode cX11_carriages 21 = .ok (.iload_n 1, 1) := by decide +kernel
theorem dX11_carriages_22 : decode cX11_carriages 22 = .ok (.invokevirtual 243, 3) := by decide +kernel
theorem dX11_carriages_25 : decode cX11_carriages 25 = .ok (.ireturn, 1) := by decide +kernel
theorem dX11_carriages_26 : decode cX11_carriages 26 = .ok (.iconst 0, 1) := by decide +kernel
theorem dX11_carriages_27 : decode cX11_carriages 27 = .ok (.istore_n 2, 1) := by decide +kernel
theorem dX11_carriages_28 : decode cX11_carriages 28 = .ok (.iconst 0, 1) := by decide +kernel
theorem dX11_carriages_29 : decode cX11_carriages 29 = .ok (.istore_n 3, 1) := by decide +kernel
theorem dX11_carriages_30 : decode cX11_carriages 30 = .ok (.iload_n 3, 1) := by decide +kernel
theorem dX11_carriages_31 : decode cX11_carriages 31 = .ok (.aload_n 0, 1) := by decide +kernel
theorem dX11_carriages_32 : decode cX11_carriages 32 = .ok (.getfield 74, 3) := by decide +kernel
theorem dX11_carriages_35 : decode cX11_carriages 35 = .ok (.getfield 101, 3) := by decide +kernel
theorem dX11_carriages_38 : decode cX11_carriages 38 = .ok (.if_icmp .ge 35, 3) := by decide +kernel
theorem dX11_carriages_41 : decode cX11_carriages 41 = .ok (.aload_n 0, 1) := by decide +kernel
theorem dX11_carriages_42 : decode cX11_carriages 42 = .ok (.iload_n 3, 1) := by decide +kernel
theorem dX11_carriages_43 : decode cX11_carriages 43 = .ok (.invokevirtual 243, 3) := by decide +kernel
theorem dX11_carriages_46 : decode cX11_carriages 46 = .ok (.istore 4, 2) := by decide +kernel
theorem dX11_carriages_48 : decode cX11_carriages 48 = .ok (.iload 4, 2) := by decide +kernel
theorem dX11_carriages_50 : decode cX11_carriages 50 = .ok (.ifCond .eq 17, 3) := by decide +kernel
theorem dX11_carriages_53 : decode cX11_carriages 53 = .ok (.iload 4, 2) := by decide +kernel
theorem dX11_carriages_55 : decode cX11_carriages 55 = .ok (.iconst 1, 1) := by decide +kernel
theorem dX11_carriages_56 : decode cX11_carriages 56 = .ok (.iload_n 3, 1) := by decide +kernel
theorem dX11_carriages_57 : decode cX11_carriages 57 = .ok (.ishl, 1) := by decide +kernel
theorem dX11_carriages_58 : decode cX11_carriages 58 = .ok (.iconst 1, 1) := by decide +kernel
theorem dX11_carriages_59 : decode cX11_carriages 59 = .ok (.isub, 1) := by decide +kernel
theorem dX11_carriages_60 : decode cX11_carriages 60 = .ok (.iand, 1) := by decide +kernel
theorem dX11_carriages_61 : decode cX11_carriages 61 = .ok (.ifCond .ne 6, 3) := by decide +kernel
theorem dX11_carriages_64 : decode cX11_carriages 64 = .ok (.iinc 2 1, 3) := by decide +kernel
theorem dX11_carriages_67 : decode cX11_carriages 67 = .ok (.iinc 3 1, 3) := by decide +kernel
theorem dX11_carriages_70 : decode cX11_carriages 70 = .ok (.goto (-40), 3) := by decide +kernel
theorem dX11_carriages_73 : decode cX11_carriages 73 = .ok (.iload_n 2, 1) := by decide +kernel
theorem dX11_carriages_74 : decode cX11_carriages 74 = .ok (.ireturn, 1) := by decide +kernel
theorem dX11_press_0 : decode cX11_press 0 = .ok (.iload_n 1, 1) := by decide +kernel
theorem dX11_press_1 : decode cX11_press 1 = .ok (.iconst 0, 1) := by decide +kernel
theorem dX11_press_2 : decode cX11_press 2 = .ok (.bipush 16, 2) := by decide +kernel
theorem dX11_press_4 : decode cX11_press 4 = .ok (.invokestatic 94, 3) := by decide +kernel
theorem dX11_press_7 : decode cX11_press 7 = .ok (.ifCond .eq 12, 3) := by decide +kernel
theorem dX11_press_10 : decode cX11_press 10 = .ok (.iload_n 2, 1) := by decide +kernel
theorem dX11_press_11 : decode cX11_press 11 = .ok (.iconst 0, 1) := by decide +kernel
theorem dX11_press_12 : decode cX11_press 12 = .ok (.iconst 1, 1) := by decide +kernel
theorem dX11_press_13 : decode cX11_press 13 = .ok (.invokestatic 94, 3) := by decide +kernel
theorem dX11_press_16 : decode cX11_press 16 = .ok (.ifCond .ne 5, 3) := by decide +kernel
theorem dX11_press_19 : decode cX11_press 19 = .ok (.iconst (-1), 1) := by decide +kernel
theorem dX11_press_20 : decode cX11_press 20 = .ok (.ireturn, 1) := by decide +kernel
theorem dX11_press_21 : decode cX11_press 21 = .ok (.aload_n 0, 1) := by decide +kernel
theorem dX11_press_22 : decode cX11_press 22 = .ok (.iload_n 1, 1) := by decide +kernel
theorem dX11_press_23 : decode cX11_press 23 = .ok (.invokevirtual 223, 3) := by decide +kernel
theorem dX11_press_26 : decode cX11_press 26 = .ok (.pop, 1) := by decide +kernel
theorem dX11_press_27 : decode cX11_press 27 = .ok (.aload_n 0, 1) := by decide +kernel
theorem dX11_press_28 : decode cX11_press 28 = .ok (.getfield 74, 3) := by decide +kernel
theorem dX11_press_31 : decode cX11_press 31 = .ok (.aload_n 0, 1) := by decide +kernel
theorem dX11_press_32 : decode cX11_press 32 = .ok (.getfield 10, 3) := by decide +kernel
theorem dX11_press_35 : decode cX11_press 35 = .ok (.invokevirtual 246, 3) := by decide +kernel
theorem dX11_press_38 : decode cX11_press 38 = .ok (.istore_n 3, 1) := by decide +kernel
theorem dX11_press_39 : decode cX11_press 39 = .ok (.iload_n 2, 1) := by decide +kernel
theorem dX11_press_40 : decode cX11_press 40 = .ok (.ifCond .ne 7, 3) := by decide +kernel
theorem dX11_press_43 : decode cX11_press 43 = .ok (.iload_n 3, 1) := by decide +kernel
theorem dX11_press_44 : decode cX11_press 44 = .ok (.goto 12, 3) := by decide +kernel
theorem dX11_press_47 : decode cX11_press 47 = .ok (.aload_n 0, 1) := by decide +kernel
theorem dX11_press_48 : decode cX11_press 48 = .ok (.getfield 74, 3) := by decide +kernel
theorem dX11_press_51 : decode cX11_press 51 = .ok (.getfield 249, 3) := by decide +kernel
theorem dX11_press_54 : decode cX11_press 54 = .ok (.iload_n 3, 1) := by decide +kernel
theorem dX11_press_55 : decode cX11_press 55 = .ok (.iaload, 1) := by decide +kernel
theorem dX11_press_56 : decode cX11_press 56 = .ok (.ireturn, 1) := by decide +kernel
theorem dX11_best_0 : decode cX11_best 0 = .ok (.iload_n 1, 1) := by decide +kernel
theorem dX11_best_1 : decode cX11_best 1 = .ok (.invokestatic 252, 3) := by decide +kernel
theorem dX11_best_4 : decode cX11_best 4 = .ok (.ifCond .ne 5, 3) := by decide +kernel
theorem dX11_best_7 : decode cX11_best 7 = .ok (.iconst (-1), 1) := by decide +kernel
theorem dX11_best_8 : decode cX11_best 8 = .ok (.ireturn, 1) := by decide +kernel
theorem dX11_best_9 : decode cX11_best 9 = .ok (.aload_n 0, 1) := by decide +kernel
theorem dX11_best_10 : decode cX11_best 10 = .ok (.getfield 86, 3) := by decide +kernel
theorem dX11_best_13 : decode cX11_best 13 = .ok (.iload_n 1, 1) := by decide +kernel
theorem dX11_best_14 : decode cX11_best 14 = .ok (.iconst 0, 1) := by decide +kernel
theorem dX11_best_15 : decode cX11_best 15 = .ok (.invokevirtual 255, 3) := by decide +kernel
theorem dX11_best_18 : decode cX11_best 18 = .ok (.aload_n 0, 1) := by decide +kernel
theorem dX11_best_19 : decode cX11_best 19 = .ok (.getfield 86, 3) := by decide +kernel
theorem dX11_best_22 : decode cX11_best 22 = .ok (.getfield 259, 3) := by decide +kernel
theorem dX11_best_25 : decode cX11_best 25 = .ok (.ireturn, 1) := by decide +kernel
theorem dX11_ith_0 : decode cX11_ith 0 = .ok (.iload_n 1, 1) := by decide +kernel
theorem dX11_ith_1 : decode cX11_ith 1 = .ok (.invokestatic 252, 3) := by decide +kernel
theorem dX11_ith_4 : decode cX11_ith 4 = .ok (.ifCond .eq 12, 3) := by decide +kernel
theorem dX11_ith_7 : decode cX11_ith 7 = .ok (.iload_n 2, 1) := by decide +kernel
theorem dX11_ith_8 : decode cX11_ith 8 = .ok (.iconst 0, 1) := by decide +kernel
theorem dX11_ith_9 : decode cX11_ith 9 = .ok (.iconst 3, 1) := by decide +kernel
theorem dX11_ith_10 : decode cX11_ith 10 = .ok (.invokestatic 94, 3) := by decide +kernel
theorem dX11_ith_13 : decode cX11_ith 13 = .ok (.ifCond .ne 5, 3) := by decide +kernel
theorem dX11_ith_16 : decode cX11_ith 16 = .ok (.iconst (-1), 1) := by decide +kernel
theorem dX11_ith_17 : decode cX11_ith 17 = .ok (.ireturn, 1) := by decide +kernel
theorem dX11_ith_18 : decode cX11_ith 18 = .ok (.aload_n 0, 1) := by decide +kernel
theorem dX11_ith_19 : decode cX11_ith 19 = .ok (.getfield 86, 3) := by decide +kernel
theorem dX11_ith_22 : decode cX11_ith 22 = .ok (.iload_n 1, 1) := by decide +kernel
theorem dX11_ith_23 : decode cX11_ith 23 = .ok (.iconst 0, 1) := by decide +kernel
theorem dX11_ith_24 : decode cX11_ith 24 = .ok (.invokevirtual 255, 3) := by decide +kernel
theorem dX11_ith_27 : decode cX11_ith 27 = .ok (.iload_n 2, 1) := by decide +kernel
theorem dX11_ith_28 : decode cX11_ith 28 = .ok (.aload_n 0, 1) := by decide +kernel
theorem dX11_ith_29 : decode cX11_ith 29 = .ok (.getfield 86, 3) := by decide +kernel
theorem dX11_ith_32 : decode cX11_ith 32 = .ok (.getfield 262, 3) := by decide +kernel
theorem dX11_ith_35 : decode cX11_ith 35 = .ok (.if_icmp .ge 15, 3) := by decide +kernel
theorem dX11_ith_38 : decode cX11_ith 38 = .ok (.aload_n 0, 1) := by decide +kernel
theorem dX11_ith_39 : decode cX11_ith 39 = .ok (.getfield 86, 3) := by decide +kernel
theorem dX11_ith_42 : decode cX11_ith 42 = .ok (.getfield 265, 3) := by decide +kernel
theorem dX11_ith_45 : decode cX11_ith 45 = .ok (.iload_n 2, 1) := by decide +kernel
theorem dX11_ith_46 : decode cX11_ith 46 = .ok (.iaload, 1) := by decide +kernel
theorem dX11_ith_47 : decode cX11_ith 47 = .ok (.goto 5, 3) := by decide +kernel
theorem dX11_ith_50 : decode cX11_ith 50 = .ok (.bipush (-3), 2) := by decide +kernel
theorem dX11_ith_52 : decode cX11_ith 52 = .ok (.ireturn, 1) := by decide +kernel
theorem dX11_ways_0 : decode cX11_ways 0 = .ok (.iload_n 1, 1) := by decide +kernel
theorem dX11_ways_1 : decode cX11_ways 1 = .ok (.invokestatic 252, 3) := by decide +kernel
theorem dX11_ways_4 : decode cX11_ways 4 = .ok (.ifCond .ne 5, 3) := by decide +kernel
theorem dX11_ways_7 : decode cX11_ways 7 = .ok (.iconst (-1), 1) := by decide +kernel
theorem dX11_ways_8 : decode cX11_ways 8 = .ok (.ireturn, 1) := by decide +kernel
theorem dX11_ways_9 : decode cX11_ways 9 = .ok (.aload_n 0, 1) := by decide +kernel
theorem dX11_ways_10 : decode cX11_ways 10 = .ok (.getfield 86, 3) := by decide +kernel
theorem dX11_ways_13 : decode cX11_ways 13 = .ok (.iload_n 1, 1) := by decide +kernel
theorem dX11_ways_14 : decode cX11_ways 14 = .ok (.iconst 0, 1) := by decide +kernel
theorem dX11_ways_15 : decode cX11_ways 15 = .ok (.invokevirtual 255, 3) := by decide +kernel
theorem dX11_ways_18 : decode cX11_ways 18 = .ok (.aload_n 0, 1) := by decide +kernel
theorem dX11_ways_19 : decode cX11_ways 19 = .ok (.getfield 86, 3) := by decide +kernel
theorem dX11_ways_22 : decode cX11_ways 22 = .ok (.getfield 268, 3) := by decide +kernel
theorem dX11_ways_25 : decode cX11_ways 25 = .ok (.ireturn, 1) := by decide +kernel
theorem dX11_ticket_0 : decode cX11_ticket 0 = .ok (.iload_n 1, 1) := by decide +kernel
theorem dX11_ticket_1 : decode cX11_ticket 1 = .ok (.invokestatic 252, 3) := by decide +kernel
theorem dX11_ticket_4 : decode cX11_ticket 4 = .ok (.ifCond .eq 11, 3) := by decide +kernel
theorem dX11_ticket_7 : decode cX11_ticket 7 = .ok (.aload_n 0, 1) := by decide +kernel
theorem dX11_ticket_8 : decode cX11_ticket 8 = .ok (.iload_n 2, 1) := by decide +kernel
theorem dX11_ticket_9 : decode cX11_ticket 9 = .ok (.invokevirtual 271, 3) := by decide +kernel
theorem dX11_ticket_12 : decode cX11_ticket 12 = .ok (.ifCond .ne 5, 3) := by decide +kernel
theorem dX11_ticket_15 : decode cX11_ticket 15 = .ok (.iconst (-1), 1) := by decide +kernel
theorem dX11_ticket_16 : decode cX11_ticket 16 = .ok (.ireturn, 1) := by decide +kernel
theorem dX11_ticket_17 : decode cX11_ticket 17 = .ok (.aload_n 0, 1) := by decide +kernel
theorem dX11_ticket_18 : decode cX11_ticket 18 = .ok (.getfield 86, 3) := by decide +kernel
theorem dX11_ticket_21 : decode cX11_ticket 21 = .ok (.iload_n 1, 1) := by decide +kernel
theorem dX11_ticket_22 : decode cX11_ticket 22 = .ok (.iload_n 2, 1) := by decide +kernel
theorem dX11_ticket_23 : decode cX11_ticket 23 = .ok (.invokevirtual 255, 3) := by decide +kernel
theorem dX11_ticket_26 : decode cX11_ticket 26 = .ok (.aload_n 0, 1) := by decide +kernel
theorem dX11_ticket_27 : decode cX11_ticket 27 = .ok (.getfield 86, 3) := by decide +kernel
theorem dX11_ticket_30 : decode cX11_ticket 30 = .ok (.getfield 274, 3) := by decide +kernel
theorem dX11_ticket_33 : decode cX11_ticket 33 = .ok (.ireturn, 1) := by decide +kernel
theorem dX11_bars_0 : decode cX11_bars 0 = .ok (.iload_n 1, 1) := by decide +kernel
theorem dX11_bars_1 : decode cX11_bars 1 = .ok (.invokestatic 252, 3) := by decide +kernel
theorem dX11_bars_4 : decode cX11_bars 4 = .ok (.ifCond .eq 11, 3) := by decide +kernel
theorem dX11_bars_7 : decode cX11_bars 7 = .ok (.aload_n 0, 1) := by decide +kernel
theorem dX11_bars_8 : decode cX11_bars 8 = .ok (.iload_n 2, 1) := by decide +kernel
theorem dX11_bars_9 : decode cX11_bars 9 = .ok (.invokevirtual 271, 3) := by decide +kernel
theorem dX11_bars_12 : decode cX11_bars 12 = .ok (.ifCond .ne 5, 3) := by decide +kernel
theorem dX11_bars_15 : decode cX11_bars 15 = .ok (.iconst (-1), 1) := by decide +kernel
theorem dX11_bars_16 : decode cX11_bars 16 = .ok (.ireturn, 1) := by decide +kernel
theorem dX11_bars_17 : decode cX11_bars 17 = .ok (.aload_n 0, 1) := by decide +kernel
theorem dX11_bars_18 : decode cX11_bars 18 = .ok (.getfield 86, 3) := by decide +kernel
theorem dX11_bars_21 : decode cX11_bars 21 = .ok (.iload_n 1, 1) := by decide +kernel
theorem dX11_bars_22 : decode cX11_bars 22 = .ok (.iload_n 2, 1) := by decide +kernel
theorem dX11_bars_23 : decode cX11_bars 23 = .ok (.invokevirtual 255, 3) := by decide +kernel
theorem dX11_bars_26 : decode cX11_bars 26 = .ok (.iconst 0, 1) := by decide +kernel
theorem dX11_bars_27 : decode cX11_bars 27 = .ok (.istore_n 3, 1) := by decide +kernel
theorem dX11_bars_28 : decode cX11_bars 28 = .ok (.iload_n 3, 1) := by decide +kernel
theorem dX11_bars_29 : decode cX11_bars 29 = .ok (.aload_n 0, 1) := by decide +kernel
theorem dX11_bars_30 : decode cX11_bars 30 = .ok (.getfield 74, 3) := by decide +kernel
theorem dX11_bars_33 : decode cX11_bars 33 = .ok (.getfield 101, 3) := by decide +kernel
theorem dX11_bars_36 : decode cX11_bars 36 = .ok (.if_icmp .ge 33, 3) := by decide +kernel
theorem dX11_bars_39 : decode cX11_bars 39 = .ok (.iload_n 2, 1) := by decide +kernel
theorem dX11_bars_40 : decode cX11_bars 40 = .ok (.iload_n 3, 1) := by decide +kernel
theorem dX11_bars_41 : decode cX11_bars 41 = .ok (.invokestatic 236, 3) := by decide +kernel
theorem dX11_bars_44 : decode cX11_bars 44 = .ok (.ifCond .eq 19, 3) := by decide +kernel
theorem dX11_bars_47 : decode cX11_bars 47 = .ok (.aload_n 0, 1) := by decide +kernel
theorem dX11_bars_48 : decode cX11_bars 48 = .ok (.getfield 86, 3) := by decide +kernel
theorem dX11_bars_51 : decode cX11_bars 51 = .ok (.getfield 277, 3) := by decide +kernel
theorem dX11_bars_54 : decode cX11_bars 54 = .ok (.iload_n 3, 1) := by decide +kernel
theorem dX11_bars_55 : decode cX11_bars 55 = .ok (.invokestatic 236, 3) := by decide +kernel
theorem dX11_bars_58 : decode cX11_bars 58 = .ok (.ifCond .ne 5, 3) := by decide +kernel
theorem dX11_bars_61 : decode cX11_bars 61 = .ok (.iload_n 3, 1) := by decide +kernel
theorem dX11_bars_62 : decode cX11_bars 62 = .ok (.ireturn, 1) := by decide +kernel
theorem dX11_bars_63 : decode cX11_bars 63 = .ok (.iinc 3 1, 3) := by decide +kernel
theorem dX11_bars_66 : decode cX11_bars 66 = .ok (.goto (-38), 3) := by decide +kernel
theorem dX11_bars_69 : decode cX11_bars 69 = .ok (.bipush (-3), 2) := by decide +kernel
theorem dX11_bars_71 : decode cX11_bars 71 = .ok (.ireturn, 1) := by decide +kernel
theorem dX11_game_0 : decode cX11_game 0 = .ok (.iload_n 1, 1) := by decide +kernel
theorem dX11_game_1 : decode cX11_game 1 = .ok (.iconst 1, 1) := by decide +kernel
theorem dX11_game_2 : decode cX11_game 2 = .ok (.iconst 4, 1) := by decide +kernel
theorem dX11_game_3 : decode cX11_game 3 = .ok (.invokestatic 94, 3) := by decide +kernel
theorem dX11_game_6 : decode cX11_game 6 = .ok (.ifCond .ne 5, 3) := by decide +kernel
theorem dX11_game_9 : decode cX11_game 9 = .ok (.iconst (-1), 1) := by decide +kernel
theorem dX11_game_10 : decode cX11_game 10 = .ok (.ireturn, 1) := by decide +kernel
theorem dX11_game_11 : decode cX11_game 11 = .ok (.aload_n 0, 1) := by decide +kernel
theorem dX11_game_12 : decode cX11_game 12 = .ok (.getfield 86, 3) := by decide +kernel
theorem dX11_game_15 : decode cX11_game 15 = .ok (.iload_n 1, 1) := by decide +kernel
theorem dX11_game_16 : decode cX11_game 16 = .ok (.invokevirtual 280, 3) := by decide +kernel
theorem dX11_game_19 : decode cX11_game 19 = .ok (.ireturn, 1) := by decide +kernel
theorem dX11_play_0 : decode cX11_play 0 = .ok (.iload_n 1, 1) := by decide +kernel
theorem dX11_play_1 : decode cX11_play 1 = .ok (.iconst 1, 1) := by decide +kernel
theorem dX11_play_2 : decode cX11_play 2 = .ok (.iconst 4, 1) := by decide +kernel
theorem dX11_play_3 : decode cX11_play 3 = .ok (.invokestatic 94, 3) := by decide +kernel
theorem dX11_play_6 : decode cX11_play 6 = .ok (.ifCond .ne 5, 3) := by decide +kernel
theorem dX11_play_9 : decode cX11_play 9 = .ok (.iconst (-1), 1) := by decide +kernel
theorem dX11_play_10 : decode cX11_play 10 = .ok (.ireturn, 1) := by decide +kernel
theorem dX11_play_11 : decode cX11_play 11 = .ok (.aload_n 0, 1) := by decide +kernel
theorem dX11_play_12 : decode cX11_play 12 = .ok (.getfield 74, 3) := by decide +kernel
theorem dX11_play_15 : decode cX11_play 15 = .ok (.aload_n 0, 1) := by decide +kernel
theorem dX11_play_16 : decode cX11_play 16 = .ok (.getfield 74, 3) := by decide +kernel
theorem dX11_play_19 : decode cX11_play 19 = .ok (.getfield 112, 3) := by decide +kernel
theorem dX11_play_22 : decode cX11_play 22 = .ok (.invokevirtual 185, 3) := by decide +kernel
theorem dX11_play_25 : decode cX11_play 25 = .ok (.ifCond .eq 6, 3) := by decide +kernel
theorem dX11_play_28 : decode cX11_play 28 = .ok (.bipush (-3), 2) := by decide +kernel
theorem dX11_play_30 : decode cX11_play 30 = .ok (.ireturn, 1) := by decide +kernel
theorem dX11_play_31 : decode cX11_play 31 = .ok (.aload_n 0, 1) := by decide +kernel
theorem dX11_play_32 : decode cX11_play 32 = .ok (.getfield 86, 3) := by decide +kernel
theorem dX11_play_35 : decode cX11_play 35 = .ok (.iload_n 1, 1) := by decide +kernel
theorem dX11_play_36 : decode cX11_play 36 = .ok (.invokevirtual 280, 3) := by decide +kernel
theorem dX11_play_39 : decode cX11_play 39 = .ok (.pop, 1) := by decide +kernel
theorem dX11_play_40 : decode cX11_play 40 = .ok (.aload_n 0, 1) := by decide +kernel
theorem dX11_play_41 : decode cX11_play 41 = .ok (.getfield 86, 3) := by decide +kernel
theorem dX11_play_44 : decode cX11_play 44 = .ok (.getfield 283, 3) := by decide +kernel
theorem dX11_play_47 : decode cX11_play 47 = .ok (.ireturn, 1) := by decide +kernel
theorem dX11_report_0 : decode cX11_report 0 = .ok (.iload_n 1, 1) := by decide +kernel
theorem dX11_report_1 : decode cX11_report 1 = .ok (.iconst 0, 1) := by decide +kernel
theorem dX11_report_2 : decode cX11_report 2 = .ok (.bipush 15, 2) := by decide +kernel
theorem dX11_report_4 : decode cX11_report 4 = .ok (.invokestatic 94, 3) := by decide +kernel
theorem dX11_report_7 : decode cX11_report 7 = .ok (.ifCond .eq 41, 3) := by decide +kernel
theorem dX11_report_10 : decode cX11_report 10 = .ok (.iload_n 2, 1) := by decide +kernel
theorem dX11_report_11 : decode cX11_report 11 = .ok (.iconst 0, 1) := by decide +kernel
theorem dX11_report_12 : decode cX11_report 12 = .ok (.iconst 1, 1) := by decide +kernel
theorem dX11_report_13 : decode cX11_report 13 = .ok (.invokestatic 94, 3) := by decide +kernel
theorem dX11_report_16 : decode cX11_report 16 = .ok (.ifCond .eq 32, 3) := by decide +kernel
theorem dX11_report_19 : decode cX11_report 19 = .ok (.iload_n 3, 1) := by decide +kernel
theorem dX11_report_20 : decode cX11_report 20 = .ok (.ifCond .lt 28, 3) := by decide +kernel
theorem dX11_report_23 : decode cX11_report 23 = .ok (.iload 4, 2) := by decide +kernel
theorem dX11_report_25 : decode cX11_report 25 = .ok (.iload_n 3, 1) := by decide +kernel
theorem dX11_report_26 : decode cX11_report 26 = .ok (.if_icmp .lt 22, 3) := by decide +kernel
theorem dX11_report_29 : decode cX11_report 29 = .ok (.iload 4, 2) := by decide +kernel
theorem dX11_report_31 : decode cX11_report 31 = .ok (.iload_n 2, 1) := by decide +kernel
theorem dX11_report_32 : decode cX11_report 32 = .ok (.ifCond .ne 7, 3) := by decide +kernel
theorem dX11_report_35 : decode cX11_report 35 = .ok (.iconst 5, 1) := by decide +kernel
theorem dX11_report_36 : decode cX11_report 36 = .ok (.goto 5, 3) := by decide +kernel
theorem dX11_report_39 : decode cX11_report 39 = .ok (.bipush 99, 2) := by decide +kernel
theorem dX11_report_41 : decode cX11_report 41 = .ok (.if_icmp .gt 7, 3) := by decide +kernel
theorem dX11_report_44 : decode cX11_report 44 = .ok (.iconst 1, 1) := by decide +kernel
theorem dX11_report_45 : decode cX11_report 45 = .ok (.goto 4, 3) := by decide +kernel
theorem dX11_report_48 : decode cX11_report 48 = .ok (.iconst 0, 1) := by decide +kernel
theorem dX11_report_49 : decode cX11_report 49 = .ok (.istore 5, 2) := by decide +kernel
theorem dX11_report_51 : decode cX11_report 51 = .ok (.iload 5, 2) := by decide +kernel
theorem dX11_report_53 : decode cX11_report 53 = .ok (.ifCond .ne 5, 3) := by decide +kernel
theorem dX11_report_56 : decode cX11_report 56 = .ok (.iconst (-1), 1) := by decide +kernel
theorem dX11_report_57 : decode cX11_report 57 = .ok (.ireturn, 1) := by decide +kernel
theorem dX11_report_58 : decode cX11_report 58 = .ok (.aload_n 0, 1) := by decide +kernel
theorem dX11_report_59 : decode cX11_report 59 = .ok (.getfield 74, 3) := by decide +kernel
theorem dX11_report_62 : decode cX11_report 62 = .ok (.getfield 286, 3) := by decide +kernel
theorem dX11_report_65 : decode cX11_report 65 = .ok (.getfield 290, 3) := by decide +kernel
theorem dX11_report_68 : decode cX11_report 68 = .ok (.bipush 6, 2) := by decide +kernel
theorem dX11_report_70 : decode cX11_report 70 = .ok (.if_icmp .lt 6, 3) := by decide +kernel
theorem dX11_report_73 : decode cX11_report 73 = .ok (.bipush (-2), 2) := by decide +kernel
theorem dX11_report_75 : decode cX11_report 75 = .ok (.ireturn, 1) := by decide +kernel
theorem dX11_report_76 : decode cX11_report 76 = .ok (.aload_n 0, 1) := by decide +kernel
theorem dX11_report_77 : decode cX11_report 77 = .ok (.getfield 74, 3) := by decide +kernel
theorem dX11_report_80 : decode cX11_report 80 = .ok (.getfield 286, 3) := by decide +kernel
theorem dX11_report_83 : decode cX11_report 83 = .ok (.iload_n 1, 1) := by decide +kernel
theorem dX11_report_84 : decode cX11_report 84 = .ok (.iload_n 2, 1) := by decide +kernel
theorem dX11_report_85 : decode cX11_report 85 = .ok (.iload_n 3, 1) := by decide +kernel
theorem dX11_report_86 : decode cX11_report 86 = .ok (.iload 4, 2) := by decide +kernel
theorem dX11_report_88 : decode cX11_report 88 = .ok (.invokevirtual 293, 3) := by decide +kernel
theorem dX11_report_91 : decode cX11_report 91 = .ok (.ireturn, 1) := by decide +kernel
theorem dX11_forget_0 : decode cX11_forget 0 = .ok (.aload_n 0, 1) := by decide +kernel
theorem dX11_forget_1 : decode cX11_forget 1 = .ok (.getfield 74, 3) := by decide +kernel
theorem dX11_forget_4 : decode cX11_forget 4 = .ok (.getfield 286, 3) := by decide +kernel
theorem dX11_forget_7 : decode cX11_forget 7 = .ok (.getfield 290, 3) := by decide +kernel
theorem dX11_forget_10 : decode cX11_forget 10 = .ok (.istore_n 1, 1) := by decide +kernel
theorem dX11_forget_11 : decode cX11_forget 11 = .ok (.aload_n 0, 1) := by decide +kernel
theorem dX11_forget_12 : decode cX11_forget 12 = .ok (.getfield 74, 3) := by decide +kernel
theorem dX11_forget_15 : decode cX11_forget 15 = .ok (.getfield 286, 3) := by decide +kernel
theorem dX11_forget_18 : decode cX11_forget 18 = .ok (.iconst 0, 1) := by decide +kernel
theorem dX11_forget_19 : decode cX11_forget 19 = .ok (.putfield 290, 3) := by decide +kernel
theorem dX11_forget_22 : decode cX11_forget 22 = .ok (.iload_n 1, 1) := by decide +kernel
theorem dX11_forget_23 : decode cX11_forget 23 = .ok (.ireturn, 1) := by decide +kernel
theorem dX11_lone_0 : decode cX11_lone 0 = .ok (.iload_n 1, 1) := by decide +kernel
theorem dX11_lone_1 : decode cX11_lone 1 = .ok (.iconst 0, 1) := by decide +kernel
theorem dX11_lone_2 : decode cX11_lone 2 = .ok (.iconst 3, 1) := by decide +kernel
theorem dX11_lone_3 : decode cX11_lone 3 = .ok (.invokestatic 94, 3) := by decide +kernel
theorem dX11_lone_6 : decode cX11_lone 6 = .ok (.ifCond .ne 5, 3) := by decide +kernel
theorem dX11_lone_9 : decode cX11_lone 9 = .ok (.iconst (-1), 1) := by decide +kernel
theorem dX11_lone_10 : decode cX11_lone 10 = .ok (.ireturn, 1) := by decide +kernel
theorem dX11_lone_11 : decode cX11_lone 11 = .ok (.aload_n 0, 1) := by decide +kernel
theorem dX11_lone_12 : decode cX11_lone 12 = .ok (.getfield 74, 3) := by decide +kernel
theorem dX11_lone_15 : decode cX11_lone 15 = .ok (.getfield 286, 3) := by decide +kernel
theorem dX11_lone_18 : decode cX11_lone 18 = .ok (.astore_n 2, 1) := by decide +kernel
theorem dX11_lone_19 : decode cX11_lone 19 = .ok (.aload_n 2, 1) := by decide +kernel
theorem dX11_lone_20 : decode cX11_lone 20 = .ok (.aload_n 0, 1) := by decide +kernel
theorem dX11_lone_21 : decode cX11_lone 21 = .ok (.getfield 74, 3) := by decide +kernel
theorem dX11_lone_24 : decode cX11_lone 24 = .ok (.invokevirtual 294, 3) := by decide +kernel
theorem dX11_lone_27 : decode cX11_lone 27 = .ok (.iload_n 1, 1) := by decide +kernel
theorem dX11_lone_28 : decode cX11_lone 28 = .ok (.ifCond .ne 8, 3) := by decide +kernel
theorem dX11_lone_31 : decode cX11_lone 31 = .ok (.aload_n 2, 1) := by decide +kernel
theorem dX11_lone_32 : decode cX11_lone 32 = .ok (.getfield 297, 3) := by decide +kernel
theorem dX11_lone_35 : decode cX11_lone 35 = .ok (.ireturn, 1) := by decide +kernel
theorem dX11_lone_36 : decode cX11_lone 36 = .ok (.aload_n 2, 1) := by decide +kernel
theorem dX11_lone_37 : decode cX11_lone 37 = .ok (.getfield 297, 3) := by decide +kernel
theorem dX11_lone_40 : decode cX11_lone 40 = .ok (.ifCond .ne 6, 3) := by decide +kernel
theorem dX11_lone_43 : decode cX11_lone 43 = .ok (.bipush (-3), 2) := by decide +kernel
theorem dX11_lone_45 : decode cX11_lone 45 = .ok (.ireturn, 1) := by decide +kernel
theorem dX11_lone_46 : decode cX11_lone 46 = .ok (.iload_n 1, 1) := by decide +kernel
theorem dX11_lone_47 : decode cX11_lone 47 = .ok (.iconst 1, 1) := by decide +kernel
theorem dX11_lone_48 : decode cX11_lone 48 = .ok (.if_icmp .ne 10, 3) := by decide +kernel
theorem dX11_lone_51 : decode cX11_lone 51 = .ok (.aload_n 2, 1) := by decide +kernel
theorem dX11_lone_52 : decode cX11_lone 52 = .ok (.getfield 300, 3) := by decide +kernel
theorem dX11_lone_55 : decode cX11_lone 55 = .ok (.goto 19, 3) := by decide +kernel
theorem dX11_lone_58 : decode cX11_lone 58 = .ok (.iload_n 1, 1) := by decide +kernel
theorem dX11_lone_59 : decode cX11_lone 59 = .ok (.iconst 2, 1) := by decide +kernel
theorem dX11_lone_60 : decode cX11_lone 60 = .ok (.if_icmp .ne 10, 3) := by decide +kernel
theorem dX11_lone_63 : decode cX11_lone 63 = .ok (.aload_n 2, 1) := by decide +kernel
theorem dX11_lone_64 : decode cX11_lone 64 = .ok (.getfield 303, 3) := by decide +kernel
theorem dX11_lone_67 : decode cX11_lone 67 = .ok (.goto 7, 3) := by decide +kernel
theorem dX11_lone_70 : decode cX11_lone 70 = .ok (.aload_n 2, 1) := by decide +kernel
theorem dX11_lone_71 : decode cX11_lone 71 = .ok (.getfield 306, 3) := by decide +kernel
theorem dX11_lone_74 : decode cX11_lone 74 = .ok (.ireturn, 1) := by decide +kernel
theorem dX11_liar_0 : decode cX11_liar 0 = .ok (.aload_n 0, 1) := by decide +kernel
theorem dX11_liar_1 : decode cX11_liar 1 = .ok (.getfield 74, 3) := by decide +kernel
theorem dX11_liar_4 : decode cX11_liar 4 = .ok (.getfield 286, 3) := by decide +kernel
theorem dX11_liar_7 : decode cX11_liar 7 = .ok (.aload_n 0, 1) := by decide +kernel
theorem dX11_liar_8 : decode cX11_liar 8 = .ok (.getfield 74, 3) := by decide +kernel
theorem dX11_liar_11 : decode cX11_liar 11 = .ok (.invokevirtual 294, 3) := by decide +kernel
theorem dX11_liar_14 : decode cX11_liar 14 = .ok (.aload_n 0, 1) := by decide +kernel
theorem dX11_liar_15 : decode cX11_liar 15 = .ok (.getfield 74, 3) := by decide +kernel
theorem dX11_liar_18 : decode cX11_liar 18 = .ok (.getfield 286, 3) := by decide +kernel
theorem dX11_liar_21 : decode cX11_liar 21 = .ok (.getfield 297, 3) := by decide +kernel
theorem dX11_liar_24 : decode cX11_liar 24 = .ok (.ifCond .le 6, 3) := by decide +kernel
theorem dX11_liar_27 : decode cX11_liar 27 = .ok (.bipush (-3), 2) := by decide +kernel
theorem dX11_liar_29 : decode cX11_liar 29 = .ok (.ireturn, 1) := by decide +kernel
theorem dX11_liar_30 : decode cX11_liar 30 = .ok (.iconst 0, 1) := by decide +kernel
theorem dX11_liar_31 : decode cX11_liar 31 = .ok (.istore_n 1, 1) := by decide +kernel
theorem dX11_liar_32 : decode cX11_liar 32 = .ok (.iload_n 1, 1) := by decide +kernel
theorem dX11_liar_33 : decode cX11_liar 33 = .ok (.bipush 6, 2) := by decide +kernel
theorem dX11_liar_35 : decode cX11_liar 35 = .ok (.if_icmp .ge 28, 3) := by decide +kernel
theorem dX11_liar_38 : decode cX11_liar 38 = .ok (.aload_n 0, 1) := by decide +kernel
theorem dX11_liar_39 : decode cX11_liar 39 = .ok (.getfield 74, 3) := by decide +kernel
theorem dX11_liar_42 : decode cX11_liar 42 = .ok (.getfield 286, 3) := by decide +kernel
theorem dX11_liar_45 : decode cX11_liar 45 = .ok (.getfield 309, 3) := by decide +kernel
theorem dX11_liar_48 : decode cX11_liar 48 = .ok (.iload_n 1, 1) := by decide +kernel
theorem dX11_liar_49 : decode cX11_liar 49 = .ok (.invokestatic 236, 3) := by decide +kernel
theorem dX11_liar_52 : decode cX11_liar 52 = .ok (.ifCond .eq 5, 3) := by decide +kernel
theorem dX11_liar_55 : decode cX11_liar 55 = .ok (.iload_n 1, 1) := by decide +kernel
theorem dX11_liar_56 : decode cX11_liar 56 = .ok (.ireturn, 1) := by decide +kernel
theorem dX11_liar_57 : decode cX11_liar 57 = .ok (.iinc 1 1, 3) := by decide +kernel
theorem dX11_liar_60 : decode cX11_liar 60 = .ok (.goto (-28), 3) := by decide +kernel
theorem dX11_liar_63 : decode cX11_liar 63 = .ok (.bipush (-3), 2) := by decide +kernel
theorem dX11_liar_65 : decode cX11_liar 65 = .ok (.ireturn, 1) := by decide +kernel
theorem dX11_seed_0 : decode cX11_seed 0 = .ok (.aload_n 0, 1) := by decide +kernel
theorem dX11_seed_1 : decode cX11_seed 1 = .ok (.getfield 74, 3) := by decide +kernel
theorem dX11_seed_4 : decode cX11_seed 4 = .ok (.getfield 312, 3) := by decide +kernel
theorem dX11_seed_7 : decode cX11_seed 7 = .ok (.istore_n 2, 1) := by decide +kernel
theorem dX11_seed_8 : decode cX11_seed 8 = .ok (.aload_n 0, 1) := by decide +kernel
theorem dX11_seed_9 : decode cX11_seed 9 = .ok (.getfield 74, 3) := by decide +kernel
theorem dX11_seed_12 : decode cX11_seed 12 = .ok (.iload_n 1, 1) := by decide +kernel
theorem dX11_seed_13 : decode cX11_seed 13 = .ok (.putfield 312, 3) := by decide +kernel
theorem dX11_seed_16 : decode cX11_seed 16 = .ok (.iload_n 2, 1) := by decide +kernel
theorem dX11_seed_17 : decode cX11_seed 17 = .ok (.ireturn, 1) := by decide +kernel
theorem dX11_lot_0 : decode cX11_lot 0 = .ok (.aload_n 0, 1) := by decide +kernel
theorem dX11_lot_1 : decode cX11_lot 1 = .ok (.getfield 74, 3) := by decide +kernel
theorem dX11_lot_4 : decode cX11_lot 4 = .ok (.aload_n 0, 1) := by decide +kernel
theorem dX11_lot_5 : decode cX11_lot 5 = .ok (.getfield 74, 3) := by decide +kernel
theorem dX11_lot_8 : decode cX11_lot 8 = .ok (.getfield 112, 3) := by decide +kernel
theorem dX11_lot_11 : decode cX11_lot 11 = .ok (.invokevirtual 185, 3) := by decide +kernel
theorem dX11_lot_14 : decode cX11_lot 14 = .ok (.ifCond .eq 6, 3) := by decide +kernel
theorem dX11_lot_17 : decode cX11_lot 17 = .ok (.bipush (-4), 2) := by decide +kernel
theorem dX11_lot_19 : decode cX11_lot 19 = .ok (.ireturn, 1) := by decide +kernel
theorem dX11_lot_20 : decode cX11_lot 20 = .ok (.aload_n 0, 1) := by decide +kernel
theorem dX11_lot_21 : decode cX11_lot 21 = .ok (.getfield 74, 3) := by decide +kernel
theorem dX11_lot_24 : decode cX11_lot 24 = .ok (.aload_n 0, 1) := by decide +kernel
theorem dX11_lot_25 : decode cX11_lot 25 = .ok (.getfield 74, 3) := by decide +kernel
theorem dX11_lot_28 : decode cX11_lot 28 = .ok (.getfield 312, 3) := by decide +kernel
theorem dX11_lot_31 : decode cX11_lot 31 = .ok (.invokestatic 315, 3) := by decide +kernel
theorem dX11_lot_34 : decode cX11_lot 34 = .ok (.putfield 312, 3) := by decide +kernel
theorem dX11_lot_37 : decode cX11_lot 37 = .ok (.aload_n 0, 1) := by decide +kernel
theorem dX11_lot_38 : decode cX11_lot 38 = .ok (.getfield 74, 3) := by decide +kernel
theorem dX11_lot_41 : decode cX11_lot 41 = .ok (.aload_n 0, 1) := by decide +kernel
theorem dX11_lot_42 : decode cX11_lot 42 = .ok (.getfield 74, 3) := by decide +kernel
theorem dX11_lot_45 : decode cX11_lot 45 = .ok (.aload_n 0, 1) := by decide +kernel
theorem dX11_lot_46 : decode cX11_lot 46 = .ok (.getfield 74, 3) := by decide +kernel
theorem dX11_lot_49 : decode cX11_lot 49 = .ok (.getfield 312, 3) := by decide +kernel
theorem dX11_lot_52 : decode cX11_lot 52 = .ok (.invokevirtual 318, 3) := by decide +kernel
theorem dX11_lot_55 : decode cX11_lot 55 = .ok (.invokevirtual 220, 3) := by decide +kernel
theorem dX11_lot_58 : decode cX11_lot 58 = .ok (.ireturn, 1) := by decide +kernel
theorem dX11_times_0 : decode cX11_times 0 = .ok (.iload_n 1, 1) := by decide +kernel
theorem dX11_times_1 : decode cX11_times 1 = .ok (.iconst 1, 1) := by decide +kernel
theorem dX11_times_2 : decode cX11_times 2 = .ok (.bipush 40, 2) := by decide +kernel
theorem dX11_times_4 : decode cX11_times 4 = .ok (.invokestatic 94, 3) := by decide +kernel
theorem dX11_times_7 : decode cX11_times 7 = .ok (.ifCond .eq 14, 3) := by decide +kernel
theorem dX11_times_10 : decode cX11_times 10 = .ok (.iload_n 2, 1) := by decide +kernel
theorem dX11_times_11 : decode cX11_times 11 = .ok (.iconst 0, 1) := by decide +kernel
theorem dX11_times_12 : decode cX11_times 12 = .ok (.sipush 999, 3) := by decide +kernel
theorem dX11_times_15 : decode cX11_times 15 = .ok (.invokestatic 94, 3) := by decide +kernel
theorem dX11_times_18 : decode cX11_times 18 = .ok (.ifCond .ne 5, 3) := by decide +kernel
theorem dX11_times_21 : decode cX11_times 21 = .ok (.iconst (-1), 1) := by decide +kernel
theorem dX11_times_22 : decode cX11_times 22 = .ok (.ireturn, 1) := by decide +kernel
theorem dX11_times_23 : decode cX11_times 23 = .ok (.iconst 0, 1) := by decide +kernel
theorem dX11_times_24 : decode cX11_times 24 = .ok (.istore_n 3, 1) := by decide +kernel
theorem dX11_times_25 : decode cX11_times 25 = .ok (.aload_n 0, 1) := by decide +kernel
theorem dX11_times_26 : decode cX11_times 26 = .ok (.getfield 74, 3) := by decide +kernel
theorem dX11_times_29 : decode cX11_times 29 = .ok (.getfield 312, 3) := by decide +kernel
theorem dX11_times_32 : decode cX11_times 32 = .ok (.istore 4, 2) := by decide +kernel
theorem dX11_times_34 : decode cX11_times 34 = .ok (.iconst 0, 1) := by decide +kernel
theorem dX11_times_35 : decode cX11_times 35 = .ok (.istore 5, 2) := by decide +kernel
theorem dX11_times_37 : decode cX11_times 37 = .ok (.iload 5, 2) := by decide +kernel
theorem dX11_times_39 : decode cX11_times 39 = .ok (.iload_n 1, 1) := by decide +kernel
theorem dX11_times_40 : decode cX11_times 40 = .ok (.if_icmp .ge 97, 3) := by decide +kernel
theorem dX11_times_43 : decode cX11_times 43 = .ok (.aload_n 0, 1) := by decide +kernel
theorem dX11_times_44 : decode cX11_times 44 = .ok (.getfield 10, 3) := by decide +kernel
theorem dX11_times_47 : decode cX11_times 47 = .ok (.aload_n 0, 1) := by decide +kernel
theorem dX11_times_48 : decode cX11_times 48 = .ok (.getfield 74, 3) := by decide +kernel
theorem dX11_times_51 : decode cX11_times 51 = .ok (.getfield 112, 3) := by decide +kernel
theorem dX11_times_54 : decode cX11_times 54 = .ok (.invokevirtual 226, 3) := by decide +kernel
theorem dX11_times_57 : decode cX11_times 57 = .ok (.iconst 0, 1) := by decide +kernel
theorem dX11_times_58 : decode cX11_times 58 = .ok (.istore 6, 2) := by decide +kernel
theorem dX11_times_60 : decode cX11_times 60 = .ok (.iconst 0, 1) := by decide +kernel
theorem dX11_times_61 : decode cX11_times 61 = .ok (.istore 7, 2) := by decide +kernel
theorem dX11_times_63 : decode cX11_times 63 = .ok (.iload 7, 2) := by decide +kernel
theorem dX11_times_65 : decode cX11_times 65 = .ok (.bipush 16, 2) := by decide +kernel
theorem dX11_times_67 : decode cX11_times 67 = .ok (.if_icmp .ge 55, 3) := by decide +kernel
theorem dX11_times_70 : decode cX11_times 70 = .ok (.aload_n 0, 1) := by decide +kernel
theorem dX11_times_71 : decode cX11_times 71 = .ok (.getfield 74, 3) := by decide +kernel
theorem dX11_times_74 : decode cX11_times 74 = .ok (.aload_n 0, 1) := by decide +kernel
theorem dX11_times_75 : decode cX11_times 75 = .ok (.getfield 10, 3) := by decide +kernel
theorem dX11_times_78 : decode cX11_times 78 = .ok (.invokevirtual 185, 3) := by decide +kernel
theorem dX11_times_81 : decode cX11_times 81 = .ok (.ifCond .ne 41, 3) := by decide +kernel
theorem dX11_times_84 : decode cX11_times 84 = .ok (.iload 4, 2) := by decide +kernel
theorem dX11_times_86 : decode cX11_times 86 = .ok (.invokestatic 315, 3) := by decide +kernel
theorem dX11_times_89 : decode cX11_times 89 = .ok (.istore 4, 2) := by decide +kernel
theorem dX11_times_91 : decode cX11_times 91 = .ok (.iload 6, 2) := by decide +kernel
theorem dX11_times_93 : decode cX11_times 93 = .ok (.aload_n 0, 1) := by decide +kernel
theorem dX11_times_94 : decode cX11_times 94 = .ok (.getfield 74, 3) := by decide +kernel
theorem dX11_times_97 : decode cX11_times 97 = .ok (.aload_n 0, 1) := by decide +kernel
theorem dX11_times_98 : decode cX11_times 98 = .ok (.getfield 10, 3) := by decide +kernel
theorem dX11_times_101 : decode cX11_times 101 = .ok (.aload_n 0, 1) := by decide +kernel
theorem dX11_times_102 : decode cX11_times 102 = .ok (.getfield 74, 3) := by decide +kernel
theorem dX11_times_105 : decode cX11_times 105 = .ok (.iload 4, 2) := by decide +kernel
theorem dX11_times_107 : decode cX11_times 107 = .ok (.invokevirtual 318, 3) := by decide +kernel
theorem dX11_times_110 : decode cX11_times 110 = .ok (.invokevirtual 229, 3) := by decide +kernel
theorem dX11_times_113 : decode cX11_times 113 = .ok (.iadd, 1) := by decide +kernel
theorem dX11_times_114 : decode cX11_times 114 = .ok (.istore 6, 2) := by decide +kernel
theorem dX11_times_116 : decode cX11_times 116 = .ok (.iinc 7 1, 3) := by decide +kernel
theorem dX11_times_119 : decode cX11_times 119 = .ok (.goto (-56), 3) := by decide +kernel
theorem dX11_times_122 : decode cX11_times 122 = .ok (.iload 6, 2) := by decide +kernel
theorem dX11_times_124 : decode cX11_times 124 = .ok (.iload_n 2, 1) := by decide +kernel
theorem dX11_times_125 : decode cX11_times 125 = .ok (.if_icmp .lt 6, 3) := by decide +kernel
theorem dX11_times_128 : decode cX11_times 128 = .ok (.iinc 3 1, 3) := by decide +kernel
theorem dX11_times_131 : decode cX11_times 131 = .ok (.iinc 5 1, 3) := by decide +kernel
theorem dX11_times_134 : decode cX11_times 134 = .ok (.goto (-97), 3) := by decide +kernel
theorem dX11_times_137 : decode cX11_times 137 = .ok (.iload_n 3, 1) := by decide +kernel
theorem dX11_times_138 : decode cX11_times 138 = .ok (.ireturn, 1) := by decide +kernel
theorem dX11_prove_0 : decode cX11_prove 0 = .ok (.iload_n 1, 1) := by decide +kernel
theorem dX11_prove_1 : decode cX11_prove 1 = .ok (.invokestatic 252, 3) := by decide +kernel
theorem dX11_prove_4 : decode cX11_prove 4 = .ok (.ifCond .ne 5, 3) := by decide +kernel
theorem dX11_prove_7 : decode cX11_prove 7 = .ok (.iconst (-1), 1) := by decide +kernel
theorem dX11_prove_8 : decode cX11_prove 8 = .ok (.ireturn, 1) := by decide +kernel
theorem dX11_prove_9 : decode cX11_prove 9 = .ok (.aload_n 0, 1) := by decide +kernel
theorem dX11_prove_10 : decode cX11_prove 10 = .ok (.getfield 86, 3) := by decide +kernel
theorem dX11_prove_13 : decode cX11_prove 13 = .ok (.iload_n 1, 1) := by decide +kernel
theorem dX11_prove_14 : decode cX11_prove 14 = .ok (.iconst 0, 1) := by decide +kernel
theorem dX11_prove_15 : decode cX11_prove 15 = .ok (.invokevirtual 255, 3) := by decide +kernel
theorem dX11_prove_18 : decode cX11_prove 18 = .ok (.aload_n 0, 1) := by decide +kernel
theorem dX11_prove_19 : decode cX11_prove 19 = .ok (.aload_n 0, 1) := by decide +kernel
theorem dX11_prove_20 : decode cX11_prove 20 = .ok (.getfield 86, 3) := by decide +kernel
theorem dX11_prove_23 : decode cX11_prove 23 = .ok (.getfield 262, 3) := by decide +kernel
theorem dX11_prove_26 : decode cX11_prove 26 = .ok (.putfield 321, 3) := by decide +kernel
theorem dX11_prove_29 : decode cX11_prove 29 = .ok (.aload_n 0, 1) := by decide +kernel
theorem dX11_prove_30 : decode cX11_prove 30 = .ok (.getfield 10, 3) := by decide +kernel
theorem dX11_prove_33 : decode cX11_prove 33 = .ok (.aload_n 0, 1) := by decide +kernel
theorem dX11_prove_34 : decode cX11_prove 34 = .ok (.getfield 74, 3) := by decide +kernel
theorem dX11_prove_37 : decode cX11_prove 37 = .ok (.getfield 112, 3) := by decide +kernel
theorem dX11_prove_40 : decode cX11_prove 40 = .ok (.invokevirtual 226, 3) := by decide +kernel
theorem dX11_prove_43 : decode cX11_prove 43 = .ok (.iconst 0, 1) := by decide +kernel
theorem dX11_prove_44 : decode cX11_prove 44 = .ok (.istore_n 2, 1) := by decide +kernel
theorem dX11_prove_45 : decode cX11_prove 45 = .ok (.iload_n 2, 1) := by decide +kernel
theorem dX11_prove_46 : decode cX11_prove 46 = .ok (.aload_n 0, 1) := by decide +kernel
theorem dX11_prove_47 : decode cX11_prove 47 = .ok (.getfield 321, 3) := by decide +kernel
theorem dX11_prove_50 : decode cX11_prove 50 = .ok (.if_icmp .ge 69, 3) := by decide +kernel
theorem dX11_prove_53 : decode cX11_prove 53 = .ok (.aload_n 0, 1) := by decide +kernel
theorem dX11_prove_54 : decode cX11_prove 54 = .ok (.getfield 29, 3) := by decide +kernel
theorem dX11_prove_57 : decode cX11_prove 57 = .ok (.iload_n 2, 1) := by decide +kernel
theorem dX11_prove_58 : decode cX11_prove 58 = .ok (.aaload, 1) := by decide +kernel
theorem dX11_prove_59 : decode cX11_prove 59 = .ok (.iconst 0, 1) := by decide +kernel
theorem dX11_prove_60 : decode cX11_prove 60 = .ok (.aload_n 0, 1) := by decide +kernel
theorem dX11_prove_61 : decode cX11_prove 61 = .ok (.getfield 86, 3) := by decide +kernel
theorem dX11_prove_64 : decode cX11_prove 64 = .ok (.getfield 265, 3) := by decide +kernel
theorem dX11_prove_67 : decode cX11_prove 67 = .ok (.iload_n 2, 1) := by decide +kernel
theorem dX11_prove_68 : decode cX11_prove 68 = .ok (.iaload, 1) := by decide +kernel
theorem dX11_prove_69 : decode cX11_prove 69 = .ok (.iastore, 1) := by decide +kernel
theorem dX11_prove_70 : decode cX11_prove 70 = .ok (.aload_n 0, 1) := by decide +kernel
theorem dX11_prove_71 : decode cX11_prove 71 = .ok (.getfield 29, 3) := by decide +kernel
theorem dX11_prove_74 : decode cX11_prove 74 = .ok (.iload_n 2, 1) := by decide +kernel
theorem dX11_prove_75 : decode cX11_prove 75 = .ok (.aaload, 1) := by decide +kernel
theorem dX11_prove_76 : decode cX11_prove 76 = .ok (.iconst 1, 1) := by decide +kernel
theorem dX11_prove_77 : decode cX11_prove 77 = .ok (.aload_n 0, 1) := by decide +kernel
theorem dX11_prove_78 : decode cX11_prove 78 = .ok (.getfield 74, 3) := by decide +kernel
theorem dX11_prove_81 : decode cX11_prove 81 = .ok (.aload_n 0, 1) := by decide +kernel
theorem dX11_prove_82 : decode cX11_prove 82 = .ok (.getfield 10, 3) := by decide +kernel
theorem dX11_prove_85 : decode cX11_prove 85 = .ok (.aload_n 0, 1) := by decide +kernel
theorem dX11_prove_86 : decode cX11_prove 86 = .ok (.getfield 86, 3) := by decide +kernel
theorem dX11_prove_89 : decode cX11_prove 89 = .ok (.getfield 265, 3) := by decide +kernel
theorem dX11_prove_92 : decode cX11_prove 92 = .ok (.iload_n 2, 1) := by decide +kernel
theorem dX11_prove_93 : decode cX11_prove 93 = .ok (.iaload, 1) := by decide +kernel
theorem dX11_prove_94 : decode cX11_prove 94 = .ok (.invokevirtual 229, 3) := by decide +kernel
theorem dX11_prove_97 : decode cX11_prove 97 = .ok (.iastore, 1) := by decide +kernel
theorem dX11_prove_98 : decode cX11_prove 98 = .ok (.aload_n 0, 1) := by decide +kernel
theorem dX11_prove_99 : decode cX11_prove 99 = .ok (.getfield 29, 3) := by decide +kernel
theorem dX11_prove_102 : decode cX11_prove 102 = .ok (.iload_n 2, 1) := by decide +kernel
theorem dX11_prove_103 : decode cX11_prove 103 = .ok (.aaload, 1) := by decide +kernel
theorem dX11_prove_104 : decode cX11_prove 104 = .ok (.iconst 2, 1) := by decide +kernel
theorem dX11_prove_105 : decode cX11_prove 105 = .ok (.aload_n 0, 1) := by decide +kernel
theorem dX11_prove_106 : decode cX11_prove 106 = .ok (.getfield 10, 3) := by decide +kernel
theorem dX11_prove_109 : decode cX11_prove 109 = .ok (.getfield 189, 3) := by decide +kernel
theorem dX11_prove_112 : decode cX11_prove 112 = .ok (.iastore, 1) := by decide +kernel
theorem dX11_prove_113 : decode cX11_prove 113 = .ok (.iinc 2 1, 3) := by decide +kernel
theorem dX11_prove_116 : decode cX11_prove 116 = .ok (.goto (-71), 3) := by decide +kernel
theorem dX11_prove_119 : decode cX11_prove 119 = .ok (.aload_n 0, 1) := by decide +kernel
theorem dX11_prove_120 : decode cX11_prove 120 = .ok (.getfield 321, 3) := by decide +kernel
theorem dX11_prove_123 : decode cX11_prove 123 = .ok (.ireturn, 1) := by decide +kernel
theorem dX11_row_0 : decode cX11_row 0 = .ok (.aload_n 0, 1) := by decide +kernel
theorem dX11_row_1 : decode cX11_row 1 = .ok (.iload_n 1, 1) := by decide +kernel
theorem dX11_row_2 : decode cX11_row 2 = .ok (.iload_n 2, 1) := by decide +kernel
theorem dX11_row_3 : decode cX11_row 3 = .ok (.invokevirtual 324, 3) := by decide +kernel
theorem dX11_row_6 : decode cX11_row 6 = .ok (.ifCond .eq 14, 3) := by decide +kernel
theorem dX11_row_9 : decode cX11_row 9 = .ok (.aload_n 0, 1) := by decide +kernel
theorem dX11_row_10 : decode cX11_row 10 = .ok (.getfield 29, 3) := by decide +kernel
theorem dX11_row_13 : decode cX11_row 13 = .ok (.iload_n 1, 1) := by decide +kernel
theorem dX11_row_14 : decode cX11_row 14 = .ok (.aaload, 1) := by decide +kernel
theorem dX11_row_15 : decode cX11_row 15 = .ok (.iload_n 2, 1) := by decide +kernel
theorem dX11_row_16 : decode cX11_row 16 = .ok (.iaload, 1) := by decide +kernel
theorem dX11_row_17 : decode cX11_row 17 = .ok (.goto 5, 3) := by decide +kernel
theorem dX11_row_20 : decode cX11_row 20 = .ok (.bipush (-9), 2) := by decide +kernel
theorem dX11_row_22 : decode cX11_row 22 = .ok (.ireturn, 1) := by decide +kernel
theorem dX11_alterRow_0 : decode cX11_alterRow 0 = .ok (.aload_n 0, 1) := by decide +kernel
theorem dX11_alterRow_1 : decode cX11_alterRow 1 = .ok (.iload_n 1, 1) := by decide +kernel
theorem dX11_alterRow_2 : decode cX11_alterRow 2 = .ok (.iload_n 2, 1) := by decide +kernel
theorem dX11_alterRow_3 : decode cX11_alterRow 3 = .ok (.invokevirtual 324, 3) := by decide +kernel
theorem dX11_alterRow_6 : decode cX11_alterRow 6 = .ok (.ifCond .ne 6, 3) := by decide +kernel
theorem dX11_alterRow_9 : decode cX11_alterRow 9 = .ok (.bipush (-9), 2) := by decide +kernel
theorem dX11_alterRow_11 : decode cX11_alterRow 11 = .ok (.ireturn, 1) := by decide +kernel
theorem dX11_alterRow_12 : decode cX11_alterRow 12 = .ok (.aload_n 0, 1) := by decide +kernel
theorem dX11_alterRow_13 : decode cX11_alterRow 13 = .ok (.getfield 29, 3) := by decide +kernel
theorem dX11_alterRow_16 : decode cX11_alterRow 16 = .ok (.iload_n 1, 1) := by decide +kernel
theorem dX11_alterRow_17 : decode cX11_alterRow 17 = .ok (.aaload, 1) := by decide +kernel
theorem dX11_alterRow_18 : decode cX11_alterRow 18 = .ok (.iload_n 2, 1) := by decide +kernel
theorem dX11_alterRow_19 : decode cX11_alterRow 19 = .ok (.iaload, 1) := by decide +kernel
theorem dX11_alterRow_20 : decode cX11_alterRow 20 = .ok (.istore 4, 2) := by decide +kernel
theorem dX11_alterRow_22 : decode cX11_alterRow 22 = .ok (.aload_n 0, 1) := by decide +kernel
theorem dX11_alterRow_23 : decode cX11_alterRow 23 = .ok (.getfield 29, 3) := by decide +kernel
theorem dX11_alterRow_26 : decode cX11_alterRow 26 = .ok (.iload_n 1, 1) := by decide +kernel
theorem dX11_alterRow_27 : decode cX11_alterRow 27 = .ok (.aaload, 1) := by decide +kernel
theorem dX11_alterRow_28 : decode cX11_alterRow 28 = .ok (.iload_n 2, 1) := by decide +kernel
theorem dX11_alterRow_29 : decode cX11_alterRow 29 = .ok (.iload_n 3, 1) := by decide +kernel
theorem dX11_alterRow_30 : decode cX11_alterRow 30 = .ok (.iastore, 1) := by decide +kernel
theorem dX11_alterRow_31 : decode cX11_alterRow 31 = .ok (.iload 4, 2) := by decide +kernel
theorem dX11_alterRow_33 : decode cX11_alterRow 33 = .ok (.ireturn, 1) := by decide +kernel
theorem dX11_judge_0 : decode cX11_judge 0 = .ok (.aload_n 0, 1) := by decide +kernel
theorem dX11_judge_1 : decode cX11_judge 1 = .ok (.getfield 10, 3) := by decide +kernel
theorem dX11_judge_4 : decode cX11_judge 4 = .ok (.aload_n 0, 1) := by decide +kernel
theorem dX11_judge_5 : decode cX11_judge 5 = .ok (.getfield 74, 3) := by decide +kernel
theorem dX11_judge_8 : decode cX11_judge 8 = .ok (.getfield 112, 3) := by decide +kernel
theorem dX11_judge_11 : decode cX11_judge 11 = .ok (.invokevirtual 226, 3) := by decide +kernel
theorem dX11_judge_14 : decode cX11_judge 14 = .ok (.iconst 0, 1) := by decide +kernel
theorem dX11_judge_15 : decode cX11_judge 15 = .ok (.istore_n 1, 1) := by decide +kernel
theorem dX11_judge_16 : decode cX11_judge 16 = .ok (.iload_n 1, 1) := by decide +kernel
theorem dX11_judge_17 : decode cX11_judge 17 = .ok (.aload_n 0, 1) := by decide +kernel
theorem dX11_judge_18 : decode cX11_judge 18 = .ok (.getfield 321, 3) := by decide +kernel
theorem dX11_judge_21 : decode cX11_judge 21 = .ok (.if_icmp .ge 96, 3) := by decide +kernel
theorem dX11_judge_24 : decode cX11_judge 24 = .ok (.aload_n 0, 1) := by decide +kernel
theorem dX11_judge_25 : decode cX11_judge 25 = .ok (.aload_n 0, 1) := by decide +kernel
theorem dX11_judge_26 : decode cX11_judge 26 = .ok (.getfield 29, 3) := by decide +kernel
theorem dX11_judge_29 : decode cX11_judge 29 = .ok (.iload_n 1, 1) := by decide +kernel
theorem dX11_judge_30 : decode cX11_judge 30 = .ok (.aaload, 1) := by decide +kernel
theorem dX11_judge_31 : decode cX11_judge 31 = .ok (.iconst 0, 1) := by decide +kernel
theorem dX11_judge_32 : decode cX11_judge 32 = .ok (.iaload, 1) := by decide +kernel
theorem dX11_judge_33 : decode cX11_judge 33 = .ok (.invokevirtual 327, 3) := by decide +kernel
theorem dX11_judge_36 : decode cX11_judge 36 = .ok (.ifCond .eq 17, 3) := by decide +kernel
theorem dX11_judge_39 : decode cX11_judge 39 = .ok (.aload_n 0, 1) := by decide +kernel
theorem dX11_judge_40 : decode cX11_judge 40 = .ok (.getfield 74, 3) := by decide +kernel
theorem dX11_judge_43 : decode cX11_judge 43 = .ok (.aload_n 0, 1) := by decide +kernel
theorem dX11_judge_44 : decode cX11_judge 44 = .ok (.getfield 10, 3) := by decide +kernel
theorem dX11_judge_47 : decode cX11_judge 47 = .ok (.invokevirtual 185, 3) := by decide +kernel
theorem dX11_judge_50 : decode cX11_judge 50 = .ok (.ifCond .eq 7, 3) := by decide +kernel
theorem dX11_judge_53 : decode cX11_judge 53 = .ok (.iload_n 1, 1) := by decide +kernel
theorem dX11_judge_54 : decode cX11_judge 54 = .ok (.iconst 1, 1) := by decide +kernel
theorem dX11_judge_55 : decode cX11_judge 55 = .ok (.iadd, 1) := by decide +kernel
theorem dX11_judge_56 : decode cX11_judge 56 = .ok (.ireturn, 1) := by decide +kernel
theorem dX11_judge_57 : decode cX11_judge 57 = .ok (.aload_n 0, 1) := by decide +kernel
theorem dX11_judge_58 : decode cX11_judge 58 = .ok (.getfield 74, 3) := by decide +kernel
theorem dX11_judge_61 : decode cX11_judge 61 = .ok (.aload_n 0, 1) := by decide +kernel
theorem dX11_judge_62 : decode cX11_judge 62 = .ok (.getfield 10, 3) := by decide +kernel
theorem dX11_judge_65 : decode cX11_judge 65 = .ok (.aload_n 0, 1) := by decide +kernel
theorem dX11_judge_66 : decode cX11_judge 66 = .ok (.getfield 29, 3) := by decide +kernel
theorem dX11_judge_69 : decode cX11_judge 69 = .ok (.iload_n 1, 1) := by decide +kernel
theorem dX11_judge_70 : decode cX11_judge 70 = .ok (.aaload, 1) := by decide +kernel
theorem dX11_judge_71 : decode cX11_judge 71 = .ok (.iconst 0, 1) := by decide +kernel
theorem dX11_judge_72 : decode cX11_judge 72 = .ok (.iaload, 1) := by decide +kernel
theorem dX11_judge_73 : decode cX11_judge 73 = .ok (.invokevirtual 229, 3) := by decide +kernel
theorem dX11_judge_76 : decode cX11_judge 76 = .ok (.istore_n 2, 1) := by decide +kernel
theorem dX11_judge_77 : decode cX11_judge 77 = .ok (.aload_n 0, 1) := by decide +kernel
theorem dX11_judge_78 : decode cX11_judge 78 = .ok (.getfield 29, 3) := by decide +kernel
theorem dX11_judge_81 : decode cX11_judge 81 = .ok (.iload_n 1, 1) := by decide +kernel
theorem dX11_judge_82 : decode cX11_judge 82 = .ok (.aaload, 1) := by decide +kernel
theorem dX11_judge_83 : decode cX11_judge 83 = .ok (.iconst 1, 1) := by decide +kernel
theorem dX11_judge_84 : decode cX11_judge 84 = .ok (.iaload, 1) := by decide +kernel
theorem dX11_judge_85 : decode cX11_judge 85 = .ok (.iload_n 2, 1) := by decide +kernel
theorem dX11_judge_86 : decode cX11_judge 86 = .ok (.if_icmp .ne 21, 3) := by decide +kernel
theorem dX11_judge_89 : decode cX11_judge 89 = .ok (.aload_n 0, 1) := by decide +kernel
theorem dX11_judge_90 : decode cX11_judge 90 = .ok (.getfield 29, 3) := by decide +kernel
theorem dX11_judge_93 : decode cX11_judge 93 = .ok (.iload_n 1, 1) := by decide +kernel
theorem dX11_judge_94 : decode cX11_judge 94 = .ok (.aaload, 1) := by decide +kernel
theorem dX11_judge_95 : decode cX11_judge 95 = .ok (.iconst 2, 1) := by decide +kernel
theorem dX11_judge_96 : decode cX11_judge 96 = .ok (.iaload, 1) := by decide +kernel
theorem dX11_judge_97 : decode cX11_judge 97 = .ok (.aload_n 0, 1) := by decide +kernel
theorem dX11_judge_98 : decode cX11_judge 98 = .ok (.getfield 10, 3) := by decide +kernel
theorem dX11_judge_101 : decode cX11_judge 101 = .ok (.getfield 189, 3) := by decide +kernel
theorem dX11_judge_104 : decode cX11_judge 104 = .ok (.if_icmp .eq 7, 3) := by decide +kernel
theorem dX11_judge_107 : decode cX11_judge 107 = .ok (.iload_n 1, 1) := by decide +kernel
theorem dX11_judge_108 : decode cX11_judge 108 = .ok (.iconst 1, 1) := by decide +kernel
theorem dX11_judge_109 : decode cX11_judge 109 = .ok (.iadd, 1) := by decide +kernel
theorem dX11_judge_110 : decode cX11_judge 110 = .ok (.ireturn, 1) := by decide +kernel
theorem dX11_judge_111 : decode cX11_judge 111 = .ok (.iinc 1 1, 3) := by decide +kernel
theorem dX11_judge_114 : decode cX11_judge 114 = .ok (.goto (-98), 3) := by decide +kernel
theorem dX11_judge_117 : decode cX11_judge 117 = .ok (.iconst 0, 1) := by decide +kernel
theorem dX11_judge_118 : decode cX11_judge 118 = .ok (.ireturn, 1) := by decide +kernel
theorem dX11_sheet_0 : decode cX11_sheet 0 = .ok (.iload_n 1, 1) := by decide +kernel
theorem dX11_sheet_1 : decode cX11_sheet 1 = .ok (.invokestatic 330, 3) := by decide +kernel
theorem dX11_sheet_4 : decode cX11_sheet 4 = .ok (.ifCond .eq 12, 3) := by decide +kernel
theorem dX11_sheet_7 : decode cX11_sheet 7 = .ok (.iload_n 2, 1) := by decide +kernel
theorem dX11_sheet_8 : decode cX11_sheet 8 = .ok (.iconst (-1), 1) := by decide +kernel
theorem dX11_sheet_9 : decode cX11_sheet 9 = .ok (.iconst 4, 1) := by decide +kernel
theorem dX11_sheet_10 : decode cX11_sheet 10 = .ok (.invokestatic 94, 3) := by decide +kernel
theorem dX11_sheet_13 : decode cX11_sheet 13 = .ok (.ifCond .ne 5, 3) := by decide +kernel
theorem dX11_sheet_16 : decode cX11_sheet 16 = .ok (.iconst (-1), 1) := by decide +kernel
theorem dX11_sheet_17 : decode cX11_sheet 17 = .ok (.ireturn, 1) := by decide +kernel
theorem dX11_sheet_18 : decode cX11_sheet 18 = .ok (.iload_n 2, 1) := by decide +kernel
theorem dX11_sheet_19 : decode cX11_sheet 19 = .ok (.iconst (-1), 1) := by decide +kernel
theorem dX11_sheet_20 : decode cX11_sheet 20 = .ok (.if_icmp .eq 11, 3) := by decide +kernel
theorem dX11_sheet_23 : decode cX11_sheet 23 = .ok (.iload_n 3, 1) := by decide +kernel
theorem dX11_sheet_24 : decode cX11_sheet 24 = .ok (.bipush 40, 2) := by decide +kernel
theorem dX11_sheet_26 : decode cX11_sheet 26 = .ok (.if_icmp .le 5, 3) := by decide +kernel
theorem dX11_sheet_29 : decode cX11_sheet 29 = .ok (.iconst (-1), 1) := by decide +kernel
theorem dX11_sheet_30 : decode cX11_sheet 30 = .ok (.ireturn, 1) := by decide +kernel
theorem dX11_sheet_31 : decode cX11_sheet 31 = .ok (.iload_n 2, 1) := by decide +kernel
theorem dX11_sheet_32 : decode cX11_sheet 32 = .ok (.iconst (-1), 1) := by decide +kernel
theorem dX11_sheet_33 : decode cX11_sheet 33 = .ok (.if_icmp .eq 10, 3) := by decide +kernel
theorem dX11_sheet_36 : decode cX11_sheet 36 = .ok (.iload_n 3, 1) := by decide +kernel
theorem dX11_sheet_37 : decode cX11_sheet 37 = .ok (.ifCond .ge 6, 3) := by decide +kernel
theorem dX11_sheet_40 : decode cX11_sheet 40 = .ok (.bipush (-14), 2) := by decide +kernel
theorem dX11_sheet_42 : decode cX11_sheet 42 = .ok (.ireturn, 1) := by decide +kernel
theorem dX11_sheet_43 : decode cX11_sheet 43 = .ok (.aload_n 0, 1) := by decide +kernel
theorem dX11_sheet_44 : decode cX11_sheet 44 = .ok (.getfield 32, 3) := by decide +kernel
theorem dX11_sheet_47 : decode cX11_sheet 47 = .ok (.iload_n 1, 1) := by decide +kernel
theorem dX11_sheet_48 : decode cX11_sheet 48 = .ok (.iload_n 2, 1) := by decide +kernel
theorem dX11_sheet_49 : decode cX11_sheet 49 = .ok (.iastore, 1) := by decide +kernel
theorem dX11_sheet_50 : decode cX11_sheet 50 = .ok (.aload_n 0, 1) := by decide +kernel
theorem dX11_sheet_51 : decode cX11_sheet 51 = .ok (.getfield 36, 3) := by decide +kernel
theorem dX11_sheet_54 : decode cX11_sheet 54 = .ok (.iload_n 1, 1) := by decide +kernel
theorem dX11_sheet_55 : decode cX11_sheet 55 = .ok (.iload_n 2, 1) := by decide +kernel
theorem dX11_sheet_56 : decode cX11_sheet 56 = .ok (.iconst (-1), 1) := by decide +kernel
theorem dX11_sheet_57 : decode cX11_sheet 57 = .ok (.if_icmp .ne 7, 3) := by decide +kernel
theorem dX11_sheet_60 : decode cX11_sheet 60 = .ok (.iconst 0, 1) := by decide +kernel
theorem dX11_sheet_61 : decode cX11_sheet 61 = .ok (.goto 4, 3) := by decide +kernel
theorem dX11_sheet_64 : decode cX11_sheet 64 = .ok (.iload_n 3, 1) := by decide +kernel
theorem dX11_sheet_65 : decode cX11_sheet 65 = .ok (.iastore, 1) := by decide +kernel
theorem dX11_sheet_66 : decode cX11_sheet 66 = .ok (.iconst 0, 1) := by decide +kernel
theorem dX11_sheet_67 : decode cX11_sheet 67 = .ok (.istore 4, 2) := by decide +kernel
theorem dX11_sheet_69 : decode cX11_sheet 69 = .ok (.iload 4, 2) := by decide +kernel
theorem dX11_sheet_71 : decode cX11_sheet 71 = .ok (.bipush 40, 2) := by decide +kernel
theorem dX11_sheet_73 : decode cX11_sheet 73 = .ok (.if_icmp .ge 19, 3) := by decide +kernel
theorem dX11_sheet_76 : decode cX11_sheet 76 = .ok (.aload_n 0, 1) := by decide +kernel
theorem dX11_sheet_77 : decode cX11_sheet 77 = .ok (.getfield 39, 3) := by decide +kernel
theorem dX11_sheet_80 : decode cX11_sheet 80 = .ok (.iload_n 1, 1) := by decide +kernel
theorem dX11_sheet_81 : decode cX11_sheet 81 = .ok (.aaload, 1) := by decide +kernel
theorem dX11_sheet_82 : decode cX11_sheet 82 = .ok (.iload 4, 2) := by decide +kernel
theorem dX11_sheet_84 : decode cX11_sheet 84 = .ok (.iconst 0, 1) := by decide +kernel
theorem dX11_sheet_85 : decode cX11_sheet 85 = .ok (.iastore, 1) := by decide +kernel
theorem dX11_sheet_86 : decode cX11_sheet 86 = .ok (.iinc 4 1, 3) := by decide +kernel
theorem dX11_sheet_89 : decode cX11_sheet 89 = .ok (.goto (-20), 3) := by decide +kernel
theorem dX11_sheet_92 : decode cX11_sheet 92 = .ok (.iconst 1, 1) := by decide +kernel
theorem dX11_sheet_93 : decode cX11_sheet 93 = .ok (.ireturn, 1) := by decide +kernel
theorem dX11_write_0 : decode cX11_write 0 = .ok (.iload_n 1, 1) := by decide +kernel
theorem dX11_write_1 : decode cX11_write 1 = .ok (.invokestatic 330, 3) := by decide +kernel
theorem dX11_write_4 : decode cX11_write 4 = .ok (.ifCond .ne 5, 3) := by decide +kernel
theorem dX11_write_7 : decode cX11_write 7 = .ok (.iconst (-1), 1) := by decide +kernel
theorem dX11_write_8 : decode cX11_write 8 = .ok (.ireturn, 1) := by decide +kernel
theorem dX11_write_9 : decode cX11_write 9 = .ok (.aload_n 0, 1) := by decide +kernel
theorem dX11_write_10 : decode cX11_write 10 = .ok (.getfield 32, 3) := by decide +kernel
theorem dX11_write_13 : decode cX11_write 13 = .ok (.iload_n 1, 1) := by decide +kernel
theorem dX11_write_14 : decode cX11_write 14 = .ok (.iaload, 1) := by decide +kernel
theorem dX11_write_15 : decode cX11_write 15 = .ok (.iconst (-1), 1) := by decide +kernel
theorem dX11_write_16 : decode cX11_write 16 = .ok (.if_icmp .ne 6, 3) := by decide +kernel
theorem dX11_write_19 : decode cX11_write 19 = .ok (.bipush (-11), 2) := by decide +kernel
theorem dX11_write_21 : decode cX11_write 21 = .ok (.ireturn, 1) := by decide +kernel
theorem dX11_write_22 : decode cX11_write 22 = .ok (.iload_n 2, 1) := by decide +kernel
theorem dX11_write_23 : decode cX11_write 23 = .ok (.iconst 0, 1) := by decide +kernel
theorem dX11_write_24 : decode cX11_write 24 = .ok (.aload_n 0, 1) := by decide +kernel
theorem dX11_write_25 : decode cX11_write 25 = .ok (.getfield 36, 3) := by decide +kernel
theorem dX11_write_28 : decode cX11_write 28 = .ok (.iload_n 1, 1) := by decide +kernel
theorem dX11_write_29 : decode cX11_write 29 = .ok (.iaload, 1) := by decide +kernel
theorem dX11_write_30 : decode cX11_write 30 = .ok (.iconst 1, 1) := by decide +kernel
theorem dX11_write_31 : decode cX11_write 31 = .ok (.isub, 1) := by decide +kernel
theorem dX11_write_32 : decode cX11_write 32 = .ok (.invokestatic 94, 3) := by decide +kernel
theorem dX11_write_35 : decode cX11_write 35 = .ok (.ifCond .ne 6, 3) := by decide +kernel
theorem dX11_write_38 : decode cX11_write 38 = .ok (.bipush (-12), 2) := by decide +kernel
theorem dX11_write_40 : decode cX11_write 40 = .ok (.ireturn, 1) := by decide +kernel
theorem dX11_write_41 : decode cX11_write 41 = .ok (.aload_n 0, 1) := by decide +kernel
theorem dX11_write_42 : decode cX11_write 42 = .ok (.getfield 39, 3) := by decide +kernel
theorem dX11_write_45 : decode cX11_write 45 = .ok (.iload_n 1, 1) := by decide +kernel
theorem dX11_write_46 : decode cX11_write 46 = .ok (.aaload, 1) := by decide +kernel
theorem dX11_write_47 : decode cX11_write 47 = .ok (.iload_n 2, 1) := by decide +kernel
theorem dX11_write_48 : decode cX11_write 48 = .ok (.iload_n 3, 1) := by decide +kernel
theorem dX11_write_49 : decode cX11_write 49 = .ok (.aload_n 0, 1) := by decide +kernel
theorem dX11_write_50 : decode cX11_write 50 = .ok (.getfield 32, 3) := by decide +kernel
theorem dX11_write_53 : decode cX11_write 53 = .ok (.iload_n 1, 1) := by decide +kernel
theorem dX11_write_54 : decode cX11_write 54 = .ok (.iaload, 1) := by decide +kernel
theorem dX11_write_55 : decode cX11_write 55 = .ok (.invokestatic 333, 3) := by decide +kernel
theorem dX11_write_58 : decode cX11_write 58 = .ok (.iastore, 1) := by decide +kernel
theorem dX11_write_59 : decode cX11_write 59 = .ok (.iconst 1, 1) := by decide +kernel
theorem dX11_write_60 : decode cX11_write 60 = .ok (.ireturn, 1) := by decide +kernel
theorem dX11_item_0 : decode cX11_item 0 = .ok (.iload_n 1, 1) := by decide +kernel
theorem dX11_item_1 : decode cX11_item 1 = .ok (.invokestatic 330, 3) := by decide +kernel
theorem dX11_item_4 : decode cX11_item 4 = .ok (.ifCond .eq 12, 3) := by decide +kernel
theorem dX11_item_7 : decode cX11_item 7 = .ok (.iload_n 2, 1) := by decide +kernel
theorem dX11_item_8 : decode cX11_item 8 = .ok (.iconst 0, 1) := by decide +kernel
theorem dX11_item_9 : decode cX11_item 9 = .ok (.iconst 4, 1) := by decide +kernel
theorem dX11_item_10 : decode cX11_item 10 = .ok (.invokestatic 94, 3) := by decide +kernel
theorem dX11_item_13 : decode cX11_item 13 = .ok (.ifCond .ne 5, 3) := by decide +kernel
theorem dX11_item_16 : decode cX11_item 16 = .ok (.iconst (-1), 1) := by decide +kernel
theorem dX11_item_17 : decode cX11_item 17 = .ok (.ireturn, 1) := by decide +kernel
theorem dX11_item_18 : decode cX11_item 18 = .ok (.aload_n 0, 1) := by decide +kernel
theorem dX11_item_19 : decode cX11_item 19 = .ok (.getfield 32, 3) := by decide +kernel
theorem dX11_item_22 : decode cX11_item 22 = .ok (.iload_n 1, 1) := by decide +kernel
theorem dX11_item_23 : decode cX11_item 23 = .ok (.iaload, 1) := by decide +kernel
theorem dX11_item_24 : decode cX11_item 24 = .ok (.iconst (-1), 1) := by decide +kernel
theorem dX11_item_25 : decode cX11_item 25 = .ok (.if_icmp .ne 6, 3) := by decide +kernel
theorem dX11_item_28 : decode cX11_item 28 = .ok (.bipush (-11), 2) := by decide +kernel
theorem dX11_item_30 : decode cX11_item 30 = .ok (.ireturn, 1) := by decide +kernel
theorem dX11_item_31 : decode cX11_item 31 = .ok (.aload_n 0, 1) := by decide +kernel
theorem dX11_item_32 : decode cX11_item 32 = .ok (.getfield 32, 3) := by decide +kernel
theorem dX11_item_35 : decode cX11_item 35 = .ok (.iload_n 1, 1) := by decide +kernel
theorem dX11_item_36 : decode cX11_item 36 = .ok (.iaload, 1) := by decide +kernel
theorem dX11_item_37 : decode cX11_item 37 = .ok (.iload_n 2, 1) := by decide +kernel
theorem dX11_item_38 : decode cX11_item 38 = .ok (.if_icmp .eq 6, 3) := by decide +kernel
theorem dX11_item_41 : decode cX11_item 41 = .ok (.bipush (-13), 2) := by decide +kernel
theorem dX11_item_43 : decode cX11_item 43 = .ok (.ireturn, 1) := by decide +kernel
theorem dX11_item_44 : decode cX11_item 44 = .ok (.iload_n 3, 1) := by decide +kernel
theorem dX11_item_45 : decode cX11_item 45 = .ok (.iconst 0, 1) := by decide +kernel
theorem dX11_item_46 : decode cX11_item 46 = .ok (.aload_n 0, 1) := by decide +kernel
theorem dX11_item_47 : decode cX11_item 47 = .ok (.getfield 36, 3) := by decide +kernel
theorem dX11_item_50 : decode cX11_item 50 = .ok (.iload_n 1, 1) := by decide +kernel
theorem dX11_item_51 : decode cX11_item 51 = .ok (.iaload, 1) := by decide +kernel
theorem dX11_item_52 : decode cX11_item 52 = .ok (.iconst 1, 1) := by decide +kernel
theorem dX11_item_53 : decode cX11_item 53 = .ok (.isub, 1) := by decide +kernel
theorem dX11_item_54 : decode cX11_item 54 = .ok (.invokestatic 94, 3) := by decide +kernel
theorem dX11_item_57 : decode cX11_item 57 = .ok (.ifCond .ne 6, 3) := by decide +kernel
theorem dX11_item_60 : decode cX11_item 60 = .ok (.bipush (-12), 2) := by decide +kernel
theorem dX11_item_62 : decode cX11_item 62 = .ok (.ireturn, 1) := by decide +kernel
theorem dX11_item_63 : decode cX11_item 63 = .ok (.aload_n 0, 1) := by decide +kernel
theorem dX11_item_64 : decode cX11_item 64 = .ok (.getfield 39, 3) := by decide +kernel
theorem dX11_item_67 : decode cX11_item 67 = .ok (.iload_n 1, 1) := by decide +kernel
theorem dX11_item_68 : decode cX11_item 68 = .ok (.aaload, 1) := by decide +kernel
theorem dX11_item_69 : decode cX11_item 69 = .ok (.iload_n 3, 1) := by decide +kernel
theorem dX11_item_70 : decode cX11_item 70 = .ok (.iaload, 1) := by decide +kernel
theorem dX11_item_71 : decode cX11_item 71 = .ok (.ireturn, 1) := by decide +kernel
theorem dX11_goAll_0 : decode cX11_goAll 0 = .ok (.aload_n 0, 1) := by decide +kernel
theorem dX11_goAll_1 : decode cX11_goAll 1 = .ok (.iload_n 1, 1) := by decide +kernel
theorem dX11_goAll_2 : decode cX11_goAll 2 = .ok (.iload_n 3, 1) := by decide +kernel
theorem dX11_goAll_3 : decode cX11_goAll 3 = .ok (.invokevirtual 336, 3) := by decide +kernel
theorem dX11_goAll_6 : decode cX11_goAll 6 = .ok (.istore 4, 2) := by decide +kernel
theorem dX11_goAll_8 : decode cX11_goAll 8 = .ok (.iload 4, 2) := by decide +kernel
theorem dX11_goAll_10 : decode cX11_goAll 10 = .ok (.ifCond .eq 6, 3) := by decide +kernel
theorem dX11_goAll_13 : decode cX11_goAll 13 = .ok (.iload 4, 2) := by decide +kernel
theorem dX11_goAll_15 : decode cX11_goAll 15 = .ok (.ireturn, 1) := by decide +kernel
theorem dX11_goAll_16 : decode cX11_goAll 16 = .ok (.iconst 0, 1) := by decide +kernel
theorem dX11_goAll_17 : decode cX11_goAll 17 = .ok (.istore 5, 2) := by decide +kernel
theorem dX11_goAll_19 : decode cX11_goAll 19 = .ok (.iload_n 2, 1) := by decide +kernel
theorem dX11_goAll_20 : decode cX11_goAll 20 = .ok (.istore 6, 2) := by decide +kernel
theorem dX11_goAll_22 : decode cX11_goAll 22 = .ok (.iconst 0, 1) := by decide +kernel
theorem dX11_goAll_23 : decode cX11_goAll 23 = .ok (.istore 7, 2) := by decide +kernel
theorem dX11_goAll_25 : decode cX11_goAll 25 = .ok (.iload 7, 2) := by decide +kernel
theorem dX11_goAll_27 : decode cX11_goAll 27 = .ok (.iload_n 3, 1) := by decide +kernel
theorem dX11_goAll_28 : decode cX11_goAll 28 = .ok (.if_icmp .ge 83, 3) := by decide +kernel
theorem dX11_goAll_31 : decode cX11_goAll 31 = .ok (.iload 6, 2) := by decide +kernel
theorem dX11_goAll_33 : decode cX11_goAll 33 = .ok (.iconst 0, 1) := by decide +kernel
theorem dX11_goAll_34 : decode cX11_goAll 34 = .ok (.aload_n 0, 1) := by decide +kernel
theorem dX11_goAll_35 : decode cX11_goAll 35 = .ok (.getfield 36, 3) := by decide +kernel
theorem dX11_goAll_38 : decode cX11_goAll 38 = .ok (.iload_n 1, 1) := by decide +kernel
theorem dX11_goAll_39 : decode cX11_goAll 39 = .ok (.iaload, 1) := by decide +kernel
theorem dX11_goAll_40 : decode cX11_goAll 40 = .ok (.iconst 1, 1) := by decide +kernel
theorem dX11_goAll_41 : decode cX11_goAll 41 = .ok (.isub, 1) := by decide +kernel
theorem dX11_goAll_42 : decode cX11_goAll 42 = .ok (.invokestatic 94, 3) := by decide +kernel
theorem dX11_goAll_45 : decode cX11_goAll 45 = .ok (.ifCond .ne 6, 3) := by decide +kernel
theorem dX11_goAll_48 : decode cX11_goAll 48 = .ok (.bipush (-12), 2) := by decide +kernel
theorem dX11_goAll_50 : decode cX11_goAll 50 = .ok (.ireturn, 1) := by decide +kernel
theorem dX11_goAll_51 : decode cX11_goAll 51 = .ok (.aload_n 0, 1) := by decide +kernel
theorem dX11_goAll_52 : decode cX11_goAll 52 = .ok (.getfield 39, 3) := by decide +kernel
theorem dX11_goAll_55 : decode cX11_goAll 55 = .ok (.iload_n 1, 1) := by decide +kernel
theorem dX11_goAll_56 : decode cX11_goAll 56 = .ok (.aaload, 1) := by decide +kernel
theorem dX11_goAll_57 : decode cX11_goAll 57 = .ok (.iload 6, 2) := by decide +kernel
theorem dX11_goAll_59 : decode cX11_goAll 59 = .ok (.iaload, 1) := by decide +kernel
theorem dX11_goAll_60 : decode cX11_goAll 60 = .ok (.istore 8, 2) := by decide +kernel
theorem dX11_goAll_62 : decode cX11_goAll 62 = .ok (.aload_n 0, 1) := by decide +kernel
theorem dX11_goAll_63 : decode cX11_goAll 63 = .ok (.iload 8, 2) := by decide +kernel
theorem dX11_goAll_65 : decode cX11_goAll 65 = .ok (.invokevirtual 327, 3) := by decide +kernel
theorem dX11_goAll_68 : decode cX11_goAll 68 = .ok (.ifCond .eq 34, 3) := by decide +kernel
theorem dX11_goAll_71 : decode cX11_goAll 71 = .ok (.aload_n 0, 1) := by decide +kernel
theorem dX11_goAll_72 : decode cX11_goAll 72 = .ok (.getfield 74, 3) := by decide +kernel
theorem dX11_goAll_75 : decode cX11_goAll 75 = .ok (.aload_n 0, 1) := by decide +kernel
theorem dX11_goAll_76 : decode cX11_goAll 76 = .ok (.getfield 74, 3) := by decide +kernel
theorem dX11_goAll_79 : decode cX11_goAll 79 = .ok (.getfield 112, 3) := by decide +kernel
theorem dX11_goAll_82 : decode cX11_goAll 82 = .ok (.invokevirtual 185, 3) := by decide +kernel
theorem dX11_goAll_85 : decode cX11_goAll 85 = .ok (.ifCond .ne 17, 3) := by decide +kernel
theorem dX11_goAll_88 : decode cX11_goAll 88 = .ok (.iload 5, 2) := by decide +kernel
theorem dX11_goAll_90 : decode cX11_goAll 90 = .ok (.aload_n 0, 1) := by decide +kernel
theorem dX11_goAll_91 : decode cX11_goAll 91 = .ok (.getfield 74, 3) := by decide +kernel
theorem dX11_goAll_94 : decode cX11_goAll 94 = .ok (.iload 8, 2) := by decide +kernel
theorem dX11_goAll_96 : decode cX11_goAll 96 = .ok (.invokevirtual 220, 3) := by decide +kernel
theorem dX11_goAll_99 : decode cX11_goAll 99 = .ok (.iadd, 1) := by decide +kernel
theorem dX11_goAll_100 : decode cX11_goAll 100 = .ok (.istore 5, 2) := by decide +kernel
theorem dX11_goAll_102 : decode cX11_goAll 102 = .ok (.iinc 6 1, 3) := by decide +kernel
theorem dX11_goAll_105 : decode cX11_goAll 105 = .ok (.iinc 7 1, 3) := by decide +kernel
theorem dX11_goAll_108 : decode cX11_goAll 108 = .ok (.goto (-83), 3) := by decide +kernel
theorem dX11_goAll_111 : decode cX11_goAll 111 = .ok (.iload 5, 2) := by decide +kernel
theorem dX11_goAll_113 : decode cX11_goAll 113 = .ok (.ireturn, 1) := by decide +kernel
theorem dX11_wouldBe_0 : decode cX11_wouldBe 0 = .ok (.aload_n 0, 1) := by decide +kernel
theorem dX11_wouldBe_1 : decode cX11_wouldBe 1 = .ok (.iload_n 1, 1) := by decide +kernel
theorem dX11_wouldBe_2 : decode cX11_wouldBe 2 = .ok (.iload_n 3, 1) := by decide +kernel
theorem dX11_wouldBe_3 : decode cX11_wouldBe 3 = .ok (.invokevirtual 336, 3) := by decide +kernel
theorem dX11_wouldBe_6 : decode cX11_wouldBe 6 = .ok (.istore 4, 2) := by decide +kernel
theorem dX11_wouldBe_8 : decode cX11_wouldBe 8 = .ok (.iload 4, 2) := by decide +kernel
theorem dX11_wouldBe_10 : decode cX11_wouldBe 10 = .ok (.ifCond .eq 6, 3) := by decide +kernel
theorem dX11_wouldBe_13 : decode cX11_wouldBe 13 = .ok (.iload 4, 2) := by decide +kernel
theorem dX11_wouldBe_15 : decode cX11_wouldBe 15 = .ok (.ireturn, 1) := by decide +kernel
theorem dX11_wouldBe_16 : decode cX11_wouldBe 16 = .ok (.iconst 0, 1) := by decide +kernel
theorem dX11_wouldBe_17 : decode cX11_wouldBe 17 = .ok (.istore 5, 2) := by decide +kernel
theorem dX11_wouldBe_19 : decode cX11_wouldBe 19 = .ok (.iload_n 2, 1) := by decide +kernel
theorem dX11_wouldBe_20 : decode cX11_wouldBe 20 = .ok (.istore 6, 2) := by decide +kernel
theorem dX11_wouldBe_22 : decode cX11_wouldBe 22 = .ok (.aload_n 0, 1) := by decide +kernel
theorem dX11_wouldBe_23 : decode cX11_wouldBe 23 = .ok (.getfield 10, 3) := by decide +kernel
theorem dX11_wouldBe_26 : decode cX11_wouldBe 26 = .ok (.aload_n 0, 1) := by decide +kernel
theorem dX11_wouldBe_27 : decode cX11_wouldBe 27 = .ok (.getfield 74, 3) := by decide +kernel
theorem dX11_wouldBe_30 : decode cX11_wouldBe 30 = .ok (.getfield 112, 3) := by decide +kernel
theorem dX11_wouldBe_33 : decode cX11_wouldBe 33 = .ok (.invokevirtual 226, 3) := by decide +kernel
theorem dX11_wouldBe_36 : decode cX11_wouldBe 36 = .ok (.iconst 0, 1) := by decide +kernel
theorem dX11_wouldBe_37 : decode cX11_wouldBe 37 = .ok (.istore 7, 2) := by decide +kernel
theorem dX11_wouldBe_39 : decode cX11_wouldBe 39 = .ok (.iload 7, 2) := by decide +kernel
theorem dX11_wouldBe_41 : decode cX11_wouldBe 41 = .ok (.iload_n 3, 1) := by decide +kernel
theorem dX11_wouldBe_42 : decode cX11_wouldBe 42 = .ok (.if_icmp .ge 87, 3) := by decide +kernel
theorem dX11_wouldBe_45 : decode cX11_wouldBe 45 = .ok (.iload 6, 2) := by decide +kernel
theorem dX11_wouldBe_47 : decode cX11_wouldBe 47 = .ok (.iconst 0, 1) := by decide +kernel
theorem dX11_wouldBe_48 : decode cX11_wouldBe 48 = .ok (.aload_n 0, 1) := by decide +kernel
theorem dX11_wouldBe_49 : decode cX11_wouldBe 49 = .ok (.getfield 36, 3) := by decide +kernel
theorem dX11_wouldBe_52 : decode cX11_wouldBe 52 = .ok (.iload_n 1, 1) := by decide +kernel
theorem dX11_wouldBe_53 : decode cX11_wouldBe 53 = .ok (.iaload, 1) := by decide +kernel
theorem dX11_wouldBe_54 : decode cX11_wouldBe 54 = .ok (.iconst 1, 1) := by decide +kernel
theorem dX11_wouldBe_55 : decode cX11_wouldBe 55 = .ok (.isub, 1) := by decide +kernel
theorem dX11_wouldBe_56 : decode cX11_wouldBe 56 = .ok (.invokestatic 94, 3) := by decide +kernel
theorem dX11_wouldBe_59 : decode cX11_wouldBe 59 = .ok (.ifCond .ne 6, 3) := by decide +kernel
theorem dX11_wouldBe_62 : decode cX11_wouldBe 62 = .ok (.bipush (-12), 2) := by decide +kernel
theorem dX11_wouldBe_64 : decode cX11_wouldBe 64 = .ok (.ireturn, 1) := by decide +kernel
theorem dX11_wouldBe_65 : decode cX11_wouldBe 65 = .ok (.aload_n 0, 1) := by decide +kernel
theorem dX11_wouldBe_66 : decode cX11_wouldBe 66 = .ok (.getfield 39, 3) := by decide +kernel
theorem dX11_wouldBe_69 : decode cX11_wouldBe 69 = .ok (.iload_n 1, 1) := by decide +kernel
theorem dX11_wouldBe_70 : decode cX11_wouldBe 70 = .ok (.aaload, 1) := by decide +kernel
theorem dX11_wouldBe_71 : decode cX11_wouldBe 71 = .ok (.iload 6, 2) := by decide +kernel
theorem dX11_wouldBe_73 : decode cX11_wouldBe 73 = .ok (.iaload, 1) := by decide +kernel
theorem dX11_wouldBe_74 : decode cX11_wouldBe 74 = .ok (.istore 8, 2) := by decide +kernel
theorem dX11_wouldBe_76 : decode cX11_wouldBe 76 = .ok (.aload_n 0, 1) := by decide +kernel
theorem dX11_wouldBe_77 : decode cX11_wouldBe 77 = .ok (.iload 8, 2) := by decide +kernel
theorem dX11_wouldBe_79 : decode cX11_wouldBe 79 = .ok (.invokevirtual 327, 3) := by decide +kernel
theorem dX11_wouldBe_82 : decode cX11_wouldBe 82 = .ok (.ifCond .eq 17, 3) := by decide +kernel
theorem dX11_wouldBe_85 : decode cX11_wouldBe 85 = .ok (.aload_n 0, 1) := by decide +kernel
theorem dX11_wouldBe_86 : decode cX11_wouldBe 86 = .ok (.getfield 74, 3) := by decide +kernel
theorem dX11_wouldBe_89 : decode cX11_wouldBe 89 = .ok (.aload_n 0, 1) := by decide +kernel
theorem dX11_wouldBe_90 : decode cX11_wouldBe 90 = .ok (.getfield 10, 3) := by decide +kernel
theorem dX11_wouldBe_93 : decode cX11_wouldBe 93 = .ok (.invokevirtual 185, 3) := by decide +kernel
theorem dX11_wouldBe_96 : decode cX11_wouldBe 96 = .ok (.ifCond .eq 6, 3) := by decide +kernel
theorem dX11_wouldBe_99 : decode cX11_wouldBe 99 = .ok (.bipush (-4), 2) := by decide +kernel
theorem dX11_wouldBe_101 : decode cX11_wouldBe 101 = .ok (.ireturn, 1) := by decide +kernel
theorem dX11_wouldBe_102 : decode cX11_wouldBe 102 = .ok (.iload 5, 2) := by decide +kernel
theorem dX11_wouldBe_104 : decode cX11_wouldBe 104 = .ok (.aload_n 0, 1) := by decide +kernel
theorem dX11_wouldBe_105 : decode cX11_wouldBe 105 = .ok (.getfield 74, 3) := by decide +kernel
theorem dX11_wouldBe_108 : decode cX11_wouldBe 108 = .ok (.aload_n 0, 1) := by decide +kernel
theorem dX11_wouldBe_109 : decode cX11_wouldBe 109 = .ok (.getfield 10, 3) := by decide +kernel
theorem dX11_wouldBe_112 : decode cX11_wouldBe 112 = .ok (.iload 8, 2) := by decide +kernel
theorem dX11_wouldBe_114 : decode cX11_wouldBe 114 = .ok (.invokevirtual 229, 3) := by decide +kernel
theorem dX11_wouldBe_117 : decode cX11_wouldBe 117 = .ok (.iadd, 1) := by decide +kernel
theorem dX11_wouldBe_118 : decode cX11_wouldBe 118 = .ok (.istore 5, 2) := by decide +kernel
theorem dX11_wouldBe_120 : decode cX11_wouldBe 120 = .ok (.iinc 6 1, 3) := by decide +kernel
theorem dX11_wouldBe_123 : decode cX11_wouldBe 123 = .ok (.iinc 7 1, 3) := by decide +kernel
theorem dX11_wouldBe_126 : decode cX11_wouldBe 126 = .ok (.goto (-87), 3) := by decide +kernel
theorem dX11_wouldBe_129 : decode cX11_wouldBe 129 = .ok (.iload 5, 2) := by decide +kernel
theorem dX11_wouldBe_131 : decode cX11_wouldBe 131 = .ok (.ireturn, 1) := by decide +kernel
theorem dX11_shelf_0 : decode cX11_shelf 0 = .ok (.iload_n 1, 1) := by decide +kernel
theorem dX11_shelf_1 : decode cX11_shelf 1 = .ok (.invokestatic 339, 3) := by decide +kernel
theorem dX11_shelf_4 : decode cX11_shelf 4 = .ok (.ifCond .eq 12, 3) := by decide +kernel
theorem dX11_shelf_7 : decode cX11_shelf 7 = .ok (.iload_n 2, 1) := by decide +kernel
theorem dX11_shelf_8 : decode cX11_shelf 8 = .ok (.iconst 0, 1) := by decide +kernel
theorem dX11_shelf_9 : decode cX11_shelf 9 = .ok (.iconst 2, 1) := by decide +kernel
theorem dX11_shelf_10 : decode cX11_shelf 10 = .ok (.invokestatic 94, 3) := by decide +kernel
theorem dX11_shelf_13 : decode cX11_shelf 13 = .ok (.ifCond .ne 5, 3) := by decide +kernel
theorem dX11_shelf_16 : decode cX11_shelf 16 = .ok (.iconst (-1), 1) := by decide +kernel
theorem dX11_shelf_17 : decode cX11_shelf 17 = .ok (.ireturn, 1) := by decide +kernel
theorem dX11_shelf_18 : decode cX11_shelf 18 = .ok (.iload_n 2, 1) := by decide +kernel
theorem dX11_shelf_19 : decode cX11_shelf 19 = .ok (.ifCond .ne 11, 3) := by decide +kernel
theorem dX11_shelf_22 : decode cX11_shelf 22 = .ok (.aload_n 0, 1) := by decide +kernel
theorem dX11_shelf_23 : decode cX11_shelf 23 = .ok (.iload_n 3, 1) := by decide +kernel
theorem dX11_shelf_24 : decode cX11_shelf 24 = .ok (.invokevirtual 109, 3) := by decide +kernel
theorem dX11_shelf_27 : decode cX11_shelf 27 = .ok (.ifCond .eq 15, 3) := by decide +kernel
theorem dX11_shelf_30 : decode cX11_shelf 30 = .ok (.iload_n 2, 1) := by decide +kernel
theorem dX11_shelf_31 : decode cX11_shelf 31 = .ok (.iconst 1, 1) := by decide +kernel
theorem dX11_shelf_32 : decode cX11_shelf 32 = .ok (.if_icmp .ne 12, 3) := by decide +kernel
theorem dX11_shelf_35 : decode cX11_shelf 35 = .ok (.iload_n 3, 1) := by decide +kernel
theorem dX11_shelf_36 : decode cX11_shelf 36 = .ok (.invokestatic 330, 3) := by decide +kernel
theorem dX11_shelf_39 : decode cX11_shelf 39 = .ok (.ifCond .ne 5, 3) := by decide +kernel
theorem dX11_shelf_42 : decode cX11_shelf 42 = .ok (.iconst (-1), 1) := by decide +kernel
theorem dX11_shelf_43 : decode cX11_shelf 43 = .ok (.ireturn, 1) := by decide +kernel
theorem dX11_shelf_44 : decode cX11_shelf 44 = .ok (.aload_n 0, 1) := by decide +kernel
theorem dX11_shelf_45 : decode cX11_shelf 45 = .ok (.getfield 42, 3) := by decide +kernel
theorem dX11_shelf_48 : decode cX11_shelf 48 = .ok (.iload_n 1, 1) := by decide +kernel
theorem dX11_shelf_49 : decode cX11_shelf 49 = .ok (.iload_n 2, 1) := by decide +kernel
theorem dX11_shelf_50 : decode cX11_shelf 50 = .ok (.iastore, 1) := by decide +kernel
theorem dX11_shelf_51 : decode cX11_shelf 51 = .ok (.iload_n 2, 1) := by decide +kernel
theorem dX11_shelf_52 : decode cX11_shelf 52 = .ok (.ifCond .ne 10, 3) := by decide +kernel
theorem dX11_shelf_55 : decode cX11_shelf 55 = .ok (.aload_n 0, 1) := by decide +kernel
theorem dX11_shelf_56 : decode cX11_shelf 56 = .ok (.getfield 45, 3) := by decide +kernel
theorem dX11_shelf_59 : decode cX11_shelf 59 = .ok (.iload_n 1, 1) := by decide +kernel
theorem dX11_shelf_60 : decode cX11_shelf 60 = .ok (.iload_n 3, 1) := by decide +kernel
theorem dX11_shelf_61 : decode cX11_shelf 61 = .ok (.iastore, 1) := by decide +kernel
theorem dX11_shelf_62 : decode cX11_shelf 62 = .ok (.iload_n 2, 1) := by decide +kernel
theorem dX11_shelf_63 : decode cX11_shelf 63 = .ok (.iconst 1, 1) := by decide +kernel
theorem dX11_shelf_64 : decode cX11_shelf 64 = .ok (.if_icmp .ne 9, 3) := by decide +kernel
theorem dX11_shelf_67 : decode cX11_shelf 67 = .ok (.aload_n 0, 1) := by decide +kernel
theorem dX11_shelf_68 : decode cX11_shelf 68 = .ok (.iload_n 1, 1) := by decide +kernel
theorem dX11_shelf_69 : decode cX11_shelf 69 = .ok (.iload_n 3, 1) := by decide +kernel
theorem dX11_shelf_70 : decode cX11_shelf 70 = .ok (.invokevirtual 342, 3) := by decide +kernel
theorem dX11_shelf_73 : decode cX11_shelf 73 = .ok (.iconst 1, 1) := by decide +kernel
theorem dX11_shelf_74 : decode cX11_shelf 74 = .ok (.ireturn, 1) := by decide +kernel
theorem dX11_taken_0 : decode cX11_taken 0 = .ok (.iload_n 2, 1) := by decide +kernel
theorem dX11_taken_1 : decode cX11_taken 1 = .ok (.iconst 0, 1) := by decide +kernel
theorem dX11_taken_2 : decode cX11_taken 2 = .ok (.iconst 5, 1) := by decide +kernel
theorem dX11_taken_3 : decode cX11_taken 3 = .ok (.invokestatic 94, 3) := by decide +kernel
theorem dX11_taken_6 : decode cX11_taken 6 = .ok (.istore_n 3, 1) := by decide +kernel
theorem dX11_taken_7 : decode cX11_taken 7 = .ok (.iload_n 1, 1) := by decide +kernel
theorem dX11_taken_8 : decode cX11_taken 8 = .ok (.invokestatic 339, 3) := by decide +kernel
theorem dX11_taken_11 : decode cX11_taken 11 = .ok (.ifCond .eq 18, 3) := by decide +kernel
theorem dX11_taken_14 : decode cX11_taken 14 = .ok (.iload_n 3, 1) := by decide +kernel
theorem dX11_taken_15 : decode cX11_taken 15 = .ok (.ifCond .ne 16, 3) := by decide +kernel
theorem dX11_taken_18 : decode cX11_taken 18 = .ok (.iload_n 2, 1) := by decide +kernel
theorem dX11_taken_19 : decode cX11_taken 19 = .ok (.bipush 10, 2) := by decide +kernel
theorem dX11_taken_21 : decode cX11_taken 21 = .ok (.bipush 14, 2) := by decide +kernel
theorem dX11_taken_23 : decode cX11_taken 23 = .ok (.invokestatic 94, 3) := by decide +kernel
theorem dX11_taken_26 : decode cX11_taken 26 = .ok (.ifCond .ne 5, 3) := by decide +kernel
theorem dX11_taken_29 : decode cX11_taken 29 = .ok (.iconst (-1), 1) := by decide +kernel
theorem dX11_taken_30 : decode cX11_taken 30 = .ok (.ireturn, 1) := by decide +kernel
theorem dX11_taken_31 : decode cX11_taken 31 = .ok (.aload_n 0, 1) := by decide +kernel
theorem dX11_taken_32 : decode cX11_taken 32 = .ok (.getfield 42, 3) := by decide +kernel
theorem dX11_taken_35 : decode cX11_taken 35 = .ok (.iload_n 1, 1) := by decide +kernel
theorem dX11_taken_36 : decode cX11_taken 36 = .ok (.iaload, 1) := by decide +kernel
theorem dX11_taken_37 : decode cX11_taken 37 = .ok (.iconst 1, 1) := by decide +kernel
theorem dX11_taken_38 : decode cX11_taken 38 = .ok (.if_icmp .ne 28, 3) := by decide +kernel
theorem dX11_taken_41 : decode cX11_taken 41 = .ok (.iload_n 2, 1) := by decide +kernel
theorem dX11_taken_42 : decode cX11_taken 42 = .ok (.bipush 10, 2) := by decide +kernel
theorem dX11_taken_44 : decode cX11_taken 44 = .ok (.isub, 1) := by decide +kernel
theorem dX11_taken_45 : decode cX11_taken 45 = .ok (.aload_n 0, 1) := by decide +kernel
theorem dX11_taken_46 : decode cX11_taken 46 = .ok (.getfield 45, 3) := by decide +kernel
theorem dX11_taken_49 : decode cX11_taken 49 = .ok (.iload_n 1, 1) := by decide +kernel
theorem dX11_taken_50 : decode cX11_taken 50 = .ok (.iaload, 1) := by decide +kernel
theorem dX11_taken_51 : decode cX11_taken 51 = .ok (.if_icmp .ne 12, 3) := by decide +kernel
theorem dX11_taken_54 : decode cX11_taken 54 = .ok (.aload_n 0, 1) := by decide +kernel
theorem dX11_taken_55 : decode cX11_taken 55 = .ok (.getfield 48, 3) := by decide +kernel
theorem dX11_taken_58 : decode cX11_taken 58 = .ok (.iload_n 1, 1) := by decide +kernel
theorem dX11_taken_59 : decode cX11_taken 59 = .ok (.iaload, 1) := by decide +kernel
theorem dX11_taken_60 : decode cX11_taken 60 = .ok (.goto 5, 3) := by decide +kernel
theorem dX11_taken_63 : decode cX11_taken 63 = .ok (.bipush (-13), 2) := by decide +kernel
theorem dX11_taken_65 : decode cX11_taken 65 = .ok (.ireturn, 1) := by decide +kernel
theorem dX11_taken_66 : decode cX11_taken 66 = .ok (.aload_n 0, 1) := by decide +kernel
theorem dX11_taken_67 : decode cX11_taken 67 = .ok (.iload_n 1, 1) := by decide +kernel
theorem dX11_taken_68 : decode cX11_taken 68 = .ok (.invokevirtual 345, 3) := by decide +kernel
theorem dX11_taken_71 : decode cX11_taken 71 = .ok (.istore 4, 2) := by decide +kernel
theorem dX11_taken_73 : decode cX11_taken 73 = .ok (.iload 4, 2) := by decide +kernel
theorem dX11_taken_75 : decode cX11_taken 75 = .ok (.ifCond .ge 6, 3) := by decide +kernel
theorem dX11_taken_78 : decode cX11_taken 78 = .ok (.bipush (-11), 2) := by decide +kernel
theorem dX11_taken_80 : decode cX11_taken 80 = .ok (.ireturn, 1) := by decide +kernel
theorem dX11_taken_81 : decode cX11_taken 81 = .ok (.iload_n 3, 1) := by decide +kernel
theorem dX11_taken_82 : decode cX11_taken 82 = .ok (.ifCond .eq 25, 3) := by decide +kernel
theorem dX11_taken_85 : decode cX11_taken 85 = .ok (.aload_n 0, 1) := by decide +kernel
theorem dX11_taken_86 : decode cX11_taken 86 = .ok (.getfield 74, 3) := by decide +kernel
theorem dX11_taken_89 : decode cX11_taken 89 = .ok (.getfield 115, 3) := by decide +kernel
theorem dX11_taken_92 : decode cX11_taken 92 = .ok (.iload 4, 2) := by decide +kernel
theorem dX11_taken_94 : decode cX11_taken 94 = .ok (.iaload, 1) := by decide +kernel
theorem dX11_taken_95 : decode cX11_taken 95 = .ok (.iload_n 2, 1) := by decide +kernel
theorem dX11_taken_96 : decode cX11_taken 96 = .ok (.invokestatic 348, 3) := by decide +kernel
theorem dX11_taken_99 : decode cX11_taken 99 = .ok (.ifCond .eq 8, 3) := by decide +kernel
theorem dX11_taken_102 : decode cX11_taken 102 = .ok (.iload 4, 2) := by decide +kernel
theorem dX11_taken_104 : decode cX11_taken 104 = .ok (.goto 5, 3) := by decide +kernel
theorem dX11_taken_107 : decode cX11_taken 107 = .ok (.bipush (-13), 2) := by decide +kernel
theorem dX11_taken_109 : decode cX11_taken 109 = .ok (.ireturn, 1) := by decide +kernel
theorem dX11_act_0 : decode cX11_act 0 = .ok (.aload_n 0, 1) := by decide +kernel
theorem dX11_act_1 : decode cX11_act 1 = .ok (.aconst_null, 1) := by decide +kernel
theorem dX11_act_2 : decode cX11_act 2 = .ok (.putfield 351, 3) := by decide +kernel
theorem dX11_act_5 : decode cX11_act 5 = .ok (.iload_n 1, 1) := by decide +kernel
theorem dX11_act_6 : decode cX11_act 6 = .ok (.invokestatic 339, 3) := by decide +kernel
theorem dX11_act_9 : decode cX11_act 9 = .ok (.ifCond .eq 20, 3) := by decide +kernel
theorem dX11_act_12 : decode cX11_act 12 = .ok (.iload_n 2, 1) := by decide +kernel
theorem dX11_act_13 : decode cX11_act 13 = .ok (.iconst 0, 1) := by decide +kernel
theorem dX11_act_14 : decode cX11_act 14 = .ok (.iconst 3, 1) := by decide +kernel
theorem dX11_act_15 : decode cX11_act 15 = .ok (.invokestatic 94, 3) := by decide +kernel
theorem dX11_act_18 : decode cX11_act 18 = .ok (.ifCond .eq 11, 3) := by decide +kernel
theorem dX11_act_21 : decode cX11_act 21 = .ok (.aload_n 0, 1) := by decide +kernel
theorem dX11_act_22 : decode cX11_act 22 = .ok (.iload_n 1, 1) := by decide +kernel
theorem dX11_act_23 : decode cX11_act 23 = .ok (.invokevirtual 345, 3) := by decide +kernel
theorem dX11_act_26 : decode cX11_act 26 = .ok (.goto 5, 3) := by decide +kernel
theorem dX11_act_29 : decode cX11_act 29 = .ok (.bipush (-3), 2) := by decide +kernel
theorem dX11_act_31 : decode cX11_act 31 = .ok (.istore 4, 2) := by decide +kernel
theorem dX11_act_33 : decode cX11_act 33 = .ok (.iload 4, 2) := by decide +kernel
theorem dX11_act_35 : decode cX11_act 35 = .ok (.ifCond .ge 5, 3) := by decide +kernel
theorem dX11_act_38 : decode cX11_act 38 = .ok (.iconst 0, 1) := by decide +kernel
theorem dX11_act_39 : decode cX11_act 39 = .ok (.ireturn, 1) := by decide +kernel
theorem dX11_act_40 : decode cX11_act 40 = .ok (.aload_n 0, 1) := by decide +kernel
theorem dX11_act_41 : decode cX11_act 41 = .ok (.aload_n 0, 1) := by decide +kernel
theorem dX11_act_42 : decode cX11_act 42 = .ok (.getfield 74, 3) := by decide +kernel
theorem dX11_act_45 : decode cX11_act 45 = .ok (.getfield 355, 3) := by decide +kernel
theorem dX11_act_48 : decode cX11_act 48 = .ok (.aload_n 0, 1) := by decide +kernel
theorem dX11_act_49 : decode cX11_act 49 = .ok (.getfield 74, 3) := by decide +kernel
theorem dX11_act_52 : decode cX11_act 52 = .ok (.getfield 115, 3) := by decide +kernel
theorem dX11_act_55 : decode cX11_act 55 = .ok (.iload 4, 2) := by decide +kernel
theorem dX11_act_57 : decode cX11_act 57 = .ok (.iaload, 1) := by decide +kernel
theorem dX11_act_58 : decode cX11_act 58 = .ok (.aaload, 1) := by decide +kernel
theorem dX11_act_59 : decode cX11_act 59 = .ok (.putfield 351, 3) := by decide +kernel
theorem dX11_act_62 : decode cX11_act 62 = .ok (.aload_n 0, 1) := by decide +kernel
theorem dX11_act_63 : decode cX11_act 63 = .ok (.getfield 351, 3) := by decide +kernel
theorem dX11_act_66 : decode cX11_act 66 = .ok (.iload 4, 2) := by decide +kernel
theorem dX11_act_68 : decode cX11_act 68 = .ok (.aload_n 0, 1) := by decide +kernel
theorem dX11_act_69 : decode cX11_act 69 = .ok (.getfield 74, 3) := by decide +kernel
theorem dX11_act_72 : decode cX11_act 72 = .ok (.getfield 124, 3) := by decide +kernel
theorem dX11_act_75 : decode cX11_act 75 = .ok (.iload 4, 2) := by decide +kernel
theorem dX11_act_77 : decode cX11_act 77 = .ok (.iaload, 1) := by decide +kernel
theorem dX11_act_78 : decode cX11_act 78 = .ok (.invokevirtual 359, 3) := by decide +kernel
theorem dX11_act_81 : decode cX11_act 81 = .ok (.iload_n 2, 1) := by decide +kernel
theorem dX11_act_82 : decode cX11_act 82 = .ok (.ifCond .ne 16, 3) := by decide +kernel
theorem dX11_act_85 : decode cX11_act 85 = .ok (.aload_n 0, 1) := by decide +kernel
theorem dX11_act_86 : decode cX11_act 86 = .ok (.getfield 351, 3) := by decide +kernel
theorem dX11_act_89 : decode cX11_act 89 = .ok (.iload_n 3, 1) := by decide +kernel
theorem dX11_act_90 : decode cX11_act 90 = .ok (.invokevirtual 361, 3) := by decide +kernel
theorem dX11_act_93 : decode cX11_act 93 = .ok (.istore 5, 2) := by decide +kernel
theorem dX11_act_95 : decode cX11_act 95 = .ok (.goto 49, 3) := by decide +kernel
theorem dX11_act_98 : decode cX11_act 98 = .ok (.iload_n 2, 1) := by decide +kernel
theorem dX11_act_99 : decode cX11_act 99 = .ok (.iconst 1, 1) := by decide +kernel
theorem dX11_act_100 : decode cX11_act 100 = .ok (.if_icmp .ne 16, 3) := by decide +kernel
theorem dX11_act_103 : decode cX11_act 103 = .ok (.aload_n 0, 1) := by decide +kernel
theorem dX11_act_104 : decode cX11_act 104 = .ok (.getfield 351, 3) := by decide +kernel
theorem dX11_act_107 : decode cX11_act 107 = .ok (.iload_n 3, 1) := by decide +kernel
theorem dX11_act_108 : decode cX11_act 108 = .ok (.invokevirtual 364, 3) := by decide +kernel
theorem dX11_act_111 : decode cX11_act 111 = .ok (.istore 5, 2) := by decide +kernel
theorem dX11_act_113 : decode cX11_act 113 = .ok (.goto 31, 3) := by decide +kernel
theorem dX11_act_116 : decode cX11_act 116 = .ok (.iload_n 2, 1) := by decide +kernel
theorem dX11_act_117 : decode cX11_act 117 = .ok (.iconst 2, 1) := by decide +kernel
theorem dX11_act_118 : decode cX11_act 118 = .ok (.if_icmp .ne 16, 3) := by decide +kernel
theorem dX11_act_121 : decode cX11_act 121 = .ok (.aload_n 0, 1) := by decide +kernel
theorem dX11_act_122 : decode cX11_act 122 = .ok (.getfield 351, 3) := by decide +kernel
theorem dX11_act_125 : decode cX11_act 125 = .ok (.iload_n 3, 1) := by decide +kernel
theorem dX11_act_126 : decode cX11_act 126 = .ok (.invokevirtual 367, 3) := by decide +kernel
theorem dX11_act_129 : decode cX11_act 129 = .ok (.istore 5, 2) := by decide +kernel
theorem dX11_act_131 : decode cX11_act 131 = .ok (.goto 13, 3) := by decide +kernel
theorem dX11_act_134 : decode cX11_act 134 = .ok (.aload_n 0, 1) := by decide +kernel
theorem dX11_act_135 : decode cX11_act 135 = .ok (.getfield 351, 3) := by decide +kernel
theorem dX11_act_138 : decode cX11_act 138 = .ok (.iload_n 3, 1) := by decide +kernel
theorem dX11_act_139 : decode cX11_act 139 = .ok (.invokevirtual 370, 3) := by decide +kernel
theorem dX11_act_142 : decode cX11_act 142 = .ok (.istore 5, 2) := by decide +kernel
theorem dX11_act_144 : decode cX11_act 144 = .ok (.aload_n 0, 1) := by decide +kernel
theorem dX11_act_145 : decode cX11_act 145 = .ok (.getfield 351, 3) := by decide +kernel
theorem dX11_act_148 : decode cX11_act 148 = .ok (.getfield 373, 3) := by decide +kernel
theorem dX11_act_151 : decode cX11_act 151 = .ok (.ifCond .eq 8, 3) := by decide +kernel
theorem dX11_act_154 : decode cX11_act 154 = .ok (.bipush (-15), 2) := by decide +kernel
theorem dX11_act_156 : decode cX11_act 156 = .ok (.goto 5, 3) := by decide +kernel
theorem dX11_act_159 : decode cX11_act 159 = .ok (.iload 5, 2) := by decide +kernel
theorem dX11_act_161 : decode cX11_act 161 = .ok (.ireturn, 1) := by decide +kernel
theorem dX11_trace_0 : decode cX11_trace 0 = .ok (.aload_n 0, 1) := by decide +kernel
theorem dX11_trace_1 : decode cX11_trace 1 = .ok (.getfield 351, 3) := by decide +kernel
theorem dX11_trace_4 : decode cX11_trace 4 = .ok (.ifnull 32, 3) := by decide +kernel
theorem dX11_trace_7 : decode cX11_trace 7 = .ok (.iload_n 1, 1) := by decide +kernel
theorem dX11_trace_8 : decode cX11_trace 8 = .ok (.iconst 0, 1) := by decide +kernel
theorem dX11_trace_9 : decode cX11_trace 9 = .ok (.aload_n 0, 1) := by decide +kernel
theorem dX11_trace_10 : decode cX11_trace 10 = .ok (.getfield 351, 3) := by decide +kernel
theorem dX11_trace_13 : decode cX11_trace 13 = .ok (.getfield 377, 3) := by decide +kernel
theorem dX11_trace_16 : decode cX11_trace 16 = .ok (.iconst 1, 1) := by decide +kernel
theorem dX11_trace_17 : decode cX11_trace 17 = .ok (.isub, 1) := by decide +kernel
theorem dX11_trace_18 : decode cX11_trace 18 = .ok (.invokestatic 94, 3) := by decide +kernel
theorem dX11_trace_21 : decode cX11_trace 21 = .ok (.ifCond .eq 15, 3) := by decide +kernel
theorem dX11_trace_24 : decode cX11_trace 24 = .ok (.aload_n 0, 1) := by decide +kernel
theorem dX11_trace_25 : decode cX11_trace 25 = .ok (.getfield 351, 3) := by decide +kernel
theorem dX11_trace_28 : decode cX11_trace 28 = .ok (.getfield 380, 3) := by decide +kernel
theorem dX11_trace_31 : decode cX11_trace 31 = .ok (.iload_n 1, 1) := by decide +kernel
theorem dX11_trace_32 : decode cX11_trace 32 = .ok (.iaload, 1) := by decide +kernel
theorem dX11_trace_33 : decode cX11_trace 33 = .ok (.goto 5, 3) := by decide +kernel
theorem dX11_trace_36 : decode cX11_trace 36 = .ok (.bipush (-3), 2) := by decide +kernel
theorem dX11_trace_38 : decode cX11_trace 38 = .ok (.ireturn, 1) := by decide +kernel
theorem dX11_many_0 : decode cX11_many 0 = .ok (.iload_n 1, 1) := by decide +kernel
theorem dX11_many_1 : decode cX11_many 1 = .ok (.tableswitch 116 0 6 #[43, 51, 62, 76, 87, 92, 97], 43) := by decide +kernel
theorem dX11_many_44 : decode cX11_many 44 = .ok (.aload_n 0, 1) := by decide +kernel
theorem dX11_many_45 : decode cX11_many 45 = .ok (.getfield 74, 3) := by decide +kernel
theorem dX11_many_48 : decode cX11_many 48 = .ok (.getfield 101, 3) := by decide +kernel
theorem dX11_many_51 : decode cX11_many 51 = .ok (.ireturn, 1) := by decide +kernel
theorem dX11_many_52 : decode cX11_many 52 = .ok (.aload_n 0, 1) := by decide +kernel
theorem dX11_many_53 : decode cX11_many 53 = .ok (.getfield 74, 3) := by decide +kernel
theorem dX11_many_56 : decode cX11_many 56 = .ok (.getfield 206, 3) := by decide +kernel
theorem dX11_many_59 : decode cX11_many 59 = .ok (.getfield 213, 3) := by decide +kernel
theorem dX11_many_62 : decode cX11_many 62 = .ok (.ireturn, 1) := by decide +kernel
theorem dX11_many_63 : decode cX11_many 63 = .ok (.aload_n 0, 1) := by decide +kernel
theorem dX11_many_64 : decode cX11_many 64 = .ok (.getfield 74, 3) := by decide +kernel
theorem dX11_many_67 : decode cX11_many 67 = .ok (.getfield 112, 3) := by decide +kernel
theorem dX11_many_70 : decode cX11_many 70 = .ok (.getfield 189, 3) := by decide +kernel
theorem dX11_many_73 : decode cX11_many 73 = .ok (.invokestatic 383, 3) := by decide +kernel
theorem dX11_many_76 : decode cX11_many 76 = .ok (.ireturn, 1) := by decide +kernel
theorem dX11_many_77 : decode cX11_many 77 = .ok (.aload_n 0, 1) := by decide +kernel
theorem dX11_many_78 : decode cX11_many 78 = .ok (.getfield 74, 3) := by decide +kernel
theorem dX11_many_81 : decode cX11_many 81 = .ok (.getfield 286, 3) := by decide +kernel
theorem dX11_many_84 : decode cX11_many 84 = .ok (.getfield 290, 3) := by decide +kernel
theorem dX11_many_87 : decode cX11_many 87 = .ok (.ireturn, 1) := by decide +kernel
theorem dX11_many_88 : decode cX11_many 88 = .ok (.aload_n 0, 1) := by decide +kernel
theorem dX11_many_89 : decode cX11_many 89 = .ok (.getfield 321, 3) := by decide +kernel
theorem dX11_many_92 : decode cX11_many 92 = .ok (.ireturn, 1) := by decide +kernel
theorem dX11_many_93 : decode cX11_many 93 = .ok (.aload_n 0, 1) := by decide +kernel
theorem dX11_many_94 : decode cX11_many 94 = .ok (.getfield 199, 3) := by decide +kernel
theorem dX11_many_97 : decode cX11_many 97 = .ok (.ireturn, 1) := by decide +kernel
theorem dX11_many_98 : decode cX11_many 98 = .ok (.aload_n 0, 1) := by decide +kernel
theorem dX11_many_99 : decode cX11_many 99 = .ok (.getfield 351, 3) := by decide +kernel
theorem dX11_many_102 : decode cX11_many 102 = .ok (.ifnonnull 7, 3) := by decide +kernel
theorem dX11_many_105 : decode cX11_many 105 = .ok (.iconst 0, 1) := by decide +kernel
theorem dX11_many_106 : decode cX11_many 106 = .ok (.goto 10, 3) := by decide +kernel
theorem dX11_many_109 : decode cX11_many 109 = .ok (.aload_n 0, 1) := by decide +kernel
theorem dX11_many_110 : decode cX11_many 110 = .ok (.getfield 351, 3) := by decide +kernel
theorem dX11_many_113 : decode cX11_many 113 = .ok (.getfield 377, 3) := by decide +kernel
theorem dX11_many_116 : decode cX11_many 116 = .ok (.ireturn, 1) := by decide +kernel
theorem dX11_many_117 : decode cX11_many 117 = .ok (.iconst (-1), 1) := by decide +kernel
theorem dX11_many_118 : decode cX11_many 118 = .ok (.ireturn, 1) := by decide +kernel
theorem dX11_keep_0 : decode cX11_keep 0 = .ok (.aload_n 0, 1) := by decide +kernel
theorem dX11_keep_1 : decode cX11_keep 1 = .ok (.getfield 78, 3) := by decide +kernel
theorem dX11_keep_4 : decode cX11_keep 4 = .ok (.aload_n 0, 1) := by decide +kernel
theorem dX11_keep_5 : decode cX11_keep 5 = .ok (.getfield 74, 3) := by decide +kernel
theorem dX11_keep_8 : decode cX11_keep 8 = .ok (.invokevirtual 388, 3) := by decide +kernel
theorem dX11_keep_11 : decode cX11_keep 11 = .ok (.aload_n 0, 1) := by decide +kernel
theorem dX11_keep_12 : decode cX11_keep 12 = .ok (.iconst 1, 1) := by decide +kernel
theorem dX11_keep_13 : decode cX11_keep 13 = .ok (.putfield 390, 3) := by decide +kernel
theorem dX11_keep_16 : decode cX11_keep 16 = .ok (.iconst 1, 1) := by decide +kernel
theorem dX11_keep_17 : decode cX11_keep 17 = .ok (.ireturn, 1) := by decide +kernel
theorem dX11_again_0 : decode cX11_again 0 = .ok (.aload_n 0, 1) := by decide +kernel
theorem dX11_again_1 : decode cX11_again 1 = .ok (.getfield 390, 3) := by decide +kernel
theorem dX11_again_4 : decode cX11_again 4 = .ok (.ifCond .ne 6, 3) := by decide +kernel
theorem dX11_again_7 : decode cX11_again 7 = .ok (.bipush (-3), 2) := by decide +kernel
theorem dX11_again_9 : decode cX11_again 9 = .ok (.ireturn, 1) := by decide +kernel
theorem dX11_again_10 : decode cX11_again 10 = .ok (.aload_n 0, 1) := by decide +kernel
theorem dX11_again_11 : decode cX11_again 11 = .ok (.getfield 74, 3) := by decide +kernel
theorem dX11_again_14 : decode cX11_again 14 = .ok (.aload_n 0, 1) := by decide +kernel
theorem dX11_again_15 : decode cX11_again 15 = .ok (.getfield 78, 3) := by decide +kernel
theorem dX11_again_18 : decode cX11_again 18 = .ok (.invokevirtual 388, 3) := by decide +kernel
theorem dX11_again_21 : decode cX11_again 21 = .ok (.aload_n 0, 1) := by decide +kernel
theorem dX11_again_22 : decode cX11_again 22 = .ok (.getfield 74, 3) := by decide +kernel
theorem dX11_again_25 : decode cX11_again 25 = .ok (.getfield 101, 3) := by decide +kernel
theorem dX11_again_28 : decode cX11_again 28 = .ok (.ireturn, 1) := by decide +kernel
theorem dX11_within_0 : decode cX11_within 0 = .ok (.iload_n 0, 1) := by decide +kernel
theorem dX11_within_1 : decode cX11_within 1 = .ok (.iload_n 1, 1) := by decide +kernel
theorem dX11_within_2 : decode cX11_within 2 = .ok (.if_icmp .lt 12, 3) := by decide +kernel
theorem dX11_within_5 : decode cX11_within 5 = .ok (.iload_n 0, 1) := by decide +kernel
theorem dX11_within_6 : decode cX11_within 6 = .ok (.iload_n 2, 1) := by decide +kernel
theorem dX11_within_7 : decode cX11_within 7 = .ok (.if_icmp .gt 7, 3) := by decide +kernel
theorem dX11_within_10 : decode cX11_within 10 = .ok (.iconst 1, 1) := by decide +kernel
theorem dX11_within_11 : decode cX11_within 11 = .ok (.goto 4, 3) := by decide +kernel
theorem dX11_within_14 : decode cX11_within 14 = .ok (.iconst 0, 1) := by decide +kernel
theorem dX11_within_15 : decode cX11_within 15 = .ok (.ireturn, 1) := by decide +kernel
theorem dX11_has_0 : decode cX11_has 0 = .ok (.iload_n 0, 1) := by decide +kernel
theorem dX11_has_1 : decode cX11_has 1 = .ok (.iload_n 1, 1) := by decide +kernel
theorem dX11_has_2 : decode cX11_has 2 = .ok (.ishr, 1) := by decide +kernel
theorem dX11_has_3 : decode cX11_has 3 = .ok (.iconst 1, 1) := by decide +kernel
theorem dX11_has_4 : decode cX11_has 4 = .ok (.iand, 1) := by decide +kernel
theorem dX11_has_5 : decode cX11_has 5 = .ok (.ifCond .eq 7, 3) := by decide +kernel
theorem dX11_has_8 : decode cX11_has 8 = .ok (.iconst 1, 1) := by decide +kernel
theorem dX11_has_9 : decode cX11_has 9 = .ok (.goto 4, 3) := by decide +kernel
theorem dX11_has_12 : decode cX11_has 12 = .ok (.iconst 0, 1) := by decide +kernel
theorem dX11_has_13 : decode cX11_has 13 = .ok (.ireturn, 1) := by decide +kernel
theorem dX11_isMadeKind_0 : decode cX11_isMadeKind 0 = .ok (.iload_n 0, 1) := by decide +kernel
theorem dX11_isMadeKind_1 : decode cX11_isMadeKind 1 = .ok (.iconst 1, 1) := by decide +kernel
theorem dX11_isMadeKind_2 : decode cX11_isMadeKind 2 = .ok (.iconst 5, 1) := by decide +kernel
