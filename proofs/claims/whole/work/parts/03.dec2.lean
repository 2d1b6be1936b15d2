theorem dX11_isMadeKind_3 : decode cX11_isMadeKind 3 = .ok (.invokestatic 94, 3) := by decide +kernel
theorem dX11_isMadeKind_6 : decode cX11_isMadeKind 6 = .ok (.ireturn, 1) := by decide +kernel
theorem dX11_isUnder_0 : decode cX11_isUnder 0 = .ok (.iload_n 0, 1) := by decide +kernel
theorem dX11_isUnder_1 : decode cX11_isUnder 1 = .ok (.iload_n 1, 1) := by decide +kernel
theorem dX11_isUnder_2 : decode cX11_isUnder 2 = .ok (.if_icmp .eq 16, 3) := by decide +kernel
theorem dX11_isUnder_5 : decode cX11_isUnder 5 = .ok (.iload_n 1, 1) := by decide +kernel
theorem dX11_isUnder_6 : decode cX11_isUnder 6 = .ok (.ifCond .eq 12, 3) := by decide +kernel
theorem dX11_isUnder_9 : decode cX11_isUnder 9 = .ok (.getstatic 393, 3) := by decide +kernel
theorem dX11_isUnder_12 : decode cX11_isUnder 12 = .ok (.iload_n 0, 1) := by decide +kernel
theorem dX11_isUnder_13 : decode cX11_isUnder 13 = .ok (.iaload, 1) := by decide +kernel
theorem dX11_isUnder_14 : decode cX11_isUnder 14 = .ok (.iload_n 1, 1) := by decide +kernel
theorem dX11_isUnder_15 : decode cX11_isUnder 15 = .ok (.if_icmp .ne 7, 3) := by decide +kernel
theorem dX11_isUnder_18 : decode cX11_isUnder 18 = .ok (.iconst 1, 1) := by decide +kernel
theorem dX11_isUnder_19 : decode cX11_isUnder 19 = .ok (.goto 4, 3) := by decide +kernel
theorem dX11_isUnder_22 : decode cX11_isUnder 22 = .ok (.iconst 0, 1) := by decide +kernel
theorem dX11_isUnder_23 : decode cX11_isUnder 23 = .ok (.ireturn, 1) := by decide +kernel
theorem dX11_isStop_0 : decode cX11_isStop 0 = .ok (.iload_n 0, 1) := by decide +kernel
theorem dX11_isStop_1 : decode cX11_isStop 1 = .ok (.iconst 0, 1) := by decide +kernel
theorem dX11_isStop_2 : decode cX11_isStop 2 = .ok (.iconst 5, 1) := by decide +kernel
theorem dX11_isStop_3 : decode cX11_isStop 3 = .ok (.invokestatic 94, 3) := by decide +kernel
theorem dX11_isStop_6 : decode cX11_isStop 6 = .ok (.ireturn, 1) := by decide +kernel
theorem dX11_isPlanLength_0 : decode cX11_isPlanLength 0 = .ok (.iload_n 0, 1) := by decide +kernel
theorem dX11_isPlanLength_1 : decode cX11_isPlanLength 1 = .ok (.iconst 0, 1) := by decide +kernel
theorem dX11_isPlanLength_2 : decode cX11_isPlanLength 2 = .ok (.iconst 4, 1) := by decide +kernel
theorem dX11_isPlanLength_3 : decode cX11_isPlanLength 3 = .ok (.invokestatic 94, 3) := by decide +kernel
theorem dX11_isPlanLength_6 : decode cX11_isPlanLength 6 = .ok (.ireturn, 1) := by decide +kernel
theorem dX11_isSheet_0 : decode cX11_isSheet 0 = .ok (.iload_n 0, 1) := by decide +kernel
theorem dX11_isSheet_1 : decode cX11_isSheet 1 = .ok (.iconst 0, 1) := by decide +kernel
theorem dX11_isSheet_2 : decode cX11_isSheet 2 = .ok (.iconst 3, 1) := by decide +kernel
theorem dX11_isSheet_3 : decode cX11_isSheet 3 = .ok (.invokestatic 94, 3) := by decide +kernel
theorem dX11_isSheet_6 : decode cX11_isSheet 6 = .ok (.ireturn, 1) := by decide +kernel
theorem dX11_isShelf_0 : decode cX11_isShelf 0 = .ok (.iload_n 0, 1) := by decide +kernel
theorem dX11_isShelf_1 : decode cX11_isShelf 1 = .ok (.iconst 0, 1) := by decide +kernel
theorem dX11_isShelf_2 : decode cX11_isShelf 2 = .ok (.iconst 3, 1) := by decide +kernel
theorem dX11_isShelf_3 : decode cX11_isShelf 3 = .ok (.invokestatic 94, 3) := by decide +kernel
theorem dX11_isShelf_6 : decode cX11_isShelf 6 = .ok (.ireturn, 1) := by decide +kernel
theorem dX11_isRider_0 : decode cX11_isRider 0 = .ok (.iload_n 1, 1) := by decide +kernel
theorem dX11_isRider_1 : decode cX11_isRider 1 = .ok (.iconst 0, 1) := by decide +kernel
theorem dX11_isRider_2 : decode cX11_isRider 2 = .ok (.aload_n 0, 1) := by decide +kernel
theorem dX11_isRider_3 : decode cX11_isRider 3 = .ok (.getfield 74, 3) := by decide +kernel
theorem dX11_isRider_6 : decode cX11_isRider 6 = .ok (.getfield 101, 3) := by decide +kernel
theorem dX11_isRider_9 : decode cX11_isRider 9 = .ok (.iconst 1, 1) := by decide +kernel
theorem dX11_isRider_10 : decode cX11_isRider 10 = .ok (.isub, 1) := by decide +kernel
theorem dX11_isRider_11 : decode cX11_isRider 11 = .ok (.invokestatic 94, 3) := by decide +kernel
theorem dX11_isRider_14 : decode cX11_isRider 14 = .ok (.ireturn, 1) := by decide +kernel
theorem dX11_isSetOfRiders_0 : decode cX11_isSetOfRiders 0 = .ok (.iload_n 1, 1) := by decide +kernel
theorem dX11_isSetOfRiders_1 : decode cX11_isSetOfRiders 1 = .ok (.iconst 0, 1) := by decide +kernel
theorem dX11_isSetOfRiders_2 : decode cX11_isSetOfRiders 2 = .ok (.iconst 1, 1) := by decide +kernel
theorem dX11_isSetOfRiders_3 : decode cX11_isSetOfRiders 3 = .ok (.aload_n 0, 1) := by decide +kernel
theorem dX11_isSetOfRiders_4 : decode cX11_isSetOfRiders 4 = .ok (.getfield 74, 3) := by decide +kernel
theorem dX11_isSetOfRiders_7 : decode cX11_isSetOfRiders 7 = .ok (.getfield 101, 3) := by decide +kernel
theorem dX11_isSetOfRiders_10 : decode cX11_isSetOfRiders 10 = .ok (.ishl, 1) := by decide +kernel
theorem dX11_isSetOfRiders_11 : decode cX11_isSetOfRiders 11 = .ok (.iconst 1, 1) := by decide +kernel
theorem dX11_isSetOfRiders_12 : decode cX11_isSetOfRiders 12 = .ok (.isub, 1) := by decide +kernel
theorem dX11_isSetOfRiders_13 : decode cX11_isSetOfRiders 13 = .ok (.invokestatic 94, 3) := by decide +kernel
theorem dX11_isSetOfRiders_16 : decode cX11_isSetOfRiders 16 = .ok (.ireturn, 1) := by decide +kernel
theorem dX11_isAct_0 : decode cX11_isAct 0 = .ok (.iload_n 1, 1) := by decide +kernel
theorem dX11_isAct_1 : decode cX11_isAct 1 = .ok (.iconst 0, 1) := by decide +kernel
theorem dX11_isAct_2 : decode cX11_isAct 2 = .ok (.aload_n 0, 1) := by decide +kernel
theorem dX11_isAct_3 : decode cX11_isAct 3 = .ok (.getfield 74, 3) := by decide +kernel
theorem dX11_isAct_6 : decode cX11_isAct 6 = .ok (.getfield 101, 3) := by decide +kernel
theorem dX11_isAct_9 : decode cX11_isAct 9 = .ok (.invokestatic 94, 3) := by decide +kernel
theorem dX11_isAct_12 : decode cX11_isAct 12 = .ok (.ireturn, 1) := by decide +kernel
theorem dX11_isCell_0 : decode cX11_isCell 0 = .ok (.iload_n 1, 1) := by decide +kernel
theorem dX11_isCell_1 : decode cX11_isCell 1 = .ok (.iconst 0, 1) := by decide +kernel
theorem dX11_isCell_2 : decode cX11_isCell 2 = .ok (.aload_n 0, 1) := by decide +kernel
theorem dX11_isCell_3 : decode cX11_isCell 3 = .ok (.getfield 321, 3) := by decide +kernel
theorem dX11_isCell_6 : decode cX11_isCell 6 = .ok (.iconst 1, 1) := by decide +kernel
theorem dX11_isCell_7 : decode cX11_isCell 7 = .ok (.isub, 1) := by decide +kernel
theorem dX11_isCell_8 : decode cX11_isCell 8 = .ok (.invokestatic 94, 3) := by decide +kernel
theorem dX11_isCell_11 : decode cX11_isCell 11 = .ok (.ifCond .eq 16, 3) := by decide +kernel
theorem dX11_isCell_14 : decode cX11_isCell 14 = .ok (.iload_n 2, 1) := by decide +kernel
theorem dX11_isCell_15 : decode cX11_isCell 15 = .ok (.iconst 0, 1) := by decide +kernel
theorem dX11_isCell_16 : decode cX11_isCell 16 = .ok (.iconst 2, 1) := by decide +kernel
theorem dX11_isCell_17 : decode cX11_isCell 17 = .ok (.invokestatic 94, 3) := by decide +kernel
theorem dX11_isCell_20 : decode cX11_isCell 20 = .ok (.ifCond .eq 7, 3) := by decide +kernel
theorem dX11_isCell_23 : decode cX11_isCell 23 = .ok (.iconst 1, 1) := by decide +kernel
theorem dX11_isCell_24 : decode cX11_isCell 24 = .ok (.goto 4, 3) := by decide +kernel
theorem dX11_isCell_27 : decode cX11_isCell 27 = .ok (.iconst 0, 1) := by decide +kernel
theorem dX11_isCell_28 : decode cX11_isCell 28 = .ok (.ireturn, 1) := by decide +kernel
theorem dX11_mostOf_0 : decode cX11_mostOf 0 = .ok (.iload_n 0, 1) := by decide +kernel
theorem dX11_mostOf_1 : decode cX11_mostOf 1 = .ok (.tableswitch 39 1 4 #[31, 34, 39, 37], 31) := by decide +kernel
theorem dX11_mostOf_32 : decode cX11_mostOf 32 = .ok (.bipush 99, 2) := by decide +kernel
theorem dX11_mostOf_34 : decode cX11_mostOf 34 = .ok (.ireturn, 1) := by decide +kernel
theorem dX11_mostOf_35 : decode cX11_mostOf 35 = .ok (.bipush 9, 2) := by decide +kernel
theorem dX11_mostOf_37 : decode cX11_mostOf 37 = .ok (.ireturn, 1) := by decide +kernel
theorem dX11_mostOf_38 : decode cX11_mostOf 38 = .ok (.iconst 1, 1) := by decide +kernel
theorem dX11_mostOf_39 : decode cX11_mostOf 39 = .ok (.ireturn, 1) := by decide +kernel
theorem dX11_mostOf_40 : decode cX11_mostOf 40 = .ok (.iconst 5, 1) := by decide +kernel
theorem dX11_mostOf_41 : decode cX11_mostOf 41 = .ok (.ireturn, 1) := by decide +kernel
theorem dX11_nextChance_0 : decode cX11_nextChance 0 = .ok (.iload_n 0, 1) := by decide +kernel
theorem dX11_nextChance_1 : decode cX11_nextChance 1 = .ok (.ldc_w 396, 3) := by decide +kernel
theorem dX11_nextChance_4 : decode cX11_nextChance 4 = .ok (.imul, 1) := by decide +kernel
theorem dX11_nextChance_5 : decode cX11_nextChance 5 = .ok (.sipush 12345, 3) := by decide +kernel
theorem dX11_nextChance_8 : decode cX11_nextChance 8 = .ok (.iadd, 1) := by decide +kernel
theorem dX11_nextChance_9 : decode cX11_nextChance 9 = .ok (.ireturn, 1) := by decide +kernel
theorem dX11_turned_0 : decode cX11_turned 0 = .ok (.iload_n 1, 1) := by decide +kernel
theorem dX11_turned_1 : decode cX11_turned 1 = .ok (.bipush 6, 2) := by decide +kernel
theorem dX11_turned_3 : decode cX11_turned 3 = .ok (.invokestatic 397, 3) := by decide +kernel
theorem dX11_turned_6 : decode cX11_turned 6 = .ok (.istore_n 2, 1) := by decide +kernel
theorem dX11_turned_7 : decode cX11_turned 7 = .ok (.iload_n 0, 1) := by decide +kernel
theorem dX11_turned_8 : decode cX11_turned 8 = .ok (.iload_n 2, 1) := by decide +kernel
theorem dX11_turned_9 : decode cX11_turned 9 = .ok (.ishl, 1) := by decide +kernel
theorem dX11_turned_10 : decode cX11_turned 10 = .ok (.iload_n 0, 1) := by decide +kernel
theorem dX11_turned_11 : decode cX11_turned 11 = .ok (.bipush 6, 2) := by decide +kernel
theorem dX11_turned_13 : decode cX11_turned 13 = .ok (.iload_n 2, 1) := by decide +kernel
theorem dX11_turned_14 : decode cX11_turned 14 = .ok (.isub, 1) := by decide +kernel
theorem dX11_turned_15 : decode cX11_turned 15 = .ok (.ishr, 1) := by decide +kernel
theorem dX11_turned_16 : decode cX11_turned 16 = .ok (.ior, 1) := by decide +kernel
theorem dX11_turned_17 : decode cX11_turned 17 = .ok (.bipush 63, 2) := by decide +kernel
theorem dX11_turned_19 : decode cX11_turned 19 = .ok (.iand, 1) := by decide +kernel
theorem dX11_turned_20 : decode cX11_turned 20 = .ok (.ireturn, 1) := by decide +kernel
theorem dX11_tryRest_0 : decode cX11_tryRest 0 = .ok (.aload_n 0, 1) := by decide +kernel
theorem dX11_tryRest_1 : decode cX11_tryRest 1 = .ok (.getfield 10, 3) := by decide +kernel
theorem dX11_tryRest_4 : decode cX11_tryRest 4 = .ok (.aload_n 0, 1) := by decide +kernel
theorem dX11_tryRest_5 : decode cX11_tryRest 5 = .ok (.getfield 74, 3) := by decide +kernel
theorem dX11_tryRest_8 : decode cX11_tryRest 8 = .ok (.getfield 112, 3) := by decide +kernel
theorem dX11_tryRest_11 : decode cX11_tryRest 11 = .ok (.invokevirtual 226, 3) := by decide +kernel
theorem dX11_tryRest_14 : decode cX11_tryRest 14 = .ok (.iconst 0, 1) := by decide +kernel
theorem dX11_tryRest_15 : decode cX11_tryRest 15 = .ok (.istore_n 2, 1) := by decide +kernel
theorem dX11_tryRest_16 : decode cX11_tryRest 16 = .ok (.iconst 0, 1) := by decide +kernel
theorem dX11_tryRest_17 : decode cX11_tryRest 17 = .ok (.istore_n 3, 1) := by decide +kernel
theorem dX11_tryRest_18 : decode cX11_tryRest 18 = .ok (.iload_n 3, 1) := by decide +kernel
theorem dX11_tryRest_19 : decode cX11_tryRest 19 = .ok (.iload_n 1, 1) := by decide +kernel
theorem dX11_tryRest_20 : decode cX11_tryRest 20 = .ok (.if_icmp .ge 48, 3) := by decide +kernel
theorem dX11_tryRest_23 : decode cX11_tryRest 23 = .ok (.aload_n 0, 1) := by decide +kernel
theorem dX11_tryRest_24 : decode cX11_tryRest 24 = .ok (.getfield 74, 3) := by decide +kernel
theorem dX11_tryRest_27 : decode cX11_tryRest 27 = .ok (.aload_n 0, 1) := by decide +kernel
theorem dX11_tryRest_28 : decode cX11_tryRest 28 = .ok (.getfield 10, 3) := by decide +kernel
theorem dX11_tryRest_31 : decode cX11_tryRest 31 = .ok (.invokevirtual 185, 3) := by decide +kernel
theorem dX11_tryRest_34 : decode cX11_tryRest 34 = .ok (.ifCond .ne 34, 3) := by decide +kernel
theorem dX11_tryRest_37 : decode cX11_tryRest 37 = .ok (.iload_n 2, 1) := by decide +kernel
theorem dX11_tryRest_38 : decode cX11_tryRest 38 = .ok (.aload_n 0, 1) := by decide +kernel
theorem dX11_tryRest_39 : decode cX11_tryRest 39 = .ok (.getfield 74, 3) := by decide +kernel
theorem dX11_tryRest_42 : decode cX11_tryRest 42 = .ok (.aload_n 0, 1) := by decide +kernel
theorem dX11_tryRest_43 : decode cX11_tryRest 43 = .ok (.getfield 10, 3) := by decide +kernel
theorem dX11_tryRest_46 : decode cX11_tryRest 46 = .ok (.aload_n 0, 1) := by decide +kernel
theorem dX11_tryRest_47 : decode cX11_tryRest 47 = .ok (.getfield 74, 3) := by decide +kernel
theorem dX11_tryRest_50 : decode cX11_tryRest 50 = .ok (.aload_n 0, 1) := by decide +kernel
theorem dX11_tryRest_51 : decode cX11_tryRest 51 = .ok (.getfield 10, 3) := by decide +kernel
theorem dX11_tryRest_54 : decode cX11_tryRest 54 = .ok (.invokevirtual 216, 3) := by decide +kernel
theorem dX11_tryRest_57 : decode cX11_tryRest 57 = .ok (.invokevirtual 229, 3) := by decide +kernel
theorem dX11_tryRest_60 : decode cX11_tryRest 60 = .ok (.iadd, 1) := by decide +kernel
theorem dX11_tryRest_61 : decode cX11_tryRest 61 = .ok (.istore_n 2, 1) := by decide +kernel
theorem dX11_tryRest_62 : decode cX11_tryRest 62 = .ok (.iinc 3 1, 3) := by decide +kernel
theorem dX11_tryRest_65 : decode cX11_tryRest 65 = .ok (.goto (-47), 3) := by decide +kernel
theorem dX11_tryRest_68 : decode cX11_tryRest 68 = .ok (.iload_n 2, 1) := by decide +kernel
theorem dX11_tryRest_69 : decode cX11_tryRest 69 = .ok (.ireturn, 1) := by decide +kernel
theorem dX11_bestFor_0 : decode cX11_bestFor 0 = .ok (.aload_n 2, 1) := by decide +kernel
theorem dX11_bestFor_1 : decode cX11_bestFor 1 = .ok (.iload_n 1, 1) := by decide +kernel
theorem dX11_bestFor_2 : decode cX11_bestFor 2 = .ok (.iaload, 1) := by decide +kernel
theorem dX11_bestFor_3 : decode cX11_bestFor 3 = .ok (.istore 4, 2) := by decide +kernel
theorem dX11_bestFor_5 : decode cX11_bestFor 5 = .ok (.iconst (-1), 1) := by decide +kernel
theorem dX11_bestFor_6 : decode cX11_bestFor 6 = .ok (.istore 5, 2) := by decide +kernel
theorem dX11_bestFor_8 : decode cX11_bestFor 8 = .ok (.iconst 0, 1) := by decide +kernel
theorem dX11_bestFor_9 : decode cX11_bestFor 9 = .ok (.istore 6, 2) := by decide +kernel
theorem dX11_bestFor_11 : decode cX11_bestFor 11 = .ok (.iconst 0, 1) := by decide +kernel
theorem dX11_bestFor_12 : decode cX11_bestFor 12 = .ok (.istore 7, 2) := by decide +kernel
theorem dX11_bestFor_14 : decode cX11_bestFor 14 = .ok (.iload 7, 2) := by decide +kernel
theorem dX11_bestFor_16 : decode cX11_bestFor 16 = .ok (.iload_n 3, 1) := by decide +kernel
theorem dX11_bestFor_17 : decode cX11_bestFor 17 = .ok (.if_icmp .gt 37, 3) := by decide +kernel
theorem dX11_bestFor_20 : decode cX11_bestFor 20 = .ok (.aload_n 2, 1) := by decide +kernel
theorem dX11_bestFor_21 : decode cX11_bestFor 21 = .ok (.iload_n 1, 1) := by decide +kernel
theorem dX11_bestFor_22 : decode cX11_bestFor 22 = .ok (.iload 7, 2) := by decide +kernel
theorem dX11_bestFor_24 : decode cX11_bestFor 24 = .ok (.iastore, 1) := by decide +kernel
theorem dX11_bestFor_25 : decode cX11_bestFor 25 = .ok (.aload_n 0, 1) := by decide +kernel
theorem dX11_bestFor_26 : decode cX11_bestFor 26 = .ok (.bipush 16, 2) := by decide +kernel
theorem dX11_bestFor_28 : decode cX11_bestFor 28 = .ok (.invokevirtual 223, 3) := by decide +kernel
theorem dX11_bestFor_31 : decode cX11_bestFor 31 = .ok (.istore 8, 2) := by decide +kernel
theorem dX11_bestFor_33 : decode cX11_bestFor 33 = .ok (.iload 8, 2) := by decide +kernel
theorem dX11_bestFor_35 : decode cX11_bestFor 35 = .ok (.iload 5, 2) := by decide +kernel
theorem dX11_bestFor_37 : decode cX11_bestFor 37 = .ok (.if_icmp .le 11, 3) := by decide +kernel
theorem dX11_bestFor_40 : decode cX11_bestFor 40 = .ok (.iload 8, 2) := by decide +kernel
theorem dX11_bestFor_42 : decode cX11_bestFor 42 = .ok (.istore 5, 2) := by decide +kernel
theorem dX11_bestFor_44 : decode cX11_bestFor 44 = .ok (.iload 7, 2) := by decide +kernel
theorem dX11_bestFor_46 : decode cX11_bestFor 46 = .ok (.istore 6, 2) := by decide +kernel
theorem dX11_bestFor_48 : decode cX11_bestFor 48 = .ok (.iinc 7 1, 3) := by decide +kernel
theorem dX11_bestFor_51 : decode cX11_bestFor 51 = .ok (.goto (-37), 3) := by decide +kernel
theorem dX11_bestFor_54 : decode cX11_bestFor 54 = .ok (.aload_n 2, 1) := by decide +kernel
theorem dX11_bestFor_55 : decode cX11_bestFor 55 = .ok (.iload_n 1, 1) := by decide +kernel
theorem dX11_bestFor_56 : decode cX11_bestFor 56 = .ok (.iload 4, 2) := by decide +kernel
theorem dX11_bestFor_58 : decode cX11_bestFor 58 = .ok (.iastore, 1) := by decide +kernel
theorem dX11_bestFor_59 : decode cX11_bestFor 59 = .ok (.iload 6, 2) := by decide +kernel
theorem dX11_bestFor_61 : decode cX11_bestFor 61 = .ok (.ireturn, 1) := by decide +kernel
theorem dX11_carriageOf_0 : decode cX11_carriageOf 0 = .ok (.aload_n 0, 1) := by decide +kernel
theorem dX11_carriageOf_1 : decode cX11_carriageOf 1 = .ok (.getfield 74, 3) := by decide +kernel
theorem dX11_carriageOf_4 : decode cX11_carriageOf 4 = .ok (.getfield 112, 3) := by decide +kernel
theorem dX11_carriageOf_7 : decode cX11_carriageOf 7 = .ok (.iload_n 1, 1) := by decide +kernel
theorem dX11_carriageOf_8 : decode cX11_carriageOf 8 = .ok (.invokevirtual 127, 3) := by decide +kernel
theorem dX11_carriageOf_11 : decode cX11_carriageOf 11 = .ok (.ifCond .eq 5, 3) := by decide +kernel
theorem dX11_carriageOf_14 : decode cX11_carriageOf 14 = .ok (.iconst 0, 1) := by decide +kernel
theorem dX11_carriageOf_15 : decode cX11_carriageOf 15 = .ok (.ireturn, 1) := by decide +kernel
theorem dX11_carriageOf_16 : decode cX11_carriageOf 16 = .ok (.iconst 1, 1) := by decide +kernel
theorem dX11_carriageOf_17 : decode cX11_carriageOf 17 = .ok (.iload_n 1, 1) := by decide +kernel
theorem dX11_carriageOf_18 : decode cX11_carriageOf 18 = .ok (.ishl, 1) := by decide +kernel
theorem dX11_carriageOf_19 : decode cX11_carriageOf 19 = .ok (.istore_n 2, 1) := by decide +kernel
theorem dX11_carriageOf_20 : decode cX11_carriageOf 20 = .ok (.iconst 0, 1) := by decide +kernel
theorem dX11_carriageOf_21 : decode cX11_carriageOf 21 = .ok (.istore_n 3, 1) := by decide +kernel
theorem dX11_carriageOf_22 : decode cX11_carriageOf 22 = .ok (.iload_n 3, 1) := by decide +kernel
theorem dX11_carriageOf_23 : decode cX11_carriageOf 23 = .ok (.aload_n 0, 1) := by decide +kernel
theorem dX11_carriageOf_24 : decode cX11_carriageOf 24 = .ok (.getfield 74, 3) := by decide +kernel
theorem dX11_carriageOf_27 : decode cX11_carriageOf 27 = .ok (.getfield 101, 3) := by decide +kernel
theorem dX11_carriageOf_30 : decode cX11_carriageOf 30 = .ok (.if_icmp .ge 51, 3) := by decide +kernel
theorem dX11_carriageOf_33 : decode cX11_carriageOf 33 = .ok (.iconst 0, 1) := by decide +kernel
theorem dX11_carriageOf_34 : decode cX11_carriageOf 34 = .ok (.istore 4, 2) := by decide +kernel
theorem dX11_carriageOf_36 : decode cX11_carriageOf 36 = .ok (.iload 4, 2) := by decide +kernel
theorem dX11_carriageOf_38 : decode cX11_carriageOf 38 = .ok (.aload_n 0, 1) := by decide +kernel
theorem dX11_carriageOf_39 : decode cX11_carriageOf 39 = .ok (.getfield 74, 3) := by decide +kernel
theorem dX11_carriageOf_42 : decode cX11_carriageOf 42 = .ok (.getfield 101, 3) := by decide +kernel
theorem dX11_carriageOf_45 : decode cX11_carriageOf 45 = .ok (.if_icmp .ge 30, 3) := by decide +kernel
theorem dX11_carriageOf_48 : decode cX11_carriageOf 48 = .ok (.iload_n 2, 1) := by decide +kernel
theorem dX11_carriageOf_49 : decode cX11_carriageOf 49 = .ok (.iload 4, 2) := by decide +kernel
theorem dX11_carriageOf_51 : decode cX11_carriageOf 51 = .ok (.invokestatic 236, 3) := by decide +kernel
theorem dX11_carriageOf_54 : decode cX11_carriageOf 54 = .ok (.ifCond .eq 15, 3) := by decide +kernel
theorem dX11_carriageOf_57 : decode cX11_carriageOf 57 = .ok (.iload_n 2, 1) := by decide +kernel
theorem dX11_carriageOf_58 : decode cX11_carriageOf 58 = .ok (.aload_n 0, 1) := by decide +kernel
theorem dX11_carriageOf_59 : decode cX11_carriageOf 59 = .ok (.getfield 74, 3) := by decide +kernel
theorem dX11_carriageOf_62 : decode cX11_carriageOf 62 = .ok (.iload 4, 2) := by decide +kernel
theorem dX11_carriageOf_64 : decode cX11_carriageOf 64 = .ok (.invokevirtual 402, 3) := by decide +kernel
theorem dX11_carriageOf_67 : decode cX11_carriageOf 67 = .ok (.ior, 1) := by decide +kernel
theorem dX11_carriageOf_68 : decode cX11_carriageOf 68 = .ok (.istore_n 2, 1) := by decide +kernel
theorem dX11_carriageOf_69 : decode cX11_carriageOf 69 = .ok (.iinc 4 1, 3) := by decide +kernel
theorem dX11_carriageOf_72 : decode cX11_carriageOf 72 = .ok (.goto (-36), 3) := by decide +kernel
theorem dX11_carriageOf_75 : decode cX11_carriageOf 75 = .ok (.iinc 3 1, 3) := by decide +kernel
theorem dX11_carriageOf_78 : decode cX11_carriageOf 78 = .ok (.goto (-56), 3) := by decide +kernel
theorem dX11_carriageOf_81 : decode cX11_carriageOf 81 = .ok (.iload_n 2, 1) := by decide +kernel
theorem dX11_carriageOf_82 : decode cX11_carriageOf 82 = .ok (.ireturn, 1) := by decide +kernel
theorem dX11_refusedActs_0 : decode cX11_refusedActs 0 = .ok (.iload_n 1, 1) := by decide +kernel
theorem dX11_refusedActs_1 : decode cX11_refusedActs 1 = .ok (.invokestatic 330, 3) := by decide +kernel
theorem dX11_refusedActs_4 : decode cX11_refusedActs 4 = .ok (.ifCond .eq 13, 3) := by decide +kernel
theorem dX11_refusedActs_7 : decode cX11_refusedActs 7 = .ok (.iload_n 2, 1) := by decide +kernel
theorem dX11_refusedActs_8 : decode cX11_refusedActs 8 = .ok (.iconst 0, 1) := by decide +kernel
theorem dX11_refusedActs_9 : decode cX11_refusedActs 9 = .ok (.bipush 20, 2) := by decide +kernel
theorem dX11_refusedActs_11 : decode cX11_refusedActs 11 = .ok (.invokestatic 94, 3) := by decide +kernel
theorem dX11_refusedActs_14 : decode cX11_refusedActs 14 = .ok (.ifCond .ne 5, 3) := by decide +kernel
theorem dX11_refusedActs_17 : decode cX11_refusedActs 17 = .ok (.iconst (-1), 1) := by decide +kernel
theorem dX11_refusedActs_18 : decode cX11_refusedActs 18 = .ok (.ireturn, 1) := by decide +kernel
theorem dX11_refusedActs_19 : decode cX11_refusedActs 19 = .ok (.aload_n 0, 1) := by decide +kernel
theorem dX11_refusedActs_20 : decode cX11_refusedActs 20 = .ok (.getfield 32, 3) := by decide +kernel
theorem dX11_refusedActs_23 : decode cX11_refusedActs 23 = .ok (.iload_n 1, 1) := by decide +kernel
theorem dX11_refusedActs_24 : decode cX11_refusedActs 24 = .ok (.iaload, 1) := by decide +kernel
theorem dX11_refusedActs_25 : decode cX11_refusedActs 25 = .ok (.iconst (-1), 1) := by decide +kernel
theorem dX11_refusedActs_26 : decode cX11_refusedActs 26 = .ok (.if_icmp .ne 6, 3) := by decide +kernel
theorem dX11_refusedActs_29 : decode cX11_refusedActs 29 = .ok (.bipush (-11), 2) := by decide +kernel
theorem dX11_refusedActs_31 : decode cX11_refusedActs 31 = .ok (.ireturn, 1) := by decide +kernel
theorem dX11_refusedActs_32 : decode cX11_refusedActs 32 = .ok (.aload_n 0, 1) := by decide +kernel
theorem dX11_refusedActs_33 : decode cX11_refusedActs 33 = .ok (.getfield 32, 3) := by decide +kernel
theorem dX11_refusedActs_36 : decode cX11_refusedActs 36 = .ok (.iload_n 1, 1) := by decide +kernel
theorem dX11_refusedActs_37 : decode cX11_refusedActs 37 = .ok (.iaload, 1) := by decide +kernel
theorem dX11_refusedActs_38 : decode cX11_refusedActs 38 = .ok (.ifCond .ne 7, 3) := by decide +kernel
theorem dX11_refusedActs_41 : decode cX11_refusedActs 41 = .ok (.iconst 0, 1) := by decide +kernel
theorem dX11_refusedActs_42 : decode cX11_refusedActs 42 = .ok (.goto 5, 3) := by decide +kernel
theorem dX11_refusedActs_45 : decode cX11_refusedActs 45 = .ok (.bipush (-13), 2) := by decide +kernel
theorem dX11_refusedActs_47 : decode cX11_refusedActs 47 = .ok (.ireturn, 1) := by decide +kernel
theorem dX11_narrowed_0 : decode cX11_narrowed 0 = .ok (.iload_n 1, 1) := by decide +kernel
theorem dX11_narrowed_1 : decode cX11_narrowed 1 = .ok (.tableswitch 51 0 4 #[35, 38, 51, 51, 41], 35) := by decide +kernel
theorem dX11_narrowed_36 : decode cX11_narrowed 36 = .ok (.iload_n 0, 1) := by decide +kernel
theorem dX11_narrowed_37 : decode cX11_narrowed 37 = .ok (.i2b, 1) := by decide +kernel
theorem dX11_narrowed_38 : decode cX11_narrowed 38 = .ok (.ireturn, 1) := by decide +kernel
theorem dX11_narrowed_39 : decode cX11_narrowed 39 = .ok (.iload_n 0, 1) := by decide +kernel
theorem dX11_narrowed_40 : decode cX11_narrowed 40 = .ok (.i2s, 1) := by decide +kernel
theorem dX11_narrowed_41 : decode cX11_narrowed 41 = .ok (.ireturn, 1) := by decide +kernel
theorem dX11_narrowed_42 : decode cX11_narrowed 42 = .ok (.iload_n 0, 1) := by decide +kernel
theorem dX11_narrowed_43 : decode cX11_narrowed 43 = .ok (.ifCond .eq 7, 3) := by decide +kernel
theorem dX11_narrowed_46 : decode cX11_narrowed 46 = .ok (.iconst 1, 1) := by decide +kernel
theorem dX11_narrowed_47 : decode cX11_narrowed 47 = .ok (.goto 4, 3) := by decide +kernel
theorem dX11_narrowed_50 : decode cX11_narrowed 50 = .ok (.iconst 0, 1) := by decide +kernel
theorem dX11_narrowed_51 : decode cX11_narrowed 51 = .ok (.ireturn, 1) := by decide +kernel
theorem dX11_narrowed_52 : decode cX11_narrowed 52 = .ok (.iload_n 0, 1) := by decide +kernel
theorem dX11_narrowed_53 : decode cX11_narrowed 53 = .ok (.ireturn, 1) := by decide +kernel
theorem dX11_putRowOn_0 : decode cX11_putRowOn 0 = .ok (.aload_n 0, 1) := by decide +kernel
theorem dX11_putRowOn_1 : decode cX11_putRowOn 1 = .ok (.getfield 32, 3) := by decide +kernel
theorem dX11_putRowOn_4 : decode cX11_putRowOn 4 = .ok (.iload_n 2, 1) := by decide +kernel
theorem dX11_putRowOn_5 : decode cX11_putRowOn 5 = .ok (.iaload, 1) := by decide +kernel
theorem dX11_putRowOn_6 : decode cX11_putRowOn 6 = .ok (.iconst (-1), 1) := by decide +kernel
theorem dX11_putRowOn_7 : decode cX11_putRowOn 7 = .ok (.if_icmp .ne 11, 3) := by decide +kernel
theorem dX11_putRowOn_10 : decode cX11_putRowOn 10 = .ok (.aload_n 0, 1) := by decide +kernel
theorem dX11_putRowOn_11 : decode cX11_putRowOn 11 = .ok (.getfield 42, 3) := by decide +kernel
theorem dX11_putRowOn_14 : decode cX11_putRowOn 14 = .ok (.iload_n 1, 1) := by decide +kernel
theorem dX11_putRowOn_15 : decode cX11_putRowOn 15 = .ok (.iconst 2, 1) := by decide +kernel
theorem dX11_putRowOn_16 : decode cX11_putRowOn 16 = .ok (.iastore, 1) := by decide +kernel
theorem dX11_putRowOn_17 : decode cX11_putRowOn 17 = .ok (.return_, 1) := by decide +kernel
theorem dX11_putRowOn_18 : decode cX11_putRowOn 18 = .ok (.aload_n 0, 1) := by decide +kernel
theorem dX11_putRowOn_19 : decode cX11_putRowOn 19 = .ok (.getfield 45, 3) := by decide +kernel
theorem dX11_putRowOn_22 : decode cX11_putRowOn 22 = .ok (.iload_n 1, 1) := by decide +kernel
theorem dX11_putRowOn_23 : decode cX11_putRowOn 23 = .ok (.aload_n 0, 1) := by decide +kernel
theorem dX11_putRowOn_24 : decode cX11_putRowOn 24 = .ok (.getfield 32, 3) := by decide +kernel
theorem dX11_putRowOn_27 : decode cX11_putRowOn 27 = .ok (.iload_n 2, 1) := by decide +kernel
theorem dX11_putRowOn_28 : decode cX11_putRowOn 28 = .ok (.iaload, 1) := by decide +kernel
theorem dX11_putRowOn_29 : decode cX11_putRowOn 29 = .ok (.iastore, 1) := by decide +kernel
theorem dX11_putRowOn_30 : decode cX11_putRowOn 30 = .ok (.aload_n 0, 1) := by decide +kernel
theorem dX11_putRowOn_31 : decode cX11_putRowOn 31 = .ok (.getfield 48, 3) := by decide +kernel
theorem dX11_putRowOn_34 : decode cX11_putRowOn 34 = .ok (.iload_n 1, 1) := by decide +kernel
theorem dX11_putRowOn_35 : decode cX11_putRowOn 35 = .ok (.aload_n 0, 1) := by decide +kernel
theorem dX11_putRowOn_36 : decode cX11_putRowOn 36 = .ok (.getfield 36, 3) := by decide +kernel
theorem dX11_putRowOn_39 : decode cX11_putRowOn 39 = .ok (.iload_n 2, 1) := by decide +kernel
theorem dX11_putRowOn_40 : decode cX11_putRowOn 40 = .ok (.iaload, 1) := by decide +kernel
theorem dX11_putRowOn_41 : decode cX11_putRowOn 41 = .ok (.iastore, 1) := by decide +kernel
theorem dX11_putRowOn_42 : decode cX11_putRowOn 42 = .ok (.return_, 1) := by decide +kernel
theorem dX11_riderOn_0 : decode cX11_riderOn 0 = .ok (.aload_n 0, 1) := by decide +kernel
theorem dX11_riderOn_1 : decode cX11_riderOn 1 = .ok (.getfield 42, 3) := by decide +kernel
theorem dX11_riderOn_4 : decode cX11_riderOn 4 = .ok (.iload_n 1, 1) := by decide +kernel
theorem dX11_riderOn_5 : decode cX11_riderOn 5 = .ok (.iaload, 1) := by decide +kernel
theorem dX11_riderOn_6 : decode cX11_riderOn 6 = .ok (.ifCond .ne 25, 3) := by decide +kernel
theorem dX11_riderOn_9 : decode cX11_riderOn 9 = .ok (.aload_n 0, 1) := by decide +kernel
theorem dX11_riderOn_10 : decode cX11_riderOn 10 = .ok (.aload_n 0, 1) := by decide +kernel
theorem dX11_riderOn_11 : decode cX11_riderOn 11 = .ok (.getfield 45, 3) := by decide +kernel
theorem dX11_riderOn_14 : decode cX11_riderOn 14 = .ok (.iload_n 1, 1) := by decide +kernel
theorem dX11_riderOn_15 : decode cX11_riderOn 15 = .ok (.iaload, 1) := by decide +kernel
theorem dX11_riderOn_16 : decode cX11_riderOn 16 = .ok (.invokevirtual 109, 3) := by decide +kernel
theorem dX11_riderOn_19 : decode cX11_riderOn 19 = .ok (.ifCond .eq 12, 3) := by decide +kernel
theorem dX11_riderOn_22 : decode cX11_riderOn 22 = .ok (.aload_n 0, 1) := by decide +kernel
theorem dX11_riderOn_23 : decode cX11_riderOn 23 = .ok (.getfield 45, 3) := by decide +kernel
theorem dX11_riderOn_26 : decode cX11_riderOn 26 = .ok (.iload_n 1, 1) := by decide +kernel
theorem dX11_riderOn_27 : decode cX11_riderOn 27 = .ok (.iaload, 1) := by decide +kernel
theorem dX11_riderOn_28 : decode cX11_riderOn 28 = .ok (.goto 5, 3) := by decide +kernel
theorem dX11_riderOn_31 : decode cX11_riderOn 31 = .ok (.bipush (-3), 2) := by decide +kernel
theorem dX11_riderOn_33 : decode cX11_riderOn 33 = .ok (.ireturn, 1) := by decide +kernel
theorem dX12_init_0 : decode cX12_init 0 = .ok (.aload_n 0, 1) := by decide +kernel
theorem dX12_init_1 : decode cX12_init 1 = .ok (.invokespecial 1, 3) := by decide +kernel
theorem dX12_init_4 : decode cX12_init 4 = .ok (.aload_n 0, 1) := by decide +kernel
theorem dX12_init_5 : decode cX12_init 5 = .ok (.sipush 578, 3) := by decide +kernel
theorem dX12_init_8 : decode cX12_init 8 = .ok (.newarray .int, 2) := by decide +kernel
theorem dX12_init_10 : decode cX12_init 10 = .ok (.putfield 7, 3) := by decide +kernel
theorem dX12_init_13 : decode cX12_init 13 = .ok (.aload_n 0, 1) := by decide +kernel
theorem dX12_init_14 : decode cX12_init 14 = .ok (.sipush 578, 3) := by decide +kernel
theorem dX12_init_17 : decode cX12_init 17 = .ok (.newarray .int, 2) := by decide +kernel
theorem dX12_init_19 : decode cX12_init 19 = .ok (.putfield 13, 3) := by decide +kernel
theorem dX12_init_22 : decode cX12_init 22 = .ok (.aload_n 0, 1) := by decide +kernel
theorem dX12_init_23 : decode cX12_init 23 = .ok (.sipush 220, 3) := by decide +kernel
theorem dX12_init_26 : decode cX12_init 26 = .ok (.newarray .int, 2) := by decide +kernel
theorem dX12_init_28 : decode cX12_init 28 = .ok (.putfield 16, 3) := by decide +kernel
theorem dX12_init_31 : decode cX12_init 31 = .ok (.aload_n 0, 1) := by decide +kernel
theorem dX12_init_32 : decode cX12_init 32 = .ok (.sipush 200, 3) := by decide +kernel
theorem dX12_init_35 : decode cX12_init 35 = .ok (.newarray .int, 2) := by decide +kernel
theorem dX12_init_37 : decode cX12_init 37 = .ok (.putfield 19, 3) := by decide +kernel
theorem dX12_init_40 : decode cX12_init 40 = .ok (.aload_n 0, 1) := by decide +kernel
theorem dX12_init_41 : decode cX12_init 41 = .ok (.sipush 578, 3) := by decide +kernel
theorem dX12_init_44 : decode cX12_init 44 = .ok (.newarray .int, 2) := by decide +kernel
theorem dX12_init_46 : decode cX12_init 46 = .ok (.putfield 22, 3) := by decide +kernel
theorem dX12_init_49 : decode cX12_init 49 = .ok (.aload_n 0, 1) := by decide +kernel
theorem dX12_init_50 : decode cX12_init 50 = .ok (.bipush 6, 2) := by decide +kernel
theorem dX12_init_52 : decode cX12_init 52 = .ok (.newarray .int, 2) := by decide +kernel
theorem dX12_init_54 : decode cX12_init 54 = .ok (.putfield 25, 3) := by decide +kernel
theorem dX12_init_57 : decode cX12_init 57 = .ok (.aload_n 0, 1) := by decide +kernel
theorem dX12_init_58 : decode cX12_init 58 = .ok (.iconst 4, 1) := by decide +kernel
theorem dX12_init_59 : decode cX12_init 59 = .ok (.newarray .int, 2) := by decide +kernel
theorem dX12_init_61 : decode cX12_init 61 = .ok (.putfield 28, 3) := by decide +kernel
theorem dX12_init_64 : decode cX12_init 64 = .ok (.aload_n 0, 1) := by decide +kernel
theorem dX12_init_65 : decode cX12_init 65 = .ok (.iconst 4, 1) := by decide +kernel
theorem dX12_init_66 : decode cX12_init 66 = .ok (.newarray .int, 2) := by decide +kernel
theorem dX12_init_68 : decode cX12_init 68 = .ok (.putfield 31, 3) := by decide +kernel
theorem dX12_init_71 : decode cX12_init 71 = .ok (.aload_n 0, 1) := by decide +kernel
theorem dX12_init_72 : decode cX12_init 72 = .ok (.bipush 16, 2) := by decide +kernel
theorem dX12_init_74 : decode cX12_init 74 = .ok (.newarray .int, 2) := by decide +kernel
theorem dX12_init_76 : decode cX12_init 76 = .ok (.putfield 34, 3) := by decide +kernel
theorem dX12_init_79 : decode cX12_init 79 = .ok (.aload_n 0, 1) := by decide +kernel
theorem dX12_init_80 : decode cX12_init 80 = .ok (.bipush 16, 2) := by decide +kernel
theorem dX12_init_82 : decode cX12_init 82 = .ok (.newarray .int, 2) := by decide +kernel
theorem dX12_init_84 : decode cX12_init 84 = .ok (.putfield 37, 3) := by decide +kernel
theorem dX12_init_87 : decode cX12_init 87 = .ok (.aload_n 0, 1) := by decide +kernel
theorem dX12_init_88 : decode cX12_init 88 = .ok (.bipush 12, 2) := by decide +kernel
theorem dX12_init_90 : decode cX12_init 90 = .ok (.newarray .int, 2) := by decide +kernel
theorem dX12_init_92 : decode cX12_init 92 = .ok (.putfield 40, 3) := by decide +kernel
theorem dX12_init_95 : decode cX12_init 95 = .ok (.aload_n 0, 1) := by decide +kernel
theorem dX12_init_96 : decode cX12_init 96 = .ok (.iconst 4, 1) := by decide +kernel
theorem dX12_init_97 : decode cX12_init 97 = .ok (.newarray .int, 2) := by decide +kernel
theorem dX12_init_99 : decode cX12_init 99 = .ok (.dup, 1) := by decide +kernel
theorem dX12_init_100 : decode cX12_init 100 = .ok (.iconst 0, 1) := by decide +kernel
theorem dX12_init_101 : decode cX12_init 101 = .ok (.iconst (-1), 1) := by decide +kernel
theorem dX12_init_102 : decode cX12_init 102 = .ok (.iastore, 1) := by decide +kernel
theorem dX12_init_103 : decode cX12_init 103 = .ok (.dup, 1) := by decide +kernel
theorem dX12_init_104 : decode cX12_init 104 = .ok (.iconst 1, 1) := by decide +kernel
theorem dX12_init_105 : decode cX12_init 105 = .ok (.iconst (-1), 1) := by decide +kernel
theorem dX12_init_106 : decode cX12_init 106 = .ok (.iastore, 1) := by decide +kernel
theorem dX12_init_107 : decode cX12_init 107 = .ok (.dup, 1) := by decide +kernel
theorem dX12_init_108 : decode cX12_init 108 = .ok (.iconst 2, 1) := by decide +kernel
theorem dX12_init_109 : decode cX12_init 109 = .ok (.iconst (-1), 1) := by decide +kernel
theorem dX12_init_110 : decode cX12_init 110 = .ok (.iastore, 1) := by decide +kernel
theorem dX12_init_111 : decode cX12_init 111 = .ok (.dup, 1) := by decide +kernel
theorem dX12_init_112 : decode cX12_init 112 = .ok (.iconst 3, 1) := by decide +kernel
theorem dX12_init_113 : decode cX12_init 113 = .ok (.iconst (-1), 1) := by decide +kernel
theorem dX12_init_114 : decode cX12_init 114 = .ok (.iastore, 1) := by decide +kernel
theorem dX12_init_115 : decode cX12_init 115 = .ok (.putfield 43, 3) := by decide +kernel
theorem dX12_init_118 : decode cX12_init 118 = .ok (.aload_n 0, 1) := by decide +kernel
theorem dX12_init_119 : decode cX12_init 119 = .ok (.iconst 4, 1) := by decide +kernel
theorem dX12_init_120 : decode cX12_init 120 = .ok (.newarray .int, 2) := by decide +kernel
theorem dX12_init_122 : decode cX12_init 122 = .ok (.putfield 46, 3) := by decide +kernel
theorem dX12_init_125 : decode cX12_init 125 = .ok (.aload_n 0, 1) := by decide +kernel
theorem dX12_init_126 : decode cX12_init 126 = .ok (.sipush 160, 3) := by decide +kernel
theorem dX12_init_129 : decode cX12_init 129 = .ok (.newarray .int, 2) := by decide +kernel
theorem dX12_init_131 : decode cX12_init 131 = .ok (.putfield 49, 3) := by decide +kernel
theorem dX12_init_134 : decode cX12_init 134 = .ok (.aload_n 0, 1) := by decide +kernel
theorem dX12_init_135 : decode cX12_init 135 = .ok (.iconst 4, 1) := by decide +kernel
theorem dX12_init_136 : decode cX12_init 136 = .ok (.newarray .int, 2) := by decide +kernel
theorem dX12_init_138 : decode cX12_init 138 = .ok (.putfield 52, 3) := by decide +kernel
theorem dX12_init_141 : decode cX12_init 141 = .ok (.aload_n 0, 1) := by decide +kernel
theorem dX12_init_142 : decode cX12_init 142 = .ok (.iconst 4, 1) := by decide +kernel
theorem dX12_init_143 : decode cX12_init 143 = .ok (.newarray .int, 2) := by decide +kernel
theorem dX12_init_145 : decode cX12_init 145 = .ok (.putfield 55, 3) := by decide +kernel
theorem dX12_init_148 : decode cX12_init 148 = .ok (.aload_n 0, 1) := by decide +kernel
theorem dX12_init_149 : decode cX12_init 149 = .ok (.iconst 4, 1) := by decide +kernel
theorem dX12_init_150 : decode cX12_init 150 = .ok (.newarray .int, 2) := by decide +kernel
theorem dX12_init_152 : decode cX12_init 152 = .ok (.putfield 58, 3) := by decide +kernel
theorem dX12_init_155 : decode cX12_init 155 = .ok (.aload_n 0, 1) := by decide +kernel
theorem dX12_init_156 : decode cX12_init 156 = .ok (.bipush 30, 2) := by decide +kernel
theorem dX12_init_158 : decode cX12_init 158 = .ok (.newarray .int, 2) := by decide +kernel
theorem dX12_init_160 : decode cX12_init 160 = .ok (.putfield 61, 3) := by decide +kernel
theorem dX12_init_163 : decode cX12_init 163 = .ok (.aload_n 0, 1) := by decide +kernel
theorem dX12_init_164 : decode cX12_init 164 = .ok (.getfield 7, 3) := by decide +kernel
theorem dX12_init_167 : decode cX12_init 167 = .ok (.iconst 2, 1) := by decide +kernel
theorem dX12_init_168 : decode cX12_init 168 = .ok (.bipush 12, 2) := by decide +kernel
theorem dX12_init_170 : decode cX12_init 170 = .ok (.iastore, 1) := by decide +kernel
theorem dX12_init_171 : decode cX12_init 171 = .ok (.aload_n 0, 1) := by decide +kernel
theorem dX12_init_172 : decode cX12_init 172 = .ok (.getfield 7, 3) := by decide +kernel
theorem dX12_init_175 : decode cX12_init 175 = .ok (.iconst 4, 1) := by decide +kernel
theorem dX12_init_176 : decode cX12_init 176 = .ok (.iconst 1, 1) := by decide +kernel
theorem dX12_init_177 : decode cX12_init 177 = .ok (.iastore, 1) := by decide +kernel
theorem dX12_init_178 : decode cX12_init 178 = .ok (.iconst 0, 1) := by decide +kernel
theorem dX12_init_179 : decode cX12_init 179 = .ok (.istore_n 1, 1) := by decide +kernel
theorem dX12_init_180 : decode cX12_init 180 = .ok (.iload_n 1, 1) := by decide +kernel
theorem dX12_init_181 : decode cX12_init 181 = .ok (.bipush 16, 2) := by decide +kernel
theorem dX12_init_183 : decode cX12_init 183 = .ok (.if_icmp .ge 19, 3) := by decide +kernel
theorem dX12_init_186 : decode cX12_init 186 = .ok (.aload_n 0, 1) := by decide +kernel
theorem dX12_init_187 : decode cX12_init 187 = .ok (.getfield 7, 3) := by decide +kernel
theorem dX12_init_190 : decode cX12_init 190 = .ok (.bipush 56, 2) := by decide +kernel
theorem dX12_init_192 : decode cX12_init 192 = .ok (.iload_n 1, 1) := by decide +kernel
theorem dX12_init_193 : decode cX12_init 193 = .ok (.iadd, 1) := by decide +kernel
theorem dX12_init_194 : decode cX12_init 194 = .ok (.iconst 5, 1) := by decide +kernel
theorem dX12_init_195 : decode cX12_init 195 = .ok (.iastore, 1) := by decide +kernel
theorem dX12_init_196 : decode cX12_init 196 = .ok (.iinc 1 1, 3) := by decide +kernel
theorem dX12_init_199 : decode cX12_init 199 = .ok (.goto (-19), 3) := by decide +kernel
theorem dX12_init_202 : decode cX12_init 202 = .ok (.return_, 1) := by decide +kernel
theorem dX12_isIn_0 : decode cX12_isIn 0 = .ok (.lload_n 0, 1) := by decide +kernel
theorem dX12_isIn_1 : decode cX12_isIn 1 = .ok (.lload_n 2, 1) := by decide +kernel
theorem dX12_isIn_2 : decode cX12_isIn 2 = .ok (.lcmp, 1) := by decide +kernel
theorem dX12_isIn_3 : decode cX12_isIn 3 = .ok (.ifCond .lt 14, 3) := by decide +kernel
theorem dX12_isIn_6 : decode cX12_isIn 6 = .ok (.lload_n 0, 1) := by decide +kernel
theorem dX12_isIn_7 : decode cX12_isIn 7 = .ok (.lload 4, 2) := by decide +kernel
theorem dX12_isIn_9 : decode cX12_isIn 9 = .ok (.lcmp, 1) := by decide +kernel
theorem dX12_isIn_10 : decode cX12_isIn 10 = .ok (.ifCond .gt 7, 3) := by decide +kernel
theorem dX12_isIn_13 : decode cX12_isIn 13 = .ok (.iconst 1, 1) := by decide +kernel
theorem dX12_isIn_14 : decode cX12_isIn 14 = .ok (.goto 4, 3) := by decide +kernel
theorem dX12_isIn_17 : decode cX12_isIn 17 = .ok (.iconst 0, 1) := by decide +kernel
theorem dX12_isIn_18 : decode cX12_isIn 18 = .ok (.ireturn, 1) := by decide +kernel
theorem dX12_isOne_0 : decode cX12_isOne 0 = .ok (.iload_n 1, 1) := by decide +kernel
theorem dX12_isOne_1 : decode cX12_isOne 1 = .ok (.ifCond .lt 17, 3) := by decide +kernel
theorem dX12_isOne_4 : decode cX12_isOne 4 = .ok (.iload_n 1, 1) := by decide +kernel
theorem dX12_isOne_5 : decode cX12_isOne 5 = .ok (.aload_n 0, 1) := by decide +kernel
theorem dX12_isOne_6 : decode cX12_isOne 6 = .ok (.getfield 7, 3) := by decide +kernel
theorem dX12_isOne_9 : decode cX12_isOne 9 = .ok (.iconst 0, 1) := by decide +kernel
theorem dX12_isOne_10 : decode cX12_isOne 10 = .ok (.iaload, 1) := by decide +kernel
theorem dX12_isOne_11 : decode cX12_isOne 11 = .ok (.if_icmp .ge 7, 3) := by decide +kernel
theorem dX12_isOne_14 : decode cX12_isOne 14 = .ok (.iconst 1, 1) := by decide +kernel
theorem dX12_isOne_15 : decode cX12_isOne 15 = .ok (.goto 4, 3) := by decide +kernel
theorem dX12_isOne_18 : decode cX12_isOne 18 = .ok (.iconst 0, 1) := by decide +kernel
theorem dX12_isOne_19 : decode cX12_isOne 19 = .ok (.ireturn, 1) := by decide +kernel
theorem dX12_isStop_0 : decode cX12_isStop 0 = .ok (.iload_n 0, 1) := by decide +kernel
theorem dX12_isStop_1 : decode cX12_isStop 1 = .ok (.ifCond .lt 13, 3) := by decide +kernel
theorem dX12_isStop_4 : decode cX12_isStop 4 = .ok (.iload_n 0, 1) := by decide +kernel
theorem dX12_isStop_5 : decode cX12_isStop 5 = .ok (.bipush 6, 2) := by decide +kernel
theorem dX12_isStop_7 : decode cX12_isStop 7 = .ok (.if_icmp .ge 7, 3) := by decide +kernel
theorem dX12_isStop_10 : decode cX12_isStop 10 = .ok (.iconst 1, 1) := by decide +kernel
theorem dX12_isStop_11 : decode cX12_isStop 11 = .ok (.goto 4, 3) := by decide +kernel
theorem dX12_isStop_14 : decode cX12_isStop 14 = .ok (.iconst 0, 1) := by decide +kernel
theorem dX12_isStop_15 : decode cX12_isStop 15 = .ok (.ireturn, 1) := by decide +kernel
theorem dX12_its_0 : decode cX12_its 0 = .ok (.aload_n 0, 1) := by decide +kernel
theorem dX12_its_1 : decode cX12_its 1 = .ok (.getfield 7, 3) := by decide +kernel
theorem dX12_its_4 : decode cX12_its 4 = .ok (.bipush 8, 2) := by decide +kernel
theorem dX12_its_6 : decode cX12_its 6 = .ok (.bipush 6, 2) := by decide +kernel
theorem dX12_its_8 : decode cX12_its 8 = .ok (.iload_n 1, 1) := by decide +kernel
theorem dX12_its_9 : decode cX12_its 9 = .ok (.imul, 1) := by decide +kernel
theorem dX12_its_10 : decode cX12_its 10 = .ok (.iadd, 1) := by decide +kernel
theorem dX12_its_11 : decode cX12_its 11 = .ok (.iload_n 2, 1) := by decide +kernel
theorem dX12_its_12 : decode cX12_its 12 = .ok (.iadd, 1) := by decide +kernel
theorem dX12_its_13 : decode cX12_its 13 = .ok (.iaload, 1) := by decide +kernel
theorem dX12_its_14 : decode cX12_its 14 = .ok (.ireturn, 1) := by decide +kernel
theorem dX12_becomes_0 : decode cX12_becomes 0 = .ok (.aload_n 0, 1) := by decide +kernel
theorem dX12_becomes_1 : decode cX12_becomes 1 = .ok (.getfield 7, 3) := by decide +kernel
theorem dX12_becomes_4 : decode cX12_becomes 4 = .ok (.iload_n 1, 1) := by decide +kernel
theorem dX12_becomes_5 : decode cX12_becomes 5 = .ok (.iaload, 1) := by decide +kernel
theorem dX12_becomes_6 : decode cX12_becomes 6 = .ok (.istore_n 3, 1) := by decide +kernel
theorem dX12_becomes_7 : decode cX12_becomes 7 = .ok (.aload_n 0, 1) := by decide +kernel
theorem dX12_becomes_8 : decode cX12_becomes 8 = .ok (.getfield 7, 3) := by decide +kernel
theorem dX12_becomes_11 : decode cX12_becomes 11 = .ok (.iload_n 1, 1) := by decide +kernel
theorem dX12_becomes_12 : decode cX12_becomes 12 = .ok (.iload_n 2, 1) := by decide +kernel
theorem dX12_becomes_13 : decode cX12_becomes 13 = .ok (.iastore, 1) := by decide +kernel
theorem dX12_becomes_14 : decode cX12_becomes 14 = .ok (.iload_n 3, 1) := by decide +kernel
theorem dX12_becomes_15 : decode cX12_becomes 15 = .ok (.ireturn, 1) := by decide +kernel
theorem dX12_laysAside_0 : decode cX12_laysAside 0 = .ok (.iconst 0, 1) := by decide +kernel
theorem dX12_laysAside_1 : decode cX12_laysAside 1 = .ok (.istore_n 2, 1) := by decide +kernel
theorem dX12_laysAside_2 : decode cX12_laysAside 2 = .ok (.iload_n 2, 1) := by decide +kernel
theorem dX12_laysAside_3 : decode cX12_laysAside 3 = .ok (.bipush 44, 2) := by decide +kernel
theorem dX12_laysAside_5 : decode cX12_laysAside 5 = .ok (.if_icmp .ge 26, 3) := by decide +kernel
theorem dX12_laysAside_8 : decode cX12_laysAside 8 = .ok (.aload_n 0, 1) := by decide +kernel
theorem dX12_laysAside_9 : decode cX12_laysAside 9 = .ok (.getfield 16, 3) := by decide +kernel
theorem dX12_laysAside_12 : decode cX12_laysAside 12 = .ok (.bipush 44, 2) := by decide +kernel
theorem dX12_laysAside_14 : decode cX12_laysAside 14 = .ok (.iload_n 1, 1) := by decide +kernel
theorem dX12_laysAside_15 : decode cX12_laysAside 15 = .ok (.imul, 1) := by decide +kernel
theorem dX12_laysAside_16 : decode cX12_laysAside 16 = .ok (.iload_n 2, 1) := by decide +kernel
theorem dX12_laysAside_17 : decode cX12_laysAside 17 = .ok (.iadd, 1) := by decide +kernel
theorem dX12_laysAside_18 : decode cX12_laysAside 18 = .ok (.aload_n 0, 1) := by decide +kernel
theorem dX12_laysAside_19 : decode cX12_laysAside 19 = .ok (.getfield 7, 3) := by decide +kernel
theorem dX12_laysAside_22 : decode cX12_laysAside 22 = .ok (.iload_n 2, 1) := by decide +kernel
theorem dX12_laysAside_23 : decode cX12_laysAside 23 = .ok (.iaload, 1) := by decide +kernel
theorem dX12_laysAside_24 : decode cX12_laysAside 24 = .ok (.iastore, 1) := by decide +kernel
theorem dX12_laysAside_25 : decode cX12_laysAside 25 = .ok (.iinc 2 1, 3) := by decide +kernel
theorem dX12_laysAside_28 : decode cX12_laysAside 28 = .ok (.goto (-26), 3) := by decide +kernel
theorem dX12_laysAside_31 : decode cX12_laysAside 31 = .ok (.return_, 1) := by decide +kernel
theorem dX12_laysBack_0 : decode cX12_laysBack 0 = .ok (.iconst 0, 1) := by decide +kernel
theorem dX12_laysBack_1 : decode cX12_laysBack 1 = .ok (.istore_n 2, 1) := by decide +kernel
theorem dX12_laysBack_2 : decode cX12_laysBack 2 = .ok (.iload_n 2, 1) := by decide +kernel
theorem dX12_laysBack_3 : decode cX12_laysBack 3 = .ok (.bipush 44, 2) := by decide +kernel
theorem dX12_laysBack_5 : decode cX12_laysBack 5 = .ok (.if_icmp .ge 26, 3) := by decide +kernel
theorem dX12_laysBack_8 : decode cX12_laysBack 8 = .ok (.aload_n 0, 1) := by decide +kernel
theorem dX12_laysBack_9 : decode cX12_laysBack 9 = .ok (.getfield 7, 3) := by decide +kernel
theorem dX12_laysBack_12 : decode cX12_laysBack 12 = .ok (.iload_n 2, 1) := by decide +kernel
theorem dX12_laysBack_13 : decode cX12_laysBack 13 = .ok (.aload_n 0, 1) := by decide +kernel
theorem dX12_laysBack_14 : decode cX12_laysBack 14 = .ok (.getfield 16, 3) := by decide +kernel
theorem dX12_laysBack_17 : decode cX12_laysBack 17 = .ok (.bipush 44, 2) := by decide +kernel
theorem dX12_laysBack_19 : decode cX12_laysBack 19 = .ok (.iload_n 1, 1) := by decide +kernel
theorem dX12_laysBack_20 : decode cX12_laysBack 20 = .ok (.imul, 1) := by decide +kernel
theorem dX12_laysBack_21 : decode cX12_laysBack 21 = .ok (.iload_n 2, 1) := by decide +kernel
theorem dX12_laysBack_22 : decode cX12_laysBack 22 = .ok (.iadd, 1) := by decide +kernel
theorem dX12_laysBack_23 : decode cX12_laysBack 23 = .ok (.iaload, 1) := by decide +kernel
theorem dX12_laysBack_24 : decode cX12_laysBack 24 = .ok (.iastore, 1) := by decide +kernel
theorem dX12_laysBack_25 : decode cX12_laysBack 25 = .ok (.iinc 2 1, 3) := by decide +kernel
theorem dX12_laysBack_28 : decode cX12_laysBack 28 = .ok (.goto (-26), 3) := by decide +kernel
theorem dX12_laysBack_31 : decode cX12_laysBack 31 = .ok (.return_, 1) := by decide +kernel
theorem dX12_isOver_0 : decode cX12_isOver 0 = .ok (.aload_n 0, 1) := by decide +kernel
theorem dX12_isOver_1 : decode cX12_isOver 1 = .ok (.getfield 7, 3) := by decide +kernel
theorem dX12_isOver_4 : decode cX12_isOver 4 = .ok (.iconst 1, 1) := by decide +kernel
theorem dX12_isOver_5 : decode cX12_isOver 5 = .ok (.iaload, 1) := by decide +kernel
theorem dX12_isOver_6 : decode cX12_isOver 6 = .ok (.aload_n 0, 1) := by decide +kernel
theorem dX12_isOver_7 : decode cX12_isOver 7 = .ok (.getfield 7, 3) := by decide +kernel
theorem dX12_isOver_10 : decode cX12_isOver 10 = .ok (.iconst 2, 1) := by decide +kernel
theorem dX12_isOver_11 : decode cX12_isOver 11 = .ok (.iaload, 1) := by decide +kernel
theorem dX12_isOver_12 : decode cX12_isOver 12 = .ok (.if_icmp .lt 7, 3) := by decide +kernel
theorem dX12_isOver_15 : decode cX12_isOver 15 = .ok (.iconst 1, 1) := by decide +kernel
theorem dX12_isOver_16 : decode cX12_isOver 16 = .ok (.goto 4, 3) := by decide +kernel
theorem dX12_isOver_19 : decode cX12_isOver 19 = .ok (.iconst 0, 1) := by decide +kernel
theorem dX12_isOver_20 : decode cX12_isOver 20 = .ok (.ireturn, 1) := by decide +kernel
theorem dX12_size_0 : decode cX12_size 0 = .ok (.iconst 0, 1) := by decide +kernel
theorem dX12_size_1 : decode cX12_size 1 = .ok (.istore_n 1, 1) := by decide +kernel
theorem dX12_size_2 : decode cX12_size 2 = .ok (.iload_n 0, 1) := by decide +kernel
theorem dX12_size_3 : decode cX12_size 3 = .ok (.istore_n 2, 1) := by decide +kernel
theorem dX12_size_4 : decode cX12_size 4 = .ok (.iload_n 2, 1) := by decide +kernel
theorem dX12_size_5 : decode cX12_size 5 = .ok (.ifCond .eq 15, 3) := by decide +kernel
theorem dX12_size_8 : decode cX12_size 8 = .ok (.iinc 1 1, 3) := by decide +kernel
theorem dX12_size_11 : decode cX12_size 11 = .ok (.iload_n 2, 1) := by decide +kernel
theorem dX12_size_12 : decode cX12_size 12 = .ok (.iload_n 2, 1) := by decide +kernel
theorem dX12_size_13 : decode cX12_size 13 = .ok (.iconst 1, 1) := by decide +kernel
theorem dX12_size_14 : decode cX12_size 14 = .ok (.isub, 1) := by decide +kernel
theorem dX12_size_15 : decode cX12_size 15 = .ok (.iand, 1) := by decide +kernel
theorem dX12_size_16 : decode cX12_size 16 = .ok (.istore_n 2, 1) := by decide +kernel
theorem dX12_size_17 : decode cX12_size 17 = .ok (.goto (-13), 3) := by decide +kernel
theorem dX12_size_20 : decode cX12_size 20 = .ok (.iload_n 1, 1) := by decide +kernel
theorem dX12_size_21 : decode cX12_size 21 = .ok (.ireturn, 1) := by decide +kernel
theorem dX12_least_0 : decode cX12_least 0 = .ok (.iload_n 0, 1) := by decide +kernel
theorem dX12_least_1 : decode cX12_least 1 = .ok (.iload_n 1, 1) := by decide +kernel
theorem dX12_least_2 : decode cX12_least 2 = .ok (.if_icmp .ge 7, 3) := by decide +kernel
theorem dX12_least_5 : decode cX12_least 5 = .ok (.iload_n 0, 1) := by decide +kernel
theorem dX12_least_6 : decode cX12_least 6 = .ok (.goto 4, 3) := by decide +kernel
theorem dX12_least_9 : decode cX12_least 9 = .ok (.iload_n 1, 1) := by decide +kernel
theorem dX12_least_10 : decode cX12_least 10 = .ok (.ireturn, 1) := by decide +kernel
theorem dX12_greatest_0 : decode cX12_greatest 0 = .ok (.iload_n 0, 1) := by decide +kernel
theorem dX12_greatest_1 : decode cX12_greatest 1 = .ok (.iload_n 1, 1) := by decide +kernel
theorem dX12_greatest_2 : decode cX12_greatest 2 = .ok (.if_icmp .le 7, 3) := by decide +kernel
theorem dX12_greatest_5 : decode cX12_greatest 5 = .ok (.iload_n 0, 1) := by decide +kernel
theorem dX12_greatest_6 : decode cX12_greatest 6 = .ok (.goto 4, 3) := by decide +kernel
theorem dX12_greatest_9 : decode cX12_greatest 9 = .ok (.iload_n 1, 1) := by decide +kernel
theorem dX12_greatest_10 : decode cX12_greatest 10 = .ok (.ireturn, 1) := by decide +kernel
theorem dX12_rider_0 : decode cX12_rider 0 = .ok (.iload_n 1, 1) := by decide +kernel
theorem dX12_rider_1 : decode cX12_rider 1 = .ok (.i2l, 1) := by decide +kernel
theorem dX12_rider_2 : decode cX12_rider 2 = .ok (.lconst 1, 1) := by decide +kernel
theorem dX12_rider_3 : decode cX12_rider 3 = .ok (.ldc2_w 64, 3) := by decide +kernel
theorem dX12_rider_6 : decode cX12_rider 6 = .ok (.invokestatic 66, 3) := by decide +kernel
theorem dX12_rider_9 : decode cX12_rider 9 = .ok (.ifCond .eq 35, 3) := by decide +kernel
theorem dX12_rider_12 : decode cX12_rider 12 = .ok (.iload_n 2, 1) := by decide +kernel
theorem dX12_rider_13 : decode cX12_rider 13 = .ok (.i2l, 1) := by decide +kernel
theorem dX12_rider_14 : decode cX12_rider 14 = .ok (.lconst 0, 1) := by decide +kernel
theorem dX12_rider_15 : decode cX12_rider 15 = .ok (.ldc2_w 70, 3) := by decide +kernel
theorem dX12_rider_18 : decode cX12_rider 18 = .ok (.invokestatic 66, 3) := by decide +kernel
theorem dX12_rider_21 : decode cX12_rider 21 = .ok (.ifCond .eq 23, 3) := by decide +kernel
theorem dX12_rider_24 : decode cX12_rider 24 = .ok (.iload_n 3, 1) := by decide +kernel
theorem dX12_rider_25 : decode cX12_rider 25 = .ok (.i2l, 1) := by decide +kernel
theorem dX12_rider_26 : decode cX12_rider 26 = .ok (.lconst 0, 1) := by decide +kernel
theorem dX12_rider_27 : decode cX12_rider 27 = .ok (.ldc2_w 72, 3) := by decide +kernel
theorem dX12_rider_30 : decode cX12_rider 30 = .ok (.invokestatic 66, 3) := by decide +kernel
theorem dX12_rider_33 : decode cX12_rider 33 = .ok (.ifCond .eq 11, 3) := by decide +kernel
theorem dX12_rider_36 : decode cX12_rider 36 = .ok (.iload 4, 2) := by decide +kernel
theorem dX12_rider_38 : decode cX12_rider 38 = .ok (.invokestatic 74, 3) := by decide +kernel
theorem dX12_rider_41 : decode cX12_rider 41 = .ok (.ifCond .ne 5, 3) := by decide +kernel
theorem dX12_rider_44 : decode cX12_rider 44 = .ok (.iconst (-1), 1) := by decide +kernel
theorem dX12_rider_45 : decode cX12_rider 45 = .ok (.ireturn, 1) := by decide +kernel
theorem dX12_rider_46 : decode cX12_rider 46 = .ok (.aload_n 0, 1) := by decide +kernel
theorem dX12_rider_47 : decode cX12_rider 47 = .ok (.getfield 7, 3) := by decide +kernel
theorem dX12_rider_50 : decode cX12_rider 50 = .ok (.iconst 0, 1) := by decide +kernel
theorem dX12_rider_51 : decode cX12_rider 51 = .ok (.iaload, 1) := by decide +kernel
theorem dX12_rider_52 : decode cX12_rider 52 = .ok (.bipush 6, 2) := by decide +kernel
theorem dX12_rider_54 : decode cX12_rider 54 = .ok (.if_icmp .ne 6, 3) := by decide +kernel
theorem dX12_rider_57 : decode cX12_rider 57 = .ok (.bipush (-2), 2) := by decide +kernel
theorem dX12_rider_59 : decode cX12_rider 59 = .ok (.ireturn, 1) := by decide +kernel
theorem dX12_rider_60 : decode cX12_rider 60 = .ok (.bipush 8, 2) := by decide +kernel
theorem dX12_rider_62 : decode cX12_rider 62 = .ok (.bipush 6, 2) := by decide +kernel
theorem dX12_rider_64 : decode cX12_rider 64 = .ok (.aload_n 0, 1) := by decide +kernel
theorem dX12_rider_65 : decode cX12_rider 65 = .ok (.getfield 7, 3) := by decide +kernel
theorem dX12_rider_68 : decode cX12_rider 68 = .ok (.iconst 0, 1) := by decide +kernel
theorem dX12_rider_69 : decode cX12_rider 69 = .ok (.iaload, 1) := by decide +kernel
theorem dX12_rider_70 : decode cX12_rider 70 = .ok (.imul, 1) := by decide +kernel
theorem dX12_rider_71 : decode cX12_rider 71 = .ok (.iadd, 1) := by decide +kernel
theorem dX12_rider_72 : decode cX12_rider 72 = .ok (.istore 5, 2) := by decide +kernel
theorem dX12_rider_74 : decode cX12_rider 74 = .ok (.aload_n 0, 1) := by decide +kernel
theorem dX12_rider_75 : decode cX12_rider 75 = .ok (.getfield 7, 3) := by decide +kernel
theorem dX12_rider_78 : decode cX12_rider 78 = .ok (.iload 5, 2) := by decide +kernel
theorem dX12_rider_80 : decode cX12_rider 80 = .ok (.iload_n 1, 1) := by decide +kernel
theorem dX12_rider_81 : decode cX12_rider 81 = .ok (.iastore, 1) := by decide +kernel
theorem dX12_rider_82 : decode cX12_rider 82 = .ok (.aload_n 0, 1) := by decide +kernel
theorem dX12_rider_83 : decode cX12_rider 83 = .ok (.getfield 7, 3) := by decide +kernel
theorem dX12_rider_86 : decode cX12_rider 86 = .ok (.iload 5, 2) := by decide +kernel
theorem dX12_rider_88 : decode cX12_rider 88 = .ok (.iconst 1, 1) := by decide +kernel
theorem dX12_rider_89 : decode cX12_rider 89 = .ok (.iadd, 1) := by decide +kernel
theorem dX12_rider_90 : decode cX12_rider 90 = .ok (.iload_n 2, 1) := by decide +kernel
theorem dX12_rider_91 : decode cX12_rider 91 = .ok (.iastore, 1) := by decide +kernel
theorem dX12_rider_92 : decode cX12_rider 92 = .ok (.aload_n 0, 1) := by decide +kernel
theorem dX12_rider_93 : decode cX12_rider 93 = .ok (.getfield 7, 3) := by decide +kernel
theorem dX12_rider_96 : decode cX12_rider 96 = .ok (.iload 5, 2) := by decide +kernel
theorem dX12_rider_98 : decode cX12_rider 98 = .ok (.iconst 2, 1) := by decide +kernel
theorem dX12_rider_99 : decode cX12_rider 99 = .ok (.iadd, 1) := by decide +kernel
theorem dX12_rider_100 : decode cX12_rider 100 = .ok (.iload_n 3, 1) := by decide +kernel
theorem dX12_rider_101 : decode cX12_rider 101 = .ok (.iastore, 1) := by decide +kernel
theorem dX12_rider_102 : decode cX12_rider 102 = .ok (.aload_n 0, 1) := by decide +kernel
theorem dX12_rider_103 : decode cX12_rider 103 = .ok (.getfield 7, 3) := by decide +kernel
theorem dX12_rider_106 : decode cX12_rider 106 = .ok (.iload 5, 2) := by decide +kernel
theorem dX12_rider_108 : decode cX12_rider 108 = .ok (.iconst 3, 1) := by decide +kernel
theorem dX12_rider_109 : decode cX12_rider 109 = .ok (.iadd, 1) := by decide +kernel
theorem dX12_rider_110 : decode cX12_rider 110 = .ok (.iload 4, 2) := by decide +kernel
theorem dX12_rider_112 : decode cX12_rider 112 = .ok (.iastore, 1) := by decide +kernel
theorem dX12_rider_113 : decode cX12_rider 113 = .ok (.aload_n 0, 1) := by decide +kernel
theorem dX12_rider_114 : decode cX12_rider 114 = .ok (.getfield 7, 3) := by decide +kernel
theorem dX12_rider_117 : decode cX12_rider 117 = .ok (.iload 5, 2) := by decide +kernel
theorem dX12_rider_119 : decode cX12_rider 119 = .ok (.iconst 4, 1) := by decide +kernel
theorem dX12_rider_120 : decode cX12_rider 120 = .ok (.iadd, 1) := by decide +kernel
theorem dX12_rider_121 : decode cX12_rider 121 = .ok (.iconst 0, 1) := by decide +kernel
theorem dX12_rider_122 : decode cX12_rider 122 = .ok (.iastore, 1) := by decide +kernel
theorem dX12_rider_123 : decode cX12_rider 123 = .ok (.aload_n 0, 1) := by decide +kernel
theorem dX12_rider_124 : decode cX12_rider 124 = .ok (.getfield 7, 3) := by decide +kernel
theorem dX12_rider_127 : decode cX12_rider 127 = .ok (.iload 5, 2) := by decide +kernel
theorem dX12_rider_129 : decode cX12_rider 129 = .ok (.iconst 5, 1) := by decide +kernel
theorem dX12_rider_130 : decode cX12_rider 130 = .ok (.iadd, 1) := by decide +kernel
theorem dX12_rider_131 : decode cX12_rider 131 = .ok (.iload 4, 2) := by decide +kernel
theorem dX12_rider_133 : decode cX12_rider 133 = .ok (.iastore, 1) := by decide +kernel
theorem dX12_rider_134 : decode cX12_rider 134 = .ok (.aload_n 0, 1) := by decide +kernel
theorem dX12_rider_135 : decode cX12_rider 135 = .ok (.getfield 7, 3) := by decide +kernel
theorem dX12_rider_138 : decode cX12_rider 138 = .ok (.iconst 0, 1) := by decide +kernel
theorem dX12_rider_139 : decode cX12_rider 139 = .ok (.dup2, 1) := by decide +kernel
theorem dX12_rider_140 : decode cX12_rider 140 = .ok (.iaload, 1) := by decide +kernel
theorem dX12_rider_141 : decode cX12_rider 141 = .ok (.iconst 1, 1) := by decide +kernel
theorem dX12_rider_142 : decode cX12_rider 142 = .ok (.iadd, 1) := by decide +kernel
theorem dX12_rider_143 : decode cX12_rider 143 = .ok (.iastore, 1) := by decide +kernel
theorem dX12_rider_144 : decode cX12_rider 144 = .ok (.aload_n 0, 1) := by decide +kernel
theorem dX12_rider_145 : decode cX12_rider 145 = .ok (.getfield 7, 3) := by decide +kernel
theorem dX12_rider_148 : decode cX12_rider 148 = .ok (.iconst 0, 1) := by decide +kernel
theorem dX12_rider_149 : decode cX12_rider 149 = .ok (.iaload, 1) := by decide +kernel
theorem dX12_rider_150 : decode cX12_rider 150 = .ok (.iconst 1, 1) := by decide +kernel
theorem dX12_rider_151 : decode cX12_rider 151 = .ok (.isub, 1) := by decide +kernel
theorem dX12_rider_152 : decode cX12_rider 152 = .ok (.ireturn, 1) := by decide +kernel
theorem dX12_crowdOf_0 : decode cX12_crowdOf 0 = .ok (.iload_n 1, 1) := by decide +kernel
theorem dX12_crowdOf_1 : decode cX12_crowdOf 1 = .ok (.bipush 16, 2) := by decide +kernel
theorem dX12_crowdOf_3 : decode cX12_crowdOf 3 = .ok (.if_icmp .ge 15, 3) := by decide +kernel
theorem dX12_crowdOf_6 : decode cX12_crowdOf 6 = .ok (.aload_n 0, 1) := by decide +kernel
theorem dX12_crowdOf_7 : decode cX12_crowdOf 7 = .ok (.getfield 7, 3) := by decide +kernel
theorem dX12_crowdOf_10 : decode cX12_crowdOf 10 = .ok (.bipush 56, 2) := by decide +kernel
theorem dX12_crowdOf_12 : decode cX12_crowdOf 12 = .ok (.iload_n 1, 1) := by decide +kernel
theorem dX12_crowdOf_13 : decode cX12_crowdOf 13 = .ok (.iadd, 1) := by decide +kernel
theorem dX12_crowdOf_14 : decode cX12_crowdOf 14 = .ok (.iaload, 1) := by decide +kernel
theorem dX12_crowdOf_15 : decode cX12_crowdOf 15 = .ok (.goto 4, 3) := by decide +kernel
theorem dX12_crowdOf_18 : decode cX12_crowdOf 18 = .ok (.iconst 0, 1) := by decide +kernel
theorem dX12_crowdOf_19 : decode cX12_crowdOf 19 = .ok (.ireturn, 1) := by decide +kernel
theorem dX12_sinks_0 : decode cX12_sinks 0 = .ok (.iload_n 1, 1) := by decide +kernel
theorem dX12_sinks_1 : decode cX12_sinks 1 = .ok (.iconst 4, 1) := by decide +kernel
theorem dX12_sinks_2 : decode cX12_sinks 2 = .ok (.idiv, 1) := by decide +kernel
theorem dX12_sinks_3 : decode cX12_sinks 3 = .ok (.iload_n 2, 1) := by decide +kernel
theorem dX12_sinks_4 : decode cX12_sinks 4 = .ok (.iadd, 1) := by decide +kernel
theorem dX12_sinks_5 : decode cX12_sinks 5 = .ok (.istore_n 3, 1) := by decide +kernel
theorem dX12_sinks_6 : decode cX12_sinks 6 = .ok (.iload_n 1, 1) := by decide +kernel
theorem dX12_sinks_7 : decode cX12_sinks 7 = .ok (.iconst 4, 1) := by decide +kernel
theorem dX12_sinks_8 : decode cX12_sinks 8 = .ok (.irem, 1) := by decide +kernel
theorem dX12_sinks_9 : decode cX12_sinks 9 = .ok (.istore 4, 2) := by decide +kernel
theorem dX12_sinks_11 : decode cX12_sinks 11 = .ok (.iload_n 0, 1) := by decide +kernel
theorem dX12_sinks_12 : decode cX12_sinks 12 = .ok (.tableswitch 62 1 4 #[32, 43, 47, 53], 32) := by decide +kernel
theorem dX12_sinks_44 : decode cX12_sinks 44 = .ok (.iload 4, 2) := by decide +kernel
theorem dX12_sinks_46 : decode cX12_sinks 46 = .ok (.ifCond .le 7, 3) := by decide +kernel
theorem dX12_sinks_49 : decode cX12_sinks 49 = .ok (.iconst 0, 1) := by decide +kernel
theorem dX12_sinks_50 : decode cX12_sinks 50 = .ok (.goto 4, 3) := by decide +kernel
theorem dX12_sinks_53 : decode cX12_sinks 53 = .ok (.iconst 1, 1) := by decide +kernel
theorem dX12_sinks_54 : decode cX12_sinks 54 = .ok (.ireturn, 1) := by decide +kernel
theorem dX12_sinks_55 : decode cX12_sinks 55 = .ok (.iconst 2, 1) := by decide +kernel
theorem dX12_sinks_56 : decode cX12_sinks 56 = .ok (.iload_n 3, 1) := by decide +kernel
theorem dX12_sinks_57 : decode cX12_sinks 57 = .ok (.imul, 1) := by decide +kernel
theorem dX12_sinks_58 : decode cX12_sinks 58 = .ok (.ireturn, 1) := by decide +kernel
theorem dX12_sinks_59 : decode cX12_sinks 59 = .ok (.iconst 2, 1) := by decide +kernel
theorem dX12_sinks_60 : decode cX12_sinks 60 = .ok (.iload_n 3, 1) := by decide +kernel
theorem dX12_sinks_61 : decode cX12_sinks 61 = .ok (.imul, 1) := by decide +kernel
theorem dX12_sinks_62 : decode cX12_sinks 62 = .ok (.iconst 3, 1) := by decide +kernel
theorem dX12_sinks_63 : decode cX12_sinks 63 = .ok (.iadd, 1) := by decide +kernel
theorem dX12_sinks_64 : decode cX12_sinks 64 = .ok (.ireturn, 1) := by decide +kernel
theorem dX12_sinks_65 : decode cX12_sinks 65 = .ok (.iconst 0, 1) := by decide +kernel
theorem dX12_sinks_66 : decode cX12_sinks 66 = .ok (.iload_n 3, 1) := by decide +kernel
theorem dX12_sinks_67 : decode cX12_sinks 67 = .ok (.iload 4, 2) := by decide +kernel
theorem dX12_sinks_69 : decode cX12_sinks 69 = .ok (.isub, 1) := by decide +kernel
theorem dX12_sinks_70 : decode cX12_sinks 70 = .ok (.invokestatic 78, 3) := by decide +kernel
theorem dX12_sinks_73 : decode cX12_sinks 73 = .ok (.ireturn, 1) := by decide +kernel
theorem dX12_sinks_74 : decode cX12_sinks 74 = .ok (.iconst 0, 1) := by decide +kernel
theorem dX12_sinks_75 : decode cX12_sinks 75 = .ok (.iload_n 3, 1) := by decide +kernel
theorem dX12_sinks_76 : decode cX12_sinks 76 = .ok (.iload 4, 2) := by decide +kernel
theorem dX12_sinks_78 : decode cX12_sinks 78 = .ok (.isub, 1) := by decide +kernel
theorem dX12_sinks_79 : decode cX12_sinks 79 = .ok (.invokestatic 78, 3) := by decide +kernel
theorem dX12_sinks_82 : decode cX12_sinks 82 = .ok (.iconst 2, 1) := by decide +kernel
theorem dX12_sinks_83 : decode cX12_sinks 83 = .ok (.idiv, 1) := by decide +kernel
theorem dX12_sinks_84 : decode cX12_sinks 84 = .ok (.ireturn, 1) := by decide +kernel
theorem dX12_drifts_0 : decode cX12_drifts 0 = .ok (.iload_n 1, 1) := by decide +kernel
theorem dX12_drifts_1 : decode cX12_drifts 1 = .ok (.iconst 2, 1) := by decide +kernel
theorem dX12_drifts_2 : decode cX12_drifts 2 = .ok (.irem, 1) := by decide +kernel
theorem dX12_drifts_3 : decode cX12_drifts 3 = .ok (.istore_n 2, 1) := by decide +kernel
theorem dX12_drifts_4 : decode cX12_drifts 4 = .ok (.iload_n 0, 1) := by decide +kernel
theorem dX12_drifts_5 : decode cX12_drifts 5 = .ok (.tableswitch 43 1 4 #[31, 33, 35, 39], 31) := by decide +kernel
theorem dX12_drifts_36 : decode cX12_drifts 36 = .ok (.iconst 1, 1) := by decide +kernel
theorem dX12_drifts_37 : decode cX12_drifts 37 = .ok (.ireturn, 1) := by decide +kernel
theorem dX12_drifts_38 : decode cX12_drifts 38 = .ok (.iload_n 2, 1) := by decide +kernel
theorem dX12_drifts_39 : decode cX12_drifts 39 = .ok (.ireturn, 1) := by decide +kernel
theorem dX12_drifts_40 : decode cX12_drifts 40 = .ok (.iconst 2, 1) := by decide +kernel
theorem dX12_drifts_41 : decode cX12_drifts 41 = .ok (.iload_n 2, 1) := by decide +kernel
theorem dX12_drifts_42 : decode cX12_drifts 42 = .ok (.imul, 1) := by decide +kernel
theorem dX12_drifts_43 : decode cX12_drifts 43 = .ok (.ireturn, 1) := by decide +kernel
theorem dX12_drifts_44 : decode cX12_drifts 44 = .ok (.iconst 1, 1) := by decide +kernel
theorem dX12_drifts_45 : decode cX12_drifts 45 = .ok (.iload_n 2, 1) := by decide +kernel
theorem dX12_drifts_46 : decode cX12_drifts 46 = .ok (.isub, 1) := by decide +kernel
theorem dX12_drifts_47 : decode cX12_drifts 47 = .ok (.ireturn, 1) := by decide +kernel
theorem dX12_drifts_48 : decode cX12_drifts 48 = .ok (.iconst 1, 1) := by decide +kernel
theorem dX12_drifts_49 : decode cX12_drifts 49 = .ok (.iload_n 2, 1) := by decide +kernel
theorem dX12_drifts_50 : decode cX12_drifts 50 = .ok (.isub, 1) := by decide +kernel
theorem dX12_drifts_51 : decode cX12_drifts 51 = .ok (.iload_n 1, 1) := by decide +kernel
theorem dX12_drifts_52 : decode cX12_drifts 52 = .ok (.bipush 7, 2) := by decide +kernel
theorem dX12_drifts_54 : decode cX12_drifts 54 = .ok (.if_icmp .le 7, 3) := by decide +kernel
theorem dX12_drifts_57 : decode cX12_drifts 57 = .ok (.iconst 2, 1) := by decide +kernel
theorem dX12_drifts_58 : decode cX12_drifts 58 = .ok (.goto 4, 3) := by decide +kernel
theorem dX12_drifts_61 : decode cX12_drifts 61 = .ok (.iconst 0, 1) := by decide +kernel
theorem dX12_drifts_62 : decode cX12_drifts 62 = .ok (.iadd, 1) := by decide +kernel
theorem dX12_drifts_63 : decode cX12_drifts 63 = .ok (.ireturn, 1) := by decide +kernel
theorem dX12_others_0 : decode cX12_others 0 = .ok (.iconst 0, 1) := by decide +kernel
theorem dX12_others_1 : decode cX12_others 1 = .ok (.istore_n 2, 1) := by decide +kernel
theorem dX12_others_2 : decode cX12_others 2 = .ok (.iconst 0, 1) := by decide +kernel
theorem dX12_others_3 : decode cX12_others 3 = .ok (.istore_n 3, 1) := by decide +kernel
theorem dX12_others_4 : decode cX12_others 4 = .ok (.iload_n 3, 1) := by decide +kernel
theorem dX12_others_5 : decode cX12_others 5 = .ok (.aload_n 0, 1) := by decide +kernel
theorem dX12_others_6 : decode cX12_others 6 = .ok (.getfield 7, 3) := by decide +kernel
theorem dX12_others_9 : decode cX12_others 9 = .ok (.iconst 0, 1) := by decide +kernel
theorem dX12_others_10 : decode cX12_others 10 = .ok (.iaload, 1) := by decide +kernel
theorem dX12_others_11 : decode cX12_others 11 = .ok (.if_icmp .ge 46, 3) := by decide +kernel
theorem dX12_others_14 : decode cX12_others 14 = .ok (.iload_n 2, 1) := by decide +kernel
theorem dX12_others_15 : decode cX12_others 15 = .ok (.iload_n 3, 1) := by decide +kernel
theorem dX12_others_16 : decode cX12_others 16 = .ok (.iload_n 1, 1) := by decide +kernel
theorem dX12_others_17 : decode cX12_others 17 = .ok (.if_icmp .eq 31, 3) := by decide +kernel
theorem dX12_others_20 : decode cX12_others 20 = .ok (.aload_n 0, 1) := by decide +kernel
theorem dX12_others_21 : decode cX12_others 21 = .ok (.iload_n 3, 1) := by decide +kernel
theorem dX12_others_22 : decode cX12_others 22 = .ok (.iconst 4, 1) := by decide +kernel
theorem dX12_others_23 : decode cX12_others 23 = .ok (.invokevirtual 82, 3) := by decide +kernel
theorem dX12_others_26 : decode cX12_others 26 = .ok (.ifCond .ne 22, 3) := by decide +kernel
theorem dX12_others_29 : decode cX12_others 29 = .ok (.aload_n 0, 1) := by decide +kernel
theorem dX12_others_30 : decode cX12_others 30 = .ok (.iload_n 3, 1) := by decide +kernel
theorem dX12_others_31 : decode cX12_others 31 = .ok (.iconst 5, 1) := by decide +kernel
theorem dX12_others_32 : decode cX12_others 32 = .ok (.invokevirtual 82, 3) := by decide +kernel
theorem dX12_others_35 : decode cX12_others 35 = .ok (.aload_n 0, 1) := by decide +kernel
theorem dX12_others_36 : decode cX12_others 36 = .ok (.iload_n 1, 1) := by decide +kernel
theorem dX12_others_37 : decode cX12_others 37 = .ok (.iconst 5, 1) := by decide +kernel
theorem dX12_others_38 : decode cX12_others 38 = .ok (.invokevirtual 82, 3) := by decide +kernel
theorem dX12_others_41 : decode cX12_others 41 = .ok (.if_icmp .ne 7, 3) := by decide +kernel
theorem dX12_others_44 : decode cX12_others 44 = .ok (.iconst 1, 1) := by decide +kernel
theorem dX12_others_45 : decode cX12_others 45 = .ok (.goto 4, 3) := by decide +kernel
theorem dX12_others_48 : decode cX12_others 48 = .ok (.iconst 0, 1) := by decide +kernel
theorem dX12_others_49 : decode cX12_others 49 = .ok (.iadd, 1) := by decide +kernel
theorem dX12_others_50 : decode cX12_others 50 = .ok (.istore_n 2, 1) := by decide +kernel
theorem dX12_others_51 : decode cX12_others 51 = .ok (.iinc 3 1, 3) := by decide +kernel
theorem dX12_others_54 : decode cX12_others 54 = .ok (.goto (-50), 3) := by decide +kernel
theorem dX12_others_57 : decode cX12_others 57 = .ok (.iload_n 2, 1) := by decide +kernel
theorem dX12_others_58 : decode cX12_others 58 = .ok (.ireturn, 1) := by decide +kernel
theorem dX12_sunk_0 : decode cX12_sunk 0 = .ok (.aload_n 0, 1) := by decide +kernel
theorem dX12_sunk_1 : decode cX12_sunk 1 = .ok (.iload_n 1, 1) := by decide +kernel
theorem dX12_sunk_2 : decode cX12_sunk 2 = .ok (.iconst 0, 1) := by decide +kernel
theorem dX12_sunk_3 : decode cX12_sunk 3 = .ok (.invokevirtual 82, 3) := by decide +kernel
theorem dX12_sunk_6 : decode cX12_sunk 6 = .ok (.aload_n 0, 1) := by decide +kernel
theorem dX12_sunk_7 : decode cX12_sunk 7 = .ok (.aload_n 0, 1) := by decide +kernel
theorem dX12_sunk_8 : decode cX12_sunk 8 = .ok (.getfield 7, 3) := by decide +kernel
theorem dX12_sunk_11 : decode cX12_sunk 11 = .ok (.iconst 1, 1) := by decide +kernel
theorem dX12_sunk_12 : decode cX12_sunk 12 = .ok (.iaload, 1) := by decide +kernel
theorem dX12_sunk_13 : decode cX12_sunk 13 = .ok (.invokevirtual 85, 3) := by decide +kernel
theorem dX12_sunk_16 : decode cX12_sunk 16 = .ok (.aload_n 0, 1) := by decide +kernel
theorem dX12_sunk_17 : decode cX12_sunk 17 = .ok (.iload_n 1, 1) := by decide +kernel
theorem dX12_sunk_18 : decode cX12_sunk 18 = .ok (.invokevirtual 89, 3) := by decide +kernel
theorem dX12_sunk_21 : decode cX12_sunk 21 = .ok (.invokestatic 92, 3) := by decide +kernel
theorem dX12_sunk_24 : decode cX12_sunk 24 = .ok (.ireturn, 1) := by decide +kernel
theorem dX12_pays_0 : decode cX12_pays 0 = .ok (.aload_n 0, 1) := by decide +kernel
theorem dX12_pays_1 : decode cX12_pays 1 = .ok (.iload_n 1, 1) := by decide +kernel
theorem dX12_pays_2 : decode cX12_pays 2 = .ok (.iconst 2, 1) := by decide +kernel
theorem dX12_pays_3 : decode cX12_pays 3 = .ok (.invokevirtual 82, 3) := by decide +kernel
theorem dX12_pays_6 : decode cX12_pays 6 = .ok (.aload_n 0, 1) := by decide +kernel
theorem dX12_pays_7 : decode cX12_pays 7 = .ok (.getfield 7, 3) := by decide +kernel
theorem dX12_pays_10 : decode cX12_pays 10 = .ok (.bipush 44, 2) := by decide +kernel
theorem dX12_pays_12 : decode cX12_pays 12 = .ok (.aload_n 0, 1) := by decide +kernel
theorem dX12_pays_13 : decode cX12_pays 13 = .ok (.iload_n 1, 1) := by decide +kernel
theorem dX12_pays_14 : decode cX12_pays 14 = .ok (.iconst 5, 1) := by decide +kernel
theorem dX12_pays_15 : decode cX12_pays 15 = .ok (.invokevirtual 82, 3) := by decide +kernel
theorem dX12_pays_18 : decode cX12_pays 18 = .ok (.iadd, 1) := by decide +kernel
theorem dX12_pays_19 : decode cX12_pays 19 = .ok (.iaload, 1) := by decide +kernel
theorem dX12_pays_20 : decode cX12_pays 20 = .ok (.iadd, 1) := by decide +kernel
theorem dX12_pays_21 : decode cX12_pays 21 = .ok (.aload_n 0, 1) := by decide +kernel
theorem dX12_pays_22 : decode cX12_pays 22 = .ok (.iload_n 1, 1) := by decide +kernel
theorem dX12_pays_23 : decode cX12_pays 23 = .ok (.iconst 5, 1) := by decide +kernel
theorem dX12_pays_24 : decode cX12_pays 24 = .ok (.invokevirtual 82, 3) := by decide +kernel
theorem dX12_pays_27 : decode cX12_pays 27 = .ok (.aload_n 0, 1) := by decide +kernel
theorem dX12_pays_28 : decode cX12_pays 28 = .ok (.iload_n 1, 1) := by decide +kernel
theorem dX12_pays_29 : decode cX12_pays 29 = .ok (.iconst 3, 1) := by decide +kernel
theorem dX12_pays_30 : decode cX12_pays 30 = .ok (.invokevirtual 82, 3) := by decide +kernel
theorem dX12_pays_33 : decode cX12_pays 33 = .ok (.if_icmp .ne 8, 3) := by decide +kernel
theorem dX12_pays_36 : decode cX12_pays 36 = .ok (.bipush 9, 2) := by decide +kernel
theorem dX12_pays_38 : decode cX12_pays 38 = .ok (.goto 4, 3) := by decide +kernel
theorem dX12_pays_41 : decode cX12_pays 41 = .ok (.iconst 2, 1) := by decide +kernel
theorem dX12_pays_42 : decode cX12_pays 42 = .ok (.iadd, 1) := by decide +kernel
theorem dX12_pays_43 : decode cX12_pays 43 = .ok (.istore_n 2, 1) := by decide +kernel
theorem dX12_pays_44 : decode cX12_pays 44 = .ok (.aload_n 0, 1) := by decide +kernel
theorem dX12_pays_45 : decode cX12_pays 45 = .ok (.iload_n 1, 1) := by decide +kernel
theorem dX12_pays_46 : decode cX12_pays 46 = .ok (.iconst 4, 1) := by decide +kernel
theorem dX12_pays_47 : decode cX12_pays 47 = .ok (.invokevirtual 82, 3) := by decide +kernel
theorem dX12_pays_50 : decode cX12_pays 50 = .ok (.iconst 1, 1) := by decide +kernel
theorem dX12_pays_51 : decode cX12_pays 51 = .ok (.if_icmp .ne 7, 3) := by decide +kernel
theorem dX12_pays_54 : decode cX12_pays 54 = .ok (.iconst 0, 1) := by decide +kernel
theorem dX12_pays_55 : decode cX12_pays 55 = .ok (.goto 18, 3) := by decide +kernel
theorem dX12_pays_58 : decode cX12_pays 58 = .ok (.iconst 0, 1) := by decide +kernel
theorem dX12_pays_59 : decode cX12_pays 59 = .ok (.iload_n 2, 1) := by decide +kernel
theorem dX12_pays_60 : decode cX12_pays 60 = .ok (.aload_n 0, 1) := by decide +kernel
theorem dX12_pays_61 : decode cX12_pays 61 = .ok (.iload_n 1, 1) := by decide +kernel
theorem dX12_pays_62 : decode cX12_pays 62 = .ok (.iconst 1, 1) := by decide +kernel
theorem dX12_pays_63 : decode cX12_pays 63 = .ok (.invokevirtual 82, 3) := by decide +kernel
theorem dX12_pays_66 : decode cX12_pays 66 = .ok (.bipush 7, 2) := by decide +kernel
theorem dX12_pays_68 : decode cX12_pays 68 = .ok (.idiv, 1) := by decide +kernel
theorem dX12_pays_69 : decode cX12_pays 69 = .ok (.isub, 1) := by decide +kernel
theorem dX12_pays_70 : decode cX12_pays 70 = .ok (.invokestatic 78, 3) := by decide +kernel
theorem dX12_pays_73 : decode cX12_pays 73 = .ok (.ireturn, 1) := by decide +kernel
theorem dX12_isUnder_0 : decode cX12_isUnder 0 = .ok (.iload_n 1, 1) := by decide +kernel
theorem dX12_isUnder_1 : decode cX12_isUnder 1 = .ok (.ifCond .eq 28, 3) := by decide +kernel
theorem dX12_isUnder_4 : decode cX12_isUnder 4 = .ok (.iload_n 0, 1) := by decide +kernel
theorem dX12_isUnder_5 : decode cX12_isUnder 5 = .ok (.iload_n 1, 1) := by decide +kernel
theorem dX12_isUnder_6 : decode cX12_isUnder 6 = .ok (.if_icmp .eq 23, 3) := by decide +kernel
theorem dX12_isUnder_9 : decode cX12_isUnder 9 = .ok (.iload_n 1, 1) := by decide +kernel
theorem dX12_isUnder_10 : decode cX12_isUnder 10 = .ok (.iconst 2, 1) := by decide +kernel
theorem dX12_isUnder_11 : decode cX12_isUnder 11 = .ok (.if_icmp .ne 8, 3) := by decide +kernel
theorem dX12_isUnder_14 : decode cX12_isUnder 14 = .ok (.iload_n 0, 1) := by decide +kernel
theorem dX12_isUnder_15 : decode cX12_isUnder 15 = .ok (.iconst 3, 1) := by decide +kernel
theorem dX12_isUnder_16 : decode cX12_isUnder 16 = .ok (.if_icmp .eq 13, 3) := by decide +kernel
theorem dX12_isUnder_19 : decode cX12_isUnder 19 = .ok (.iload_n 1, 1) := by decide +kernel
theorem dX12_isUnder_20 : decode cX12_isUnder 20 = .ok (.iconst 4, 1) := by decide +kernel
theorem dX12_isUnder_21 : decode cX12_isUnder 21 = .ok (.if_icmp .ne 12, 3) := by decide +kernel
theorem dX12_isUnder_24 : decode cX12_isUnder 24 = .ok (.iload_n 0, 1) := by decide +kernel
theorem dX12_isUnder_25 : decode cX12_isUnder 25 = .ok (.iconst 5, 1) := by decide +kernel
theorem dX12_isUnder_26 : decode cX12_isUnder 26 = .ok (.if_icmp .ne 7, 3) := by decide +kernel
theorem dX12_isUnder_29 : decode cX12_isUnder 29 = .ok (.iconst 1, 1) := by decide +kernel
theorem dX12_isUnder_30 : decode cX12_isUnder 30 = .ok (.goto 4, 3) := by decide +kernel
theorem dX12_isUnder_33 : decode cX12_isUnder 33 = .ok (.iconst 0, 1) := by decide +kernel
theorem dX12_isUnder_34 : decode cX12_isUnder 34 = .ok (.ireturn, 1) := by decide +kernel
theorem dX12_valueOf_0 : decode cX12_valueOf 0 = .ok (.iload_n 1, 1) := by decide +kernel
theorem dX12_valueOf_1 : decode cX12_valueOf 1 = .ok (.sipush 10000, 3) := by decide +kernel
theorem dX12_valueOf_4 : decode cX12_valueOf 4 = .ok (.isub, 1) := by decide +kernel
theorem dX12_valueOf_5 : decode cX12_valueOf 5 = .ok (.tableswitch 71 0 4 #[35, 42, 49, 56, 69], 35) := by decide +kernel
theorem dX12_valueOf_40 : decode cX12_valueOf 40 = .ok (.aload_n 0, 1) := by decide +kernel
theorem dX12_valueOf_41 : decode cX12_valueOf 41 = .ok (.getfield 7, 3) := by decide +kernel
theorem dX12_valueOf_44 : decode cX12_valueOf 44 = .ok (.iconst 1, 1) := by decide +kernel
theorem dX12_valueOf_45 : decode cX12_valueOf 45 = .ok (.iaload, 1) := by decide +kernel
theorem dX12_valueOf_46 : decode cX12_valueOf 46 = .ok (.ireturn, 1) := by decide +kernel
theorem dX12_valueOf_47 : decode cX12_valueOf 47 = .ok (.aload_n 0, 1) := by decide +kernel
theorem dX12_valueOf_48 : decode cX12_valueOf 48 = .ok (.iload_n 2, 1) := by decide +kernel
theorem dX12_valueOf_49 : decode cX12_valueOf 49 = .ok (.iconst 1, 1) := by decide +kernel
theorem dX12_valueOf_50 : decode cX12_valueOf 50 = .ok (.invokevirtual 82, 3) := by decide +kernel
theorem dX12_valueOf_53 : decode cX12_valueOf 53 = .ok (.ireturn, 1) := by decide +kernel
theorem dX12_valueOf_54 : decode cX12_valueOf 54 = .ok (.aload_n 0, 1) := by decide +kernel
theorem dX12_valueOf_55 : decode cX12_valueOf 55 = .ok (.iload_n 2, 1) := by decide +kernel
theorem dX12_valueOf_56 : decode cX12_valueOf 56 = .ok (.iconst 2, 1) := by decide +kernel
theorem dX12_valueOf_57 : decode cX12_valueOf 57 = .ok (.invokevirtual 82, 3) := by decide +kernel
theorem dX12_valueOf_60 : decode cX12_valueOf 60 = .ok (.ireturn, 1) := by decide +kernel
theorem dX12_valueOf_61 : decode cX12_valueOf 61 = .ok (.aload_n 0, 1) := by decide +kernel
theorem dX12_valueOf_62 : decode cX12_valueOf 62 = .ok (.aload_n 0, 1) := by decide +kernel
theorem dX12_valueOf_63 : decode cX12_valueOf 63 = .ok (.getfield 7, 3) := by decide +kernel
theorem dX12_valueOf_66 : decode cX12_valueOf 66 = .ok (.iconst 1, 1) := by decide +kernel
theorem dX12_valueOf_67 : decode cX12_valueOf 67 = .ok (.iaload, 1) := by decide +kernel
theorem dX12_valueOf_68 : decode cX12_valueOf 68 = .ok (.invokevirtual 85, 3) := by decide +kernel
theorem dX12_valueOf_71 : decode cX12_valueOf 71 = .ok (.iconst 4, 1) := by decide +kernel
theorem dX12_valueOf_72 : decode cX12_valueOf 72 = .ok (.idiv, 1) := by decide +kernel
theorem dX12_valueOf_73 : decode cX12_valueOf 73 = .ok (.ireturn, 1) := by decide +kernel
theorem dX12_valueOf_74 : decode cX12_valueOf 74 = .ok (.iload_n 2, 1) := by decide +kernel
theorem dX12_valueOf_75 : decode cX12_valueOf 75 = .ok (.ireturn, 1) := by decide +kernel
theorem dX12_valueOf_76 : decode cX12_valueOf 76 = .ok (.iload_n 1, 1) := by decide +kernel
theorem dX12_valueOf_77 : decode cX12_valueOf 77 = .ok (.ireturn, 1) := by decide +kernel
theorem dX12_holds_0 : decode cX12_holds 0 = .ok (.lconst 1, 1) := by decide +kernel
theorem dX12_holds_1 : decode cX12_holds 1 = .ok (.lstore_n 3, 1) := by decide +kernel
theorem dX12_holds_2 : decode cX12_holds 2 = .ok (.aload_n 0, 1) := by decide +kernel
theorem dX12_holds_3 : decode cX12_holds 3 = .ok (.getfield 7, 3) := by decide +kernel
theorem dX12_holds_6 : decode cX12_holds 6 = .ok (.bipush 72, 2) := by decide +kernel
theorem dX12_holds_8 : decode cX12_holds 8 = .ok (.iconst 4, 1) := by decide +kernel
theorem dX12_holds_9 : decode cX12_holds 9 = .ok (.iload_n 1, 1) := by decide +kernel
theorem dX12_holds_10 : decode cX12_holds 10 = .ok (.imul, 1) := by decide +kernel
theorem dX12_holds_11 : decode cX12_holds 11 = .ok (.iadd, 1) := by decide +kernel
theorem dX12_holds_12 : decode cX12_holds 12 = .ok (.iconst 2, 1) := by decide +kernel
theorem dX12_holds_13 : decode cX12_holds 13 = .ok (.iadd, 1) := by decide +kernel
theorem dX12_holds_14 : decode cX12_holds 14 = .ok (.iaload, 1) := by decide +kernel
theorem dX12_holds_15 : decode cX12_holds 15 = .ok (.istore 5, 2) := by decide +kernel
theorem dX12_holds_17 : decode cX12_holds 17 = .ok (.iload 5, 2) := by decide +kernel
theorem dX12_holds_19 : decode cX12_holds 19 = .ok (.aload_n 0, 1) := by decide +kernel
theorem dX12_holds_20 : decode cX12_holds 20 = .ok (.getfield 7, 3) := by decide +kernel
theorem dX12_holds_23 : decode cX12_holds 23 = .ok (.bipush 72, 2) := by decide +kernel
theorem dX12_holds_25 : decode cX12_holds 25 = .ok (.iconst 4, 1) := by decide +kernel
theorem dX12_holds_26 : decode cX12_holds 26 = .ok (.iload_n 1, 1) := by decide +kernel
theorem dX12_holds_27 : decode cX12_holds 27 = .ok (.imul, 1) := by decide +kernel
theorem dX12_holds_28 : decode cX12_holds 28 = .ok (.iadd, 1) := by decide +kernel
theorem dX12_holds_29 : decode cX12_holds 29 = .ok (.iconst 3, 1) := by decide +kernel
theorem dX12_holds_30 : decode cX12_holds 30 = .ok (.iadd, 1) := by decide +kernel
theorem dX12_holds_31 : decode cX12_holds 31 = .ok (.iaload, 1) := by decide +kernel
theorem dX12_holds_32 : decode cX12_holds 32 = .ok (.if_icmp .ge 203, 3) := by decide +kernel
theorem dX12_holds_35 : decode cX12_holds 35 = .ok (.aload_n 0, 1) := by decide +kernel
theorem dX12_holds_36 : decode cX12_holds 36 = .ok (.getfield 7, 3) := by decide +kernel
theorem dX12_holds_39 : decode cX12_holds 39 = .ok (.sipush 128, 3) := by decide +kernel
theorem dX12_holds_42 : decode cX12_holds 42 = .ok (.iconst 3, 1) := by decide +kernel
theorem dX12_holds_43 : decode cX12_holds 43 = .ok (.iload 5, 2) := by decide +kernel
theorem dX12_holds_45 : decode cX12_holds 45 = .ok (.imul, 1) := by decide +kernel
theorem dX12_holds_46 : decode cX12_holds 46 = .ok (.iadd, 1) := by decide +kernel
theorem dX12_holds_47 : decode cX12_holds 47 = .ok (.iaload, 1) := by decide +kernel
theorem dX12_holds_48 : decode cX12_holds 48 = .ok (.istore 6, 2) := by decide +kernel
theorem dX12_holds_50 : decode cX12_holds 50 = .ok (.iload 6, 2) := by decide +kernel
theorem dX12_holds_52 : decode cX12_holds 52 = .ok (.iconst 3, 1) := by decide +kernel
theorem dX12_holds_53 : decode cX12_holds 53 = .ok (.if_icmp .ge 122, 3) := by decide +kernel
theorem dX12_holds_56 : decode cX12_holds 56 = .ok (.aload_n 0, 1) := by decide +kernel
theorem dX12_holds_57 : decode cX12_holds 57 = .ok (.aload_n 0, 1) := by decide +kernel
theorem dX12_holds_58 : decode cX12_holds 58 = .ok (.getfield 7, 3) := by decide +kernel
theorem dX12_holds_61 : decode cX12_holds 61 = .ok (.sipush 128, 3) := by decide +kernel
theorem dX12_holds_64 : decode cX12_holds 64 = .ok (.iconst 3, 1) := by decide +kernel
theorem dX12_holds_65 : decode cX12_holds 65 = .ok (.iload 5, 2) := by decide +kernel
theorem dX12_holds_67 : decode cX12_holds 67 = .ok (.imul, 1) := by decide +kernel
theorem dX12_holds_68 : decode cX12_holds 68 = .ok (.iadd, 1) := by decide +kernel
theorem dX12_holds_69 : decode cX12_holds 69 = .ok (.iconst 1, 1) := by decide +kernel
theorem dX12_holds_70 : decode cX12_holds 70 = .ok (.iadd, 1) := by decide +kernel
theorem dX12_holds_71 : decode cX12_holds 71 = .ok (.iaload, 1) := by decide +kernel
theorem dX12_holds_72 : decode cX12_holds 72 = .ok (.iload_n 2, 1) := by decide +kernel
theorem dX12_holds_73 : decode cX12_holds 73 = .ok (.invokevirtual 96, 3) := by decide +kernel
theorem dX12_holds_76 : decode cX12_holds 76 = .ok (.istore 7, 2) := by decide +kernel
theorem dX12_holds_78 : decode cX12_holds 78 = .ok (.aload_n 0, 1) := by decide +kernel
theorem dX12_holds_79 : decode cX12_holds 79 = .ok (.aload_n 0, 1) := by decide +kernel
theorem dX12_holds_80 : decode cX12_holds 80 = .ok (.getfield 7, 3) := by decide +kernel
theorem dX12_holds_83 : decode cX12_holds 83 = .ok (.sipush 128, 3) := by decide +kernel
theorem dX12_holds_86 : decode cX12_holds 86 = .ok (.iconst 3, 1) := by decide +kernel
theorem dX12_holds_87 : decode cX12_holds 87 = .ok (.iload 5, 2) := by decide +kernel
theorem dX12_holds_89 : decode cX12_holds 89 = .ok (.imul, 1) := by decide +kernel
theorem dX12_holds_90 : decode cX12_holds 90 = .ok (.iadd, 1) := by decide +kernel
theorem dX12_holds_91 : decode cX12_holds 91 = .ok (.iconst 2, 1) := by decide +kernel
theorem dX12_holds_92 : decode cX12_holds 92 = .ok (.iadd, 1) := by decide +kernel
theorem dX12_holds_93 : decode cX12_holds 93 = .ok (.iaload, 1) := by decide +kernel
theorem dX12_holds_94 : decode cX12_holds 94 = .ok (.iload_n 2, 1) := by decide +kernel
theorem dX12_holds_95 : decode cX12_holds 95 = .ok (.invokevirtual 96, 3) := by decide +kernel
theorem dX12_holds_98 : decode cX12_holds 98 = .ok (.istore 8, 2) := by decide +kernel
theorem dX12_holds_100 : decode cX12_holds 100 = .ok (.iload 6, 2) := by decide +kernel
theorem dX12_holds_102 : decode cX12_holds 102 = .ok (.ifCond .ne 18, 3) := by decide +kernel
theorem dX12_holds_105 : decode cX12_holds 105 = .ok (.iload 7, 2) := by decide +kernel
theorem dX12_holds_107 : decode cX12_holds 107 = .ok (.iload 8, 2) := by decide +kernel
theorem dX12_holds_109 : decode cX12_holds 109 = .ok (.if_icmp .ge 7, 3) := by decide +kernel
theorem dX12_holds_112 : decode cX12_holds 112 = .ok (.iconst 1, 1) := by decide +kernel
theorem dX12_holds_113 : decode cX12_holds 113 = .ok (.goto 40, 3) := by decide +kernel
theorem dX12_holds_116 : decode cX12_holds 116 = .ok (.iconst 0, 1) := by decide +kernel
theorem dX12_holds_117 : decode cX12_holds 117 = .ok (.goto 36, 3) := by decide +kernel
theorem dX12_holds_120 : decode cX12_holds 120 = .ok (.iload 6, 2) := by decide +kernel
theorem dX12_holds_122 : decode cX12_holds 122 = .ok (.iconst 1, 1) := by decide +kernel
theorem dX12_holds_123 : decode cX12_holds 123 = .ok (.if_icmp .ne 18, 3) := by decide +kernel
theorem dX12_holds_126 : decode cX12_holds 126 = .ok (.iload 7, 2) := by decide +kernel
theorem dX12_holds_128 : decode cX12_holds 128 = .ok (.iload 8, 2) := by decide +kernel
theorem dX12_holds_130 : decode cX12_holds 130 = .ok (.if_icmp .ne 7, 3) := by decide +kernel
theorem dX12_holds_133 : decode cX12_holds 133 = .ok (.iconst 1, 1) := by decide +kernel
theorem dX12_holds_134 : decode cX12_holds 134 = .ok (.goto 19, 3) := by decide +kernel
theorem dX12_holds_137 : decode cX12_holds 137 = .ok (.iconst 0, 1) := by decide +kernel
theorem dX12_holds_138 : decode cX12_holds 138 = .ok (.goto 15, 3) := by decide +kernel
theorem dX12_holds_141 : decode cX12_holds 141 = .ok (.iload 7, 2) := by decide +kernel
theorem dX12_holds_143 : decode cX12_holds 143 = .ok (.iload 8, 2) := by decide +kernel
theorem dX12_holds_145 : decode cX12_holds 145 = .ok (.if_icmp .le 7, 3) := by decide +kernel
theorem dX12_holds_148 : decode cX12_holds 148 = .ok (.iconst 1, 1) := by decide +kernel
theorem dX12_holds_149 : decode cX12_holds 149 = .ok (.goto 4, 3) := by decide +kernel
theorem dX12_holds_152 : decode cX12_holds 152 = .ok (.iconst 0, 1) := by decide +kernel
theorem dX12_holds_153 : decode cX12_holds 153 = .ok (.istore 9, 2) := by decide +kernel
theorem dX12_holds_155 : decode cX12_holds 155 = .ok (.ldc2_w 99, 3) := by decide +kernel
theorem dX12_holds_158 : decode cX12_holds 158 = .ok (.lload_n 3, 1) := by decide +kernel
theorem dX12_holds_159 : decode cX12_holds 159 = .ok (.lmul, 1) := by decide +kernel
theorem dX12_holds_160 : decode cX12_holds 160 = .ok (.iload 9, 2) := by decide +kernel
theorem dX12_holds_162 : decode cX12_holds 162 = .ok (.ifCond .eq 7, 3) := by decide +kernel
theorem dX12_holds_165 : decode cX12_holds 165 = .ok (.lconst 1, 1) := by decide +kernel
theorem dX12_holds_166 : decode cX12_holds 166 = .ok (.goto 4, 3) := by decide +kernel
theorem dX12_holds_169 : decode cX12_holds 169 = .ok (.lconst 0, 1) := by decide +kernel
theorem dX12_holds_170 : decode cX12_holds 170 = .ok (.ladd, 1) := by decide +kernel
theorem dX12_holds_171 : decode cX12_holds 171 = .ok (.lstore_n 3, 1) := by decide +kernel
theorem dX12_holds_172 : decode cX12_holds 172 = .ok (.goto 57, 3) := by decide +kernel
theorem dX12_holds_175 : decode cX12_holds 175 = .ok (.iload 6, 2) := by decide +kernel
theorem dX12_holds_177 : decode cX12_holds 177 = .ok (.iconst 3, 1) := by decide +kernel
theorem dX12_holds_178 : decode cX12_holds 178 = .ok (.if_icmp .ne 10, 3) := by decide +kernel
theorem dX12_holds_181 : decode cX12_holds 181 = .ok (.lload_n 3, 1) := by decide +kernel
theorem dX12_holds_182 : decode cX12_holds 182 = .ok (.lconst 1, 1) := by decide +kernel
theorem dX12_holds_183 : decode cX12_holds 183 = .ok (.lxor, 1) := by decide +kernel
theorem dX12_holds_184 : decode cX12_holds 184 = .ok (.lstore_n 3, 1) := by decide +kernel
theorem dX12_holds_185 : decode cX12_holds 185 = .ok (.goto 44, 3) := by decide +kernel
theorem dX12_holds_188 : decode cX12_holds 188 = .ok (.lload_n 3, 1) := by decide +kernel
theorem dX12_holds_189 : decode cX12_holds 189 = .ok (.lconst 1, 1) := by decide +kernel
theorem dX12_holds_190 : decode cX12_holds 190 = .ok (.land, 1) := by decide +kernel
theorem dX12_holds_191 : decode cX12_holds 191 = .ok (.lstore 7, 2) := by decide +kernel
theorem dX12_holds_193 : decode cX12_holds 193 = .ok (.lload_n 3, 1) := by decide +kernel
theorem dX12_holds_194 : decode cX12_holds 194 = .ok (.ldc2_w 99, 3) := by decide +kernel
theorem dX12_holds_197 : decode cX12_holds 197 = .ok (.ldiv, 1) := by decide +kernel
theorem dX12_holds_198 : decode cX12_holds 198 = .ok (.lstore_n 3, 1) := by decide +kernel
theorem dX12_holds_199 : decode cX12_holds 199 = .ok (.iload 6, 2) := by decide +kernel
theorem dX12_holds_201 : decode cX12_holds 201 = .ok (.iconst 4, 1) := by decide +kernel
theorem dX12_holds_202 : decode cX12_holds 202 = .ok (.if_icmp .eq 10, 3) := by decide +kernel
theorem dX12_holds_205 : decode cX12_holds 205 = .ok (.lload_n 3, 1) := by decide +kernel
theorem dX12_holds_206 : decode cX12_holds 206 = .ok (.lload 7, 2) := by decide +kernel
theorem dX12_holds_208 : decode cX12_holds 208 = .ok (.lor, 1) := by decide +kernel
theorem dX12_holds_209 : decode cX12_holds 209 = .ok (.goto 19, 3) := by decide +kernel
theorem dX12_holds_212 : decode cX12_holds 212 = .ok (.lload 7, 2) := by decide +kernel
theorem dX12_holds_214 : decode cX12_holds 214 = .ok (.lconst 1, 1) := by decide +kernel
theorem dX12_holds_215 : decode cX12_holds 215 = .ok (.lcmp, 1) := by decide +kernel
theorem dX12_holds_216 : decode cX12_holds 216 = .ok (.ifCond .ne 7, 3) := by decide +kernel
theorem dX12_holds_219 : decode cX12_holds 219 = .ok (.lload_n 3, 1) := by decide +kernel
theorem dX12_holds_220 : decode cX12_holds 220 = .ok (.goto 8, 3) := by decide +kernel
theorem dX12_holds_223 : decode cX12_holds 223 = .ok (.lload_n 3, 1) := by decide +kernel
theorem dX12_holds_224 : decode cX12_holds 224 = .ok (.ldc2_w 101, 3) := by decide +kernel
theorem dX12_holds_227 : decode cX12_holds 227 = .ok (.land, 1) := by decide +kernel
theorem dX12_holds_228 : decode cX12_holds 228 = .ok (.lstore_n 3, 1) := by decide +kernel
theorem dX12_holds_229 : decode cX12_holds 229 = .ok (.iinc 5 1, 3) := by decide +kernel
theorem dX12_holds_232 : decode cX12_holds 232 = .ok (.goto (-215), 3) := by decide +kernel
theorem dX12_holds_235 : decode cX12_holds 235 = .ok (.lload_n 3, 1) := by decide +kernel
theorem dX12_holds_236 : decode cX12_holds 236 = .ok (.ldc2_w 99, 3) := by decide +kernel
theorem dX12_holds_239 : decode cX12_holds 239 = .ok (.lrem, 1) := by decide +kernel
theorem dX12_holds_240 : decode cX12_holds 240 = .ok (.lconst 1, 1) := by decide +kernel
theorem dX12_holds_241 : decode cX12_holds 241 = .ok (.lcmp, 1) := by decide +kernel
theorem dX12_holds_242 : decode cX12_holds 242 = .ok (.ifCond .ne 7, 3) := by decide +kernel
theorem dX12_holds_245 : decode cX12_holds 245 = .ok (.iconst 1, 1) := by decide +kernel
theorem dX12_holds_246 : decode cX12_holds 246 = .ok (.goto 4, 3) := by decide +kernel
theorem dX12_holds_249 : decode cX12_holds 249 = .ok (.iconst 0, 1) := by decide +kernel
theorem dX12_holds_250 : decode cX12_holds 250 = .ok (.ireturn, 1) := by decide +kernel
theorem dX12_will_0 : decode cX12_will 0 = .ok (.iconst 0, 1) := by decide +kernel
theorem dX12_will_1 : decode cX12_will 1 = .ok (.istore_n 2, 1) := by decide +kernel
theorem dX12_will_2 : decode cX12_will 2 = .ok (.iload_n 2, 1) := by decide +kernel
theorem dX12_will_3 : decode cX12_will 3 = .ok (.aload_n 0, 1) := by decide +kernel
theorem dX12_will_4 : decode cX12_will 4 = .ok (.getfield 7, 3) := by decide +kernel
theorem dX12_will_7 : decode cX12_will 7 = .ok (.iconst 5, 1) := by decide +kernel
theorem dX12_will_8 : decode cX12_will 8 = .ok (.iaload, 1) := by decide +kernel
theorem dX12_will_9 : decode cX12_will 9 = .ok (.if_icmp .ge 55, 3) := by decide +kernel
theorem dX12_will_12 : decode cX12_will 12 = .ok (.aload_n 0, 1) := by decide +kernel
theorem dX12_will_13 : decode cX12_will 13 = .ok (.iload_n 1, 1) := by decide +kernel
theorem dX12_will_14 : decode cX12_will 14 = .ok (.iconst 0, 1) := by decide +kernel
theorem dX12_will_15 : decode cX12_will 15 = .ok (.invokevirtual 82, 3) := by decide +kernel
theorem dX12_will_18 : decode cX12_will 18 = .ok (.aload_n 0, 1) := by decide +kernel
theorem dX12_will_19 : decode cX12_will 19 = .ok (.getfield 7, 3) := by decide +kernel
theorem dX12_will_22 : decode cX12_will 22 = .ok (.bipush 72, 2) := by decide +kernel
theorem dX12_will_24 : decode cX12_will 24 = .ok (.iconst 4, 1) := by decide +kernel
theorem dX12_will_25 : decode cX12_will 25 = .ok (.iload_n 2, 1) := by decide +kernel
theorem dX12_will_26 : decode cX12_will 26 = .ok (.imul, 1) := by decide +kernel
theorem dX12_will_27 : decode cX12_will 27 = .ok (.iadd, 1) := by decide +kernel
theorem dX12_will_28 : decode cX12_will 28 = .ok (.iaload, 1) := by decide +kernel
theorem dX12_will_29 : decode cX12_will 29 = .ok (.invokestatic 103, 3) := by decide +kernel
theorem dX12_will_32 : decode cX12_will 32 = .ok (.ifCond .eq 26, 3) := by decide +kernel
theorem dX12_will_35 : decode cX12_will 35 = .ok (.aload_n 0, 1) := by decide +kernel
theorem dX12_will_36 : decode cX12_will 36 = .ok (.iload_n 2, 1) := by decide +kernel
theorem dX12_will_37 : decode cX12_will 37 = .ok (.iload_n 1, 1) := by decide +kernel
theorem dX12_will_38 : decode cX12_will 38 = .ok (.invokevirtual 107, 3) := by decide +kernel
theorem dX12_will_41 : decode cX12_will 41 = .ok (.ifCond .eq 17, 3) := by decide +kernel
theorem dX12_will_44 : decode cX12_will 44 = .ok (.aload_n 0, 1) := by decide +kernel
theorem dX12_will_45 : decode cX12_will 45 = .ok (.getfield 7, 3) := by decide +kernel
theorem dX12_will_48 : decode cX12_will 48 = .ok (.bipush 72, 2) := by decide +kernel
theorem dX12_will_50 : decode cX12_will 50 = .ok (.iconst 4, 1) := by decide +kernel
theorem dX12_will_51 : decode cX12_will 51 = .ok (.iload_n 2, 1) := by decide +kernel
theorem dX12_will_52 : decode cX12_will 52 = .ok (.imul, 1) := by decide +kernel
theorem dX12_will_53 : decode cX12_will 53 = .ok (.iadd, 1) := by decide +kernel
theorem dX12_will_54 : decode cX12_will 54 = .ok (.iconst 1, 1) := by decide +kernel
theorem dX12_will_55 : decode cX12_will 55 = .ok (.iadd, 1) := by decide +kernel
theorem dX12_will_56 : decode cX12_will 56 = .ok (.iaload, 1) := by decide +kernel
theorem dX12_will_57 : decode cX12_will 57 = .ok (.ireturn, 1) := by decide +kernel
theorem dX12_will_58 : decode cX12_will 58 = .ok (.iinc 2 1, 3) := by decide +kernel
theorem dX12_will_61 : decode cX12_will 61 = .ok (.goto (-59), 3) := by decide +kernel
theorem dX12_will_64 : decode cX12_will 64 = .ok (.iconst 0, 1) := by decide +kernel
theorem dX12_will_65 : decode cX12_will 65 = .ok (.ireturn, 1) := by decide +kernel
theorem dX12_mayBe_0 : decode cX12_mayBe 0 = .ok (.aload_n 0, 1) := by decide +kernel
theorem dX12_mayBe_1 : decode cX12_mayBe 1 = .ok (.iload_n 1, 1) := by decide +kernel
theorem dX12_mayBe_2 : decode cX12_mayBe 2 = .ok (.invokevirtual 110, 3) := by decide +kernel
theorem dX12_mayBe_5 : decode cX12_mayBe 5 = .ok (.ifCond .le 15, 3) := by decide +kernel
theorem dX12_mayBe_8 : decode cX12_mayBe 8 = .ok (.aload_n 0, 1) := by decide +kernel
theorem dX12_mayBe_9 : decode cX12_mayBe 9 = .ok (.iload_n 1, 1) := by decide +kernel
theorem dX12_mayBe_10 : decode cX12_mayBe 10 = .ok (.invokevirtual 113, 3) := by decide +kernel
theorem dX12_mayBe_13 : decode cX12_mayBe 13 = .ok (.ifCond .ne 7, 3) := by decide +kernel
theorem dX12_mayBe_16 : decode cX12_mayBe 16 = .ok (.iconst 1, 1) := by decide +kernel
theorem dX12_mayBe_17 : decode cX12_mayBe 17 = .ok (.goto 4, 3) := by decide +kernel
theorem dX12_mayBe_20 : decode cX12_mayBe 20 = .ok (.iconst 0, 1) := by decide +kernel
theorem dX12_mayBe_21 : decode cX12_mayBe 21 = .ok (.ireturn, 1) := by decide +kernel
theorem dX12_riderOf_0 : decode cX12_riderOf 0 = .ok (.aload_n 0, 1) := by decide +kernel
theorem dX12_riderOf_1 : decode cX12_riderOf 1 = .ok (.iload_n 1, 1) := by decide +kernel
theorem dX12_riderOf_2 : decode cX12_riderOf 2 = .ok (.invokevirtual 116, 3) := by decide +kernel
theorem dX12_riderOf_5 : decode cX12_riderOf 5 = .ok (.ifCond .eq 15, 3) := by decide +kernel
theorem dX12_riderOf_8 : decode cX12_riderOf 8 = .ok (.iload_n 2, 1) := by decide +kernel
theorem dX12_riderOf_9 : decode cX12_riderOf 9 = .ok (.i2l, 1) := by decide +kernel
theorem dX12_riderOf_10 : decode cX12_riderOf 10 = .ok (.lconst 0, 1) := by decide +kernel
theorem dX12_riderOf_11 : decode cX12_riderOf 11 = .ok (.ldc2_w 119, 3) := by decide +kernel
theorem dX12_riderOf_14 : decode cX12_riderOf 14 = .ok (.invokestatic 66, 3) := by decide +kernel
theorem dX12_riderOf_17 : decode cX12_riderOf 17 = .ok (.ifCond .ne 5, 3) := by decide +kernel
theorem dX12_riderOf_20 : decode cX12_riderOf 20 = .ok (.iconst (-1), 1) := by decide +kernel
theorem dX12_riderOf_21 : decode cX12_riderOf 21 = .ok (.ireturn, 1) := by decide +kernel
theorem dX12_riderOf_22 : decode cX12_riderOf 22 = .ok (.iload_n 2, 1) := by decide +kernel
theorem dX12_riderOf_23 : decode cX12_riderOf 23 = .ok (.tableswitch 81 6 10 #[33, 39, 55, 61, 75], 33) := by decide +kernel
theorem dX12_riderOf_56 : decode cX12_riderOf 56 = .ok (.aload_n 0, 1) := by decide +kernel
theorem dX12_riderOf_57 : decode cX12_riderOf 57 = .ok (.iload_n 1, 1) := by decide +kernel
theorem dX12_riderOf_58 : decode cX12_riderOf 58 = .ok (.invokevirtual 121, 3) := by decide +kernel
theorem dX12_riderOf_61 : decode cX12_riderOf 61 = .ok (.ireturn, 1) := by decide +kernel
theorem dX12_riderOf_62 : decode cX12_riderOf 62 = .ok (.aload_n 0, 1) := by decide +kernel
theorem dX12_riderOf_63 : decode cX12_riderOf 63 = .ok (.iload_n 1, 1) := by decide +kernel
theorem dX12_riderOf_64 : decode cX12_riderOf 64 = .ok (.iconst 0, 1) := by decide +kernel
theorem dX12_riderOf_65 : decode cX12_riderOf 65 = .ok (.invokevirtual 82, 3) := by decide +kernel
theorem dX12_riderOf_68 : decode cX12_riderOf 68 = .ok (.aload_n 0, 1) := by decide +kernel
theorem dX12_riderOf_69 : decode cX12_riderOf 69 = .ok (.getfield 7, 3) := by decide +kernel
theorem dX12_riderOf_72 : decode cX12_riderOf 72 = .ok (.iconst 1, 1) := by decide +kernel
theorem dX12_riderOf_73 : decode cX12_riderOf 73 = .ok (.iaload, 1) := by decide +kernel
theorem dX12_riderOf_74 : decode cX12_riderOf 74 = .ok (.invokestatic 124, 3) := by decide +kernel
theorem dX12_riderOf_77 : decode cX12_riderOf 77 = .ok (.ireturn, 1) := by decide +kernel
theorem dX12_riderOf_78 : decode cX12_riderOf 78 = .ok (.aload_n 0, 1) := by decide +kernel
theorem dX12_riderOf_79 : decode cX12_riderOf 79 = .ok (.iload_n 1, 1) := by decide +kernel
theorem dX12_riderOf_80 : decode cX12_riderOf 80 = .ok (.invokevirtual 110, 3) := by decide +kernel
theorem dX12_riderOf_83 : decode cX12_riderOf 83 = .ok (.ireturn, 1) := by decide +kernel
theorem dX12_riderOf_84 : decode cX12_riderOf 84 = .ok (.aload_n 0, 1) := by decide +kernel
theorem dX12_riderOf_85 : decode cX12_riderOf 85 = .ok (.iload_n 1, 1) := by decide +kernel
theorem dX12_riderOf_86 : decode cX12_riderOf 86 = .ok (.invokevirtual 127, 3) := by decide +kernel
theorem dX12_riderOf_89 : decode cX12_riderOf 89 = .ok (.ifCond .eq 7, 3) := by decide +kernel
theorem dX12_riderOf_92 : decode cX12_riderOf 92 = .ok (.iconst 1, 1) := by decide +kernel
theorem dX12_riderOf_93 : decode cX12_riderOf 93 = .ok (.goto 4, 3) := by decide +kernel
theorem dX12_riderOf_96 : decode cX12_riderOf 96 = .ok (.iconst 0, 1) := by decide +kernel
theorem dX12_riderOf_97 : decode cX12_riderOf 97 = .ok (.ireturn, 1) := by decide +kernel
theorem dX12_riderOf_98 : decode cX12_riderOf 98 = .ok (.aload_n 0, 1) := by decide +kernel
theorem dX12_riderOf_99 : decode cX12_riderOf 99 = .ok (.iload_n 1, 1) := by decide +kernel
theorem dX12_riderOf_100 : decode cX12_riderOf 100 = .ok (.invokevirtual 113, 3) := by decide +kernel
theorem dX12_riderOf_103 : decode cX12_riderOf 103 = .ok (.ireturn, 1) := by decide +kernel
theorem dX12_riderOf_104 : decode cX12_riderOf 104 = .ok (.aload_n 0, 1) := by decide +kernel
theorem dX12_riderOf_105 : decode cX12_riderOf 105 = .ok (.iload_n 1, 1) := by decide +kernel
theorem dX12_riderOf_106 : decode cX12_riderOf 106 = .ok (.iload_n 2, 1) := by decide +kernel
theorem dX12_riderOf_107 : decode cX12_riderOf 107 = .ok (.invokevirtual 82, 3) := by decide +kernel
theorem dX12_riderOf_110 : decode cX12_riderOf 110 = .ok (.ireturn, 1) := by decide +kernel
theorem dX12_greatestOf_0 : decode cX12_greatestOf 0 = .ok (.iload_n 0, 1) := by decide +kernel
theorem dX12_greatestOf_1 : decode cX12_greatestOf 1 = .ok (.iconst 1, 1) := by decide +kernel
theorem dX12_greatestOf_2 : decode cX12_greatestOf 2 = .ok (.if_icmp .ne 8, 3) := by decide +kernel
theorem dX12_greatestOf_5 : decode cX12_greatestOf 5 = .ok (.bipush 99, 2) := by decide +kernel
theorem dX12_greatestOf_7 : decode cX12_greatestOf 7 = .ok (.goto 23, 3) := by decide +kernel
theorem dX12_greatestOf_10 : decode cX12_greatestOf 10 = .ok (.iload_n 0, 1) := by decide +kernel
theorem dX12_greatestOf_11 : decode cX12_greatestOf 11 = .ok (.iconst 2, 1) := by decide +kernel
theorem dX12_greatestOf_12 : decode cX12_greatestOf 12 = .ok (.if_icmp .ne 8, 3) := by decide +kernel
theorem dX12_greatestOf_15 : decode cX12_greatestOf 15 = .ok (.bipush 9, 2) := by decide +kernel
theorem dX12_greatestOf_17 : decode cX12_greatestOf 17 = .ok (.goto 13, 3) := by decide +kernel
theorem dX12_greatestOf_20 : decode cX12_greatestOf 20 = .ok (.iload_n 0, 1) := by decide +kernel
theorem dX12_greatestOf_21 : decode cX12_greatestOf 21 = .ok (.iconst 4, 1) := by decide +kernel
theorem dX12_greatestOf_22 : decode cX12_greatestOf 22 = .ok (.if_icmp .ne 7, 3) := by decide +kernel
theorem dX12_greatestOf_25 : decode cX12_greatestOf 25 = .ok (.iconst 1, 1) := by decide +kernel
theorem dX12_greatestOf_26 : decode cX12_greatestOf 26 = .ok (.goto 4, 3) := by decide +kernel
theorem dX12_greatestOf_29 : decode cX12_greatestOf 29 = .ok (.iconst 5, 1) := by decide +kernel
theorem dX12_greatestOf_30 : decode cX12_greatestOf 30 = .ok (.ireturn, 1) := by decide +kernel
theorem dX12_change_0 : decode cX12_change 0 = .ok (.aload_n 0, 1) := by decide +kernel
theorem dX12_change_1 : decode cX12_change 1 = .ok (.iload_n 1, 1) := by decide +kernel
theorem dX12_change_2 : decode cX12_change 2 = .ok (.invokevirtual 116, 3) := by decide +kernel
theorem dX12_change_5 : decode cX12_change 5 = .ok (.ifCond .eq 33, 3) := by decide +kernel
theorem dX12_change_8 : decode cX12_change 8 = .ok (.iload_n 2, 1) := by decide +kernel
theorem dX12_change_9 : decode cX12_change 9 = .ok (.i2l, 1) := by decide +kernel
theorem dX12_change_10 : decode cX12_change 10 = .ok (.lconst 1, 1) := by decide +kernel
theorem dX12_change_11 : decode cX12_change 11 = .ok (.ldc2_w 64, 3) := by decide +kernel
theorem dX12_change_14 : decode cX12_change 14 = .ok (.invokestatic 66, 3) := by decide +kernel
theorem dX12_change_17 : decode cX12_change 17 = .ok (.ifCond .eq 21, 3) := by decide +kernel
theorem dX12_change_20 : decode cX12_change 20 = .ok (.iload_n 3, 1) := by decide +kernel
theorem dX12_change_21 : decode cX12_change 21 = .ok (.i2l, 1) := by decide +kernel
theorem dX12_change_22 : decode cX12_change 22 = .ok (.lconst 0, 1) := by decide +kernel
theorem dX12_change_23 : decode cX12_change 23 = .ok (.iload_n 2, 1) := by decide +kernel
theorem dX12_change_24 : decode cX12_change 24 = .ok (.invokestatic 130, 3) := by decide +kernel
theorem dX12_change_27 : decode cX12_change 27 = .ok (.i2l, 1) := by decide +kernel
theorem dX12_change_28 : decode cX12_change 28 = .ok (.invokestatic 66, 3) := by decide +kernel
theorem dX12_change_31 : decode cX12_change 31 = .ok (.ifCond .eq 7, 3) := by decide +kernel
theorem dX12_change_34 : decode cX12_change 34 = .ok (.iconst 1, 1) := by decide +kernel
theorem dX12_change_35 : decode cX12_change 35 = .ok (.goto 4, 3) := by decide +kernel
theorem dX12_change_38 : decode cX12_change 38 = .ok (.iconst 0, 1) := by decide +kernel
theorem dX12_change_39 : decode cX12_change 39 = .ok (.istore 4, 2) := by decide +kernel
theorem dX12_change_41 : decode cX12_change 41 = .ok (.iload 4, 2) := by decide +kernel
theorem dX12_change_43 : decode cX12_change 43 = .ok (.ifCond .eq 20, 3) := by decide +kernel
theorem dX12_change_46 : decode cX12_change 46 = .ok (.aload_n 0, 1) := by decide +kernel
theorem dX12_change_47 : decode cX12_change 47 = .ok (.bipush 8, 2) := by decide +kernel
theorem dX12_change_49 : decode cX12_change 49 = .ok (.bipush 6, 2) := by decide +kernel
theorem dX12_change_51 : decode cX12_change 51 = .ok (.iload_n 1, 1) := by decide +kernel
theorem dX12_change_52 : decode cX12_change 52 = .ok (.imul, 1) := by decide +kernel
theorem dX12_change_53 : decode cX12_change 53 = .ok (.iadd, 1) := by decide +kernel
theorem dX12_change_54 : decode cX12_change 54 = .ok (.iload_n 2, 1) := by decide +kernel
theorem dX12_change_55 : decode cX12_change 55 = .ok (.iadd, 1) := by decide +kernel
theorem dX12_change_56 : decode cX12_change 56 = .ok (.iload_n 3, 1) := by decide +kernel
theorem dX12_change_57 : decode cX12_change 57 = .ok (.invokevirtual 133, 3) := by decide +kernel
theorem dX12_change_60 : decode cX12_change 60 = .ok (.goto 4, 3) := by decide +kernel
theorem dX12_change_63 : decode cX12_change 63 = .ok (.iconst (-1), 1) := by decide +kernel
theorem dX12_change_64 : decode cX12_change 64 = .ok (.ireturn, 1) := by decide +kernel
theorem dX12_remake_0 : decode cX12_remake 0 = .ok (.aload_n 0, 1) := by decide +kernel
theorem dX12_remake_1 : decode cX12_remake 1 = .ok (.iload_n 1, 1) := by decide +kernel
theorem dX12_remake_2 : decode cX12_remake 2 = .ok (.invokevirtual 116, 3) := by decide +kernel
theorem dX12_remake_5 : decode cX12_remake 5 = .ok (.ifCond .eq 30, 3) := by decide +kernel
theorem dX12_remake_8 : decode cX12_remake 8 = .ok (.iload_n 2, 1) := by decide +kernel
theorem dX12_remake_9 : decode cX12_remake 9 = .ok (.i2l, 1) := by decide +kernel
theorem dX12_remake_10 : decode cX12_remake 10 = .ok (.lconst 1, 1) := by decide +kernel
theorem dX12_remake_11 : decode cX12_remake 11 = .ok (.ldc2_w 64, 3) := by decide +kernel
theorem dX12_remake_14 : decode cX12_remake 14 = .ok (.invokestatic 66, 3) := by decide +kernel
theorem dX12_remake_17 : decode cX12_remake 17 = .ok (.ifCond .eq 18, 3) := by decide +kernel
theorem dX12_remake_20 : decode cX12_remake 20 = .ok (.aload_n 0, 1) := by decide +kernel
theorem dX12_remake_21 : decode cX12_remake 21 = .ok (.bipush 8, 2) := by decide +kernel
theorem dX12_remake_23 : decode cX12_remake 23 = .ok (.bipush 6, 2) := by decide +kernel
theorem dX12_remake_25 : decode cX12_remake 25 = .ok (.iload_n 1, 1) := by decide +kernel
theorem dX12_remake_26 : decode cX12_remake 26 = .ok (.imul, 1) := by decide +kernel
theorem dX12_remake_27 : decode cX12_remake 27 = .ok (.iadd, 1) := by decide +kernel
theorem dX12_remake_28 : decode cX12_remake 28 = .ok (.iload_n 2, 1) := by decide +kernel
theorem dX12_remake_29 : decode cX12_remake 29 = .ok (.invokevirtual 133, 3) := by decide +kernel
theorem dX12_remake_32 : decode cX12_remake 32 = .ok (.goto 4, 3) := by decide +kernel
theorem dX12_remake_35 : decode cX12_remake 35 = .ok (.iconst (-1), 1) := by decide +kernel
theorem dX12_remake_36 : decode cX12_remake 36 = .ok (.ireturn, 1) := by decide +kernel
theorem dX12_crowd_0 : decode cX12_crowd 0 = .ok (.iload_n 1, 1) := by decide +kernel
theorem dX12_crowd_1 : decode cX12_crowd 1 = .ok (.i2l, 1) := by decide +kernel
theorem dX12_crowd_2 : decode cX12_crowd 2 = .ok (.lconst 0, 1) := by decide +kernel
theorem dX12_crowd_3 : decode cX12_crowd 3 = .ok (.ldc2_w 136, 3) := by decide +kernel
theorem dX12_crowd_6 : decode cX12_crowd 6 = .ok (.invokestatic 66, 3) := by decide +kernel
theorem dX12_crowd_9 : decode cX12_crowd 9 = .ok (.ifCond .eq 27, 3) := by decide +kernel
theorem dX12_crowd_12 : decode cX12_crowd 12 = .ok (.iload_n 2, 1) := by decide +kernel
theorem dX12_crowd_13 : decode cX12_crowd 13 = .ok (.i2l, 1) := by decide +kernel
theorem dX12_crowd_14 : decode cX12_crowd 14 = .ok (.lconst 0, 1) := by decide +kernel
theorem dX12_crowd_15 : decode cX12_crowd 15 = .ok (.ldc2_w 136, 3) := by decide +kernel
theorem dX12_crowd_18 : decode cX12_crowd 18 = .ok (.invokestatic 66, 3) := by decide +kernel
theorem dX12_crowd_21 : decode cX12_crowd 21 = .ok (.ifCond .eq 15, 3) := by decide +kernel
theorem dX12_crowd_24 : decode cX12_crowd 24 = .ok (.aload_n 0, 1) := by decide +kernel
theorem dX12_crowd_25 : decode cX12_crowd 25 = .ok (.bipush 56, 2) := by decide +kernel
theorem dX12_crowd_27 : decode cX12_crowd 27 = .ok (.iload_n 1, 1) := by decide +kernel
theorem dX12_crowd_28 : decode cX12_crowd 28 = .ok (.iadd, 1) := by decide +kernel
theorem dX12_crowd_29 : decode cX12_crowd 29 = .ok (.iload_n 2, 1) := by decide +kernel
theorem dX12_crowd_30 : decode cX12_crowd 30 = .ok (.invokevirtual 133, 3) := by decide +kernel
theorem dX12_crowd_33 : decode cX12_crowd 33 = .ok (.goto 4, 3) := by decide +kernel
theorem dX12_crowd_36 : decode cX12_crowd 36 = .ok (.iconst (-1), 1) := by decide +kernel
theorem dX12_crowd_37 : decode cX12_crowd 37 = .ok (.ireturn, 1) := by decide +kernel
theorem dX12_home_0 : decode cX12_home 0 = .ok (.iload_n 1, 1) := by decide +kernel
theorem dX12_home_1 : decode cX12_home 1 = .ok (.invokestatic 74, 3) := by decide +kernel
theorem dX12_home_4 : decode cX12_home 4 = .ok (.ifCond .eq 25, 3) := by decide +kernel
theorem dX12_home_7 : decode cX12_home 7 = .ok (.iload_n 2, 1) := by decide +kernel
theorem dX12_home_8 : decode cX12_home 8 = .ok (.i2l, 1) := by decide +kernel
theorem dX12_home_9 : decode cX12_home 9 = .ok (.lconst 0, 1) := by decide +kernel
theorem dX12_home_10 : decode cX12_home 10 = .ok (.lconst 1, 1) := by decide +kernel
theorem dX12_home_11 : decode cX12_home 11 = .ok (.invokestatic 66, 3) := by decide +kernel
theorem dX12_home_14 : decode cX12_home 14 = .ok (.ifCond .eq 15, 3) := by decide +kernel
theorem dX12_home_17 : decode cX12_home 17 = .ok (.iload_n 3, 1) := by decide +kernel
theorem dX12_home_18 : decode cX12_home 18 = .ok (.i2l, 1) := by decide +kernel
theorem dX12_home_19 : decode cX12_home 19 = .ok (.lconst 0, 1) := by decide +kernel
theorem dX12_home_20 : decode cX12_home 20 = .ok (.ldc2_w 72, 3) := by decide +kernel
theorem dX12_home_23 : decode cX12_home 23 = .ok (.invokestatic 66, 3) := by decide +kernel
theorem dX12_home_26 : decode cX12_home 26 = .ok (.ifCond .ne 5, 3) := by decide +kernel
theorem dX12_home_29 : decode cX12_home 29 = .ok (.iconst (-1), 1) := by decide +kernel
theorem dX12_home_30 : decode cX12_home 30 = .ok (.ireturn, 1) := by decide +kernel
theorem dX12_home_31 : decode cX12_home 31 = .ok (.aload_n 0, 1) := by decide +kernel
theorem dX12_home_32 : decode cX12_home 32 = .ok (.iload_n 2, 1) := by decide +kernel
theorem dX12_home_33 : decode cX12_home 33 = .ok (.ifCond .ne 8, 3) := by decide +kernel
theorem dX12_home_36 : decode cX12_home 36 = .ok (.bipush 44, 2) := by decide +kernel
theorem dX12_home_38 : decode cX12_home 38 = .ok (.goto 5, 3) := by decide +kernel
theorem dX12_home_41 : decode cX12_home 41 = .ok (.bipush 50, 2) := by decide +kernel
theorem dX12_home_43 : decode cX12_home 43 = .ok (.iload_n 1, 1) := by decide +kernel
theorem dX12_home_44 : decode cX12_home 44 = .ok (.iadd, 1) := by decide +kernel
theorem dX12_home_45 : decode cX12_home 45 = .ok (.iload_n 3, 1) := by decide +kernel
theorem dX12_home_46 : decode cX12_home 46 = .ok (.invokevirtual 133, 3) := by decide +kernel
theorem dX12_home_49 : decode cX12_home 49 = .ok (.ireturn, 1) := by decide +kernel
theorem dX12_homeOf_0 : decode cX12_homeOf 0 = .ok (.iload_n 1, 1) := by decide +kernel
theorem dX12_homeOf_1 : decode cX12_homeOf 1 = .ok (.invokestatic 74, 3) := by decide +kernel
theorem dX12_homeOf_4 : decode cX12_homeOf 4 = .ok (.ifCond .eq 13, 3) := by decide +kernel
theorem dX12_homeOf_7 : decode cX12_homeOf 7 = .ok (.iload_n 2, 1) := by decide +kernel
theorem dX12_homeOf_8 : decode cX12_homeOf 8 = .ok (.i2l, 1) := by decide +kernel
theorem dX12_homeOf_9 : decode cX12_homeOf 9 = .ok (.lconst 0, 1) := by decide +kernel
theorem dX12_homeOf_10 : decode cX12_homeOf 10 = .ok (.lconst 1, 1) := by decide +kernel
theorem dX12_homeOf_11 : decode cX12_homeOf 11 = .ok (.invokestatic 66, 3) := by decide +kernel
theorem dX12_homeOf_14 : decode cX12_homeOf 14 = .ok (.ifCond .ne 5, 3) := by decide +kernel
theorem dX12_homeOf_17 : decode cX12_homeOf 17 = .ok (.iconst (-1), 1) := by decide +kernel
theorem dX12_homeOf_18 : decode cX12_homeOf 18 = .ok (.ireturn, 1) := by decide +kernel
theorem dX12_homeOf_19 : decode cX12_homeOf 19 = .ok (.aload_n 0, 1) := by decide +kernel
theorem dX12_homeOf_20 : decode cX12_homeOf 20 = .ok (.getfield 7, 3) := by decide +kernel
theorem dX12_homeOf_23 : decode cX12_homeOf 23 = .ok (.iload_n 2, 1) := by decide +kernel
theorem dX12_homeOf_24 : decode cX12_homeOf 24 = .ok (.ifCond .ne 8, 3) := by decide +kernel
theorem dX12_homeOf_27 : decode cX12_homeOf 27 = .ok (.bipush 44, 2) := by decide +kernel
theorem dX12_homeOf_29 : decode cX12_homeOf 29 = .ok (.goto 5, 3) := by decide +kernel
theorem dX12_homeOf_32 : decode cX12_homeOf 32 = .ok (.bipush 50, 2) := by decide +kernel
theorem dX12_homeOf_34 : decode cX12_homeOf 34 = .ok (.iload_n 1, 1) := by decide +kernel
theorem dX12_homeOf_35 : decode cX12_homeOf 35 = .ok (.iadd, 1) := by decide +kernel
theorem dX12_homeOf_36 : decode cX12_homeOf 36 = .ok (.iaload, 1) := by decide +kernel
theorem dX12_homeOf_37 : decode cX12_homeOf 37 = .ok (.ireturn, 1) := by decide +kernel
theorem dX12_ends_0 : decode cX12_ends 0 = .ok (.iload_n 1, 1) := by decide +kernel
theorem dX12_ends_1 : decode cX12_ends 1 = .ok (.i2l, 1) := by decide +kernel
theorem dX12_ends_2 : decode cX12_ends 2 = .ok (.lconst 1, 1) := by decide +kernel
theorem dX12_ends_3 : decode cX12_ends 3 = .ok (.ldc2_w 138, 3) := by decide +kernel
theorem dX12_ends_6 : decode cX12_ends 6 = .ok (.invokestatic 66, 3) := by decide +kernel
theorem dX12_ends_9 : decode cX12_ends 9 = .ok (.ifCond .ne 5, 3) := by decide +kernel
theorem dX12_ends_12 : decode cX12_ends 12 = .ok (.iconst (-1), 1) := by decide +kernel
theorem dX12_ends_13 : decode cX12_ends 13 = .ok (.ireturn, 1) := by decide +kernel
theorem dX12_ends_14 : decode cX12_ends 14 = .ok (.iload_n 1, 1) := by decide +kernel
theorem dX12_ends_15 : decode cX12_ends 15 = .ok (.aload_n 0, 1) := by decide +kernel
theorem dX12_ends_16 : decode cX12_ends 16 = .ok (.getfield 7, 3) := by decide +kernel
theorem dX12_ends_19 : decode cX12_ends 19 = .ok (.iconst 1, 1) := by decide +kernel
theorem dX12_ends_20 : decode cX12_ends 20 = .ok (.iaload, 1) := by decide +kernel
theorem dX12_ends_21 : decode cX12_ends 21 = .ok (.if_icmp .ge 8, 3) := by decide +kernel
theorem dX12_ends_24 : decode cX12_ends 24 = .ok (.bipush (-4), 2) := by decide +kernel
theorem dX12_ends_26 : decode cX12_ends 26 = .ok (.goto 9, 3) := by decide +kernel
theorem dX12_ends_29 : decode cX12_ends 29 = .ok (.aload_n 0, 1) := by decide +kernel
theorem dX12_ends_30 : decode cX12_ends 30 = .ok (.iconst 2, 1) := by decide +kernel
theorem dX12_ends_31 : decode cX12_ends 31 = .ok (.iload_n 1, 1) := by decide +kernel
theorem dX12_ends_32 : decode cX12_ends 32 = .ok (.invokevirtual 133, 3) := by decide +kernel
theorem dX12_ends_35 : decode cX12_ends 35 = .ok (.ireturn, 1) := by decide +kernel
theorem dX12_anew_0 : decode cX12_anew 0 = .ok (.iconst 0, 1) := by decide +kernel
theorem dX12_anew_1 : decode cX12_anew 1 = .ok (.istore_n 1, 1) := by decide +kernel
theorem dX12_anew_2 : decode cX12_anew 2 = .ok (.iload_n 1, 1) := by decide +kernel
theorem dX12_anew_3 : decode cX12_anew 3 = .ok (.aload_n 0, 1) := by decide +kernel
theorem dX12_anew_4 : decode cX12_anew 4 = .ok (.getfield 7, 3) := by decide +kernel
theorem dX12_anew_7 : decode cX12_anew 7 = .ok (.iconst 0, 1) := by decide +kernel
theorem dX12_anew_8 : decode cX12_anew 8 = .ok (.iaload, 1) := by decide +kernel
theorem dX12_anew_9 : decode cX12_anew 9 = .ok (.if_icmp .ge 44, 3) := by decide +kernel
theorem dX12_anew_12 : decode cX12_anew 12 = .ok (.aload_n 0, 1) := by decide +kernel
theorem dX12_anew_13 : decode cX12_anew 13 = .ok (.getfield 7, 3) := by decide +kernel
theorem dX12_anew_16 : decode cX12_anew 16 = .ok (.bipush 8, 2) := by decide +kernel
theorem dX12_anew_18 : decode cX12_anew 18 = .ok (.bipush 6, 2) := by decide +kernel
theorem dX12_anew_20 : decode cX12_anew 20 = .ok (.iload_n 1, 1) := by decide +kernel
theorem dX12_anew_21 : decode cX12_anew 21 = .ok (.imul, 1) := by decide +kernel
theorem dX12_anew_22 : decode cX12_anew 22 = .ok (.iadd, 1) := by decide +kernel
theorem dX12_anew_23 : decode cX12_anew 23 = .ok (.iconst 4, 1) := by decide +kernel
theorem dX12_anew_24 : decode cX12_anew 24 = .ok (.iadd, 1) := by decide +kernel
theorem dX12_anew_25 : decode cX12_anew 25 = .ok (.iconst 0, 1) := by decide +kernel
theorem dX12_anew_26 : decode cX12_anew 26 = .ok (.iastore, 1) := by decide +kernel
theorem dX12_anew_27 : decode cX12_anew 27 = .ok (.aload_n 0, 1) := by decide +kernel
theorem dX12_anew_28 : decode cX12_anew 28 = .ok (.getfield 7, 3) := by decide +kernel
theorem dX12_anew_31 : decode cX12_anew 31 = .ok (.bipush 8, 2) := by decide +kernel
theorem dX12_anew_33 : decode cX12_anew 33 = .ok (.bipush 6, 2) := by decide +kernel
theorem dX12_anew_35 : decode cX12_anew 35 = .ok (.iload_n 1, 1) := by decide +kernel
theorem dX12_anew_36 : decode cX12_anew 36 = .ok (.imul, 1) := by decide +kernel
theorem dX12_anew_37 : decode cX12_anew 37 = .ok (.iadd, 1) := by decide +kernel
theorem dX12_anew_38 : decode cX12_anew 38 = .ok (.iconst 5, 1) := by decide +kernel
theorem dX12_anew_39 : decode cX12_anew 39 = .ok (.iadd, 1) := by decide +kernel
theorem dX12_anew_40 : decode cX12_anew 40 = .ok (.aload_n 0, 1) := by decide +kernel
theorem dX12_anew_41 : decode cX12_anew 41 = .ok (.iload_n 1, 1) := by decide +kernel
theorem dX12_anew_42 : decode cX12_anew 42 = .ok (.iconst 3, 1) := by decide +kernel
theorem dX12_anew_43 : decode cX12_anew 43 = .ok (.invokevirtual 82, 3) := by decide +kernel
theorem dX12_anew_46 : decode cX12_anew 46 = .ok (.iastore, 1) := by decide +kernel
theorem dX12_anew_47 : decode cX12_anew 47 = .ok (.iinc 1 1, 3) := by decide +kernel
theorem dX12_anew_50 : decode cX12_anew 50 = .ok (.goto (-48), 3) := by decide +kernel
theorem dX12_anew_53 : decode cX12_anew 53 = .ok (.aload_n 0, 1) := by decide +kernel
theorem dX12_anew_54 : decode cX12_anew 54 = .ok (.getfield 7, 3) := by decide +kernel
theorem dX12_anew_57 : decode cX12_anew 57 = .ok (.iconst 3, 1) := by decide +kernel
theorem dX12_anew_58 : decode cX12_anew 58 = .ok (.iconst 0, 1) := by decide +kernel
theorem dX12_anew_59 : decode cX12_anew 59 = .ok (.iastore, 1) := by decide +kernel
theorem dX12_anew_60 : decode cX12_anew 60 = .ok (.aload_n 0, 1) := by decide +kernel
theorem dX12_anew_61 : decode cX12_anew 61 = .ok (.iconst 1, 1) := by decide +kernel
theorem dX12_anew_62 : decode cX12_anew 62 = .ok (.iconst 0, 1) := by decide +kernel
theorem dX12_anew_63 : decode cX12_anew 63 = .ok (.invokevirtual 133, 3) := by decide +kernel
theorem dX12_anew_66 : decode cX12_anew 66 = .ok (.ireturn, 1) := by decide +kernel
theorem dX12_outOnes_0 : decode cX12_outOnes 0 = .ok (.iconst 0, 1) := by decide +kernel
theorem dX12_outOnes_1 : decode cX12_outOnes 1 = .ok (.istore_n 1, 1) := by decide +kernel
theorem dX12_outOnes_2 : decode cX12_outOnes 2 = .ok (.iconst 0, 1) := by decide +kernel
theorem dX12_outOnes_3 : decode cX12_outOnes 3 = .ok (.istore_n 2, 1) := by decide +kernel
theorem dX12_outOnes_4 : decode cX12_outOnes 4 = .ok (.iload_n 2, 1) := by decide +kernel
theorem dX12_outOnes_5 : decode cX12_outOnes 5 = .ok (.aload_n 0, 1) := by decide +kernel
theorem dX12_outOnes_6 : decode cX12_outOnes 6 = .ok (.getfield 7, 3) := by decide +kernel
theorem dX12_outOnes_9 : decode cX12_outOnes 9 = .ok (.iconst 0, 1) := by decide +kernel
theorem dX12_outOnes_10 : decode cX12_outOnes 10 = .ok (.iaload, 1) := by decide +kernel
theorem dX12_outOnes_11 : decode cX12_outOnes 11 = .ok (.if_icmp .ge 20, 3) := by decide +kernel
theorem dX12_outOnes_14 : decode cX12_outOnes 14 = .ok (.iload_n 1, 1) := by decide +kernel
theorem dX12_outOnes_15 : decode cX12_outOnes 15 = .ok (.aload_n 0, 1) := by decide +kernel
theorem dX12_outOnes_16 : decode cX12_outOnes 16 = .ok (.iload_n 2, 1) := by decide +kernel
theorem dX12_outOnes_17 : decode cX12_outOnes 17 = .ok (.iconst 4, 1) := by decide +kernel
theorem dX12_outOnes_18 : decode cX12_outOnes 18 = .ok (.invokevirtual 82, 3) := by decide +kernel
theorem dX12_outOnes_21 : decode cX12_outOnes 21 = .ok (.iload_n 2, 1) := by decide +kernel
theorem dX12_outOnes_22 : decode cX12_outOnes 22 = .ok (.ishl, 1) := by decide +kernel
theorem dX12_outOnes_23 : decode cX12_outOnes 23 = .ok (.ior, 1) := by decide +kernel
theorem dX12_outOnes_24 : decode cX12_outOnes 24 = .ok (.istore_n 1, 1) := by decide +kernel
theorem dX12_outOnes_25 : decode cX12_outOnes 25 = .ok (.iinc 2 1, 3) := by decide +kernel
theorem dX12_outOnes_28 : decode cX12_outOnes 28 = .ok (.goto (-24), 3) := by decide +kernel
theorem dX12_outOnes_31 : decode cX12_outOnes 31 = .ok (.iload_n 1, 1) := by decide +kernel
theorem dX12_outOnes_32 : decode cX12_outOnes 32 = .ok (.ireturn, 1) := by decide +kernel
theorem dX12_thoseHome_0 : decode cX12_thoseHome 0 = .ok (.iconst 0, 1) := by decide +kernel
theorem dX12_thoseHome_1 : decode cX12_thoseHome 1 = .ok (.istore_n 1, 1) := by decide +kernel
theorem dX12_thoseHome_2 : decode cX12_thoseHome 2 = .ok (.iconst 0, 1) := by decide +kernel
theorem dX12_thoseHome_3 : decode cX12_thoseHome 3 = .ok (.istore_n 2, 1) := by decide +kernel
theorem dX12_thoseHome_4 : decode cX12_thoseHome 4 = .ok (.iload_n 2, 1) := by decide +kernel
theorem dX12_thoseHome_5 : decode cX12_thoseHome 5 = .ok (.aload_n 0, 1) := by decide +kernel
theorem dX12_thoseHome_6 : decode cX12_thoseHome 6 = .ok (.getfield 7, 3) := by decide +kernel
theorem dX12_thoseHome_9 : decode cX12_thoseHome 9 = .ok (.iconst 0, 1) := by decide +kernel
theorem dX12_thoseHome_10 : decode cX12_thoseHome 10 = .ok (.iaload, 1) := by decide +kernel
theorem dX12_thoseHome_11 : decode cX12_thoseHome 11 = .ok (.if_icmp .ge 34, 3) := by decide +kernel
theorem dX12_thoseHome_14 : decode cX12_thoseHome 14 = .ok (.iload_n 1, 1) := by decide +kernel
theorem dX12_thoseHome_15 : decode cX12_thoseHome 15 = .ok (.aload_n 0, 1) := by decide +kernel
theorem dX12_thoseHome_16 : decode cX12_thoseHome 16 = .ok (.iload_n 2, 1) := by decide +kernel
theorem dX12_thoseHome_17 : decode cX12_thoseHome 17 = .ok (.iconst 5, 1) := by decide +kernel
theorem dX12_thoseHome_18 : decode cX12_thoseHome 18 = .ok (.invokevirtual 82, 3) := by decide +kernel
theorem dX12_thoseHome_21 : decode cX12_thoseHome 21 = .ok (.aload_n 0, 1) := by decide +kernel
theorem dX12_thoseHome_22 : decode cX12_thoseHome 22 = .ok (.iload_n 2, 1) := by decide +kernel
theorem dX12_thoseHome_23 : decode cX12_thoseHome 23 = .ok (.iconst 3, 1) := by decide +kernel
theorem dX12_thoseHome_24 : decode cX12_thoseHome 24 = .ok (.invokevirtual 82, 3) := by decide +kernel
theorem dX12_thoseHome_27 : decode cX12_thoseHome 27 = .ok (.if_icmp .ne 9, 3) := by decide +kernel
theorem dX12_thoseHome_30 : decode cX12_thoseHome 30 = .ok (.iconst 1, 1) := by decide +kernel
theorem dX12_thoseHome_31 : decode cX12_thoseHome 31 = .ok (.iload_n 2, 1) := by decide +kernel
theorem dX12_thoseHome_32 : decode cX12_thoseHome 32 = .ok (.ishl, 1) := by decide +kernel
theorem dX12_thoseHome_33 : decode cX12_thoseHome 33 = .ok (.goto 4, 3) := by decide +kernel
theorem dX12_thoseHome_36 : decode cX12_thoseHome 36 = .ok (.iconst 0, 1) := by decide +kernel
theorem dX12_thoseHome_37 : decode cX12_thoseHome 37 = .ok (.ior, 1) := by decide +kernel
theorem dX12_thoseHome_38 : decode cX12_thoseHome 38 = .ok (.istore_n 1, 1) := by decide +kernel
theorem dX12_thoseHome_39 : decode cX12_thoseHome 39 = .ok (.iinc 2 1, 3) := by decide +kernel
theorem dX12_thoseHome_42 : decode cX12_thoseHome 42 = .ok (.goto (-38), 3) := by decide +kernel
theorem dX12_thoseHome_45 : decode cX12_thoseHome 45 = .ok (.iload_n 1, 1) := by decide +kernel
theorem dX12_thoseHome_46 : decode cX12_thoseHome 46 = .ok (.ireturn, 1) := by decide +kernel
theorem dX12_state_0 : decode cX12_state 0 = .ok (.iload_n 1, 1) := by decide +kernel
theorem dX12_state_1 : decode cX12_state 1 = .ok (.tableswitch 86 0 6 #[43, 43, 43, 52, 65, 70, 81], 43) := by decide +kernel
theorem dX12_state_44 : decode cX12_state 44 = .ok (.aload_n 0, 1) := by decide +kernel
theorem dX12_state_45 : decode cX12_state 45 = .ok (.getfield 7, 3) := by decide +kernel
theorem dX12_state_48 : decode cX12_state 48 = .ok (.iconst 1, 1) := by decide +kernel
theorem dX12_state_49 : decode cX12_state 49 = .ok (.iload_n 1, 1) := by decide +kernel
theorem dX12_state_50 : decode cX12_state 50 = .ok (.iadd, 1) := by decide +kernel
theorem dX12_state_51 : decode cX12_state 51 = .ok (.iaload, 1) := by decide +kernel
theorem dX12_state_52 : decode cX12_state 52 = .ok (.ireturn, 1) := by decide +kernel
theorem dX12_state_53 : decode cX12_state 53 = .ok (.aload_n 0, 1) := by decide +kernel
theorem dX12_state_54 : decode cX12_state 54 = .ok (.invokevirtual 140, 3) := by decide +kernel
theorem dX12_state_57 : decode cX12_state 57 = .ok (.ifCond .eq 7, 3) := by decide +kernel
theorem dX12_state_60 : decode cX12_state 60 = .ok (.iconst 1, 1) := by decide +kernel
theorem dX12_state_61 : decode cX12_state 61 = .ok (.goto 4, 3) := by decide +kernel
theorem dX12_state_64 : decode cX12_state 64 = .ok (.iconst 0, 1) := by decide +kernel
theorem dX12_state_65 : decode cX12_state 65 = .ok (.ireturn, 1) := by decide +kernel
theorem dX12_state_66 : decode cX12_state 66 = .ok (.aload_n 0, 1) := by decide +kernel
theorem dX12_state_67 : decode cX12_state 67 = .ok (.invokevirtual 144, 3) := by decide +kernel
theorem dX12_state_70 : decode cX12_state 70 = .ok (.ireturn, 1) := by decide +kernel
theorem dX12_state_71 : decode cX12_state 71 = .ok (.aload_n 0, 1) := by decide +kernel
theorem dX12_state_72 : decode cX12_state 72 = .ok (.aload_n 0, 1) := by decide +kernel
theorem dX12_state_73 : decode cX12_state 73 = .ok (.getfield 7, 3) := by decide +kernel
theorem dX12_state_76 : decode cX12_state 76 = .ok (.iconst 1, 1) := by decide +kernel
theorem dX12_state_77 : decode cX12_state 77 = .ok (.iaload, 1) := by decide +kernel
theorem dX12_state_78 : decode cX12_state 78 = .ok (.invokevirtual 85, 3) := by decide +kernel
theorem dX12_state_81 : decode cX12_state 81 = .ok (.ireturn, 1) := by decide +kernel
theorem dX12_state_82 : decode cX12_state 82 = .ok (.aload_n 0, 1) := by decide +kernel
theorem dX12_state_83 : decode cX12_state 83 = .ok (.invokevirtual 148, 3) := by decide +kernel
theorem dX12_state_86 : decode cX12_state 86 = .ok (.ireturn, 1) := by decide +kernel
theorem dX12_state_87 : decode cX12_state 87 = .ok (.iconst (-1), 1) := by decide +kernel
theorem dX12_state_88 : decode cX12_state 88 = .ok (.ireturn, 1) := by decide +kernel
theorem dX12_feed_0 : decode cX12_feed 0 = .ok (.iload_n 3, 1) := by decide +kernel
theorem dX12_feed_1 : decode cX12_feed 1 = .ok (.i2l, 1) := by decide +kernel
theorem dX12_feed_2 : decode cX12_feed 2 = .ok (.lconst 1, 1) := by decide +kernel
theorem dX12_feed_3 : decode cX12_feed 3 = .ok (.ldc2_w 151, 3) := by decide +kernel
theorem dX12_feed_6 : decode cX12_feed 6 = .ok (.invokestatic 66, 3) := by decide +kernel
theorem dX12_feed_9 : decode cX12_feed 9 = .ok (.ifCond .ne 5, 3) := by decide +kernel
theorem dX12_feed_12 : decode cX12_feed 12 = .ok (.iconst (-1), 1) := by decide +kernel
theorem dX12_feed_13 : decode cX12_feed 13 = .ok (.ireturn, 1) := by decide +kernel
theorem dX12_feed_14 : decode cX12_feed 14 = .ok (.aload_n 0, 1) := by decide +kernel
theorem dX12_feed_15 : decode cX12_feed 15 = .ok (.getfield 153, 3) := by decide +kernel
theorem dX12_feed_18 : decode cX12_feed 18 = .ok (.iload_n 3, 1) := by decide +kernel
theorem dX12_feed_19 : decode cX12_feed 19 = .ok (.iadd, 1) := by decide +kernel
theorem dX12_feed_20 : decode cX12_feed 20 = .ok (.sipush 200, 3) := by decide +kernel
theorem dX12_feed_23 : decode cX12_feed 23 = .ok (.if_icmp .le 6, 3) := by decide +kernel
theorem dX12_feed_26 : decode cX12_feed 26 = .ok (.bipush (-2), 2) := by decide +kernel
theorem dX12_feed_28 : decode cX12_feed 28 = .ok (.ireturn, 1) := by decide +kernel
theorem dX12_feed_29 : decode cX12_feed 29 = .ok (.iconst 0, 1) := by decide +kernel
theorem dX12_feed_30 : decode cX12_feed 30 = .ok (.istore 4, 2) := by decide +kernel
theorem dX12_feed_32 : decode cX12_feed 32 = .ok (.iload 4, 2) := by decide +kernel
theorem dX12_feed_34 : decode cX12_feed 34 = .ok (.iload_n 3, 1) := by decide +kernel
theorem dX12_feed_35 : decode cX12_feed 35 = .ok (.if_icmp .ge 40, 3) := by decide +kernel
theorem dX12_feed_38 : decode cX12_feed 38 = .ok (.aload_n 0, 1) := by decide +kernel
theorem dX12_feed_39 : decode cX12_feed 39 = .ok (.getfield 19, 3) := by decide +kernel
theorem dX12_feed_42 : decode cX12_feed 42 = .ok (.aload_n 0, 1) := by decide +kernel
theorem dX12_feed_43 : decode cX12_feed 43 = .ok (.getfield 153, 3) := by decide +kernel
theorem dX12_feed_46 : decode cX12_feed 46 = .ok (.lload_n 1, 1) := by decide +kernel
theorem dX12_feed_47 : decode cX12_feed 47 = .ok (.bipush 8, 2) := by decide +kernel
theorem dX12_feed_49 : decode cX12_feed 49 = .ok (.iload 4, 2) := by decide +kernel
theorem dX12_feed_51 : decode cX12_feed 51 = .ok (.imul, 1) := by decide +kernel
theorem dX12_feed_52 : decode cX12_feed 52 = .ok (.lshr, 1) := by decide +kernel
theorem dX12_feed_53 : decode cX12_feed 53 = .ok (.ldc2_w 157, 3) := by decide +kernel
theorem dX12_feed_56 : decode cX12_feed 56 = .ok (.land, 1) := by decide +kernel
theorem dX12_feed_57 : decode cX12_feed 57 = .ok (.l2i, 1) := by decide +kernel
theorem dX12_feed_58 : decode cX12_feed 58 = .ok (.iastore, 1) := by decide +kernel
theorem dX12_feed_59 : decode cX12_feed 59 = .ok (.aload_n 0, 1) := by decide +kernel
theorem dX12_feed_60 : decode cX12_feed 60 = .ok (.dup, 1) := by decide +kernel
theorem dX12_feed_61 : decode cX12_feed 61 = .ok (.getfield 153, 3) := by decide +kernel
theorem dX12_feed_64 : decode cX12_feed 64 = .ok (.iconst 1, 1) := by decide +kernel
theorem dX12_feed_65 : decode cX12_feed 65 = .ok (.iadd, 1) := by decide +kernel
theorem dX12_feed_66 : decode cX12_feed 66 = .ok (.putfield 153, 3) := by decide +kernel
theorem dX12_feed_69 : decode cX12_feed 69 = .ok (.iinc 4 1, 3) := by decide +kernel
theorem dX12_feed_72 : decode cX12_feed 72 = .ok (.goto (-40), 3) := by decide +kernel
theorem dX12_feed_75 : decode cX12_feed 75 = .ok (.aload_n 0, 1) := by decide +kernel
theorem dX12_feed_76 : decode cX12_feed 76 = .ok (.getfield 153, 3) := by decide +kernel
theorem dX12_feed_79 : decode cX12_feed 79 = .ok (.ireturn, 1) := by decide +kernel
theorem dX12_isAlpha_0 : decode cX12_isAlpha 0 = .ok (.iload_n 0, 1) := by decide +kernel
theorem dX12_isAlpha_1 : decode cX12_isAlpha 1 = .ok (.bipush 97, 2) := by decide +kernel
theorem dX12_isAlpha_3 : decode cX12_isAlpha 3 = .ok (.if_icmp .lt 13, 3) := by decide +kernel
theorem dX12_isAlpha_6 : decode cX12_isAlpha 6 = .ok (.iload_n 0, 1) := by decide +kernel
theorem dX12_isAlpha_7 : decode cX12_isAlpha 7 = .ok (.bipush 122, 2) := by decide +kernel
theorem dX12_isAlpha_9 : decode cX12_isAlpha 9 = .ok (.if_icmp .gt 7, 3) := by decide +kernel
theorem dX12_isAlpha_12 : decode cX12_isAlpha 12 = .ok (.iconst 1, 1) := by decide +kernel
theorem dX12_isAlpha_13 : decode cX12_isAlpha 13 = .ok (.goto 4, 3) := by decide +kernel
theorem dX12_isAlpha_16 : decode cX12_isAlpha 16 = .ok (.iconst 0, 1) := by decide +kernel
theorem dX12_isAlpha_17 : decode cX12_isAlpha 17 = .ok (.ireturn, 1) := by decide +kernel
theorem dX12_isDigit_0 : decode cX12_isDigit 0 = .ok (.iload_n 0, 1) := by decide +kernel
theorem dX12_isDigit_1 : decode cX12_isDigit 1 = .ok (.bipush 48, 2) := by decide +kernel
theorem dX12_isDigit_3 : decode cX12_isDigit 3 = .ok (.if_icmp .lt 13, 3) := by decide +kernel
theorem dX12_isDigit_6 : decode cX12_isDigit 6 = .ok (.iload_n 0, 1) := by decide +kernel
theorem dX12_isDigit_7 : decode cX12_isDigit 7 = .ok (.bipush 57, 2) := by decide +kernel
theorem dX12_isDigit_9 : decode cX12_isDigit 9 = .ok (.if_icmp .gt 7, 3) := by decide +kernel
theorem dX12_isDigit_12 : decode cX12_isDigit 12 = .ok (.iconst 1, 1) := by decide +kernel
theorem dX12_isDigit_13 : decode cX12_isDigit 13 = .ok (.goto 4, 3) := by decide +kernel
theorem dX12_isDigit_16 : decode cX12_isDigit 16 = .ok (.iconst 0, 1) := by decide +kernel
theorem dX12_isDigit_17 : decode cX12_isDigit 17 = .ok (.ireturn, 1) := by decide +kernel
theorem dX12_byteAt_0 : decode cX12_byteAt 0 = .ok (.iload_n 1, 1) := by decide +kernel
theorem dX12_byteAt_1 : decode cX12_byteAt 1 = .ok (.aload_n 0, 1) := by decide +kernel
theorem dX12_byteAt_2 : decode cX12_byteAt 2 = .ok (.getfield 153, 3) := by decide +kernel
theorem dX12_byteAt_5 : decode cX12_byteAt 5 = .ok (.if_icmp .ge 12, 3) := by decide +kernel
theorem dX12_byteAt_8 : decode cX12_byteAt 8 = .ok (.aload_n 0, 1) := by decide +kernel
theorem dX12_byteAt_9 : decode cX12_byteAt 9 = .ok (.getfield 19, 3) := by decide +kernel
theorem dX12_byteAt_12 : decode cX12_byteAt 12 = .ok (.iload_n 1, 1) := by decide +kernel
theorem dX12_byteAt_13 : decode cX12_byteAt 13 = .ok (.iaload, 1) := by decide +kernel
theorem dX12_byteAt_14 : decode cX12_byteAt 14 = .ok (.goto 4, 3) := by decide +kernel
theorem dX12_byteAt_17 : decode cX12_byteAt 17 = .ok (.iconst (-1), 1) := by decide +kernel
theorem dX12_byteAt_18 : decode cX12_byteAt 18 = .ok (.ireturn, 1) := by decide +kernel
theorem dX12_nextToken_0 : decode cX12_nextToken 0 = .ok (.aload_n 0, 1) := by decide +kernel
theorem dX12_nextToken_1 : decode cX12_nextToken 1 = .ok (.aload_n 0, 1) := by decide +kernel
theorem dX12_nextToken_2 : decode cX12_nextToken 2 = .ok (.getfield 159, 3) := by decide +kernel
theorem dX12_nextToken_5 : decode cX12_nextToken 5 = .ok (.putfield 162, 3) := by decide +kernel
theorem dX12_nextToken_8 : decode cX12_nextToken 8 = .ok (.aload_n 0, 1) := by decide +kernel
theorem dX12_nextToken_9 : decode cX12_nextToken 9 = .ok (.aload_n 0, 1) := by decide +kernel
theorem dX12_nextToken_10 : decode cX12_nextToken 10 = .ok (.getfield 162, 3) := by decide +kernel
theorem dX12_nextToken_13 : decode cX12_nextToken 13 = .ok (.invokevirtual 165, 3) := by decide +kernel
theorem dX12_nextToken_16 : decode cX12_nextToken 16 = .ok (.bipush 32, 2) := by decide +kernel
theorem dX12_nextToken_18 : decode cX12_nextToken 18 = .ok (.if_icmp .ne 16, 3) := by decide +kernel
theorem dX12_nextToken_21 : decode cX12_nextToken 21 = .ok (.aload_n 0, 1) := by decide +kernel
theorem dX12_nextToken_22 : decode cX12_nextToken 22 = .ok (.dup, 1) := by decide +kernel
theorem dX12_nextToken_23 : decode cX12_nextToken 23 = .ok (.getfield 162, 3) := by decide +kernel
theorem dX12_nextToken_26 : decode cX12_nextToken 26 = .ok (.iconst 1, 1) := by decide +kernel
theorem dX12_nextToken_27 : decode cX12_nextToken 27 = .ok (.iadd, 1) := by decide +kernel
theorem dX12_nextToken_28 : decode cX12_nextToken 28 = .ok (.putfield 162, 3) := by decide +kernel
theorem dX12_nextToken_31 : decode cX12_nextToken 31 = .ok (.goto (-23), 3) := by decide +kernel
theorem dX12_nextToken_34 : decode cX12_nextToken 34 = .ok (.aload_n 0, 1) := by decide +kernel
theorem dX12_nextToken_35 : decode cX12_nextToken 35 = .ok (.aload_n 0, 1) := by decide +kernel
theorem dX12_nextToken_36 : decode cX12_nextToken 36 = .ok (.getfield 162, 3) := by decide +kernel
theorem dX12_nextToken_39 : decode cX12_nextToken 39 = .ok (.putfield 159, 3) := by decide +kernel
theorem dX12_nextToken_42 : decode cX12_nextToken 42 = .ok (.aload_n 0, 1) := by decide +kernel
theorem dX12_nextToken_43 : decode cX12_nextToken 43 = .ok (.aload_n 0, 1) := by decide +kernel
theorem dX12_nextToken_44 : decode cX12_nextToken 44 = .ok (.getfield 162, 3) := by decide +kernel
theorem dX12_nextToken_47 : decode cX12_nextToken 47 = .ok (.invokevirtual 165, 3) := by decide +kernel
theorem dX12_nextToken_50 : decode cX12_nextToken 50 = .ok (.istore_n 1, 1) := by decide +kernel
theorem dX12_nextToken_51 : decode cX12_nextToken 51 = .ok (.aload_n 0, 1) := by decide +kernel
theorem dX12_nextToken_52 : decode cX12_nextToken 52 = .ok (.iload_n 1, 1) := by decide +kernel
theorem dX12_nextToken_53 : decode cX12_nextToken 53 = .ok (.ifCond .ge 7, 3) := by decide +kernel
theorem dX12_nextToken_56 : decode cX12_nextToken 56 = .ok (.iconst 0, 1) := by decide +kernel
theorem dX12_nextToken_57 : decode cX12_nextToken 57 = .ok (.goto 26, 3) := by decide +kernel
theorem dX12_nextToken_60 : decode cX12_nextToken 60 = .ok (.iload_n 1, 1) := by decide +kernel
theorem dX12_nextToken_61 : decode cX12_nextToken 61 = .ok (.invokestatic 168, 3) := by decide +kernel
theorem dX12_nextToken_64 : decode cX12_nextToken 64 = .ok (.ifCond .eq 7, 3) := by decide +kernel
theorem dX12_nextToken_67 : decode cX12_nextToken 67 = .ok (.iconst 1, 1) := by decide +kernel
theorem dX12_nextToken_68 : decode cX12_nextToken 68 = .ok (.goto 15, 3) := by decide +kernel
theorem dX12_nextToken_71 : decode cX12_nextToken 71 = .ok (.iload_n 1, 1) := by decide +kernel
theorem dX12_nextToken_72 : decode cX12_nextToken 72 = .ok (.invokestatic 171, 3) := by decide +kernel
theorem dX12_nextToken_75 : decode cX12_nextToken 75 = .ok (.ifCond .eq 7, 3) := by decide +kernel
theorem dX12_nextToken_78 : decode cX12_nextToken 78 = .ok (.iconst 2, 1) := by decide +kernel
theorem dX12_nextToken_79 : decode cX12_nextToken 79 = .ok (.goto 4, 3) := by decide +kernel
theorem dX12_nextToken_82 : decode cX12_nextToken 82 = .ok (.iconst 3, 1) := by decide +kernel
theorem dX12_nextToken_83 : decode cX12_nextToken 83 = .ok (.putfield 174, 3) := by decide +kernel
theorem dX12_nextToken_86 : decode cX12_nextToken 86 = .ok (.aload_n 0, 1) := by decide +kernel
theorem dX12_nextToken_87 : decode cX12_nextToken 87 = .ok (.iconst 0, 1) := by decide +kernel
theorem dX12_nextToken_88 : decode cX12_nextToken 88 = .ok (.putfield 177, 3) := by decide +kernel
theorem dX12_nextToken_91 : decode cX12_nextToken 91 = .ok (.aload_n 0, 1) := by decide +kernel
theorem dX12_nextToken_92 : decode cX12_nextToken 92 = .ok (.getfield 174, 3) := by decide +kernel
theorem dX12_nextToken_95 : decode cX12_nextToken 95 = .ok (.iconst 1, 1) := by decide +kernel
theorem dX12_nextToken_96 : decode cX12_nextToken 96 = .ok (.if_icmp .ne 30, 3) := by decide +kernel
theorem dX12_nextToken_99 : decode cX12_nextToken 99 = .ok (.aload_n 0, 1) := by decide +kernel
theorem dX12_nextToken_100 : decode cX12_nextToken 100 = .ok (.aload_n 0, 1) := by decide +kernel
theorem dX12_nextToken_101 : decode cX12_nextToken 101 = .ok (.getfield 159, 3) := by decide +kernel
theorem dX12_nextToken_104 : decode cX12_nextToken 104 = .ok (.invokevirtual 165, 3) := by decide +kernel
theorem dX12_nextToken_107 : decode cX12_nextToken 107 = .ok (.invokestatic 168, 3) := by decide +kernel
theorem dX12_nextToken_110 : decode cX12_nextToken 110 = .ok (.ifCond .eq 16, 3) := by decide +kernel
theorem dX12_nextToken_113 : decode cX12_nextToken 113 = .ok (.aload_n 0, 1) := by decide +kernel
theorem dX12_nextToken_114 : decode cX12_nextToken 114 = .ok (.dup, 1) := by decide +kernel
theorem dX12_nextToken_115 : decode cX12_nextToken 115 = .ok (.getfield 159, 3) := by decide +kernel
theorem dX12_nextToken_118 : decode cX12_nextToken 118 = .ok (.iconst 1, 1) := by decide +kernel
theorem dX12_nextToken_119 : decode cX12_nextToken 119 = .ok (.iadd, 1) := by decide +kernel
theorem dX12_nextToken_120 : decode cX12_nextToken 120 = .ok (.putfield 159, 3) := by decide +kernel
theorem dX12_nextToken_123 : decode cX12_nextToken 123 = .ok (.goto (-32), 3) := by decide +kernel
theorem dX12_nextToken_126 : decode cX12_nextToken 126 = .ok (.aload_n 0, 1) := by decide +kernel
theorem dX12_nextToken_127 : decode cX12_nextToken 127 = .ok (.getfield 174, 3) := by decide +kernel
theorem dX12_nextToken_130 : decode cX12_nextToken 130 = .ok (.iconst 2, 1) := by decide +kernel
theorem dX12_nextToken_131 : decode cX12_nextToken 131 = .ok (.if_icmp .ne 70, 3) := by decide +kernel
theorem dX12_nextToken_134 : decode cX12_nextToken 134 = .ok (.aload_n 0, 1) := by decide +kernel
theorem dX12_nextToken_135 : decode cX12_nextToken 135 = .ok (.aload_n 0, 1) := by decide +kernel
theorem dX12_nextToken_136 : decode cX12_nextToken 136 = .ok (.getfield 159, 3) := by decide +kernel
theorem dX12_nextToken_139 : decode cX12_nextToken 139 = .ok (.invokevirtual 165, 3) := by decide +kernel
theorem dX12_nextToken_142 : decode cX12_nextToken 142 = .ok (.invokestatic 171, 3) := by decide +kernel
theorem dX12_nextToken_145 : decode cX12_nextToken 145 = .ok (.ifCond .eq 56, 3) := by decide +kernel
theorem dX12_nextToken_148 : decode cX12_nextToken 148 = .ok (.aload_n 0, 1) := by decide +kernel
theorem dX12_nextToken_149 : decode cX12_nextToken 149 = .ok (.aload_n 0, 1) := by decide +kernel
theorem dX12_nextToken_150 : decode cX12_nextToken 150 = .ok (.getfield 177, 3) := by decide +kernel
theorem dX12_nextToken_153 : decode cX12_nextToken 153 = .ok (.sipush 9999, 3) := by decide +kernel
theorem dX12_nextToken_156 : decode cX12_nextToken 156 = .ok (.if_icmp .le 10, 3) := by decide +kernel
theorem dX12_nextToken_159 : decode cX12_nextToken 159 = .ok (.aload_n 0, 1) := by decide +kernel
theorem dX12_nextToken_160 : decode cX12_nextToken 160 = .ok (.getfield 177, 3) := by decide +kernel
theorem dX12_nextToken_163 : decode cX12_nextToken 163 = .ok (.goto 22, 3) := by decide +kernel
theorem dX12_nextToken_166 : decode cX12_nextToken 166 = .ok (.bipush 10, 2) := by decide +kernel
theorem dX12_nextToken_168 : decode cX12_nextToken 168 = .ok (.aload_n 0, 1) := by decide +kernel
theorem dX12_nextToken_169 : decode cX12_nextToken 169 = .ok (.getfield 177, 3) := by decide +kernel
theorem dX12_nextToken_172 : decode cX12_nextToken 172 = .ok (.imul, 1) := by decide +kernel
theorem dX12_nextToken_173 : decode cX12_nextToken 173 = .ok (.aload_n 0, 1) := by decide +kernel
theorem dX12_nextToken_174 : decode cX12_nextToken 174 = .ok (.aload_n 0, 1) := by decide +kernel
theorem dX12_nextToken_175 : decode cX12_nextToken 175 = .ok (.getfield 159, 3) := by decide +kernel
theorem dX12_nextToken_178 : decode cX12_nextToken 178 = .ok (.invokevirtual 165, 3) := by decide +kernel
theorem dX12_nextToken_181 : decode cX12_nextToken 181 = .ok (.iadd, 1) := by decide +kernel
theorem dX12_nextToken_182 : decode cX12_nextToken 182 = .ok (.bipush 48, 2) := by decide +kernel
theorem dX12_nextToken_184 : decode cX12_nextToken 184 = .ok (.isub, 1) := by decide +kernel
theorem dX12_nextToken_185 : decode cX12_nextToken 185 = .ok (.putfield 177, 3) := by decide +kernel
theorem dX12_nextToken_188 : decode cX12_nextToken 188 = .ok (.aload_n 0, 1) := by decide +kernel
theorem dX12_nextToken_189 : decode cX12_nextToken 189 = .ok (.dup, 1) := by decide +kernel
theorem dX12_nextToken_190 : decode cX12_nextToken 190 = .ok (.getfield 159, 3) := by decide +kernel
theorem dX12_nextToken_193 : decode cX12_nextToken 193 = .ok (.iconst 1, 1) := by decide +kernel
theorem dX12_nextToken_194 : decode cX12_nextToken 194 = .ok (.iadd, 1) := by decide +kernel
theorem dX12_nextToken_195 : decode cX12_nextToken 195 = .ok (.putfield 159, 3) := by decide +kernel
theorem dX12_nextToken_198 : decode cX12_nextToken 198 = .ok (.goto (-72), 3) := by decide +kernel
theorem dX12_nextToken_201 : decode cX12_nextToken 201 = .ok (.aload_n 0, 1) := by decide +kernel
theorem dX12_nextToken_202 : decode cX12_nextToken 202 = .ok (.dup, 1) := by decide +kernel
theorem dX12_nextToken_203 : decode cX12_nextToken 203 = .ok (.getfield 159, 3) := by decide +kernel
theorem dX12_nextToken_206 : decode cX12_nextToken 206 = .ok (.aload_n 0, 1) := by decide +kernel
theorem dX12_nextToken_207 : decode cX12_nextToken 207 = .ok (.getfield 174, 3) := by decide +kernel
theorem dX12_nextToken_210 : decode cX12_nextToken 210 = .ok (.iconst 2, 1) := by decide +kernel
theorem dX12_nextToken_211 : decode cX12_nextToken 211 = .ok (.if_icmp .le 7, 3) := by decide +kernel
theorem dX12_nextToken_214 : decode cX12_nextToken 214 = .ok (.iconst 1, 1) := by decide +kernel
theorem dX12_nextToken_215 : decode cX12_nextToken 215 = .ok (.goto 4, 3) := by decide +kernel
theorem dX12_nextToken_218 : decode cX12_nextToken 218 = .ok (.iconst 0, 1) := by decide +kernel
theorem dX12_nextToken_219 : decode cX12_nextToken 219 = .ok (.iadd, 1) := by decide +kernel
theorem dX12_nextToken_220 : decode cX12_nextToken 220 = .ok (.putfield 159, 3) := by decide +kernel
theorem dX12_nextToken_223 : decode cX12_nextToken 223 = .ok (.return_, 1) := by decide +kernel
theorem dX12_needs_0 : decode cX12_needs 0 = .ok (.aload_n 0, 1) := by decide +kernel
theorem dX12_needs_1 : decode cX12_needs 1 = .ok (.aload_n 0, 1) := by decide +kernel
theorem dX12_needs_2 : decode cX12_needs 2 = .ok (.getfield 180, 3) := by decide +kernel
theorem dX12_needs_5 : decode cX12_needs 5 = .ok (.ifCond .ne 7, 3) := by decide +kernel
theorem dX12_needs_8 : decode cX12_needs 8 = .ok (.iload_n 1, 1) := by decide +kernel
theorem dX12_needs_9 : decode cX12_needs 9 = .ok (.ifCond .ne 7, 3) := by decide +kernel
theorem dX12_needs_12 : decode cX12_needs 12 = .ok (.iconst 1, 1) := by decide +kernel
theorem dX12_needs_13 : decode cX12_needs 13 = .ok (.goto 4, 3) := by decide +kernel
theorem dX12_needs_16 : decode cX12_needs 16 = .ok (.iconst 0, 1) := by decide +kernel
theorem dX12_needs_17 : decode cX12_needs 17 = .ok (.putfield 180, 3) := by decide +kernel
theorem dX12_needs_20 : decode cX12_needs 20 = .ok (.aload_n 0, 1) := by decide +kernel
theorem dX12_needs_21 : decode cX12_needs 21 = .ok (.getfield 180, 3) := by decide +kernel
theorem dX12_needs_24 : decode cX12_needs 24 = .ok (.ifCond .ne 7, 3) := by decide +kernel
theorem dX12_needs_27 : decode cX12_needs 27 = .ok (.aload_n 0, 1) := by decide +kernel
theorem dX12_needs_28 : decode cX12_needs 28 = .ok (.invokevirtual 184, 3) := by decide +kernel
theorem dX12_needs_31 : decode cX12_needs 31 = .ok (.return_, 1) := by decide +kernel
theorem dX12_isByte_0 : decode cX12_isByte 0 = .ok (.aload_n 0, 1) := by decide +kernel
theorem dX12_isByte_1 : decode cX12_isByte 1 = .ok (.getfield 174, 3) := by decide +kernel
theorem dX12_isByte_4 : decode cX12_isByte 4 = .ok (.iconst 3, 1) := by decide +kernel
theorem dX12_isByte_5 : decode cX12_isByte 5 = .ok (.if_icmp .ne 19, 3) := by decide +kernel
theorem dX12_isByte_8 : decode cX12_isByte 8 = .ok (.aload_n 0, 1) := by decide +kernel
theorem dX12_isByte_9 : decode cX12_isByte 9 = .ok (.aload_n 0, 1) := by decide +kernel
theorem dX12_isByte_10 : decode cX12_isByte 10 = .ok (.getfield 162, 3) := by decide +kernel
theorem dX12_isByte_13 : decode cX12_isByte 13 = .ok (.invokevirtual 165, 3) := by decide +kernel
theorem dX12_isByte_16 : decode cX12_isByte 16 = .ok (.iload_n 1, 1) := by decide +kernel
theorem dX12_isByte_17 : decode cX12_isByte 17 = .ok (.if_icmp .ne 7, 3) := by decide +kernel
theorem dX12_isByte_20 : decode cX12_isByte 20 = .ok (.iconst 1, 1) := by decide +kernel
theorem dX12_isByte_21 : decode cX12_isByte 21 = .ok (.goto 4, 3) := by decide +kernel
theorem dX12_isByte_24 : decode cX12_isByte 24 = .ok (.iconst 0, 1) := by decide +kernel
theorem dX12_isByte_25 : decode cX12_isByte 25 = .ok (.ireturn, 1) := by decide +kernel
theorem dX12_isName_0 : decode cX12_isName 0 = .ok (.aload_n 0, 1) := by decide +kernel
theorem dX12_isName_1 : decode cX12_isName 1 = .ok (.getfield 174, 3) := by decide +kernel
theorem dX12_isName_4 : decode cX12_isName 4 = .ok (.iconst 1, 1) := by decide +kernel
theorem dX12_isName_5 : decode cX12_isName 5 = .ok (.if_icmp .ne 76, 3) := by decide +kernel
theorem dX12_isName_8 : decode cX12_isName 8 = .ok (.aload_n 0, 1) := by decide +kernel
theorem dX12_isName_9 : decode cX12_isName 9 = .ok (.getfield 159, 3) := by decide +kernel
theorem dX12_isName_12 : decode cX12_isName 12 = .ok (.aload_n 0, 1) := by decide +kernel
theorem dX12_isName_13 : decode cX12_isName 13 = .ok (.getfield 162, 3) := by decide +kernel
theorem dX12_isName_16 : decode cX12_isName 16 = .ok (.isub, 1) := by decide +kernel
theorem dX12_isName_17 : decode cX12_isName 17 = .ok (.iload_n 1, 1) := by decide +kernel
theorem dX12_isName_18 : decode cX12_isName 18 = .ok (.if_icmp .ne 63, 3) := by decide +kernel
theorem dX12_isName_21 : decode cX12_isName 21 = .ok (.aload_n 0, 1) := by decide +kernel
theorem dX12_isName_22 : decode cX12_isName 22 = .ok (.aload_n 0, 1) := by decide +kernel
theorem dX12_isName_23 : decode cX12_isName 23 = .ok (.getfield 162, 3) := by decide +kernel
theorem dX12_isName_26 : decode cX12_isName 26 = .ok (.invokevirtual 165, 3) := by decide +kernel
theorem dX12_isName_29 : decode cX12_isName 29 = .ok (.iload_n 2, 1) := by decide +kernel
theorem dX12_isName_30 : decode cX12_isName 30 = .ok (.if_icmp .ne 51, 3) := by decide +kernel
theorem dX12_isName_33 : decode cX12_isName 33 = .ok (.aload_n 0, 1) := by decide +kernel
theorem dX12_isName_34 : decode cX12_isName 34 = .ok (.aload_n 0, 1) := by decide +kernel
theorem dX12_isName_35 : decode cX12_isName 35 = .ok (.getfield 162, 3) := by decide +kernel
theorem dX12_isName_38 : decode cX12_isName 38 = .ok (.iconst 1, 1) := by decide +kernel
theorem dX12_isName_39 : decode cX12_isName 39 = .ok (.iadd, 1) := by decide +kernel
theorem dX12_isName_40 : decode cX12_isName 40 = .ok (.invokevirtual 165, 3) := by decide +kernel
theorem dX12_isName_43 : decode cX12_isName 43 = .ok (.iload_n 3, 1) := by decide +kernel
theorem dX12_isName_44 : decode cX12_isName 44 = .ok (.if_icmp .ne 37, 3) := by decide +kernel
theorem dX12_isName_47 : decode cX12_isName 47 = .ok (.aload_n 0, 1) := by decide +kernel
theorem dX12_isName_48 : decode cX12_isName 48 = .ok (.aload_n 0, 1) := by decide +kernel
theorem dX12_isName_49 : decode cX12_isName 49 = .ok (.getfield 162, 3) := by decide +kernel
theorem dX12_isName_52 : decode cX12_isName 52 = .ok (.iconst 2, 1) := by decide +kernel
theorem dX12_isName_53 : decode cX12_isName 53 = .ok (.iadd, 1) := by decide +kernel
theorem dX12_isName_54 : decode cX12_isName 54 = .ok (.invokevirtual 165, 3) := by decide +kernel
theorem dX12_isName_57 : decode cX12_isName 57 = .ok (.iload 4, 2) := by decide +kernel
theorem dX12_isName_59 : decode cX12_isName 59 = .ok (.if_icmp .ne 22, 3) := by decide +kernel
theorem dX12_isName_62 : decode cX12_isName 62 = .ok (.aload_n 0, 1) := by decide +kernel
theorem dX12_isName_63 : decode cX12_isName 63 = .ok (.aload_n 0, 1) := by decide +kernel
theorem dX12_isName_64 : decode cX12_isName 64 = .ok (.getfield 159, 3) := by decide +kernel
theorem dX12_isName_67 : decode cX12_isName 67 = .ok (.iconst 1, 1) := by decide +kernel
theorem dX12_isName_68 : decode cX12_isName 68 = .ok (.isub, 1) := by decide +kernel
theorem dX12_isName_69 : decode cX12_isName 69 = .ok (.invokevirtual 165, 3) := by decide +kernel
theorem dX12_isName_72 : decode cX12_isName 72 = .ok (.iload 5, 2) := by decide +kernel
theorem dX12_isName_74 : decode cX12_isName 74 = .ok (.if_icmp .ne 7, 3) := by decide +kernel
theorem dX12_isName_77 : decode cX12_isName 77 = .ok (.iconst 1, 1) := by decide +kernel
theorem dX12_isName_78 : decode cX12_isName 78 = .ok (.goto 4, 3) := by decide +kernel
theorem dX12_isName_81 : decode cX12_isName 81 = .ok (.iconst 0, 1) := by decide +kernel
theorem dX12_isName_82 : decode cX12_isName 82 = .ok (.ireturn, 1) := by decide +kernel
theorem dX12_isSame_0 : decode cX12_isSame 0 = .ok (.aload_n 0, 1) := by decide +kernel
theorem dX12_isSame_1 : decode cX12_isSame 1 = .ok (.aload_n 0, 1) := by decide +kernel
theorem dX12_isSame_2 : decode cX12_isSame 2 = .ok (.getfield 162, 3) := by decide +kernel
theorem dX12_isSame_5 : decode cX12_isSame 5 = .ok (.iload_n 1, 1) := by decide +kernel
theorem dX12_isSame_6 : decode cX12_isSame 6 = .ok (.iadd, 1) := by decide +kernel
theorem dX12_isSame_7 : decode cX12_isSame 7 = .ok (.invokevirtual 165, 3) := by decide +kernel
theorem dX12_isSame_10 : decode cX12_isSame 10 = .ok (.iload_n 2, 1) := by decide +kernel
theorem dX12_isSame_11 : decode cX12_isSame 11 = .ok (.if_icmp .ne 40, 3) := by decide +kernel
theorem dX12_isSame_14 : decode cX12_isSame 14 = .ok (.aload_n 0, 1) := by decide +kernel
theorem dX12_isSame_15 : decode cX12_isSame 15 = .ok (.aload_n 0, 1) := by decide +kernel
theorem dX12_isSame_16 : decode cX12_isSame 16 = .ok (.getfield 162, 3) := by decide +kernel
theorem dX12_isSame_19 : decode cX12_isSame 19 = .ok (.iload_n 1, 1) := by decide +kernel
theorem dX12_isSame_20 : decode cX12_isSame 20 = .ok (.iadd, 1) := by decide +kernel
theorem dX12_isSame_21 : decode cX12_isSame 21 = .ok (.iconst 1, 1) := by decide +kernel
theorem dX12_isSame_22 : decode cX12_isSame 22 = .ok (.iadd, 1) := by decide +kernel
theorem dX12_isSame_23 : decode cX12_isSame 23 = .ok (.invokevirtual 165, 3) := by decide +kernel
theorem dX12_isSame_26 : decode cX12_isSame 26 = .ok (.iload_n 3, 1) := by decide +kernel
theorem dX12_isSame_27 : decode cX12_isSame 27 = .ok (.if_icmp .ne 24, 3) := by decide +kernel
theorem dX12_isSame_30 : decode cX12_isSame 30 = .ok (.aload_n 0, 1) := by decide +kernel
theorem dX12_isSame_31 : decode cX12_isSame 31 = .ok (.aload_n 0, 1) := by decide +kernel
theorem dX12_isSame_32 : decode cX12_isSame 32 = .ok (.getfield 162, 3) := by decide +kernel
theorem dX12_isSame_35 : decode cX12_isSame 35 = .ok (.iload_n 1, 1) := by decide +kernel
theorem dX12_isSame_36 : decode cX12_isSame 36 = .ok (.iadd, 1) := by decide +kernel
theorem dX12_isSame_37 : decode cX12_isSame 37 = .ok (.iconst 2, 1) := by decide +kernel
theorem dX12_isSame_38 : decode cX12_isSame 38 = .ok (.iadd, 1) := by decide +kernel
theorem dX12_isSame_39 : decode cX12_isSame 39 = .ok (.invokevirtual 165, 3) := by decide +kernel
theorem dX12_isSame_42 : decode cX12_isSame 42 = .ok (.iload 4, 2) := by decide +kernel
theorem dX12_isSame_44 : decode cX12_isSame 44 = .ok (.if_icmp .ne 7, 3) := by decide +kernel
theorem dX12_isSame_47 : decode cX12_isSame 47 = .ok (.iconst 1, 1) := by decide +kernel
theorem dX12_isSame_48 : decode cX12_isSame 48 = .ok (.goto 4, 3) := by decide +kernel
theorem dX12_isSame_51 : decode cX12_isSame 51 = .ok (.iconst 0, 1) := by decide +kernel
theorem dX12_isSame_52 : decode cX12_isSame 52 = .ok (.ireturn, 1) := by decide +kernel
theorem dX12_kindHere_0 : decode cX12_kindHere 0 = .ok (.aload_n 0, 1) := by decide +kernel
theorem dX12_kindHere_1 : decode cX12_kindHere 1 = .ok (.iconst 5, 1) := by decide +kernel
theorem dX12_kindHere_2 : decode cX12_kindHere 2 = .ok (.bipush 114, 2) := by decide +kernel
theorem dX12_kindHere_4 : decode cX12_kindHere 4 = .ok (.bipush 105, 2) := by decide +kernel
theorem dX12_kindHere_6 : decode cX12_kindHere 6 = .ok (.bipush 100, 2) := by decide +kernel
theorem dX12_kindHere_8 : decode cX12_kindHere 8 = .ok (.bipush 114, 2) := by decide +kernel
theorem dX12_kindHere_10 : decode cX12_kindHere 10 = .ok (.invokevirtual 187, 3) := by decide +kernel
theorem dX12_kindHere_13 : decode cX12_kindHere 13 = .ok (.ifCond .eq 20, 3) := by decide +kernel
theorem dX12_kindHere_16 : decode cX12_kindHere 16 = .ok (.aload_n 0, 1) := by decide +kernel
theorem dX12_kindHere_17 : decode cX12_kindHere 17 = .ok (.aload_n 0, 1) := by decide +kernel
theorem dX12_kindHere_18 : decode cX12_kindHere 18 = .ok (.getfield 162, 3) := by decide +kernel
theorem dX12_kindHere_21 : decode cX12_kindHere 21 = .ok (.iconst 3, 1) := by decide +kernel
theorem dX12_kindHere_22 : decode cX12_kindHere 22 = .ok (.iadd, 1) := by decide +kernel
theorem dX12_kindHere_23 : decode cX12_kindHere 23 = .ok (.invokevirtual 165, 3) := by decide +kernel
theorem dX12_kindHere_26 : decode cX12_kindHere 26 = .ok (.bipush 101, 2) := by decide +kernel
theorem dX12_kindHere_28 : decode cX12_kindHere 28 = .ok (.if_icmp .ne 5, 3) := by decide +kernel
theorem dX12_kindHere_31 : decode cX12_kindHere 31 = .ok (.iconst 0, 1) := by decide +kernel
theorem dX12_kindHere_32 : decode cX12_kindHere 32 = .ok (.ireturn, 1) := by decide +kernel
theorem dX12_kindHere_33 : decode cX12_kindHere 33 = .ok (.aload_n 0, 1) := by decide +kernel
theorem dX12_kindHere_34 : decode cX12_kindHere 34 = .ok (.bipush 7, 2) := by decide +kernel
theorem dX12_kindHere_36 : decode cX12_kindHere 36 = .ok (.bipush 114, 2) := by decide +kernel
theorem dX12_kindHere_38 : decode cX12_kindHere 38 = .ok (.bipush 101, 2) := by decide +kernel
theorem dX12_kindHere_40 : decode cX12_kindHere 40 = .ok (.bipush 103, 2) := by decide +kernel
theorem dX12_kindHere_42 : decode cX12_kindHere 42 = .ok (.bipush 114, 2) := by decide +kernel
theorem dX12_kindHere_44 : decode cX12_kindHere 44 = .ok (.invokevirtual 187, 3) := by decide +kernel
theorem dX12_kindHere_47 : decode cX12_kindHere 47 = .ok (.ifCond .eq 19, 3) := by decide +kernel
theorem dX12_kindHere_50 : decode cX12_kindHere 50 = .ok (.aload_n 0, 1) := by decide +kernel
theorem dX12_kindHere_51 : decode cX12_kindHere 51 = .ok (.iconst 3, 1) := by decide +kernel
theorem dX12_kindHere_52 : decode cX12_kindHere 52 = .ok (.bipush 117, 2) := by decide +kernel
theorem dX12_kindHere_54 : decode cX12_kindHere 54 = .ok (.bipush 108, 2) := by decide +kernel
theorem dX12_kindHere_56 : decode cX12_kindHere 56 = .ok (.bipush 97, 2) := by decide +kernel
theorem dX12_kindHere_58 : decode cX12_kindHere 58 = .ok (.invokevirtual 191, 3) := by decide +kernel
theorem dX12_kindHere_61 : decode cX12_kindHere 61 = .ok (.ifCond .eq 5, 3) := by decide +kernel
theorem dX12_kindHere_64 : decode cX12_kindHere 64 = .ok (.iconst 1, 1) := by decide +kernel
theorem dX12_kindHere_65 : decode cX12_kindHere 65 = .ok (.ireturn, 1) := by decide +kernel
theorem dX12_kindHere_66 : decode cX12_kindHere 66 = .ok (.aload_n 0, 1) := by decide +kernel
theorem dX12_kindHere_67 : decode cX12_kindHere 67 = .ok (.iconst 4, 1) := by decide +kernel
theorem dX12_kindHere_68 : decode cX12_kindHere 68 = .ok (.bipush 108, 2) := by decide +kernel
theorem dX12_kindHere_70 : decode cX12_kindHere 70 = .ok (.bipush 97, 2) := by decide +kernel
theorem dX12_kindHere_72 : decode cX12_kindHere 72 = .ok (.bipush 100, 2) := by decide +kernel
theorem dX12_kindHere_74 : decode cX12_kindHere 74 = .ok (.bipush 121, 2) := by decide +kernel
theorem dX12_kindHere_76 : decode cX12_kindHere 76 = .ok (.invokevirtual 187, 3) := by decide +kernel
theorem dX12_kindHere_79 : decode cX12_kindHere 79 = .ok (.ifCond .eq 5, 3) := by decide +kernel
theorem dX12_kindHere_82 : decode cX12_kindHere 82 = .ok (.iconst 2, 1) := by decide +kernel
theorem dX12_kindHere_83 : decode cX12_kindHere 83 = .ok (.ireturn, 1) := by decide +kernel
theorem dX12_kindHere_84 : decode cX12_kindHere 84 = .ok (.aload_n 0, 1) := by decide +kernel
theorem dX12_kindHere_85 : decode cX12_kindHere 85 = .ok (.bipush 6, 2) := by decide +kernel
theorem dX12_kindHere_87 : decode cX12_kindHere 87 = .ok (.bipush 102, 2) := by decide +kernel
theorem dX12_kindHere_89 : decode cX12_kindHere 89 = .ok (.bipush 97, 2) := by decide +kernel
theorem dX12_kindHere_91 : decode cX12_kindHere 91 = .ok (.bipush 116, 2) := by decide +kernel
theorem dX12_kindHere_93 : decode cX12_kindHere 93 = .ok (.bipush 114, 2) := by decide +kernel
theorem dX12_kindHere_95 : decode cX12_kindHere 95 = .ok (.invokevirtual 187, 3) := by decide +kernel
theorem dX12_kindHere_98 : decode cX12_kindHere 98 = .ok (.ifCond .eq 19, 3) := by decide +kernel
theorem dX12_kindHere_101 : decode cX12_kindHere 101 = .ok (.aload_n 0, 1) := by decide +kernel
theorem dX12_kindHere_102 : decode cX12_kindHere 102 = .ok (.iconst 2, 1) := by decide +kernel
theorem dX12_kindHere_103 : decode cX12_kindHere 103 = .ok (.bipush 116, 2) := by decide +kernel
theorem dX12_kindHere_105 : decode cX12_kindHere 105 = .ok (.bipush 104, 2) := by decide +kernel
theorem dX12_kindHere_107 : decode cX12_kindHere 107 = .ok (.bipush 101, 2) := by decide +kernel
theorem dX12_kindHere_109 : decode cX12_kindHere 109 = .ok (.invokevirtual 191, 3) := by decide +kernel
theorem dX12_kindHere_112 : decode cX12_kindHere 112 = .ok (.ifCond .eq 5, 3) := by decide +kernel
theorem dX12_kindHere_115 : decode cX12_kindHere 115 = .ok (.iconst 3, 1) := by decide +kernel
theorem dX12_kindHere_116 : decode cX12_kindHere 116 = .ok (.ireturn, 1) := by decide +kernel
theorem dX12_kindHere_117 : decode cX12_kindHere 117 = .ok (.aload_n 0, 1) := by decide +kernel
theorem dX12_kindHere_118 : decode cX12_kindHere 118 = .ok (.iconst 5, 1) := by decide +kernel
theorem dX12_kindHere_119 : decode cX12_kindHere 119 = .ok (.bipush 99, 2) := by decide +kernel
theorem dX12_kindHere_121 : decode cX12_kindHere 121 = .ok (.bipush 108, 2) := by decide +kernel
theorem dX12_kindHere_123 : decode cX12_kindHere 123 = .ok (.bipush 101, 2) := by decide +kernel
theorem dX12_kindHere_125 : decode cX12_kindHere 125 = .ok (.bipush 107, 2) := by decide +kernel
theorem dX12_kindHere_127 : decode cX12_kindHere 127 = .ok (.invokevirtual 187, 3) := by decide +kernel
theorem dX12_kindHere_130 : decode cX12_kindHere 130 = .ok (.ifCond .eq 20, 3) := by decide +kernel
theorem dX12_kindHere_133 : decode cX12_kindHere 133 = .ok (.aload_n 0, 1) := by decide +kernel
theorem dX12_kindHere_134 : decode cX12_kindHere 134 = .ok (.aload_n 0, 1) := by decide +kernel
theorem dX12_kindHere_135 : decode cX12_kindHere 135 = .ok (.getfield 162, 3) := by decide +kernel
theorem dX12_kindHere_138 : decode cX12_kindHere 138 = .ok (.iconst 3, 1) := by decide +kernel
theorem dX12_kindHere_139 : decode cX12_kindHere 139 = .ok (.iadd, 1) := by decide +kernel
theorem dX12_kindHere_140 : decode cX12_kindHere 140 = .ok (.invokevirtual 165, 3) := by decide +kernel
theorem dX12_kindHere_143 : decode cX12_kindHere 143 = .ok (.bipush 114, 2) := by decide +kernel
theorem dX12_kindHere_145 : decode cX12_kindHere 145 = .ok (.if_icmp .ne 5, 3) := by decide +kernel
theorem dX12_kindHere_148 : decode cX12_kindHere 148 = .ok (.iconst 4, 1) := by decide +kernel
theorem dX12_kindHere_149 : decode cX12_kindHere 149 = .ok (.ireturn, 1) := by decide +kernel
theorem dX12_kindHere_150 : decode cX12_kindHere 150 = .ok (.aload_n 0, 1) := by decide +kernel
theorem dX12_kindHere_151 : decode cX12_kindHere 151 = .ok (.bipush 7, 2) := by decide +kernel
theorem dX12_kindHere_153 : decode cX12_kindHere 153 = .ok (.bipush 98, 2) := by decide +kernel
theorem dX12_kindHere_155 : decode cX12_kindHere 155 = .ok (.bipush 97, 2) := by decide +kernel
theorem dX12_kindHere_157 : decode cX12_kindHere 157 = .ok (.bipush 114, 2) := by decide +kernel
theorem dX12_kindHere_159 : decode cX12_kindHere 159 = .ok (.bipush 114, 2) := by decide +kernel
theorem dX12_kindHere_161 : decode cX12_kindHere 161 = .ok (.invokevirtual 187, 3) := by decide +kernel
theorem dX12_kindHere_164 : decode cX12_kindHere 164 = .ok (.ifCond .eq 21, 3) := by decide +kernel
theorem dX12_kindHere_167 : decode cX12_kindHere 167 = .ok (.aload_n 0, 1) := by decide +kernel
theorem dX12_kindHere_168 : decode cX12_kindHere 168 = .ok (.iconst 3, 1) := by decide +kernel
theorem dX12_kindHere_169 : decode cX12_kindHere 169 = .ok (.bipush 114, 2) := by decide +kernel
theorem dX12_kindHere_171 : decode cX12_kindHere 171 = .ok (.bipush 105, 2) := by decide +kernel
theorem dX12_kindHere_173 : decode cX12_kindHere 173 = .ok (.bipush 101, 2) := by decide +kernel
theorem dX12_kindHere_175 : decode cX12_kindHere 175 = .ok (.invokevirtual 191, 3) := by decide +kernel
theorem dX12_kindHere_178 : decode cX12_kindHere 178 = .ok (.ifCond .eq 7, 3) := by decide +kernel
theorem dX12_kindHere_181 : decode cX12_kindHere 181 = .ok (.iconst 5, 1) := by decide +kernel
theorem dX12_kindHere_182 : decode cX12_kindHere 182 = .ok (.goto 4, 3) := by decide +kernel
theorem dX12_kindHere_185 : decode cX12_kindHere 185 = .ok (.iconst (-1), 1) := by decide +kernel
theorem dX12_kindHere_186 : decode cX12_kindHere 186 = .ok (.ireturn, 1) := by decide +kernel
theorem dX12_doHere_0 : decode cX12_doHere 0 = .ok (.aload_n 0, 1) := by decide +kernel
theorem dX12_doHere_1 : decode cX12_doHere 1 = .ok (.iconst 4, 1) := by decide +kernel
theorem dX12_doHere_2 : decode cX12_doHere 2 = .ok (.bipush 101, 2) := by decide +kernel
theorem dX12_doHere_4 : decode cX12_doHere 4 = .ok (.bipush 120, 2) := by decide +kernel
theorem dX12_doHere_6 : decode cX12_doHere 6 = .ok (.bipush 105, 2) := by decide +kernel
theorem dX12_doHere_8 : decode cX12_doHere 8 = .ok (.bipush 116, 2) := by decide +kernel
theorem dX12_doHere_10 : decode cX12_doHere 10 = .ok (.invokevirtual 187, 3) := by decide +kernel
theorem dX12_doHere_13 : decode cX12_doHere 13 = .ok (.ifCond .eq 5, 3) := by decide +kernel
theorem dX12_doHere_16 : decode cX12_doHere 16 = .ok (.iconst 0, 1) := by decide +kernel
theorem dX12_doHere_17 : decode cX12_doHere 17 = .ok (.ireturn, 1) := by decide +kernel
theorem dX12_doHere_18 : decode cX12_doHere 18 = .ok (.aload_n 0, 1) := by decide +kernel
theorem dX12_doHere_19 : decode cX12_doHere 19 = .ok (.iconst 4, 1) := by decide +kernel
theorem dX12_doHere_20 : decode cX12_doHere 20 = .ok (.bipush 114, 2) := by decide +kernel
theorem dX12_doHere_22 : decode cX12_doHere 22 = .ok (.bipush 105, 2) := by decide +kernel
theorem dX12_doHere_24 : decode cX12_doHere 24 = .ok (.bipush 100, 2) := by decide +kernel
theorem dX12_doHere_26 : decode cX12_doHere 26 = .ok (.bipush 101, 2) := by decide +kernel
theorem dX12_doHere_28 : decode cX12_doHere 28 = .ok (.invokevirtual 187, 3) := by decide +kernel
theorem dX12_doHere_31 : decode cX12_doHere 31 = .ok (.ifCond .eq 5, 3) := by decide +kernel
theorem dX12_doHere_34 : decode cX12_doHere 34 = .ok (.iconst 1, 1) := by decide +kernel
theorem dX12_doHere_35 : decode cX12_doHere 35 = .ok (.ireturn, 1) := by decide +kernel
theorem dX12_doHere_36 : decode cX12_doHere 36 = .ok (.aload_n 0, 1) := by decide +kernel
theorem dX12_doHere_37 : decode cX12_doHere 37 = .ok (.iconst 4, 1) := by decide +kernel
theorem dX12_doHere_38 : decode cX12_doHere 38 = .ok (.bipush 115, 2) := by decide +kernel
theorem dX12_doHere_40 : decode cX12_doHere 40 = .ok (.bipush 116, 2) := by decide +kernel
theorem dX12_doHere_42 : decode cX12_doHere 42 = .ok (.bipush 97, 2) := by decide +kernel
theorem dX12_doHere_44 : decode cX12_doHere 44 = .ok (.bipush 121, 2) := by decide +kernel
theorem dX12_doHere_46 : decode cX12_doHere 46 = .ok (.invokevirtual 187, 3) := by decide +kernel
theorem dX12_doHere_49 : decode cX12_doHere 49 = .ok (.ifCond .eq 7, 3) := by decide +kernel
theorem dX12_doHere_52 : decode cX12_doHere 52 = .ok (.iconst 2, 1) := by decide +kernel
theorem dX12_doHere_53 : decode cX12_doHere 53 = .ok (.goto 4, 3) := by decide +kernel
theorem dX12_doHere_56 : decode cX12_doHere 56 = .ok (.iconst (-1), 1) := by decide +kernel
theorem dX12_doHere_57 : decode cX12_doHere 57 = .ok (.ireturn, 1) := by decide +kernel
theorem dX12_factHere_0 : decode cX12_factHere 0 = .ok (.aload_n 0, 1) := by decide +kernel
theorem dX12_factHere_1 : decode cX12_factHere 1 = .ok (.iconst 5, 1) := by decide +kernel
theorem dX12_factHere_2 : decode cX12_factHere 2 = .ok (.bipush 116, 2) := by decide +kernel
theorem dX12_factHere_4 : decode cX12_factHere 4 = .ok (.bipush 114, 2) := by decide +kernel
theorem dX12_factHere_6 : decode cX12_factHere 6 = .ok (.bipush 97, 2) := by decide +kernel
theorem dX12_factHere_8 : decode cX12_factHere 8 = .ok (.bipush 110, 2) := by decide +kernel
theorem dX12_factHere_10 : decode cX12_factHere 10 = .ok (.invokevirtual 187, 3) := by decide +kernel
theorem dX12_factHere_13 : decode cX12_factHere 13 = .ok (.ifCond .eq 20, 3) := by decide +kernel
theorem dX12_factHere_16 : decode cX12_factHere 16 = .ok (.aload_n 0, 1) := by decide +kernel
theorem dX12_factHere_17 : decode cX12_factHere 17 = .ok (.aload_n 0, 1) := by decide +kernel
theorem dX12_factHere_18 : decode cX12_factHere 18 = .ok (.getfield 162, 3) := by decide +kernel
theorem dX12_factHere_21 : decode cX12_factHere 21 = .ok (.iconst 3, 1) := by decide +kernel
theorem dX12_factHere_22 : decode cX12_factHere 22 = .ok (.iadd, 1) := by decide +kernel
theorem dX12_factHere_23 : decode cX12_factHere 23 = .ok (.invokevirtual 165, 3) := by decide +kernel
theorem dX12_factHere_26 : decode cX12_factHere 26 = .ok (.bipush 105, 2) := by decide +kernel
theorem dX12_factHere_28 : decode cX12_factHere 28 = .ok (.if_icmp .ne 5, 3) := by decide +kernel
theorem dX12_factHere_31 : decode cX12_factHere 31 = .ok (.iconst 0, 1) := by decide +kernel
theorem dX12_factHere_32 : decode cX12_factHere 32 = .ok (.ireturn, 1) := by decide +kernel
theorem dX12_factHere_33 : decode cX12_factHere 33 = .ok (.aload_n 0, 1) := by decide +kernel
theorem dX12_factHere_34 : decode cX12_factHere 34 = .ok (.iconst 5, 1) := by decide +kernel
theorem dX12_factHere_35 : decode cX12_factHere 35 = .ok (.bipush 100, 2) := by decide +kernel
theorem dX12_factHere_37 : decode cX12_factHere 37 = .ok (.bipush 101, 2) := by decide +kernel
theorem dX12_factHere_39 : decode cX12_factHere 39 = .ok (.bipush 112, 2) := by decide +kernel
theorem dX12_factHere_41 : decode cX12_factHere 41 = .ok (.bipush 104, 2) := by decide +kernel
theorem dX12_factHere_43 : decode cX12_factHere 43 = .ok (.invokevirtual 187, 3) := by decide +kernel
theorem dX12_factHere_46 : decode cX12_factHere 46 = .ok (.ifCond .eq 20, 3) := by decide +kernel
theorem dX12_factHere_49 : decode cX12_factHere 49 = .ok (.aload_n 0, 1) := by decide +kernel
theorem dX12_factHere_50 : decode cX12_factHere 50 = .ok (.aload_n 0, 1) := by decide +kernel
theorem dX12_factHere_51 : decode cX12_factHere 51 = .ok (.getfield 162, 3) := by decide +kernel
theorem dX12_factHere_54 : decode cX12_factHere 54 = .ok (.iconst 3, 1) := by decide +kernel
theorem dX12_factHere_55 : decode cX12_factHere 55 = .ok (.iadd, 1) := by decide +kernel
theorem dX12_factHere_56 : decode cX12_factHere 56 = .ok (.invokevirtual 165, 3) := by decide +kernel
theorem dX12_factHere_59 : decode cX12_factHere 59 = .ok (.bipush 116, 2) := by decide +kernel
theorem dX12_factHere_61 : decode cX12_factHere 61 = .ok (.if_icmp .ne 5, 3) := by decide +kernel
theorem dX12_factHere_64 : decode cX12_factHere 64 = .ok (.iconst 1, 1) := by decide +kernel
theorem dX12_factHere_65 : decode cX12_factHere 65 = .ok (.ireturn, 1) := by decide +kernel
theorem dX12_factHere_66 : decode cX12_factHere 66 = .ok (.aload_n 0, 1) := by decide +kernel
theorem dX12_factHere_67 : decode cX12_factHere 67 = .ok (.iconst 4, 1) := by decide +kernel
theorem dX12_factHere_68 : decode cX12_factHere 68 = .ok (.bipush 119, 2) := by decide +kernel
theorem dX12_factHere_70 : decode cX12_factHere 70 = .ok (.bipush 105, 2) := by decide +kernel
theorem dX12_factHere_72 : decode cX12_factHere 72 = .ok (.bipush 115, 2) := by decide +kernel
theorem dX12_factHere_74 : decode cX12_factHere 74 = .ok (.bipush 104, 2) := by decide +kernel
theorem dX12_factHere_76 : decode cX12_factHere 76 = .ok (.invokevirtual 187, 3) := by decide +kernel
theorem dX12_factHere_79 : decode cX12_factHere 79 = .ok (.ifCond .eq 5, 3) := by decide +kernel
theorem dX12_factHere_82 : decode cX12_factHere 82 = .ok (.iconst 2, 1) := by decide +kernel
theorem dX12_factHere_83 : decode cX12_factHere 83 = .ok (.ireturn, 1) := by decide +kernel
theorem dX12_factHere_84 : decode cX12_factHere 84 = .ok (.aload_n 0, 1) := by decide +kernel
theorem dX12_factHere_85 : decode cX12_factHere 85 = .ok (.iconst 4, 1) := by decide +kernel
theorem dX12_factHere_86 : decode cX12_factHere 86 = .ok (.bipush 114, 2) := by decide +kernel
theorem dX12_factHere_88 : decode cX12_factHere 88 = .ok (.bipush 117, 2) := by decide +kernel
theorem dX12_factHere_90 : decode cX12_factHere 90 = .ok (.bipush 115, 2) := by decide +kernel
theorem dX12_factHere_92 : decode cX12_factHere 92 = .ok (.bipush 104, 2) := by decide +kernel
theorem dX12_factHere_94 : decode cX12_factHere 94 = .ok (.invokevirtual 187, 3) := by decide +kernel
theorem dX12_factHere_97 : decode cX12_factHere 97 = .ok (.ifCond .eq 5, 3) := by decide +kernel
theorem dX12_factHere_100 : decode cX12_factHere 100 = .ok (.iconst 3, 1) := by decide +kernel
theorem dX12_factHere_101 : decode cX12_factHere 101 = .ok (.ireturn, 1) := by decide +kernel
theorem dX12_factHere_102 : decode cX12_factHere 102 = .ok (.aload_n 0, 1) := by decide +kernel
theorem dX12_factHere_103 : decode cX12_factHere 103 = .ok (.bipush 6, 2) := by decide +kernel
theorem dX12_factHere_105 : decode cX12_factHere 105 = .ok (.bipush 110, 2) := by decide +kernel
theorem dX12_factHere_107 : decode cX12_factHere 107 = .ok (.bipush 117, 2) := by decide +kernel
theorem dX12_factHere_109 : decode cX12_factHere 109 = .ok (.bipush 109, 2) := by decide +kernel
theorem dX12_factHere_111 : decode cX12_factHere 111 = .ok (.bipush 114, 2) := by decide +kernel
theorem dX12_factHere_113 : decode cX12_factHere 113 = .ok (.invokevirtual 187, 3) := by decide +kernel
theorem dX12_factHere_116 : decode cX12_factHere 116 = .ok (.ifCond .eq 21, 3) := by decide +kernel
theorem dX12_factHere_119 : decode cX12_factHere 119 = .ok (.aload_n 0, 1) := by decide +kernel
theorem dX12_factHere_120 : decode cX12_factHere 120 = .ok (.iconst 2, 1) := by decide +kernel
theorem dX12_factHere_121 : decode cX12_factHere 121 = .ok (.bipush 109, 2) := by decide +kernel
theorem dX12_factHere_123 : decode cX12_factHere 123 = .ok (.bipush 98, 2) := by decide +kernel
theorem dX12_factHere_125 : decode cX12_factHere 125 = .ok (.bipush 101, 2) := by decide +kernel
theorem dX12_factHere_127 : decode cX12_factHere 127 = .ok (.invokevirtual 191, 3) := by decide +kernel
theorem dX12_factHere_130 : decode cX12_factHere 130 = .ok (.ifCond .eq 7, 3) := by decide +kernel
theorem dX12_factHere_133 : decode cX12_factHere 133 = .ok (.iconst 4, 1) := by decide +kernel
theorem dX12_factHere_134 : decode cX12_factHere 134 = .ok (.goto 4, 3) := by decide +kernel
theorem dX12_factHere_137 : decode cX12_factHere 137 = .ok (.iconst (-1), 1) := by decide +kernel
theorem dX12_factHere_138 : decode cX12_factHere 138 = .ok (.ireturn, 1) := by decide +kernel
theorem dX12_isTwo_0 : decode cX12_isTwo 0 = .ok (.aload_n 0, 1) := by decide +kernel
theorem dX12_isTwo_1 : decode cX12_isTwo 1 = .ok (.getfield 174, 3) := by decide +kernel
theorem dX12_isTwo_4 : decode cX12_isTwo 4 = .ok (.iconst 1, 1) := by decide +kernel
theorem dX12_isTwo_5 : decode cX12_isTwo 5 = .ok (.if_icmp .ne 46, 3) := by decide +kernel
theorem dX12_isTwo_8 : decode cX12_isTwo 8 = .ok (.aload_n 0, 1) := by decide +kernel
theorem dX12_isTwo_9 : decode cX12_isTwo 9 = .ok (.getfield 159, 3) := by decide +kernel
theorem dX12_isTwo_12 : decode cX12_isTwo 12 = .ok (.aload_n 0, 1) := by decide +kernel
theorem dX12_isTwo_13 : decode cX12_isTwo 13 = .ok (.getfield 162, 3) := by decide +kernel
theorem dX12_isTwo_16 : decode cX12_isTwo 16 = .ok (.isub, 1) := by decide +kernel
theorem dX12_isTwo_17 : decode cX12_isTwo 17 = .ok (.iconst 2, 1) := by decide +kernel
theorem dX12_isTwo_18 : decode cX12_isTwo 18 = .ok (.if_icmp .ne 33, 3) := by decide +kernel
theorem dX12_isTwo_21 : decode cX12_isTwo 21 = .ok (.aload_n 0, 1) := by decide +kernel
theorem dX12_isTwo_22 : decode cX12_isTwo 22 = .ok (.aload_n 0, 1) := by decide +kernel
theorem dX12_isTwo_23 : decode cX12_isTwo 23 = .ok (.getfield 162, 3) := by decide +kernel
theorem dX12_isTwo_26 : decode cX12_isTwo 26 = .ok (.invokevirtual 165, 3) := by decide +kernel
theorem dX12_isTwo_29 : decode cX12_isTwo 29 = .ok (.iload_n 1, 1) := by decide +kernel
theorem dX12_isTwo_30 : decode cX12_isTwo 30 = .ok (.if_icmp .ne 21, 3) := by decide +kernel
theorem dX12_isTwo_33 : decode cX12_isTwo 33 = .ok (.aload_n 0, 1) := by decide +kernel
theorem dX12_isTwo_34 : decode cX12_isTwo 34 = .ok (.aload_n 0, 1) := by decide +kernel
theorem dX12_isTwo_35 : decode cX12_isTwo 35 = .ok (.getfield 162, 3) := by decide +kernel
theorem dX12_isTwo_38 : decode cX12_isTwo 38 = .ok (.iconst 1, 1) := by decide +kernel
theorem dX12_isTwo_39 : decode cX12_isTwo 39 = .ok (.iadd, 1) := by decide +kernel
theorem dX12_isTwo_40 : decode cX12_isTwo 40 = .ok (.invokevirtual 165, 3) := by decide +kernel
theorem dX12_isTwo_43 : decode cX12_isTwo 43 = .ok (.iload_n 2, 1) := by decide +kernel
theorem dX12_isTwo_44 : decode cX12_isTwo 44 = .ok (.if_icmp .ne 7, 3) := by decide +kernel
theorem dX12_isTwo_47 : decode cX12_isTwo 47 = .ok (.iconst 1, 1) := by decide +kernel
theorem dX12_isTwo_48 : decode cX12_isTwo 48 = .ok (.goto 4, 3) := by decide +kernel
theorem dX12_isTwo_51 : decode cX12_isTwo 51 = .ok (.iconst 0, 1) := by decide +kernel
theorem dX12_isTwo_52 : decode cX12_isTwo 52 = .ok (.ireturn, 1) := by decide +kernel
theorem dX12_steps_0 : decode cX12_steps 0 = .ok (.aload_n 0, 1) := by decide +kernel
theorem dX12_steps_1 : decode cX12_steps 1 = .ok (.getfield 180, 3) := by decide +kernel
theorem dX12_steps_4 : decode cX12_steps 4 = .ok (.ifCond .ne 75, 3) := by decide +kernel
theorem dX12_steps_7 : decode cX12_steps 7 = .ok (.aload_n 0, 1) := by decide +kernel
theorem dX12_steps_8 : decode cX12_steps 8 = .ok (.getfield 7, 3) := by decide +kernel
theorem dX12_steps_11 : decode cX12_steps 11 = .ok (.sipush 128, 3) := by decide +kernel
theorem dX12_steps_14 : decode cX12_steps 14 = .ok (.iconst 3, 1) := by decide +kernel
theorem dX12_steps_15 : decode cX12_steps 15 = .ok (.aload_n 0, 1) := by decide +kernel
theorem dX12_steps_16 : decode cX12_steps 16 = .ok (.getfield 7, 3) := by decide +kernel
theorem dX12_steps_19 : decode cX12_steps 19 = .ok (.bipush 7, 2) := by decide +kernel
theorem dX12_steps_21 : decode cX12_steps 21 = .ok (.iaload, 1) := by decide +kernel
theorem dX12_steps_22 : decode cX12_steps 22 = .ok (.imul, 1) := by decide +kernel
theorem dX12_steps_23 : decode cX12_steps 23 = .ok (.iadd, 1) := by decide +kernel
theorem dX12_steps_24 : decode cX12_steps 24 = .ok (.iload_n 1, 1) := by decide +kernel
theorem dX12_steps_25 : decode cX12_steps 25 = .ok (.iastore, 1) := by decide +kernel
theorem dX12_steps_26 : decode cX12_steps 26 = .ok (.aload_n 0, 1) := by decide +kernel
theorem dX12_steps_27 : decode cX12_steps 27 = .ok (.getfield 7, 3) := by decide +kernel
theorem dX12_steps_30 : decode cX12_steps 30 = .ok (.sipush 128, 3) := by decide +kernel
theorem dX12_steps_33 : decode cX12_steps 33 = .ok (.iconst 3, 1) := by decide +kernel
theorem dX12_steps_34 : decode cX12_steps 34 = .ok (.aload_n 0, 1) := by decide +kernel
theorem dX12_steps_35 : decode cX12_steps 35 = .ok (.getfield 7, 3) := by decide +kernel
theorem dX12_steps_38 : decode cX12_steps 38 = .ok (.bipush 7, 2) := by decide +kernel
theorem dX12_steps_40 : decode cX12_steps 40 = .ok (.iaload, 1) := by decide +kernel
theorem dX12_steps_41 : decode cX12_steps 41 = .ok (.imul, 1) := by decide +kernel
theorem dX12_steps_42 : decode cX12_steps 42 = .ok (.iadd, 1) := by decide +kernel
theorem dX12_steps_43 : decode cX12_steps 43 = .ok (.iconst 1, 1) := by decide +kernel
theorem dX12_steps_44 : decode cX12_steps 44 = .ok (.iadd, 1) := by decide +kernel
theorem dX12_steps_45 : decode cX12_steps 45 = .ok (.iload_n 2, 1) := by decide +kernel
theorem dX12_steps_46 : decode cX12_steps 46 = .ok (.iastore, 1) := by decide +kernel
theorem dX12_steps_47 : decode cX12_steps 47 = .ok (.aload_n 0, 1) := by decide +kernel
theorem dX12_steps_48 : decode cX12_steps 48 = .ok (.getfield 7, 3) := by decide +kernel
theorem dX12_steps_51 : decode cX12_steps 51 = .ok (.sipush 128, 3) := by decide +kernel
theorem dX12_steps_54 : decode cX12_steps 54 = .ok (.iconst 3, 1) := by decide +kernel
theorem dX12_steps_55 : decode cX12_steps 55 = .ok (.aload_n 0, 1) := by decide +kernel
theorem dX12_steps_56 : decode cX12_steps 56 = .ok (.getfield 7, 3) := by decide +kernel
theorem dX12_steps_59 : decode cX12_steps 59 = .ok (.bipush 7, 2) := by decide +kernel
theorem dX12_steps_61 : decode cX12_steps 61 = .ok (.iaload, 1) := by decide +kernel
theorem dX12_steps_62 : decode cX12_steps 62 = .ok (.imul, 1) := by decide +kernel
theorem dX12_steps_63 : decode cX12_steps 63 = .ok (.iadd, 1) := by decide +kernel
theorem dX12_steps_64 : decode cX12_steps 64 = .ok (.iconst 2, 1) := by decide +kernel
theorem dX12_steps_65 : decode cX12_steps 65 = .ok (.iadd, 1) := by decide +kernel
theorem dX12_steps_66 : decode cX12_steps 66 = .ok (.iload_n 3, 1) := by decide +kernel
theorem dX12_steps_67 : decode cX12_steps 67 = .ok (.iastore, 1) := by decide +kernel
theorem dX12_steps_68 : decode cX12_steps 68 = .ok (.aload_n 0, 1) := by decide +kernel
theorem dX12_steps_69 : decode cX12_steps 69 = .ok (.getfield 7, 3) := by decide +kernel
theorem dX12_steps_72 : decode cX12_steps 72 = .ok (.bipush 7, 2) := by decide +kernel
theorem dX12_steps_74 : decode cX12_steps 74 = .ok (.dup2, 1) := by decide +kernel
theorem dX12_steps_75 : decode cX12_steps 75 = .ok (.iaload, 1) := by decide +kernel
theorem dX12_steps_76 : decode cX12_steps 76 = .ok (.iconst 1, 1) := by decide +kernel
theorem dX12_steps_77 : decode cX12_steps 77 = .ok (.iadd, 1) := by decide +kernel
theorem dX12_steps_78 : decode cX12_steps 78 = .ok (.iastore, 1) := by decide +kernel
theorem dX12_steps_79 : decode cX12_steps 79 = .ok (.return_, 1) := by decide +kernel
theorem dX12_valueHere_0 : decode cX12_valueHere 0 = .ok (.aload_n 0, 1) := by decide +kernel
theorem dX12_valueHere_1 : decode cX12_valueHere 1 = .ok (.invokevirtual 195, 3) := by decide +kernel
theorem dX12_valueHere_4 : decode cX12_valueHere 4 = .ok (.istore_n 1, 1) := by decide +kernel
theorem dX12_valueHere_5 : decode cX12_valueHere 5 = .ok (.iload_n 1, 1) := by decide +kernel
theorem dX12_valueHere_6 : decode cX12_valueHere 6 = .ok (.ifCond .lt 11, 3) := by decide +kernel
theorem dX12_valueHere_9 : decode cX12_valueHere 9 = .ok (.sipush 10000, 3) := by decide +kernel
theorem dX12_valueHere_12 : decode cX12_valueHere 12 = .ok (.iload_n 1, 1) := by decide +kernel
theorem dX12_valueHere_13 : decode cX12_valueHere 13 = .ok (.iadd, 1) := by decide +kernel
theorem dX12_valueHere_14 : decode cX12_valueHere 14 = .ok (.goto 7, 3) := by decide +kernel
theorem dX12_valueHere_17 : decode cX12_valueHere 17 = .ok (.aload_n 0, 1) := by decide +kernel
theorem dX12_valueHere_18 : decode cX12_valueHere 18 = .ok (.getfield 177, 3) := by decide +kernel
theorem dX12_valueHere_21 : decode cX12_valueHere 21 = .ok (.istore_n 2, 1) := by decide +kernel
theorem dX12_valueHere_22 : decode cX12_valueHere 22 = .ok (.aload_n 0, 1) := by decide +kernel
theorem dX12_valueHere_23 : decode cX12_valueHere 23 = .ok (.iload_n 1, 1) := by decide +kernel
theorem dX12_valueHere_24 : decode cX12_valueHere 24 = .ok (.ifCond .ge 24, 3) := by decide +kernel
theorem dX12_valueHere_27 : decode cX12_valueHere 27 = .ok (.aload_n 0, 1) := by decide +kernel
theorem dX12_valueHere_28 : decode cX12_valueHere 28 = .ok (.getfield 174, 3) := by decide +kernel
theorem dX12_valueHere_31 : decode cX12_valueHere 31 = .ok (.iconst 2, 1) := by decide +kernel
theorem dX12_valueHere_32 : decode cX12_valueHere 32 = .ok (.if_icmp .ne 20, 3) := by decide +kernel
theorem dX12_valueHere_35 : decode cX12_valueHere 35 = .ok (.aload_n 0, 1) := by decide +kernel
theorem dX12_valueHere_36 : decode cX12_valueHere 36 = .ok (.getfield 159, 3) := by decide +kernel
theorem dX12_valueHere_39 : decode cX12_valueHere 39 = .ok (.aload_n 0, 1) := by decide +kernel
theorem dX12_valueHere_40 : decode cX12_valueHere 40 = .ok (.getfield 162, 3) := by decide +kernel
theorem dX12_valueHere_43 : decode cX12_valueHere 43 = .ok (.isub, 1) := by decide +kernel
theorem dX12_valueHere_44 : decode cX12_valueHere 44 = .ok (.iconst 4, 1) := by decide +kernel
theorem dX12_valueHere_45 : decode cX12_valueHere 45 = .ok (.if_icmp .gt 7, 3) := by decide +kernel
theorem dX12_valueHere_48 : decode cX12_valueHere 48 = .ok (.iconst 1, 1) := by decide +kernel
theorem dX12_valueHere_49 : decode cX12_valueHere 49 = .ok (.goto 4, 3) := by decide +kernel
theorem dX12_valueHere_52 : decode cX12_valueHere 52 = .ok (.iconst 0, 1) := by decide +kernel
theorem dX12_valueHere_53 : decode cX12_valueHere 53 = .ok (.invokevirtual 198, 3) := by decide +kernel
theorem dX12_valueHere_56 : decode cX12_valueHere 56 = .ok (.iload_n 2, 1) := by decide +kernel
theorem dX12_valueHere_57 : decode cX12_valueHere 57 = .ok (.ireturn, 1) := by decide +kernel
theorem dX12_comparesHere_0 : decode cX12_comparesHere 0 = .ok (.aload_n 0, 1) := by decide +kernel
theorem dX12_comparesHere_1 : decode cX12_comparesHere 1 = .ok (.invokevirtual 202, 3) := by decide +kernel
theorem dX12_comparesHere_4 : decode cX12_comparesHere 4 = .ok (.istore_n 1, 1) := by decide +kernel
theorem dX12_comparesHere_5 : decode cX12_comparesHere 5 = .ok (.aload_n 0, 1) := by decide +kernel
theorem dX12_comparesHere_6 : decode cX12_comparesHere 6 = .ok (.bipush 60, 2) := by decide +kernel
theorem dX12_comparesHere_8 : decode cX12_comparesHere 8 = .ok (.invokevirtual 205, 3) := by decide +kernel
theorem dX12_comparesHere_11 : decode cX12_comparesHere 11 = .ok (.ifCond .eq 7, 3) := by decide +kernel
theorem dX12_comparesHere_14 : decode cX12_comparesHere 14 = .ok (.iconst 0, 1) := by decide +kernel
theorem dX12_comparesHere_15 : decode cX12_comparesHere 15 = .ok (.goto 17, 3) := by decide +kernel
theorem dX12_comparesHere_18 : decode cX12_comparesHere 18 = .ok (.aload_n 0, 1) := by decide +kernel
theorem dX12_comparesHere_19 : decode cX12_comparesHere 19 = .ok (.bipush 61, 2) := by decide +kernel
theorem dX12_comparesHere_21 : decode cX12_comparesHere 21 = .ok (.invokevirtual 205, 3) := by decide +kernel
theorem dX12_comparesHere_24 : decode cX12_comparesHere 24 = .ok (.ifCond .eq 7, 3) := by decide +kernel
theorem dX12_comparesHere_27 : decode cX12_comparesHere 27 = .ok (.iconst 1, 1) := by decide +kernel
theorem dX12_comparesHere_28 : decode cX12_comparesHere 28 = .ok (.goto 4, 3) := by decide +kernel
theorem dX12_comparesHere_31 : decode cX12_comparesHere 31 = .ok (.iconst 2, 1) := by decide +kernel
theorem dX12_comparesHere_32 : decode cX12_comparesHere 32 = .ok (.istore_n 2, 1) := by decide +kernel
theorem dX12_comparesHere_33 : decode cX12_comparesHere 33 = .ok (.aload_n 0, 1) := by decide +kernel
theorem dX12_comparesHere_34 : decode cX12_comparesHere 34 = .ok (.aload_n 0, 1) := by decide +kernel
theorem dX12_comparesHere_35 : decode cX12_comparesHere 35 = .ok (.bipush 60, 2) := by decide +kernel
theorem dX12_comparesHere_37 : decode cX12_comparesHere 37 = .ok (.invokevirtual 205, 3) := by decide +kernel
theorem dX12_comparesHere_40 : decode cX12_comparesHere 40 = .ok (.ifCond .ne 21, 3) := by decide +kernel
theorem dX12_comparesHere_43 : decode cX12_comparesHere 43 = .ok (.aload_n 0, 1) := by decide +kernel
theorem dX12_comparesHere_44 : decode cX12_comparesHere 44 = .ok (.bipush 61, 2) := by decide +kernel
theorem dX12_comparesHere_46 : decode cX12_comparesHere 46 = .ok (.invokevirtual 205, 3) := by decide +kernel
theorem dX12_comparesHere_49 : decode cX12_comparesHere 49 = .ok (.ifCond .ne 12, 3) := by decide +kernel
theorem dX12_comparesHere_52 : decode cX12_comparesHere 52 = .ok (.aload_n 0, 1) := by decide +kernel
theorem dX12_comparesHere_53 : decode cX12_comparesHere 53 = .ok (.bipush 62, 2) := by decide +kernel
theorem dX12_comparesHere_55 : decode cX12_comparesHere 55 = .ok (.invokevirtual 205, 3) := by decide +kernel
theorem dX12_comparesHere_58 : decode cX12_comparesHere 58 = .ok (.ifCond .eq 7, 3) := by decide +kernel
theorem dX12_comparesHere_61 : decode cX12_comparesHere 61 = .ok (.iconst 1, 1) := by decide +kernel
theorem dX12_comparesHere_62 : decode cX12_comparesHere 62 = .ok (.goto 4, 3) := by decide +kernel
theorem dX12_comparesHere_65 : decode cX12_comparesHere 65 = .ok (.iconst 0, 1) := by decide +kernel
theorem dX12_comparesHere_66 : decode cX12_comparesHere 66 = .ok (.invokevirtual 198, 3) := by decide +kernel
theorem dX12_comparesHere_69 : decode cX12_comparesHere 69 = .ok (.aload_n 0, 1) := by decide +kernel
theorem dX12_comparesHere_70 : decode cX12_comparesHere 70 = .ok (.invokevirtual 202, 3) := by decide +kernel
theorem dX12_comparesHere_73 : decode cX12_comparesHere 73 = .ok (.istore_n 3, 1) := by decide +kernel
theorem dX12_comparesHere_74 : decode cX12_comparesHere 74 = .ok (.aload_n 0, 1) := by decide +kernel
theorem dX12_comparesHere_75 : decode cX12_comparesHere 75 = .ok (.iload_n 2, 1) := by decide +kernel
theorem dX12_comparesHere_76 : decode cX12_comparesHere 76 = .ok (.iload_n 1, 1) := by decide +kernel
theorem dX12_comparesHere_77 : decode cX12_comparesHere 77 = .ok (.iload_n 3, 1) := by decide +kernel
theorem dX12_comparesHere_78 : decode cX12_comparesHere 78 = .ok (.invokevirtual 208, 3) := by decide +kernel
theorem dX12_comparesHere_81 : decode cX12_comparesHere 81 = .ok (.return_, 1) := by decide +kernel
theorem dX12_oneHere_0 : decode cX12_oneHere 0 = .ok (.iconst 0, 1) := by decide +kernel
theorem dX12_oneHere_1 : decode cX12_oneHere 1 = .ok (.istore_n 1, 1) := by decide +kernel
theorem dX12_oneHere_2 : decode cX12_oneHere 2 = .ok (.aload_n 0, 1) := by decide +kernel
theorem dX12_oneHere_3 : decode cX12_oneHere 3 = .ok (.getfield 180, 3) := by decide +kernel
theorem dX12_oneHere_6 : decode cX12_oneHere 6 = .ok (.ifCond .ne 29, 3) := by decide +kernel
theorem dX12_oneHere_9 : decode cX12_oneHere 9 = .ok (.aload_n 0, 1) := by decide +kernel
theorem dX12_oneHere_10 : decode cX12_oneHere 10 = .ok (.iconst 3, 1) := by decide +kernel
theorem dX12_oneHere_11 : decode cX12_oneHere 11 = .ok (.bipush 110, 2) := by decide +kernel
theorem dX12_oneHere_13 : decode cX12_oneHere 13 = .ok (.bipush 111, 2) := by decide +kernel
theorem dX12_oneHere_15 : decode cX12_oneHere 15 = .ok (.bipush 116, 2) := by decide +kernel
theorem dX12_oneHere_17 : decode cX12_oneHere 17 = .ok (.bipush 116, 2) := by decide +kernel
theorem dX12_oneHere_19 : decode cX12_oneHere 19 = .ok (.invokevirtual 187, 3) := by decide +kernel
theorem dX12_oneHere_22 : decode cX12_oneHere 22 = .ok (.ifCond .eq 13, 3) := by decide +kernel
theorem dX12_oneHere_25 : decode cX12_oneHere 25 = .ok (.iinc 1 1, 3) := by decide +kernel
theorem dX12_oneHere_28 : decode cX12_oneHere 28 = .ok (.aload_n 0, 1) := by decide +kernel
theorem dX12_oneHere_29 : decode cX12_oneHere 29 = .ok (.invokevirtual 184, 3) := by decide +kernel
theorem dX12_oneHere_32 : decode cX12_oneHere 32 = .ok (.goto (-30), 3) := by decide +kernel
theorem dX12_oneHere_35 : decode cX12_oneHere 35 = .ok (.aload_n 0, 1) := by decide +kernel
theorem dX12_oneHere_36 : decode cX12_oneHere 36 = .ok (.getfield 180, 3) := by decide +kernel
theorem dX12_oneHere_39 : decode cX12_oneHere 39 = .ok (.ifCond .ne 66, 3) := by decide +kernel
theorem dX12_oneHere_42 : decode cX12_oneHere 42 = .ok (.aload_n 0, 1) := by decide +kernel
theorem dX12_oneHere_43 : decode cX12_oneHere 43 = .ok (.bipush 40, 2) := by decide +kernel
theorem dX12_oneHere_45 : decode cX12_oneHere 45 = .ok (.invokevirtual 205, 3) := by decide +kernel
theorem dX12_oneHere_48 : decode cX12_oneHere 48 = .ok (.ifCond .eq 57, 3) := by decide +kernel
theorem dX12_oneHere_51 : decode cX12_oneHere 51 = .ok (.aload_n 0, 1) := by decide +kernel
theorem dX12_oneHere_52 : decode cX12_oneHere 52 = .ok (.aload_n 0, 1) := by decide +kernel
theorem dX12_oneHere_53 : decode cX12_oneHere 53 = .ok (.getfield 212, 3) := by decide +kernel
theorem dX12_oneHere_56 : decode cX12_oneHere 56 = .ok (.iconst 3, 1) := by decide +kernel
theorem dX12_oneHere_57 : decode cX12_oneHere 57 = .ok (.if_icmp .ge 7, 3) := by decide +kernel
theorem dX12_oneHere_60 : decode cX12_oneHere 60 = .ok (.iconst 1, 1) := by decide +kernel
theorem dX12_oneHere_61 : decode cX12_oneHere 61 = .ok (.goto 4, 3) := by decide +kernel
theorem dX12_oneHere_64 : decode cX12_oneHere 64 = .ok (.iconst 0, 1) := by decide +kernel
theorem dX12_oneHere_65 : decode cX12_oneHere 65 = .ok (.invokevirtual 198, 3) := by decide +kernel
theorem dX12_oneHere_68 : decode cX12_oneHere 68 = .ok (.aload_n 0, 1) := by decide +kernel
theorem dX12_oneHere_69 : decode cX12_oneHere 69 = .ok (.dup, 1) := by decide +kernel
theorem dX12_oneHere_70 : decode cX12_oneHere 70 = .ok (.getfield 212, 3) := by decide +kernel
theorem dX12_oneHere_73 : decode cX12_oneHere 73 = .ok (.iconst 1, 1) := by decide +kernel
theorem dX12_oneHere_74 : decode cX12_oneHere 74 = .ok (.iadd, 1) := by decide +kernel
theorem dX12_oneHere_75 : decode cX12_oneHere 75 = .ok (.putfield 212, 3) := by decide +kernel
theorem dX12_oneHere_78 : decode cX12_oneHere 78 = .ok (.aload_n 0, 1) := by decide +kernel
theorem dX12_oneHere_79 : decode cX12_oneHere 79 = .ok (.invokevirtual 215, 3) := by decide +kernel
theorem dX12_oneHere_82 : decode cX12_oneHere 82 = .ok (.aload_n 0, 1) := by decide +kernel
theorem dX12_oneHere_83 : decode cX12_oneHere 83 = .ok (.aload_n 0, 1) := by decide +kernel
theorem dX12_oneHere_84 : decode cX12_oneHere 84 = .ok (.bipush 41, 2) := by decide +kernel
theorem dX12_oneHere_86 : decode cX12_oneHere 86 = .ok (.invokevirtual 205, 3) := by decide +kernel
theorem dX12_oneHere_89 : decode cX12_oneHere 89 = .ok (.invokevirtual 198, 3) := by decide +kernel
theorem dX12_oneHere_92 : decode cX12_oneHere 92 = .ok (.aload_n 0, 1) := by decide +kernel
theorem dX12_oneHere_93 : decode cX12_oneHere 93 = .ok (.dup, 1) := by decide +kernel
theorem dX12_oneHere_94 : decode cX12_oneHere 94 = .ok (.getfield 212, 3) := by decide +kernel
theorem dX12_oneHere_97 : decode cX12_oneHere 97 = .ok (.iconst 1, 1) := by decide +kernel
theorem dX12_oneHere_98 : decode cX12_oneHere 98 = .ok (.isub, 1) := by decide +kernel
theorem dX12_oneHere_99 : decode cX12_oneHere 99 = .ok (.putfield 212, 3) := by decide +kernel
theorem dX12_oneHere_102 : decode cX12_oneHere 102 = .ok (.goto 14, 3) := by decide +kernel
theorem dX12_oneHere_105 : decode cX12_oneHere 105 = .ok (.aload_n 0, 1) := by decide +kernel
theorem dX12_oneHere_106 : decode cX12_oneHere 106 = .ok (.getfield 180, 3) := by decide +kernel
theorem dX12_oneHere_109 : decode cX12_oneHere 109 = .ok (.ifCond .ne 7, 3) := by decide +kernel
theorem dX12_oneHere_112 : decode cX12_oneHere 112 = .ok (.aload_n 0, 1) := by decide +kernel
theorem dX12_oneHere_113 : decode cX12_oneHere 113 = .ok (.invokevirtual 218, 3) := by decide +kernel
theorem dX12_oneHere_116 : decode cX12_oneHere 116 = .ok (.iload_n 1, 1) := by decide +kernel
theorem dX12_oneHere_117 : decode cX12_oneHere 117 = .ok (.iconst 2, 1) := by decide +kernel
theorem dX12_oneHere_118 : decode cX12_oneHere 118 = .ok (.irem, 1) := by decide +kernel
theorem dX12_oneHere_119 : decode cX12_oneHere 119 = .ok (.iconst 1, 1) := by decide +kernel
theorem dX12_oneHere_120 : decode cX12_oneHere 120 = .ok (.if_icmp .ne 10, 3) := by decide +kernel
theorem dX12_oneHere_123 : decode cX12_oneHere 123 = .ok (.aload_n 0, 1) := by decide +kernel
theorem dX12_oneHere_124 : decode cX12_oneHere 124 = .ok (.iconst 3, 1) := by decide +kernel
theorem dX12_oneHere_125 : decode cX12_oneHere 125 = .ok (.iconst 0, 1) := by decide +kernel
theorem dX12_oneHere_126 : decode cX12_oneHere 126 = .ok (.iconst 0, 1) := by decide +kernel
theorem dX12_oneHere_127 : decode cX12_oneHere 127 = .ok (.invokevirtual 208, 3) := by decide +kernel
theorem dX12_oneHere_130 : decode cX12_oneHere 130 = .ok (.return_, 1) := by decide +kernel
theorem dX12_allHere_0 : decode cX12_allHere 0 = .ok (.aload_n 0, 1) := by decide +kernel
theorem dX12_allHere_1 : decode cX12_allHere 1 = .ok (.invokevirtual 221, 3) := by decide +kernel
theorem dX12_allHere_4 : decode cX12_allHere 4 = .ok (.aload_n 0, 1) := by decide +kernel
theorem dX12_allHere_5 : decode cX12_allHere 5 = .ok (.getfield 180, 3) := by decide +kernel
theorem dX12_allHere_8 : decode cX12_allHere 8 = .ok (.ifCond .ne 37, 3) := by decide +kernel
theorem dX12_allHere_11 : decode cX12_allHere 11 = .ok (.aload_n 0, 1) := by decide +kernel
theorem dX12_allHere_12 : decode cX12_allHere 12 = .ok (.iconst 3, 1) := by decide +kernel
theorem dX12_allHere_13 : decode cX12_allHere 13 = .ok (.bipush 97, 2) := by decide +kernel
theorem dX12_allHere_15 : decode cX12_allHere 15 = .ok (.bipush 110, 2) := by decide +kernel
theorem dX12_allHere_17 : decode cX12_allHere 17 = .ok (.bipush 100, 2) := by decide +kernel
theorem dX12_allHere_19 : decode cX12_allHere 19 = .ok (.bipush 100, 2) := by decide +kernel
theorem dX12_allHere_21 : decode cX12_allHere 21 = .ok (.invokevirtual 187, 3) := by decide +kernel
theorem dX12_allHere_24 : decode cX12_allHere 24 = .ok (.ifCond .eq 21, 3) := by decide +kernel
theorem dX12_allHere_27 : decode cX12_allHere 27 = .ok (.aload_n 0, 1) := by decide +kernel
theorem dX12_allHere_28 : decode cX12_allHere 28 = .ok (.invokevirtual 184, 3) := by decide +kernel
theorem dX12_allHere_31 : decode cX12_allHere 31 = .ok (.aload_n 0, 1) := by decide +kernel
theorem dX12_allHere_32 : decode cX12_allHere 32 = .ok (.invokevirtual 221, 3) := by decide +kernel
theorem dX12_allHere_35 : decode cX12_allHere 35 = .ok (.aload_n 0, 1) := by decide +kernel
theorem dX12_allHere_36 : decode cX12_allHere 36 = .ok (.iconst 4, 1) := by decide +kernel
theorem dX12_allHere_37 : decode cX12_allHere 37 = .ok (.iconst 0, 1) := by decide +kernel
theorem dX12_allHere_38 : decode cX12_allHere 38 = .ok (.iconst 0, 1) := by decide +kernel
theorem dX12_allHere_39 : decode cX12_allHere 39 = .ok (.invokevirtual 208, 3) := by decide +kernel
theorem dX12_allHere_42 : decode cX12_allHere 42 = .ok (.goto (-38), 3) := by decide +kernel
theorem dX12_allHere_45 : decode cX12_allHere 45 = .ok (.return_, 1) := by decide +kernel
theorem dX12_condHere_0 : decode cX12_condHere 0 = .ok (.aload_n 0, 1) := by decide +kernel
theorem dX12_condHere_1 : decode cX12_condHere 1 = .ok (.invokevirtual 224, 3) := by decide +kernel
theorem dX12_condHere_4 : decode cX12_condHere 4 = .ok (.aload_n 0, 1) := by decide +kernel
theorem dX12_condHere_5 : decode cX12_condHere 5 = .ok (.getfield 180, 3) := by decide +kernel
theorem dX12_condHere_8 : decode cX12_condHere 8 = .ok (.ifCond .ne 32, 3) := by decide +kernel
theorem dX12_condHere_11 : decode cX12_condHere 11 = .ok (.aload_n 0, 1) := by decide +kernel
theorem dX12_condHere_12 : decode cX12_condHere 12 = .ok (.bipush 111, 2) := by decide +kernel
theorem dX12_condHere_14 : decode cX12_condHere 14 = .ok (.bipush 114, 2) := by decide +kernel
theorem dX12_condHere_16 : decode cX12_condHere 16 = .ok (.invokevirtual 227, 3) := by decide +kernel
theorem dX12_condHere_19 : decode cX12_condHere 19 = .ok (.ifCond .eq 21, 3) := by decide +kernel
theorem dX12_condHere_22 : decode cX12_condHere 22 = .ok (.aload_n 0, 1) := by decide +kernel
theorem dX12_condHere_23 : decode cX12_condHere 23 = .ok (.invokevirtual 184, 3) := by decide +kernel
theorem dX12_condHere_26 : decode cX12_condHere 26 = .ok (.aload_n 0, 1) := by decide +kernel
theorem dX12_condHere_27 : decode cX12_condHere 27 = .ok (.invokevirtual 224, 3) := by decide +kernel
theorem dX12_condHere_30 : decode cX12_condHere 30 = .ok (.aload_n 0, 1) := by decide +kernel
theorem dX12_condHere_31 : decode cX12_condHere 31 = .ok (.iconst 5, 1) := by decide +kernel
theorem dX12_condHere_32 : decode cX12_condHere 32 = .ok (.iconst 0, 1) := by decide +kernel
theorem dX12_condHere_33 : decode cX12_condHere 33 = .ok (.iconst 0, 1) := by decide +kernel
theorem dX12_condHere_34 : decode cX12_condHere 34 = .ok (.invokevirtual 208, 3) := by decide +kernel
theorem dX12_condHere_37 : decode cX12_condHere 37 = .ok (.goto (-33), 3) := by decide +kernel
theorem dX12_condHere_40 : decode cX12_condHere 40 = .ok (.return_, 1) := by decide +kernel
theorem dX12_ruleHere_0 : decode cX12_ruleHere 0 = .ok (.bipush 72, 2) := by decide +kernel
theorem dX12_ruleHere_2 : decode cX12_ruleHere 2 = .ok (.iconst 4, 1) := by decide +kernel
theorem dX12_ruleHere_3 : decode cX12_ruleHere 3 = .ok (.aload_n 0, 1) := by decide +kernel
theorem dX12_ruleHere_4 : decode cX12_ruleHere 4 = .ok (.getfield 7, 3) := by decide +kernel
theorem dX12_ruleHere_7 : decode cX12_ruleHere 7 = .ok (.iconst 5, 1) := by decide +kernel
theorem dX12_ruleHere_8 : decode cX12_ruleHere 8 = .ok (.iaload, 1) := by decide +kernel
theorem dX12_ruleHere_9 : decode cX12_ruleHere 9 = .ok (.imul, 1) := by decide +kernel
theorem dX12_ruleHere_10 : decode cX12_ruleHere 10 = .ok (.iadd, 1) := by decide +kernel
theorem dX12_ruleHere_11 : decode cX12_ruleHere 11 = .ok (.istore_n 1, 1) := by decide +kernel
theorem dX12_ruleHere_12 : decode cX12_ruleHere 12 = .ok (.aload_n 0, 1) := by decide +kernel
theorem dX12_ruleHere_13 : decode cX12_ruleHere 13 = .ok (.invokevirtual 230, 3) := by decide +kernel
theorem dX12_ruleHere_16 : decode cX12_ruleHere 16 = .ok (.istore_n 2, 1) := by decide +kernel
theorem dX12_ruleHere_17 : decode cX12_ruleHere 17 = .ok (.aload_n 0, 1) := by decide +kernel
theorem dX12_ruleHere_18 : decode cX12_ruleHere 18 = .ok (.iload_n 2, 1) := by decide +kernel
theorem dX12_ruleHere_19 : decode cX12_ruleHere 19 = .ok (.ifCond .lt 18, 3) := by decide +kernel
theorem dX12_ruleHere_22 : decode cX12_ruleHere 22 = .ok (.aload_n 0, 1) := by decide +kernel
theorem dX12_ruleHere_23 : decode cX12_ruleHere 23 = .ok (.getfield 7, 3) := by decide +kernel
theorem dX12_ruleHere_26 : decode cX12_ruleHere 26 = .ok (.iconst 5, 1) := by decide +kernel
theorem dX12_ruleHere_27 : decode cX12_ruleHere 27 = .ok (.iaload, 1) := by decide +kernel
theorem dX12_ruleHere_28 : decode cX12_ruleHere 28 = .ok (.bipush 8, 2) := by decide +kernel
theorem dX12_ruleHere_30 : decode cX12_ruleHere 30 = .ok (.if_icmp .ge 7, 3) := by decide +kernel
theorem dX12_ruleHere_33 : decode cX12_ruleHere 33 = .ok (.iconst 1, 1) := by decide +kernel
theorem dX12_ruleHere_34 : decode cX12_ruleHere 34 = .ok (.goto 4, 3) := by decide +kernel
theorem dX12_ruleHere_37 : decode cX12_ruleHere 37 = .ok (.iconst 0, 1) := by decide +kernel
theorem dX12_ruleHere_38 : decode cX12_ruleHere 38 = .ok (.invokevirtual 198, 3) := by decide +kernel
theorem dX12_ruleHere_41 : decode cX12_ruleHere 41 = .ok (.aload_n 0, 1) := by decide +kernel
theorem dX12_ruleHere_42 : decode cX12_ruleHere 42 = .ok (.getfield 7, 3) := by decide +kernel
theorem dX12_ruleHere_45 : decode cX12_ruleHere 45 = .ok (.bipush 7, 2) := by decide +kernel
theorem dX12_ruleHere_47 : decode cX12_ruleHere 47 = .ok (.iaload, 1) := by decide +kernel
