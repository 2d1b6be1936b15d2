theorem dX12_ruleHere_48 : decode cX12_ruleHere 48 = .ok (.istore_n 3, 1) := by decide +kernel
theorem dX12_ruleHere_49 : decode cX12_ruleHere 49 = .ok (.aload_n 0, 1) := by decide +kernel
theorem dX12_ruleHere_50 : decode cX12_ruleHere 50 = .ok (.getfield 180, 3) := by decide +kernel
theorem dX12_ruleHere_53 : decode cX12_ruleHere 53 = .ok (.ifCond .ne 27, 3) := by decide +kernel
theorem dX12_ruleHere_56 : decode cX12_ruleHere 56 = .ok (.aload_n 0, 1) := by decide +kernel
theorem dX12_ruleHere_57 : decode cX12_ruleHere 57 = .ok (.bipush 105, 2) := by decide +kernel
theorem dX12_ruleHere_59 : decode cX12_ruleHere 59 = .ok (.bipush 102, 2) := by decide +kernel
theorem dX12_ruleHere_61 : decode cX12_ruleHere 61 = .ok (.invokevirtual 227, 3) := by decide +kernel
theorem dX12_ruleHere_64 : decode cX12_ruleHere 64 = .ok (.ifCond .eq 16, 3) := by decide +kernel
theorem dX12_ruleHere_67 : decode cX12_ruleHere 67 = .ok (.aload_n 0, 1) := by decide +kernel
theorem dX12_ruleHere_68 : decode cX12_ruleHere 68 = .ok (.invokevirtual 184, 3) := by decide +kernel
theorem dX12_ruleHere_71 : decode cX12_ruleHere 71 = .ok (.aload_n 0, 1) := by decide +kernel
theorem dX12_ruleHere_72 : decode cX12_ruleHere 72 = .ok (.iconst 0, 1) := by decide +kernel
theorem dX12_ruleHere_73 : decode cX12_ruleHere 73 = .ok (.putfield 212, 3) := by decide +kernel
theorem dX12_ruleHere_76 : decode cX12_ruleHere 76 = .ok (.aload_n 0, 1) := by decide +kernel
theorem dX12_ruleHere_77 : decode cX12_ruleHere 77 = .ok (.invokevirtual 215, 3) := by decide +kernel
theorem dX12_ruleHere_80 : decode cX12_ruleHere 80 = .ok (.aload_n 0, 1) := by decide +kernel
theorem dX12_ruleHere_81 : decode cX12_ruleHere 81 = .ok (.invokevirtual 233, 3) := by decide +kernel
theorem dX12_ruleHere_84 : decode cX12_ruleHere 84 = .ok (.istore 4, 2) := by decide +kernel
theorem dX12_ruleHere_86 : decode cX12_ruleHere 86 = .ok (.aload_n 0, 1) := by decide +kernel
theorem dX12_ruleHere_87 : decode cX12_ruleHere 87 = .ok (.iload 4, 2) := by decide +kernel
theorem dX12_ruleHere_89 : decode cX12_ruleHere 89 = .ok (.ifCond .lt 7, 3) := by decide +kernel
theorem dX12_ruleHere_92 : decode cX12_ruleHere 92 = .ok (.iconst 1, 1) := by decide +kernel
theorem dX12_ruleHere_93 : decode cX12_ruleHere 93 = .ok (.goto 4, 3) := by decide +kernel
theorem dX12_ruleHere_96 : decode cX12_ruleHere 96 = .ok (.iconst 0, 1) := by decide +kernel
theorem dX12_ruleHere_97 : decode cX12_ruleHere 97 = .ok (.invokevirtual 198, 3) := by decide +kernel
theorem dX12_ruleHere_100 : decode cX12_ruleHere 100 = .ok (.aload_n 0, 1) := by decide +kernel
theorem dX12_ruleHere_101 : decode cX12_ruleHere 101 = .ok (.aload_n 0, 1) := by decide +kernel
theorem dX12_ruleHere_102 : decode cX12_ruleHere 102 = .ok (.bipush 59, 2) := by decide +kernel
theorem dX12_ruleHere_104 : decode cX12_ruleHere 104 = .ok (.invokevirtual 205, 3) := by decide +kernel
theorem dX12_ruleHere_107 : decode cX12_ruleHere 107 = .ok (.invokevirtual 198, 3) := by decide +kernel
theorem dX12_ruleHere_110 : decode cX12_ruleHere 110 = .ok (.aload_n 0, 1) := by decide +kernel
theorem dX12_ruleHere_111 : decode cX12_ruleHere 111 = .ok (.getfield 180, 3) := by decide +kernel
theorem dX12_ruleHere_114 : decode cX12_ruleHere 114 = .ok (.ifCond .ne 54, 3) := by decide +kernel
theorem dX12_ruleHere_117 : decode cX12_ruleHere 117 = .ok (.aload_n 0, 1) := by decide +kernel
theorem dX12_ruleHere_118 : decode cX12_ruleHere 118 = .ok (.getfield 7, 3) := by decide +kernel
theorem dX12_ruleHere_121 : decode cX12_ruleHere 121 = .ok (.iload_n 1, 1) := by decide +kernel
theorem dX12_ruleHere_122 : decode cX12_ruleHere 122 = .ok (.iload_n 2, 1) := by decide +kernel
theorem dX12_ruleHere_123 : decode cX12_ruleHere 123 = .ok (.iastore, 1) := by decide +kernel
theorem dX12_ruleHere_124 : decode cX12_ruleHere 124 = .ok (.aload_n 0, 1) := by decide +kernel
theorem dX12_ruleHere_125 : decode cX12_ruleHere 125 = .ok (.getfield 7, 3) := by decide +kernel
theorem dX12_ruleHere_128 : decode cX12_ruleHere 128 = .ok (.iload_n 1, 1) := by decide +kernel
theorem dX12_ruleHere_129 : decode cX12_ruleHere 129 = .ok (.iconst 1, 1) := by decide +kernel
theorem dX12_ruleHere_130 : decode cX12_ruleHere 130 = .ok (.iadd, 1) := by decide +kernel
theorem dX12_ruleHere_131 : decode cX12_ruleHere 131 = .ok (.iload 4, 2) := by decide +kernel
theorem dX12_ruleHere_133 : decode cX12_ruleHere 133 = .ok (.iastore, 1) := by decide +kernel
theorem dX12_ruleHere_134 : decode cX12_ruleHere 134 = .ok (.aload_n 0, 1) := by decide +kernel
theorem dX12_ruleHere_135 : decode cX12_ruleHere 135 = .ok (.getfield 7, 3) := by decide +kernel
theorem dX12_ruleHere_138 : decode cX12_ruleHere 138 = .ok (.iload_n 1, 1) := by decide +kernel
theorem dX12_ruleHere_139 : decode cX12_ruleHere 139 = .ok (.iconst 2, 1) := by decide +kernel
theorem dX12_ruleHere_140 : decode cX12_ruleHere 140 = .ok (.iadd, 1) := by decide +kernel
theorem dX12_ruleHere_141 : decode cX12_ruleHere 141 = .ok (.iload_n 3, 1) := by decide +kernel
theorem dX12_ruleHere_142 : decode cX12_ruleHere 142 = .ok (.iastore, 1) := by decide +kernel
theorem dX12_ruleHere_143 : decode cX12_ruleHere 143 = .ok (.aload_n 0, 1) := by decide +kernel
theorem dX12_ruleHere_144 : decode cX12_ruleHere 144 = .ok (.getfield 7, 3) := by decide +kernel
theorem dX12_ruleHere_147 : decode cX12_ruleHere 147 = .ok (.iload_n 1, 1) := by decide +kernel
theorem dX12_ruleHere_148 : decode cX12_ruleHere 148 = .ok (.iconst 3, 1) := by decide +kernel
theorem dX12_ruleHere_149 : decode cX12_ruleHere 149 = .ok (.iadd, 1) := by decide +kernel
theorem dX12_ruleHere_150 : decode cX12_ruleHere 150 = .ok (.aload_n 0, 1) := by decide +kernel
theorem dX12_ruleHere_151 : decode cX12_ruleHere 151 = .ok (.getfield 7, 3) := by decide +kernel
theorem dX12_ruleHere_154 : decode cX12_ruleHere 154 = .ok (.bipush 7, 2) := by decide +kernel
theorem dX12_ruleHere_156 : decode cX12_ruleHere 156 = .ok (.iaload, 1) := by decide +kernel
theorem dX12_ruleHere_157 : decode cX12_ruleHere 157 = .ok (.iastore, 1) := by decide +kernel
theorem dX12_ruleHere_158 : decode cX12_ruleHere 158 = .ok (.aload_n 0, 1) := by decide +kernel
theorem dX12_ruleHere_159 : decode cX12_ruleHere 159 = .ok (.getfield 7, 3) := by decide +kernel
theorem dX12_ruleHere_162 : decode cX12_ruleHere 162 = .ok (.iconst 5, 1) := by decide +kernel
theorem dX12_ruleHere_163 : decode cX12_ruleHere 163 = .ok (.dup2, 1) := by decide +kernel
theorem dX12_ruleHere_164 : decode cX12_ruleHere 164 = .ok (.iaload, 1) := by decide +kernel
theorem dX12_ruleHere_165 : decode cX12_ruleHere 165 = .ok (.iconst 1, 1) := by decide +kernel
theorem dX12_ruleHere_166 : decode cX12_ruleHere 166 = .ok (.iadd, 1) := by decide +kernel
theorem dX12_ruleHere_167 : decode cX12_ruleHere 167 = .ok (.iastore, 1) := by decide +kernel
theorem dX12_ruleHere_168 : decode cX12_ruleHere 168 = .ok (.return_, 1) := by decide +kernel
theorem dX12_rules_0 : decode cX12_rules 0 = .ok (.iconst 0, 1) := by decide +kernel
theorem dX12_rules_1 : decode cX12_rules 1 = .ok (.istore_n 1, 1) := by decide +kernel
theorem dX12_rules_2 : decode cX12_rules 2 = .ok (.iload_n 1, 1) := by decide +kernel
theorem dX12_rules_3 : decode cX12_rules 3 = .ok (.sipush 578, 3) := by decide +kernel
theorem dX12_rules_6 : decode cX12_rules 6 = .ok (.if_icmp .ge 21, 3) := by decide +kernel
theorem dX12_rules_9 : decode cX12_rules 9 = .ok (.aload_n 0, 1) := by decide +kernel
theorem dX12_rules_10 : decode cX12_rules 10 = .ok (.getfield 22, 3) := by decide +kernel
theorem dX12_rules_13 : decode cX12_rules 13 = .ok (.iload_n 1, 1) := by decide +kernel
theorem dX12_rules_14 : decode cX12_rules 14 = .ok (.aload_n 0, 1) := by decide +kernel
theorem dX12_rules_15 : decode cX12_rules 15 = .ok (.getfield 7, 3) := by decide +kernel
theorem dX12_rules_18 : decode cX12_rules 18 = .ok (.iload_n 1, 1) := by decide +kernel
theorem dX12_rules_19 : decode cX12_rules 19 = .ok (.iaload, 1) := by decide +kernel
theorem dX12_rules_20 : decode cX12_rules 20 = .ok (.iastore, 1) := by decide +kernel
theorem dX12_rules_21 : decode cX12_rules 21 = .ok (.iinc 1 1, 3) := by decide +kernel
theorem dX12_rules_24 : decode cX12_rules 24 = .ok (.goto (-22), 3) := by decide +kernel
theorem dX12_rules_27 : decode cX12_rules 27 = .ok (.aload_n 0, 1) := by decide +kernel
theorem dX12_rules_28 : decode cX12_rules 28 = .ok (.getfield 7, 3) := by decide +kernel
theorem dX12_rules_31 : decode cX12_rules 31 = .ok (.iconst 5, 1) := by decide +kernel
theorem dX12_rules_32 : decode cX12_rules 32 = .ok (.iconst 0, 1) := by decide +kernel
theorem dX12_rules_33 : decode cX12_rules 33 = .ok (.iastore, 1) := by decide +kernel
theorem dX12_rules_34 : decode cX12_rules 34 = .ok (.aload_n 0, 1) := by decide +kernel
theorem dX12_rules_35 : decode cX12_rules 35 = .ok (.getfield 7, 3) := by decide +kernel
theorem dX12_rules_38 : decode cX12_rules 38 = .ok (.bipush 7, 2) := by decide +kernel
theorem dX12_rules_40 : decode cX12_rules 40 = .ok (.iconst 0, 1) := by decide +kernel
theorem dX12_rules_41 : decode cX12_rules 41 = .ok (.iastore, 1) := by decide +kernel
theorem dX12_rules_42 : decode cX12_rules 42 = .ok (.aload_n 0, 1) := by decide +kernel
theorem dX12_rules_43 : decode cX12_rules 43 = .ok (.iconst 0, 1) := by decide +kernel
theorem dX12_rules_44 : decode cX12_rules 44 = .ok (.putfield 159, 3) := by decide +kernel
theorem dX12_rules_47 : decode cX12_rules 47 = .ok (.aload_n 0, 1) := by decide +kernel
theorem dX12_rules_48 : decode cX12_rules 48 = .ok (.iconst 0, 1) := by decide +kernel
theorem dX12_rules_49 : decode cX12_rules 49 = .ok (.putfield 180, 3) := by decide +kernel
theorem dX12_rules_52 : decode cX12_rules 52 = .ok (.aload_n 0, 1) := by decide +kernel
theorem dX12_rules_53 : decode cX12_rules 53 = .ok (.invokevirtual 184, 3) := by decide +kernel
theorem dX12_rules_56 : decode cX12_rules 56 = .ok (.aload_n 0, 1) := by decide +kernel
theorem dX12_rules_57 : decode cX12_rules 57 = .ok (.getfield 180, 3) := by decide +kernel
theorem dX12_rules_60 : decode cX12_rules 60 = .ok (.ifCond .ne 17, 3) := by decide +kernel
theorem dX12_rules_63 : decode cX12_rules 63 = .ok (.aload_n 0, 1) := by decide +kernel
theorem dX12_rules_64 : decode cX12_rules 64 = .ok (.getfield 174, 3) := by decide +kernel
theorem dX12_rules_67 : decode cX12_rules 67 = .ok (.ifCond .eq 10, 3) := by decide +kernel
theorem dX12_rules_70 : decode cX12_rules 70 = .ok (.aload_n 0, 1) := by decide +kernel
theorem dX12_rules_71 : decode cX12_rules 71 = .ok (.invokevirtual 236, 3) := by decide +kernel
theorem dX12_rules_74 : decode cX12_rules 74 = .ok (.goto (-18), 3) := by decide +kernel
theorem dX12_rules_77 : decode cX12_rules 77 = .ok (.aload_n 0, 1) := by decide +kernel
theorem dX12_rules_78 : decode cX12_rules 78 = .ok (.iconst 0, 1) := by decide +kernel
theorem dX12_rules_79 : decode cX12_rules 79 = .ok (.putfield 153, 3) := by decide +kernel
theorem dX12_rules_82 : decode cX12_rules 82 = .ok (.iconst 0, 1) := by decide +kernel
theorem dX12_rules_83 : decode cX12_rules 83 = .ok (.istore_n 1, 1) := by decide +kernel
theorem dX12_rules_84 : decode cX12_rules 84 = .ok (.iload_n 1, 1) := by decide +kernel
theorem dX12_rules_85 : decode cX12_rules 85 = .ok (.sipush 578, 3) := by decide +kernel
theorem dX12_rules_88 : decode cX12_rules 88 = .ok (.if_icmp .ge 28, 3) := by decide +kernel
theorem dX12_rules_91 : decode cX12_rules 91 = .ok (.aload_n 0, 1) := by decide +kernel
theorem dX12_rules_92 : decode cX12_rules 92 = .ok (.getfield 180, 3) := by decide +kernel
theorem dX12_rules_95 : decode cX12_rules 95 = .ok (.ifCond .eq 21, 3) := by decide +kernel
theorem dX12_rules_98 : decode cX12_rules 98 = .ok (.aload_n 0, 1) := by decide +kernel
theorem dX12_rules_99 : decode cX12_rules 99 = .ok (.getfield 7, 3) := by decide +kernel
theorem dX12_rules_102 : decode cX12_rules 102 = .ok (.iload_n 1, 1) := by decide +kernel
theorem dX12_rules_103 : decode cX12_rules 103 = .ok (.aload_n 0, 1) := by decide +kernel
theorem dX12_rules_104 : decode cX12_rules 104 = .ok (.getfield 22, 3) := by decide +kernel
theorem dX12_rules_107 : decode cX12_rules 107 = .ok (.iload_n 1, 1) := by decide +kernel
theorem dX12_rules_108 : decode cX12_rules 108 = .ok (.iaload, 1) := by decide +kernel
theorem dX12_rules_109 : decode cX12_rules 109 = .ok (.iastore, 1) := by decide +kernel
theorem dX12_rules_110 : decode cX12_rules 110 = .ok (.iinc 1 1, 3) := by decide +kernel
theorem dX12_rules_113 : decode cX12_rules 113 = .ok (.goto (-29), 3) := by decide +kernel
theorem dX12_rules_116 : decode cX12_rules 116 = .ok (.aload_n 0, 1) := by decide +kernel
theorem dX12_rules_117 : decode cX12_rules 117 = .ok (.getfield 180, 3) := by decide +kernel
theorem dX12_rules_120 : decode cX12_rules 120 = .ok (.ifCond .eq 13, 3) := by decide +kernel
theorem dX12_rules_123 : decode cX12_rules 123 = .ok (.bipush (-100), 2) := by decide +kernel
theorem dX12_rules_125 : decode cX12_rules 125 = .ok (.aload_n 0, 1) := by decide +kernel
theorem dX12_rules_126 : decode cX12_rules 126 = .ok (.getfield 162, 3) := by decide +kernel
theorem dX12_rules_129 : decode cX12_rules 129 = .ok (.isub, 1) := by decide +kernel
theorem dX12_rules_130 : decode cX12_rules 130 = .ok (.goto 9, 3) := by decide +kernel
theorem dX12_rules_133 : decode cX12_rules 133 = .ok (.aload_n 0, 1) := by decide +kernel
theorem dX12_rules_134 : decode cX12_rules 134 = .ok (.getfield 7, 3) := by decide +kernel
theorem dX12_rules_137 : decode cX12_rules 137 = .ok (.iconst 5, 1) := by decide +kernel
theorem dX12_rules_138 : decode cX12_rules 138 = .ok (.iaload, 1) := by decide +kernel
theorem dX12_rules_139 : decode cX12_rules 139 = .ok (.ireturn, 1) := by decide +kernel
theorem dX12_does_0 : decode cX12_does 0 = .ok (.bipush 8, 2) := by decide +kernel
theorem dX12_does_2 : decode cX12_does 2 = .ok (.bipush 6, 2) := by decide +kernel
theorem dX12_does_4 : decode cX12_does 4 = .ok (.iload_n 1, 1) := by decide +kernel
theorem dX12_does_5 : decode cX12_does 5 = .ok (.imul, 1) := by decide +kernel
theorem dX12_does_6 : decode cX12_does 6 = .ok (.iadd, 1) := by decide +kernel
theorem dX12_does_7 : decode cX12_does 7 = .ok (.istore_n 3, 1) := by decide +kernel
theorem dX12_does_8 : decode cX12_does 8 = .ok (.iload_n 2, 1) := by decide +kernel
theorem dX12_does_9 : decode cX12_does 9 = .ok (.ifCond .ne 31, 3) := by decide +kernel
theorem dX12_does_12 : decode cX12_does 12 = .ok (.aload_n 0, 1) := by decide +kernel
theorem dX12_does_13 : decode cX12_does 13 = .ok (.iload_n 1, 1) := by decide +kernel
theorem dX12_does_14 : decode cX12_does 14 = .ok (.invokevirtual 110, 3) := by decide +kernel
theorem dX12_does_17 : decode cX12_does 17 = .ok (.istore 4, 2) := by decide +kernel
theorem dX12_does_19 : decode cX12_does 19 = .ok (.aload_n 0, 1) := by decide +kernel
theorem dX12_does_20 : decode cX12_does 20 = .ok (.getfield 7, 3) := by decide +kernel
theorem dX12_does_23 : decode cX12_does 23 = .ok (.iload_n 3, 1) := by decide +kernel
theorem dX12_does_24 : decode cX12_does 24 = .ok (.iconst 4, 1) := by decide +kernel
theorem dX12_does_25 : decode cX12_does 25 = .ok (.iadd, 1) := by decide +kernel
theorem dX12_does_26 : decode cX12_does 26 = .ok (.iload 4, 2) := by decide +kernel
theorem dX12_does_28 : decode cX12_does 28 = .ok (.ifCond .le 7, 3) := by decide +kernel
theorem dX12_does_31 : decode cX12_does 31 = .ok (.iconst 1, 1) := by decide +kernel
theorem dX12_does_32 : decode cX12_does 32 = .ok (.goto 4, 3) := by decide +kernel
theorem dX12_does_35 : decode cX12_does 35 = .ok (.iconst 0, 1) := by decide +kernel
theorem dX12_does_36 : decode cX12_does 36 = .ok (.iastore, 1) := by decide +kernel
theorem dX12_does_37 : decode cX12_does 37 = .ok (.iload 4, 2) := by decide +kernel
theorem dX12_does_39 : decode cX12_does 39 = .ok (.ireturn, 1) := by decide +kernel
theorem dX12_does_40 : decode cX12_does 40 = .ok (.iload_n 2, 1) := by decide +kernel
theorem dX12_does_41 : decode cX12_does 41 = .ok (.iconst 2, 1) := by decide +kernel
theorem dX12_does_42 : decode cX12_does 42 = .ok (.if_icmp .ne 5, 3) := by decide +kernel
theorem dX12_does_45 : decode cX12_does 45 = .ok (.iconst 0, 1) := by decide +kernel
theorem dX12_does_46 : decode cX12_does 46 = .ok (.ireturn, 1) := by decide +kernel
theorem dX12_does_47 : decode cX12_does 47 = .ok (.aload_n 0, 1) := by decide +kernel
theorem dX12_does_48 : decode cX12_does 48 = .ok (.getfield 7, 3) := by decide +kernel
theorem dX12_does_51 : decode cX12_does 51 = .ok (.iload_n 3, 1) := by decide +kernel
theorem dX12_does_52 : decode cX12_does 52 = .ok (.iconst 5, 1) := by decide +kernel
theorem dX12_does_53 : decode cX12_does 53 = .ok (.iadd, 1) := by decide +kernel
theorem dX12_does_54 : decode cX12_does 54 = .ok (.aload_n 0, 1) := by decide +kernel
theorem dX12_does_55 : decode cX12_does 55 = .ok (.getfield 7, 3) := by decide +kernel
theorem dX12_does_58 : decode cX12_does 58 = .ok (.iload_n 3, 1) := by decide +kernel
theorem dX12_does_59 : decode cX12_does 59 = .ok (.iconst 5, 1) := by decide +kernel
theorem dX12_does_60 : decode cX12_does 60 = .ok (.iadd, 1) := by decide +kernel
theorem dX12_does_61 : decode cX12_does 61 = .ok (.iaload, 1) := by decide +kernel
theorem dX12_does_62 : decode cX12_does 62 = .ok (.iconst 1, 1) := by decide +kernel
theorem dX12_does_63 : decode cX12_does 63 = .ok (.iadd, 1) := by decide +kernel
theorem dX12_does_64 : decode cX12_does 64 = .ok (.bipush 6, 2) := by decide +kernel
theorem dX12_does_66 : decode cX12_does 66 = .ok (.irem, 1) := by decide +kernel
theorem dX12_does_67 : decode cX12_does 67 = .ok (.iastore, 1) := by decide +kernel
theorem dX12_does_68 : decode cX12_does 68 = .ok (.aload_n 0, 1) := by decide +kernel
theorem dX12_does_69 : decode cX12_does 69 = .ok (.getfield 7, 3) := by decide +kernel
theorem dX12_does_72 : decode cX12_does 72 = .ok (.iload_n 3, 1) := by decide +kernel
theorem dX12_does_73 : decode cX12_does 73 = .ok (.iconst 1, 1) := by decide +kernel
theorem dX12_does_74 : decode cX12_does 74 = .ok (.iadd, 1) := by decide +kernel
theorem dX12_does_75 : decode cX12_does 75 = .ok (.iconst 0, 1) := by decide +kernel
theorem dX12_does_76 : decode cX12_does 76 = .ok (.aload_n 0, 1) := by decide +kernel
theorem dX12_does_77 : decode cX12_does 77 = .ok (.getfield 7, 3) := by decide +kernel
theorem dX12_does_80 : decode cX12_does 80 = .ok (.iload_n 3, 1) := by decide +kernel
theorem dX12_does_81 : decode cX12_does 81 = .ok (.iconst 1, 1) := by decide +kernel
theorem dX12_does_82 : decode cX12_does 82 = .ok (.iadd, 1) := by decide +kernel
theorem dX12_does_83 : decode cX12_does 83 = .ok (.iaload, 1) := by decide +kernel
theorem dX12_does_84 : decode cX12_does 84 = .ok (.aload_n 0, 1) := by decide +kernel
theorem dX12_does_85 : decode cX12_does 85 = .ok (.getfield 7, 3) := by decide +kernel
theorem dX12_does_88 : decode cX12_does 88 = .ok (.bipush 50, 2) := by decide +kernel
theorem dX12_does_90 : decode cX12_does 90 = .ok (.aload_n 0, 1) := by decide +kernel
theorem dX12_does_91 : decode cX12_does 91 = .ok (.getfield 7, 3) := by decide +kernel
theorem dX12_does_94 : decode cX12_does 94 = .ok (.iload_n 3, 1) := by decide +kernel
theorem dX12_does_95 : decode cX12_does 95 = .ok (.iconst 5, 1) := by decide +kernel
theorem dX12_does_96 : decode cX12_does 96 = .ok (.iadd, 1) := by decide +kernel
theorem dX12_does_97 : decode cX12_does 97 = .ok (.iaload, 1) := by decide +kernel
theorem dX12_does_98 : decode cX12_does 98 = .ok (.iadd, 1) := by decide +kernel
theorem dX12_does_99 : decode cX12_does 99 = .ok (.iaload, 1) := by decide +kernel
theorem dX12_does_100 : decode cX12_does 100 = .ok (.isub, 1) := by decide +kernel
theorem dX12_does_101 : decode cX12_does 101 = .ok (.invokestatic 78, 3) := by decide +kernel
theorem dX12_does_104 : decode cX12_does 104 = .ok (.iastore, 1) := by decide +kernel
theorem dX12_does_105 : decode cX12_does 105 = .ok (.aload_n 0, 1) := by decide +kernel
theorem dX12_does_106 : decode cX12_does 106 = .ok (.aload_n 0, 1) := by decide +kernel
theorem dX12_does_107 : decode cX12_does 107 = .ok (.getfield 7, 3) := by decide +kernel
theorem dX12_does_110 : decode cX12_does 110 = .ok (.iconst 1, 1) := by decide +kernel
theorem dX12_does_111 : decode cX12_does 111 = .ok (.iaload, 1) := by decide +kernel
theorem dX12_does_112 : decode cX12_does 112 = .ok (.invokevirtual 85, 3) := by decide +kernel
theorem dX12_does_115 : decode cX12_does 115 = .ok (.iconst 4, 1) := by decide +kernel
theorem dX12_does_116 : decode cX12_does 116 = .ok (.irem, 1) := by decide +kernel
theorem dX12_does_117 : decode cX12_does 117 = .ok (.ifCond .le 7, 3) := by decide +kernel
theorem dX12_does_120 : decode cX12_does 120 = .ok (.iconst 1, 1) := by decide +kernel
theorem dX12_does_121 : decode cX12_does 121 = .ok (.goto 4, 3) := by decide +kernel
theorem dX12_does_124 : decode cX12_does 124 = .ok (.iconst 0, 1) := by decide +kernel
theorem dX12_does_125 : decode cX12_does 125 = .ok (.ireturn, 1) := by decide +kernel
theorem dX12_goesWith_0 : decode cX12_goesWith 0 = .ok (.iload_n 1, 1) := by decide +kernel
theorem dX12_goesWith_1 : decode cX12_goesWith 1 = .ok (.iconst 1, 1) := by decide +kernel
theorem dX12_goesWith_2 : decode cX12_goesWith 2 = .ok (.isub, 1) := by decide +kernel
theorem dX12_goesWith_3 : decode cX12_goesWith 3 = .ok (.istore_n 2, 1) := by decide +kernel
theorem dX12_goesWith_4 : decode cX12_goesWith 4 = .ok (.iload_n 2, 1) := by decide +kernel
theorem dX12_goesWith_5 : decode cX12_goesWith 5 = .ok (.ifCond .lt 25, 3) := by decide +kernel
theorem dX12_goesWith_8 : decode cX12_goesWith 8 = .ok (.aload_n 0, 1) := by decide +kernel
theorem dX12_goesWith_9 : decode cX12_goesWith 9 = .ok (.iload_n 2, 1) := by decide +kernel
theorem dX12_goesWith_10 : decode cX12_goesWith 10 = .ok (.iconst 4, 1) := by decide +kernel
theorem dX12_goesWith_11 : decode cX12_goesWith 11 = .ok (.invokevirtual 82, 3) := by decide +kernel
theorem dX12_goesWith_14 : decode cX12_goesWith 14 = .ok (.ifCond .ne 16, 3) := by decide +kernel
theorem dX12_goesWith_17 : decode cX12_goesWith 17 = .ok (.aload_n 0, 1) := by decide +kernel
theorem dX12_goesWith_18 : decode cX12_goesWith 18 = .ok (.iload_n 2, 1) := by decide +kernel
theorem dX12_goesWith_19 : decode cX12_goesWith 19 = .ok (.aload_n 0, 1) := by decide +kernel
theorem dX12_goesWith_20 : decode cX12_goesWith 20 = .ok (.iload_n 2, 1) := by decide +kernel
theorem dX12_goesWith_21 : decode cX12_goesWith 21 = .ok (.invokevirtual 113, 3) := by decide +kernel
theorem dX12_goesWith_24 : decode cX12_goesWith 24 = .ok (.invokevirtual 239, 3) := by decide +kernel
theorem dX12_goesWith_27 : decode cX12_goesWith 27 = .ok (.goto 4, 3) := by decide +kernel
theorem dX12_goesWith_30 : decode cX12_goesWith 30 = .ok (.iconst 0, 1) := by decide +kernel
theorem dX12_goesWith_31 : decode cX12_goesWith 31 = .ok (.istore_n 3, 1) := by decide +kernel
theorem dX12_goesWith_32 : decode cX12_goesWith 32 = .ok (.iconst 0, 1) := by decide +kernel
theorem dX12_goesWith_33 : decode cX12_goesWith 33 = .ok (.istore 4, 2) := by decide +kernel
theorem dX12_goesWith_35 : decode cX12_goesWith 35 = .ok (.iload 4, 2) := by decide +kernel
theorem dX12_goesWith_37 : decode cX12_goesWith 37 = .ok (.aload_n 0, 1) := by decide +kernel
theorem dX12_goesWith_38 : decode cX12_goesWith 38 = .ok (.getfield 7, 3) := by decide +kernel
theorem dX12_goesWith_41 : decode cX12_goesWith 41 = .ok (.iconst 0, 1) := by decide +kernel
theorem dX12_goesWith_42 : decode cX12_goesWith 42 = .ok (.iaload, 1) := by decide +kernel
theorem dX12_goesWith_43 : decode cX12_goesWith 43 = .ok (.if_icmp .ge 22, 3) := by decide +kernel
theorem dX12_goesWith_46 : decode cX12_goesWith 46 = .ok (.aload_n 0, 1) := by decide +kernel
theorem dX12_goesWith_47 : decode cX12_goesWith 47 = .ok (.getfield 25, 3) := by decide +kernel
theorem dX12_goesWith_50 : decode cX12_goesWith 50 = .ok (.iload 4, 2) := by decide +kernel
theorem dX12_goesWith_52 : decode cX12_goesWith 52 = .ok (.aload_n 0, 1) := by decide +kernel
theorem dX12_goesWith_53 : decode cX12_goesWith 53 = .ok (.iload 4, 2) := by decide +kernel
theorem dX12_goesWith_55 : decode cX12_goesWith 55 = .ok (.invokevirtual 121, 3) := by decide +kernel
theorem dX12_goesWith_58 : decode cX12_goesWith 58 = .ok (.iastore, 1) := by decide +kernel
theorem dX12_goesWith_59 : decode cX12_goesWith 59 = .ok (.iinc 4 1, 3) := by decide +kernel
theorem dX12_goesWith_62 : decode cX12_goesWith 62 = .ok (.goto (-27), 3) := by decide +kernel
theorem dX12_goesWith_65 : decode cX12_goesWith 65 = .ok (.iconst 0, 1) := by decide +kernel
theorem dX12_goesWith_66 : decode cX12_goesWith 66 = .ok (.istore 4, 2) := by decide +kernel
theorem dX12_goesWith_68 : decode cX12_goesWith 68 = .ok (.iload 4, 2) := by decide +kernel
theorem dX12_goesWith_70 : decode cX12_goesWith 70 = .ok (.aload_n 0, 1) := by decide +kernel
theorem dX12_goesWith_71 : decode cX12_goesWith 71 = .ok (.getfield 7, 3) := by decide +kernel
theorem dX12_goesWith_74 : decode cX12_goesWith 74 = .ok (.iconst 0, 1) := by decide +kernel
theorem dX12_goesWith_75 : decode cX12_goesWith 75 = .ok (.iaload, 1) := by decide +kernel
theorem dX12_goesWith_76 : decode cX12_goesWith 76 = .ok (.if_icmp .ge 129, 3) := by decide +kernel
theorem dX12_goesWith_79 : decode cX12_goesWith 79 = .ok (.bipush 8, 2) := by decide +kernel
theorem dX12_goesWith_81 : decode cX12_goesWith 81 = .ok (.bipush 6, 2) := by decide +kernel
theorem dX12_goesWith_83 : decode cX12_goesWith 83 = .ok (.iload 4, 2) := by decide +kernel
theorem dX12_goesWith_85 : decode cX12_goesWith 85 = .ok (.imul, 1) := by decide +kernel
theorem dX12_goesWith_86 : decode cX12_goesWith 86 = .ok (.iadd, 1) := by decide +kernel
theorem dX12_goesWith_87 : decode cX12_goesWith 87 = .ok (.istore 5, 2) := by decide +kernel
theorem dX12_goesWith_89 : decode cX12_goesWith 89 = .ok (.aload_n 0, 1) := by decide +kernel
theorem dX12_goesWith_90 : decode cX12_goesWith 90 = .ok (.getfield 7, 3) := by decide +kernel
theorem dX12_goesWith_93 : decode cX12_goesWith 93 = .ok (.iload 5, 2) := by decide +kernel
theorem dX12_goesWith_95 : decode cX12_goesWith 95 = .ok (.iconst 4, 1) := by decide +kernel
theorem dX12_goesWith_96 : decode cX12_goesWith 96 = .ok (.iadd, 1) := by decide +kernel
theorem dX12_goesWith_97 : decode cX12_goesWith 97 = .ok (.iaload, 1) := by decide +kernel
theorem dX12_goesWith_98 : decode cX12_goesWith 98 = .ok (.ifCond .ne 101, 3) := by decide +kernel
theorem dX12_goesWith_101 : decode cX12_goesWith 101 = .ok (.aload_n 0, 1) := by decide +kernel
theorem dX12_goesWith_102 : decode cX12_goesWith 102 = .ok (.getfield 7, 3) := by decide +kernel
theorem dX12_goesWith_105 : decode cX12_goesWith 105 = .ok (.iload 5, 2) := by decide +kernel
theorem dX12_goesWith_107 : decode cX12_goesWith 107 = .ok (.iconst 1, 1) := by decide +kernel
theorem dX12_goesWith_108 : decode cX12_goesWith 108 = .ok (.iadd, 1) := by decide +kernel
theorem dX12_goesWith_109 : decode cX12_goesWith 109 = .ok (.bipush 99, 2) := by decide +kernel
theorem dX12_goesWith_111 : decode cX12_goesWith 111 = .ok (.aload_n 0, 1) := by decide +kernel
theorem dX12_goesWith_112 : decode cX12_goesWith 112 = .ok (.getfield 7, 3) := by decide +kernel
theorem dX12_goesWith_115 : decode cX12_goesWith 115 = .ok (.iload 5, 2) := by decide +kernel
theorem dX12_goesWith_117 : decode cX12_goesWith 117 = .ok (.iconst 1, 1) := by decide +kernel
theorem dX12_goesWith_118 : decode cX12_goesWith 118 = .ok (.iadd, 1) := by decide +kernel
theorem dX12_goesWith_119 : decode cX12_goesWith 119 = .ok (.iaload, 1) := by decide +kernel
theorem dX12_goesWith_120 : decode cX12_goesWith 120 = .ok (.aload_n 0, 1) := by decide +kernel
theorem dX12_goesWith_121 : decode cX12_goesWith 121 = .ok (.getfield 25, 3) := by decide +kernel
theorem dX12_goesWith_124 : decode cX12_goesWith 124 = .ok (.iload 4, 2) := by decide +kernel
theorem dX12_goesWith_126 : decode cX12_goesWith 126 = .ok (.iaload, 1) := by decide +kernel
theorem dX12_goesWith_127 : decode cX12_goesWith 127 = .ok (.iadd, 1) := by decide +kernel
theorem dX12_goesWith_128 : decode cX12_goesWith 128 = .ok (.invokestatic 242, 3) := by decide +kernel
theorem dX12_goesWith_131 : decode cX12_goesWith 131 = .ok (.iastore, 1) := by decide +kernel
theorem dX12_goesWith_132 : decode cX12_goesWith 132 = .ok (.aload_n 0, 1) := by decide +kernel
theorem dX12_goesWith_133 : decode cX12_goesWith 133 = .ok (.getfield 7, 3) := by decide +kernel
theorem dX12_goesWith_136 : decode cX12_goesWith 136 = .ok (.iload 5, 2) := by decide +kernel
theorem dX12_goesWith_138 : decode cX12_goesWith 138 = .ok (.iconst 5, 1) := by decide +kernel
theorem dX12_goesWith_139 : decode cX12_goesWith 139 = .ok (.iadd, 1) := by decide +kernel
theorem dX12_goesWith_140 : decode cX12_goesWith 140 = .ok (.aload_n 0, 1) := by decide +kernel
theorem dX12_goesWith_141 : decode cX12_goesWith 141 = .ok (.getfield 7, 3) := by decide +kernel
theorem dX12_goesWith_144 : decode cX12_goesWith 144 = .ok (.iload 5, 2) := by decide +kernel
theorem dX12_goesWith_146 : decode cX12_goesWith 146 = .ok (.iconst 5, 1) := by decide +kernel
theorem dX12_goesWith_147 : decode cX12_goesWith 147 = .ok (.iadd, 1) := by decide +kernel
theorem dX12_goesWith_148 : decode cX12_goesWith 148 = .ok (.iaload, 1) := by decide +kernel
theorem dX12_goesWith_149 : decode cX12_goesWith 149 = .ok (.aload_n 0, 1) := by decide +kernel
theorem dX12_goesWith_150 : decode cX12_goesWith 150 = .ok (.getfield 7, 3) := by decide +kernel
theorem dX12_goesWith_153 : decode cX12_goesWith 153 = .ok (.iload 5, 2) := by decide +kernel
theorem dX12_goesWith_155 : decode cX12_goesWith 155 = .ok (.iaload, 1) := by decide +kernel
theorem dX12_goesWith_156 : decode cX12_goesWith 156 = .ok (.aload_n 0, 1) := by decide +kernel
theorem dX12_goesWith_157 : decode cX12_goesWith 157 = .ok (.getfield 7, 3) := by decide +kernel
theorem dX12_goesWith_160 : decode cX12_goesWith 160 = .ok (.iconst 1, 1) := by decide +kernel
theorem dX12_goesWith_161 : decode cX12_goesWith 161 = .ok (.iaload, 1) := by decide +kernel
theorem dX12_goesWith_162 : decode cX12_goesWith 162 = .ok (.invokestatic 124, 3) := by decide +kernel
theorem dX12_goesWith_165 : decode cX12_goesWith 165 = .ok (.iadd, 1) := by decide +kernel
theorem dX12_goesWith_166 : decode cX12_goesWith 166 = .ok (.bipush 6, 2) := by decide +kernel
theorem dX12_goesWith_168 : decode cX12_goesWith 168 = .ok (.irem, 1) := by decide +kernel
theorem dX12_goesWith_169 : decode cX12_goesWith 169 = .ok (.iastore, 1) := by decide +kernel
theorem dX12_goesWith_170 : decode cX12_goesWith 170 = .ok (.iload_n 3, 1) := by decide +kernel
theorem dX12_goesWith_171 : decode cX12_goesWith 171 = .ok (.aload_n 0, 1) := by decide +kernel
theorem dX12_goesWith_172 : decode cX12_goesWith 172 = .ok (.getfield 7, 3) := by decide +kernel
theorem dX12_goesWith_175 : decode cX12_goesWith 175 = .ok (.iload 5, 2) := by decide +kernel
theorem dX12_goesWith_177 : decode cX12_goesWith 177 = .ok (.iconst 5, 1) := by decide +kernel
theorem dX12_goesWith_178 : decode cX12_goesWith 178 = .ok (.iadd, 1) := by decide +kernel
theorem dX12_goesWith_179 : decode cX12_goesWith 179 = .ok (.iaload, 1) := by decide +kernel
theorem dX12_goesWith_180 : decode cX12_goesWith 180 = .ok (.aload_n 0, 1) := by decide +kernel
theorem dX12_goesWith_181 : decode cX12_goesWith 181 = .ok (.getfield 7, 3) := by decide +kernel
theorem dX12_goesWith_184 : decode cX12_goesWith 184 = .ok (.iload 5, 2) := by decide +kernel
theorem dX12_goesWith_186 : decode cX12_goesWith 186 = .ok (.iconst 3, 1) := by decide +kernel
theorem dX12_goesWith_187 : decode cX12_goesWith 187 = .ok (.iadd, 1) := by decide +kernel
theorem dX12_goesWith_188 : decode cX12_goesWith 188 = .ok (.iaload, 1) := by decide +kernel
theorem dX12_goesWith_189 : decode cX12_goesWith 189 = .ok (.if_icmp .ne 7, 3) := by decide +kernel
theorem dX12_goesWith_192 : decode cX12_goesWith 192 = .ok (.iconst 1, 1) := by decide +kernel
theorem dX12_goesWith_193 : decode cX12_goesWith 193 = .ok (.goto 4, 3) := by decide +kernel
theorem dX12_goesWith_196 : decode cX12_goesWith 196 = .ok (.iconst 0, 1) := by decide +kernel
theorem dX12_goesWith_197 : decode cX12_goesWith 197 = .ok (.iadd, 1) := by decide +kernel
theorem dX12_goesWith_198 : decode cX12_goesWith 198 = .ok (.istore_n 3, 1) := by decide +kernel
theorem dX12_goesWith_199 : decode cX12_goesWith 199 = .ok (.iinc 4 1, 3) := by decide +kernel
theorem dX12_goesWith_202 : decode cX12_goesWith 202 = .ok (.goto (-134), 3) := by decide +kernel
theorem dX12_goesWith_205 : decode cX12_goesWith 205 = .ok (.aload_n 0, 1) := by decide +kernel
theorem dX12_goesWith_206 : decode cX12_goesWith 206 = .ok (.getfield 7, 3) := by decide +kernel
theorem dX12_goesWith_209 : decode cX12_goesWith 209 = .ok (.iconst 1, 1) := by decide +kernel
theorem dX12_goesWith_210 : decode cX12_goesWith 210 = .ok (.dup2, 1) := by decide +kernel
theorem dX12_goesWith_211 : decode cX12_goesWith 211 = .ok (.iaload, 1) := by decide +kernel
theorem dX12_goesWith_212 : decode cX12_goesWith 212 = .ok (.iconst 1, 1) := by decide +kernel
theorem dX12_goesWith_213 : decode cX12_goesWith 213 = .ok (.iadd, 1) := by decide +kernel
theorem dX12_goesWith_214 : decode cX12_goesWith 214 = .ok (.iastore, 1) := by decide +kernel
theorem dX12_goesWith_215 : decode cX12_goesWith 215 = .ok (.aload_n 0, 1) := by decide +kernel
theorem dX12_goesWith_216 : decode cX12_goesWith 216 = .ok (.getfield 7, 3) := by decide +kernel
theorem dX12_goesWith_219 : decode cX12_goesWith 219 = .ok (.iconst 3, 1) := by decide +kernel
theorem dX12_goesWith_220 : decode cX12_goesWith 220 = .ok (.dup2, 1) := by decide +kernel
theorem dX12_goesWith_221 : decode cX12_goesWith 221 = .ok (.iaload, 1) := by decide +kernel
theorem dX12_goesWith_222 : decode cX12_goesWith 222 = .ok (.iload_n 3, 1) := by decide +kernel
theorem dX12_goesWith_223 : decode cX12_goesWith 223 = .ok (.iadd, 1) := by decide +kernel
theorem dX12_goesWith_224 : decode cX12_goesWith 224 = .ok (.iastore, 1) := by decide +kernel
theorem dX12_goesWith_225 : decode cX12_goesWith 225 = .ok (.iload_n 3, 1) := by decide +kernel
theorem dX12_goesWith_226 : decode cX12_goesWith 226 = .ok (.ireturn, 1) := by decide +kernel
theorem dX12_restAct_0 : decode cX12_restAct 0 = .ok (.iconst 0, 1) := by decide +kernel
theorem dX12_restAct_1 : decode cX12_restAct 1 = .ok (.istore_n 1, 1) := by decide +kernel
theorem dX12_restAct_2 : decode cX12_restAct 2 = .ok (.iload_n 1, 1) := by decide +kernel
theorem dX12_restAct_3 : decode cX12_restAct 3 = .ok (.aload_n 0, 1) := by decide +kernel
theorem dX12_restAct_4 : decode cX12_restAct 4 = .ok (.getfield 7, 3) := by decide +kernel
theorem dX12_restAct_7 : decode cX12_restAct 7 = .ok (.iconst 0, 1) := by decide +kernel
theorem dX12_restAct_8 : decode cX12_restAct 8 = .ok (.iaload, 1) := by decide +kernel
theorem dX12_restAct_9 : decode cX12_restAct 9 = .ok (.if_icmp .ge 21, 3) := by decide +kernel
theorem dX12_restAct_12 : decode cX12_restAct 12 = .ok (.aload_n 0, 1) := by decide +kernel
theorem dX12_restAct_13 : decode cX12_restAct 13 = .ok (.iload_n 1, 1) := by decide +kernel
theorem dX12_restAct_14 : decode cX12_restAct 14 = .ok (.invokevirtual 127, 3) := by decide +kernel
theorem dX12_restAct_17 : decode cX12_restAct 17 = .ok (.ifCond .eq 7, 3) := by decide +kernel
theorem dX12_restAct_20 : decode cX12_restAct 20 = .ok (.iload_n 1, 1) := by decide +kernel
theorem dX12_restAct_21 : decode cX12_restAct 21 = .ok (.iconst 1, 1) := by decide +kernel
theorem dX12_restAct_22 : decode cX12_restAct 22 = .ok (.iadd, 1) := by decide +kernel
theorem dX12_restAct_23 : decode cX12_restAct 23 = .ok (.ireturn, 1) := by decide +kernel
theorem dX12_restAct_24 : decode cX12_restAct 24 = .ok (.iinc 1 1, 3) := by decide +kernel
theorem dX12_restAct_27 : decode cX12_restAct 27 = .ok (.goto (-25), 3) := by decide +kernel
theorem dX12_restAct_30 : decode cX12_restAct 30 = .ok (.iconst 0, 1) := by decide +kernel
theorem dX12_restAct_31 : decode cX12_restAct 31 = .ok (.ireturn, 1) := by decide +kernel
theorem dX12_train_0 : decode cX12_train 0 = .ok (.aload_n 0, 1) := by decide +kernel
theorem dX12_train_1 : decode cX12_train 1 = .ok (.invokevirtual 140, 3) := by decide +kernel
theorem dX12_train_4 : decode cX12_train 4 = .ok (.ifCond .eq 8, 3) := by decide +kernel
theorem dX12_train_7 : decode cX12_train 7 = .ok (.bipush (-4), 2) := by decide +kernel
theorem dX12_train_9 : decode cX12_train 9 = .ok (.goto 11, 3) := by decide +kernel
theorem dX12_train_12 : decode cX12_train 12 = .ok (.aload_n 0, 1) := by decide +kernel
theorem dX12_train_13 : decode cX12_train 13 = .ok (.aload_n 0, 1) := by decide +kernel
theorem dX12_train_14 : decode cX12_train 14 = .ok (.invokevirtual 245, 3) := by decide +kernel
theorem dX12_train_17 : decode cX12_train 17 = .ok (.invokevirtual 248, 3) := by decide +kernel
theorem dX12_train_20 : decode cX12_train 20 = .ok (.ireturn, 1) := by decide +kernel
theorem dX12_onBy_0 : decode cX12_onBy 0 = .ok (.aload_n 0, 1) := by decide +kernel
theorem dX12_onBy_1 : decode cX12_onBy 1 = .ok (.iconst 0, 1) := by decide +kernel
theorem dX12_onBy_2 : decode cX12_onBy 2 = .ok (.invokevirtual 251, 3) := by decide +kernel
theorem dX12_onBy_5 : decode cX12_onBy 5 = .ok (.iconst 0, 1) := by decide +kernel
theorem dX12_onBy_6 : decode cX12_onBy 6 = .ok (.istore_n 2, 1) := by decide +kernel
theorem dX12_onBy_7 : decode cX12_onBy 7 = .ok (.iconst 0, 1) := by decide +kernel
theorem dX12_onBy_8 : decode cX12_onBy 8 = .ok (.istore_n 3, 1) := by decide +kernel
theorem dX12_onBy_9 : decode cX12_onBy 9 = .ok (.iload_n 3, 1) := by decide +kernel
theorem dX12_onBy_10 : decode cX12_onBy 10 = .ok (.iload_n 1, 1) := by decide +kernel
theorem dX12_onBy_11 : decode cX12_onBy 11 = .ok (.if_icmp .ge 27, 3) := by decide +kernel
theorem dX12_onBy_14 : decode cX12_onBy 14 = .ok (.aload_n 0, 1) := by decide +kernel
theorem dX12_onBy_15 : decode cX12_onBy 15 = .ok (.invokevirtual 140, 3) := by decide +kernel
theorem dX12_onBy_18 : decode cX12_onBy 18 = .ok (.ifCond .ne 20, 3) := by decide +kernel
theorem dX12_onBy_21 : decode cX12_onBy 21 = .ok (.iload_n 2, 1) := by decide +kernel
theorem dX12_onBy_22 : decode cX12_onBy 22 = .ok (.aload_n 0, 1) := by decide +kernel
theorem dX12_onBy_23 : decode cX12_onBy 23 = .ok (.aload_n 0, 1) := by decide +kernel
theorem dX12_onBy_24 : decode cX12_onBy 24 = .ok (.invokevirtual 245, 3) := by decide +kernel
theorem dX12_onBy_27 : decode cX12_onBy 27 = .ok (.invokevirtual 248, 3) := by decide +kernel
theorem dX12_onBy_30 : decode cX12_onBy 30 = .ok (.iadd, 1) := by decide +kernel
theorem dX12_onBy_31 : decode cX12_onBy 31 = .ok (.istore_n 2, 1) := by decide +kernel
theorem dX12_onBy_32 : decode cX12_onBy 32 = .ok (.iinc 3 1, 3) := by decide +kernel
theorem dX12_onBy_35 : decode cX12_onBy 35 = .ok (.goto (-26), 3) := by decide +kernel
theorem dX12_onBy_38 : decode cX12_onBy 38 = .ok (.aload_n 0, 1) := by decide +kernel
theorem dX12_onBy_39 : decode cX12_onBy 39 = .ok (.iconst 0, 1) := by decide +kernel
theorem dX12_onBy_40 : decode cX12_onBy 40 = .ok (.invokevirtual 255, 3) := by decide +kernel
theorem dX12_onBy_43 : decode cX12_onBy 43 = .ok (.iload_n 2, 1) := by decide +kernel
theorem dX12_onBy_44 : decode cX12_onBy 44 = .ok (.ireturn, 1) := by decide +kernel
theorem dX12_on_0 : decode cX12_on 0 = .ok (.iload_n 1, 1) := by decide +kernel
theorem dX12_on_1 : decode cX12_on 1 = .ok (.i2l, 1) := by decide +kernel
theorem dX12_on_2 : decode cX12_on 2 = .ok (.lconst 0, 1) := by decide +kernel
theorem dX12_on_3 : decode cX12_on 3 = .ok (.ldc2_w 138, 3) := by decide +kernel
theorem dX12_on_6 : decode cX12_on 6 = .ok (.invokestatic 66, 3) := by decide +kernel
theorem dX12_on_9 : decode cX12_on 9 = .ok (.ifCond .eq 11, 3) := by decide +kernel
theorem dX12_on_12 : decode cX12_on 12 = .ok (.aload_n 0, 1) := by decide +kernel
theorem dX12_on_13 : decode cX12_on 13 = .ok (.iload_n 1, 1) := by decide +kernel
theorem dX12_on_14 : decode cX12_on 14 = .ok (.invokevirtual 258, 3) := by decide +kernel
theorem dX12_on_17 : decode cX12_on 17 = .ok (.goto 4, 3) := by decide +kernel
theorem dX12_on_20 : decode cX12_on 20 = .ok (.iconst (-1), 1) := by decide +kernel
theorem dX12_on_21 : decode cX12_on 21 = .ok (.ireturn, 1) := by decide +kernel
theorem dX12_when_0 : decode cX12_when 0 = .ok (.aload_n 0, 1) := by decide +kernel
theorem dX12_when_1 : decode cX12_when 1 = .ok (.iload_n 1, 1) := by decide +kernel
theorem dX12_when_2 : decode cX12_when 2 = .ok (.invokevirtual 116, 3) := by decide +kernel
theorem dX12_when_5 : decode cX12_when 5 = .ok (.ifCond .ne 5, 3) := by decide +kernel
theorem dX12_when_8 : decode cX12_when 8 = .ok (.iconst (-1), 1) := by decide +kernel
theorem dX12_when_9 : decode cX12_when 9 = .ok (.ireturn, 1) := by decide +kernel
theorem dX12_when_10 : decode cX12_when 10 = .ok (.aload_n 0, 1) := by decide +kernel
theorem dX12_when_11 : decode cX12_when 11 = .ok (.iload_n 1, 1) := by decide +kernel
theorem dX12_when_12 : decode cX12_when 12 = .ok (.iconst 4, 1) := by decide +kernel
theorem dX12_when_13 : decode cX12_when 13 = .ok (.invokevirtual 82, 3) := by decide +kernel
theorem dX12_when_16 : decode cX12_when 16 = .ok (.iconst 1, 1) := by decide +kernel
theorem dX12_when_17 : decode cX12_when 17 = .ok (.if_icmp .ne 6, 3) := by decide +kernel
theorem dX12_when_20 : decode cX12_when 20 = .ok (.bipush (-3), 2) := by decide +kernel
theorem dX12_when_22 : decode cX12_when 22 = .ok (.ireturn, 1) := by decide +kernel
theorem dX12_when_23 : decode cX12_when 23 = .ok (.aload_n 0, 1) := by decide +kernel
theorem dX12_when_24 : decode cX12_when 24 = .ok (.iconst 0, 1) := by decide +kernel
theorem dX12_when_25 : decode cX12_when 25 = .ok (.invokevirtual 251, 3) := by decide +kernel
theorem dX12_when_28 : decode cX12_when 28 = .ok (.aload_n 0, 1) := by decide +kernel
theorem dX12_when_29 : decode cX12_when 29 = .ok (.invokevirtual 140, 3) := by decide +kernel
theorem dX12_when_32 : decode cX12_when 32 = .ok (.ifCond .ne 24, 3) := by decide +kernel
theorem dX12_when_35 : decode cX12_when 35 = .ok (.aload_n 0, 1) := by decide +kernel
theorem dX12_when_36 : decode cX12_when 36 = .ok (.iload_n 1, 1) := by decide +kernel
theorem dX12_when_37 : decode cX12_when 37 = .ok (.iconst 4, 1) := by decide +kernel
theorem dX12_when_38 : decode cX12_when 38 = .ok (.invokevirtual 82, 3) := by decide +kernel
theorem dX12_when_41 : decode cX12_when 41 = .ok (.ifCond .ne 15, 3) := by decide +kernel
theorem dX12_when_44 : decode cX12_when 44 = .ok (.aload_n 0, 1) := by decide +kernel
theorem dX12_when_45 : decode cX12_when 45 = .ok (.aload_n 0, 1) := by decide +kernel
theorem dX12_when_46 : decode cX12_when 46 = .ok (.invokevirtual 245, 3) := by decide +kernel
theorem dX12_when_49 : decode cX12_when 49 = .ok (.invokevirtual 248, 3) := by decide +kernel
theorem dX12_when_52 : decode cX12_when 52 = .ok (.istore_n 2, 1) := by decide +kernel
theorem dX12_when_53 : decode cX12_when 53 = .ok (.goto (-25), 3) := by decide +kernel
theorem dX12_when_56 : decode cX12_when 56 = .ok (.aload_n 0, 1) := by decide +kernel
theorem dX12_when_57 : decode cX12_when 57 = .ok (.iload_n 1, 1) := by decide +kernel
theorem dX12_when_58 : decode cX12_when 58 = .ok (.iconst 4, 1) := by decide +kernel
theorem dX12_when_59 : decode cX12_when 59 = .ok (.invokevirtual 82, 3) := by decide +kernel
theorem dX12_when_62 : decode cX12_when 62 = .ok (.ifCond .ne 8, 3) := by decide +kernel
theorem dX12_when_65 : decode cX12_when 65 = .ok (.bipush (-3), 2) := by decide +kernel
theorem dX12_when_67 : decode cX12_when 67 = .ok (.goto 11, 3) := by decide +kernel
theorem dX12_when_70 : decode cX12_when 70 = .ok (.aload_n 0, 1) := by decide +kernel
theorem dX12_when_71 : decode cX12_when 71 = .ok (.getfield 7, 3) := by decide +kernel
theorem dX12_when_74 : decode cX12_when 74 = .ok (.iconst 1, 1) := by decide +kernel
theorem dX12_when_75 : decode cX12_when 75 = .ok (.iaload, 1) := by decide +kernel
theorem dX12_when_76 : decode cX12_when 76 = .ok (.iconst 1, 1) := by decide +kernel
theorem dX12_when_77 : decode cX12_when 77 = .ok (.isub, 1) := by decide +kernel
theorem dX12_when_78 : decode cX12_when 78 = .ok (.istore_n 2, 1) := by decide +kernel
theorem dX12_when_79 : decode cX12_when 79 = .ok (.aload_n 0, 1) := by decide +kernel
theorem dX12_when_80 : decode cX12_when 80 = .ok (.iconst 0, 1) := by decide +kernel
theorem dX12_when_81 : decode cX12_when 81 = .ok (.invokevirtual 255, 3) := by decide +kernel
theorem dX12_when_84 : decode cX12_when 84 = .ok (.iload_n 2, 1) := by decide +kernel
theorem dX12_when_85 : decode cX12_when 85 = .ok (.ireturn, 1) := by decide +kernel
theorem dX12_valueFor_0 : decode cX12_valueFor 0 = .ok (.bipush 8, 2) := by decide +kernel
theorem dX12_valueFor_2 : decode cX12_valueFor 2 = .ok (.bipush 6, 2) := by decide +kernel
theorem dX12_valueFor_4 : decode cX12_valueFor 4 = .ok (.iload_n 1, 1) := by decide +kernel
theorem dX12_valueFor_5 : decode cX12_valueFor 5 = .ok (.imul, 1) := by decide +kernel
theorem dX12_valueFor_6 : decode cX12_valueFor 6 = .ok (.iadd, 1) := by decide +kernel
theorem dX12_valueFor_7 : decode cX12_valueFor 7 = .ok (.iload_n 2, 1) := by decide +kernel
theorem dX12_valueFor_8 : decode cX12_valueFor 8 = .ok (.iadd, 1) := by decide +kernel
theorem dX12_valueFor_9 : decode cX12_valueFor 9 = .ok (.istore_n 3, 1) := by decide +kernel
theorem dX12_valueFor_10 : decode cX12_valueFor 10 = .ok (.aload_n 0, 1) := by decide +kernel
theorem dX12_valueFor_11 : decode cX12_valueFor 11 = .ok (.getfield 7, 3) := by decide +kernel
theorem dX12_valueFor_14 : decode cX12_valueFor 14 = .ok (.iload_n 3, 1) := by decide +kernel
theorem dX12_valueFor_15 : decode cX12_valueFor 15 = .ok (.iaload, 1) := by decide +kernel
theorem dX12_valueFor_16 : decode cX12_valueFor 16 = .ok (.istore 4, 2) := by decide +kernel
theorem dX12_valueFor_18 : decode cX12_valueFor 18 = .ok (.iconst 0, 1) := by decide +kernel
theorem dX12_valueFor_19 : decode cX12_valueFor 19 = .ok (.istore 5, 2) := by decide +kernel
theorem dX12_valueFor_21 : decode cX12_valueFor 21 = .ok (.iconst (-1), 1) := by decide +kernel
theorem dX12_valueFor_22 : decode cX12_valueFor 22 = .ok (.istore 6, 2) := by decide +kernel
theorem dX12_valueFor_24 : decode cX12_valueFor 24 = .ok (.iconst 0, 1) := by decide +kernel
theorem dX12_valueFor_25 : decode cX12_valueFor 25 = .ok (.istore 7, 2) := by decide +kernel
theorem dX12_valueFor_27 : decode cX12_valueFor 27 = .ok (.iload 7, 2) := by decide +kernel
theorem dX12_valueFor_29 : decode cX12_valueFor 29 = .ok (.iload_n 2, 1) := by decide +kernel
theorem dX12_valueFor_30 : decode cX12_valueFor 30 = .ok (.invokestatic 130, 3) := by decide +kernel
theorem dX12_valueFor_33 : decode cX12_valueFor 33 = .ok (.if_icmp .gt 50, 3) := by decide +kernel
theorem dX12_valueFor_36 : decode cX12_valueFor 36 = .ok (.aload_n 0, 1) := by decide +kernel
theorem dX12_valueFor_37 : decode cX12_valueFor 37 = .ok (.getfield 7, 3) := by decide +kernel
theorem dX12_valueFor_40 : decode cX12_valueFor 40 = .ok (.iload_n 3, 1) := by decide +kernel
theorem dX12_valueFor_41 : decode cX12_valueFor 41 = .ok (.iload 7, 2) := by decide +kernel
theorem dX12_valueFor_43 : decode cX12_valueFor 43 = .ok (.iastore, 1) := by decide +kernel
theorem dX12_valueFor_44 : decode cX12_valueFor 44 = .ok (.aload_n 0, 1) := by decide +kernel
theorem dX12_valueFor_45 : decode cX12_valueFor 45 = .ok (.bipush 16, 2) := by decide +kernel
theorem dX12_valueFor_47 : decode cX12_valueFor 47 = .ok (.invokevirtual 258, 3) := by decide +kernel
theorem dX12_valueFor_50 : decode cX12_valueFor 50 = .ok (.istore 8, 2) := by decide +kernel
theorem dX12_valueFor_52 : decode cX12_valueFor 52 = .ok (.iload 8, 2) := by decide +kernel
theorem dX12_valueFor_54 : decode cX12_valueFor 54 = .ok (.iload 6, 2) := by decide +kernel
theorem dX12_valueFor_56 : decode cX12_valueFor 56 = .ok (.if_icmp .le 8, 3) := by decide +kernel
theorem dX12_valueFor_59 : decode cX12_valueFor 59 = .ok (.iload 7, 2) := by decide +kernel
theorem dX12_valueFor_61 : decode cX12_valueFor 61 = .ok (.goto 5, 3) := by decide +kernel
theorem dX12_valueFor_64 : decode cX12_valueFor 64 = .ok (.iload 5, 2) := by decide +kernel
theorem dX12_valueFor_66 : decode cX12_valueFor 66 = .ok (.istore 5, 2) := by decide +kernel
theorem dX12_valueFor_68 : decode cX12_valueFor 68 = .ok (.iload 6, 2) := by decide +kernel
theorem dX12_valueFor_70 : decode cX12_valueFor 70 = .ok (.iload 8, 2) := by decide +kernel
theorem dX12_valueFor_72 : decode cX12_valueFor 72 = .ok (.invokestatic 78, 3) := by decide +kernel
theorem dX12_valueFor_75 : decode cX12_valueFor 75 = .ok (.istore 6, 2) := by decide +kernel
theorem dX12_valueFor_77 : decode cX12_valueFor 77 = .ok (.iinc 7 1, 3) := by decide +kernel
theorem dX12_valueFor_80 : decode cX12_valueFor 80 = .ok (.goto (-53), 3) := by decide +kernel
theorem dX12_valueFor_83 : decode cX12_valueFor 83 = .ok (.aload_n 0, 1) := by decide +kernel
theorem dX12_valueFor_84 : decode cX12_valueFor 84 = .ok (.getfield 7, 3) := by decide +kernel
theorem dX12_valueFor_87 : decode cX12_valueFor 87 = .ok (.iload_n 3, 1) := by decide +kernel
theorem dX12_valueFor_88 : decode cX12_valueFor 88 = .ok (.iload 4, 2) := by decide +kernel
theorem dX12_valueFor_90 : decode cX12_valueFor 90 = .ok (.iastore, 1) := by decide +kernel
theorem dX12_valueFor_91 : decode cX12_valueFor 91 = .ok (.iload 5, 2) := by decide +kernel
theorem dX12_valueFor_93 : decode cX12_valueFor 93 = .ok (.ireturn, 1) := by decide +kernel
theorem dX12_wishFor_0 : decode cX12_wishFor 0 = .ok (.aload_n 0, 1) := by decide +kernel
theorem dX12_wishFor_1 : decode cX12_wishFor 1 = .ok (.iload_n 1, 1) := by decide +kernel
theorem dX12_wishFor_2 : decode cX12_wishFor 2 = .ok (.invokevirtual 116, 3) := by decide +kernel
theorem dX12_wishFor_5 : decode cX12_wishFor 5 = .ok (.ifCond .eq 12, 3) := by decide +kernel
theorem dX12_wishFor_8 : decode cX12_wishFor 8 = .ok (.aload_n 0, 1) := by decide +kernel
theorem dX12_wishFor_9 : decode cX12_wishFor 9 = .ok (.iload_n 1, 1) := by decide +kernel
theorem dX12_wishFor_10 : decode cX12_wishFor 10 = .ok (.iconst 2, 1) := by decide +kernel
theorem dX12_wishFor_11 : decode cX12_wishFor 11 = .ok (.invokevirtual 261, 3) := by decide +kernel
theorem dX12_wishFor_14 : decode cX12_wishFor 14 = .ok (.goto 4, 3) := by decide +kernel
theorem dX12_wishFor_17 : decode cX12_wishFor 17 = .ok (.iconst (-1), 1) := by decide +kernel
theorem dX12_wishFor_18 : decode cX12_wishFor 18 = .ok (.ireturn, 1) := by decide +kernel
theorem dX12_homeFor_0 : decode cX12_homeFor 0 = .ok (.aload_n 0, 1) := by decide +kernel
theorem dX12_homeFor_1 : decode cX12_homeFor 1 = .ok (.iload_n 1, 1) := by decide +kernel
theorem dX12_homeFor_2 : decode cX12_homeFor 2 = .ok (.invokevirtual 116, 3) := by decide +kernel
theorem dX12_homeFor_5 : decode cX12_homeFor 5 = .ok (.ifCond .eq 12, 3) := by decide +kernel
theorem dX12_homeFor_8 : decode cX12_homeFor 8 = .ok (.aload_n 0, 1) := by decide +kernel
theorem dX12_homeFor_9 : decode cX12_homeFor 9 = .ok (.iload_n 1, 1) := by decide +kernel
theorem dX12_homeFor_10 : decode cX12_homeFor 10 = .ok (.iconst 3, 1) := by decide +kernel
theorem dX12_homeFor_11 : decode cX12_homeFor 11 = .ok (.invokevirtual 261, 3) := by decide +kernel
theorem dX12_homeFor_14 : decode cX12_homeFor 14 = .ok (.goto 4, 3) := by decide +kernel
theorem dX12_homeFor_17 : decode cX12_homeFor 17 = .ok (.iconst (-1), 1) := by decide +kernel
theorem dX12_homeFor_18 : decode cX12_homeFor 18 = .ok (.ireturn, 1) := by decide +kernel
theorem dX12_lost_0 : decode cX12_lost 0 = .ok (.aload_n 0, 1) := by decide +kernel
theorem dX12_lost_1 : decode cX12_lost 1 = .ok (.iload_n 1, 1) := by decide +kernel
theorem dX12_lost_2 : decode cX12_lost 2 = .ok (.invokevirtual 116, 3) := by decide +kernel
theorem dX12_lost_5 : decode cX12_lost 5 = .ok (.ifCond .ne 5, 3) := by decide +kernel
theorem dX12_lost_8 : decode cX12_lost 8 = .ok (.iconst (-1), 1) := by decide +kernel
theorem dX12_lost_9 : decode cX12_lost 9 = .ok (.ireturn, 1) := by decide +kernel
theorem dX12_lost_10 : decode cX12_lost 10 = .ok (.aload_n 0, 1) := by decide +kernel
theorem dX12_lost_11 : decode cX12_lost 11 = .ok (.iconst 0, 1) := by decide +kernel
theorem dX12_lost_12 : decode cX12_lost 12 = .ok (.invokevirtual 251, 3) := by decide +kernel
theorem dX12_lost_15 : decode cX12_lost 15 = .ok (.aload_n 0, 1) := by decide +kernel
theorem dX12_lost_16 : decode cX12_lost 16 = .ok (.invokevirtual 140, 3) := by decide +kernel
theorem dX12_lost_19 : decode cX12_lost 19 = .ok (.ifCond .ne 26, 3) := by decide +kernel
theorem dX12_lost_22 : decode cX12_lost 22 = .ok (.aload_n 0, 1) := by decide +kernel
theorem dX12_lost_23 : decode cX12_lost 23 = .ok (.iload_n 1, 1) := by decide +kernel
theorem dX12_lost_24 : decode cX12_lost 24 = .ok (.iconst 1, 1) := by decide +kernel
theorem dX12_lost_25 : decode cX12_lost 25 = .ok (.invokevirtual 82, 3) := by decide +kernel
theorem dX12_lost_28 : decode cX12_lost 28 = .ok (.bipush 50, 2) := by decide +kernel
theorem dX12_lost_30 : decode cX12_lost 30 = .ok (.if_icmp .ge 15, 3) := by decide +kernel
theorem dX12_lost_33 : decode cX12_lost 33 = .ok (.aload_n 0, 1) := by decide +kernel
theorem dX12_lost_34 : decode cX12_lost 34 = .ok (.aload_n 0, 1) := by decide +kernel
theorem dX12_lost_35 : decode cX12_lost 35 = .ok (.invokevirtual 245, 3) := by decide +kernel
theorem dX12_lost_38 : decode cX12_lost 38 = .ok (.invokevirtual 248, 3) := by decide +kernel
theorem dX12_lost_41 : decode cX12_lost 41 = .ok (.istore_n 2, 1) := by decide +kernel
theorem dX12_lost_42 : decode cX12_lost 42 = .ok (.goto (-27), 3) := by decide +kernel
theorem dX12_lost_45 : decode cX12_lost 45 = .ok (.aload_n 0, 1) := by decide +kernel
theorem dX12_lost_46 : decode cX12_lost 46 = .ok (.iload_n 1, 1) := by decide +kernel
theorem dX12_lost_47 : decode cX12_lost 47 = .ok (.iconst 1, 1) := by decide +kernel
theorem dX12_lost_48 : decode cX12_lost 48 = .ok (.invokevirtual 82, 3) := by decide +kernel
theorem dX12_lost_51 : decode cX12_lost 51 = .ok (.bipush 50, 2) := by decide +kernel
theorem dX12_lost_53 : decode cX12_lost 53 = .ok (.if_icmp .ge 8, 3) := by decide +kernel
theorem dX12_lost_56 : decode cX12_lost 56 = .ok (.bipush (-3), 2) := by decide +kernel
theorem dX12_lost_58 : decode cX12_lost 58 = .ok (.goto 9, 3) := by decide +kernel
theorem dX12_lost_61 : decode cX12_lost 61 = .ok (.aload_n 0, 1) := by decide +kernel
theorem dX12_lost_62 : decode cX12_lost 62 = .ok (.getfield 7, 3) := by decide +kernel
theorem dX12_lost_65 : decode cX12_lost 65 = .ok (.iconst 1, 1) := by decide +kernel
theorem dX12_lost_66 : decode cX12_lost 66 = .ok (.iaload, 1) := by decide +kernel
theorem dX12_lost_67 : decode cX12_lost 67 = .ok (.istore_n 2, 1) := by decide +kernel
theorem dX12_lost_68 : decode cX12_lost 68 = .ok (.aload_n 0, 1) := by decide +kernel
theorem dX12_lost_69 : decode cX12_lost 69 = .ok (.iconst 0, 1) := by decide +kernel
theorem dX12_lost_70 : decode cX12_lost 70 = .ok (.invokevirtual 255, 3) := by decide +kernel
theorem dX12_lost_73 : decode cX12_lost 73 = .ok (.iload_n 2, 1) := by decide +kernel
theorem dX12_lost_74 : decode cX12_lost 74 = .ok (.ireturn, 1) := by decide +kernel
theorem dX12_movedOn_0 : decode cX12_movedOn 0 = .ok (.iload_n 0, 1) := by decide +kernel
theorem dX12_movedOn_1 : decode cX12_movedOn 1 = .ok (.iload_n 1, 1) := by decide +kernel
theorem dX12_movedOn_2 : decode cX12_movedOn 2 = .ok (.ishl, 1) := by decide +kernel
theorem dX12_movedOn_3 : decode cX12_movedOn 3 = .ok (.istore_n 2, 1) := by decide +kernel
theorem dX12_movedOn_4 : decode cX12_movedOn 4 = .ok (.iload_n 2, 1) := by decide +kernel
theorem dX12_movedOn_5 : decode cX12_movedOn 5 = .ok (.bipush 63, 2) := by decide +kernel
theorem dX12_movedOn_7 : decode cX12_movedOn 7 = .ok (.iand, 1) := by decide +kernel
theorem dX12_movedOn_8 : decode cX12_movedOn 8 = .ok (.iload_n 2, 1) := by decide +kernel
theorem dX12_movedOn_9 : decode cX12_movedOn 9 = .ok (.bipush 6, 2) := by decide +kernel
theorem dX12_movedOn_11 : decode cX12_movedOn 11 = .ok (.ishr, 1) := by decide +kernel
theorem dX12_movedOn_12 : decode cX12_movedOn 12 = .ok (.ior, 1) := by decide +kernel
theorem dX12_movedOn_13 : decode cX12_movedOn 13 = .ok (.ireturn, 1) := by decide +kernel
theorem dX12_reach_0 : decode cX12_reach 0 = .ok (.aload_n 0, 1) := by decide +kernel
theorem dX12_reach_1 : decode cX12_reach 1 = .ok (.iload_n 1, 1) := by decide +kernel
theorem dX12_reach_2 : decode cX12_reach 2 = .ok (.invokevirtual 116, 3) := by decide +kernel
theorem dX12_reach_5 : decode cX12_reach 5 = .ok (.ifCond .eq 10, 3) := by decide +kernel
theorem dX12_reach_8 : decode cX12_reach 8 = .ok (.iload_n 2, 1) := by decide +kernel
theorem dX12_reach_9 : decode cX12_reach 9 = .ok (.invokestatic 74, 3) := by decide +kernel
theorem dX12_reach_12 : decode cX12_reach 12 = .ok (.ifCond .ne 5, 3) := by decide +kernel
theorem dX12_reach_15 : decode cX12_reach 15 = .ok (.iconst (-1), 1) := by decide +kernel
theorem dX12_reach_16 : decode cX12_reach 16 = .ok (.ireturn, 1) := by decide +kernel
theorem dX12_reach_17 : decode cX12_reach 17 = .ok (.iconst 1, 1) := by decide +kernel
theorem dX12_reach_18 : decode cX12_reach 18 = .ok (.aload_n 0, 1) := by decide +kernel
theorem dX12_reach_19 : decode cX12_reach 19 = .ok (.iload_n 1, 1) := by decide +kernel
theorem dX12_reach_20 : decode cX12_reach 20 = .ok (.iconst 5, 1) := by decide +kernel
theorem dX12_reach_21 : decode cX12_reach 21 = .ok (.invokevirtual 82, 3) := by decide +kernel
theorem dX12_reach_24 : decode cX12_reach 24 = .ok (.ishl, 1) := by decide +kernel
theorem dX12_reach_25 : decode cX12_reach 25 = .ok (.istore_n 3, 1) := by decide +kernel
theorem dX12_reach_26 : decode cX12_reach 26 = .ok (.iconst 0, 1) := by decide +kernel
theorem dX12_reach_27 : decode cX12_reach 27 = .ok (.istore 4, 2) := by decide +kernel
theorem dX12_reach_29 : decode cX12_reach 29 = .ok (.iload 4, 2) := by decide +kernel
theorem dX12_reach_31 : decode cX12_reach 31 = .ok (.bipush 16, 2) := by decide +kernel
theorem dX12_reach_33 : decode cX12_reach 33 = .ok (.if_icmp .gt 46, 3) := by decide +kernel
theorem dX12_reach_36 : decode cX12_reach 36 = .ok (.iload_n 3, 1) := by decide +kernel
theorem dX12_reach_37 : decode cX12_reach 37 = .ok (.iload_n 2, 1) := by decide +kernel
theorem dX12_reach_38 : decode cX12_reach 38 = .ok (.ishr, 1) := by decide +kernel
theorem dX12_reach_39 : decode cX12_reach 39 = .ok (.iconst 1, 1) := by decide +kernel
theorem dX12_reach_40 : decode cX12_reach 40 = .ok (.iand, 1) := by decide +kernel
theorem dX12_reach_41 : decode cX12_reach 41 = .ok (.ifCond .ne 38, 3) := by decide +kernel
theorem dX12_reach_44 : decode cX12_reach 44 = .ok (.iload_n 3, 1) := by decide +kernel
theorem dX12_reach_45 : decode cX12_reach 45 = .ok (.iload_n 3, 1) := by decide +kernel
theorem dX12_reach_46 : decode cX12_reach 46 = .ok (.iconst 1, 1) := by decide +kernel
theorem dX12_reach_47 : decode cX12_reach 47 = .ok (.invokestatic 264, 3) := by decide +kernel
theorem dX12_reach_50 : decode cX12_reach 50 = .ok (.ior, 1) := by decide +kernel
theorem dX12_reach_51 : decode cX12_reach 51 = .ok (.aload_n 0, 1) := by decide +kernel
theorem dX12_reach_52 : decode cX12_reach 52 = .ok (.iload_n 1, 1) := by decide +kernel
theorem dX12_reach_53 : decode cX12_reach 53 = .ok (.iconst 0, 1) := by decide +kernel
theorem dX12_reach_54 : decode cX12_reach 54 = .ok (.invokevirtual 82, 3) := by decide +kernel
theorem dX12_reach_57 : decode cX12_reach 57 = .ok (.aload_n 0, 1) := by decide +kernel
theorem dX12_reach_58 : decode cX12_reach 58 = .ok (.getfield 7, 3) := by decide +kernel
theorem dX12_reach_61 : decode cX12_reach 61 = .ok (.iconst 1, 1) := by decide +kernel
theorem dX12_reach_62 : decode cX12_reach 62 = .ok (.iaload, 1) := by decide +kernel
theorem dX12_reach_63 : decode cX12_reach 63 = .ok (.iload 4, 2) := by decide +kernel
theorem dX12_reach_65 : decode cX12_reach 65 = .ok (.iadd, 1) := by decide +kernel
theorem dX12_reach_66 : decode cX12_reach 66 = .ok (.invokestatic 124, 3) := by decide +kernel
theorem dX12_reach_69 : decode cX12_reach 69 = .ok (.invokestatic 264, 3) := by decide +kernel
theorem dX12_reach_72 : decode cX12_reach 72 = .ok (.istore_n 3, 1) := by decide +kernel
theorem dX12_reach_73 : decode cX12_reach 73 = .ok (.iinc 4 1, 3) := by decide +kernel
theorem dX12_reach_76 : decode cX12_reach 76 = .ok (.goto (-47), 3) := by decide +kernel
theorem dX12_reach_79 : decode cX12_reach 79 = .ok (.iload 4, 2) := by decide +kernel
theorem dX12_reach_81 : decode cX12_reach 81 = .ok (.bipush 16, 2) := by decide +kernel
theorem dX12_reach_83 : decode cX12_reach 83 = .ok (.if_icmp .gt 8, 3) := by decide +kernel
theorem dX12_reach_86 : decode cX12_reach 86 = .ok (.iload 4, 2) := by decide +kernel
theorem dX12_reach_88 : decode cX12_reach 88 = .ok (.goto 5, 3) := by decide +kernel
theorem dX12_reach_91 : decode cX12_reach 91 = .ok (.bipush (-3), 2) := by decide +kernel
theorem dX12_reach_93 : decode cX12_reach 93 = .ok (.ireturn, 1) := by decide +kernel
theorem dX12_areClose_0 : decode cX12_areClose 0 = .ok (.aload_n 0, 1) := by decide +kernel
theorem dX12_areClose_1 : decode cX12_areClose 1 = .ok (.iload_n 1, 1) := by decide +kernel
theorem dX12_areClose_2 : decode cX12_areClose 2 = .ok (.iconst 4, 1) := by decide +kernel
theorem dX12_areClose_3 : decode cX12_areClose 3 = .ok (.invokevirtual 82, 3) := by decide +kernel
theorem dX12_areClose_6 : decode cX12_areClose 6 = .ok (.ifCond .ne 16, 3) := by decide +kernel
theorem dX12_areClose_9 : decode cX12_areClose 9 = .ok (.aload_n 0, 1) := by decide +kernel
theorem dX12_areClose_10 : decode cX12_areClose 10 = .ok (.iload_n 2, 1) := by decide +kernel
theorem dX12_areClose_11 : decode cX12_areClose 11 = .ok (.iconst 4, 1) := by decide +kernel
theorem dX12_areClose_12 : decode cX12_areClose 12 = .ok (.invokevirtual 82, 3) := by decide +kernel
theorem dX12_areClose_15 : decode cX12_areClose 15 = .ok (.ifCond .ne 7, 3) := by decide +kernel
theorem dX12_areClose_18 : decode cX12_areClose 18 = .ok (.iconst 1, 1) := by decide +kernel
theorem dX12_areClose_19 : decode cX12_areClose 19 = .ok (.goto 4, 3) := by decide +kernel
theorem dX12_areClose_22 : decode cX12_areClose 22 = .ok (.iconst 0, 1) := by decide +kernel
theorem dX12_areClose_23 : decode cX12_areClose 23 = .ok (.istore_n 3, 1) := by decide +kernel
theorem dX12_areClose_24 : decode cX12_areClose 24 = .ok (.aload_n 0, 1) := by decide +kernel
theorem dX12_areClose_25 : decode cX12_areClose 25 = .ok (.iload_n 1, 1) := by decide +kernel
theorem dX12_areClose_26 : decode cX12_areClose 26 = .ok (.iconst 1, 1) := by decide +kernel
theorem dX12_areClose_27 : decode cX12_areClose 27 = .ok (.invokevirtual 82, 3) := by decide +kernel
theorem dX12_areClose_30 : decode cX12_areClose 30 = .ok (.aload_n 0, 1) := by decide +kernel
theorem dX12_areClose_31 : decode cX12_areClose 31 = .ok (.iload_n 2, 1) := by decide +kernel
theorem dX12_areClose_32 : decode cX12_areClose 32 = .ok (.iconst 1, 1) := by decide +kernel
theorem dX12_areClose_33 : decode cX12_areClose 33 = .ok (.invokevirtual 82, 3) := by decide +kernel
theorem dX12_areClose_36 : decode cX12_areClose 36 = .ok (.isub, 1) := by decide +kernel
theorem dX12_areClose_37 : decode cX12_areClose 37 = .ok (.istore 4, 2) := by decide +kernel
theorem dX12_areClose_39 : decode cX12_areClose 39 = .ok (.iload_n 3, 1) := by decide +kernel
theorem dX12_areClose_40 : decode cX12_areClose 40 = .ok (.ifCond .eq 35, 3) := by decide +kernel
theorem dX12_areClose_43 : decode cX12_areClose 43 = .ok (.aload_n 0, 1) := by decide +kernel
theorem dX12_areClose_44 : decode cX12_areClose 44 = .ok (.iload_n 1, 1) := by decide +kernel
theorem dX12_areClose_45 : decode cX12_areClose 45 = .ok (.iconst 5, 1) := by decide +kernel
theorem dX12_areClose_46 : decode cX12_areClose 46 = .ok (.invokevirtual 82, 3) := by decide +kernel
theorem dX12_areClose_49 : decode cX12_areClose 49 = .ok (.aload_n 0, 1) := by decide +kernel
theorem dX12_areClose_50 : decode cX12_areClose 50 = .ok (.iload_n 2, 1) := by decide +kernel
theorem dX12_areClose_51 : decode cX12_areClose 51 = .ok (.iconst 5, 1) := by decide +kernel
theorem dX12_areClose_52 : decode cX12_areClose 52 = .ok (.invokevirtual 82, 3) := by decide +kernel
theorem dX12_areClose_55 : decode cX12_areClose 55 = .ok (.if_icmp .eq 16, 3) := by decide +kernel
theorem dX12_areClose_58 : decode cX12_areClose 58 = .ok (.iload 4, 2) := by decide +kernel
theorem dX12_areClose_60 : decode cX12_areClose 60 = .ok (.bipush (-4), 2) := by decide +kernel
theorem dX12_areClose_62 : decode cX12_areClose 62 = .ok (.if_icmp .lt 13, 3) := by decide +kernel
theorem dX12_areClose_65 : decode cX12_areClose 65 = .ok (.iload 4, 2) := by decide +kernel
theorem dX12_areClose_67 : decode cX12_areClose 67 = .ok (.iconst 4, 1) := by decide +kernel
theorem dX12_areClose_68 : decode cX12_areClose 68 = .ok (.if_icmp .gt 7, 3) := by decide +kernel
theorem dX12_areClose_71 : decode cX12_areClose 71 = .ok (.iconst 1, 1) := by decide +kernel
theorem dX12_areClose_72 : decode cX12_areClose 72 = .ok (.goto 4, 3) := by decide +kernel
theorem dX12_areClose_75 : decode cX12_areClose 75 = .ok (.iconst 0, 1) := by decide +kernel
theorem dX12_areClose_76 : decode cX12_areClose 76 = .ok (.ireturn, 1) := by decide +kernel
theorem dX12_carriageOf_0 : decode cX12_carriageOf 0 = .ok (.aload_n 0, 1) := by decide +kernel
theorem dX12_carriageOf_1 : decode cX12_carriageOf 1 = .ok (.iload_n 1, 1) := by decide +kernel
theorem dX12_carriageOf_2 : decode cX12_carriageOf 2 = .ok (.iconst 4, 1) := by decide +kernel
theorem dX12_carriageOf_3 : decode cX12_carriageOf 3 = .ok (.invokevirtual 82, 3) := by decide +kernel
theorem dX12_carriageOf_6 : decode cX12_carriageOf 6 = .ok (.ifCond .ne 9, 3) := by decide +kernel
theorem dX12_carriageOf_9 : decode cX12_carriageOf 9 = .ok (.iconst 1, 1) := by decide +kernel
theorem dX12_carriageOf_10 : decode cX12_carriageOf 10 = .ok (.iload_n 1, 1) := by decide +kernel
theorem dX12_carriageOf_11 : decode cX12_carriageOf 11 = .ok (.ishl, 1) := by decide +kernel
theorem dX12_carriageOf_12 : decode cX12_carriageOf 12 = .ok (.goto 4, 3) := by decide +kernel
theorem dX12_carriageOf_15 : decode cX12_carriageOf 15 = .ok (.iconst 0, 1) := by decide +kernel
theorem dX12_carriageOf_16 : decode cX12_carriageOf 16 = .ok (.istore_n 2, 1) := by decide +kernel
theorem dX12_carriageOf_17 : decode cX12_carriageOf 17 = .ok (.iconst 0, 1) := by decide +kernel
theorem dX12_carriageOf_18 : decode cX12_carriageOf 18 = .ok (.istore_n 3, 1) := by decide +kernel
theorem dX12_carriageOf_19 : decode cX12_carriageOf 19 = .ok (.iload_n 3, 1) := by decide +kernel
theorem dX12_carriageOf_20 : decode cX12_carriageOf 20 = .ok (.bipush 6, 2) := by decide +kernel
theorem dX12_carriageOf_22 : decode cX12_carriageOf 22 = .ok (.if_icmp .ge 81, 3) := by decide +kernel
theorem dX12_carriageOf_25 : decode cX12_carriageOf 25 = .ok (.iconst 0, 1) := by decide +kernel
theorem dX12_carriageOf_26 : decode cX12_carriageOf 26 = .ok (.istore 4, 2) := by decide +kernel
theorem dX12_carriageOf_28 : decode cX12_carriageOf 28 = .ok (.iload 4, 2) := by decide +kernel
theorem dX12_carriageOf_30 : decode cX12_carriageOf 30 = .ok (.aload_n 0, 1) := by decide +kernel
theorem dX12_carriageOf_31 : decode cX12_carriageOf 31 = .ok (.getfield 7, 3) := by decide +kernel
theorem dX12_carriageOf_34 : decode cX12_carriageOf 34 = .ok (.iconst 0, 1) := by decide +kernel
theorem dX12_carriageOf_35 : decode cX12_carriageOf 35 = .ok (.iaload, 1) := by decide +kernel
theorem dX12_carriageOf_36 : decode cX12_carriageOf 36 = .ok (.if_icmp .ge 61, 3) := by decide +kernel
theorem dX12_carriageOf_39 : decode cX12_carriageOf 39 = .ok (.iconst 0, 1) := by decide +kernel
theorem dX12_carriageOf_40 : decode cX12_carriageOf 40 = .ok (.istore 5, 2) := by decide +kernel
theorem dX12_carriageOf_42 : decode cX12_carriageOf 42 = .ok (.iload 5, 2) := by decide +kernel
theorem dX12_carriageOf_44 : decode cX12_carriageOf 44 = .ok (.aload_n 0, 1) := by decide +kernel
theorem dX12_carriageOf_45 : decode cX12_carriageOf 45 = .ok (.getfield 7, 3) := by decide +kernel
theorem dX12_carriageOf_48 : decode cX12_carriageOf 48 = .ok (.iconst 0, 1) := by decide +kernel
theorem dX12_carriageOf_49 : decode cX12_carriageOf 49 = .ok (.iaload, 1) := by decide +kernel
theorem dX12_carriageOf_50 : decode cX12_carriageOf 50 = .ok (.if_icmp .ge 41, 3) := by decide +kernel
theorem dX12_carriageOf_53 : decode cX12_carriageOf 53 = .ok (.iload_n 2, 1) := by decide +kernel
theorem dX12_carriageOf_54 : decode cX12_carriageOf 54 = .ok (.iload_n 2, 1) := by decide +kernel
theorem dX12_carriageOf_55 : decode cX12_carriageOf 55 = .ok (.iload 4, 2) := by decide +kernel
theorem dX12_carriageOf_57 : decode cX12_carriageOf 57 = .ok (.ishr, 1) := by decide +kernel
theorem dX12_carriageOf_58 : decode cX12_carriageOf 58 = .ok (.iconst 1, 1) := by decide +kernel
theorem dX12_carriageOf_59 : decode cX12_carriageOf 59 = .ok (.iand, 1) := by decide +kernel
theorem dX12_carriageOf_60 : decode cX12_carriageOf 60 = .ok (.iconst 1, 1) := by decide +kernel
theorem dX12_carriageOf_61 : decode cX12_carriageOf 61 = .ok (.if_icmp .ne 21, 3) := by decide +kernel
theorem dX12_carriageOf_64 : decode cX12_carriageOf 64 = .ok (.aload_n 0, 1) := by decide +kernel
theorem dX12_carriageOf_65 : decode cX12_carriageOf 65 = .ok (.iload 4, 2) := by decide +kernel
theorem dX12_carriageOf_67 : decode cX12_carriageOf 67 = .ok (.iload 5, 2) := by decide +kernel
theorem dX12_carriageOf_69 : decode cX12_carriageOf 69 = .ok (.invokevirtual 267, 3) := by decide +kernel
theorem dX12_carriageOf_72 : decode cX12_carriageOf 72 = .ok (.ifCond .eq 10, 3) := by decide +kernel
theorem dX12_carriageOf_75 : decode cX12_carriageOf 75 = .ok (.iconst 1, 1) := by decide +kernel
theorem dX12_carriageOf_76 : decode cX12_carriageOf 76 = .ok (.iload 5, 2) := by decide +kernel
theorem dX12_carriageOf_78 : decode cX12_carriageOf 78 = .ok (.ishl, 1) := by decide +kernel
theorem dX12_carriageOf_79 : decode cX12_carriageOf 79 = .ok (.goto 4, 3) := by decide +kernel
theorem dX12_carriageOf_82 : decode cX12_carriageOf 82 = .ok (.iconst 0, 1) := by decide +kernel
theorem dX12_carriageOf_83 : decode cX12_carriageOf 83 = .ok (.ior, 1) := by decide +kernel
theorem dX12_carriageOf_84 : decode cX12_carriageOf 84 = .ok (.istore_n 2, 1) := by decide +kernel
theorem dX12_carriageOf_85 : decode cX12_carriageOf 85 = .ok (.iinc 5 1, 3) := by decide +kernel
theorem dX12_carriageOf_88 : decode cX12_carriageOf 88 = .ok (.goto (-46), 3) := by decide +kernel
theorem dX12_carriageOf_91 : decode cX12_carriageOf 91 = .ok (.iinc 4 1, 3) := by decide +kernel
theorem dX12_carriageOf_94 : decode cX12_carriageOf 94 = .ok (.goto (-66), 3) := by decide +kernel
theorem dX12_carriageOf_97 : decode cX12_carriageOf 97 = .ok (.iinc 3 1, 3) := by decide +kernel
theorem dX12_carriageOf_100 : decode cX12_carriageOf 100 = .ok (.goto (-81), 3) := by decide +kernel
theorem dX12_carriageOf_103 : decode cX12_carriageOf 103 = .ok (.iload_n 2, 1) := by decide +kernel
theorem dX12_carriageOf_104 : decode cX12_carriageOf 104 = .ok (.ireturn, 1) := by decide +kernel
theorem dX12_carriages_0 : decode cX12_carriages 0 = .ok (.iload_n 1, 1) := by decide +kernel
theorem dX12_carriages_1 : decode cX12_carriages 1 = .ok (.iconst (-1), 1) := by decide +kernel
theorem dX12_carriages_2 : decode cX12_carriages 2 = .ok (.if_icmp .eq 13, 3) := by decide +kernel
theorem dX12_carriages_5 : decode cX12_carriages 5 = .ok (.aload_n 0, 1) := by decide +kernel
theorem dX12_carriages_6 : decode cX12_carriages 6 = .ok (.iload_n 1, 1) := by decide +kernel
theorem dX12_carriages_7 : decode cX12_carriages 7 = .ok (.invokevirtual 116, 3) := by decide +kernel
theorem dX12_carriages_10 : decode cX12_carriages 10 = .ok (.ifCond .ne 5, 3) := by decide +kernel
theorem dX12_carriages_13 : decode cX12_carriages 13 = .ok (.iconst (-1), 1) := by decide +kernel
theorem dX12_carriages_14 : decode cX12_carriages 14 = .ok (.ireturn, 1) := by decide +kernel
theorem dX12_carriages_15 : decode cX12_carriages 15 = .ok (.iload_n 1, 1) := by decide +kernel
theorem dX12_carriages_16 : decode cX12_carriages 16 = .ok (.ifCond .lt 9, 3) := by decide +kernel
theorem dX12_carriages_19 : decode cX12_carriages 19 = .ok (.aload_n 0, 1) := by decide +kernel
theorem dX12_carriages_20 : decode cX12_carriages 20 = .ok (.iload_n 1, 1) := by decide +kernel
theorem dX12_carriages_21 : decode cX12_carriages 21 = .ok (.invokevirtual 270, 3) := by decide +kernel
theorem dX12_carriages_24 : decode cX12_carriages 24 = .ok (.ireturn, 1) := by decide +kernel
theorem dX12_carriages_25 : decode cX12_carriages 25 = .ok (.iconst 0, 1) := by decide +kernel
theorem dX12_carriages_26 : decode cX12_carriages 26 = .ok (.istore_n 2, 1) := by decide +kernel
theorem dX12_carriages_27 : decode cX12_carriages 27 = .ok (.iconst 0, 1) := by decide +kernel
theorem dX12_carriages_28 : decode cX12_carriages 28 = .ok (.istore_n 3, 1) := by decide +kernel
theorem dX12_carriages_29 : decode cX12_carriages 29 = .ok (.iload_n 3, 1) := by decide +kernel
theorem dX12_carriages_30 : decode cX12_carriages 30 = .ok (.aload_n 0, 1) := by decide +kernel
theorem dX12_carriages_31 : decode cX12_carriages 31 = .ok (.getfield 7, 3) := by decide +kernel
theorem dX12_carriages_34 : decode cX12_carriages 34 = .ok (.iconst 0, 1) := by decide +kernel
theorem dX12_carriages_35 : decode cX12_carriages 35 = .ok (.iaload, 1) := by decide +kernel
theorem dX12_carriages_36 : decode cX12_carriages 36 = .ok (.if_icmp .ge 40, 3) := by decide +kernel
theorem dX12_carriages_39 : decode cX12_carriages 39 = .ok (.iload_n 2, 1) := by decide +kernel
theorem dX12_carriages_40 : decode cX12_carriages 40 = .ok (.aload_n 0, 1) := by decide +kernel
theorem dX12_carriages_41 : decode cX12_carriages 41 = .ok (.iload_n 3, 1) := by decide +kernel
theorem dX12_carriages_42 : decode cX12_carriages 42 = .ok (.iconst 4, 1) := by decide +kernel
theorem dX12_carriages_43 : decode cX12_carriages 43 = .ok (.invokevirtual 82, 3) := by decide +kernel
theorem dX12_carriages_46 : decode cX12_carriages 46 = .ok (.ifCond .ne 21, 3) := by decide +kernel
theorem dX12_carriages_49 : decode cX12_carriages 49 = .ok (.aload_n 0, 1) := by decide +kernel
theorem dX12_carriages_50 : decode cX12_carriages 50 = .ok (.iload_n 3, 1) := by decide +kernel
theorem dX12_carriages_51 : decode cX12_carriages 51 = .ok (.invokevirtual 270, 3) := by decide +kernel
theorem dX12_carriages_54 : decode cX12_carriages 54 = .ok (.iconst 1, 1) := by decide +kernel
theorem dX12_carriages_55 : decode cX12_carriages 55 = .ok (.iload_n 3, 1) := by decide +kernel
theorem dX12_carriages_56 : decode cX12_carriages 56 = .ok (.ishl, 1) := by decide +kernel
theorem dX12_carriages_57 : decode cX12_carriages 57 = .ok (.iconst 1, 1) := by decide +kernel
theorem dX12_carriages_58 : decode cX12_carriages 58 = .ok (.isub, 1) := by decide +kernel
theorem dX12_carriages_59 : decode cX12_carriages 59 = .ok (.iand, 1) := by decide +kernel
theorem dX12_carriages_60 : decode cX12_carriages 60 = .ok (.ifCond .ne 7, 3) := by decide +kernel
theorem dX12_carriages_63 : decode cX12_carriages 63 = .ok (.iconst 1, 1) := by decide +kernel
theorem dX12_carriages_64 : decode cX12_carriages 64 = .ok (.goto 4, 3) := by decide +kernel
theorem dX12_carriages_67 : decode cX12_carriages 67 = .ok (.iconst 0, 1) := by decide +kernel
theorem dX12_carriages_68 : decode cX12_carriages 68 = .ok (.iadd, 1) := by decide +kernel
theorem dX12_carriages_69 : decode cX12_carriages 69 = .ok (.istore_n 2, 1) := by decide +kernel
theorem dX12_carriages_70 : decode cX12_carriages 70 = .ok (.iinc 3 1, 3) := by decide +kernel
theorem dX12_carriages_73 : decode cX12_carriages 73 = .ok (.goto (-44), 3) := by decide +kernel
theorem dX12_carriages_76 : decode cX12_carriages 76 = .ok (.iload_n 2, 1) := by decide +kernel
theorem dX12_carriages_77 : decode cX12_carriages 77 = .ok (.ireturn, 1) := by decide +kernel
theorem dX12_manyAt_0 : decode cX12_manyAt 0 = .ok (.iconst 0, 1) := by decide +kernel
theorem dX12_manyAt_1 : decode cX12_manyAt 1 = .ok (.istore_n 2, 1) := by decide +kernel
theorem dX12_manyAt_2 : decode cX12_manyAt 2 = .ok (.iconst 0, 1) := by decide +kernel
theorem dX12_manyAt_3 : decode cX12_manyAt 3 = .ok (.istore_n 3, 1) := by decide +kernel
theorem dX12_manyAt_4 : decode cX12_manyAt 4 = .ok (.iload_n 3, 1) := by decide +kernel
theorem dX12_manyAt_5 : decode cX12_manyAt 5 = .ok (.aload_n 0, 1) := by decide +kernel
theorem dX12_manyAt_6 : decode cX12_manyAt 6 = .ok (.getfield 7, 3) := by decide +kernel
theorem dX12_manyAt_9 : decode cX12_manyAt 9 = .ok (.iconst 0, 1) := by decide +kernel
theorem dX12_manyAt_10 : decode cX12_manyAt 10 = .ok (.iaload, 1) := by decide +kernel
theorem dX12_manyAt_11 : decode cX12_manyAt 11 = .ok (.if_icmp .ge 36, 3) := by decide +kernel
theorem dX12_manyAt_14 : decode cX12_manyAt 14 = .ok (.iload_n 2, 1) := by decide +kernel
theorem dX12_manyAt_15 : decode cX12_manyAt 15 = .ok (.aload_n 0, 1) := by decide +kernel
theorem dX12_manyAt_16 : decode cX12_manyAt 16 = .ok (.iload_n 3, 1) := by decide +kernel
theorem dX12_manyAt_17 : decode cX12_manyAt 17 = .ok (.iconst 4, 1) := by decide +kernel
theorem dX12_manyAt_18 : decode cX12_manyAt 18 = .ok (.invokevirtual 82, 3) := by decide +kernel
theorem dX12_manyAt_21 : decode cX12_manyAt 21 = .ok (.ifCond .ne 17, 3) := by decide +kernel
theorem dX12_manyAt_24 : decode cX12_manyAt 24 = .ok (.aload_n 0, 1) := by decide +kernel
theorem dX12_manyAt_25 : decode cX12_manyAt 25 = .ok (.iload_n 3, 1) := by decide +kernel
theorem dX12_manyAt_26 : decode cX12_manyAt 26 = .ok (.iconst 5, 1) := by decide +kernel
theorem dX12_manyAt_27 : decode cX12_manyAt 27 = .ok (.invokevirtual 82, 3) := by decide +kernel
theorem dX12_manyAt_30 : decode cX12_manyAt 30 = .ok (.iload_n 1, 1) := by decide +kernel
theorem dX12_manyAt_31 : decode cX12_manyAt 31 = .ok (.if_icmp .ne 7, 3) := by decide +kernel
theorem dX12_manyAt_34 : decode cX12_manyAt 34 = .ok (.iconst 1, 1) := by decide +kernel
theorem dX12_manyAt_35 : decode cX12_manyAt 35 = .ok (.goto 4, 3) := by decide +kernel
theorem dX12_manyAt_38 : decode cX12_manyAt 38 = .ok (.iconst 0, 1) := by decide +kernel
theorem dX12_manyAt_39 : decode cX12_manyAt 39 = .ok (.iadd, 1) := by decide +kernel
theorem dX12_manyAt_40 : decode cX12_manyAt 40 = .ok (.istore_n 2, 1) := by decide +kernel
theorem dX12_manyAt_41 : decode cX12_manyAt 41 = .ok (.iinc 3 1, 3) := by decide +kernel
theorem dX12_manyAt_44 : decode cX12_manyAt 44 = .ok (.goto (-40), 3) := by decide +kernel
theorem dX12_manyAt_47 : decode cX12_manyAt 47 = .ok (.iload_n 2, 1) := by decide +kernel
theorem dX12_manyAt_48 : decode cX12_manyAt 48 = .ok (.ireturn, 1) := by decide +kernel
theorem dX12_press_0 : decode cX12_press 0 = .ok (.iload_n 1, 1) := by decide +kernel
theorem dX12_press_1 : decode cX12_press 1 = .ok (.i2l, 1) := by decide +kernel
theorem dX12_press_2 : decode cX12_press 2 = .ok (.lconst 0, 1) := by decide +kernel
theorem dX12_press_3 : decode cX12_press 3 = .ok (.ldc2_w 138, 3) := by decide +kernel
theorem dX12_press_6 : decode cX12_press 6 = .ok (.invokestatic 66, 3) := by decide +kernel
theorem dX12_press_9 : decode cX12_press 9 = .ok (.ifCond .eq 13, 3) := by decide +kernel
theorem dX12_press_12 : decode cX12_press 12 = .ok (.iload_n 2, 1) := by decide +kernel
theorem dX12_press_13 : decode cX12_press 13 = .ok (.i2l, 1) := by decide +kernel
theorem dX12_press_14 : decode cX12_press 14 = .ok (.lconst 0, 1) := by decide +kernel
theorem dX12_press_15 : decode cX12_press 15 = .ok (.lconst 1, 1) := by decide +kernel
theorem dX12_press_16 : decode cX12_press 16 = .ok (.invokestatic 66, 3) := by decide +kernel
theorem dX12_press_19 : decode cX12_press 19 = .ok (.ifCond .ne 5, 3) := by decide +kernel
theorem dX12_press_22 : decode cX12_press 22 = .ok (.iconst (-1), 1) := by decide +kernel
theorem dX12_press_23 : decode cX12_press 23 = .ok (.ireturn, 1) := by decide +kernel
theorem dX12_press_24 : decode cX12_press 24 = .ok (.aload_n 0, 1) := by decide +kernel
theorem dX12_press_25 : decode cX12_press 25 = .ok (.iconst 0, 1) := by decide +kernel
theorem dX12_press_26 : decode cX12_press 26 = .ok (.invokevirtual 251, 3) := by decide +kernel
theorem dX12_press_29 : decode cX12_press 29 = .ok (.iconst 0, 1) := by decide +kernel
theorem dX12_press_30 : decode cX12_press 30 = .ok (.istore_n 3, 1) := by decide +kernel
theorem dX12_press_31 : decode cX12_press 31 = .ok (.iload_n 3, 1) := by decide +kernel
theorem dX12_press_32 : decode cX12_press 32 = .ok (.iload_n 1, 1) := by decide +kernel
theorem dX12_press_33 : decode cX12_press 33 = .ok (.if_icmp .ge 26, 3) := by decide +kernel
theorem dX12_press_36 : decode cX12_press 36 = .ok (.aload_n 0, 1) := by decide +kernel
theorem dX12_press_37 : decode cX12_press 37 = .ok (.invokevirtual 140, 3) := by decide +kernel
theorem dX12_press_40 : decode cX12_press 40 = .ok (.ifCond .ne 19, 3) := by decide +kernel
theorem dX12_press_43 : decode cX12_press 43 = .ok (.aload_n 0, 1) := by decide +kernel
theorem dX12_press_44 : decode cX12_press 44 = .ok (.aload_n 0, 1) := by decide +kernel
theorem dX12_press_45 : decode cX12_press 45 = .ok (.invokevirtual 245, 3) := by decide +kernel
theorem dX12_press_48 : decode cX12_press 48 = .ok (.invokevirtual 248, 3) := by decide +kernel
theorem dX12_press_51 : decode cX12_press 51 = .ok (.istore 4, 2) := by decide +kernel
theorem dX12_press_53 : decode cX12_press 53 = .ok (.iinc 3 1, 3) := by decide +kernel
theorem dX12_press_56 : decode cX12_press 56 = .ok (.goto (-25), 3) := by decide +kernel
theorem dX12_press_59 : decode cX12_press 59 = .ok (.iconst 0, 1) := by decide +kernel
theorem dX12_press_60 : decode cX12_press 60 = .ok (.istore_n 3, 1) := by decide +kernel
theorem dX12_press_61 : decode cX12_press 61 = .ok (.iconst 0, 1) := by decide +kernel
theorem dX12_press_62 : decode cX12_press 62 = .ok (.istore 4, 2) := by decide +kernel
theorem dX12_press_64 : decode cX12_press 64 = .ok (.iconst 0, 1) := by decide +kernel
theorem dX12_press_65 : decode cX12_press 65 = .ok (.istore 5, 2) := by decide +kernel
theorem dX12_press_67 : decode cX12_press 67 = .ok (.iload 5, 2) := by decide +kernel
theorem dX12_press_69 : decode cX12_press 69 = .ok (.bipush 6, 2) := by decide +kernel
theorem dX12_press_71 : decode cX12_press 71 = .ok (.if_icmp .ge 40, 3) := by decide +kernel
theorem dX12_press_74 : decode cX12_press 74 = .ok (.aload_n 0, 1) := by decide +kernel
theorem dX12_press_75 : decode cX12_press 75 = .ok (.iload 5, 2) := by decide +kernel
theorem dX12_press_77 : decode cX12_press 77 = .ok (.invokevirtual 273, 3) := by decide +kernel
theorem dX12_press_80 : decode cX12_press 80 = .ok (.istore 6, 2) := by decide +kernel
theorem dX12_press_82 : decode cX12_press 82 = .ok (.iload 6, 2) := by decide +kernel
theorem dX12_press_84 : decode cX12_press 84 = .ok (.iload 4, 2) := by decide +kernel
theorem dX12_press_86 : decode cX12_press 86 = .ok (.if_icmp .le 8, 3) := by decide +kernel
theorem dX12_press_89 : decode cX12_press 89 = .ok (.iload 5, 2) := by decide +kernel
theorem dX12_press_91 : decode cX12_press 91 = .ok (.goto 4, 3) := by decide +kernel
theorem dX12_press_94 : decode cX12_press 94 = .ok (.iload_n 3, 1) := by decide +kernel
theorem dX12_press_95 : decode cX12_press 95 = .ok (.istore_n 3, 1) := by decide +kernel
theorem dX12_press_96 : decode cX12_press 96 = .ok (.iload 4, 2) := by decide +kernel
theorem dX12_press_98 : decode cX12_press 98 = .ok (.iload 6, 2) := by decide +kernel
theorem dX12_press_100 : decode cX12_press 100 = .ok (.invokestatic 78, 3) := by decide +kernel
theorem dX12_press_103 : decode cX12_press 103 = .ok (.istore 4, 2) := by decide +kernel
theorem dX12_press_105 : decode cX12_press 105 = .ok (.iinc 5 1, 3) := by decide +kernel
theorem dX12_press_108 : decode cX12_press 108 = .ok (.goto (-41), 3) := by decide +kernel
theorem dX12_press_111 : decode cX12_press 111 = .ok (.aload_n 0, 1) := by decide +kernel
theorem dX12_press_112 : decode cX12_press 112 = .ok (.iconst 0, 1) := by decide +kernel
theorem dX12_press_113 : decode cX12_press 113 = .ok (.invokevirtual 255, 3) := by decide +kernel
theorem dX12_press_116 : decode cX12_press 116 = .ok (.iload_n 2, 1) := by decide +kernel
theorem dX12_press_117 : decode cX12_press 117 = .ok (.ifCond .ne 7, 3) := by decide +kernel
theorem dX12_press_120 : decode cX12_press 120 = .ok (.iload_n 3, 1) := by decide +kernel
theorem dX12_press_121 : decode cX12_press 121 = .ok (.goto 5, 3) := by decide +kernel
theorem dX12_press_124 : decode cX12_press 124 = .ok (.iload 4, 2) := by decide +kernel
theorem dX12_press_126 : decode cX12_press 126 = .ok (.ireturn, 1) := by decide +kernel
theorem dX12_isSet_0 : decode cX12_isSet 0 = .ok (.iload_n 1, 1) := by decide +kernel
theorem dX12_isSet_1 : decode cX12_isSet 1 = .ok (.i2l, 1) := by decide +kernel
theorem dX12_isSet_2 : decode cX12_isSet 2 = .ok (.lconst 0, 1) := by decide +kernel
theorem dX12_isSet_3 : decode cX12_isSet 3 = .ok (.iconst 1, 1) := by decide +kernel
theorem dX12_isSet_4 : decode cX12_isSet 4 = .ok (.aload_n 0, 1) := by decide +kernel
theorem dX12_isSet_5 : decode cX12_isSet 5 = .ok (.getfield 7, 3) := by decide +kernel
theorem dX12_isSet_8 : decode cX12_isSet 8 = .ok (.iconst 0, 1) := by decide +kernel
theorem dX12_isSet_9 : decode cX12_isSet 9 = .ok (.iaload, 1) := by decide +kernel
theorem dX12_isSet_10 : decode cX12_isSet 10 = .ok (.ishl, 1) := by decide +kernel
theorem dX12_isSet_11 : decode cX12_isSet 11 = .ok (.iconst 1, 1) := by decide +kernel
theorem dX12_isSet_12 : decode cX12_isSet 12 = .ok (.isub, 1) := by decide +kernel
theorem dX12_isSet_13 : decode cX12_isSet 13 = .ok (.i2l, 1) := by decide +kernel
theorem dX12_isSet_14 : decode cX12_isSet 14 = .ok (.invokestatic 66, 3) := by decide +kernel
theorem dX12_isSet_17 : decode cX12_isSet 17 = .ok (.ireturn, 1) := by decide +kernel
theorem dX12_plans_0 : decode cX12_plans 0 = .ok (.iload_n 1, 1) := by decide +kernel
theorem dX12_plans_1 : decode cX12_plans 1 = .ok (.iload_n 2, 1) := by decide +kernel
theorem dX12_plans_2 : decode cX12_plans 2 = .ok (.if_icmp .eq 10, 3) := by decide +kernel
theorem dX12_plans_5 : decode cX12_plans 5 = .ok (.aload_n 0, 1) := by decide +kernel
theorem dX12_plans_6 : decode cX12_plans 6 = .ok (.invokevirtual 140, 3) := by decide +kernel
theorem dX12_plans_9 : decode cX12_plans 9 = .ok (.ifCond .eq 129, 3) := by decide +kernel
theorem dX12_plans_12 : decode cX12_plans 12 = .ok (.iload_n 3, 1) := by decide +kernel
theorem dX12_plans_13 : decode cX12_plans 13 = .ok (.aload_n 0, 1) := by decide +kernel
theorem dX12_plans_14 : decode cX12_plans 14 = .ok (.getfield 276, 3) := by decide +kernel
theorem dX12_plans_17 : decode cX12_plans 17 = .ok (.if_icmp .le 47, 3) := by decide +kernel
theorem dX12_plans_20 : decode cX12_plans 20 = .ok (.aload_n 0, 1) := by decide +kernel
theorem dX12_plans_21 : decode cX12_plans 21 = .ok (.iload_n 3, 1) := by decide +kernel
theorem dX12_plans_22 : decode cX12_plans 22 = .ok (.putfield 276, 3) := by decide +kernel
theorem dX12_plans_25 : decode cX12_plans 25 = .ok (.aload_n 0, 1) := by decide +kernel
theorem dX12_plans_26 : decode cX12_plans 26 = .ok (.iconst 0, 1) := by decide +kernel
theorem dX12_plans_27 : decode cX12_plans 27 = .ok (.putfield 279, 3) := by decide +kernel
theorem dX12_plans_30 : decode cX12_plans 30 = .ok (.aload_n 0, 1) := by decide +kernel
theorem dX12_plans_31 : decode cX12_plans 31 = .ok (.iload_n 1, 1) := by decide +kernel
theorem dX12_plans_32 : decode cX12_plans 32 = .ok (.putfield 282, 3) := by decide +kernel
theorem dX12_plans_35 : decode cX12_plans 35 = .ok (.iconst 0, 1) := by decide +kernel
theorem dX12_plans_36 : decode cX12_plans 36 = .ok (.istore 5, 2) := by decide +kernel
theorem dX12_plans_38 : decode cX12_plans 38 = .ok (.iload 5, 2) := by decide +kernel
theorem dX12_plans_40 : decode cX12_plans 40 = .ok (.iconst 4, 1) := by decide +kernel
theorem dX12_plans_41 : decode cX12_plans 41 = .ok (.if_icmp .ge 23, 3) := by decide +kernel
theorem dX12_plans_44 : decode cX12_plans 44 = .ok (.aload_n 0, 1) := by decide +kernel
theorem dX12_plans_45 : decode cX12_plans 45 = .ok (.getfield 31, 3) := by decide +kernel
theorem dX12_plans_48 : decode cX12_plans 48 = .ok (.iload 5, 2) := by decide +kernel
theorem dX12_plans_50 : decode cX12_plans 50 = .ok (.aload_n 0, 1) := by decide +kernel
theorem dX12_plans_51 : decode cX12_plans 51 = .ok (.getfield 28, 3) := by decide +kernel
theorem dX12_plans_54 : decode cX12_plans 54 = .ok (.iload 5, 2) := by decide +kernel
theorem dX12_plans_56 : decode cX12_plans 56 = .ok (.iaload, 1) := by decide +kernel
theorem dX12_plans_57 : decode cX12_plans 57 = .ok (.iastore, 1) := by decide +kernel
theorem dX12_plans_58 : decode cX12_plans 58 = .ok (.iinc 5 1, 3) := by decide +kernel
theorem dX12_plans_61 : decode cX12_plans 61 = .ok (.goto (-23), 3) := by decide +kernel
theorem dX12_plans_64 : decode cX12_plans 64 = .ok (.aload_n 0, 1) := by decide +kernel
theorem dX12_plans_65 : decode cX12_plans 65 = .ok (.dup, 1) := by decide +kernel
theorem dX12_plans_66 : decode cX12_plans 66 = .ok (.getfield 279, 3) := by decide +kernel
theorem dX12_plans_69 : decode cX12_plans 69 = .ok (.iload_n 3, 1) := by decide +kernel
theorem dX12_plans_70 : decode cX12_plans 70 = .ok (.aload_n 0, 1) := by decide +kernel
theorem dX12_plans_71 : decode cX12_plans 71 = .ok (.getfield 276, 3) := by decide +kernel
theorem dX12_plans_74 : decode cX12_plans 74 = .ok (.if_icmp .ne 7, 3) := by decide +kernel
theorem dX12_plans_77 : decode cX12_plans 77 = .ok (.iconst 1, 1) := by decide +kernel
theorem dX12_plans_78 : decode cX12_plans 78 = .ok (.goto 4, 3) := by decide +kernel
theorem dX12_plans_81 : decode cX12_plans 81 = .ok (.iconst 0, 1) := by decide +kernel
theorem dX12_plans_82 : decode cX12_plans 82 = .ok (.iadd, 1) := by decide +kernel
theorem dX12_plans_83 : decode cX12_plans 83 = .ok (.putfield 279, 3) := by decide +kernel
theorem dX12_plans_86 : decode cX12_plans 86 = .ok (.aload_n 0, 1) := by decide +kernel
theorem dX12_plans_87 : decode cX12_plans 87 = .ok (.invokevirtual 144, 3) := by decide +kernel
theorem dX12_plans_90 : decode cX12_plans 90 = .ok (.istore 5, 2) := by decide +kernel
theorem dX12_plans_92 : decode cX12_plans 92 = .ok (.aload_n 0, 1) := by decide +kernel
theorem dX12_plans_93 : decode cX12_plans 93 = .ok (.dup, 1) := by decide +kernel
theorem dX12_plans_94 : decode cX12_plans 94 = .ok (.getfield 285, 3) := by decide +kernel
theorem dX12_plans_97 : decode cX12_plans 97 = .ok (.iload 5, 2) := by decide +kernel
theorem dX12_plans_99 : decode cX12_plans 99 = .ok (.ior, 1) := by decide +kernel
theorem dX12_plans_100 : decode cX12_plans 100 = .ok (.putfield 285, 3) := by decide +kernel
theorem dX12_plans_103 : decode cX12_plans 103 = .ok (.aload_n 0, 1) := by decide +kernel
theorem dX12_plans_104 : decode cX12_plans 104 = .ok (.aload_n 0, 1) := by decide +kernel
theorem dX12_plans_105 : decode cX12_plans 105 = .ok (.getfield 288, 3) := by decide +kernel
theorem dX12_plans_108 : decode cX12_plans 108 = .ok (.iload 5, 2) := by decide +kernel
theorem dX12_plans_110 : decode cX12_plans 110 = .ok (.iconst (-1), 1) := by decide +kernel
theorem dX12_plans_111 : decode cX12_plans 111 = .ok (.ixor, 1) := by decide +kernel
theorem dX12_plans_112 : decode cX12_plans 112 = .ok (.iand, 1) := by decide +kernel
theorem dX12_plans_113 : decode cX12_plans 113 = .ok (.ifCond .ne 17, 3) := by decide +kernel
theorem dX12_plans_116 : decode cX12_plans 116 = .ok (.iload 4, 2) := by decide +kernel
theorem dX12_plans_118 : decode cX12_plans 118 = .ok (.aload_n 0, 1) := by decide +kernel
theorem dX12_plans_119 : decode cX12_plans 119 = .ok (.getfield 291, 3) := by decide +kernel
theorem dX12_plans_122 : decode cX12_plans 122 = .ok (.if_icmp .ge 8, 3) := by decide +kernel
theorem dX12_plans_125 : decode cX12_plans 125 = .ok (.iload 4, 2) := by decide +kernel
theorem dX12_plans_127 : decode cX12_plans 127 = .ok (.goto 7, 3) := by decide +kernel
theorem dX12_plans_130 : decode cX12_plans 130 = .ok (.aload_n 0, 1) := by decide +kernel
theorem dX12_plans_131 : decode cX12_plans 131 = .ok (.getfield 291, 3) := by decide +kernel
theorem dX12_plans_134 : decode cX12_plans 134 = .ok (.putfield 291, 3) := by decide +kernel
theorem dX12_plans_137 : decode cX12_plans 137 = .ok (.return_, 1) := by decide +kernel
theorem dX12_plans_138 : decode cX12_plans 138 = .ok (.aload_n 0, 1) := by decide +kernel
theorem dX12_plans_139 : decode cX12_plans 139 = .ok (.iload_n 1, 1) := by decide +kernel
theorem dX12_plans_140 : decode cX12_plans 140 = .ok (.invokevirtual 251, 3) := by decide +kernel
theorem dX12_plans_143 : decode cX12_plans 143 = .ok (.iconst 0, 1) := by decide +kernel
theorem dX12_plans_144 : decode cX12_plans 144 = .ok (.istore 5, 2) := by decide +kernel
theorem dX12_plans_146 : decode cX12_plans 146 = .ok (.iload 5, 2) := by decide +kernel
theorem dX12_plans_148 : decode cX12_plans 148 = .ok (.aload_n 0, 1) := by decide +kernel
theorem dX12_plans_149 : decode cX12_plans 149 = .ok (.getfield 7, 3) := by decide +kernel
theorem dX12_plans_152 : decode cX12_plans 152 = .ok (.iconst 0, 1) := by decide +kernel
theorem dX12_plans_153 : decode cX12_plans 153 = .ok (.iaload, 1) := by decide +kernel
theorem dX12_plans_154 : decode cX12_plans 154 = .ok (.if_icmp .gt 56, 3) := by decide +kernel
theorem dX12_plans_157 : decode cX12_plans 157 = .ok (.aload_n 0, 1) := by decide +kernel
theorem dX12_plans_158 : decode cX12_plans 158 = .ok (.getfield 28, 3) := by decide +kernel
theorem dX12_plans_161 : decode cX12_plans 161 = .ok (.iload_n 1, 1) := by decide +kernel
theorem dX12_plans_162 : decode cX12_plans 162 = .ok (.iload 5, 2) := by decide +kernel
theorem dX12_plans_164 : decode cX12_plans 164 = .ok (.iastore, 1) := by decide +kernel
theorem dX12_plans_165 : decode cX12_plans 165 = .ok (.aload_n 0, 1) := by decide +kernel
theorem dX12_plans_166 : decode cX12_plans 166 = .ok (.iload 5, 2) := by decide +kernel
theorem dX12_plans_168 : decode cX12_plans 168 = .ok (.invokevirtual 248, 3) := by decide +kernel
theorem dX12_plans_171 : decode cX12_plans 171 = .ok (.istore 6, 2) := by decide +kernel
theorem dX12_plans_173 : decode cX12_plans 173 = .ok (.aload_n 0, 1) := by decide +kernel
theorem dX12_plans_174 : decode cX12_plans 174 = .ok (.iload_n 1, 1) := by decide +kernel
theorem dX12_plans_175 : decode cX12_plans 175 = .ok (.iconst 1, 1) := by decide +kernel
theorem dX12_plans_176 : decode cX12_plans 176 = .ok (.iadd, 1) := by decide +kernel
theorem dX12_plans_177 : decode cX12_plans 177 = .ok (.iload_n 2, 1) := by decide +kernel
theorem dX12_plans_178 : decode cX12_plans 178 = .ok (.iload_n 3, 1) := by decide +kernel
theorem dX12_plans_179 : decode cX12_plans 179 = .ok (.iload 6, 2) := by decide +kernel
theorem dX12_plans_181 : decode cX12_plans 181 = .ok (.iadd, 1) := by decide +kernel
theorem dX12_plans_182 : decode cX12_plans 182 = .ok (.iload 5, 2) := by decide +kernel
theorem dX12_plans_184 : decode cX12_plans 184 = .ok (.ifCond .ne 8, 3) := by decide +kernel
theorem dX12_plans_187 : decode cX12_plans 187 = .ok (.iload 4, 2) := by decide +kernel
theorem dX12_plans_189 : decode cX12_plans 189 = .ok (.goto 7, 3) := by decide +kernel
theorem dX12_plans_192 : decode cX12_plans 192 = .ok (.iload 4, 2) := by decide +kernel
theorem dX12_plans_194 : decode cX12_plans 194 = .ok (.iconst 1, 1) := by decide +kernel
theorem dX12_plans_195 : decode cX12_plans 195 = .ok (.iadd, 1) := by decide +kernel
theorem dX12_plans_196 : decode cX12_plans 196 = .ok (.invokevirtual 294, 3) := by decide +kernel
theorem dX12_plans_199 : decode cX12_plans 199 = .ok (.aload_n 0, 1) := by decide +kernel
theorem dX12_plans_200 : decode cX12_plans 200 = .ok (.iload_n 1, 1) := by decide +kernel
theorem dX12_plans_201 : decode cX12_plans 201 = .ok (.invokevirtual 255, 3) := by decide +kernel
theorem dX12_plans_204 : decode cX12_plans 204 = .ok (.iinc 5 1, 3) := by decide +kernel
theorem dX12_plans_207 : decode cX12_plans 207 = .ok (.goto (-61), 3) := by decide +kernel
theorem dX12_plans_210 : decode cX12_plans 210 = .ok (.return_, 1) := by decide +kernel
theorem dX12_findsPlans_0 : decode cX12_findsPlans 0 = .ok (.aload_n 0, 1) := by decide +kernel
theorem dX12_findsPlans_1 : decode cX12_findsPlans 1 = .ok (.iconst (-1), 1) := by decide +kernel
theorem dX12_findsPlans_2 : decode cX12_findsPlans 2 = .ok (.putfield 276, 3) := by decide +kernel
theorem dX12_findsPlans_5 : decode cX12_findsPlans 5 = .ok (.aload_n 0, 1) := by decide +kernel
theorem dX12_findsPlans_6 : decode cX12_findsPlans 6 = .ok (.iconst 0, 1) := by decide +kernel
theorem dX12_findsPlans_7 : decode cX12_findsPlans 7 = .ok (.putfield 279, 3) := by decide +kernel
theorem dX12_findsPlans_10 : decode cX12_findsPlans 10 = .ok (.aload_n 0, 1) := by decide +kernel
theorem dX12_findsPlans_11 : decode cX12_findsPlans 11 = .ok (.iconst 0, 1) := by decide +kernel
theorem dX12_findsPlans_12 : decode cX12_findsPlans 12 = .ok (.putfield 282, 3) := by decide +kernel
theorem dX12_findsPlans_15 : decode cX12_findsPlans 15 = .ok (.aload_n 0, 1) := by decide +kernel
theorem dX12_findsPlans_16 : decode cX12_findsPlans 16 = .ok (.iload_n 2, 1) := by decide +kernel
theorem dX12_findsPlans_17 : decode cX12_findsPlans 17 = .ok (.putfield 288, 3) := by decide +kernel
theorem dX12_findsPlans_20 : decode cX12_findsPlans 20 = .ok (.aload_n 0, 1) := by decide +kernel
theorem dX12_findsPlans_21 : decode cX12_findsPlans 21 = .ok (.bipush 9, 2) := by decide +kernel
theorem dX12_findsPlans_23 : decode cX12_findsPlans 23 = .ok (.putfield 291, 3) := by decide +kernel
theorem dX12_findsPlans_26 : decode cX12_findsPlans 26 = .ok (.aload_n 0, 1) := by decide +kernel
theorem dX12_findsPlans_27 : decode cX12_findsPlans 27 = .ok (.iconst 0, 1) := by decide +kernel
theorem dX12_findsPlans_28 : decode cX12_findsPlans 28 = .ok (.putfield 285, 3) := by decide +kernel
theorem dX12_findsPlans_31 : decode cX12_findsPlans 31 = .ok (.aload_n 0, 1) := by decide +kernel
theorem dX12_findsPlans_32 : decode cX12_findsPlans 32 = .ok (.iconst 0, 1) := by decide +kernel
theorem dX12_findsPlans_33 : decode cX12_findsPlans 33 = .ok (.iload_n 1, 1) := by decide +kernel
theorem dX12_findsPlans_34 : decode cX12_findsPlans 34 = .ok (.iconst 0, 1) := by decide +kernel
theorem dX12_findsPlans_35 : decode cX12_findsPlans 35 = .ok (.iconst 0, 1) := by decide +kernel
theorem dX12_findsPlans_36 : decode cX12_findsPlans 36 = .ok (.invokevirtual 294, 3) := by decide +kernel
theorem dX12_findsPlans_39 : decode cX12_findsPlans 39 = .ok (.return_, 1) := by decide +kernel
theorem dX12_isLong_0 : decode cX12_isLong 0 = .ok (.iload_n 0, 1) := by decide +kernel
theorem dX12_isLong_1 : decode cX12_isLong 1 = .ok (.i2l, 1) := by decide +kernel
theorem dX12_isLong_2 : decode cX12_isLong 2 = .ok (.lconst 0, 1) := by decide +kernel
theorem dX12_isLong_3 : decode cX12_isLong 3 = .ok (.ldc2_w 298, 3) := by decide +kernel
theorem dX12_isLong_6 : decode cX12_isLong 6 = .ok (.invokestatic 66, 3) := by decide +kernel
theorem dX12_isLong_9 : decode cX12_isLong 9 = .ok (.ireturn, 1) := by decide +kernel
theorem dX12_best_0 : decode cX12_best 0 = .ok (.iload_n 1, 1) := by decide +kernel
theorem dX12_best_1 : decode cX12_best 1 = .ok (.invokestatic 300, 3) := by decide +kernel
theorem dX12_best_4 : decode cX12_best 4 = .ok (.ifCond .ne 5, 3) := by decide +kernel
theorem dX12_best_7 : decode cX12_best 7 = .ok (.iconst (-1), 1) := by decide +kernel
theorem dX12_best_8 : decode cX12_best 8 = .ok (.ireturn, 1) := by decide +kernel
theorem dX12_best_9 : decode cX12_best 9 = .ok (.aload_n 0, 1) := by decide +kernel
theorem dX12_best_10 : decode cX12_best 10 = .ok (.iload_n 1, 1) := by decide +kernel
theorem dX12_best_11 : decode cX12_best 11 = .ok (.iconst 0, 1) := by decide +kernel
theorem dX12_best_12 : decode cX12_best 12 = .ok (.invokevirtual 303, 3) := by decide +kernel
theorem dX12_best_15 : decode cX12_best 15 = .ok (.aload_n 0, 1) := by decide +kernel
theorem dX12_best_16 : decode cX12_best 16 = .ok (.getfield 276, 3) := by decide +kernel
theorem dX12_best_19 : decode cX12_best 19 = .ok (.ireturn, 1) := by decide +kernel
theorem dX12_ith_0 : decode cX12_ith 0 = .ok (.iload_n 1, 1) := by decide +kernel
theorem dX12_ith_1 : decode cX12_ith 1 = .ok (.invokestatic 300, 3) := by decide +kernel
theorem dX12_ith_4 : decode cX12_ith 4 = .ok (.ifCond .eq 15, 3) := by decide +kernel
theorem dX12_ith_7 : decode cX12_ith 7 = .ok (.iload_n 2, 1) := by decide +kernel
theorem dX12_ith_8 : decode cX12_ith 8 = .ok (.i2l, 1) := by decide +kernel
theorem dX12_ith_9 : decode cX12_ith 9 = .ok (.lconst 0, 1) := by decide +kernel
theorem dX12_ith_10 : decode cX12_ith 10 = .ok (.ldc2_w 307, 3) := by decide +kernel
theorem dX12_ith_13 : decode cX12_ith 13 = .ok (.invokestatic 66, 3) := by decide +kernel
theorem dX12_ith_16 : decode cX12_ith 16 = .ok (.ifCond .ne 5, 3) := by decide +kernel
theorem dX12_ith_19 : decode cX12_ith 19 = .ok (.iconst (-1), 1) := by decide +kernel
theorem dX12_ith_20 : decode cX12_ith 20 = .ok (.ireturn, 1) := by decide +kernel
theorem dX12_ith_21 : decode cX12_ith 21 = .ok (.aload_n 0, 1) := by decide +kernel
theorem dX12_ith_22 : decode cX12_ith 22 = .ok (.iload_n 1, 1) := by decide +kernel
theorem dX12_ith_23 : decode cX12_ith 23 = .ok (.iconst 0, 1) := by decide +kernel
theorem dX12_ith_24 : decode cX12_ith 24 = .ok (.invokevirtual 303, 3) := by decide +kernel
theorem dX12_ith_27 : decode cX12_ith 27 = .ok (.iload_n 2, 1) := by decide +kernel
theorem dX12_ith_28 : decode cX12_ith 28 = .ok (.aload_n 0, 1) := by decide +kernel
theorem dX12_ith_29 : decode cX12_ith 29 = .ok (.getfield 282, 3) := by decide +kernel
theorem dX12_ith_32 : decode cX12_ith 32 = .ok (.if_icmp .ge 12, 3) := by decide +kernel
theorem dX12_ith_35 : decode cX12_ith 35 = .ok (.aload_n 0, 1) := by decide +kernel
theorem dX12_ith_36 : decode cX12_ith 36 = .ok (.getfield 31, 3) := by decide +kernel
theorem dX12_ith_39 : decode cX12_ith 39 = .ok (.iload_n 2, 1) := by decide +kernel
theorem dX12_ith_40 : decode cX12_ith 40 = .ok (.iaload, 1) := by decide +kernel
theorem dX12_ith_41 : decode cX12_ith 41 = .ok (.goto 5, 3) := by decide +kernel
theorem dX12_ith_44 : decode cX12_ith 44 = .ok (.bipush (-3), 2) := by decide +kernel
theorem dX12_ith_46 : decode cX12_ith 46 = .ok (.ireturn, 1) := by decide +kernel
theorem dX12_ways_0 : decode cX12_ways 0 = .ok (.iload_n 1, 1) := by decide +kernel
theorem dX12_ways_1 : decode cX12_ways 1 = .ok (.invokestatic 300, 3) := by decide +kernel
theorem dX12_ways_4 : decode cX12_ways 4 = .ok (.ifCond .ne 5, 3) := by decide +kernel
theorem dX12_ways_7 : decode cX12_ways 7 = .ok (.iconst (-1), 1) := by decide +kernel
theorem dX12_ways_8 : decode cX12_ways 8 = .ok (.ireturn, 1) := by decide +kernel
theorem dX12_ways_9 : decode cX12_ways 9 = .ok (.aload_n 0, 1) := by decide +kernel
theorem dX12_ways_10 : decode cX12_ways 10 = .ok (.iload_n 1, 1) := by decide +kernel
theorem dX12_ways_11 : decode cX12_ways 11 = .ok (.iconst 0, 1) := by decide +kernel
theorem dX12_ways_12 : decode cX12_ways 12 = .ok (.invokevirtual 303, 3) := by decide +kernel
theorem dX12_ways_15 : decode cX12_ways 15 = .ok (.aload_n 0, 1) := by decide +kernel
theorem dX12_ways_16 : decode cX12_ways 16 = .ok (.getfield 279, 3) := by decide +kernel
theorem dX12_ways_19 : decode cX12_ways 19 = .ok (.ireturn, 1) := by decide +kernel
theorem dX12_ticket_0 : decode cX12_ticket 0 = .ok (.iload_n 1, 1) := by decide +kernel
theorem dX12_ticket_1 : decode cX12_ticket 1 = .ok (.invokestatic 300, 3) := by decide +kernel
theorem dX12_ticket_4 : decode cX12_ticket 4 = .ok (.ifCond .eq 11, 3) := by decide +kernel
theorem dX12_ticket_7 : decode cX12_ticket 7 = .ok (.aload_n 0, 1) := by decide +kernel
theorem dX12_ticket_8 : decode cX12_ticket 8 = .ok (.iload_n 2, 1) := by decide +kernel
theorem dX12_ticket_9 : decode cX12_ticket 9 = .ok (.invokevirtual 309, 3) := by decide +kernel
theorem dX12_ticket_12 : decode cX12_ticket 12 = .ok (.ifCond .ne 5, 3) := by decide +kernel
theorem dX12_ticket_15 : decode cX12_ticket 15 = .ok (.iconst (-1), 1) := by decide +kernel
theorem dX12_ticket_16 : decode cX12_ticket 16 = .ok (.ireturn, 1) := by decide +kernel
theorem dX12_ticket_17 : decode cX12_ticket 17 = .ok (.aload_n 0, 1) := by decide +kernel
theorem dX12_ticket_18 : decode cX12_ticket 18 = .ok (.iload_n 1, 1) := by decide +kernel
theorem dX12_ticket_19 : decode cX12_ticket 19 = .ok (.iload_n 2, 1) := by decide +kernel
theorem dX12_ticket_20 : decode cX12_ticket 20 = .ok (.invokevirtual 303, 3) := by decide +kernel
theorem dX12_ticket_23 : decode cX12_ticket 23 = .ok (.aload_n 0, 1) := by decide +kernel
theorem dX12_ticket_24 : decode cX12_ticket 24 = .ok (.getfield 291, 3) := by decide +kernel
theorem dX12_ticket_27 : decode cX12_ticket 27 = .ok (.bipush 9, 2) := by decide +kernel
theorem dX12_ticket_29 : decode cX12_ticket 29 = .ok (.if_icmp .ge 10, 3) := by decide +kernel
theorem dX12_ticket_32 : decode cX12_ticket 32 = .ok (.aload_n 0, 1) := by decide +kernel
theorem dX12_ticket_33 : decode cX12_ticket 33 = .ok (.getfield 291, 3) := by decide +kernel
theorem dX12_ticket_36 : decode cX12_ticket 36 = .ok (.goto 5, 3) := by decide +kernel
theorem dX12_ticket_39 : decode cX12_ticket 39 = .ok (.bipush (-3), 2) := by decide +kernel
theorem dX12_ticket_41 : decode cX12_ticket 41 = .ok (.ireturn, 1) := by decide +kernel
theorem dX12_bars_0 : decode cX12_bars 0 = .ok (.iload_n 1, 1) := by decide +kernel
theorem dX12_bars_1 : decode cX12_bars 1 = .ok (.invokestatic 300, 3) := by decide +kernel
theorem dX12_bars_4 : decode cX12_bars 4 = .ok (.ifCond .eq 11, 3) := by decide +kernel
theorem dX12_bars_7 : decode cX12_bars 7 = .ok (.aload_n 0, 1) := by decide +kernel
theorem dX12_bars_8 : decode cX12_bars 8 = .ok (.iload_n 2, 1) := by decide +kernel
theorem dX12_bars_9 : decode cX12_bars 9 = .ok (.invokevirtual 309, 3) := by decide +kernel
theorem dX12_bars_12 : decode cX12_bars 12 = .ok (.ifCond .ne 5, 3) := by decide +kernel
theorem dX12_bars_15 : decode cX12_bars 15 = .ok (.iconst (-1), 1) := by decide +kernel
theorem dX12_bars_16 : decode cX12_bars 16 = .ok (.ireturn, 1) := by decide +kernel
theorem dX12_bars_17 : decode cX12_bars 17 = .ok (.aload_n 0, 1) := by decide +kernel
theorem dX12_bars_18 : decode cX12_bars 18 = .ok (.iload_n 1, 1) := by decide +kernel
theorem dX12_bars_19 : decode cX12_bars 19 = .ok (.iload_n 2, 1) := by decide +kernel
theorem dX12_bars_20 : decode cX12_bars 20 = .ok (.invokevirtual 303, 3) := by decide +kernel
theorem dX12_bars_23 : decode cX12_bars 23 = .ok (.iconst 0, 1) := by decide +kernel
theorem dX12_bars_24 : decode cX12_bars 24 = .ok (.istore_n 3, 1) := by decide +kernel
theorem dX12_bars_25 : decode cX12_bars 25 = .ok (.iload_n 3, 1) := by decide +kernel
theorem dX12_bars_26 : decode cX12_bars 26 = .ok (.aload_n 0, 1) := by decide +kernel
theorem dX12_bars_27 : decode cX12_bars 27 = .ok (.getfield 7, 3) := by decide +kernel
theorem dX12_bars_30 : decode cX12_bars 30 = .ok (.iconst 0, 1) := by decide +kernel
theorem dX12_bars_31 : decode cX12_bars 31 = .ok (.iaload, 1) := by decide +kernel
theorem dX12_bars_32 : decode cX12_bars 32 = .ok (.if_icmp .ge 27, 3) := by decide +kernel
theorem dX12_bars_35 : decode cX12_bars 35 = .ok (.iload_n 2, 1) := by decide +kernel
theorem dX12_bars_36 : decode cX12_bars 36 = .ok (.aload_n 0, 1) := by decide +kernel
theorem dX12_bars_37 : decode cX12_bars 37 = .ok (.getfield 285, 3) := by decide +kernel
theorem dX12_bars_40 : decode cX12_bars 40 = .ok (.iconst (-1), 1) := by decide +kernel
theorem dX12_bars_41 : decode cX12_bars 41 = .ok (.ixor, 1) := by decide +kernel
theorem dX12_bars_42 : decode cX12_bars 42 = .ok (.iand, 1) := by decide +kernel
theorem dX12_bars_43 : decode cX12_bars 43 = .ok (.iload_n 3, 1) := by decide +kernel
theorem dX12_bars_44 : decode cX12_bars 44 = .ok (.ishr, 1) := by decide +kernel
theorem dX12_bars_45 : decode cX12_bars 45 = .ok (.iconst 1, 1) := by decide +kernel
theorem dX12_bars_46 : decode cX12_bars 46 = .ok (.iand, 1) := by decide +kernel
theorem dX12_bars_47 : decode cX12_bars 47 = .ok (.iconst 1, 1) := by decide +kernel
theorem dX12_bars_48 : decode cX12_bars 48 = .ok (.if_icmp .ne 5, 3) := by decide +kernel
theorem dX12_bars_51 : decode cX12_bars 51 = .ok (.iload_n 3, 1) := by decide +kernel
theorem dX12_bars_52 : decode cX12_bars 52 = .ok (.ireturn, 1) := by decide +kernel
theorem dX12_bars_53 : decode cX12_bars 53 = .ok (.iinc 3 1, 3) := by decide +kernel
theorem dX12_bars_56 : decode cX12_bars 56 = .ok (.goto (-31), 3) := by decide +kernel
theorem dX12_bars_59 : decode cX12_bars 59 = .ok (.bipush (-3), 2) := by decide +kernel
theorem dX12_bars_61 : decode cX12_bars 61 = .ok (.ireturn, 1) := by decide +kernel
theorem dX12_valueFrom_0 : decode cX12_valueFrom 0 = .ok (.iload_n 1, 1) := by decide +kernel
theorem dX12_valueFrom_1 : decode cX12_valueFrom 1 = .ok (.iload_n 2, 1) := by decide +kernel
theorem dX12_valueFrom_2 : decode cX12_valueFrom 2 = .ok (.if_icmp .eq 10, 3) := by decide +kernel
theorem dX12_valueFrom_5 : decode cX12_valueFrom 5 = .ok (.aload_n 0, 1) := by decide +kernel
theorem dX12_valueFrom_6 : decode cX12_valueFrom 6 = .ok (.invokevirtual 140, 3) := by decide +kernel
theorem dX12_valueFrom_9 : decode cX12_valueFrom 9 = .ok (.ifCond .eq 5, 3) := by decide +kernel
theorem dX12_valueFrom_12 : decode cX12_valueFrom 12 = .ok (.iconst 0, 1) := by decide +kernel
theorem dX12_valueFrom_13 : decode cX12_valueFrom 13 = .ok (.ireturn, 1) := by decide +kernel
theorem dX12_valueFrom_14 : decode cX12_valueFrom 14 = .ok (.aload_n 0, 1) := by decide +kernel
theorem dX12_valueFrom_15 : decode cX12_valueFrom 15 = .ok (.iload_n 1, 1) := by decide +kernel
theorem dX12_valueFrom_16 : decode cX12_valueFrom 16 = .ok (.invokevirtual 251, 3) := by decide +kernel
theorem dX12_valueFrom_19 : decode cX12_valueFrom 19 = .ok (.iconst 0, 1) := by decide +kernel
theorem dX12_valueFrom_20 : decode cX12_valueFrom 20 = .ok (.istore_n 3, 1) := by decide +kernel
theorem dX12_valueFrom_21 : decode cX12_valueFrom 21 = .ok (.iconst (-1), 1) := by decide +kernel
theorem dX12_valueFrom_22 : decode cX12_valueFrom 22 = .ok (.istore 4, 2) := by decide +kernel
theorem dX12_valueFrom_24 : decode cX12_valueFrom 24 = .ok (.iconst 0, 1) := by decide +kernel
theorem dX12_valueFrom_25 : decode cX12_valueFrom 25 = .ok (.istore 5, 2) := by decide +kernel
theorem dX12_valueFrom_27 : decode cX12_valueFrom 27 = .ok (.iload 5, 2) := by decide +kernel
theorem dX12_valueFrom_29 : decode cX12_valueFrom 29 = .ok (.aload_n 0, 1) := by decide +kernel
theorem dX12_valueFrom_30 : decode cX12_valueFrom 30 = .ok (.getfield 7, 3) := by decide +kernel
theorem dX12_valueFrom_33 : decode cX12_valueFrom 33 = .ok (.iconst 0, 1) := by decide +kernel
theorem dX12_valueFrom_34 : decode cX12_valueFrom 34 = .ok (.iaload, 1) := by decide +kernel
theorem dX12_valueFrom_35 : decode cX12_valueFrom 35 = .ok (.if_icmp .gt 68, 3) := by decide +kernel
theorem dX12_valueFrom_38 : decode cX12_valueFrom 38 = .ok (.aload_n 0, 1) := by decide +kernel
theorem dX12_valueFrom_39 : decode cX12_valueFrom 39 = .ok (.iload 5, 2) := by decide +kernel
theorem dX12_valueFrom_41 : decode cX12_valueFrom 41 = .ok (.invokevirtual 248, 3) := by decide +kernel
theorem dX12_valueFrom_44 : decode cX12_valueFrom 44 = .ok (.istore 6, 2) := by decide +kernel
theorem dX12_valueFrom_46 : decode cX12_valueFrom 46 = .ok (.iload 6, 2) := by decide +kernel
theorem dX12_valueFrom_48 : decode cX12_valueFrom 48 = .ok (.aload_n 0, 1) := by decide +kernel
theorem dX12_valueFrom_49 : decode cX12_valueFrom 49 = .ok (.iload_n 1, 1) := by decide +kernel
theorem dX12_valueFrom_50 : decode cX12_valueFrom 50 = .ok (.iconst 1, 1) := by decide +kernel
theorem dX12_valueFrom_51 : decode cX12_valueFrom 51 = .ok (.iadd, 1) := by decide +kernel
theorem dX12_valueFrom_52 : decode cX12_valueFrom 52 = .ok (.iload_n 2, 1) := by decide +kernel
theorem dX12_valueFrom_53 : decode cX12_valueFrom 53 = .ok (.invokevirtual 312, 3) := by decide +kernel
theorem dX12_valueFrom_56 : decode cX12_valueFrom 56 = .ok (.iadd, 1) := by decide +kernel
theorem dX12_valueFrom_57 : decode cX12_valueFrom 57 = .ok (.istore 7, 2) := by decide +kernel
theorem dX12_valueFrom_59 : decode cX12_valueFrom 59 = .ok (.aload_n 0, 1) := by decide +kernel
theorem dX12_valueFrom_60 : decode cX12_valueFrom 60 = .ok (.iload_n 1, 1) := by decide +kernel
theorem dX12_valueFrom_61 : decode cX12_valueFrom 61 = .ok (.invokevirtual 255, 3) := by decide +kernel
theorem dX12_valueFrom_64 : decode cX12_valueFrom 64 = .ok (.iload 4, 2) := by decide +kernel
theorem dX12_valueFrom_66 : decode cX12_valueFrom 66 = .ok (.ifCond .lt 24, 3) := by decide +kernel
theorem dX12_valueFrom_69 : decode cX12_valueFrom 69 = .ok (.iload_n 1, 1) := by decide +kernel
theorem dX12_valueFrom_70 : decode cX12_valueFrom 70 = .ok (.iconst 2, 1) := by decide +kernel
theorem dX12_valueFrom_71 : decode cX12_valueFrom 71 = .ok (.irem, 1) := by decide +kernel
theorem dX12_valueFrom_72 : decode cX12_valueFrom 72 = .ok (.ifCond .ne 12, 3) := by decide +kernel
theorem dX12_valueFrom_75 : decode cX12_valueFrom 75 = .ok (.iload 7, 2) := by decide +kernel
theorem dX12_valueFrom_77 : decode cX12_valueFrom 77 = .ok (.iload_n 3, 1) := by decide +kernel
theorem dX12_valueFrom_78 : decode cX12_valueFrom 78 = .ok (.if_icmp .le 19, 3) := by decide +kernel
theorem dX12_valueFrom_81 : decode cX12_valueFrom 81 = .ok (.goto 9, 3) := by decide +kernel
theorem dX12_valueFrom_84 : decode cX12_valueFrom 84 = .ok (.iload 7, 2) := by decide +kernel
theorem dX12_valueFrom_86 : decode cX12_valueFrom 86 = .ok (.iload_n 3, 1) := by decide +kernel
theorem dX12_valueFrom_87 : decode cX12_valueFrom 87 = .ok (.if_icmp .ge 10, 3) := by decide +kernel
theorem dX12_valueFrom_90 : decode cX12_valueFrom 90 = .ok (.iload 7, 2) := by decide +kernel
theorem dX12_valueFrom_92 : decode cX12_valueFrom 92 = .ok (.istore_n 3, 1) := by decide +kernel
theorem dX12_valueFrom_93 : decode cX12_valueFrom 93 = .ok (.iload 5, 2) := by decide +kernel
theorem dX12_valueFrom_95 : decode cX12_valueFrom 95 = .ok (.istore 4, 2) := by decide +kernel
theorem dX12_valueFrom_97 : decode cX12_valueFrom 97 = .ok (.iinc 5 1, 3) := by decide +kernel
theorem dX12_valueFrom_100 : decode cX12_valueFrom 100 = .ok (.goto (-73), 3) := by decide +kernel
theorem dX12_valueFrom_103 : decode cX12_valueFrom 103 = .ok (.aload_n 0, 1) := by decide +kernel
theorem dX12_valueFrom_104 : decode cX12_valueFrom 104 = .ok (.iload 4, 2) := by decide +kernel
theorem dX12_valueFrom_106 : decode cX12_valueFrom 106 = .ok (.putfield 315, 3) := by decide +kernel
theorem dX12_valueFrom_109 : decode cX12_valueFrom 109 = .ok (.iload_n 3, 1) := by decide +kernel
theorem dX12_valueFrom_110 : decode cX12_valueFrom 110 = .ok (.ireturn, 1) := by decide +kernel
theorem dX12_game_0 : decode cX12_game 0 = .ok (.iload_n 1, 1) := by decide +kernel
theorem dX12_game_1 : decode cX12_game 1 = .ok (.i2l, 1) := by decide +kernel
theorem dX12_game_2 : decode cX12_game 2 = .ok (.lconst 1, 1) := by decide +kernel
theorem dX12_game_3 : decode cX12_game 3 = .ok (.ldc2_w 298, 3) := by decide +kernel
theorem dX12_game_6 : decode cX12_game 6 = .ok (.invokestatic 66, 3) := by decide +kernel
theorem dX12_game_9 : decode cX12_game 9 = .ok (.ifCond .eq 12, 3) := by decide +kernel
theorem dX12_game_12 : decode cX12_game 12 = .ok (.aload_n 0, 1) := by decide +kernel
theorem dX12_game_13 : decode cX12_game 13 = .ok (.iconst 0, 1) := by decide +kernel
theorem dX12_game_14 : decode cX12_game 14 = .ok (.iload_n 1, 1) := by decide +kernel
theorem dX12_game_15 : decode cX12_game 15 = .ok (.invokevirtual 312, 3) := by decide +kernel
theorem dX12_game_18 : decode cX12_game 18 = .ok (.goto 4, 3) := by decide +kernel
theorem dX12_game_21 : decode cX12_game 21 = .ok (.iconst (-1), 1) := by decide +kernel
theorem dX12_game_22 : decode cX12_game 22 = .ok (.ireturn, 1) := by decide +kernel
theorem dX12_play_0 : decode cX12_play 0 = .ok (.iload_n 1, 1) := by decide +kernel
theorem dX12_play_1 : decode cX12_play 1 = .ok (.i2l, 1) := by decide +kernel
theorem dX12_play_2 : decode cX12_play 2 = .ok (.lconst 1, 1) := by decide +kernel
theorem dX12_play_3 : decode cX12_play 3 = .ok (.ldc2_w 298, 3) := by decide +kernel
theorem dX12_play_6 : decode cX12_play 6 = .ok (.invokestatic 66, 3) := by decide +kernel
theorem dX12_play_9 : decode cX12_play 9 = .ok (.ifCond .ne 5, 3) := by decide +kernel
theorem dX12_play_12 : decode cX12_play 12 = .ok (.iconst (-1), 1) := by decide +kernel
theorem dX12_play_13 : decode cX12_play 13 = .ok (.ireturn, 1) := by decide +kernel
theorem dX12_play_14 : decode cX12_play 14 = .ok (.aload_n 0, 1) := by decide +kernel
theorem dX12_play_15 : decode cX12_play 15 = .ok (.invokevirtual 140, 3) := by decide +kernel
theorem dX12_play_18 : decode cX12_play 18 = .ok (.ifCond .eq 6, 3) := by decide +kernel
theorem dX12_play_21 : decode cX12_play 21 = .ok (.bipush (-3), 2) := by decide +kernel
theorem dX12_play_23 : decode cX12_play 23 = .ok (.ireturn, 1) := by decide +kernel
theorem dX12_play_24 : decode cX12_play 24 = .ok (.aload_n 0, 1) := by decide +kernel
theorem dX12_play_25 : decode cX12_play 25 = .ok (.iconst 0, 1) := by decide +kernel
theorem dX12_play_26 : decode cX12_play 26 = .ok (.iload_n 1, 1) := by decide +kernel
theorem dX12_play_27 : decode cX12_play 27 = .ok (.invokevirtual 312, 3) := by decide +kernel
theorem dX12_play_30 : decode cX12_play 30 = .ok (.istore_n 2, 1) := by decide +kernel
theorem dX12_play_31 : decode cX12_play 31 = .ok (.aload_n 0, 1) := by decide +kernel
theorem dX12_play_32 : decode cX12_play 32 = .ok (.getfield 315, 3) := by decide +kernel
theorem dX12_play_35 : decode cX12_play 35 = .ok (.ireturn, 1) := by decide +kernel
theorem dX12_report_0 : decode cX12_report 0 = .ok (.iload_n 2, 1) := by decide +kernel
theorem dX12_report_1 : decode cX12_report 1 = .ok (.ifCond .ne 7, 3) := by decide +kernel
theorem dX12_report_4 : decode cX12_report 4 = .ok (.iconst 5, 1) := by decide +kernel
theorem dX12_report_5 : decode cX12_report 5 = .ok (.goto 5, 3) := by decide +kernel
theorem dX12_report_8 : decode cX12_report 8 = .ok (.bipush 99, 2) := by decide +kernel
theorem dX12_report_10 : decode cX12_report 10 = .ok (.istore 5, 2) := by decide +kernel
theorem dX12_report_12 : decode cX12_report 12 = .ok (.iload_n 1, 1) := by decide +kernel
theorem dX12_report_13 : decode cX12_report 13 = .ok (.i2l, 1) := by decide +kernel
theorem dX12_report_14 : decode cX12_report 14 = .ok (.lconst 0, 1) := by decide +kernel
theorem dX12_report_15 : decode cX12_report 15 = .ok (.ldc2_w 136, 3) := by decide +kernel
theorem dX12_report_18 : decode cX12_report 18 = .ok (.invokestatic 66, 3) := by decide +kernel
theorem dX12_report_21 : decode cX12_report 21 = .ok (.ifCond .eq 39, 3) := by decide +kernel
theorem dX12_report_24 : decode cX12_report 24 = .ok (.iload_n 2, 1) := by decide +kernel
theorem dX12_report_25 : decode cX12_report 25 = .ok (.i2l, 1) := by decide +kernel
theorem dX12_report_26 : decode cX12_report 26 = .ok (.lconst 0, 1) := by decide +kernel
theorem dX12_report_27 : decode cX12_report 27 = .ok (.lconst 1, 1) := by decide +kernel
theorem dX12_report_28 : decode cX12_report 28 = .ok (.invokestatic 66, 3) := by decide +kernel
theorem dX12_report_31 : decode cX12_report 31 = .ok (.ifCond .eq 29, 3) := by decide +kernel
theorem dX12_report_34 : decode cX12_report 34 = .ok (.iload_n 3, 1) := by decide +kernel
theorem dX12_report_35 : decode cX12_report 35 = .ok (.i2l, 1) := by decide +kernel
theorem dX12_report_36 : decode cX12_report 36 = .ok (.lconst 0, 1) := by decide +kernel
theorem dX12_report_37 : decode cX12_report 37 = .ok (.iload 5, 2) := by decide +kernel
theorem dX12_report_39 : decode cX12_report 39 = .ok (.i2l, 1) := by decide +kernel
theorem dX12_report_40 : decode cX12_report 40 = .ok (.invokestatic 66, 3) := by decide +kernel
theorem dX12_report_43 : decode cX12_report 43 = .ok (.ifCond .eq 17, 3) := by decide +kernel
theorem dX12_report_46 : decode cX12_report 46 = .ok (.iload 4, 2) := by decide +kernel
theorem dX12_report_48 : decode cX12_report 48 = .ok (.i2l, 1) := by decide +kernel
theorem dX12_report_49 : decode cX12_report 49 = .ok (.iload_n 3, 1) := by decide +kernel
theorem dX12_report_50 : decode cX12_report 50 = .ok (.i2l, 1) := by decide +kernel
theorem dX12_report_51 : decode cX12_report 51 = .ok (.iload 5, 2) := by decide +kernel
theorem dX12_report_53 : decode cX12_report 53 = .ok (.i2l, 1) := by decide +kernel
theorem dX12_report_54 : decode cX12_report 54 = .ok (.invokestatic 66, 3) := by decide +kernel
theorem dX12_report_57 : decode cX12_report 57 = .ok (.ifCond .ne 5, 3) := by decide +kernel
theorem dX12_report_60 : decode cX12_report 60 = .ok (.iconst (-1), 1) := by decide +kernel
theorem dX12_report_61 : decode cX12_report 61 = .ok (.ireturn, 1) := by decide +kernel
theorem dX12_report_62 : decode cX12_report 62 = .ok (.aload_n 0, 1) := by decide +kernel
theorem dX12_report_63 : decode cX12_report 63 = .ok (.getfield 7, 3) := by decide +kernel
theorem dX12_report_66 : decode cX12_report 66 = .ok (.bipush 6, 2) := by decide +kernel
theorem dX12_report_68 : decode cX12_report 68 = .ok (.iaload, 1) := by decide +kernel
theorem dX12_report_69 : decode cX12_report 69 = .ok (.bipush 6, 2) := by decide +kernel
theorem dX12_report_71 : decode cX12_report 71 = .ok (.if_icmp .ne 6, 3) := by decide +kernel
theorem dX12_report_74 : decode cX12_report 74 = .ok (.bipush (-2), 2) := by decide +kernel
theorem dX12_report_76 : decode cX12_report 76 = .ok (.ireturn, 1) := by decide +kernel
theorem dX12_report_77 : decode cX12_report 77 = .ok (.bipush 104, 2) := by decide +kernel
theorem dX12_report_79 : decode cX12_report 79 = .ok (.iconst 4, 1) := by decide +kernel
theorem dX12_report_80 : decode cX12_report 80 = .ok (.aload_n 0, 1) := by decide +kernel
theorem dX12_report_81 : decode cX12_report 81 = .ok (.getfield 7, 3) := by decide +kernel
theorem dX12_report_84 : decode cX12_report 84 = .ok (.bipush 6, 2) := by decide +kernel
theorem dX12_report_86 : decode cX12_report 86 = .ok (.iaload, 1) := by decide +kernel
theorem dX12_report_87 : decode cX12_report 87 = .ok (.imul, 1) := by decide +kernel
theorem dX12_report_88 : decode cX12_report 88 = .ok (.iadd, 1) := by decide +kernel
theorem dX12_report_89 : decode cX12_report 89 = .ok (.istore 6, 2) := by decide +kernel
theorem dX12_report_91 : decode cX12_report 91 = .ok (.aload_n 0, 1) := by decide +kernel
theorem dX12_report_92 : decode cX12_report 92 = .ok (.getfield 7, 3) := by decide +kernel
theorem dX12_report_95 : decode cX12_report 95 = .ok (.iload 6, 2) := by decide +kernel
theorem dX12_report_97 : decode cX12_report 97 = .ok (.iload_n 1, 1) := by decide +kernel
theorem dX12_report_98 : decode cX12_report 98 = .ok (.iastore, 1) := by decide +kernel
theorem dX12_report_99 : decode cX12_report 99 = .ok (.aload_n 0, 1) := by decide +kernel
theorem dX12_report_100 : decode cX12_report 100 = .ok (.getfield 7, 3) := by decide +kernel
theorem dX12_report_103 : decode cX12_report 103 = .ok (.iload 6, 2) := by decide +kernel
theorem dX12_report_105 : decode cX12_report 105 = .ok (.iconst 1, 1) := by decide +kernel
theorem dX12_report_106 : decode cX12_report 106 = .ok (.iadd, 1) := by decide +kernel
theorem dX12_report_107 : decode cX12_report 107 = .ok (.iload_n 2, 1) := by decide +kernel
theorem dX12_report_108 : decode cX12_report 108 = .ok (.iastore, 1) := by decide +kernel
theorem dX12_report_109 : decode cX12_report 109 = .ok (.aload_n 0, 1) := by decide +kernel
theorem dX12_report_110 : decode cX12_report 110 = .ok (.getfield 7, 3) := by decide +kernel
theorem dX12_report_113 : decode cX12_report 113 = .ok (.iload 6, 2) := by decide +kernel
theorem dX12_report_115 : decode cX12_report 115 = .ok (.iconst 2, 1) := by decide +kernel
theorem dX12_report_116 : decode cX12_report 116 = .ok (.iadd, 1) := by decide +kernel
theorem dX12_report_117 : decode cX12_report 117 = .ok (.iload_n 3, 1) := by decide +kernel
theorem dX12_report_118 : decode cX12_report 118 = .ok (.iastore, 1) := by decide +kernel
theorem dX12_report_119 : decode cX12_report 119 = .ok (.aload_n 0, 1) := by decide +kernel
theorem dX12_report_120 : decode cX12_report 120 = .ok (.getfield 7, 3) := by decide +kernel
theorem dX12_report_123 : decode cX12_report 123 = .ok (.iload 6, 2) := by decide +kernel
theorem dX12_report_125 : decode cX12_report 125 = .ok (.iconst 3, 1) := by decide +kernel
theorem dX12_report_126 : decode cX12_report 126 = .ok (.iadd, 1) := by decide +kernel
theorem dX12_report_127 : decode cX12_report 127 = .ok (.iload 4, 2) := by decide +kernel
theorem dX12_report_129 : decode cX12_report 129 = .ok (.iastore, 1) := by decide +kernel
theorem dX12_report_130 : decode cX12_report 130 = .ok (.aload_n 0, 1) := by decide +kernel
theorem dX12_report_131 : decode cX12_report 131 = .ok (.getfield 7, 3) := by decide +kernel
theorem dX12_report_134 : decode cX12_report 134 = .ok (.bipush 6, 2) := by decide +kernel
theorem dX12_report_136 : decode cX12_report 136 = .ok (.dup2, 1) := by decide +kernel
theorem dX12_report_137 : decode cX12_report 137 = .ok (.iaload, 1) := by decide +kernel
theorem dX12_report_138 : decode cX12_report 138 = .ok (.iconst 1, 1) := by decide +kernel
theorem dX12_report_139 : decode cX12_report 139 = .ok (.iadd, 1) := by decide +kernel
theorem dX12_report_140 : decode cX12_report 140 = .ok (.iastore, 1) := by decide +kernel
theorem dX12_report_141 : decode cX12_report 141 = .ok (.aload_n 0, 1) := by decide +kernel
theorem dX12_report_142 : decode cX12_report 142 = .ok (.getfield 7, 3) := by decide +kernel
theorem dX12_report_145 : decode cX12_report 145 = .ok (.bipush 6, 2) := by decide +kernel
theorem dX12_report_147 : decode cX12_report 147 = .ok (.iaload, 1) := by decide +kernel
theorem dX12_report_148 : decode cX12_report 148 = .ok (.iconst 1, 1) := by decide +kernel
theorem dX12_report_149 : decode cX12_report 149 = .ok (.isub, 1) := by decide +kernel
theorem dX12_report_150 : decode cX12_report 150 = .ok (.ireturn, 1) := by decide +kernel
theorem dX12_forget_0 : decode cX12_forget 0 = .ok (.aload_n 0, 1) := by decide +kernel
theorem dX12_forget_1 : decode cX12_forget 1 = .ok (.bipush 6, 2) := by decide +kernel
theorem dX12_forget_3 : decode cX12_forget 3 = .ok (.iconst 0, 1) := by decide +kernel
theorem dX12_forget_4 : decode cX12_forget 4 = .ok (.invokevirtual 133, 3) := by decide +kernel
theorem dX12_forget_7 : decode cX12_forget 7 = .ok (.ireturn, 1) := by decide +kernel
theorem dX12_rides_0 : decode cX12_rides 0 = .ok (.aload_n 0, 1) := by decide +kernel
theorem dX12_rides_1 : decode cX12_rides 1 = .ok (.getfield 34, 3) := by decide +kernel
theorem dX12_rides_4 : decode cX12_rides 4 = .ok (.iconst 0, 1) := by decide +kernel
theorem dX12_rides_5 : decode cX12_rides 5 = .ok (.iload_n 2, 1) := by decide +kernel
theorem dX12_rides_6 : decode cX12_rides 6 = .ok (.iastore, 1) := by decide +kernel
theorem dX12_rides_7 : decode cX12_rides 7 = .ok (.aload_n 0, 1) := by decide +kernel
theorem dX12_rides_8 : decode cX12_rides 8 = .ok (.getfield 37, 3) := by decide +kernel
theorem dX12_rides_11 : decode cX12_rides 11 = .ok (.iconst 0, 1) := by decide +kernel
theorem dX12_rides_12 : decode cX12_rides 12 = .ok (.iload_n 3, 1) := by decide +kernel
theorem dX12_rides_13 : decode cX12_rides 13 = .ok (.iastore, 1) := by decide +kernel
theorem dX12_rides_14 : decode cX12_rides 14 = .ok (.iconst 0, 1) := by decide +kernel
theorem dX12_rides_15 : decode cX12_rides 15 = .ok (.istore 4, 2) := by decide +kernel
theorem dX12_rides_17 : decode cX12_rides 17 = .ok (.iload 4, 2) := by decide +kernel
theorem dX12_rides_19 : decode cX12_rides 19 = .ok (.bipush 15, 2) := by decide +kernel
theorem dX12_rides_21 : decode cX12_rides 21 = .ok (.if_icmp .ge 72, 3) := by decide +kernel
theorem dX12_rides_24 : decode cX12_rides 24 = .ok (.aload_n 0, 1) := by decide +kernel
theorem dX12_rides_25 : decode cX12_rides 25 = .ok (.getfield 37, 3) := by decide +kernel
theorem dX12_rides_28 : decode cX12_rides 28 = .ok (.iload 4, 2) := by decide +kernel
theorem dX12_rides_30 : decode cX12_rides 30 = .ok (.iconst 1, 1) := by decide +kernel
theorem dX12_rides_31 : decode cX12_rides 31 = .ok (.iadd, 1) := by decide +kernel
theorem dX12_rides_32 : decode cX12_rides 32 = .ok (.bipush 99, 2) := by decide +kernel
theorem dX12_rides_34 : decode cX12_rides 34 = .ok (.aload_n 0, 1) := by decide +kernel
theorem dX12_rides_35 : decode cX12_rides 35 = .ok (.getfield 37, 3) := by decide +kernel
theorem dX12_rides_38 : decode cX12_rides 38 = .ok (.iload 4, 2) := by decide +kernel
theorem dX12_rides_40 : decode cX12_rides 40 = .ok (.iaload, 1) := by decide +kernel
theorem dX12_rides_41 : decode cX12_rides 41 = .ok (.iload_n 1, 1) := by decide +kernel
theorem dX12_rides_42 : decode cX12_rides 42 = .ok (.aload_n 0, 1) := by decide +kernel
theorem dX12_rides_43 : decode cX12_rides 43 = .ok (.getfield 7, 3) := by decide +kernel
theorem dX12_rides_46 : decode cX12_rides 46 = .ok (.bipush 56, 2) := by decide +kernel
theorem dX12_rides_48 : decode cX12_rides 48 = .ok (.iload 4, 2) := by decide +kernel
theorem dX12_rides_50 : decode cX12_rides 50 = .ok (.iadd, 1) := by decide +kernel
theorem dX12_rides_51 : decode cX12_rides 51 = .ok (.iaload, 1) := by decide +kernel
theorem dX12_rides_52 : decode cX12_rides 52 = .ok (.iconst 0, 1) := by decide +kernel
theorem dX12_rides_53 : decode cX12_rides 53 = .ok (.invokestatic 92, 3) := by decide +kernel
theorem dX12_rides_56 : decode cX12_rides 56 = .ok (.iadd, 1) := by decide +kernel
theorem dX12_rides_57 : decode cX12_rides 57 = .ok (.invokestatic 242, 3) := by decide +kernel
theorem dX12_rides_60 : decode cX12_rides 60 = .ok (.iastore, 1) := by decide +kernel
theorem dX12_rides_61 : decode cX12_rides 61 = .ok (.aload_n 0, 1) := by decide +kernel
theorem dX12_rides_62 : decode cX12_rides 62 = .ok (.getfield 34, 3) := by decide +kernel
theorem dX12_rides_65 : decode cX12_rides 65 = .ok (.iload 4, 2) := by decide +kernel
theorem dX12_rides_67 : decode cX12_rides 67 = .ok (.iconst 1, 1) := by decide +kernel
theorem dX12_rides_68 : decode cX12_rides 68 = .ok (.iadd, 1) := by decide +kernel
theorem dX12_rides_69 : decode cX12_rides 69 = .ok (.aload_n 0, 1) := by decide +kernel
theorem dX12_rides_70 : decode cX12_rides 70 = .ok (.getfield 34, 3) := by decide +kernel
theorem dX12_rides_73 : decode cX12_rides 73 = .ok (.iload 4, 2) := by decide +kernel
theorem dX12_rides_75 : decode cX12_rides 75 = .ok (.iaload, 1) := by decide +kernel
theorem dX12_rides_76 : decode cX12_rides 76 = .ok (.iload_n 1, 1) := by decide +kernel
theorem dX12_rides_77 : decode cX12_rides 77 = .ok (.iload 4, 2) := by decide +kernel
theorem dX12_rides_79 : decode cX12_rides 79 = .ok (.invokestatic 124, 3) := by decide +kernel
theorem dX12_rides_82 : decode cX12_rides 82 = .ok (.iadd, 1) := by decide +kernel
theorem dX12_rides_83 : decode cX12_rides 83 = .ok (.bipush 6, 2) := by decide +kernel
theorem dX12_rides_85 : decode cX12_rides 85 = .ok (.irem, 1) := by decide +kernel
theorem dX12_rides_86 : decode cX12_rides 86 = .ok (.iastore, 1) := by decide +kernel
theorem dX12_rides_87 : decode cX12_rides 87 = .ok (.iinc 4 1, 3) := by decide +kernel
theorem dX12_rides_90 : decode cX12_rides 90 = .ok (.goto (-73), 3) := by decide +kernel
theorem dX12_rides_93 : decode cX12_rides 93 = .ok (.return_, 1) := by decide +kernel
theorem dX12_isFit_0 : decode cX12_isFit 0 = .ok (.iconst 1, 1) := by decide +kernel
theorem dX12_isFit_1 : decode cX12_isFit 1 = .ok (.istore_n 2, 1) := by decide +kernel
theorem dX12_isFit_2 : decode cX12_isFit 2 = .ok (.iconst 0, 1) := by decide +kernel
theorem dX12_isFit_3 : decode cX12_isFit 3 = .ok (.istore_n 3, 1) := by decide +kernel
theorem dX12_isFit_4 : decode cX12_isFit 4 = .ok (.iload_n 3, 1) := by decide +kernel
theorem dX12_isFit_5 : decode cX12_isFit 5 = .ok (.aload_n 0, 1) := by decide +kernel
theorem dX12_isFit_6 : decode cX12_isFit 6 = .ok (.getfield 7, 3) := by decide +kernel
theorem dX12_isFit_9 : decode cX12_isFit 9 = .ok (.bipush 6, 2) := by decide +kernel
theorem dX12_isFit_11 : decode cX12_isFit 11 = .ok (.iaload, 1) := by decide +kernel
theorem dX12_isFit_12 : decode cX12_isFit 12 = .ok (.if_icmp .ge 100, 3) := by decide +kernel
theorem dX12_isFit_15 : decode cX12_isFit 15 = .ok (.bipush 104, 2) := by decide +kernel
theorem dX12_isFit_17 : decode cX12_isFit 17 = .ok (.iconst 4, 1) := by decide +kernel
theorem dX12_isFit_18 : decode cX12_isFit 18 = .ok (.iload_n 3, 1) := by decide +kernel
theorem dX12_isFit_19 : decode cX12_isFit 19 = .ok (.imul, 1) := by decide +kernel
theorem dX12_isFit_20 : decode cX12_isFit 20 = .ok (.iadd, 1) := by decide +kernel
theorem dX12_isFit_21 : decode cX12_isFit 21 = .ok (.istore 4, 2) := by decide +kernel
theorem dX12_isFit_23 : decode cX12_isFit 23 = .ok (.aload_n 0, 1) := by decide +kernel
theorem dX12_isFit_24 : decode cX12_isFit 24 = .ok (.getfield 7, 3) := by decide +kernel
theorem dX12_isFit_27 : decode cX12_isFit 27 = .ok (.iload 4, 2) := by decide +kernel
theorem dX12_isFit_29 : decode cX12_isFit 29 = .ok (.iconst 1, 1) := by decide +kernel
theorem dX12_isFit_30 : decode cX12_isFit 30 = .ok (.iadd, 1) := by decide +kernel
theorem dX12_isFit_31 : decode cX12_isFit 31 = .ok (.iaload, 1) := by decide +kernel
theorem dX12_isFit_32 : decode cX12_isFit 32 = .ok (.ifCond .ne 18, 3) := by decide +kernel
theorem dX12_isFit_35 : decode cX12_isFit 35 = .ok (.aload_n 0, 1) := by decide +kernel
theorem dX12_isFit_36 : decode cX12_isFit 36 = .ok (.getfield 34, 3) := by decide +kernel
theorem dX12_isFit_39 : decode cX12_isFit 39 = .ok (.aload_n 0, 1) := by decide +kernel
theorem dX12_isFit_40 : decode cX12_isFit 40 = .ok (.getfield 7, 3) := by decide +kernel
theorem dX12_isFit_43 : decode cX12_isFit 43 = .ok (.iload 4, 2) := by decide +kernel
theorem dX12_isFit_45 : decode cX12_isFit 45 = .ok (.iaload, 1) := by decide +kernel
theorem dX12_isFit_46 : decode cX12_isFit 46 = .ok (.iaload, 1) := by decide +kernel
theorem dX12_isFit_47 : decode cX12_isFit 47 = .ok (.goto 15, 3) := by decide +kernel
theorem dX12_isFit_50 : decode cX12_isFit 50 = .ok (.aload_n 0, 1) := by decide +kernel
theorem dX12_isFit_51 : decode cX12_isFit 51 = .ok (.getfield 37, 3) := by decide +kernel
theorem dX12_isFit_54 : decode cX12_isFit 54 = .ok (.aload_n 0, 1) := by decide +kernel
theorem dX12_isFit_55 : decode cX12_isFit 55 = .ok (.getfield 7, 3) := by decide +kernel
theorem dX12_isFit_58 : decode cX12_isFit 58 = .ok (.iload 4, 2) := by decide +kernel
theorem dX12_isFit_60 : decode cX12_isFit 60 = .ok (.iaload, 1) := by decide +kernel
theorem dX12_isFit_61 : decode cX12_isFit 61 = .ok (.iaload, 1) := by decide +kernel
theorem dX12_isFit_62 : decode cX12_isFit 62 = .ok (.istore 5, 2) := by decide +kernel
theorem dX12_isFit_64 : decode cX12_isFit 64 = .ok (.iload_n 2, 1) := by decide +kernel
theorem dX12_isFit_65 : decode cX12_isFit 65 = .ok (.iload_n 3, 1) := by decide +kernel
theorem dX12_isFit_66 : decode cX12_isFit 66 = .ok (.iload_n 1, 1) := by decide +kernel
theorem dX12_isFit_67 : decode cX12_isFit 67 = .ok (.if_icmp .eq 32, 3) := by decide +kernel
theorem dX12_isFit_70 : decode cX12_isFit 70 = .ok (.iload 5, 2) := by decide +kernel
theorem dX12_isFit_72 : decode cX12_isFit 72 = .ok (.i2l, 1) := by decide +kernel
theorem dX12_isFit_73 : decode cX12_isFit 73 = .ok (.aload_n 0, 1) := by decide +kernel
theorem dX12_isFit_74 : decode cX12_isFit 74 = .ok (.getfield 7, 3) := by decide +kernel
theorem dX12_isFit_77 : decode cX12_isFit 77 = .ok (.iload 4, 2) := by decide +kernel
theorem dX12_isFit_79 : decode cX12_isFit 79 = .ok (.iconst 2, 1) := by decide +kernel
theorem dX12_isFit_80 : decode cX12_isFit 80 = .ok (.iadd, 1) := by decide +kernel
theorem dX12_isFit_81 : decode cX12_isFit 81 = .ok (.iaload, 1) := by decide +kernel
theorem dX12_isFit_82 : decode cX12_isFit 82 = .ok (.i2l, 1) := by decide +kernel
theorem dX12_isFit_83 : decode cX12_isFit 83 = .ok (.aload_n 0, 1) := by decide +kernel
theorem dX12_isFit_84 : decode cX12_isFit 84 = .ok (.getfield 7, 3) := by decide +kernel
theorem dX12_isFit_87 : decode cX12_isFit 87 = .ok (.iload 4, 2) := by decide +kernel
theorem dX12_isFit_89 : decode cX12_isFit 89 = .ok (.iconst 3, 1) := by decide +kernel
theorem dX12_isFit_90 : decode cX12_isFit 90 = .ok (.iadd, 1) := by decide +kernel
theorem dX12_isFit_91 : decode cX12_isFit 91 = .ok (.iaload, 1) := by decide +kernel
theorem dX12_isFit_92 : decode cX12_isFit 92 = .ok (.i2l, 1) := by decide +kernel
theorem dX12_isFit_93 : decode cX12_isFit 93 = .ok (.invokestatic 66, 3) := by decide +kernel
theorem dX12_isFit_96 : decode cX12_isFit 96 = .ok (.ifCond .eq 7, 3) := by decide +kernel
theorem dX12_isFit_99 : decode cX12_isFit 99 = .ok (.iconst 1, 1) := by decide +kernel
theorem dX12_isFit_100 : decode cX12_isFit 100 = .ok (.goto 4, 3) := by decide +kernel
theorem dX12_isFit_103 : decode cX12_isFit 103 = .ok (.iconst 0, 1) := by decide +kernel
theorem dX12_isFit_104 : decode cX12_isFit 104 = .ok (.iand, 1) := by decide +kernel
theorem dX12_isFit_105 : decode cX12_isFit 105 = .ok (.istore_n 2, 1) := by decide +kernel
theorem dX12_isFit_106 : decode cX12_isFit 106 = .ok (.iinc 3 1, 3) := by decide +kernel
theorem dX12_isFit_109 : decode cX12_isFit 109 = .ok (.goto (-105), 3) := by decide +kernel
theorem dX12_isFit_112 : decode cX12_isFit 112 = .ok (.iload_n 2, 1) := by decide +kernel
theorem dX12_isFit_113 : decode cX12_isFit 113 = .ok (.ireturn, 1) := by decide +kernel
theorem dX12_findsFits_0 : decode cX12_findsFits 0 = .ok (.aload_n 0, 1) := by decide +kernel
theorem dX12_findsFits_1 : decode cX12_findsFits 1 = .ok (.iconst 0, 1) := by decide +kernel
theorem dX12_findsFits_2 : decode cX12_findsFits 2 = .ok (.putfield 318, 3) := by decide +kernel
theorem dX12_findsFits_5 : decode cX12_findsFits 5 = .ok (.aload_n 0, 1) := by decide +kernel
theorem dX12_findsFits_6 : decode cX12_findsFits 6 = .ok (.bipush (-3), 2) := by decide +kernel
theorem dX12_findsFits_8 : decode cX12_findsFits 8 = .ok (.putfield 321, 3) := by decide +kernel
theorem dX12_findsFits_11 : decode cX12_findsFits 11 = .ok (.bipush 100, 2) := by decide +kernel
theorem dX12_findsFits_13 : decode cX12_findsFits 13 = .ok (.istore_n 2, 1) := by decide +kernel
theorem dX12_findsFits_14 : decode cX12_findsFits 14 = .ok (.iload_n 2, 1) := by decide +kernel
theorem dX12_findsFits_15 : decode cX12_findsFits 15 = .ok (.sipush 600, 3) := by decide +kernel
theorem dX12_findsFits_18 : decode cX12_findsFits 18 = .ok (.if_icmp .ge 80, 3) := by decide +kernel
theorem dX12_findsFits_21 : decode cX12_findsFits 21 = .ok (.aload_n 0, 1) := by decide +kernel
theorem dX12_findsFits_22 : decode cX12_findsFits 22 = .ok (.iload_n 2, 1) := by decide +kernel
theorem dX12_findsFits_23 : decode cX12_findsFits 23 = .ok (.bipush 100, 2) := by decide +kernel
theorem dX12_findsFits_25 : decode cX12_findsFits 25 = .ok (.idiv, 1) := by decide +kernel
theorem dX12_findsFits_26 : decode cX12_findsFits 26 = .ok (.iload_n 2, 1) := by decide +kernel
theorem dX12_findsFits_27 : decode cX12_findsFits 27 = .ok (.bipush 10, 2) := by decide +kernel
theorem dX12_findsFits_29 : decode cX12_findsFits 29 = .ok (.idiv, 1) := by decide +kernel
theorem dX12_findsFits_30 : decode cX12_findsFits 30 = .ok (.bipush 10, 2) := by decide +kernel
theorem dX12_findsFits_32 : decode cX12_findsFits 32 = .ok (.irem, 1) := by decide +kernel
theorem dX12_findsFits_33 : decode cX12_findsFits 33 = .ok (.iload_n 2, 1) := by decide +kernel
theorem dX12_findsFits_34 : decode cX12_findsFits 34 = .ok (.bipush 10, 2) := by decide +kernel
theorem dX12_findsFits_36 : decode cX12_findsFits 36 = .ok (.irem, 1) := by decide +kernel
theorem dX12_findsFits_37 : decode cX12_findsFits 37 = .ok (.bipush 9, 2) := by decide +kernel
theorem dX12_findsFits_39 : decode cX12_findsFits 39 = .ok (.imul, 1) := by decide +kernel
theorem dX12_findsFits_40 : decode cX12_findsFits 40 = .ok (.invokevirtual 324, 3) := by decide +kernel
theorem dX12_findsFits_43 : decode cX12_findsFits 43 = .ok (.iload_n 2, 1) := by decide +kernel
theorem dX12_findsFits_44 : decode cX12_findsFits 44 = .ok (.bipush 10, 2) := by decide +kernel
theorem dX12_findsFits_46 : decode cX12_findsFits 46 = .ok (.idiv, 1) := by decide +kernel
theorem dX12_findsFits_47 : decode cX12_findsFits 47 = .ok (.bipush 10, 2) := by decide +kernel
theorem dX12_findsFits_49 : decode cX12_findsFits 49 = .ok (.irem, 1) := by decide +kernel
theorem dX12_findsFits_50 : decode cX12_findsFits 50 = .ok (.bipush 6, 2) := by decide +kernel
theorem dX12_findsFits_52 : decode cX12_findsFits 52 = .ok (.if_icmp .ge 40, 3) := by decide +kernel
theorem dX12_findsFits_55 : decode cX12_findsFits 55 = .ok (.aload_n 0, 1) := by decide +kernel
theorem dX12_findsFits_56 : decode cX12_findsFits 56 = .ok (.iload_n 1, 1) := by decide +kernel
theorem dX12_findsFits_57 : decode cX12_findsFits 57 = .ok (.invokevirtual 327, 3) := by decide +kernel
theorem dX12_findsFits_60 : decode cX12_findsFits 60 = .ok (.ifCond .eq 32, 3) := by decide +kernel
theorem dX12_findsFits_63 : decode cX12_findsFits 63 = .ok (.aload_n 0, 1) := by decide +kernel
theorem dX12_findsFits_64 : decode cX12_findsFits 64 = .ok (.aload_n 0, 1) := by decide +kernel
theorem dX12_findsFits_65 : decode cX12_findsFits 65 = .ok (.getfield 318, 3) := by decide +kernel
theorem dX12_findsFits_68 : decode cX12_findsFits 68 = .ok (.ifCond .ne 7, 3) := by decide +kernel
theorem dX12_findsFits_71 : decode cX12_findsFits 71 = .ok (.iload_n 2, 1) := by decide +kernel
theorem dX12_findsFits_72 : decode cX12_findsFits 72 = .ok (.goto 7, 3) := by decide +kernel
theorem dX12_findsFits_75 : decode cX12_findsFits 75 = .ok (.aload_n 0, 1) := by decide +kernel
theorem dX12_findsFits_76 : decode cX12_findsFits 76 = .ok (.getfield 321, 3) := by decide +kernel
theorem dX12_findsFits_79 : decode cX12_findsFits 79 = .ok (.putfield 321, 3) := by decide +kernel
theorem dX12_findsFits_82 : decode cX12_findsFits 82 = .ok (.aload_n 0, 1) := by decide +kernel
theorem dX12_findsFits_83 : decode cX12_findsFits 83 = .ok (.dup, 1) := by decide +kernel
theorem dX12_findsFits_84 : decode cX12_findsFits 84 = .ok (.getfield 318, 3) := by decide +kernel
theorem dX12_findsFits_87 : decode cX12_findsFits 87 = .ok (.iconst 1, 1) := by decide +kernel
theorem dX12_findsFits_88 : decode cX12_findsFits 88 = .ok (.iadd, 1) := by decide +kernel
theorem dX12_findsFits_89 : decode cX12_findsFits 89 = .ok (.putfield 318, 3) := by decide +kernel
theorem dX12_findsFits_92 : decode cX12_findsFits 92 = .ok (.iinc 2 1, 3) := by decide +kernel
theorem dX12_findsFits_95 : decode cX12_findsFits 95 = .ok (.goto (-81), 3) := by decide +kernel
theorem dX12_findsFits_98 : decode cX12_findsFits 98 = .ok (.return_, 1) := by decide +kernel
theorem dX12_lone_0 : decode cX12_lone 0 = .ok (.iload_n 1, 1) := by decide +kernel
theorem dX12_lone_1 : decode cX12_lone 1 = .ok (.i2l, 1) := by decide +kernel
theorem dX12_lone_2 : decode cX12_lone 2 = .ok (.lconst 0, 1) := by decide +kernel
theorem dX12_lone_3 : decode cX12_lone 3 = .ok (.ldc2_w 307, 3) := by decide +kernel
theorem dX12_lone_6 : decode cX12_lone 6 = .ok (.invokestatic 66, 3) := by decide +kernel
theorem dX12_lone_9 : decode cX12_lone 9 = .ok (.ifCond .ne 5, 3) := by decide +kernel
theorem dX12_lone_12 : decode cX12_lone 12 = .ok (.iconst (-1), 1) := by decide +kernel
theorem dX12_lone_13 : decode cX12_lone 13 = .ok (.ireturn, 1) := by decide +kernel
theorem dX12_lone_14 : decode cX12_lone 14 = .ok (.aload_n 0, 1) := by decide +kernel
theorem dX12_lone_15 : decode cX12_lone 15 = .ok (.iconst (-1), 1) := by decide +kernel
theorem dX12_lone_16 : decode cX12_lone 16 = .ok (.invokevirtual 330, 3) := by decide +kernel
theorem dX12_lone_19 : decode cX12_lone 19 = .ok (.iload_n 1, 1) := by decide +kernel
theorem dX12_lone_20 : decode cX12_lone 20 = .ok (.ifCond .eq 10, 3) := by decide +kernel
theorem dX12_lone_23 : decode cX12_lone 23 = .ok (.aload_n 0, 1) := by decide +kernel
theorem dX12_lone_24 : decode cX12_lone 24 = .ok (.getfield 318, 3) := by decide +kernel
theorem dX12_lone_27 : decode cX12_lone 27 = .ok (.ifCond .ne 17, 3) := by decide +kernel
theorem dX12_lone_30 : decode cX12_lone 30 = .ok (.iload_n 1, 1) := by decide +kernel
theorem dX12_lone_31 : decode cX12_lone 31 = .ok (.ifCond .ne 10, 3) := by decide +kernel
theorem dX12_lone_34 : decode cX12_lone 34 = .ok (.aload_n 0, 1) := by decide +kernel
theorem dX12_lone_35 : decode cX12_lone 35 = .ok (.getfield 318, 3) := by decide +kernel
theorem dX12_lone_38 : decode cX12_lone 38 = .ok (.goto 5, 3) := by decide +kernel
theorem dX12_lone_41 : decode cX12_lone 41 = .ok (.bipush (-3), 2) := by decide +kernel
theorem dX12_lone_43 : decode cX12_lone 43 = .ok (.ireturn, 1) := by decide +kernel
theorem dX12_lone_44 : decode cX12_lone 44 = .ok (.iload_n 1, 1) := by decide +kernel
theorem dX12_lone_45 : decode cX12_lone 45 = .ok (.iconst 1, 1) := by decide +kernel
theorem dX12_lone_46 : decode cX12_lone 46 = .ok (.if_icmp .ne 13, 3) := by decide +kernel
theorem dX12_lone_49 : decode cX12_lone 49 = .ok (.aload_n 0, 1) := by decide +kernel
theorem dX12_lone_50 : decode cX12_lone 50 = .ok (.getfield 321, 3) := by decide +kernel
theorem dX12_lone_53 : decode cX12_lone 53 = .ok (.bipush 100, 2) := by decide +kernel
theorem dX12_lone_55 : decode cX12_lone 55 = .ok (.idiv, 1) := by decide +kernel
theorem dX12_lone_56 : decode cX12_lone 56 = .ok (.goto 31, 3) := by decide +kernel
theorem dX12_lone_59 : decode cX12_lone 59 = .ok (.iload_n 1, 1) := by decide +kernel
theorem dX12_lone_60 : decode cX12_lone 60 = .ok (.iconst 2, 1) := by decide +kernel
theorem dX12_lone_61 : decode cX12_lone 61 = .ok (.if_icmp .ne 16, 3) := by decide +kernel
theorem dX12_lone_64 : decode cX12_lone 64 = .ok (.aload_n 0, 1) := by decide +kernel
theorem dX12_lone_65 : decode cX12_lone 65 = .ok (.getfield 321, 3) := by decide +kernel
theorem dX12_lone_68 : decode cX12_lone 68 = .ok (.bipush 10, 2) := by decide +kernel
theorem dX12_lone_70 : decode cX12_lone 70 = .ok (.idiv, 1) := by decide +kernel
theorem dX12_lone_71 : decode cX12_lone 71 = .ok (.bipush 10, 2) := by decide +kernel
theorem dX12_lone_73 : decode cX12_lone 73 = .ok (.irem, 1) := by decide +kernel
theorem dX12_lone_74 : decode cX12_lone 74 = .ok (.goto 13, 3) := by decide +kernel
theorem dX12_lone_77 : decode cX12_lone 77 = .ok (.aload_n 0, 1) := by decide +kernel
theorem dX12_lone_78 : decode cX12_lone 78 = .ok (.getfield 321, 3) := by decide +kernel
theorem dX12_lone_81 : decode cX12_lone 81 = .ok (.bipush 10, 2) := by decide +kernel
theorem dX12_lone_83 : decode cX12_lone 83 = .ok (.irem, 1) := by decide +kernel
theorem dX12_lone_84 : decode cX12_lone 84 = .ok (.bipush 9, 2) := by decide +kernel
theorem dX12_lone_86 : decode cX12_lone 86 = .ok (.imul, 1) := by decide +kernel
theorem dX12_lone_87 : decode cX12_lone 87 = .ok (.ireturn, 1) := by decide +kernel
theorem dX12_liar_0 : decode cX12_liar 0 = .ok (.aload_n 0, 1) := by decide +kernel
theorem dX12_liar_1 : decode cX12_liar 1 = .ok (.iconst (-1), 1) := by decide +kernel
theorem dX12_liar_2 : decode cX12_liar 2 = .ok (.invokevirtual 330, 3) := by decide +kernel
theorem dX12_liar_5 : decode cX12_liar 5 = .ok (.bipush (-3), 2) := by decide +kernel
theorem dX12_liar_7 : decode cX12_liar 7 = .ok (.istore_n 1, 1) := by decide +kernel
theorem dX12_liar_8 : decode cX12_liar 8 = .ok (.aload_n 0, 1) := by decide +kernel
theorem dX12_liar_9 : decode cX12_liar 9 = .ok (.getfield 318, 3) := by decide +kernel
theorem dX12_liar_12 : decode cX12_liar 12 = .ok (.ifCond .ne 7, 3) := by decide +kernel
theorem dX12_liar_15 : decode cX12_liar 15 = .ok (.iconst 1, 1) := by decide +kernel
theorem dX12_liar_16 : decode cX12_liar 16 = .ok (.goto 4, 3) := by decide +kernel
theorem dX12_liar_19 : decode cX12_liar 19 = .ok (.iconst 0, 1) := by decide +kernel
theorem dX12_liar_20 : decode cX12_liar 20 = .ok (.istore_n 2, 1) := by decide +kernel
theorem dX12_liar_21 : decode cX12_liar 21 = .ok (.iconst 0, 1) := by decide +kernel
theorem dX12_liar_22 : decode cX12_liar 22 = .ok (.istore_n 3, 1) := by decide +kernel
theorem dX12_liar_23 : decode cX12_liar 23 = .ok (.iload_n 3, 1) := by decide +kernel
theorem dX12_liar_24 : decode cX12_liar 24 = .ok (.aload_n 0, 1) := by decide +kernel
theorem dX12_liar_25 : decode cX12_liar 25 = .ok (.getfield 7, 3) := by decide +kernel
theorem dX12_liar_28 : decode cX12_liar 28 = .ok (.bipush 6, 2) := by decide +kernel
theorem dX12_liar_30 : decode cX12_liar 30 = .ok (.iaload, 1) := by decide +kernel
theorem dX12_liar_31 : decode cX12_liar 31 = .ok (.if_icmp .ge 36, 3) := by decide +kernel
theorem dX12_liar_34 : decode cX12_liar 34 = .ok (.iload_n 2, 1) := by decide +kernel
theorem dX12_liar_35 : decode cX12_liar 35 = .ok (.ifCond .eq 32, 3) := by decide +kernel
theorem dX12_liar_38 : decode cX12_liar 38 = .ok (.iload_n 1, 1) := by decide +kernel
theorem dX12_liar_39 : decode cX12_liar 39 = .ok (.ifCond .ge 28, 3) := by decide +kernel
theorem dX12_liar_42 : decode cX12_liar 42 = .ok (.aload_n 0, 1) := by decide +kernel
theorem dX12_liar_43 : decode cX12_liar 43 = .ok (.iload_n 3, 1) := by decide +kernel
theorem dX12_liar_44 : decode cX12_liar 44 = .ok (.invokevirtual 330, 3) := by decide +kernel
theorem dX12_liar_47 : decode cX12_liar 47 = .ok (.aload_n 0, 1) := by decide +kernel
theorem dX12_liar_48 : decode cX12_liar 48 = .ok (.getfield 318, 3) := by decide +kernel
theorem dX12_liar_51 : decode cX12_liar 51 = .ok (.ifCond .le 7, 3) := by decide +kernel
theorem dX12_liar_54 : decode cX12_liar 54 = .ok (.iload_n 3, 1) := by decide +kernel
theorem dX12_liar_55 : decode cX12_liar 55 = .ok (.goto 5, 3) := by decide +kernel
theorem dX12_liar_58 : decode cX12_liar 58 = .ok (.bipush (-3), 2) := by decide +kernel
theorem dX12_liar_60 : decode cX12_liar 60 = .ok (.istore_n 1, 1) := by decide +kernel
theorem dX12_liar_61 : decode cX12_liar 61 = .ok (.iinc 3 1, 3) := by decide +kernel
theorem dX12_liar_64 : decode cX12_liar 64 = .ok (.goto (-41), 3) := by decide +kernel
theorem dX12_liar_67 : decode cX12_liar 67 = .ok (.iload_n 1, 1) := by decide +kernel
theorem dX12_liar_68 : decode cX12_liar 68 = .ok (.ireturn, 1) := by decide +kernel
theorem dX12_seed_0 : decode cX12_seed 0 = .ok (.aload_n 0, 1) := by decide +kernel
theorem dX12_seed_1 : decode cX12_seed 1 = .ok (.iconst 4, 1) := by decide +kernel
theorem dX12_seed_2 : decode cX12_seed 2 = .ok (.iload_n 1, 1) := by decide +kernel
theorem dX12_seed_3 : decode cX12_seed 3 = .ok (.invokevirtual 133, 3) := by decide +kernel
theorem dX12_seed_6 : decode cX12_seed 6 = .ok (.ireturn, 1) := by decide +kernel
theorem dX12_goesByLot_0 : decode cX12_goesByLot 0 = .ok (.aload_n 0, 1) := by decide +kernel
theorem dX12_goesByLot_1 : decode cX12_goesByLot 1 = .ok (.getfield 7, 3) := by decide +kernel
theorem dX12_goesByLot_4 : decode cX12_goesByLot 4 = .ok (.iconst 4, 1) := by decide +kernel
theorem dX12_goesByLot_5 : decode cX12_goesByLot 5 = .ok (.aload_n 0, 1) := by decide +kernel
theorem dX12_goesByLot_6 : decode cX12_goesByLot 6 = .ok (.getfield 7, 3) := by decide +kernel
theorem dX12_goesByLot_9 : decode cX12_goesByLot 9 = .ok (.iconst 4, 1) := by decide +kernel
theorem dX12_goesByLot_10 : decode cX12_goesByLot 10 = .ok (.iaload, 1) := by decide +kernel
theorem dX12_goesByLot_11 : decode cX12_goesByLot 11 = .ok (.ldc_w 333, 3) := by decide +kernel
theorem dX12_goesByLot_14 : decode cX12_goesByLot 14 = .ok (.imul, 1) := by decide +kernel
theorem dX12_goesByLot_15 : decode cX12_goesByLot 15 = .ok (.sipush 12345, 3) := by decide +kernel
theorem dX12_goesByLot_18 : decode cX12_goesByLot 18 = .ok (.iadd, 1) := by decide +kernel
theorem dX12_goesByLot_19 : decode cX12_goesByLot 19 = .ok (.iastore, 1) := by decide +kernel
theorem dX12_goesByLot_20 : decode cX12_goesByLot 20 = .ok (.aload_n 0, 1) := by decide +kernel
theorem dX12_goesByLot_21 : decode cX12_goesByLot 21 = .ok (.aload_n 0, 1) := by decide +kernel
theorem dX12_goesByLot_22 : decode cX12_goesByLot 22 = .ok (.getfield 7, 3) := by decide +kernel
theorem dX12_goesByLot_25 : decode cX12_goesByLot 25 = .ok (.iconst 4, 1) := by decide +kernel
theorem dX12_goesByLot_26 : decode cX12_goesByLot 26 = .ok (.iaload, 1) := by decide +kernel
theorem dX12_goesByLot_27 : decode cX12_goesByLot 27 = .ok (.bipush 16, 2) := by decide +kernel
theorem dX12_goesByLot_29 : decode cX12_goesByLot 29 = .ok (.iushr, 1) := by decide +kernel
theorem dX12_goesByLot_30 : decode cX12_goesByLot 30 = .ok (.aload_n 0, 1) := by decide +kernel
theorem dX12_goesByLot_31 : decode cX12_goesByLot 31 = .ok (.getfield 7, 3) := by decide +kernel
theorem dX12_goesByLot_34 : decode cX12_goesByLot 34 = .ok (.iconst 0, 1) := by decide +kernel
theorem dX12_goesByLot_35 : decode cX12_goesByLot 35 = .ok (.iaload, 1) := by decide +kernel
theorem dX12_goesByLot_36 : decode cX12_goesByLot 36 = .ok (.iconst 1, 1) := by decide +kernel
theorem dX12_goesByLot_37 : decode cX12_goesByLot 37 = .ok (.iadd, 1) := by decide +kernel
theorem dX12_goesByLot_38 : decode cX12_goesByLot 38 = .ok (.irem, 1) := by decide +kernel
theorem dX12_goesByLot_39 : decode cX12_goesByLot 39 = .ok (.invokevirtual 248, 3) := by decide +kernel
theorem dX12_goesByLot_42 : decode cX12_goesByLot 42 = .ok (.ireturn, 1) := by decide +kernel
theorem dX12_lot_0 : decode cX12_lot 0 = .ok (.aload_n 0, 1) := by decide +kernel
theorem dX12_lot_1 : decode cX12_lot 1 = .ok (.invokevirtual 140, 3) := by decide +kernel
theorem dX12_lot_4 : decode cX12_lot 4 = .ok (.ifCond .eq 8, 3) := by decide +kernel
theorem dX12_lot_7 : decode cX12_lot 7 = .ok (.bipush (-4), 2) := by decide +kernel
theorem dX12_lot_9 : decode cX12_lot 9 = .ok (.goto 7, 3) := by decide +kernel
theorem dX12_lot_12 : decode cX12_lot 12 = .ok (.aload_n 0, 1) := by decide +kernel
theorem dX12_lot_13 : decode cX12_lot 13 = .ok (.invokevirtual 334, 3) := by decide +kernel
theorem dX12_lot_16 : decode cX12_lot 16 = .ok (.ireturn, 1) := by decide +kernel
theorem dX12_times_0 : decode cX12_times 0 = .ok (.iload_n 1, 1) := by decide +kernel
theorem dX12_times_1 : decode cX12_times 1 = .ok (.i2l, 1) := by decide +kernel
theorem dX12_times_2 : decode cX12_times 2 = .ok (.lconst 1, 1) := by decide +kernel
theorem dX12_times_3 : decode cX12_times 3 = .ok (.ldc2_w 337, 3) := by decide +kernel
theorem dX12_times_6 : decode cX12_times 6 = .ok (.invokestatic 66, 3) := by decide +kernel
theorem dX12_times_9 : decode cX12_times 9 = .ok (.ifCond .eq 15, 3) := by decide +kernel
theorem dX12_times_12 : decode cX12_times 12 = .ok (.iload_n 2, 1) := by decide +kernel
theorem dX12_times_13 : decode cX12_times 13 = .ok (.i2l, 1) := by decide +kernel
theorem dX12_times_14 : decode cX12_times 14 = .ok (.lconst 0, 1) := by decide +kernel
theorem dX12_times_15 : decode cX12_times 15 = .ok (.ldc2_w 339, 3) := by decide +kernel
theorem dX12_times_18 : decode cX12_times 18 = .ok (.invokestatic 66, 3) := by decide +kernel
theorem dX12_times_21 : decode cX12_times 21 = .ok (.ifCond .ne 5, 3) := by decide +kernel
theorem dX12_times_24 : decode cX12_times 24 = .ok (.iconst (-1), 1) := by decide +kernel
theorem dX12_times_25 : decode cX12_times 25 = .ok (.ireturn, 1) := by decide +kernel
theorem dX12_times_26 : decode cX12_times 26 = .ok (.aload_n 0, 1) := by decide +kernel
theorem dX12_times_27 : decode cX12_times 27 = .ok (.iconst 0, 1) := by decide +kernel
theorem dX12_times_28 : decode cX12_times 28 = .ok (.invokevirtual 251, 3) := by decide +kernel
theorem dX12_times_31 : decode cX12_times 31 = .ok (.iconst 0, 1) := by decide +kernel
theorem dX12_times_32 : decode cX12_times 32 = .ok (.istore_n 3, 1) := by decide +kernel
theorem dX12_times_33 : decode cX12_times 33 = .ok (.iconst 0, 1) := by decide +kernel
theorem dX12_times_34 : decode cX12_times 34 = .ok (.istore 4, 2) := by decide +kernel
theorem dX12_times_36 : decode cX12_times 36 = .ok (.iload 4, 2) := by decide +kernel
theorem dX12_times_38 : decode cX12_times 38 = .ok (.iload_n 1, 1) := by decide +kernel
theorem dX12_times_39 : decode cX12_times 39 = .ok (.if_icmp .ge 80, 3) := by decide +kernel
theorem dX12_times_42 : decode cX12_times 42 = .ok (.aload_n 0, 1) := by decide +kernel
theorem dX12_times_43 : decode cX12_times 43 = .ok (.getfield 7, 3) := by decide +kernel
theorem dX12_times_46 : decode cX12_times 46 = .ok (.iconst 4, 1) := by decide +kernel
theorem dX12_times_47 : decode cX12_times 47 = .ok (.iaload, 1) := by decide +kernel
theorem dX12_times_48 : decode cX12_times 48 = .ok (.istore 5, 2) := by decide +kernel
theorem dX12_times_50 : decode cX12_times 50 = .ok (.aload_n 0, 1) := by decide +kernel
theorem dX12_times_51 : decode cX12_times 51 = .ok (.iconst 0, 1) := by decide +kernel
theorem dX12_times_52 : decode cX12_times 52 = .ok (.invokevirtual 255, 3) := by decide +kernel
theorem dX12_times_55 : decode cX12_times 55 = .ok (.aload_n 0, 1) := by decide +kernel
theorem dX12_times_56 : decode cX12_times 56 = .ok (.getfield 7, 3) := by decide +kernel
theorem dX12_times_59 : decode cX12_times 59 = .ok (.iconst 4, 1) := by decide +kernel
theorem dX12_times_60 : decode cX12_times 60 = .ok (.iload 4, 2) := by decide +kernel
theorem dX12_times_62 : decode cX12_times 62 = .ok (.ifCond .ne 12, 3) := by decide +kernel
theorem dX12_times_65 : decode cX12_times 65 = .ok (.aload_n 0, 1) := by decide +kernel
theorem dX12_times_66 : decode cX12_times 66 = .ok (.getfield 7, 3) := by decide +kernel
theorem dX12_times_69 : decode cX12_times 69 = .ok (.iconst 4, 1) := by decide +kernel
theorem dX12_times_70 : decode cX12_times 70 = .ok (.iaload, 1) := by decide +kernel
theorem dX12_times_71 : decode cX12_times 71 = .ok (.goto 5, 3) := by decide +kernel
theorem dX12_times_74 : decode cX12_times 74 = .ok (.iload 5, 2) := by decide +kernel
theorem dX12_times_76 : decode cX12_times 76 = .ok (.iastore, 1) := by decide +kernel
theorem dX12_times_77 : decode cX12_times 77 = .ok (.iconst 0, 1) := by decide +kernel
theorem dX12_times_78 : decode cX12_times 78 = .ok (.istore 6, 2) := by decide +kernel
theorem dX12_times_80 : decode cX12_times 80 = .ok (.aload_n 0, 1) := by decide +kernel
theorem dX12_times_81 : decode cX12_times 81 = .ok (.invokevirtual 140, 3) := by decide +kernel
theorem dX12_times_84 : decode cX12_times 84 = .ok (.ifCond .ne 15, 3) := by decide +kernel
theorem dX12_times_87 : decode cX12_times 87 = .ok (.iload 6, 2) := by decide +kernel
theorem dX12_times_89 : decode cX12_times 89 = .ok (.aload_n 0, 1) := by decide +kernel
theorem dX12_times_90 : decode cX12_times 90 = .ok (.invokevirtual 334, 3) := by decide +kernel
theorem dX12_times_93 : decode cX12_times 93 = .ok (.iadd, 1) := by decide +kernel
theorem dX12_times_94 : decode cX12_times 94 = .ok (.istore 6, 2) := by decide +kernel
theorem dX12_times_96 : decode cX12_times 96 = .ok (.goto (-16), 3) := by decide +kernel
theorem dX12_times_99 : decode cX12_times 99 = .ok (.iload_n 3, 1) := by decide +kernel
theorem dX12_times_100 : decode cX12_times 100 = .ok (.iload 6, 2) := by decide +kernel
theorem dX12_times_102 : decode cX12_times 102 = .ok (.iload_n 2, 1) := by decide +kernel
theorem dX12_times_103 : decode cX12_times 103 = .ok (.if_icmp .lt 7, 3) := by decide +kernel
theorem dX12_times_106 : decode cX12_times 106 = .ok (.iconst 1, 1) := by decide +kernel
theorem dX12_times_107 : decode cX12_times 107 = .ok (.goto 4, 3) := by decide +kernel
theorem dX12_times_110 : decode cX12_times 110 = .ok (.iconst 0, 1) := by decide +kernel
theorem dX12_times_111 : decode cX12_times 111 = .ok (.iadd, 1) := by decide +kernel
theorem dX12_times_112 : decode cX12_times 112 = .ok (.istore_n 3, 1) := by decide +kernel
theorem dX12_times_113 : decode cX12_times 113 = .ok (.iinc 4 1, 3) := by decide +kernel
theorem dX12_times_116 : decode cX12_times 116 = .ok (.goto (-80), 3) := by decide +kernel
theorem dX12_times_119 : decode cX12_times 119 = .ok (.aload_n 0, 1) := by decide +kernel
theorem dX12_times_120 : decode cX12_times 120 = .ok (.iconst 0, 1) := by decide +kernel
theorem dX12_times_121 : decode cX12_times 121 = .ok (.invokevirtual 255, 3) := by decide +kernel
theorem dX12_times_124 : decode cX12_times 124 = .ok (.iload_n 3, 1) := by decide +kernel
theorem dX12_times_125 : decode cX12_times 125 = .ok (.ireturn, 1) := by decide +kernel
theorem dX12_prove_0 : decode cX12_prove 0 = .ok (.iload_n 1, 1) := by decide +kernel
theorem dX12_prove_1 : decode cX12_prove 1 = .ok (.invokestatic 300, 3) := by decide +kernel
theorem dX12_prove_4 : decode cX12_prove 4 = .ok (.ifCond .ne 5, 3) := by decide +kernel
theorem dX12_prove_7 : decode cX12_prove 7 = .ok (.iconst (-1), 1) := by decide +kernel
theorem dX12_prove_8 : decode cX12_prove 8 = .ok (.ireturn, 1) := by decide +kernel
theorem dX12_prove_9 : decode cX12_prove 9 = .ok (.aload_n 0, 1) := by decide +kernel
theorem dX12_prove_10 : decode cX12_prove 10 = .ok (.iload_n 1, 1) := by decide +kernel
theorem dX12_prove_11 : decode cX12_prove 11 = .ok (.iconst 0, 1) := by decide +kernel
theorem dX12_prove_12 : decode cX12_prove 12 = .ok (.invokevirtual 303, 3) := by decide +kernel
theorem dX12_prove_15 : decode cX12_prove 15 = .ok (.aload_n 0, 1) := by decide +kernel
theorem dX12_prove_16 : decode cX12_prove 16 = .ok (.iconst 0, 1) := by decide +kernel
theorem dX12_prove_17 : decode cX12_prove 17 = .ok (.invokevirtual 251, 3) := by decide +kernel
theorem dX12_prove_20 : decode cX12_prove 20 = .ok (.iconst 0, 1) := by decide +kernel
theorem dX12_prove_21 : decode cX12_prove 21 = .ok (.istore_n 2, 1) := by decide +kernel
theorem dX12_prove_22 : decode cX12_prove 22 = .ok (.iload_n 2, 1) := by decide +kernel
theorem dX12_prove_23 : decode cX12_prove 23 = .ok (.aload_n 0, 1) := by decide +kernel
theorem dX12_prove_24 : decode cX12_prove 24 = .ok (.getfield 282, 3) := by decide +kernel
theorem dX12_prove_27 : decode cX12_prove 27 = .ok (.if_icmp .ge 57, 3) := by decide +kernel
theorem dX12_prove_30 : decode cX12_prove 30 = .ok (.aload_n 0, 1) := by decide +kernel
theorem dX12_prove_31 : decode cX12_prove 31 = .ok (.getfield 40, 3) := by decide +kernel
theorem dX12_prove_34 : decode cX12_prove 34 = .ok (.iconst 3, 1) := by decide +kernel
theorem dX12_prove_35 : decode cX12_prove 35 = .ok (.iload_n 2, 1) := by decide +kernel
theorem dX12_prove_36 : decode cX12_prove 36 = .ok (.imul, 1) := by decide +kernel
theorem dX12_prove_37 : decode cX12_prove 37 = .ok (.aload_n 0, 1) := by decide +kernel
theorem dX12_prove_38 : decode cX12_prove 38 = .ok (.getfield 31, 3) := by decide +kernel
theorem dX12_prove_41 : decode cX12_prove 41 = .ok (.iload_n 2, 1) := by decide +kernel
theorem dX12_prove_42 : decode cX12_prove 42 = .ok (.iaload, 1) := by decide +kernel
theorem dX12_prove_43 : decode cX12_prove 43 = .ok (.iastore, 1) := by decide +kernel
theorem dX12_prove_44 : decode cX12_prove 44 = .ok (.aload_n 0, 1) := by decide +kernel
theorem dX12_prove_45 : decode cX12_prove 45 = .ok (.getfield 40, 3) := by decide +kernel
theorem dX12_prove_48 : decode cX12_prove 48 = .ok (.iconst 3, 1) := by decide +kernel
theorem dX12_prove_49 : decode cX12_prove 49 = .ok (.iload_n 2, 1) := by decide +kernel
theorem dX12_prove_50 : decode cX12_prove 50 = .ok (.imul, 1) := by decide +kernel
theorem dX12_prove_51 : decode cX12_prove 51 = .ok (.iconst 1, 1) := by decide +kernel
theorem dX12_prove_52 : decode cX12_prove 52 = .ok (.iadd, 1) := by decide +kernel
theorem dX12_prove_53 : decode cX12_prove 53 = .ok (.aload_n 0, 1) := by decide +kernel
theorem dX12_prove_54 : decode cX12_prove 54 = .ok (.aload_n 0, 1) := by decide +kernel
theorem dX12_prove_55 : decode cX12_prove 55 = .ok (.getfield 31, 3) := by decide +kernel
theorem dX12_prove_58 : decode cX12_prove 58 = .ok (.iload_n 2, 1) := by decide +kernel
theorem dX12_prove_59 : decode cX12_prove 59 = .ok (.iaload, 1) := by decide +kernel
theorem dX12_prove_60 : decode cX12_prove 60 = .ok (.invokevirtual 248, 3) := by decide +kernel
theorem dX12_prove_63 : decode cX12_prove 63 = .ok (.iastore, 1) := by decide +kernel
theorem dX12_prove_64 : decode cX12_prove 64 = .ok (.aload_n 0, 1) := by decide +kernel
theorem dX12_prove_65 : decode cX12_prove 65 = .ok (.getfield 40, 3) := by decide +kernel
theorem dX12_prove_68 : decode cX12_prove 68 = .ok (.iconst 3, 1) := by decide +kernel
theorem dX12_prove_69 : decode cX12_prove 69 = .ok (.iload_n 2, 1) := by decide +kernel
theorem dX12_prove_70 : decode cX12_prove 70 = .ok (.imul, 1) := by decide +kernel
theorem dX12_prove_71 : decode cX12_prove 71 = .ok (.iconst 2, 1) := by decide +kernel
theorem dX12_prove_72 : decode cX12_prove 72 = .ok (.iadd, 1) := by decide +kernel
theorem dX12_prove_73 : decode cX12_prove 73 = .ok (.aload_n 0, 1) := by decide +kernel
theorem dX12_prove_74 : decode cX12_prove 74 = .ok (.invokevirtual 144, 3) := by decide +kernel
theorem dX12_prove_77 : decode cX12_prove 77 = .ok (.iastore, 1) := by decide +kernel
theorem dX12_prove_78 : decode cX12_prove 78 = .ok (.iinc 2 1, 3) := by decide +kernel
theorem dX12_prove_81 : decode cX12_prove 81 = .ok (.goto (-59), 3) := by decide +kernel
theorem dX12_prove_84 : decode cX12_prove 84 = .ok (.aload_n 0, 1) := by decide +kernel
theorem dX12_prove_85 : decode cX12_prove 85 = .ok (.iconst 0, 1) := by decide +kernel
theorem dX12_prove_86 : decode cX12_prove 86 = .ok (.invokevirtual 255, 3) := by decide +kernel
theorem dX12_prove_89 : decode cX12_prove 89 = .ok (.aload_n 0, 1) := by decide +kernel
theorem dX12_prove_90 : decode cX12_prove 90 = .ok (.aload_n 0, 1) := by decide +kernel
theorem dX12_prove_91 : decode cX12_prove 91 = .ok (.getfield 282, 3) := by decide +kernel
theorem dX12_prove_94 : decode cX12_prove 94 = .ok (.putfield 341, 3) := by decide +kernel
theorem dX12_prove_97 : decode cX12_prove 97 = .ok (.aload_n 0, 1) := by decide +kernel
theorem dX12_prove_98 : decode cX12_prove 98 = .ok (.getfield 341, 3) := by decide +kernel
theorem dX12_prove_101 : decode cX12_prove 101 = .ok (.ireturn, 1) := by decide +kernel
theorem dX12_isRow_0 : decode cX12_isRow 0 = .ok (.iload_n 1, 1) := by decide +kernel
theorem dX12_isRow_1 : decode cX12_isRow 1 = .ok (.i2l, 1) := by decide +kernel
theorem dX12_isRow_2 : decode cX12_isRow 2 = .ok (.lconst 0, 1) := by decide +kernel
theorem dX12_isRow_3 : decode cX12_isRow 3 = .ok (.aload_n 0, 1) := by decide +kernel
theorem dX12_isRow_4 : decode cX12_isRow 4 = .ok (.getfield 341, 3) := by decide +kernel
theorem dX12_isRow_7 : decode cX12_isRow 7 = .ok (.iconst 1, 1) := by decide +kernel
theorem dX12_isRow_8 : decode cX12_isRow 8 = .ok (.isub, 1) := by decide +kernel
theorem dX12_isRow_9 : decode cX12_isRow 9 = .ok (.i2l, 1) := by decide +kernel
theorem dX12_isRow_10 : decode cX12_isRow 10 = .ok (.invokestatic 66, 3) := by decide +kernel
theorem dX12_isRow_13 : decode cX12_isRow 13 = .ok (.ifCond .eq 19, 3) := by decide +kernel
theorem dX12_isRow_16 : decode cX12_isRow 16 = .ok (.iload_n 2, 1) := by decide +kernel
theorem dX12_isRow_17 : decode cX12_isRow 17 = .ok (.i2l, 1) := by decide +kernel
theorem dX12_isRow_18 : decode cX12_isRow 18 = .ok (.lconst 0, 1) := by decide +kernel
theorem dX12_isRow_19 : decode cX12_isRow 19 = .ok (.ldc2_w 99, 3) := by decide +kernel
theorem dX12_isRow_22 : decode cX12_isRow 22 = .ok (.invokestatic 66, 3) := by decide +kernel
theorem dX12_isRow_25 : decode cX12_isRow 25 = .ok (.ifCond .eq 7, 3) := by decide +kernel
theorem dX12_isRow_28 : decode cX12_isRow 28 = .ok (.iconst 1, 1) := by decide +kernel
theorem dX12_isRow_29 : decode cX12_isRow 29 = .ok (.goto 4, 3) := by decide +kernel
theorem dX12_isRow_32 : decode cX12_isRow 32 = .ok (.iconst 0, 1) := by decide +kernel
theorem dX12_isRow_33 : decode cX12_isRow 33 = .ok (.ireturn, 1) := by decide +kernel
theorem dX12_row_0 : decode cX12_row 0 = .ok (.aload_n 0, 1) := by decide +kernel
theorem dX12_row_1 : decode cX12_row 1 = .ok (.iload_n 1, 1) := by decide +kernel
theorem dX12_row_2 : decode cX12_row 2 = .ok (.iload_n 2, 1) := by decide +kernel
theorem dX12_row_3 : decode cX12_row 3 = .ok (.invokevirtual 344, 3) := by decide +kernel
theorem dX12_row_6 : decode cX12_row 6 = .ok (.ifCond .eq 16, 3) := by decide +kernel
theorem dX12_row_9 : decode cX12_row 9 = .ok (.aload_n 0, 1) := by decide +kernel
theorem dX12_row_10 : decode cX12_row 10 = .ok (.getfield 40, 3) := by decide +kernel
theorem dX12_row_13 : decode cX12_row 13 = .ok (.iconst 3, 1) := by decide +kernel
theorem dX12_row_14 : decode cX12_row 14 = .ok (.iload_n 1, 1) := by decide +kernel
theorem dX12_row_15 : decode cX12_row 15 = .ok (.imul, 1) := by decide +kernel
theorem dX12_row_16 : decode cX12_row 16 = .ok (.iload_n 2, 1) := by decide +kernel
theorem dX12_row_17 : decode cX12_row 17 = .ok (.iadd, 1) := by decide +kernel
theorem dX12_row_18 : decode cX12_row 18 = .ok (.iaload, 1) := by decide +kernel
theorem dX12_row_19 : decode cX12_row 19 = .ok (.goto 5, 3) := by decide +kernel
theorem dX12_row_22 : decode cX12_row 22 = .ok (.bipush (-9), 2) := by decide +kernel
theorem dX12_row_24 : decode cX12_row 24 = .ok (.ireturn, 1) := by decide +kernel
theorem dX12_alterRow_0 : decode cX12_alterRow 0 = .ok (.aload_n 0, 1) := by decide +kernel
theorem dX12_alterRow_1 : decode cX12_alterRow 1 = .ok (.iload_n 1, 1) := by decide +kernel
theorem dX12_alterRow_2 : decode cX12_alterRow 2 = .ok (.iload_n 2, 1) := by decide +kernel
theorem dX12_alterRow_3 : decode cX12_alterRow 3 = .ok (.invokevirtual 344, 3) := by decide +kernel
theorem dX12_alterRow_6 : decode cX12_alterRow 6 = .ok (.ifCond .ne 6, 3) := by decide +kernel
theorem dX12_alterRow_9 : decode cX12_alterRow 9 = .ok (.bipush (-9), 2) := by decide +kernel
theorem dX12_alterRow_11 : decode cX12_alterRow 11 = .ok (.ireturn, 1) := by decide +kernel
theorem dX12_alterRow_12 : decode cX12_alterRow 12 = .ok (.aload_n 0, 1) := by decide +kernel
theorem dX12_alterRow_13 : decode cX12_alterRow 13 = .ok (.getfield 40, 3) := by decide +kernel
theorem dX12_alterRow_16 : decode cX12_alterRow 16 = .ok (.iconst 3, 1) := by decide +kernel
theorem dX12_alterRow_17 : decode cX12_alterRow 17 = .ok (.iload_n 1, 1) := by decide +kernel
theorem dX12_alterRow_18 : decode cX12_alterRow 18 = .ok (.imul, 1) := by decide +kernel
theorem dX12_alterRow_19 : decode cX12_alterRow 19 = .ok (.iload_n 2, 1) := by decide +kernel
theorem dX12_alterRow_20 : decode cX12_alterRow 20 = .ok (.iadd, 1) := by decide +kernel
theorem dX12_alterRow_21 : decode cX12_alterRow 21 = .ok (.iaload, 1) := by decide +kernel
theorem dX12_alterRow_22 : decode cX12_alterRow 22 = .ok (.istore 4, 2) := by decide +kernel
theorem dX12_alterRow_24 : decode cX12_alterRow 24 = .ok (.aload_n 0, 1) := by decide +kernel
theorem dX12_alterRow_25 : decode cX12_alterRow 25 = .ok (.getfield 40, 3) := by decide +kernel
theorem dX12_alterRow_28 : decode cX12_alterRow 28 = .ok (.iconst 3, 1) := by decide +kernel
theorem dX12_alterRow_29 : decode cX12_alterRow 29 = .ok (.iload_n 1, 1) := by decide +kernel
theorem dX12_alterRow_30 : decode cX12_alterRow 30 = .ok (.imul, 1) := by decide +kernel
theorem dX12_alterRow_31 : decode cX12_alterRow 31 = .ok (.iload_n 2, 1) := by decide +kernel
theorem dX12_alterRow_32 : decode cX12_alterRow 32 = .ok (.iadd, 1) := by decide +kernel
theorem dX12_alterRow_33 : decode cX12_alterRow 33 = .ok (.iload_n 3, 1) := by decide +kernel
theorem dX12_alterRow_34 : decode cX12_alterRow 34 = .ok (.iastore, 1) := by decide +kernel
theorem dX12_alterRow_35 : decode cX12_alterRow 35 = .ok (.iload 4, 2) := by decide +kernel
theorem dX12_alterRow_37 : decode cX12_alterRow 37 = .ok (.ireturn, 1) := by decide +kernel
theorem dX12_isAct_0 : decode cX12_isAct 0 = .ok (.iload_n 1, 1) := by decide +kernel
theorem dX12_isAct_1 : decode cX12_isAct 1 = .ok (.i2l, 1) := by decide +kernel
theorem dX12_isAct_2 : decode cX12_isAct 2 = .ok (.lconst 0, 1) := by decide +kernel
theorem dX12_isAct_3 : decode cX12_isAct 3 = .ok (.aload_n 0, 1) := by decide +kernel
theorem dX12_isAct_4 : decode cX12_isAct 4 = .ok (.getfield 7, 3) := by decide +kernel
theorem dX12_isAct_7 : decode cX12_isAct 7 = .ok (.iconst 0, 1) := by decide +kernel
theorem dX12_isAct_8 : decode cX12_isAct 8 = .ok (.iaload, 1) := by decide +kernel
theorem dX12_isAct_9 : decode cX12_isAct 9 = .ok (.i2l, 1) := by decide +kernel
theorem dX12_isAct_10 : decode cX12_isAct 10 = .ok (.invokestatic 66, 3) := by decide +kernel
theorem dX12_isAct_13 : decode cX12_isAct 13 = .ok (.ireturn, 1) := by decide +kernel
theorem dX12_judge_0 : decode cX12_judge 0 = .ok (.aload_n 0, 1) := by decide +kernel
theorem dX12_judge_1 : decode cX12_judge 1 = .ok (.iconst 0, 1) := by decide +kernel
theorem dX12_judge_2 : decode cX12_judge 2 = .ok (.invokevirtual 251, 3) := by decide +kernel
theorem dX12_judge_5 : decode cX12_judge 5 = .ok (.iconst 0, 1) := by decide +kernel
theorem dX12_judge_6 : decode cX12_judge 6 = .ok (.istore_n 1, 1) := by decide +kernel
theorem dX12_judge_7 : decode cX12_judge 7 = .ok (.iconst 1, 1) := by decide +kernel
theorem dX12_judge_8 : decode cX12_judge 8 = .ok (.istore_n 2, 1) := by decide +kernel
theorem dX12_judge_9 : decode cX12_judge 9 = .ok (.iload_n 1, 1) := by decide +kernel
theorem dX12_judge_10 : decode cX12_judge 10 = .ok (.aload_n 0, 1) := by decide +kernel
theorem dX12_judge_11 : decode cX12_judge 11 = .ok (.getfield 341, 3) := by decide +kernel
theorem dX12_judge_14 : decode cX12_judge 14 = .ok (.if_icmp .ge 83, 3) := by decide +kernel
theorem dX12_judge_17 : decode cX12_judge 17 = .ok (.iload_n 2, 1) := by decide +kernel
theorem dX12_judge_18 : decode cX12_judge 18 = .ok (.ifCond .eq 79, 3) := by decide +kernel
theorem dX12_judge_21 : decode cX12_judge 21 = .ok (.aload_n 0, 1) := by decide +kernel
theorem dX12_judge_22 : decode cX12_judge 22 = .ok (.aload_n 0, 1) := by decide +kernel
theorem dX12_judge_23 : decode cX12_judge 23 = .ok (.getfield 40, 3) := by decide +kernel
theorem dX12_judge_26 : decode cX12_judge 26 = .ok (.iconst 3, 1) := by decide +kernel
theorem dX12_judge_27 : decode cX12_judge 27 = .ok (.iload_n 1, 1) := by decide +kernel
theorem dX12_judge_28 : decode cX12_judge 28 = .ok (.imul, 1) := by decide +kernel
theorem dX12_judge_29 : decode cX12_judge 29 = .ok (.iaload, 1) := by decide +kernel
theorem dX12_judge_30 : decode cX12_judge 30 = .ok (.invokevirtual 347, 3) := by decide +kernel
theorem dX12_judge_33 : decode cX12_judge 33 = .ok (.ifCond .eq 56, 3) := by decide +kernel
theorem dX12_judge_36 : decode cX12_judge 36 = .ok (.aload_n 0, 1) := by decide +kernel
theorem dX12_judge_37 : decode cX12_judge 37 = .ok (.invokevirtual 140, 3) := by decide +kernel
theorem dX12_judge_40 : decode cX12_judge 40 = .ok (.ifCond .ne 49, 3) := by decide +kernel
theorem dX12_judge_43 : decode cX12_judge 43 = .ok (.aload_n 0, 1) := by decide +kernel
theorem dX12_judge_44 : decode cX12_judge 44 = .ok (.aload_n 0, 1) := by decide +kernel
theorem dX12_judge_45 : decode cX12_judge 45 = .ok (.getfield 40, 3) := by decide +kernel
theorem dX12_judge_48 : decode cX12_judge 48 = .ok (.iconst 3, 1) := by decide +kernel
theorem dX12_judge_49 : decode cX12_judge 49 = .ok (.iload_n 1, 1) := by decide +kernel
theorem dX12_judge_50 : decode cX12_judge 50 = .ok (.imul, 1) := by decide +kernel
theorem dX12_judge_51 : decode cX12_judge 51 = .ok (.iaload, 1) := by decide +kernel
theorem dX12_judge_52 : decode cX12_judge 52 = .ok (.invokevirtual 248, 3) := by decide +kernel
theorem dX12_judge_55 : decode cX12_judge 55 = .ok (.aload_n 0, 1) := by decide +kernel
theorem dX12_judge_56 : decode cX12_judge 56 = .ok (.getfield 40, 3) := by decide +kernel
theorem dX12_judge_59 : decode cX12_judge 59 = .ok (.iconst 3, 1) := by decide +kernel
theorem dX12_judge_60 : decode cX12_judge 60 = .ok (.iload_n 1, 1) := by decide +kernel
theorem dX12_judge_61 : decode cX12_judge 61 = .ok (.imul, 1) := by decide +kernel
theorem dX12_judge_62 : decode cX12_judge 62 = .ok (.iconst 1, 1) := by decide +kernel
theorem dX12_judge_63 : decode cX12_judge 63 = .ok (.iadd, 1) := by decide +kernel
theorem dX12_judge_64 : decode cX12_judge 64 = .ok (.iaload, 1) := by decide +kernel
theorem dX12_judge_65 : decode cX12_judge 65 = .ok (.if_icmp .ne 24, 3) := by decide +kernel
theorem dX12_judge_68 : decode cX12_judge 68 = .ok (.aload_n 0, 1) := by decide +kernel
theorem dX12_judge_69 : decode cX12_judge 69 = .ok (.invokevirtual 144, 3) := by decide +kernel
theorem dX12_judge_72 : decode cX12_judge 72 = .ok (.aload_n 0, 1) := by decide +kernel
theorem dX12_judge_73 : decode cX12_judge 73 = .ok (.getfield 40, 3) := by decide +kernel
theorem dX12_judge_76 : decode cX12_judge 76 = .ok (.iconst 3, 1) := by decide +kernel
theorem dX12_judge_77 : decode cX12_judge 77 = .ok (.iload_n 1, 1) := by decide +kernel
theorem dX12_judge_78 : decode cX12_judge 78 = .ok (.imul, 1) := by decide +kernel
theorem dX12_judge_79 : decode cX12_judge 79 = .ok (.iconst 2, 1) := by decide +kernel
theorem dX12_judge_80 : decode cX12_judge 80 = .ok (.iadd, 1) := by decide +kernel
theorem dX12_judge_81 : decode cX12_judge 81 = .ok (.iaload, 1) := by decide +kernel
theorem dX12_judge_82 : decode cX12_judge 82 = .ok (.if_icmp .ne 7, 3) := by decide +kernel
theorem dX12_judge_85 : decode cX12_judge 85 = .ok (.iconst 1, 1) := by decide +kernel
theorem dX12_judge_86 : decode cX12_judge 86 = .ok (.goto 4, 3) := by decide +kernel
theorem dX12_judge_89 : decode cX12_judge 89 = .ok (.iconst 0, 1) := by decide +kernel
theorem dX12_judge_90 : decode cX12_judge 90 = .ok (.istore_n 2, 1) := by decide +kernel
theorem dX12_judge_91 : decode cX12_judge 91 = .ok (.iinc 1 1, 3) := by decide +kernel
theorem dX12_judge_94 : decode cX12_judge 94 = .ok (.goto (-85), 3) := by decide +kernel
theorem dX12_judge_97 : decode cX12_judge 97 = .ok (.aload_n 0, 1) := by decide +kernel
theorem dX12_judge_98 : decode cX12_judge 98 = .ok (.iconst 0, 1) := by decide +kernel
theorem dX12_judge_99 : decode cX12_judge 99 = .ok (.invokevirtual 255, 3) := by decide +kernel
theorem dX12_judge_102 : decode cX12_judge 102 = .ok (.iload_n 2, 1) := by decide +kernel
theorem dX12_judge_103 : decode cX12_judge 103 = .ok (.ifCond .eq 7, 3) := by decide +kernel
theorem dX12_judge_106 : decode cX12_judge 106 = .ok (.iconst 0, 1) := by decide +kernel
theorem dX12_judge_107 : decode cX12_judge 107 = .ok (.goto 4, 3) := by decide +kernel
theorem dX12_judge_110 : decode cX12_judge 110 = .ok (.iload_n 1, 1) := by decide +kernel
theorem dX12_judge_111 : decode cX12_judge 111 = .ok (.ireturn, 1) := by decide +kernel
theorem dX12_isSheet_0 : decode cX12_isSheet 0 = .ok (.iload_n 0, 1) := by decide +kernel
theorem dX12_isSheet_1 : decode cX12_isSheet 1 = .ok (.i2l, 1) := by decide +kernel
theorem dX12_isSheet_2 : decode cX12_isSheet 2 = .ok (.lconst 0, 1) := by decide +kernel
theorem dX12_isSheet_3 : decode cX12_isSheet 3 = .ok (.ldc2_w 307, 3) := by decide +kernel
theorem dX12_isSheet_6 : decode cX12_isSheet 6 = .ok (.invokestatic 66, 3) := by decide +kernel
theorem dX12_isSheet_9 : decode cX12_isSheet 9 = .ok (.ireturn, 1) := by decide +kernel
theorem dX12_isShelf_0 : decode cX12_isShelf 0 = .ok (.iload_n 0, 1) := by decide +kernel
theorem dX12_isShelf_1 : decode cX12_isShelf 1 = .ok (.i2l, 1) := by decide +kernel
theorem dX12_isShelf_2 : decode cX12_isShelf 2 = .ok (.lconst 0, 1) := by decide +kernel
theorem dX12_isShelf_3 : decode cX12_isShelf 3 = .ok (.ldc2_w 307, 3) := by decide +kernel
theorem dX12_isShelf_6 : decode cX12_isShelf 6 = .ok (.invokestatic 66, 3) := by decide +kernel
theorem dX12_isShelf_9 : decode cX12_isShelf 9 = .ok (.ireturn, 1) := by decide +kernel
theorem dX12_sheet_0 : decode cX12_sheet 0 = .ok (.iload_n 1, 1) := by decide +kernel
theorem dX12_sheet_1 : decode cX12_sheet 1 = .ok (.invokestatic 350, 3) := by decide +kernel
theorem dX12_sheet_4 : decode cX12_sheet 4 = .ok (.ifCond .eq 27, 3) := by decide +kernel
theorem dX12_sheet_7 : decode cX12_sheet 7 = .ok (.iload_n 2, 1) := by decide +kernel
theorem dX12_sheet_8 : decode cX12_sheet 8 = .ok (.i2l, 1) := by decide +kernel
theorem dX12_sheet_9 : decode cX12_sheet 9 = .ok (.ldc2_w 353, 3) := by decide +kernel
theorem dX12_sheet_12 : decode cX12_sheet 12 = .ok (.ldc2_w 298, 3) := by decide +kernel
theorem dX12_sheet_15 : decode cX12_sheet 15 = .ok (.invokestatic 66, 3) := by decide +kernel
theorem dX12_sheet_18 : decode cX12_sheet 18 = .ok (.ifCond .eq 13, 3) := by decide +kernel
theorem dX12_sheet_21 : decode cX12_sheet 21 = .ok (.iload_n 2, 1) := by decide +kernel
theorem dX12_sheet_22 : decode cX12_sheet 22 = .ok (.ifCond .lt 11, 3) := by decide +kernel
theorem dX12_sheet_25 : decode cX12_sheet 25 = .ok (.iload_n 3, 1) := by decide +kernel
theorem dX12_sheet_26 : decode cX12_sheet 26 = .ok (.bipush 40, 2) := by decide +kernel
theorem dX12_sheet_28 : decode cX12_sheet 28 = .ok (.if_icmp .le 5, 3) := by decide +kernel
theorem dX12_sheet_31 : decode cX12_sheet 31 = .ok (.iconst (-1), 1) := by decide +kernel
theorem dX12_sheet_32 : decode cX12_sheet 32 = .ok (.ireturn, 1) := by decide +kernel
theorem dX12_sheet_33 : decode cX12_sheet 33 = .ok (.iload_n 2, 1) := by decide +kernel
theorem dX12_sheet_34 : decode cX12_sheet 34 = .ok (.ifCond .lt 10, 3) := by decide +kernel
theorem dX12_sheet_37 : decode cX12_sheet 37 = .ok (.iload_n 3, 1) := by decide +kernel
theorem dX12_sheet_38 : decode cX12_sheet 38 = .ok (.ifCond .ge 6, 3) := by decide +kernel
theorem dX12_sheet_41 : decode cX12_sheet 41 = .ok (.bipush (-14), 2) := by decide +kernel
theorem dX12_sheet_43 : decode cX12_sheet 43 = .ok (.ireturn, 1) := by decide +kernel
theorem dX12_sheet_44 : decode cX12_sheet 44 = .ok (.aload_n 0, 1) := by decide +kernel
theorem dX12_sheet_45 : decode cX12_sheet 45 = .ok (.getfield 43, 3) := by decide +kernel
theorem dX12_sheet_48 : decode cX12_sheet 48 = .ok (.iload_n 1, 1) := by decide +kernel
theorem dX12_sheet_49 : decode cX12_sheet 49 = .ok (.iload_n 2, 1) := by decide +kernel
theorem dX12_sheet_50 : decode cX12_sheet 50 = .ok (.iastore, 1) := by decide +kernel
theorem dX12_sheet_51 : decode cX12_sheet 51 = .ok (.aload_n 0, 1) := by decide +kernel
theorem dX12_sheet_52 : decode cX12_sheet 52 = .ok (.getfield 46, 3) := by decide +kernel
theorem dX12_sheet_55 : decode cX12_sheet 55 = .ok (.iload_n 1, 1) := by decide +kernel
theorem dX12_sheet_56 : decode cX12_sheet 56 = .ok (.iload_n 2, 1) := by decide +kernel
theorem dX12_sheet_57 : decode cX12_sheet 57 = .ok (.ifCond .ge 7, 3) := by decide +kernel
theorem dX12_sheet_60 : decode cX12_sheet 60 = .ok (.iconst 0, 1) := by decide +kernel
theorem dX12_sheet_61 : decode cX12_sheet 61 = .ok (.goto 4, 3) := by decide +kernel
theorem dX12_sheet_64 : decode cX12_sheet 64 = .ok (.iload_n 3, 1) := by decide +kernel
theorem dX12_sheet_65 : decode cX12_sheet 65 = .ok (.iastore, 1) := by decide +kernel
theorem dX12_sheet_66 : decode cX12_sheet 66 = .ok (.iconst 0, 1) := by decide +kernel
theorem dX12_sheet_67 : decode cX12_sheet 67 = .ok (.istore 4, 2) := by decide +kernel
theorem dX12_sheet_69 : decode cX12_sheet 69 = .ok (.iload 4, 2) := by decide +kernel
theorem dX12_sheet_71 : decode cX12_sheet 71 = .ok (.bipush 40, 2) := by decide +kernel
theorem dX12_sheet_73 : decode cX12_sheet 73 = .ok (.if_icmp .ge 22, 3) := by decide +kernel
theorem dX12_sheet_76 : decode cX12_sheet 76 = .ok (.aload_n 0, 1) := by decide +kernel
theorem dX12_sheet_77 : decode cX12_sheet 77 = .ok (.getfield 49, 3) := by decide +kernel
theorem dX12_sheet_80 : decode cX12_sheet 80 = .ok (.bipush 40, 2) := by decide +kernel
theorem dX12_sheet_82 : decode cX12_sheet 82 = .ok (.iload_n 1, 1) := by decide +kernel
theorem dX12_sheet_83 : decode cX12_sheet 83 = .ok (.imul, 1) := by decide +kernel
theorem dX12_sheet_84 : decode cX12_sheet 84 = .ok (.iload 4, 2) := by decide +kernel
theorem dX12_sheet_86 : decode cX12_sheet 86 = .ok (.iadd, 1) := by decide +kernel
theorem dX12_sheet_87 : decode cX12_sheet 87 = .ok (.iconst 0, 1) := by decide +kernel
theorem dX12_sheet_88 : decode cX12_sheet 88 = .ok (.iastore, 1) := by decide +kernel
theorem dX12_sheet_89 : decode cX12_sheet 89 = .ok (.iinc 4 1, 3) := by decide +kernel
theorem dX12_sheet_92 : decode cX12_sheet 92 = .ok (.goto (-23), 3) := by decide +kernel
theorem dX12_sheet_95 : decode cX12_sheet 95 = .ok (.iconst 1, 1) := by decide +kernel
theorem dX12_sheet_96 : decode cX12_sheet 96 = .ok (.ireturn, 1) := by decide +kernel
theorem dX12_write_0 : decode cX12_write 0 = .ok (.iload_n 1, 1) := by decide +kernel
theorem dX12_write_1 : decode cX12_write 1 = .ok (.invokestatic 350, 3) := by decide +kernel
theorem dX12_write_4 : decode cX12_write 4 = .ok (.ifCond .ne 5, 3) := by decide +kernel
theorem dX12_write_7 : decode cX12_write 7 = .ok (.iconst (-1), 1) := by decide +kernel
theorem dX12_write_8 : decode cX12_write 8 = .ok (.ireturn, 1) := by decide +kernel
theorem dX12_write_9 : decode cX12_write 9 = .ok (.aload_n 0, 1) := by decide +kernel
theorem dX12_write_10 : decode cX12_write 10 = .ok (.getfield 43, 3) := by decide +kernel
theorem dX12_write_13 : decode cX12_write 13 = .ok (.iload_n 1, 1) := by decide +kernel
theorem dX12_write_14 : decode cX12_write 14 = .ok (.iaload, 1) := by decide +kernel
theorem dX12_write_15 : decode cX12_write 15 = .ok (.ifCond .ge 6, 3) := by decide +kernel
theorem dX12_write_18 : decode cX12_write 18 = .ok (.bipush (-11), 2) := by decide +kernel
theorem dX12_write_20 : decode cX12_write 20 = .ok (.ireturn, 1) := by decide +kernel
theorem dX12_write_21 : decode cX12_write 21 = .ok (.iload_n 2, 1) := by decide +kernel
theorem dX12_write_22 : decode cX12_write 22 = .ok (.i2l, 1) := by decide +kernel
theorem dX12_write_23 : decode cX12_write 23 = .ok (.lconst 0, 1) := by decide +kernel
theorem dX12_write_24 : decode cX12_write 24 = .ok (.aload_n 0, 1) := by decide +kernel
theorem dX12_write_25 : decode cX12_write 25 = .ok (.getfield 46, 3) := by decide +kernel
theorem dX12_write_28 : decode cX12_write 28 = .ok (.iload_n 1, 1) := by decide +kernel
theorem dX12_write_29 : decode cX12_write 29 = .ok (.iaload, 1) := by decide +kernel
theorem dX12_write_30 : decode cX12_write 30 = .ok (.iconst 1, 1) := by decide +kernel
theorem dX12_write_31 : decode cX12_write 31 = .ok (.isub, 1) := by decide +kernel
theorem dX12_write_32 : decode cX12_write 32 = .ok (.i2l, 1) := by decide +kernel
theorem dX12_write_33 : decode cX12_write 33 = .ok (.invokestatic 66, 3) := by decide +kernel
theorem dX12_write_36 : decode cX12_write 36 = .ok (.ifCond .ne 6, 3) := by decide +kernel
theorem dX12_write_39 : decode cX12_write 39 = .ok (.bipush (-12), 2) := by decide +kernel
theorem dX12_write_41 : decode cX12_write 41 = .ok (.ireturn, 1) := by decide +kernel
theorem dX12_write_42 : decode cX12_write 42 = .ok (.aload_n 0, 1) := by decide +kernel
theorem dX12_write_43 : decode cX12_write 43 = .ok (.getfield 49, 3) := by decide +kernel
theorem dX12_write_46 : decode cX12_write 46 = .ok (.bipush 40, 2) := by decide +kernel
theorem dX12_write_48 : decode cX12_write 48 = .ok (.iload_n 1, 1) := by decide +kernel
theorem dX12_write_49 : decode cX12_write 49 = .ok (.imul, 1) := by decide +kernel
theorem dX12_write_50 : decode cX12_write 50 = .ok (.iload_n 2, 1) := by decide +kernel
theorem dX12_write_51 : decode cX12_write 51 = .ok (.iadd, 1) := by decide +kernel
theorem dX12_write_52 : decode cX12_write 52 = .ok (.aload_n 0, 1) := by decide +kernel
theorem dX12_write_53 : decode cX12_write 53 = .ok (.getfield 43, 3) := by decide +kernel
theorem dX12_write_56 : decode cX12_write 56 = .ok (.iload_n 1, 1) := by decide +kernel
theorem dX12_write_57 : decode cX12_write 57 = .ok (.iaload, 1) := by decide +kernel
theorem dX12_write_58 : decode cX12_write 58 = .ok (.ifCond .ne 8, 3) := by decide +kernel
theorem dX12_write_61 : decode cX12_write 61 = .ok (.iload_n 3, 1) := by decide +kernel
theorem dX12_write_62 : decode cX12_write 62 = .ok (.i2b, 1) := by decide +kernel
theorem dX12_write_63 : decode cX12_write 63 = .ok (.goto 41, 3) := by decide +kernel
theorem dX12_write_66 : decode cX12_write 66 = .ok (.aload_n 0, 1) := by decide +kernel
theorem dX12_write_67 : decode cX12_write 67 = .ok (.getfield 43, 3) := by decide +kernel
theorem dX12_write_70 : decode cX12_write 70 = .ok (.iload_n 1, 1) := by decide +kernel
theorem dX12_write_71 : decode cX12_write 71 = .ok (.iaload, 1) := by decide +kernel
theorem dX12_write_72 : decode cX12_write 72 = .ok (.iconst 1, 1) := by decide +kernel
theorem dX12_write_73 : decode cX12_write 73 = .ok (.if_icmp .ne 8, 3) := by decide +kernel
theorem dX12_write_76 : decode cX12_write 76 = .ok (.iload_n 3, 1) := by decide +kernel
theorem dX12_write_77 : decode cX12_write 77 = .ok (.i2s, 1) := by decide +kernel
theorem dX12_write_78 : decode cX12_write 78 = .ok (.goto 26, 3) := by decide +kernel
theorem dX12_write_81 : decode cX12_write 81 = .ok (.aload_n 0, 1) := by decide +kernel
theorem dX12_write_82 : decode cX12_write 82 = .ok (.getfield 43, 3) := by decide +kernel
theorem dX12_write_85 : decode cX12_write 85 = .ok (.iload_n 1, 1) := by decide +kernel
theorem dX12_write_86 : decode cX12_write 86 = .ok (.iaload, 1) := by decide +kernel
theorem dX12_write_87 : decode cX12_write 87 = .ok (.iconst 4, 1) := by decide +kernel
theorem dX12_write_88 : decode cX12_write 88 = .ok (.if_icmp .ne 15, 3) := by decide +kernel
theorem dX12_write_91 : decode cX12_write 91 = .ok (.iload_n 3, 1) := by decide +kernel
theorem dX12_write_92 : decode cX12_write 92 = .ok (.ifCond .ne 7, 3) := by decide +kernel
theorem dX12_write_95 : decode cX12_write 95 = .ok (.iconst 0, 1) := by decide +kernel
theorem dX12_write_96 : decode cX12_write 96 = .ok (.goto 8, 3) := by decide +kernel
theorem dX12_write_99 : decode cX12_write 99 = .ok (.iconst 1, 1) := by decide +kernel
theorem dX12_write_100 : decode cX12_write 100 = .ok (.goto 4, 3) := by decide +kernel
theorem dX12_write_103 : decode cX12_write 103 = .ok (.iload_n 3, 1) := by decide +kernel
theorem dX12_write_104 : decode cX12_write 104 = .ok (.iastore, 1) := by decide +kernel
theorem dX12_write_105 : decode cX12_write 105 = .ok (.iconst 1, 1) := by decide +kernel
theorem dX12_write_106 : decode cX12_write 106 = .ok (.ireturn, 1) := by decide +kernel
theorem dX12_lacks_0 : decode cX12_lacks 0 = .ok (.aload_n 0, 1) := by decide +kernel
theorem dX12_lacks_1 : decode cX12_lacks 1 = .ok (.getfield 43, 3) := by decide +kernel
theorem dX12_lacks_4 : decode cX12_lacks 4 = .ok (.iload_n 1, 1) := by decide +kernel
theorem dX12_lacks_5 : decode cX12_lacks 5 = .ok (.iaload, 1) := by decide +kernel
theorem dX12_lacks_6 : decode cX12_lacks 6 = .ok (.ifCond .ge 8, 3) := by decide +kernel
theorem dX12_lacks_9 : decode cX12_lacks 9 = .ok (.bipush (-11), 2) := by decide +kernel
theorem dX12_lacks_11 : decode cX12_lacks 11 = .ok (.goto 19, 3) := by decide +kernel
theorem dX12_lacks_14 : decode cX12_lacks 14 = .ok (.aload_n 0, 1) := by decide +kernel
theorem dX12_lacks_15 : decode cX12_lacks 15 = .ok (.getfield 43, 3) := by decide +kernel
theorem dX12_lacks_18 : decode cX12_lacks 18 = .ok (.iload_n 1, 1) := by decide +kernel
theorem dX12_lacks_19 : decode cX12_lacks 19 = .ok (.iaload, 1) := by decide +kernel
theorem dX12_lacks_20 : decode cX12_lacks 20 = .ok (.iload_n 2, 1) := by decide +kernel
theorem dX12_lacks_21 : decode cX12_lacks 21 = .ok (.if_icmp .eq 8, 3) := by decide +kernel
theorem dX12_lacks_24 : decode cX12_lacks 24 = .ok (.bipush (-13), 2) := by decide +kernel
theorem dX12_lacks_26 : decode cX12_lacks 26 = .ok (.goto 4, 3) := by decide +kernel
theorem dX12_lacks_29 : decode cX12_lacks 29 = .ok (.iconst 0, 1) := by decide +kernel
theorem dX12_lacks_30 : decode cX12_lacks 30 = .ok (.ireturn, 1) := by decide +kernel
theorem dX12_item_0 : decode cX12_item 0 = .ok (.iload_n 1, 1) := by decide +kernel
theorem dX12_item_1 : decode cX12_item 1 = .ok (.invokestatic 350, 3) := by decide +kernel
theorem dX12_item_4 : decode cX12_item 4 = .ok (.ifCond .eq 15, 3) := by decide +kernel
theorem dX12_item_7 : decode cX12_item 7 = .ok (.iload_n 2, 1) := by decide +kernel
theorem dX12_item_8 : decode cX12_item 8 = .ok (.i2l, 1) := by decide +kernel
theorem dX12_item_9 : decode cX12_item 9 = .ok (.lconst 0, 1) := by decide +kernel
theorem dX12_item_10 : decode cX12_item 10 = .ok (.ldc2_w 298, 3) := by decide +kernel
theorem dX12_item_13 : decode cX12_item 13 = .ok (.invokestatic 66, 3) := by decide +kernel
theorem dX12_item_16 : decode cX12_item 16 = .ok (.ifCond .ne 5, 3) := by decide +kernel
theorem dX12_item_19 : decode cX12_item 19 = .ok (.iconst (-1), 1) := by decide +kernel
theorem dX12_item_20 : decode cX12_item 20 = .ok (.ireturn, 1) := by decide +kernel
theorem dX12_item_21 : decode cX12_item 21 = .ok (.aload_n 0, 1) := by decide +kernel
theorem dX12_item_22 : decode cX12_item 22 = .ok (.iload_n 1, 1) := by decide +kernel
theorem dX12_item_23 : decode cX12_item 23 = .ok (.iload_n 2, 1) := by decide +kernel
theorem dX12_item_24 : decode cX12_item 24 = .ok (.invokevirtual 355, 3) := by decide +kernel
theorem dX12_item_27 : decode cX12_item 27 = .ok (.ifCond .eq 10, 3) := by decide +kernel
theorem dX12_item_30 : decode cX12_item 30 = .ok (.aload_n 0, 1) := by decide +kernel
theorem dX12_item_31 : decode cX12_item 31 = .ok (.iload_n 1, 1) := by decide +kernel
theorem dX12_item_32 : decode cX12_item 32 = .ok (.iload_n 2, 1) := by decide +kernel
theorem dX12_item_33 : decode cX12_item 33 = .ok (.invokevirtual 355, 3) := by decide +kernel
theorem dX12_item_36 : decode cX12_item 36 = .ok (.ireturn, 1) := by decide +kernel
theorem dX12_item_37 : decode cX12_item 37 = .ok (.iload_n 3, 1) := by decide +kernel
theorem dX12_item_38 : decode cX12_item 38 = .ok (.i2l, 1) := by decide +kernel
theorem dX12_item_39 : decode cX12_item 39 = .ok (.lconst 0, 1) := by decide +kernel
theorem dX12_item_40 : decode cX12_item 40 = .ok (.aload_n 0, 1) := by decide +kernel
theorem dX12_item_41 : decode cX12_item 41 = .ok (.getfield 46, 3) := by decide +kernel
theorem dX12_item_44 : decode cX12_item 44 = .ok (.iload_n 1, 1) := by decide +kernel
theorem dX12_item_45 : decode cX12_item 45 = .ok (.iaload, 1) := by decide +kernel
theorem dX12_item_46 : decode cX12_item 46 = .ok (.iconst 1, 1) := by decide +kernel
theorem dX12_item_47 : decode cX12_item 47 = .ok (.isub, 1) := by decide +kernel
theorem dX12_item_48 : decode cX12_item 48 = .ok (.i2l, 1) := by decide +kernel
theorem dX12_item_49 : decode cX12_item 49 = .ok (.invokestatic 66, 3) := by decide +kernel
theorem dX12_item_52 : decode cX12_item 52 = .ok (.ifCond .eq 17, 3) := by decide +kernel
theorem dX12_item_55 : decode cX12_item 55 = .ok (.aload_n 0, 1) := by decide +kernel
theorem dX12_item_56 : decode cX12_item 56 = .ok (.getfield 49, 3) := by decide +kernel
theorem dX12_item_59 : decode cX12_item 59 = .ok (.bipush 40, 2) := by decide +kernel
theorem dX12_item_61 : decode cX12_item 61 = .ok (.iload_n 1, 1) := by decide +kernel
theorem dX12_item_62 : decode cX12_item 62 = .ok (.imul, 1) := by decide +kernel
theorem dX12_item_63 : decode cX12_item 63 = .ok (.iload_n 3, 1) := by decide +kernel
theorem dX12_item_64 : decode cX12_item 64 = .ok (.iadd, 1) := by decide +kernel
theorem dX12_item_65 : decode cX12_item 65 = .ok (.iaload, 1) := by decide +kernel
theorem dX12_item_66 : decode cX12_item 66 = .ok (.goto 5, 3) := by decide +kernel
theorem dX12_item_69 : decode cX12_item 69 = .ok (.bipush (-12), 2) := by decide +kernel
theorem dX12_item_71 : decode cX12_item 71 = .ok (.ireturn, 1) := by decide +kernel
theorem dX12_goAll_0 : decode cX12_goAll 0 = .ok (.iload_n 1, 1) := by decide +kernel
theorem dX12_goAll_1 : decode cX12_goAll 1 = .ok (.invokestatic 350, 3) := by decide +kernel
theorem dX12_goAll_4 : decode cX12_goAll 4 = .ok (.ifCond .eq 15, 3) := by decide +kernel
theorem dX12_goAll_7 : decode cX12_goAll 7 = .ok (.iload_n 3, 1) := by decide +kernel
theorem dX12_goAll_8 : decode cX12_goAll 8 = .ok (.i2l, 1) := by decide +kernel
theorem dX12_goAll_9 : decode cX12_goAll 9 = .ok (.lconst 0, 1) := by decide +kernel
theorem dX12_goAll_10 : decode cX12_goAll 10 = .ok (.ldc2_w 358, 3) := by decide +kernel
theorem dX12_goAll_13 : decode cX12_goAll 13 = .ok (.invokestatic 66, 3) := by decide +kernel
theorem dX12_goAll_16 : decode cX12_goAll 16 = .ok (.ifCond .ne 5, 3) := by decide +kernel
theorem dX12_goAll_19 : decode cX12_goAll 19 = .ok (.iconst (-1), 1) := by decide +kernel
theorem dX12_goAll_20 : decode cX12_goAll 20 = .ok (.ireturn, 1) := by decide +kernel
theorem dX12_goAll_21 : decode cX12_goAll 21 = .ok (.aload_n 0, 1) := by decide +kernel
theorem dX12_goAll_22 : decode cX12_goAll 22 = .ok (.iload_n 1, 1) := by decide +kernel
theorem dX12_goAll_23 : decode cX12_goAll 23 = .ok (.iconst 0, 1) := by decide +kernel
theorem dX12_goAll_24 : decode cX12_goAll 24 = .ok (.invokevirtual 355, 3) := by decide +kernel
theorem dX12_goAll_27 : decode cX12_goAll 27 = .ok (.ifCond .eq 10, 3) := by decide +kernel
theorem dX12_goAll_30 : decode cX12_goAll 30 = .ok (.aload_n 0, 1) := by decide +kernel
theorem dX12_goAll_31 : decode cX12_goAll 31 = .ok (.iload_n 1, 1) := by decide +kernel
theorem dX12_goAll_32 : decode cX12_goAll 32 = .ok (.iconst 0, 1) := by decide +kernel
theorem dX12_goAll_33 : decode cX12_goAll 33 = .ok (.invokevirtual 355, 3) := by decide +kernel
theorem dX12_goAll_36 : decode cX12_goAll 36 = .ok (.ireturn, 1) := by decide +kernel
theorem dX12_goAll_37 : decode cX12_goAll 37 = .ok (.iconst 0, 1) := by decide +kernel
theorem dX12_goAll_38 : decode cX12_goAll 38 = .ok (.istore 4, 2) := by decide +kernel
theorem dX12_goAll_40 : decode cX12_goAll 40 = .ok (.iconst 0, 1) := by decide +kernel
theorem dX12_goAll_41 : decode cX12_goAll 41 = .ok (.istore 5, 2) := by decide +kernel
theorem dX12_goAll_43 : decode cX12_goAll 43 = .ok (.iload 5, 2) := by decide +kernel
theorem dX12_goAll_45 : decode cX12_goAll 45 = .ok (.iload_n 3, 1) := by decide +kernel
theorem dX12_goAll_46 : decode cX12_goAll 46 = .ok (.if_icmp .ge 81, 3) := by decide +kernel
theorem dX12_goAll_49 : decode cX12_goAll 49 = .ok (.iload_n 2, 1) := by decide +kernel
theorem dX12_goAll_50 : decode cX12_goAll 50 = .ok (.i2l, 1) := by decide +kernel
theorem dX12_goAll_51 : decode cX12_goAll 51 = .ok (.iload 5, 2) := by decide +kernel
theorem dX12_goAll_53 : decode cX12_goAll 53 = .ok (.i2l, 1) := by decide +kernel
theorem dX12_goAll_54 : decode cX12_goAll 54 = .ok (.ladd, 1) := by decide +kernel
theorem dX12_goAll_55 : decode cX12_goAll 55 = .ok (.lconst 0, 1) := by decide +kernel
theorem dX12_goAll_56 : decode cX12_goAll 56 = .ok (.aload_n 0, 1) := by decide +kernel
theorem dX12_goAll_57 : decode cX12_goAll 57 = .ok (.getfield 46, 3) := by decide +kernel
theorem dX12_goAll_60 : decode cX12_goAll 60 = .ok (.iload_n 1, 1) := by decide +kernel
theorem dX12_goAll_61 : decode cX12_goAll 61 = .ok (.iaload, 1) := by decide +kernel
theorem dX12_goAll_62 : decode cX12_goAll 62 = .ok (.i2l, 1) := by decide +kernel
theorem dX12_goAll_63 : decode cX12_goAll 63 = .ok (.lconst 1, 1) := by decide +kernel
theorem dX12_goAll_64 : decode cX12_goAll 64 = .ok (.lsub, 1) := by decide +kernel
theorem dX12_goAll_65 : decode cX12_goAll 65 = .ok (.invokestatic 66, 3) := by decide +kernel
theorem dX12_goAll_68 : decode cX12_goAll 68 = .ok (.ifCond .ne 6, 3) := by decide +kernel
theorem dX12_goAll_71 : decode cX12_goAll 71 = .ok (.bipush (-12), 2) := by decide +kernel
theorem dX12_goAll_73 : decode cX12_goAll 73 = .ok (.ireturn, 1) := by decide +kernel
theorem dX12_goAll_74 : decode cX12_goAll 74 = .ok (.aload_n 0, 1) := by decide +kernel
theorem dX12_goAll_75 : decode cX12_goAll 75 = .ok (.getfield 49, 3) := by decide +kernel
theorem dX12_goAll_78 : decode cX12_goAll 78 = .ok (.bipush 40, 2) := by decide +kernel
theorem dX12_goAll_80 : decode cX12_goAll 80 = .ok (.iload_n 1, 1) := by decide +kernel
theorem dX12_goAll_81 : decode cX12_goAll 81 = .ok (.imul, 1) := by decide +kernel
theorem dX12_goAll_82 : decode cX12_goAll 82 = .ok (.iload_n 2, 1) := by decide +kernel
theorem dX12_goAll_83 : decode cX12_goAll 83 = .ok (.iadd, 1) := by decide +kernel
theorem dX12_goAll_84 : decode cX12_goAll 84 = .ok (.iload 5, 2) := by decide +kernel
theorem dX12_goAll_86 : decode cX12_goAll 86 = .ok (.iadd, 1) := by decide +kernel
theorem dX12_goAll_87 : decode cX12_goAll 87 = .ok (.iaload, 1) := by decide +kernel
theorem dX12_goAll_88 : decode cX12_goAll 88 = .ok (.istore 6, 2) := by decide +kernel
theorem dX12_goAll_90 : decode cX12_goAll 90 = .ok (.iload 4, 2) := by decide +kernel
theorem dX12_goAll_92 : decode cX12_goAll 92 = .ok (.aload_n 0, 1) := by decide +kernel
theorem dX12_goAll_93 : decode cX12_goAll 93 = .ok (.iload 6, 2) := by decide +kernel
theorem dX12_goAll_95 : decode cX12_goAll 95 = .ok (.invokevirtual 347, 3) := by decide +kernel
theorem dX12_goAll_98 : decode cX12_goAll 98 = .ok (.ifCond .eq 19, 3) := by decide +kernel
theorem dX12_goAll_101 : decode cX12_goAll 101 = .ok (.aload_n 0, 1) := by decide +kernel
theorem dX12_goAll_102 : decode cX12_goAll 102 = .ok (.invokevirtual 140, 3) := by decide +kernel
theorem dX12_goAll_105 : decode cX12_goAll 105 = .ok (.ifCond .ne 12, 3) := by decide +kernel
theorem dX12_goAll_108 : decode cX12_goAll 108 = .ok (.aload_n 0, 1) := by decide +kernel
theorem dX12_goAll_109 : decode cX12_goAll 109 = .ok (.iload 6, 2) := by decide +kernel
theorem dX12_goAll_111 : decode cX12_goAll 111 = .ok (.invokevirtual 248, 3) := by decide +kernel
theorem dX12_goAll_114 : decode cX12_goAll 114 = .ok (.goto 4, 3) := by decide +kernel
theorem dX12_goAll_117 : decode cX12_goAll 117 = .ok (.iconst 0, 1) := by decide +kernel
theorem dX12_goAll_118 : decode cX12_goAll 118 = .ok (.iadd, 1) := by decide +kernel
theorem dX12_goAll_119 : decode cX12_goAll 119 = .ok (.istore 4, 2) := by decide +kernel
theorem dX12_goAll_121 : decode cX12_goAll 121 = .ok (.iinc 5 1, 3) := by decide +kernel
theorem dX12_goAll_124 : decode cX12_goAll 124 = .ok (.goto (-81), 3) := by decide +kernel
theorem dX12_goAll_127 : decode cX12_goAll 127 = .ok (.iload 4, 2) := by decide +kernel
theorem dX12_goAll_129 : decode cX12_goAll 129 = .ok (.ireturn, 1) := by decide +kernel
theorem dX12_sumBy_0 : decode cX12_sumBy 0 = .ok (.iconst 0, 1) := by decide +kernel
theorem dX12_sumBy_1 : decode cX12_sumBy 1 = .ok (.istore 4, 2) := by decide +kernel
theorem dX12_sumBy_3 : decode cX12_sumBy 3 = .ok (.iconst 0, 1) := by decide +kernel
theorem dX12_sumBy_4 : decode cX12_sumBy 4 = .ok (.istore 5, 2) := by decide +kernel
theorem dX12_sumBy_6 : decode cX12_sumBy 6 = .ok (.iload 5, 2) := by decide +kernel
