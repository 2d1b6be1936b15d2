/-! the things, and rows over numbers that are written as naturals -/
def SHs : List ic_S := [(11, 0, [40, 68, 0, 2, 96, 5, 0, 6, 12, 0, 17, 18, 19, 24, 25, 26, 1000000]), (4, 0, [0, 0, 3, 4]), (100, 6, []), (100, 6, []), (101, 200, []), (10, 0, [0, 7, 8, 9, 10, 0, 1000000, 0, 0, 0, 0]), (100, 8, []), (100, 8, []), (100, 8, []), (100, 200, []), (101, 0, []), (104, 4, [13, 14, 15, 16]), (100, 3, []), (100, 3, []), (100, 3, []), (100, 3, []), (100, 4, []), (100, 4, []), (104, 4, [20, 21, 22, 23]), (100, 40, []), (100, 40, []), (100, 40, []), (100, 40, []), (100, 4, []), (100, 4, []), (100, 4, []), (103, 6, [28, 30, 32, 34, 36, 38]), (9, 0, [0, 0, 29, 0, 0]), (100, 30, []), (7, 0, [0, 0, 31, 0, 0]), (100, 30, []), (3, 0, [0, 0, 33, 0, 0]), (100, 30, []), (2, 0, [0, 0, 35, 0, 0]), (100, 30, []), (1, 0, [0, 0, 37, 0, 0]), (100, 30, []), (0, 0, [0, 0, 39, 0, 0]), (100, 30, []), (5, 0, [27, 41, 42, 43, 44, 45, 46, 47, 50, 56, 0, 0, 0, 0, 66, 67]), (100, 16, []), (100, 6, []), (100, 6, []), (100, 6, []), (100, 6, []), (100, 6, []), (4, 0, [0, 0, 48, 49]), (100, 6, []), (100, 6, []), (10, 0, [0, 51, 52, 53, 54, 0, 1000000, 0, 0, 0, 0]), (100, 8, []), (100, 8, []), (100, 8, []), (100, 200, []), (101, 0, []), (8, 0, [0, 57, 64, 65, 0, 0, 0, 0, 0]), (104, 6, [58, 59, 60, 61, 62, 63]), (100, 4, []), (100, 4, []), (100, 4, []), (100, 4, []), (100, 4, []), (100, 4, []), (100, 16, []), (100, 16, []), (100, 6, []), (100, 5, []), (5, 0, [27, 69, 70, 71, 72, 73, 74, 75, 78, 84, 0, 0, 0, 0, 94, 95]), (100, 16, []), (100, 6, []), (100, 6, []), (100, 6, []), (100, 6, []), (100, 6, []), (4, 0, [0, 0, 76, 77]), (100, 6, []), (100, 6, []), (10, 0, [0, 79, 80, 81, 82, 0, 1000000, 0, 0, 0, 0]), (100, 8, []), (100, 8, []), (100, 8, []), (100, 200, []), (101, 0, []), (8, 0, [0, 85, 92, 93, 0, 0, 0, 0, 0]), (104, 6, [86, 87, 88, 89, 90, 91]), (100, 4, []), (100, 4, []), (100, 4, []), (100, 4, []), (100, 4, []), (100, 4, []), (100, 16, []), (100, 16, []), (100, 6, []), (100, 5, []), (6, 0, [40, 97, 98, 99, 0, 0, 0, 0, 0, 0, 0]), (102, 5, [100, 103, 106, 109, 112]), (100, 4, []), (100, 4, []), (4, 0, [0, 0, 101, 102]), (100, 6, []), (100, 6, []), (4, 0, [0, 0, 104, 105]), (100, 6, []), (100, 6, []), (4, 0, [0, 0, 107, 108]), (100, 6, []), (100, 6, []), (4, 0, [0, 0, 110, 111]), (100, 6, []), (100, 6, []), (4, 0, [0, 0, 113, 114]), (100, 6, []), (100, 6, []), (12, 0, [116, 117, 0, 118, 119, 0, 0, 0, 0, 0, 0, 0, 120, 121, 122, 123, 0, 0, 0, 0, 0, 0, 0, 124, 125, 0, 0, 126, 0, 127, 128, 129, 130, 131, 132, 133, 0, 0, 0, 0, 0]), (100, 578, []), (100, 578, []), (100, 220, []), (100, 200, []), (100, 578, []), (100, 6, []), (100, 4, []), (100, 4, []), (100, 16, []), (100, 16, []), (100, 12, []), (100, 4, []), (100, 4, []), (100, 160, []), (100, 4, []), (100, 4, []), (100, 4, []), (100, 30, [])]
theorem sh_0 : SHs[0]? = some (11, 0, [40, 68, 0, 2, 96, 5, 0, 6, 12, 0, 17, 18, 19, 24, 25, 26, 1000000]) := rfl
theorem sh_1 : SHs[1]? = some (4, 0, [0, 0, 3, 4]) := rfl
theorem sh_2 : SHs[2]? = some (100, 6, []) := rfl
theorem sh_3 : SHs[3]? = some (100, 6, []) := rfl
theorem sh_4 : SHs[4]? = some (101, 200, []) := rfl
theorem sh_5 : SHs[5]? = some (10, 0, [0, 7, 8, 9, 10, 0, 1000000, 0, 0, 0, 0]) := rfl
theorem sh_6 : SHs[6]? = some (100, 8, []) := rfl
theorem sh_7 : SHs[7]? = some (100, 8, []) := rfl
theorem sh_8 : SHs[8]? = some (100, 8, []) := rfl
theorem sh_9 : SHs[9]? = some (100, 200, []) := rfl
theorem sh_10 : SHs[10]? = some (101, 0, []) := rfl
theorem sh_11 : SHs[11]? = some (104, 4, [13, 14, 15, 16]) := rfl
theorem sh_12 : SHs[12]? = some (100, 3, []) := rfl
theorem sh_13 : SHs[13]? = some (100, 3, []) := rfl
theorem sh_14 : SHs[14]? = some (100, 3, []) := rfl
theorem sh_15 : SHs[15]? = some (100, 3, []) := rfl
theorem sh_16 : SHs[16]? = some (100, 4, []) := rfl
theorem sh_17 : SHs[17]? = some (100, 4, []) := rfl
theorem sh_18 : SHs[18]? = some (104, 4, [20, 21, 22, 23]) := rfl
theorem sh_19 : SHs[19]? = some (100, 40, []) := rfl
theorem sh_20 : SHs[20]? = some (100, 40, []) := rfl
theorem sh_21 : SHs[21]? = some (100, 40, []) := rfl
theorem sh_22 : SHs[22]? = some (100, 40, []) := rfl
theorem sh_23 : SHs[23]? = some (100, 4, []) := rfl
theorem sh_24 : SHs[24]? = some (100, 4, []) := rfl
theorem sh_25 : SHs[25]? = some (100, 4, []) := rfl
theorem sh_26 : SHs[26]? = some (103, 6, [28, 30, 32, 34, 36, 38]) := rfl
theorem sh_27 : SHs[27]? = some (9, 0, [0, 0, 29, 0, 0]) := rfl
theorem sh_28 : SHs[28]? = some (100, 30, []) := rfl
theorem sh_29 : SHs[29]? = some (7, 0, [0, 0, 31, 0, 0]) := rfl
theorem sh_30 : SHs[30]? = some (100, 30, []) := rfl
theorem sh_31 : SHs[31]? = some (3, 0, [0, 0, 33, 0, 0]) := rfl
theorem sh_32 : SHs[32]? = some (100, 30, []) := rfl
theorem sh_33 : SHs[33]? = some (2, 0, [0, 0, 35, 0, 0]) := rfl
theorem sh_34 : SHs[34]? = some (100, 30, []) := rfl
theorem sh_35 : SHs[35]? = some (1, 0, [0, 0, 37, 0, 0]) := rfl
theorem sh_36 : SHs[36]? = some (100, 30, []) := rfl
theorem sh_37 : SHs[37]? = some (0, 0, [0, 0, 39, 0, 0]) := rfl
theorem sh_38 : SHs[38]? = some (100, 30, []) := rfl
theorem sh_39 : SHs[39]? = some (5, 0, [27, 41, 42, 43, 44, 45, 46, 47, 50, 56, 0, 0, 0, 0, 66, 67]) := rfl
theorem sh_40 : SHs[40]? = some (100, 16, []) := rfl
theorem sh_41 : SHs[41]? = some (100, 6, []) := rfl
theorem sh_42 : SHs[42]? = some (100, 6, []) := rfl
theorem sh_43 : SHs[43]? = some (100, 6, []) := rfl
theorem sh_44 : SHs[44]? = some (100, 6, []) := rfl
theorem sh_45 : SHs[45]? = some (100, 6, []) := rfl
theorem sh_46 : SHs[46]? = some (4, 0, [0, 0, 48, 49]) := rfl
theorem sh_47 : SHs[47]? = some (100, 6, []) := rfl
theorem sh_48 : SHs[48]? = some (100, 6, []) := rfl
theorem sh_49 : SHs[49]? = some (10, 0, [0, 51, 52, 53, 54, 0, 1000000, 0, 0, 0, 0]) := rfl
theorem sh_50 : SHs[50]? = some (100, 8, []) := rfl
theorem sh_51 : SHs[51]? = some (100, 8, []) := rfl
theorem sh_52 : SHs[52]? = some (100, 8, []) := rfl
theorem sh_53 : SHs[53]? = some (100, 200, []) := rfl
theorem sh_54 : SHs[54]? = some (101, 0, []) := rfl
theorem sh_55 : SHs[55]? = some (8, 0, [0, 57, 64, 65, 0, 0, 0, 0, 0]) := rfl
theorem sh_56 : SHs[56]? = some (104, 6, [58, 59, 60, 61, 62, 63]) := rfl
theorem sh_57 : SHs[57]? = some (100, 4, []) := rfl
theorem sh_58 : SHs[58]? = some (100, 4, []) := rfl
theorem sh_59 : SHs[59]? = some (100, 4, []) := rfl
theorem sh_60 : SHs[60]? = some (100, 4, []) := rfl
theorem sh_61 : SHs[61]? = some (100, 4, []) := rfl
theorem sh_62 : SHs[62]? = some (100, 4, []) := rfl
theorem sh_63 : SHs[63]? = some (100, 16, []) := rfl
theorem sh_64 : SHs[64]? = some (100, 16, []) := rfl
theorem sh_65 : SHs[65]? = some (100, 6, []) := rfl
theorem sh_66 : SHs[66]? = some (100, 5, []) := rfl
theorem sh_67 : SHs[67]? = some (5, 0, [27, 69, 70, 71, 72, 73, 74, 75, 78, 84, 0, 0, 0, 0, 94, 95]) := rfl
theorem sh_68 : SHs[68]? = some (100, 16, []) := rfl
theorem sh_69 : SHs[69]? = some (100, 6, []) := rfl
theorem sh_70 : SHs[70]? = some (100, 6, []) := rfl
theorem sh_71 : SHs[71]? = some (100, 6, []) := rfl
theorem sh_72 : SHs[72]? = some (100, 6, []) := rfl
theorem sh_73 : SHs[73]? = some (100, 6, []) := rfl
theorem sh_74 : SHs[74]? = some (4, 0, [0, 0, 76, 77]) := rfl
theorem sh_75 : SHs[75]? = some (100, 6, []) := rfl
theorem sh_76 : SHs[76]? = some (100, 6, []) := rfl
theorem sh_77 : SHs[77]? = some (10, 0, [0, 79, 80, 81, 82, 0, 1000000, 0, 0, 0, 0]) := rfl
theorem sh_78 : SHs[78]? = some (100, 8, []) := rfl
theorem sh_79 : SHs[79]? = some (100, 8, []) := rfl
theorem sh_80 : SHs[80]? = some (100, 8, []) := rfl
theorem sh_81 : SHs[81]? = some (100, 200, []) := rfl
theorem sh_82 : SHs[82]? = some (101, 0, []) := rfl
theorem sh_83 : SHs[83]? = some (8, 0, [0, 85, 92, 93, 0, 0, 0, 0, 0]) := rfl
theorem sh_84 : SHs[84]? = some (104, 6, [86, 87, 88, 89, 90, 91]) := rfl
theorem sh_85 : SHs[85]? = some (100, 4, []) := rfl
theorem sh_86 : SHs[86]? = some (100, 4, []) := rfl
theorem sh_87 : SHs[87]? = some (100, 4, []) := rfl
theorem sh_88 : SHs[88]? = some (100, 4, []) := rfl
theorem sh_89 : SHs[89]? = some (100, 4, []) := rfl
theorem sh_90 : SHs[90]? = some (100, 4, []) := rfl
theorem sh_91 : SHs[91]? = some (100, 16, []) := rfl
theorem sh_92 : SHs[92]? = some (100, 16, []) := rfl
theorem sh_93 : SHs[93]? = some (100, 6, []) := rfl
theorem sh_94 : SHs[94]? = some (100, 5, []) := rfl
theorem sh_95 : SHs[95]? = some (6, 0, [40, 97, 98, 99, 0, 0, 0, 0, 0, 0, 0]) := rfl
theorem sh_96 : SHs[96]? = some (102, 5, [100, 103, 106, 109, 112]) := rfl
theorem sh_97 : SHs[97]? = some (100, 4, []) := rfl
theorem sh_98 : SHs[98]? = some (100, 4, []) := rfl
theorem sh_99 : SHs[99]? = some (4, 0, [0, 0, 101, 102]) := rfl
theorem sh_100 : SHs[100]? = some (100, 6, []) := rfl
theorem sh_101 : SHs[101]? = some (100, 6, []) := rfl
theorem sh_102 : SHs[102]? = some (4, 0, [0, 0, 104, 105]) := rfl
theorem sh_103 : SHs[103]? = some (100, 6, []) := rfl
theorem sh_104 : SHs[104]? = some (100, 6, []) := rfl
theorem sh_105 : SHs[105]? = some (4, 0, [0, 0, 107, 108]) := rfl
theorem sh_106 : SHs[106]? = some (100, 6, []) := rfl
theorem sh_107 : SHs[107]? = some (100, 6, []) := rfl
theorem sh_108 : SHs[108]? = some (4, 0, [0, 0, 110, 111]) := rfl
theorem sh_109 : SHs[109]? = some (100, 6, []) := rfl
theorem sh_110 : SHs[110]? = some (100, 6, []) := rfl
theorem sh_111 : SHs[111]? = some (4, 0, [0, 0, 113, 114]) := rfl
theorem sh_112 : SHs[112]? = some (100, 6, []) := rfl
theorem sh_113 : SHs[113]? = some (100, 6, []) := rfl
theorem sh_114 : SHs[114]? = some (12, 0, [116, 117, 0, 118, 119, 0, 0, 0, 0, 0, 0, 0, 120, 121, 122, 123, 0, 0, 0, 0, 0, 0, 0, 124, 125, 0, 0, 126, 0, 127, 128, 129, 130, 131, 132, 133, 0, 0, 0, 0, 0]) := rfl
theorem sh_115 : SHs[115]? = some (100, 578, []) := rfl
theorem sh_116 : SHs[116]? = some (100, 578, []) := rfl
theorem sh_117 : SHs[117]? = some (100, 220, []) := rfl
theorem sh_118 : SHs[118]? = some (100, 200, []) := rfl
theorem sh_119 : SHs[119]? = some (100, 578, []) := rfl
theorem sh_120 : SHs[120]? = some (100, 6, []) := rfl
theorem sh_121 : SHs[121]? = some (100, 4, []) := rfl
theorem sh_122 : SHs[122]? = some (100, 4, []) := rfl
theorem sh_123 : SHs[123]? = some (100, 16, []) := rfl
theorem sh_124 : SHs[124]? = some (100, 16, []) := rfl
theorem sh_125 : SHs[125]? = some (100, 12, []) := rfl
theorem sh_126 : SHs[126]? = some (100, 4, []) := rfl
theorem sh_127 : SHs[127]? = some (100, 4, []) := rfl
theorem sh_128 : SHs[128]? = some (100, 160, []) := rfl
theorem sh_129 : SHs[129]? = some (100, 4, []) := rfl
theorem sh_130 : SHs[130]? = some (100, 4, []) := rfl
theorem sh_131 : SHs[131]? = some (100, 4, []) := rfl
theorem sh_132 : SHs[132]? = some (100, 30, []) := rfl
def ic_bo (c : Prop) [Decidable c] : Nat := if c then 1 else 0
theorem ic_bo_le (c : Prop) [Decidable c] : ic_bo c ≤ 1 := by unfold ic_bo; split <;> omega
theorem ic_bo_t {c : Prop} [Decidable c] (h : c) : ic_bo c = 1 := if_pos h
theorem ic_bo_f {c : Prop} [Decidable c] (h : ¬ c) : ic_bo c = 0 := if_neg h
theorem ic_bo_0 {c : Prop} [Decidable c] : ic_bo c = 0 ↔ ¬ c := by unfold ic_bo; split <;> simp_all
theorem ic_bo_1 {c : Prop} [Decidable c] : ic_bo c = 1 ↔ c := by unfold ic_bo; split <;> simp_all
section XN
variable {l : Launch} {E : ic_E} {F : ic_F} {kc : Nat × Nat} {pc : Nat} {L : List (Nat × Value)} {st : List Value} {sh : List ic_S} {h : ic_H}
theorem xx_eqI {x y : Int32} (e : x = y) (kk : xx l E F kc pc L (.int y :: st) sh h) : xx l E F kc pc L (.int x :: st) sh h := e ▸ kk
theorem xx_eqL {x y : Int64} (e : x = y) (kk : xx l E F kc pc L (.long y :: st) sh h) : xx l E F kc pc L (.long x :: st) sh h := e ▸ kk
theorem xx_iaddN {a b : Nat} (hd : decode F.2.2.1 pc = .ok (.iadd, 1)) (kk : xx l E F kc (pc + 1) L (.int (nI (a + b)) :: st) sh h) : xx l E F kc pc L (.int (nI b) :: .int (nI a) :: st) sh h := xx_iadd hd (by rw [nI_add]; exact kk)
theorem xx_imulN {a b : Nat} (hd : decode F.2.2.1 pc = .ok (.imul, 1)) (kk : xx l E F kc (pc + 1) L (.int (nI (a * b)) :: st) sh h) : xx l E F kc pc L (.int (nI b) :: .int (nI a) :: st) sh h := xx_imul hd (by rw [pk_mul]; exact kk)
theorem xx_isubN {a b : Nat} (hd : decode F.2.2.1 pc = .ok (.isub, 1)) (hb : b ≤ a) (kk : xx l E F kc (pc + 1) L (.int (nI (a - b)) :: st) sh h) : xx l E F kc pc L (.int (nI b) :: .int (nI a) :: st) sh h := xx_isub hd (by rw [pk_sub hb]; exact kk)
theorem xx_idivN {a b : Nat} (hd : decode F.2.2.1 pc = .ok (.idiv, 1)) (ha : a < 2 ^ 31) (h0 : 0 < b) (hb : b < 2 ^ 31) (kk : xx l E F kc (pc + 1) L (.int (nI (a / b)) :: st) sh h) : xx l E F kc pc L (.int (nI b) :: .int (nI a) :: st) sh h := xx_idiv hd (nI_ne0 h0 hb) (by rw [pk_div ha h0 hb]; exact kk)
theorem xx_iremN {a b : Nat} (hd : decode F.2.2.1 pc = .ok (.irem, 1)) (ha : a < 2 ^ 31) (h0 : 0 < b) (hb : b < 2 ^ 31) (kk : xx l E F kc (pc + 1) L (.int (nI (a % b)) :: st) sh h) : xx l E F kc pc L (.int (nI b) :: .int (nI a) :: st) sh h := xx_irem hd (nI_ne0 h0 hb) (by rw [pk_rem ha h0 hb]; exact kk)
theorem ic_sl : ∀ n, n < 32 → ((nI n &&& 31).toBitVec.smod 32).toNat = n := by decide +kernel
theorem xx_ishlN {a b : Nat} (hd : decode F.2.2.1 pc = .ok (.ishl, 1)) (hb : b < 32) (hx : a * 2 ^ b < 2 ^ 32) (kk : xx l E F kc (pc + 1) L (.int (nI (a * 2 ^ b)) :: st) sh h) : xx l E F kc pc L (.int (nI b) :: .int (nI a) :: st) sh h := xx_ishl hd (by rw [pk_shlN _ b (ic_sl b hb) hx]; exact kk)
theorem xx_ishrN {a b : Nat} (hd : decode F.2.2.1 pc = .ok (.ishr, 1)) (ha : a < 2 ^ 31) (hb : b < 32) (kk : xx l E F kc (pc + 1) L (.int (nI (a / 2 ^ b)) :: st) sh h) : xx l E F kc pc L (.int (nI b) :: .int (nI a) :: st) sh h := xx_ishr hd (by rw [pk_shrN ha _ b (ic_sl b hb)]; exact kk)
theorem ic_andN (a b : Nat) : nI a &&& nI b = nI (a &&& b) := by
  apply Int32.toBitVec_inj.mp
  show BitVec.ofNat 32 a &&& BitVec.ofNat 32 b = BitVec.ofNat 32 (a &&& b)
  exact (BitVec.ofNat_and).symm
theorem ic_orN (a b : Nat) : nI a ||| nI b = nI (a ||| b) := by
  apply Int32.toBitVec_inj.mp
  show BitVec.ofNat 32 a ||| BitVec.ofNat 32 b = BitVec.ofNat 32 (a ||| b)
  exact (BitVec.ofNat_or).symm
theorem ic_xorN (a b : Nat) : nI a ^^^ nI b = nI (a ^^^ b) := by
  apply Int32.toBitVec_inj.mp
  show BitVec.ofNat 32 a ^^^ BitVec.ofNat 32 b = BitVec.ofNat 32 (a ^^^ b)
  exact (BitVec.ofNat_xor).symm
theorem xx_iandN {a b : Nat} (hd : decode F.2.2.1 pc = .ok (.iand, 1)) (kk : xx l E F kc (pc + 1) L (.int (nI (a &&& b)) :: st) sh h) : xx l E F kc pc L (.int (nI b) :: .int (nI a) :: st) sh h := xx_iand hd (by rw [ic_andN]; exact kk)
theorem xx_iorN {a b : Nat} (hd : decode F.2.2.1 pc = .ok (.ior, 1)) (kk : xx l E F kc (pc + 1) L (.int (nI (a ||| b)) :: st) sh h) : xx l E F kc pc L (.int (nI b) :: .int (nI a) :: st) sh h := xx_ior hd (by rw [ic_orN]; exact kk)
theorem xx_ixorN {a b : Nat} (hd : decode F.2.2.1 pc = .ok (.ixor, 1)) (kk : xx l E F kc (pc + 1) L (.int (nI (a ^^^ b)) :: st) sh h) : xx l E F kc pc L (.int (nI b) :: .int (nI a) :: st) sh h := xx_ixor hd (by rw [ic_xorN]; exact kk)
theorem xx_iincN {i : Nat} {n : Int} {a b : Nat} {L' : List (Nat × Value)} (hd : decode F.2.2.1 pc = .ok (.iinc i n, 3)) (j : Nat) (hj : L[j]? = some (i, .int (nI a))) (hb : Int32.ofInt n = nI b) (hn : i < F.2.2.2.1) (hL : (i, Value.int (nI (a + b))) :: L.filter (fun q => !(q.1 == i) && !(q.1 + 1 == i && q.2.category == 2)) = L') (kk : xx l E F kc (pc + 3) L' st sh h) : xx l E F kc pc L st sh h := xx_iinc hd j hj (by rw [hb, nI_add]) hn hL kk
theorem ic_inj {a b : Nat} (ha : a < 2 ^ 32) (hb : b < 2 ^ 32) : nI a = nI b ↔ a = b := by
  refine ⟨fun e => ?_, fun e => by rw [e]⟩
  have := congrArg (fun x : Int32 => x.toBitVec.toNat) e
  simp only [pk_tn ha, pk_tn hb] at this
  exact this
theorem xx_icmp_eqN {a b : Nat} {off : Int} (tgt : Nat) (hd : decode F.2.2.1 pc = .ok (.if_icmp .eq off, 3)) (ht : (pc : Int) + off = (tgt : Int)) (ha : a < 2 ^ 32) (hb : b < 2 ^ 32) (kt : a = b → xx l E F kc tgt L st sh h) (kf : ¬ a = b → xx l E F kc (pc + 3) L st sh h) : xx l E F kc pc L (.int (nI b) :: .int (nI a) :: st) sh h := xx_icmp_eq tgt hd ht (fun q => kt ((ic_inj ha hb).mp q)) (fun q => kf (fun z => q ((ic_inj ha hb).mpr z)))
theorem xx_icmp_neN {a b : Nat} {off : Int} (tgt : Nat) (hd : decode F.2.2.1 pc = .ok (.if_icmp .ne off, 3)) (ht : (pc : Int) + off = (tgt : Int)) (ha : a < 2 ^ 32) (hb : b < 2 ^ 32) (kt : ¬ a = b → xx l E F kc tgt L st sh h) (kf : a = b → xx l E F kc (pc + 3) L st sh h) : xx l E F kc pc L (.int (nI b) :: .int (nI a) :: st) sh h := xx_icmp_ne tgt hd ht (fun q => kt (fun z => q ((ic_inj ha hb).mpr z))) (fun q => kf ((ic_inj ha hb).mp q))
theorem xx_icmp_ltN {a b : Nat} {off : Int} (tgt : Nat) (hd : decode F.2.2.1 pc = .ok (.if_icmp .lt off, 3)) (ht : (pc : Int) + off = (tgt : Int)) (ha : a < 2 ^ 31) (hb : b < 2 ^ 31) (kt : a < b → xx l E F kc tgt L st sh h) (kf : b ≤ a → xx l E F kc (pc + 3) L st sh h) : xx l E F kc pc L (.int (nI b) :: .int (nI a) :: st) sh h := xx_icmp_lt tgt hd ht (fun q => kt ((nI_ltI ha hb).mp q)) (fun q => kf (Nat.le_of_not_lt fun z => q ((nI_ltI ha hb).mpr z)))
theorem xx_icmp_geN {a b : Nat} {off : Int} (tgt : Nat) (hd : decode F.2.2.1 pc = .ok (.if_icmp .ge off, 3)) (ht : (pc : Int) + off = (tgt : Int)) (ha : a < 2 ^ 31) (hb : b < 2 ^ 31) (kt : b ≤ a → xx l E F kc tgt L st sh h) (kf : a < b → xx l E F kc (pc + 3) L st sh h) : xx l E F kc pc L (.int (nI b) :: .int (nI a) :: st) sh h := xx_icmp_ge tgt hd ht (fun q => kt ((nI_leI hb ha).mp q)) (fun q => kf (Nat.lt_of_not_le fun z => q ((nI_leI hb ha).mpr z)))
theorem xx_icmp_gtN {a b : Nat} {off : Int} (tgt : Nat) (hd : decode F.2.2.1 pc = .ok (.if_icmp .gt off, 3)) (ht : (pc : Int) + off = (tgt : Int)) (ha : a < 2 ^ 31) (hb : b < 2 ^ 31) (kt : b < a → xx l E F kc tgt L st sh h) (kf : a ≤ b → xx l E F kc (pc + 3) L st sh h) : xx l E F kc pc L (.int (nI b) :: .int (nI a) :: st) sh h := xx_icmp_gt tgt hd ht (fun q => kt ((nI_ltI hb ha).mp q)) (fun q => kf (Nat.le_of_not_lt fun z => q ((nI_ltI hb ha).mpr z)))
theorem xx_icmp_leN {a b : Nat} {off : Int} (tgt : Nat) (hd : decode F.2.2.1 pc = .ok (.if_icmp .le off, 3)) (ht : (pc : Int) + off = (tgt : Int)) (ha : a < 2 ^ 31) (hb : b < 2 ^ 31) (kt : a ≤ b → xx l E F kc tgt L st sh h) (kf : b < a → xx l E F kc (pc + 3) L st sh h) : xx l E F kc pc L (.int (nI b) :: .int (nI a) :: st) sh h := xx_icmp_le tgt hd ht (fun q => kt ((nI_leI ha hb).mp q)) (fun q => kf (Nat.lt_of_not_le fun z => q ((nI_leI ha hb).mpr z)))
theorem xx_if_eqN {a : Nat} {off : Int} (tgt : Nat) (hd : decode F.2.2.1 pc = .ok (.ifCond .eq off, 3)) (ht : (pc : Int) + off = (tgt : Int)) (ha : a < 2 ^ 32) (kt : a = 0 → xx l E F kc tgt L st sh h) (kf : ¬ a = 0 → xx l E F kc (pc + 3) L st sh h) : xx l E F kc pc L (.int (nI a) :: st) sh h := by
  have hz : (0 : Nat) < 2 ^ 32 := by decide
  exact xx_if_eq tgt hd ht (fun q => by rw [← nI_0] at q; exact kt ((ic_inj ha hz).mp q)) (fun q => by rw [← nI_0] at q; exact kf (fun z => q ((ic_inj ha hz).mpr z)))
theorem xx_if_neN {a : Nat} {off : Int} (tgt : Nat) (hd : decode F.2.2.1 pc = .ok (.ifCond .ne off, 3)) (ht : (pc : Int) + off = (tgt : Int)) (ha : a < 2 ^ 32) (kt : ¬ a = 0 → xx l E F kc tgt L st sh h) (kf : a = 0 → xx l E F kc (pc + 3) L st sh h) : xx l E F kc pc L (.int (nI a) :: st) sh h := by
  have hz : (0 : Nat) < 2 ^ 32 := by decide
  exact xx_if_ne tgt hd ht (fun q => by rw [← nI_0] at q; exact kt (fun z => q ((ic_inj ha hz).mpr z))) (fun q => by rw [← nI_0] at q; exact kf ((ic_inj ha hz).mp q))
theorem xx_if_gtN {a : Nat} {off : Int} (tgt : Nat) (hd : decode F.2.2.1 pc = .ok (.ifCond .gt off, 3)) (ht : (pc : Int) + off = (tgt : Int)) (ha : a < 2 ^ 31) (kt : 0 < a → xx l E F kc tgt L st sh h) (kf : a = 0 → xx l E F kc (pc + 3) L st sh h) : xx l E F kc pc L (.int (nI a) :: st) sh h := by
  have hz : (0 : Nat) < 2 ^ 31 := by decide
  exact xx_if_gt tgt hd ht (fun q => by rw [← nI_0] at q; exact kt ((nI_ltI hz ha).mp q)) (fun q => by rw [← nI_0] at q; exact kf (Nat.le_zero.mp (Nat.le_of_not_lt fun z => q ((nI_ltI hz ha).mpr z))))
theorem xx_if_leN {a : Nat} {off : Int} (tgt : Nat) (hd : decode F.2.2.1 pc = .ok (.ifCond .le off, 3)) (ht : (pc : Int) + off = (tgt : Int)) (ha : a < 2 ^ 31) (kt : a = 0 → xx l E F kc tgt L st sh h) (kf : 0 < a → xx l E F kc (pc + 3) L st sh h) : xx l E F kc pc L (.int (nI a) :: st) sh h := by
  have hz : (0 : Nat) < 2 ^ 31 := by decide
  exact xx_if_le tgt hd ht (fun q => by rw [← nI_0] at q; exact kt (Nat.le_zero.mp ((nI_leI ha hz).mp q))) (fun q => by rw [← nI_0] at q; exact kf (Nat.lt_of_not_le fun z => q ((nI_leI ha hz).mpr z)))
theorem xx_if_ltN {a : Nat} {off : Int} (tgt : Nat) (hd : decode F.2.2.1 pc = .ok (.ifCond .lt off, 3)) (ht : (pc : Int) + off = (tgt : Int)) (ha : a < 2 ^ 31) (kt : False → xx l E F kc tgt L st sh h) (kf : True → xx l E F kc (pc + 3) L st sh h) : xx l E F kc pc L (.int (nI a) :: st) sh h := by
  have hz : (0 : Nat) < 2 ^ 31 := by decide
  exact xx_if_lt tgt hd ht (fun q => by rw [← nI_0] at q; exact kt ((Nat.not_lt_zero _ ((nI_ltI ha hz).mp q)).elim)) (fun q => by rw [← nI_0] at q; exact kf (True.intro))
theorem xx_if_geN {a : Nat} {off : Int} (tgt : Nat) (hd : decode F.2.2.1 pc = .ok (.ifCond .ge off, 3)) (ht : (pc : Int) + off = (tgt : Int)) (ha : a < 2 ^ 31) (kt : True → xx l E F kc tgt L st sh h) (kf : False → xx l E F kc (pc + 3) L st sh h) : xx l E F kc pc L (.int (nI a) :: st) sh h := by
  have hz : (0 : Nat) < 2 ^ 31 := by decide
  exact xx_if_ge tgt hd ht (fun q => by rw [← nI_0] at q; exact kt (True.intro)) (fun q => by rw [← nI_0] at q; exact kf ((Nat.not_lt_zero _ (Nat.lt_of_not_le fun z => q ((nI_leI hz ha).mpr z))).elim))
theorem xx_if_eqB {c : Prop} [Decidable c] {off : Int} (tgt : Nat) (hd : decode F.2.2.1 pc = .ok (.ifCond .eq off, 3)) (ht : (pc : Int) + off = (tgt : Int)) (kt : ¬ c → xx l E F kc tgt L st sh h) (kf : c → xx l E F kc (pc + 3) L st sh h) : xx l E F kc pc L (.int (nI (ic_bo c)) :: st) sh h := xx_if_eqN tgt hd ht (by have := ic_bo_le c; omega) (fun q => kt (ic_bo_0.mp q)) (fun q => kf (Classical.not_not.mp fun z => q (ic_bo_0.mpr z)))
theorem xx_if_neB {c : Prop} [Decidable c] {off : Int} (tgt : Nat) (hd : decode F.2.2.1 pc = .ok (.ifCond .ne off, 3)) (ht : (pc : Int) + off = (tgt : Int)) (kt : c → xx l E F kc tgt L st sh h) (kf : ¬ c → xx l E F kc (pc + 3) L st sh h) : xx l E F kc pc L (.int (nI (ic_bo c)) :: st) sh h := xx_if_neN tgt hd ht (by have := ic_bo_le c; omega) (fun q => kt (Classical.not_not.mp fun z => q (ic_bo_0.mpr z))) (fun q => kf (ic_bo_0.mp q))
theorem ic_re {a b : Nat} {h : ic_H} (e : a = b) : ic_qe (nI b) h (some (.int (nI a))) h := by rw [e]; exact ⟨rfl, rfl⟩
theorem ic_rE {a b : Int32} {h : ic_H} (e : a = b) : ic_qe b h (some (.int a)) h := by rw [e]; exact ⟨rfl, rfl⟩
theorem ic_rv0 {P : ic_H → Prop} {h : ic_H} (q : P h) : ic_qv P none h := ⟨rfl, q⟩
theorem ic_ri {P : Int32 → ic_H → Prop} {a : Int32} {h : ic_H} (q : P a h) : ic_qi P (some (.int a)) h := ⟨a, rfl, q⟩
theorem ic_nbo {c : Prop} [Decidable c] : narrow .boolean (.int (nI (ic_bo c))) = .int (nI (ic_bo c)) := by
  unfold ic_bo
  split <;> rfl
end XN
theorem cc_bipush_m100 : (Int8.ofInt (-100)).toInt32 = nI 4294967196 := by decide +kernel
theorem cc_bipush_m15 : (Int8.ofInt (-15)).toInt32 = nI 4294967281 := by decide +kernel
theorem cc_bipush_m14 : (Int8.ofInt (-14)).toInt32 = nI 4294967282 := by decide +kernel
theorem cc_bipush_m13 : (Int8.ofInt (-13)).toInt32 = nI 4294967283 := by decide +kernel
theorem cc_bipush_m12 : (Int8.ofInt (-12)).toInt32 = nI 4294967284 := by decide +kernel
theorem cc_bipush_m11 : (Int8.ofInt (-11)).toInt32 = nI 4294967285 := by decide +kernel
theorem cc_bipush_m9 : (Int8.ofInt (-9)).toInt32 = nI 4294967287 := by decide +kernel
theorem cc_bipush_m4 : (Int8.ofInt (-4)).toInt32 = nI 4294967292 := by decide +kernel
theorem cc_bipush_m3 : (Int8.ofInt (-3)).toInt32 = nI 4294967293 := by decide +kernel
theorem cc_bipush_m2 : (Int8.ofInt (-2)).toInt32 = nI 4294967294 := by decide +kernel
theorem cc_bipush_6 : (Int8.ofInt (6)).toInt32 = nI 6 := by decide +kernel
theorem cc_bipush_7 : (Int8.ofInt (7)).toInt32 = nI 7 := by decide +kernel
theorem cc_bipush_8 : (Int8.ofInt (8)).toInt32 = nI 8 := by decide +kernel
theorem cc_bipush_9 : (Int8.ofInt (9)).toInt32 = nI 9 := by decide +kernel
theorem cc_bipush_10 : (Int8.ofInt (10)).toInt32 = nI 10 := by decide +kernel
theorem cc_bipush_11 : (Int8.ofInt (11)).toInt32 = nI 11 := by decide +kernel
theorem cc_bipush_12 : (Int8.ofInt (12)).toInt32 = nI 12 := by decide +kernel
theorem cc_bipush_13 : (Int8.ofInt (13)).toInt32 = nI 13 := by decide +kernel
theorem cc_bipush_14 : (Int8.ofInt (14)).toInt32 = nI 14 := by decide +kernel
theorem cc_bipush_15 : (Int8.ofInt (15)).toInt32 = nI 15 := by decide +kernel
theorem cc_bipush_16 : (Int8.ofInt (16)).toInt32 = nI 16 := by decide +kernel
theorem cc_bipush_20 : (Int8.ofInt (20)).toInt32 = nI 20 := by decide +kernel
theorem cc_bipush_28 : (Int8.ofInt (28)).toInt32 = nI 28 := by decide +kernel
theorem cc_bipush_30 : (Int8.ofInt (30)).toInt32 = nI 30 := by decide +kernel
theorem cc_bipush_32 : (Int8.ofInt (32)).toInt32 = nI 32 := by decide +kernel
theorem cc_bipush_40 : (Int8.ofInt (40)).toInt32 = nI 40 := by decide +kernel
theorem cc_bipush_41 : (Int8.ofInt (41)).toInt32 = nI 41 := by decide +kernel
theorem cc_bipush_44 : (Int8.ofInt (44)).toInt32 = nI 44 := by decide +kernel
theorem cc_bipush_48 : (Int8.ofInt (48)).toInt32 = nI 48 := by decide +kernel
theorem cc_bipush_50 : (Int8.ofInt (50)).toInt32 = nI 50 := by decide +kernel
theorem cc_bipush_51 : (Int8.ofInt (51)).toInt32 = nI 51 := by decide +kernel
theorem cc_bipush_56 : (Int8.ofInt (56)).toInt32 = nI 56 := by decide +kernel
theorem cc_bipush_57 : (Int8.ofInt (57)).toInt32 = nI 57 := by decide +kernel
theorem cc_bipush_59 : (Int8.ofInt (59)).toInt32 = nI 59 := by decide +kernel
theorem cc_bipush_60 : (Int8.ofInt (60)).toInt32 = nI 60 := by decide +kernel
theorem cc_bipush_61 : (Int8.ofInt (61)).toInt32 = nI 61 := by decide +kernel
theorem cc_bipush_62 : (Int8.ofInt (62)).toInt32 = nI 62 := by decide +kernel
theorem cc_bipush_63 : (Int8.ofInt (63)).toInt32 = nI 63 := by decide +kernel
theorem cc_bipush_72 : (Int8.ofInt (72)).toInt32 = nI 72 := by decide +kernel
theorem cc_bipush_81 : (Int8.ofInt (81)).toInt32 = nI 81 := by decide +kernel
theorem cc_bipush_97 : (Int8.ofInt (97)).toInt32 = nI 97 := by decide +kernel
theorem cc_bipush_98 : (Int8.ofInt (98)).toInt32 = nI 98 := by decide +kernel
theorem cc_bipush_99 : (Int8.ofInt (99)).toInt32 = nI 99 := by decide +kernel
theorem cc_bipush_100 : (Int8.ofInt (100)).toInt32 = nI 100 := by decide +kernel
theorem cc_bipush_101 : (Int8.ofInt (101)).toInt32 = nI 101 := by decide +kernel
theorem cc_bipush_102 : (Int8.ofInt (102)).toInt32 = nI 102 := by decide +kernel
theorem cc_bipush_103 : (Int8.ofInt (103)).toInt32 = nI 103 := by decide +kernel
theorem cc_bipush_104 : (Int8.ofInt (104)).toInt32 = nI 104 := by decide +kernel
theorem cc_bipush_105 : (Int8.ofInt (105)).toInt32 = nI 105 := by decide +kernel
theorem cc_bipush_107 : (Int8.ofInt (107)).toInt32 = nI 107 := by decide +kernel
theorem cc_bipush_108 : (Int8.ofInt (108)).toInt32 = nI 108 := by decide +kernel
theorem cc_bipush_109 : (Int8.ofInt (109)).toInt32 = nI 109 := by decide +kernel
theorem cc_bipush_110 : (Int8.ofInt (110)).toInt32 = nI 110 := by decide +kernel
theorem cc_bipush_111 : (Int8.ofInt (111)).toInt32 = nI 111 := by decide +kernel
theorem cc_bipush_112 : (Int8.ofInt (112)).toInt32 = nI 112 := by decide +kernel
theorem cc_bipush_114 : (Int8.ofInt (114)).toInt32 = nI 114 := by decide +kernel
theorem cc_bipush_115 : (Int8.ofInt (115)).toInt32 = nI 115 := by decide +kernel
theorem cc_bipush_116 : (Int8.ofInt (116)).toInt32 = nI 116 := by decide +kernel
theorem cc_bipush_117 : (Int8.ofInt (117)).toInt32 = nI 117 := by decide +kernel
theorem cc_bipush_119 : (Int8.ofInt (119)).toInt32 = nI 119 := by decide +kernel
theorem cc_bipush_120 : (Int8.ofInt (120)).toInt32 = nI 120 := by decide +kernel
theorem cc_bipush_121 : (Int8.ofInt (121)).toInt32 = nI 121 := by decide +kernel
theorem cc_bipush_122 : (Int8.ofInt (122)).toInt32 = nI 122 := by decide +kernel
theorem cc_iconst_m1 : Int32.ofInt (-1) = nI 4294967295 := by decide +kernel
theorem cc_iconst_0 : Int32.ofInt (0) = nI 0 := by decide +kernel
theorem cc_iconst_1 : Int32.ofInt (1) = nI 1 := by decide +kernel
theorem cc_iconst_2 : Int32.ofInt (2) = nI 2 := by decide +kernel
theorem cc_iconst_3 : Int32.ofInt (3) = nI 3 := by decide +kernel
theorem cc_iconst_4 : Int32.ofInt (4) = nI 4 := by decide +kernel
theorem cc_iconst_5 : Int32.ofInt (5) = nI 5 := by decide +kernel
theorem cc_iconst_9 : Int32.ofInt (9) = nI 9 := by decide +kernel
theorem cc_sipush_128 : (Int16.ofInt (128)).toInt32 = nI 128 := by decide +kernel
theorem cc_sipush_160 : (Int16.ofInt (160)).toInt32 = nI 160 := by decide +kernel
theorem cc_sipush_200 : (Int16.ofInt (200)).toInt32 = nI 200 := by decide +kernel
theorem cc_sipush_220 : (Int16.ofInt (220)).toInt32 = nI 220 := by decide +kernel
theorem cc_sipush_255 : (Int16.ofInt (255)).toInt32 = nI 255 := by decide +kernel
theorem cc_sipush_578 : (Int16.ofInt (578)).toInt32 = nI 578 := by decide +kernel
theorem cc_sipush_600 : (Int16.ofInt (600)).toInt32 = nI 600 := by decide +kernel
theorem cc_sipush_999 : (Int16.ofInt (999)).toInt32 = nI 999 := by decide +kernel
theorem cc_sipush_9999 : (Int16.ofInt (9999)).toInt32 = nI 9999 := by decide +kernel
theorem cc_sipush_10000 : (Int16.ofInt (10000)).toInt32 = nI 10000 := by decide +kernel
theorem cc_sipush_10001 : (Int16.ofInt (10001)).toInt32 = nI 10001 := by decide +kernel
theorem cc_sipush_10002 : (Int16.ofInt (10002)).toInt32 = nI 10002 := by decide +kernel
theorem cc_sipush_10003 : (Int16.ofInt (10003)).toInt32 = nI 10003 := by decide +kernel
theorem cc_sipush_10004 : (Int16.ofInt (10004)).toInt32 = nI 10004 := by decide +kernel
theorem cc_sipush_12345 : (Int16.ofInt (12345)).toInt32 = nI 12345 := by decide +kernel
theorem cc_sipush_16383 : (Int16.ofInt (16383)).toInt32 = nI 16383 := by decide +kernel
