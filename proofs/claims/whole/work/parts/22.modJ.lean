/-! reports, lone riders, lots -/
/-- rows of the reference that are scratch: 114's own numbers apart, which are told by themselves -/
def mo_kr (a : Nat) : Bool := decide (a ≠ 114 ∧ (a < 117 ∨ a = 118 ∨ 125 ≤ a))
def mo_kf (k : Nat) : Bool := decide (k = 2 ∨ k = 5 ∨ k = 28 ∨ k = 36)
def mo_s2 (w w2 : ic_w) : Prop := (∀ a, mo_kr a = true → w2 a = w a) ∧ ∀ k, mo_kf k = true → w2 114 k = w 114 k
theorem mo_s2_rf (w : ic_w) : mo_s2 w w := ⟨fun _ _ => rfl, fun _ _ => rfl⟩
theorem mo_s2_tr {w u v : ic_w} (h : mo_s2 w u) (g : mo_s2 u v) : mo_s2 w v := ⟨fun a q => (g.1 a q).trans (h.1 a q), fun k q => (g.2 k q).trans (h.2 k q)⟩
theorem mo_s2_wu (w : ic_w) {o k v : Nat} (h : mo_kr o = false) (g : o = 114 → mo_kf k = false) : mo_s2 w (wu w o k v) := by
  refine ⟨fun a q => wu_row _ _ _ (fun z => by rw [z, h] at q; cases q), fun j q => ?_⟩
  by_cases z : o = 114
  · subst z
    exact wu_k _ _ _ _ (fun y => by rw [y, g rfl] at q; cases q)
  · exact wu_o _ _ _ _ (fun y => z y.symm)
theorem mo_s2_sc {w u : ic_w} (h : mo_sc w u) : mo_s2 w u := ⟨fun a q => h a (fun z => by rw [z] at q; revert q; decide) (fun z => by rw [z] at q; revert q; decide), fun k _ => by rw [h 114 (by omega) (by omega)]⟩
theorem mo_s2_115 {w u : ic_w} (h : mo_s2 w u) : u 115 = w 115 := h.1 115 (by decide)
/-- the reports keep to this -/
def Rp (s : Nat → Nat) : Prop := ∀ i, i < s 6 → s (104 + 4 * i) ≤ 15 ∧ s (105 + 4 * i) ≤ 1 ∧ s (106 + 4 * i) ≤ s (107 + 4 * i) ∧ s (107 + 4 * i) ≤ 99
def mo_rok (k a lo hi : Nat) : Prop := k ≤ 15 ∧ a ≤ 1 ∧ lo ≤ hi ∧ hi ≤ (if a = 0 then 5 else 99)
def mo_rep (s : Nat → Nat) (k a lo hi : Nat) : Nat → Nat := fu (fu (fu (fu (fu s (104 + 4 * s 6) k) (105 + 4 * s 6) a) (106 + 4 * s 6) lo) (107 + 4 * s 6) hi) 6 (s 6 + 1)
def mo_lp (kind p : Nat) : Nat → Nat
  | 0 => p
  | j + 1 => (mo_lp kind p j + mo_drifts kind j) % 6
def mo_ld (s : Nat → Nat) (kind d : Nat) : Nat → Nat
  | 0 => d
  | j + 1 => min 99 (mo_ld s kind d j + mo_sinks kind (s (56 + j)) 0)
theorem mo_lp_le (kind : Nat) {p : Nat} (hp : p ≤ 9) : ∀ j, mo_lp kind p j ≤ 9
  | 0 => hp
  | j + 1 => by
    rw [mo_lp]
    omega
theorem mo_ld_le (s : Nat → Nat) (kind : Nat) {d : Nat} (hd : d ≤ 99) : ∀ j, mo_ld s kind d j ≤ 99
  | 0 => hd
  | j + 1 => Nat.min_le_left _ _
def mo_rv (s : Nat → Nat) (kind p d i : Nat) : Nat := if s (105 + 4 * i) = 0 then mo_lp kind p (s (104 + 4 * i)) else mo_ld s kind d (s (104 + 4 * i))
def mo_ft (s : Nat → Nat) (kind p d but : Nat) : Nat → Bool
  | 0 => true
  | n + 1 => mo_ft s kind p d but n && decide (n = but ∨ (s (106 + 4 * n) ≤ mo_rv s kind p d n ∧ mo_rv s kind p d n ≤ s (107 + 4 * n)))
/-- the lone rider told by a number of three digits fits, but for one report -/
def mo_lf (s : Nat → Nat) (but k : Nat) : Bool := decide (k / 10 % 10 < 6) && mo_ft s (k / 100) (k / 10 % 10) (k % 10 * 9) but (s 6)
def mo_lfs (s : Nat → Nat) (but : Nat) : Nat := mo_cnt (fun i => mo_lf s but (100 + i)) 500
def mo_fst (P : Nat → Bool) : Nat → Nat
  | 0 => 4294967293
  | n + 1 => if mo_cnt P n = 0 ∧ P n = true then 100 + n else mo_fst P n
def mo_lf1 (s : Nat → Nat) (but : Nat) : Nat := mo_fst (fun i => mo_lf s but (100 + i)) 500
theorem mo_fst_le (P : Nat → Bool) : ∀ n, n ≤ 500 → mo_cnt P n ≠ 0 → 100 ≤ mo_fst P n ∧ mo_fst P n < 600
  | 0, _, h => absurd rfl h
  | n + 1, hn, h => by
    rw [mo_fst]
    split
    · omega
    · rename_i q
      refine mo_fst_le P n (by omega) (fun z => ?_)
      by_cases y : P n = true
      · exact q ⟨z, y⟩
      · rw [mo_cnt_f (by simpa using y)] at h
        exact h z
def mo_lone (s : Nat → Nat) (k : Nat) : Nat := if k = 0 then mo_lfs s 4294967295 else if mo_lfs s 4294967295 = 0 then 4294967293 else if k = 1 then mo_lf1 s 4294967295 / 100 else if k = 2 then mo_lf1 s 4294967295 / 10 % 10 else mo_lf1 s 4294967295 % 10 * 9
/-- the least report, from i on, of n, but for which some fit -/
def mo_liN (s : Nat → Nat) : Nat → Nat → Nat
  | 0, _ => 4294967293
  | n + 1, i => if 0 < mo_lfs s i then i else mo_liN s n (i + 1)
def mo_liar (s : Nat → Nat) : Nat := if mo_lfs s 4294967295 = 0 then mo_liN s (s 6) 0 else 4294967293

def mo_rt (a : Nat) : Nat := if a = 0 then 5 else 99
set_option maxHeartbeats 4000000 in
set_option maxRecDepth 100000 in
theorem cM_report {l : Launch} {E : ic_E} {w : ic_w} {k : Nat} (hk_ : k < 2 ^ 32) {a : Nat} (ha_ : a < 2 ^ 32) {lo : Nat} (hlo_ : lo < 2 ^ 32) {hi : Nat} (hhi_ : hi < 2 ^ 32) (hI : In (w 115)) : ic_C l E mX12_report 3 0 0 False [ic_pt E 114, .int (nI k), .int (nI a), .int (nI lo), .int (nI hi)] SHs (hn w) SHs (ic_qr (if (k ≤ 15 ∧ a ≤ 1 ∧ lo ≤ hi ∧ hi ≤ mo_rt a) then (if w 115 6 = 6 then 4294967294 else w 115 6) else 4294967295) w (if (k ≤ 15 ∧ a ≤ 1 ∧ lo ≤ hi ∧ hi ≤ mo_rt a) ∧ w 115 6 < 6 then mo_rep (w 115) k a lo hi else w 115)) := by
  refine ic_intro (by decide +kernel) (Nat.le_of_ble_eq_true rfl) ?_
  show xx l E _ _ 0 [(0, ic_pt E 114), (1, .int (nI k)), (2, .int (nI a)), (3, .int (nI lo)), (4, .int (nI hi))] _ _ _
  have hc6 := hI.2.2.1
  refine xx_iload_n (pc := 0) dX12_report_0 2 rfl rfl ?_
  refine xx_if_neN (pc := 1) 8 dX12_report_1 rfl (by omega) (fun c1 => ?_) (fun c1 => ?_)
  · have hrt : mo_rt a = 99 := by unfold mo_rt; rw [if_neg (by omega)]
    refine xx_bipush (pc := 8) dX12_report_8 cc_bipush_99 ?_
    refine xx_istore (L' := [(5, .int (nI 99)), (0, ic_pt E 114), (1, .int (nI k)), (2, .int (nI a)), (3, .int (nI lo)), (4, .int (nI hi))]) (pc := 10) dX12_report_10 (Nat.le_of_ble_eq_true rfl) rfl ?_
    refine xx_iload_n (pc := 12) dX12_report_12 2 rfl rfl ?_
    refine xx_i2l (pc := 13) dX12_report_13 ?_
    refine xx_lconst (v := 0) (pc := 14) dX12_report_14 rfl ?_
    refine xx_ldc2 (v := 15) (pc := 15) dX12_report_15 oX12_136 ?_
    refine xx_callS0 (pc := 18) (st := []) (cM_isIn (0 ≤ k ∧ k ≤ 15) (ll_in (lo := 0) (hi := 15) (by omega) (by decide) (by decide) (by omega))) kX12_isIn sX12_66 dX12_report_18 rfl rfl (Nat.le_of_ble_eq_true rfl) ⟨Nat.le_of_ble_eq_true rfl, Nat.le_of_ble_eq_true rfl⟩ ⟨Nat.zero_le _, Nat.zero_le _⟩ (ic_ke ?_)
    refine xx_if_eqB (pc := 21) 60 dX12_report_21 rfl (fun c2 => ?_) (fun c2 => ?_)
    · refine xx_iconst (pc := 60) dX12_report_60 cc_iconst_m1 ?_
      exact xx_iret (pc := 61) dX12_report_61 rfl (rfl) (Nat.le_refl _) (Nat.le_refl _) (ic_rr (if_neg (by omega)).symm (by rw [if_neg (by omega), wr_id]))
    · refine xx_iload_n (pc := 24) dX12_report_24 3 rfl rfl ?_
      refine xx_i2l (pc := 25) dX12_report_25 ?_
      refine xx_lconst (v := 0) (pc := 26) dX12_report_26 rfl ?_
      refine xx_lconst (v := 1) (pc := 27) dX12_report_27 rfl ?_
      refine xx_callS0 (pc := 28) (st := []) (cM_isIn (0 ≤ a ∧ a ≤ 1) (ll_in (lo := 0) (hi := 1) (by omega) (by decide) (by decide) (by omega))) kX12_isIn sX12_66 dX12_report_28 rfl rfl (Nat.le_of_ble_eq_true rfl) ⟨Nat.le_of_ble_eq_true rfl, Nat.le_of_ble_eq_true rfl⟩ ⟨Nat.zero_le _, Nat.zero_le _⟩ (ic_ke ?_)
      refine xx_if_eqB (pc := 31) 60 dX12_report_31 rfl (fun c3 => ?_) (fun c3 => ?_)
      · refine xx_iconst (pc := 60) dX12_report_60 cc_iconst_m1 ?_
        exact xx_iret (pc := 61) dX12_report_61 rfl (rfl) (Nat.le_refl _) (Nat.le_refl _) (ic_rr (if_neg (by omega)).symm (by rw [if_neg (by omega), wr_id]))
      · refine xx_iload_n (pc := 34) dX12_report_34 4 rfl rfl ?_
        refine xx_i2l (pc := 35) dX12_report_35 ?_
        refine xx_lconst (v := 0) (pc := 36) dX12_report_36 rfl ?_
        refine xx_iload (pc := 37) dX12_report_37 0 rfl ?_
        refine xx_i2l (pc := 39) dX12_report_39 ?_
        refine xx_callS0 (pc := 40) (st := []) (cM_isIn (0 ≤ lo ∧ lo ≤ 99) (ll_in (lo := 0) (hi := 99) (by omega) (by decide) (ll_nn (by omega)) (by omega))) kX12_isIn sX12_66 dX12_report_40 rfl rfl (Nat.le_of_ble_eq_true rfl) ⟨Nat.le_of_ble_eq_true rfl, Nat.le_of_ble_eq_true rfl⟩ ⟨Nat.zero_le _, Nat.zero_le _⟩ (ic_ke ?_)
        refine xx_if_eqB (pc := 43) 60 dX12_report_43 rfl (fun c4 => ?_) (fun c4 => ?_)
        · refine xx_iconst (pc := 60) dX12_report_60 cc_iconst_m1 ?_
          exact xx_iret (pc := 61) dX12_report_61 rfl (rfl) (Nat.le_refl _) (Nat.le_refl _) (ic_rr (if_neg (by omega)).symm (by rw [if_neg (by omega), wr_id]))
        · refine xx_iload (pc := 46) dX12_report_46 5 rfl ?_
          refine xx_i2l (pc := 48) dX12_report_48 ?_
          refine xx_iload_n (pc := 49) dX12_report_49 4 rfl rfl ?_
          refine xx_i2l (pc := 50) dX12_report_50 ?_
          refine xx_iload (pc := 51) dX12_report_51 0 rfl ?_
          refine xx_i2l (pc := 53) dX12_report_53 ?_
          refine xx_callS0 (pc := 54) (st := []) (cM_isIn (lo ≤ hi ∧ hi ≤ 99) (ll_in (lo := lo) (hi := 99) (by omega) (ll_nn (by omega)) (ll_nn (by omega)) (by omega))) kX12_isIn sX12_66 dX12_report_54 rfl rfl (Nat.le_of_ble_eq_true rfl) ⟨Nat.le_of_ble_eq_true rfl, Nat.le_of_ble_eq_true rfl⟩ ⟨Nat.zero_le _, Nat.zero_le _⟩ (ic_ke ?_)
          refine xx_if_neB (pc := 57) 62 dX12_report_57 rfl (fun c5 => ?_) (fun c5 => ?_)
          · refine xx_aload_nP (pc := 62) dX12_report_62 1 rfl rfl ?_
            refine xx_getR (pc := 63) 115 dX12_report_63 sh_114 fX12_7_12 rfl rfl (by decide) ?_
            refine xx_bipush (pc := 66) dX12_report_66 cc_bipush_6 ?_
            refine xx_ialdN (pc := 68) dX12_report_68 sh_115 (by omega) (by decide) ?_
            refine xx_bipush (pc := 69) dX12_report_69 cc_bipush_6 ?_
            refine xx_icmp_neN (pc := 71) 77 dX12_report_71 rfl (by omega) (by omega) (fun c6 => ?_) (fun c6 => ?_)
            · refine xx_bipush (pc := 77) dX12_report_77 cc_bipush_104 ?_
              refine xx_iconst (pc := 79) dX12_report_79 cc_iconst_4 ?_
              refine xx_aload_nP (pc := 80) dX12_report_80 1 rfl rfl ?_
              refine xx_getR (pc := 81) 115 dX12_report_81 sh_114 fX12_7_12 rfl rfl (by decide) ?_
              refine xx_bipush (pc := 84) dX12_report_84 cc_bipush_6 ?_
              refine xx_ialdN (pc := 86) dX12_report_86 sh_115 (by omega) (by decide) ?_
              refine xx_imulN (pc := 87) dX12_report_87 ?_
              refine xx_iaddN (pc := 88) dX12_report_88 ?_
              refine xx_istore (L' := [(6, .int (nI (104 + (4 * (w 115 6))))), (5, .int (nI 99)), (0, ic_pt E 114), (1, .int (nI k)), (2, .int (nI a)), (3, .int (nI lo)), (4, .int (nI hi))]) (pc := 89) dX12_report_89 (Nat.le_of_ble_eq_true rfl) rfl ?_
              refine xx_aload_nP (pc := 91) dX12_report_91 2 rfl rfl ?_
              refine xx_getR (pc := 92) 115 dX12_report_92 sh_114 fX12_7_12 rfl rfl (by decide) ?_
              refine xx_iload (pc := 95) dX12_report_95 0 rfl ?_
              refine xx_iload_n (pc := 97) dX12_report_97 3 rfl rfl ?_
              refine xx_iastE (j2 := 104 + 4 * w 115 6) (pc := 98) dX12_report_98 sh_115 (by omega) (by omega) (by decide) ?_
              refine xx_nw (fun w7 ew7 => ?_)
              have zw7 : w7 115 6 = w 115 6 := by rw [ew7, wu_k _ _ _ _ (by omega)]
              refine xx_aload_nP (pc := 99) dX12_report_99 2 rfl rfl ?_
              refine xx_getR (pc := 100) 115 dX12_report_100 sh_114 fX12_7_12 rfl rfl (by decide) ?_
              refine xx_iload (pc := 103) dX12_report_103 0 rfl ?_
              refine xx_iconst (pc := 105) dX12_report_105 cc_iconst_1 ?_
              refine xx_iaddN (pc := 106) dX12_report_106 ?_
              refine xx_iload_n (pc := 107) dX12_report_107 4 rfl rfl ?_
              refine xx_iastE (j2 := 105 + 4 * w 115 6) (pc := 108) dX12_report_108 sh_115 (by omega) (by omega) (by decide) ?_
              refine xx_nw (fun w8 ew8 => ?_)
              have zw8 : w8 115 6 = w 115 6 := by rw [ew8, wu_k _ _ _ _ (by omega)]; exact zw7
              refine xx_aload_nP (pc := 109) dX12_report_109 2 rfl rfl ?_
              refine xx_getR (pc := 110) 115 dX12_report_110 sh_114 fX12_7_12 rfl rfl (by decide) ?_
              refine xx_iload (pc := 113) dX12_report_113 0 rfl ?_
              refine xx_iconst (pc := 115) dX12_report_115 cc_iconst_2 ?_
              refine xx_iaddN (pc := 116) dX12_report_116 ?_
              refine xx_iload_n (pc := 117) dX12_report_117 5 rfl rfl ?_
              refine xx_iastE (j2 := 106 + 4 * w 115 6) (pc := 118) dX12_report_118 sh_115 (by omega) (by omega) (by decide) ?_
              refine xx_nw (fun w9 ew9 => ?_)
              have zw9 : w9 115 6 = w 115 6 := by rw [ew9, wu_k _ _ _ _ (by omega)]; exact zw8
              refine xx_aload_nP (pc := 119) dX12_report_119 2 rfl rfl ?_
              refine xx_getR (pc := 120) 115 dX12_report_120 sh_114 fX12_7_12 rfl rfl (by decide) ?_
              refine xx_iload (pc := 123) dX12_report_123 0 rfl ?_
              refine xx_iconst (pc := 125) dX12_report_125 cc_iconst_3 ?_
              refine xx_iaddN (pc := 126) dX12_report_126 ?_
              refine xx_iload (pc := 127) dX12_report_127 6 rfl ?_
              refine xx_iastE (j2 := 107 + 4 * w 115 6) (pc := 129) dX12_report_129 sh_115 (by omega) (by omega) (by decide) ?_
              refine xx_nw (fun w10 ew10 => ?_)
              have zw10 : w10 115 6 = w 115 6 := by rw [ew10, wu_k _ _ _ _ (by omega)]; exact zw9
              refine xx_aload_nP (pc := 130) dX12_report_130 2 rfl rfl ?_
              refine xx_getR (pc := 131) 115 dX12_report_131 sh_114 fX12_7_12 rfl rfl (by decide) ?_
              refine xx_bipush (pc := 134) dX12_report_134 cc_bipush_6 ?_
              refine xx_dup2 (pc := 136) dX12_report_136 rfl rfl ?_
              refine xx_ialdN (pc := 137) dX12_report_137 sh_115 (by omega) (by decide) ?_
              refine xx_iconst (pc := 138) dX12_report_138 cc_iconst_1 ?_
              refine xx_iaddN (pc := 139) dX12_report_139 ?_
              refine xx_iastN (pc := 140) dX12_report_140 sh_115 (by omega) (by decide) ?_
              refine xx_nw (fun w11 ew11 => ?_)
              have zw11 : w11 115 6 = w 115 6 + 1 := by rw [ew11, wu_s, zw10]
              refine xx_aload_nP (pc := 141) dX12_report_141 2 rfl rfl ?_
              refine xx_getR (pc := 142) 115 dX12_report_142 sh_114 fX12_7_12 rfl rfl (by decide) ?_
              refine xx_bipush (pc := 145) dX12_report_145 cc_bipush_6 ?_
              refine xx_ialdN (pc := 147) dX12_report_147 sh_115 (by omega) (by decide) ?_
              refine xx_iconst (pc := 148) dX12_report_148 cc_iconst_1 ?_
              refine xx_isubN (pc := 149) dX12_report_149 (by omega) ?_
              exact xx_iret (pc := 150) dX12_report_150 rfl (rfl) (Nat.le_refl _) (Nat.le_refl _) (ic_rr (by rw [if_pos (by omega), if_neg (by omega), zw11]; omega) (by rw [if_pos (by omega), ew11, zw10, ew10, ew9, ew8, ew7]; simp only [wu_wr, wr_s, wr_wr]; rfl))
            · refine xx_bipush (pc := 74) dX12_report_74 cc_bipush_m2 ?_
              exact xx_iret (pc := 76) dX12_report_76 rfl (rfl) (Nat.le_refl _) (Nat.le_refl _) (ic_rr (by rw [if_pos (by omega), if_pos (by omega)]) (by rw [if_neg (by omega), wr_id]))
          · refine xx_iconst (pc := 60) dX12_report_60 cc_iconst_m1 ?_
            exact xx_iret (pc := 61) dX12_report_61 rfl (rfl) (Nat.le_refl _) (Nat.le_refl _) (ic_rr (if_neg (by omega)).symm (by rw [if_neg (by omega), wr_id]))
  · have hrt : mo_rt a = 5 := by unfold mo_rt; rw [if_pos (by omega)]
    refine xx_iconst (pc := 4) dX12_report_4 cc_iconst_5 ?_
    refine xx_goto (pc := 5) 10 dX12_report_5 rfl ?_
    refine xx_istore (L' := [(5, .int (nI 5)), (0, ic_pt E 114), (1, .int (nI k)), (2, .int (nI a)), (3, .int (nI lo)), (4, .int (nI hi))]) (pc := 10) dX12_report_10 (Nat.le_of_ble_eq_true rfl) rfl ?_
    refine xx_iload_n (pc := 12) dX12_report_12 2 rfl rfl ?_
    refine xx_i2l (pc := 13) dX12_report_13 ?_
    refine xx_lconst (v := 0) (pc := 14) dX12_report_14 rfl ?_
    refine xx_ldc2 (v := 15) (pc := 15) dX12_report_15 oX12_136 ?_
    refine xx_callS0 (pc := 18) (st := []) (cM_isIn (0 ≤ k ∧ k ≤ 15) (ll_in (lo := 0) (hi := 15) (by omega) (by decide) (by decide) (by omega))) kX12_isIn sX12_66 dX12_report_18 rfl rfl (Nat.le_of_ble_eq_true rfl) ⟨Nat.le_of_ble_eq_true rfl, Nat.le_of_ble_eq_true rfl⟩ ⟨Nat.zero_le _, Nat.zero_le _⟩ (ic_ke ?_)
    refine xx_if_eqB (pc := 21) 60 dX12_report_21 rfl (fun c12 => ?_) (fun c12 => ?_)
    · refine xx_iconst (pc := 60) dX12_report_60 cc_iconst_m1 ?_
      exact xx_iret (pc := 61) dX12_report_61 rfl (rfl) (Nat.le_refl _) (Nat.le_refl _) (ic_rr (if_neg (by omega)).symm (by rw [if_neg (by omega), wr_id]))
    · refine xx_iload_n (pc := 24) dX12_report_24 3 rfl rfl ?_
      refine xx_i2l (pc := 25) dX12_report_25 ?_
      refine xx_lconst (v := 0) (pc := 26) dX12_report_26 rfl ?_
      refine xx_lconst (v := 1) (pc := 27) dX12_report_27 rfl ?_
      refine xx_callS0 (pc := 28) (st := []) (cM_isIn (0 ≤ a ∧ a ≤ 1) (ll_in (lo := 0) (hi := 1) (by omega) (by decide) (by decide) (by omega))) kX12_isIn sX12_66 dX12_report_28 rfl rfl (Nat.le_of_ble_eq_true rfl) ⟨Nat.le_of_ble_eq_true rfl, Nat.le_of_ble_eq_true rfl⟩ ⟨Nat.zero_le _, Nat.zero_le _⟩ (ic_ke ?_)
      refine xx_if_eqB (pc := 31) 60 dX12_report_31 rfl (fun c13 => ?_) (fun c13 => ?_)
      · refine xx_iconst (pc := 60) dX12_report_60 cc_iconst_m1 ?_
        exact xx_iret (pc := 61) dX12_report_61 rfl (rfl) (Nat.le_refl _) (Nat.le_refl _) (ic_rr (if_neg (by omega)).symm (by rw [if_neg (by omega), wr_id]))
      · refine xx_iload_n (pc := 34) dX12_report_34 4 rfl rfl ?_
        refine xx_i2l (pc := 35) dX12_report_35 ?_
        refine xx_lconst (v := 0) (pc := 36) dX12_report_36 rfl ?_
        refine xx_iload (pc := 37) dX12_report_37 0 rfl ?_
        refine xx_i2l (pc := 39) dX12_report_39 ?_
        refine xx_callS0 (pc := 40) (st := []) (cM_isIn (0 ≤ lo ∧ lo ≤ 5) (ll_in (lo := 0) (hi := 5) (by omega) (by decide) (ll_nn (by omega)) (by omega))) kX12_isIn sX12_66 dX12_report_40 rfl rfl (Nat.le_of_ble_eq_true rfl) ⟨Nat.le_of_ble_eq_true rfl, Nat.le_of_ble_eq_true rfl⟩ ⟨Nat.zero_le _, Nat.zero_le _⟩ (ic_ke ?_)
        refine xx_if_eqB (pc := 43) 60 dX12_report_43 rfl (fun c14 => ?_) (fun c14 => ?_)
        · refine xx_iconst (pc := 60) dX12_report_60 cc_iconst_m1 ?_
          exact xx_iret (pc := 61) dX12_report_61 rfl (rfl) (Nat.le_refl _) (Nat.le_refl _) (ic_rr (if_neg (by omega)).symm (by rw [if_neg (by omega), wr_id]))
        · refine xx_iload (pc := 46) dX12_report_46 5 rfl ?_
          refine xx_i2l (pc := 48) dX12_report_48 ?_
          refine xx_iload_n (pc := 49) dX12_report_49 4 rfl rfl ?_
          refine xx_i2l (pc := 50) dX12_report_50 ?_
          refine xx_iload (pc := 51) dX12_report_51 0 rfl ?_
          refine xx_i2l (pc := 53) dX12_report_53 ?_
          refine xx_callS0 (pc := 54) (st := []) (cM_isIn (lo ≤ hi ∧ hi ≤ 5) (ll_in (lo := lo) (hi := 5) (by omega) (ll_nn (by omega)) (ll_nn (by omega)) (by omega))) kX12_isIn sX12_66 dX12_report_54 rfl rfl (Nat.le_of_ble_eq_true rfl) ⟨Nat.le_of_ble_eq_true rfl, Nat.le_of_ble_eq_true rfl⟩ ⟨Nat.zero_le _, Nat.zero_le _⟩ (ic_ke ?_)
          refine xx_if_neB (pc := 57) 62 dX12_report_57 rfl (fun c15 => ?_) (fun c15 => ?_)
          · refine xx_aload_nP (pc := 62) dX12_report_62 1 rfl rfl ?_
            refine xx_getR (pc := 63) 115 dX12_report_63 sh_114 fX12_7_12 rfl rfl (by decide) ?_
            refine xx_bipush (pc := 66) dX12_report_66 cc_bipush_6 ?_
            refine xx_ialdN (pc := 68) dX12_report_68 sh_115 (by omega) (by decide) ?_
            refine xx_bipush (pc := 69) dX12_report_69 cc_bipush_6 ?_
            refine xx_icmp_neN (pc := 71) 77 dX12_report_71 rfl (by omega) (by omega) (fun c16 => ?_) (fun c16 => ?_)
            · refine xx_bipush (pc := 77) dX12_report_77 cc_bipush_104 ?_
              refine xx_iconst (pc := 79) dX12_report_79 cc_iconst_4 ?_
              refine xx_aload_nP (pc := 80) dX12_report_80 1 rfl rfl ?_
              refine xx_getR (pc := 81) 115 dX12_report_81 sh_114 fX12_7_12 rfl rfl (by decide) ?_
              refine xx_bipush (pc := 84) dX12_report_84 cc_bipush_6 ?_
              refine xx_ialdN (pc := 86) dX12_report_86 sh_115 (by omega) (by decide) ?_
              refine xx_imulN (pc := 87) dX12_report_87 ?_
              refine xx_iaddN (pc := 88) dX12_report_88 ?_
              refine xx_istore (L' := [(6, .int (nI (104 + (4 * (w 115 6))))), (5, .int (nI 5)), (0, ic_pt E 114), (1, .int (nI k)), (2, .int (nI a)), (3, .int (nI lo)), (4, .int (nI hi))]) (pc := 89) dX12_report_89 (Nat.le_of_ble_eq_true rfl) rfl ?_
              refine xx_aload_nP (pc := 91) dX12_report_91 2 rfl rfl ?_
              refine xx_getR (pc := 92) 115 dX12_report_92 sh_114 fX12_7_12 rfl rfl (by decide) ?_
              refine xx_iload (pc := 95) dX12_report_95 0 rfl ?_
              refine xx_iload_n (pc := 97) dX12_report_97 3 rfl rfl ?_
              refine xx_iastE (j2 := 104 + 4 * w 115 6) (pc := 98) dX12_report_98 sh_115 (by omega) (by omega) (by decide) ?_
              refine xx_nw (fun w17 ew17 => ?_)
              have zw17 : w17 115 6 = w 115 6 := by rw [ew17, wu_k _ _ _ _ (by omega)]
              refine xx_aload_nP (pc := 99) dX12_report_99 2 rfl rfl ?_
              refine xx_getR (pc := 100) 115 dX12_report_100 sh_114 fX12_7_12 rfl rfl (by decide) ?_
              refine xx_iload (pc := 103) dX12_report_103 0 rfl ?_
              refine xx_iconst (pc := 105) dX12_report_105 cc_iconst_1 ?_
              refine xx_iaddN (pc := 106) dX12_report_106 ?_
              refine xx_iload_n (pc := 107) dX12_report_107 4 rfl rfl ?_
              refine xx_iastE (j2 := 105 + 4 * w 115 6) (pc := 108) dX12_report_108 sh_115 (by omega) (by omega) (by decide) ?_
              refine xx_nw (fun w18 ew18 => ?_)
              have zw18 : w18 115 6 = w 115 6 := by rw [ew18, wu_k _ _ _ _ (by omega)]; exact zw17
              refine xx_aload_nP (pc := 109) dX12_report_109 2 rfl rfl ?_
              refine xx_getR (pc := 110) 115 dX12_report_110 sh_114 fX12_7_12 rfl rfl (by decide) ?_
              refine xx_iload (pc := 113) dX12_report_113 0 rfl ?_
              refine xx_iconst (pc := 115) dX12_report_115 cc_iconst_2 ?_
              refine xx_iaddN (pc := 116) dX12_report_116 ?_
              refine xx_iload_n (pc := 117) dX12_report_117 5 rfl rfl ?_
              refine xx_iastE (j2 := 106 + 4 * w 115 6) (pc := 118) dX12_report_118 sh_115 (by omega) (by omega) (by decide) ?_
              refine xx_nw (fun w19 ew19 => ?_)
              have zw19 : w19 115 6 = w 115 6 := by rw [ew19, wu_k _ _ _ _ (by omega)]; exact zw18
              refine xx_aload_nP (pc := 119) dX12_report_119 2 rfl rfl ?_
              refine xx_getR (pc := 120) 115 dX12_report_120 sh_114 fX12_7_12 rfl rfl (by decide) ?_
              refine xx_iload (pc := 123) dX12_report_123 0 rfl ?_
              refine xx_iconst (pc := 125) dX12_report_125 cc_iconst_3 ?_
              refine xx_iaddN (pc := 126) dX12_report_126 ?_
              refine xx_iload (pc := 127) dX12_report_127 6 rfl ?_
              refine xx_iastE (j2 := 107 + 4 * w 115 6) (pc := 129) dX12_report_129 sh_115 (by omega) (by omega) (by decide) ?_
              refine xx_nw (fun w20 ew20 => ?_)
              have zw20 : w20 115 6 = w 115 6 := by rw [ew20, wu_k _ _ _ _ (by omega)]; exact zw19
              refine xx_aload_nP (pc := 130) dX12_report_130 2 rfl rfl ?_
              refine xx_getR (pc := 131) 115 dX12_report_131 sh_114 fX12_7_12 rfl rfl (by decide) ?_
              refine xx_bipush (pc := 134) dX12_report_134 cc_bipush_6 ?_
              refine xx_dup2 (pc := 136) dX12_report_136 rfl rfl ?_
              refine xx_ialdN (pc := 137) dX12_report_137 sh_115 (by omega) (by decide) ?_
              refine xx_iconst (pc := 138) dX12_report_138 cc_iconst_1 ?_
              refine xx_iaddN (pc := 139) dX12_report_139 ?_
              refine xx_iastN (pc := 140) dX12_report_140 sh_115 (by omega) (by decide) ?_
              refine xx_nw (fun w21 ew21 => ?_)
              have zw21 : w21 115 6 = w 115 6 + 1 := by rw [ew21, wu_s, zw20]
              refine xx_aload_nP (pc := 141) dX12_report_141 2 rfl rfl ?_
              refine xx_getR (pc := 142) 115 dX12_report_142 sh_114 fX12_7_12 rfl rfl (by decide) ?_
              refine xx_bipush (pc := 145) dX12_report_145 cc_bipush_6 ?_
              refine xx_ialdN (pc := 147) dX12_report_147 sh_115 (by omega) (by decide) ?_
              refine xx_iconst (pc := 148) dX12_report_148 cc_iconst_1 ?_
              refine xx_isubN (pc := 149) dX12_report_149 (by omega) ?_
              exact xx_iret (pc := 150) dX12_report_150 rfl (rfl) (Nat.le_refl _) (Nat.le_refl _) (ic_rr (by rw [if_pos (by omega), if_neg (by omega), zw21]; omega) (by rw [if_pos (by omega), ew21, zw20, ew20, ew19, ew18, ew17]; simp only [wu_wr, wr_s, wr_wr]; rfl))
            · refine xx_bipush (pc := 74) dX12_report_74 cc_bipush_m2 ?_
              exact xx_iret (pc := 76) dX12_report_76 rfl (rfl) (Nat.le_refl _) (Nat.le_refl _) (ic_rr (by rw [if_pos (by omega), if_pos (by omega)]) (by rw [if_neg (by omega), wr_id]))
          · refine xx_iconst (pc := 60) dX12_report_60 cc_iconst_m1 ?_
            exact xx_iret (pc := 61) dX12_report_61 rfl (rfl) (Nat.le_refl _) (Nat.le_refl _) (ic_rr (if_neg (by omega)).symm (by rw [if_neg (by omega), wr_id]))

set_option maxHeartbeats 4000000 in
set_option maxRecDepth 100000 in
theorem cM_forget {l : Launch} {E : ic_E} {w : ic_w}  : ic_C l E mX12_forget 2 0 0 False [ic_pt E 114] SHs (hn w) SHs (ic_qr (w 115 6) w (fu (w 115) 6 0)) := by
  refine ic_intro (by decide +kernel) (Nat.le_of_ble_eq_true rfl) ?_
  show xx l E _ _ 0 [(0, ic_pt E 114)] _ _ _
  refine xx_aload_nP (pc := 0) dX12_forget_0 0 rfl rfl ?_
  refine xx_bipush (pc := 1) dX12_forget_1 cc_bipush_6 ?_
  refine xx_iconst (pc := 3) dX12_forget_3 cc_iconst_0 ?_
  refine xx_callV0 (pc := 4) (st := []) sh_114 (cM_becomes (w := w) (a := 6) (v := 0) (by omega)) kX12_becomes vX12_133_12 dX12_forget_4 rfl rfl (Nat.le_of_ble_eq_true rfl) ⟨Nat.le_of_ble_eq_true rfl, Nat.le_of_ble_eq_true rfl⟩ ⟨Nat.zero_le _, Nat.zero_le _⟩ (ic_ki (fun v2 h_ qw1 => ?_))
  obtain ⟨rfl, rfl⟩ := qw1
  refine xx_nw (fun w1 ew1 => ?_)
  exact xx_iret (pc := 7) dX12_forget_7 rfl (rfl) (Nat.le_refl _) (Nat.le_refl _) (ic_rr rfl ew1)

set_option maxHeartbeats 4000000 in
set_option maxRecDepth 100000 in
theorem cM_seed {l : Launch} {E : ic_E} {w : ic_w} {v : Nat} (hv_ : v < 2 ^ 32) : ic_C l E mX12_seed 2 0 0 False [ic_pt E 114, .int (nI v)] SHs (hn w) SHs (ic_qr (w 115 4) w (fu (w 115) 4 v)) := by
  refine ic_intro (by decide +kernel) (Nat.le_of_ble_eq_true rfl) ?_
  show xx l E _ _ 0 [(0, ic_pt E 114), (1, .int (nI v))] _ _ _
  refine xx_aload_nP (pc := 0) dX12_seed_0 0 rfl rfl ?_
  refine xx_iconst (pc := 1) dX12_seed_1 cc_iconst_4 ?_
  refine xx_iload_n (pc := 2) dX12_seed_2 1 rfl rfl ?_
  refine xx_callV0 (pc := 3) (st := []) sh_114 (cM_becomes (w := w) (a := 4) (v := v) (by omega)) kX12_becomes vX12_133_12 dX12_seed_3 rfl rfl (Nat.le_of_ble_eq_true rfl) ⟨Nat.le_of_ble_eq_true rfl, Nat.le_of_ble_eq_true rfl⟩ ⟨Nat.zero_le _, Nat.zero_le _⟩ (ic_ki (fun v2 h_ qw1 => ?_))
  obtain ⟨rfl, rfl⟩ := qw1
  refine xx_nw (fun w1 ew1 => ?_)
  exact xx_iret (pc := 6) dX12_seed_6 rfl (rfl) (Nat.le_refl _) (Nat.le_refl _) (ic_rr rfl ew1)

