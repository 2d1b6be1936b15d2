/-! reports, lone riders, lots -/
/-- rows of the reference that are scratch: 114's own numbers apart, which are told by themselves -/
def mo_kr (a : Nat) : Bool := decide (a ≠ 114 ∧ (a < 117 ∨ a = 118 ∨ 125 ≤ a))
def mo_kf (k : Nat) : Bool := decide (k = 2 ∨ k = 5 ∨ k = 28 ∨ k = 36)
def mo_s2 (w w2 : ic_w) : Prop := (∀ a, mo_kr a = true → w2 a = w a) ∧ ∀ k, mo_kf k = true → w2 114 k = w 114 k
theorem mo_s2_rf (w : ic_w) : mo_s2 w w := ⟨fun _ _ => rfl, fun _ _ => rfl⟩
theorem mo_s2_tr {w u v : ic_w} (h : mo_s2 w u) (g : mo_s2 u v) : mo_s2 w v := ⟨fun a q => (g.1 a q).trans (h.1 a q), fun k q => (g.2 k q).trans (h.2 k q)⟩
theorem mo_s2_wu (w : ic_w) {o k v : Nat} (h : mo_kr o = false) (g : o = 114 → mo_kf k = false) : mo_s2 w (wu w o k v) := by
  refine ⟨fun a q => wu_row _ _ _ (fun z => by rw [z, h] at q; cases q), fun j q => ?_⟩
  by_cases z : o = 114
  · subst z
    exact wu_k _ _ _ _ (fun y => by rw [y, g rfl] at q; cases q)
  · exact wu_o _ _ _ _ (fun y => z y.symm)
theorem mo_s2_u {w u : ic_w} {o k v : Nat} (e : u = wu w o k v) (h : mo_kr o = false) (g : o = 114 → mo_kf k = false) : mo_s2 w u := by
  rw [e]
  exact mo_s2_wu w h g
theorem mo_s2_sc {w u : ic_w} (h : mo_sc w u) : mo_s2 w u := ⟨fun a q => h a (fun z => by rw [z] at q; revert q; decide) (fun z => by rw [z] at q; revert q; decide), fun k _ => by rw [h 114 (by omega) (by omega)]⟩
theorem mo_s2_115 {w u : ic_w} (h : mo_s2 w u) : u 115 = w 115 := h.1 115 (by decide)
/-- the reports keep to this -/
def Rp (s : Nat → Nat) : Prop := ∀ i, i < s 6 → s (104 + 4 * i) ≤ 15 ∧ s (105 + 4 * i) ≤ 1 ∧ s (106 + 4 * i) ≤ s (107 + 4 * i) ∧ s (107 + 4 * i) ≤ 99
def mo_rok (k a lo hi : Nat) : Prop := k ≤ 15 ∧ a ≤ 1 ∧ lo ≤ hi ∧ hi ≤ (if a = 0 then 5 else 99)
def mo_rep (s : Nat → Nat) (k a lo hi : Nat) : Nat → Nat := fu (fu (fu (fu (fu s (104 + 4 * s 6) k) (105 + 4 * s 6) a) (106 + 4 * s 6) lo) (107 + 4 * s 6) hi) 6 (s 6 + 1)
def mo_lp (kind p : Nat) : Nat → Nat
  | 0 => p
  | j + 1 => (mo_lp kind p j + mo_drifts kind j) % 6
def mo_ld (s : Nat → Nat) (kind d : Nat) : Nat → Nat
  | 0 => d
  | j + 1 => min 99 (mo_ld s kind d j + mo_sinks kind (s (56 + j)) 0)
theorem mo_lp_le (kind : Nat) {p : Nat} (hp : p ≤ 9) : ∀ j, mo_lp kind p j ≤ 9
  | 0 => hp
  | j + 1 => by
    rw [mo_lp]
    omega
theorem mo_ld_le (s : Nat → Nat) (kind : Nat) {d : Nat} (hd : d ≤ 99) : ∀ j, mo_ld s kind d j ≤ 99
  | 0 => hd
  | j + 1 => Nat.min_le_left _ _
def mo_rv (s : Nat → Nat) (kind p d i : Nat) : Nat := if s (105 + 4 * i) = 0 then mo_lp kind p (s (104 + 4 * i)) else mo_ld s kind d (s (104 + 4 * i))
def mo_ft (s : Nat → Nat) (kind p d but : Nat) : Nat → Bool
  | 0 => true
  | n + 1 => mo_ft s kind p d but n && decide (n = but ∨ (s (106 + 4 * n) ≤ mo_rv s kind p d n ∧ mo_rv s kind p d n ≤ s (107 + 4 * n)))
/-- the lone rider told by a number of three digits fits, but for one report -/
def mo_lf (s : Nat → Nat) (but k : Nat) : Bool := decide (k / 10 % 10 < 6) && mo_ft s (k / 100) (k / 10 % 10) (k % 10 * 9) but (s 6)
def mo_lfs (s : Nat → Nat) (but : Nat) : Nat := mo_cnt (fun i => mo_lf s but (100 + i)) 500
def mo_fst (P : Nat → Bool) : Nat → Nat
  | 0 => 4294967293
  | n + 1 => if mo_cnt P n = 0 ∧ P n = true then 100 + n else mo_fst P n
def mo_lf1 (s : Nat → Nat) (but : Nat) : Nat := mo_fst (fun i => mo_lf s but (100 + i)) 500
theorem mo_fst_le (P : Nat → Bool) : ∀ n, n ≤ 500 → mo_cnt P n ≠ 0 → 100 ≤ mo_fst P n ∧ mo_fst P n < 600
  | 0, _, h => absurd rfl h
  | n + 1, hn, h => by
    rw [mo_fst]
    split
    · omega
    · rename_i q
      refine mo_fst_le P n (by omega) (fun z => ?_)
      by_cases y : P n = true
      · exact q ⟨z, y⟩
      · rw [mo_cnt_f (by simpa using y)] at h
        exact h z
def mo_lone (s : Nat → Nat) (k : Nat) : Nat := if k = 0 then mo_lfs s 4294967295 else if mo_lfs s 4294967295 = 0 then 4294967293 else if k = 1 then mo_lf1 s 4294967295 / 100 else if k = 2 then mo_lf1 s 4294967295 / 10 % 10 else mo_lf1 s 4294967295 % 10 * 9
/-- the least report, from i on, of n, but for which some fit -/
def mo_liN (s : Nat → Nat) : Nat → Nat → Nat
  | 0, _ => 4294967293
  | n + 1, i => if 0 < mo_lfs s i then i else mo_liN s n (i + 1)
def mo_liar (s : Nat → Nat) : Nat := if mo_lfs s 4294967295 = 0 then mo_liN s (s 6) 0 else 4294967293

def mo_rt (a : Nat) : Nat := if a = 0 then 5 else 99
set_option maxHeartbeats 4000000 in
set_option maxRecDepth 100000 in
theorem cM_report {l : Launch} {E : ic_E} {w : ic_w} {k : Nat} (hk_ : k < 2 ^ 32) {a : Nat} (ha_ : a < 2 ^ 32) {lo : Nat} (hlo_ : lo < 2 ^ 32) {hi : Nat} (hhi_ : hi < 2 ^ 32) (hI : In (w 115)) : ic_C l E mX12_report 3 0 0 False [ic_pt E 114, .int (nI k), .int (nI a), .int (nI lo), .int (nI hi)] SHs (hn w) SHs (ic_qr (if (k ≤ 15 ∧ a ≤ 1 ∧ lo ≤ hi ∧ hi ≤ mo_rt a) then (if w 115 6 = 6 then 4294967294 else w 115 6) else 4294967295) w (if (k ≤ 15 ∧ a ≤ 1 ∧ lo ≤ hi ∧ hi ≤ mo_rt a) ∧ w 115 6 < 6 then mo_rep (w 115) k a lo hi else w 115)) := by
  refine ic_intro (by decide +kernel) (Nat.le_of_ble_eq_true rfl) ?_
  show xx l E _ _ 0 [(0, ic_pt E 114), (1, .int (nI k)), (2, .int (nI a)), (3, .int (nI lo)), (4, .int (nI hi))] _ _ _
  have hc6 := hI.2.2.1
  refine xx_iload_n (pc := 0) dX12_report_0 2 rfl rfl ?_
  refine xx_if_neN (pc := 1) 8 dX12_report_1 rfl (by omega) (fun c1 => ?_) (fun c1 => ?_)
  · have hrt : mo_rt a = 99 := by unfold mo_rt; rw [if_neg (by omega)]
    refine xx_bipush (pc := 8) dX12_report_8 cc_bipush_99 ?_
    refine xx_istore (L' := [(5, .int (nI 99)), (0, ic_pt E 114), (1, .int (nI k)), (2, .int (nI a)), (3, .int (nI lo)), (4, .int (nI hi))]) (pc := 10) dX12_report_10 (Nat.le_of_ble_eq_true rfl) rfl ?_
    refine xx_iload_n (pc := 12) dX12_report_12 2 rfl rfl ?_
    refine xx_i2l (pc := 13) dX12_report_13 ?_
    refine xx_lconst (v := 0) (pc := 14) dX12_report_14 rfl ?_
    refine xx_ldc2 (v := 15) (pc := 15) dX12_report_15 oX12_136 ?_
    refine xx_callS0 (pc := 18) (st := []) (cM_isIn (0 ≤ k ∧ k ≤ 15) (ll_in (lo := 0) (hi := 15) (by omega) (by decide) (by decide) (by omega))) kX12_isIn sX12_66 dX12_report_18 rfl rfl (Nat.le_of_ble_eq_true rfl) ⟨Nat.le_of_ble_eq_true rfl, Nat.le_of_ble_eq_true rfl⟩ ⟨Nat.zero_le _, Nat.zero_le _⟩ (ic_ke ?_)
    refine xx_if_eqB (pc := 21) 60 dX12_report_21 rfl (fun c2 => ?_) (fun c2 => ?_)
    · refine xx_iconst (pc := 60) dX12_report_60 cc_iconst_m1 ?_
      exact xx_iret (pc := 61) dX12_report_61 rfl (rfl) (Nat.le_refl _) (Nat.le_refl _) (ic_rr (if_neg (by omega)).symm (by rw [if_neg (by omega), wr_id]))
    · refine xx_iload_n (pc := 24) dX12_report_24 3 rfl rfl ?_
      refine xx_i2l (pc := 25) dX12_report_25 ?_
      refine xx_lconst (v := 0) (pc := 26) dX12_report_26 rfl ?_
      refine xx_lconst (v := 1) (pc := 27) dX12_report_27 rfl ?_
      refine xx_callS0 (pc := 28) (st := []) (cM_isIn (0 ≤ a ∧ a ≤ 1) (ll_in (lo := 0) (hi := 1) (by omega) (by decide) (by decide) (by omega))) kX12_isIn sX12_66 dX12_report_28 rfl rfl (Nat.le_of_ble_eq_true rfl) ⟨Nat.le_of_ble_eq_true rfl, Nat.le_of_ble_eq_true rfl⟩ ⟨Nat.zero_le _, Nat.zero_le _⟩ (ic_ke ?_)
      refine xx_if_eqB (pc := 31) 60 dX12_report_31 rfl (fun c3 => ?_) (fun c3 => ?_)
      · refine xx_iconst (pc := 60) dX12_report_60 cc_iconst_m1 ?_
        exact xx_iret (pc := 61) dX12_report_61 rfl (rfl) (Nat.le_refl _) (Nat.le_refl _) (ic_rr (if_neg (by omega)).symm (by rw [if_neg (by omega), wr_id]))
      · refine xx_iload_n (pc := 34) dX12_report_34 4 rfl rfl ?_
        refine xx_i2l (pc := 35) dX12_report_35 ?_
        refine xx_lconst (v := 0) (pc := 36) dX12_report_36 rfl ?_
        refine xx_iload (pc := 37) dX12_report_37 0 rfl ?_
        refine xx_i2l (pc := 39) dX12_report_39 ?_
        refine xx_callS0 (pc := 40) (st := []) (cM_isIn (0 ≤ lo ∧ lo ≤ 99) (ll_in (lo := 0) (hi := 99) (by omega) (by decide) (ll_nn (by omega)) (by omega))) kX12_isIn sX12_66 dX12_report_40 rfl rfl (Nat.le_of_ble_eq_true rfl) ⟨Nat.le_of_ble_eq_true rfl, Nat.le_of_ble_eq_true rfl⟩ ⟨Nat.zero_le _, Nat.zero_le _⟩ (ic_ke ?_)
        refine xx_if_eqB (pc := 43) 60 dX12_report_43 rfl (fun c4 => ?_) (fun c4 => ?_)
        · refine xx_iconst (pc := 60) dX12_report_60 cc_iconst_m1 ?_
          exact xx_iret (pc := 61) dX12_report_61 rfl (rfl) (Nat.le_refl _) (Nat.le_refl _) (ic_rr (if_neg (by omega)).symm (by rw [if_neg (by omega), wr_id]))
        · refine xx_iload (pc := 46) dX12_report_46 5 rfl ?_
          refine xx_i2l (pc := 48) dX12_report_48 ?_
          refine xx_iload_n (pc := 49) dX12_report_49 4 rfl rfl ?_
          refine xx_i2l (pc := 50) dX12_report_50 ?_
          refine xx_iload (pc := 51) dX12_report_51 0 rfl ?_
          refine xx_i2l (pc := 53) dX12_report_53 ?_
          refine xx_callS0 (pc := 54) (st := []) (cM_isIn (lo ≤ hi ∧ hi ≤ 99) (ll_in (lo := lo) (hi := 99) (by omega) (ll_nn (by omega)) (ll_nn (by omega)) (by omega))) kX12_isIn sX12_66 dX12_report_54 rfl rfl (Nat.le_of_ble_eq_true rfl) ⟨Nat.le_of_ble_eq_true rfl, Nat.le_of_ble_eq_true rfl⟩ ⟨Nat.zero_le _, Nat.zero_le _⟩ (ic_ke ?_)
          refine xx_if_neB (pc := 57) 62 dX12_report_57 rfl (fun c5 => ?_) (fun c5 => ?_)
          · refine xx_aload_nP (pc := 62) dX12_report_62 1 rfl rfl ?_
            refine xx_getR (pc := 63) 115 dX12_report_63 sh_114 fX12_7_12 rfl rfl (by decide) ?_
            refine xx_bipush (pc := 66) dX12_report_66 cc_bipush_6 ?_
            refine xx_ialdN (pc := 68) dX12_report_68 sh_115 (by omega) (by decide) ?_
            refine xx_bipush (pc := 69) dX12_report_69 cc_bipush_6 ?_
            refine xx_icmp_neN (pc := 71) 77 dX12_report_71 rfl (by omega) (by omega) (fun c6 => ?_) (fun c6 => ?_)
            · refine xx_bipush (pc := 77) dX12_report_77 cc_bipush_104 ?_
              refine xx_iconst (pc := 79) dX12_report_79 cc_iconst_4 ?_
              refine xx_aload_nP (pc := 80) dX12_report_80 1 rfl rfl ?_
              refine xx_getR (pc := 81) 115 dX12_report_81 sh_114 fX12_7_12 rfl rfl (by decide) ?_
              refine xx_bipush (pc := 84) dX12_report_84 cc_bipush_6 ?_
              refine xx_ialdN (pc := 86) dX12_report_86 sh_115 (by omega) (by decide) ?_
              refine xx_imulN (pc := 87) dX12_report_87 ?_
              refine xx_iaddN (pc := 88) dX12_report_88 ?_
              refine xx_istore (L' := [(6, .int (nI (104 + (4 * (w 115 6))))), (5, .int (nI 99)), (0, ic_pt E 114), (1, .int (nI k)), (2, .int (nI a)), (3, .int (nI lo)), (4, .int (nI hi))]) (pc := 89) dX12_report_89 (Nat.le_of_ble_eq_true rfl) rfl ?_
              refine xx_aload_nP (pc := 91) dX12_report_91 2 rfl rfl ?_
              refine xx_getR (pc := 92) 115 dX12_report_92 sh_114 fX12_7_12 rfl rfl (by decide) ?_
              refine xx_iload (pc := 95) dX12_report_95 0 rfl ?_
              refine xx_iload_n (pc := 97) dX12_report_97 3 rfl rfl ?_
              refine xx_iastE (j2 := 104 + 4 * w 115 6) (pc := 98) dX12_report_98 sh_115 (by omega) (by omega) (by decide) ?_
              refine xx_nw (fun w7 ew7 => ?_)
              have zw7 : w7 115 6 = w 115 6 := by rw [ew7, wu_k _ _ _ _ (by omega)]
              refine xx_aload_nP (pc := 99) dX12_report_99 2 rfl rfl ?_
              refine xx_getR (pc := 100) 115 dX12_report_100 sh_114 fX12_7_12 rfl rfl (by decide) ?_
              refine xx_iload (pc := 103) dX12_report_103 0 rfl ?_
              refine xx_iconst (pc := 105) dX12_report_105 cc_iconst_1 ?_
              refine xx_iaddN (pc := 106) dX12_report_106 ?_
              refine xx_iload_n (pc := 107) dX12_report_107 4 rfl rfl ?_
              refine xx_iastE (j2 := 105 + 4 * w 115 6) (pc := 108) dX12_report_108 sh_115 (by omega) (by omega) (by decide) ?_
              refine xx_nw (fun w8 ew8 => ?_)
              have zw8 : w8 115 6 = w 115 6 := by rw [ew8, wu_k _ _ _ _ (by omega)]; exact zw7
              refine xx_aload_nP (pc := 109) dX12_report_109 2 rfl rfl ?_
              refine xx_getR (pc := 110) 115 dX12_report_110 sh_114 fX12_7_12 rfl rfl (by decide) ?_
              refine xx_iload (pc := 113) dX12_report_113 0 rfl ?_
              refine xx_iconst (pc := 115) dX12_report_115 cc_iconst_2 ?_
              refine xx_iaddN (pc := 116) dX12_report_116 ?_
              refine xx_iload_n (pc := 117) dX12_report_117 5 rfl rfl ?_
              refine xx_iastE (j2 := 106 + 4 * w 115 6) (pc := 118) dX12_report_118 sh_115 (by omega) (by omega) (by decide) ?_
              refine xx_nw (fun w9 ew9 => ?_)
              have zw9 : w9 115 6 = w 115 6 := by rw [ew9, wu_k _ _ _ _ (by omega)]; exact zw8
              refine xx_aload_nP (pc := 119) dX12_report_119 2 rfl rfl ?_
              refine xx_getR (pc := 120) 115 dX12_report_120 sh_114 fX12_7_12 rfl rfl (by decide) ?_
              refine xx_iload (pc := 123) dX12_report_123 0 rfl ?_
              refine xx_iconst (pc := 125) dX12_report_125 cc_iconst_3 ?_
              refine xx_iaddN (pc := 126) dX12_report_126 ?_
              refine xx_iload (pc := 127) dX12_report_127 6 rfl ?_
              refine xx_iastE (j2 := 107 + 4 * w 115 6) (pc := 129) dX12_report_129 sh_115 (by omega) (by omega) (by decide) ?_
              refine xx_nw (fun w10 ew10 => ?_)
              have zw10 : w10 115 6 = w 115 6 := by rw [ew10, wu_k _ _ _ _ (by omega)]; exact zw9
              refine xx_aload_nP (pc := 130) dX12_report_130 2 rfl rfl ?_
              refine xx_getR (pc := 131) 115 dX12_report_131 sh_114 fX12_7_12 rfl rfl (by decide) ?_
              refine xx_bipush (pc := 134) dX12_report_134 cc_bipush_6 ?_
              refine xx_dup2 (pc := 136) dX12_report_136 rfl rfl ?_
              refine xx_ialdN (pc := 137) dX12_report_137 sh_115 (by omega) (by decide) ?_
              refine xx_iconst (pc := 138) dX12_report_138 cc_iconst_1 ?_
              refine xx_iaddN (pc := 139) dX12_report_139 ?_
              refine xx_iastN (pc := 140) dX12_report_140 sh_115 (by omega) (by decide) ?_
              refine xx_nw (fun w11 ew11 => ?_)
              have zw11 : w11 115 6 = w 115 6 + 1 := by rw [ew11, wu_s, zw10]
              refine xx_aload_nP (pc := 141) dX12_report_141 2 rfl rfl ?_
              refine xx_getR (pc := 142) 115 dX12_report_142 sh_114 fX12_7_12 rfl rfl (by decide) ?_
              refine xx_bipush (pc := 145) dX12_report_145 cc_bipush_6 ?_
              refine xx_ialdN (pc := 147) dX12_report_147 sh_115 (by omega) (by decide) ?_
              refine xx_iconst (pc := 148) dX12_report_148 cc_iconst_1 ?_
              refine xx_isubN (pc := 149) dX12_report_149 (by omega) ?_
              exact xx_iret (pc := 150) dX12_report_150 rfl (rfl) (Nat.le_refl _) (Nat.le_refl _) (ic_rr (by rw [if_pos (by omega), if_neg (by omega), zw11]; omega) (by rw [if_pos (by omega), ew11, zw10, ew10, ew9, ew8, ew7]; simp only [wu_wr, wr_s, wr_wr]; rfl))
            · refine xx_bipush (pc := 74) dX12_report_74 cc_bipush_m2 ?_
              exact xx_iret (pc := 76) dX12_report_76 rfl (rfl) (Nat.le_refl _) (Nat.le_refl _) (ic_rr (by rw [if_pos (by omega), if_pos (by omega)]) (by rw [if_neg (by omega), wr_id]))
          · refine xx_iconst (pc := 60) dX12_report_60 cc_iconst_m1 ?_
            exact xx_iret (pc := 61) dX12_report_61 rfl (rfl) (Nat.le_refl _) (Nat.le_refl _) (ic_rr (if_neg (by omega)).symm (by rw [if_neg (by omega), wr_id]))
  · have hrt : mo_rt a = 5 := by unfold mo_rt; rw [if_pos (by omega)]
    refine xx_iconst (pc := 4) dX12_report_4 cc_iconst_5 ?_
    refine xx_goto (pc := 5) 10 dX12_report_5 rfl ?_
    refine xx_istore (L' := [(5, .int (nI 5)), (0, ic_pt E 114), (1, .int (nI k)), (2, .int (nI a)), (3, .int (nI lo)), (4, .int (nI hi))]) (pc := 10) dX12_report_10 (Nat.le_of_ble_eq_true rfl) rfl ?_
    refine xx_iload_n (pc := 12) dX12_report_12 2 rfl rfl ?_
    refine xx_i2l (pc := 13) dX12_report_13 ?_
    refine xx_lconst (v := 0) (pc := 14) dX12_report_14 rfl ?_
    refine xx_ldc2 (v := 15) (pc := 15) dX12_report_15 oX12_136 ?_
    refine xx_callS0 (pc := 18) (st := []) (cM_isIn (0 ≤ k ∧ k ≤ 15) (ll_in (lo := 0) (hi := 15) (by omega) (by decide) (by decide) (by omega))) kX12_isIn sX12_66 dX12_report_18 rfl rfl (Nat.le_of_ble_eq_true rfl) ⟨Nat.le_of_ble_eq_true rfl, Nat.le_of_ble_eq_true rfl⟩ ⟨Nat.zero_le _, Nat.zero_le _⟩ (ic_ke ?_)
    refine xx_if_eqB (pc := 21) 60 dX12_report_21 rfl (fun c12 => ?_) (fun c12 => ?_)
    · refine xx_iconst (pc := 60) dX12_report_60 cc_iconst_m1 ?_
      exact xx_iret (pc := 61) dX12_report_61 rfl (rfl) (Nat.le_refl _) (Nat.le_refl _) (ic_rr (if_neg (by omega)).symm (by rw [if_neg (by omega), wr_id]))
    · refine xx_iload_n (pc := 24) dX12_report_24 3 rfl rfl ?_
      refine xx_i2l (pc := 25) dX12_report_25 ?_
      refine xx_lconst (v := 0) (pc := 26) dX12_report_26 rfl ?_
      refine xx_lconst (v := 1) (pc := 27) dX12_report_27 rfl ?_
      refine xx_callS0 (pc := 28) (st := []) (cM_isIn (0 ≤ a ∧ a ≤ 1) (ll_in (lo := 0) (hi := 1) (by omega) (by decide) (by decide) (by omega))) kX12_isIn sX12_66 dX12_report_28 rfl rfl (Nat.le_of_ble_eq_true rfl) ⟨Nat.le_of_ble_eq_true rfl, Nat.le_of_ble_eq_true rfl⟩ ⟨Nat.zero_le _, Nat.zero_le _⟩ (ic_ke ?_)
      refine xx_if_eqB (pc := 31) 60 dX12_report_31 rfl (fun c13 => ?_) (fun c13 => ?_)
      · refine xx_iconst (pc := 60) dX12_report_60 cc_iconst_m1 ?_
        exact xx_iret (pc := 61) dX12_report_61 rfl (rfl) (Nat.le_refl _) (Nat.le_refl _) (ic_rr (if_neg (by omega)).symm (by rw [if_neg (by omega), wr_id]))
      · refine xx_iload_n (pc := 34) dX12_report_34 4 rfl rfl ?_
        refine xx_i2l (pc := 35) dX12_report_35 ?_
        refine xx_lconst (v := 0) (pc := 36) dX12_report_36 rfl ?_
        refine xx_iload (pc := 37) dX12_report_37 0 rfl ?_
        refine xx_i2l (pc := 39) dX12_report_39 ?_
        refine xx_callS0 (pc := 40) (st := []) (cM_isIn (0 ≤ lo ∧ lo ≤ 5) (ll_in (lo := 0) (hi := 5) (by omega) (by decide) (ll_nn (by omega)) (by omega))) kX12_isIn sX12_66 dX12_report_40 rfl rfl (Nat.le_of_ble_eq_true rfl) ⟨Nat.le_of_ble_eq_true rfl, Nat.le_of_ble_eq_true rfl⟩ ⟨Nat.zero_le _, Nat.zero_le _⟩ (ic_ke ?_)
        refine xx_if_eqB (pc := 43) 60 dX12_report_43 rfl (fun c14 => ?_) (fun c14 => ?_)
        · refine xx_iconst (pc := 60) dX12_report_60 cc_iconst_m1 ?_
          exact xx_iret (pc := 61) dX12_report_61 rfl (rfl) (Nat.le_refl _) (Nat.le_refl _) (ic_rr (if_neg (by omega)).symm (by rw [if_neg (by omega), wr_id]))
        · refine xx_iload (pc := 46) dX12_report_46 5 rfl ?_
          refine xx_i2l (pc := 48) dX12_report_48 ?_
          refine xx_iload_n (pc := 49) dX12_report_49 4 rfl rfl ?_
          refine xx_i2l (pc := 50) dX12_report_50 ?_
          refine xx_iload (pc := 51) dX12_report_51 0 rfl ?_
          refine xx_i2l (pc := 53) dX12_report_53 ?_
          refine xx_callS0 (pc := 54) (st := []) (cM_isIn (lo ≤ hi ∧ hi ≤ 5) (ll_in (lo := lo) (hi := 5) (by omega) (ll_nn (by omega)) (ll_nn (by omega)) (by omega))) kX12_isIn sX12_66 dX12_report_54 rfl rfl (Nat.le_of_ble_eq_true rfl) ⟨Nat.le_of_ble_eq_true rfl, Nat.le_of_ble_eq_true rfl⟩ ⟨Nat.zero_le _, Nat.zero_le _⟩ (ic_ke ?_)
          refine xx_if_neB (pc := 57) 62 dX12_report_57 rfl (fun c15 => ?_) (fun c15 => ?_)
          · refine xx_aload_nP (pc := 62) dX12_report_62 1 rfl rfl ?_
            refine xx_getR (pc := 63) 115 dX12_report_63 sh_114 fX12_7_12 rfl rfl (by decide) ?_
            refine xx_bipush (pc := 66) dX12_report_66 cc_bipush_6 ?_
            refine xx_ialdN (pc := 68) dX12_report_68 sh_115 (by omega) (by decide) ?_
            refine xx_bipush (pc := 69) dX12_report_69 cc_bipush_6 ?_
            refine xx_icmp_neN (pc := 71) 77 dX12_report_71 rfl (by omega) (by omega) (fun c16 => ?_) (fun c16 => ?_)
            · refine xx_bipush (pc := 77) dX12_report_77 cc_bipush_104 ?_
              refine xx_iconst (pc := 79) dX12_report_79 cc_iconst_4 ?_
              refine xx_aload_nP (pc := 80) dX12_report_80 1 rfl rfl ?_
              refine xx_getR (pc := 81) 115 dX12_report_81 sh_114 fX12_7_12 rfl rfl (by decide) ?_
              refine xx_bipush (pc := 84) dX12_report_84 cc_bipush_6 ?_
              refine xx_ialdN (pc := 86) dX12_report_86 sh_115 (by omega) (by decide) ?_
              refine xx_imulN (pc := 87) dX12_report_87 ?_
              refine xx_iaddN (pc := 88) dX12_report_88 ?_
              refine xx_istore (L' := [(6, .int (nI (104 + (4 * (w 115 6))))), (5, .int (nI 5)), (0, ic_pt E 114), (1, .int (nI k)), (2, .int (nI a)), (3, .int (nI lo)), (4, .int (nI hi))]) (pc := 89) dX12_report_89 (Nat.le_of_ble_eq_true rfl) rfl ?_
              refine xx_aload_nP (pc := 91) dX12_report_91 2 rfl rfl ?_
              refine xx_getR (pc := 92) 115 dX12_report_92 sh_114 fX12_7_12 rfl rfl (by decide) ?_
              refine xx_iload (pc := 95) dX12_report_95 0 rfl ?_
              refine xx_iload_n (pc := 97) dX12_report_97 3 rfl rfl ?_
              refine xx_iastE (j2 := 104 + 4 * w 115 6) (pc := 98) dX12_report_98 sh_115 (by omega) (by omega) (by decide) ?_
              refine xx_nw (fun w17 ew17 => ?_)
              have zw17 : w17 115 6 = w 115 6 := by rw [ew17, wu_k _ _ _ _ (by omega)]
              refine xx_aload_nP (pc := 99) dX12_report_99 2 rfl rfl ?_
              refine xx_getR (pc := 100) 115 dX12_report_100 sh_114 fX12_7_12 rfl rfl (by decide) ?_
              refine xx_iload (pc := 103) dX12_report_103 0 rfl ?_
              refine xx_iconst (pc := 105) dX12_report_105 cc_iconst_1 ?_
              refine xx_iaddN (pc := 106) dX12_report_106 ?_
              refine xx_iload_n (pc := 107) dX12_report_107 4 rfl rfl ?_
              refine xx_iastE (j2 := 105 + 4 * w 115 6) (pc := 108) dX12_report_108 sh_115 (by omega) (by omega) (by decide) ?_
              refine xx_nw (fun w18 ew18 => ?_)
              have zw18 : w18 115 6 = w 115 6 := by rw [ew18, wu_k _ _ _ _ (by omega)]; exact zw17
              refine xx_aload_nP (pc := 109) dX12_report_109 2 rfl rfl ?_
              refine xx_getR (pc := 110) 115 dX12_report_110 sh_114 fX12_7_12 rfl rfl (by decide) ?_
              refine xx_iload (pc := 113) dX12_report_113 0 rfl ?_
              refine xx_iconst (pc := 115) dX12_report_115 cc_iconst_2 ?_
              refine xx_iaddN (pc := 116) dX12_report_116 ?_
              refine xx_iload_n (pc := 117) dX12_report_117 5 rfl rfl ?_
              refine xx_iastE (j2 := 106 + 4 * w 115 6) (pc := 118) dX12_report_118 sh_115 (by omega) (by omega) (by decide) ?_
              refine xx_nw (fun w19 ew19 => ?_)
              have zw19 : w19 115 6 = w 115 6 := by rw [ew19, wu_k _ _ _ _ (by omega)]; exact zw18
              refine xx_aload_nP (pc := 119) dX12_report_119 2 rfl rfl ?_
              refine xx_getR (pc := 120) 115 dX12_report_120 sh_114 fX12_7_12 rfl rfl (by decide) ?_
              refine xx_iload (pc := 123) dX12_report_123 0 rfl ?_
              refine xx_iconst (pc := 125) dX12_report_125 cc_iconst_3 ?_
              refine xx_iaddN (pc := 126) dX12_report_126 ?_
              refine xx_iload (pc := 127) dX12_report_127 6 rfl ?_
              refine xx_iastE (j2 := 107 + 4 * w 115 6) (pc := 129) dX12_report_129 sh_115 (by omega) (by omega) (by decide) ?_
              refine xx_nw (fun w20 ew20 => ?_)
              have zw20 : w20 115 6 = w 115 6 := by rw [ew20, wu_k _ _ _ _ (by omega)]; exact zw19
              refine xx_aload_nP (pc := 130) dX12_report_130 2 rfl rfl ?_
              refine xx_getR (pc := 131) 115 dX12_report_131 sh_114 fX12_7_12 rfl rfl (by decide) ?_
              refine xx_bipush (pc := 134) dX12_report_134 cc_bipush_6 ?_
              refine xx_dup2 (pc := 136) dX12_report_136 rfl rfl ?_
              refine xx_ialdN (pc := 137) dX12_report_137 sh_115 (by omega) (by decide) ?_
              refine xx_iconst (pc := 138) dX12_report_138 cc_iconst_1 ?_
              refine xx_iaddN (pc := 139) dX12_report_139 ?_
              refine xx_iastN (pc := 140) dX12_report_140 sh_115 (by omega) (by decide) ?_
              refine xx_nw (fun w21 ew21 => ?_)
              have zw21 : w21 115 6 = w 115 6 + 1 := by rw [ew21, wu_s, zw20]
              refine xx_aload_nP (pc := 141) dX12_report_141 2 rfl rfl ?_
              refine xx_getR (pc := 142) 115 dX12_report_142 sh_114 fX12_7_12 rfl rfl (by decide) ?_
              refine xx_bipush (pc := 145) dX12_report_145 cc_bipush_6 ?_
              refine xx_ialdN (pc := 147) dX12_report_147 sh_115 (by omega) (by decide) ?_
              refine xx_iconst (pc := 148) dX12_report_148 cc_iconst_1 ?_
              refine xx_isubN (pc := 149) dX12_report_149 (by omega) ?_
              exact xx_iret (pc := 150) dX12_report_150 rfl (rfl) (Nat.le_refl _) (Nat.le_refl _) (ic_rr (by rw [if_pos (by omega), if_neg (by omega), zw21]; omega) (by rw [if_pos (by omega), ew21, zw20, ew20, ew19, ew18, ew17]; simp only [wu_wr, wr_s, wr_wr]; rfl))
            · refine xx_bipush (pc := 74) dX12_report_74 cc_bipush_m2 ?_
              exact xx_iret (pc := 76) dX12_report_76 rfl (rfl) (Nat.le_refl _) (Nat.le_refl _) (ic_rr (by rw [if_pos (by omega), if_pos (by omega)]) (by rw [if_neg (by omega), wr_id]))
          · refine xx_iconst (pc := 60) dX12_report_60 cc_iconst_m1 ?_
            exact xx_iret (pc := 61) dX12_report_61 rfl (rfl) (Nat.le_refl _) (Nat.le_refl _) (ic_rr (if_neg (by omega)).symm (by rw [if_neg (by omega), wr_id]))

set_option maxHeartbeats 4000000 in
set_option maxRecDepth 100000 in
theorem cM_forget {l : Launch} {E : ic_E} {w : ic_w}  : ic_C l E mX12_forget 2 0 0 False [ic_pt E 114] SHs (hn w) SHs (ic_qr (w 115 6) w (fu (w 115) 6 0)) := by
  refine ic_intro (by decide +kernel) (Nat.le_of_ble_eq_true rfl) ?_
  show xx l E _ _ 0 [(0, ic_pt E 114)] _ _ _
  refine xx_aload_nP (pc := 0) dX12_forget_0 0 rfl rfl ?_
  refine xx_bipush (pc := 1) dX12_forget_1 cc_bipush_6 ?_
  refine xx_iconst (pc := 3) dX12_forget_3 cc_iconst_0 ?_
  refine xx_callV0 (pc := 4) (st := []) sh_114 (cM_becomes (w := w) (a := 6) (v := 0) (by omega)) kX12_becomes vX12_133_12 dX12_forget_4 rfl rfl (Nat.le_of_ble_eq_true rfl) ⟨Nat.le_of_ble_eq_true rfl, Nat.le_of_ble_eq_true rfl⟩ ⟨Nat.zero_le _, Nat.zero_le _⟩ (ic_ki (fun v2 h_ qw1 => ?_))
  obtain ⟨rfl, rfl⟩ := qw1
  refine xx_nw (fun w1 ew1 => ?_)
  exact xx_iret (pc := 7) dX12_forget_7 rfl (rfl) (Nat.le_refl _) (Nat.le_refl _) (ic_rr rfl ew1)

set_option maxHeartbeats 4000000 in
set_option maxRecDepth 100000 in
theorem cM_seed {l : Launch} {E : ic_E} {w : ic_w} {v : Nat} (hv_ : v < 2 ^ 32) : ic_C l E mX12_seed 2 0 0 False [ic_pt E 114, .int (nI v)] SHs (hn w) SHs (ic_qr (w 115 4) w (fu (w 115) 4 v)) := by
  refine ic_intro (by decide +kernel) (Nat.le_of_ble_eq_true rfl) ?_
  show xx l E _ _ 0 [(0, ic_pt E 114), (1, .int (nI v))] _ _ _
  refine xx_aload_nP (pc := 0) dX12_seed_0 0 rfl rfl ?_
  refine xx_iconst (pc := 1) dX12_seed_1 cc_iconst_4 ?_
  refine xx_iload_n (pc := 2) dX12_seed_2 1 rfl rfl ?_
  refine xx_callV0 (pc := 3) (st := []) sh_114 (cM_becomes (w := w) (a := 4) (v := v) (by omega)) kX12_becomes vX12_133_12 dX12_seed_3 rfl rfl (Nat.le_of_ble_eq_true rfl) ⟨Nat.le_of_ble_eq_true rfl, Nat.le_of_ble_eq_true rfl⟩ ⟨Nat.zero_le _, Nat.zero_le _⟩ (ic_ki (fun v2 h_ qw1 => ?_))
  obtain ⟨rfl, rfl⟩ := qw1
  refine xx_nw (fun w1 ew1 => ?_)
  exact xx_iret (pc := 6) dX12_seed_6 rfl (rfl) (Nat.le_refl _) (Nat.le_refl _) (ic_rr rfl ew1)

set_option maxHeartbeats 4000000 in
set_option maxRecDepth 100000 in
theorem cM_rides {l : Launch} {E : ic_E} {w : ic_w} {kd p dp : Nat} (hkd : kd ≤ 5) (hp : p ≤ 9) (hd : dp ≤ 99) (hI : In (w 115)) : ic_C l E mX12_rides 3 0 0 False [ic_pt E 114, .int (nI kd), .int (nI p), .int (nI dp)] SHs (hn w) SHs (ic_qv (fun h_ => ∃ w2, h_ = hn w2 ∧ (∀ a, a ≠ 123 → a ≠ 124 → w2 a = w a) ∧ ∀ j, j < 16 → w2 123 j = mo_lp kd p j ∧ w2 124 j = mo_ld (w 115) kd dp j)) := by
  refine ic_intro (by decide +kernel) (Nat.le_of_ble_eq_true rfl) ?_
  show xx l E _ _ 0 [(0, ic_pt E 114), (1, .int (nI kd)), (2, .int (nI p)), (3, .int (nI dp))] _ _ _
  have lp : ∀ (n_ : Nat) (k : Nat) (u : ic_w), k ≤ 15 → (∀ a, a ≠ 123 → a ≠ 124 → u a = w a) → (∀ j, j ≤ k → u 123 j = mo_lp kd p j ∧ u 124 j = mo_ld (w 115) kd dp j) → 15 - k < n_ → xx l E (ic_fr E mX12_rides 3 0 0 False SHs (ic_qv (fun h_ => ∃ w2, h_ = hn w2 ∧ (∀ a, a ≠ 123 → a ≠ 124 → w2 a = w a) ∧ ∀ j, j < 16 → w2 123 j = mo_lp kd p j ∧ w2 124 j = mo_ld (w 115) kd dp j))) (0, 0) 17 [(4, .int (nI k)), (0, ic_pt E 114), (1, .int (nI kd)), (2, .int (nI p)), (3, .int (nI dp))] [] SHs (hn u) := by
    intro n_
    induction n_ with
    | zero => intro k u hk hr hv hm_; exact absurd hm_ (Nat.not_lt_zero _)
    | succ n_ ih_ =>
      intro k u hk hr hv hm_
      refine xx_iload (pc := 17) dX12_rides_17 0 rfl ?_
      refine xx_bipush (pc := 19) dX12_rides_19 cc_bipush_15 ?_
      refine xx_icmp_geN (pc := 21) 93 dX12_rides_21 rfl (by omega) (by omega) (fun c1 => ?_) (fun c1 => ?_)
      · exact xx_vret (pc := 93) dX12_rides_93 rfl (Nat.le_refl _) (Nat.le_refl _) (ic_rv0 ⟨u, rfl, hr, fun j hj => hv j (by omega)⟩)
      · obtain ⟨v1, v2⟩ := hv k (by omega)
        have hcr : u 115 (56 + k) ≤ 15 := by rw [hr 115 (by omega) (by omega)]; exact hI.c (by omega)
        have hsl := mo_sinks_le (k := kd) hcr (show 0 ≤ 6 by omega)
        have hdl := mo_drifts_le kd k
        have hpl := mo_lp_le kd hp k
        have hdd := mo_ld_le (w 115) kd hd k
        refine xx_aload_nP (pc := 24) dX12_rides_24 1 rfl rfl ?_
        refine xx_getR (pc := 25) 124 dX12_rides_25 sh_114 fX12_37_12 rfl rfl (by decide) ?_
        refine xx_iload (pc := 28) dX12_rides_28 0 rfl ?_
        refine xx_iconst (pc := 30) dX12_rides_30 cc_iconst_1 ?_
        refine xx_iaddN (pc := 31) dX12_rides_31 ?_
        refine xx_bipush (pc := 32) dX12_rides_32 cc_bipush_99 ?_
        refine xx_aload_nP (pc := 34) dX12_rides_34 1 rfl rfl ?_
        refine xx_getR (pc := 35) 124 dX12_rides_35 sh_114 fX12_37_12 rfl rfl (by decide) ?_
        refine xx_iload (pc := 38) dX12_rides_38 0 rfl ?_
        refine xx_ialdN (pc := 40) dX12_rides_40 sh_124 (by omega) (by decide) ?_
        refine xx_iload_n (pc := 41) dX12_rides_41 2 rfl rfl ?_
        refine xx_aload_nP (pc := 42) dX12_rides_42 1 rfl rfl ?_
        refine xx_getR (pc := 43) 115 dX12_rides_43 sh_114 fX12_7_12 rfl rfl (by decide) ?_
        refine xx_bipush (pc := 46) dX12_rides_46 cc_bipush_56 ?_
        refine xx_iload (pc := 48) dX12_rides_48 0 rfl ?_
        refine xx_iaddN (pc := 50) dX12_rides_50 ?_
        refine xx_ialdN (pc := 51) dX12_rides_51 sh_115 (by omega) (by decide) ?_
        refine xx_iconst (pc := 52) dX12_rides_52 cc_iconst_0 ?_
        refine xx_callS0 (pc := 53) (st := [.int (nI (u 124 k)), .int (nI 99), .int (nI (k + 1)), ic_pt E 124]) (cM_sinks (w := u) (k := kd) (cr := u 115 (56 + k)) (q := 0) (by omega) (by omega) (by omega)) kX12_sinks sX12_92 dX12_rides_53 rfl rfl (Nat.le_of_ble_eq_true rfl) ⟨Nat.le_of_ble_eq_true rfl, Nat.le_of_ble_eq_true rfl⟩ ⟨Nat.zero_le _, Nat.zero_le _⟩ (ic_ke ?_)
        refine xx_iaddN (pc := 56) dX12_rides_56 ?_
        refine xx_callS0 (pc := 57) (st := [.int (nI (k + 1)), ic_pt E 124]) (cM_least (w := u) (a := 99) (b := (u 124 k) + (mo_sinks kd (u 115 (56 + k)) 0)) (by omega) (by omega)) kX12_least sX12_242 dX12_rides_57 rfl rfl (Nat.le_of_ble_eq_true rfl) ⟨Nat.le_of_ble_eq_true rfl, Nat.le_of_ble_eq_true rfl⟩ ⟨Nat.zero_le _, Nat.zero_le _⟩ (ic_ke ?_)
        refine xx_iastE (j2 := 1 + k) (pc := 60) dX12_rides_60 sh_124 (by omega) (by omega) (by decide) ?_
        refine xx_nw (fun w2 ew2 => ?_)
        have p1 : w2 123 k = mo_lp kd p k := by rw [ew2, wu_o _ _ _ _ (by omega), v1]
        refine xx_aload_nP (pc := 61) dX12_rides_61 1 rfl rfl ?_
        refine xx_getR (pc := 62) 123 dX12_rides_62 sh_114 fX12_34_12 rfl rfl (by decide) ?_
        refine xx_iload (pc := 65) dX12_rides_65 0 rfl ?_
        refine xx_iconst (pc := 67) dX12_rides_67 cc_iconst_1 ?_
        refine xx_iaddN (pc := 68) dX12_rides_68 ?_
        refine xx_aload_nP (pc := 69) dX12_rides_69 1 rfl rfl ?_
        refine xx_getR (pc := 70) 123 dX12_rides_70 sh_114 fX12_34_12 rfl rfl (by decide) ?_
        refine xx_iload (pc := 73) dX12_rides_73 0 rfl ?_
        refine xx_ialdN (pc := 75) dX12_rides_75 sh_123 (by omega) (by decide) ?_
        refine xx_iload_n (pc := 76) dX12_rides_76 2 rfl rfl ?_
        refine xx_iload (pc := 77) dX12_rides_77 0 rfl ?_
        refine xx_callS0 (pc := 79) (st := [.int (nI (w2 123 k)), .int (nI (k + 1)), ic_pt E 123]) (cM_drifts (w := w2) (k := kd) (t := k) (by omega) (by omega)) kX12_drifts sX12_124 dX12_rides_79 rfl rfl (Nat.le_of_ble_eq_true rfl) ⟨Nat.le_of_ble_eq_true rfl, Nat.le_of_ble_eq_true rfl⟩ ⟨Nat.zero_le _, Nat.zero_le _⟩ (ic_ke ?_)
        refine xx_iaddN (pc := 82) dX12_rides_82 ?_
        refine xx_bipush (pc := 83) dX12_rides_83 cc_bipush_6 ?_
        refine xx_iremN (pc := 85) dX12_rides_85 (by omega) (by omega) (by omega) ?_
        refine xx_iastE (j2 := 1 + k) (pc := 86) dX12_rides_86 sh_123 (by omega) (by omega) (by decide) ?_
        refine xx_nw (fun w3 ew3 => ?_)
        refine xx_iincN (L' := [(4, .int (nI (k + 1))), (0, ic_pt E 114), (1, .int (nI kd)), (2, .int (nI p)), (3, .int (nI dp))]) (pc := 87) dX12_rides_87 0 rfl cc_iconst_1 (Nat.le_of_ble_eq_true rfl) rfl ?_
        refine xx_goto (pc := 90) 17 dX12_rides_90 rfl ?_
        have hv2 : ∀ j, j ≤ k + 1 → w3 123 j = mo_lp kd p j ∧ w3 124 j = mo_ld (w 115) kd dp j := by
          intro j hj
          by_cases q : j = 1 + k
          · subst q
            rw [ew3, wu_s, p1, wu_o _ _ _ _ (by omega), ew2, wu_s, v2, hr 115 (by omega) (by omega)]
            rw [Nat.add_comm 1 k]
            exact ⟨rfl, rfl⟩
          · rw [ew3, wu_k _ _ _ _ q, wu_o _ _ _ _ (by omega), ew2, wu_o _ _ _ _ (by omega), wu_k _ _ _ _ q]
            exact hv j (by omega)
        exact xx_sub [0, 1, 2, 3, 4] rfl (ih_ (k + 1) w3 (by omega) (fun a q1 q2 => by rw [ew3, wu_row _ _ _ q1, ew2, wu_row _ _ _ q2]; exact hr a q1 q2) hv2 (by omega))
  refine xx_aload_nP (pc := 0) dX12_rides_0 0 rfl rfl ?_
  refine xx_getR (pc := 1) 123 dX12_rides_1 sh_114 fX12_34_12 rfl rfl (by decide) ?_
  refine xx_iconst (pc := 4) dX12_rides_4 cc_iconst_0 ?_
  refine xx_iload_n (pc := 5) dX12_rides_5 2 rfl rfl ?_
  refine xx_iastN (pc := 6) dX12_rides_6 sh_123 (by omega) (by decide) ?_
  refine xx_nw (fun w101 ew101 => ?_)
  refine xx_aload_nP (pc := 7) dX12_rides_7 0 rfl rfl ?_
  refine xx_getR (pc := 8) 124 dX12_rides_8 sh_114 fX12_37_12 rfl rfl (by decide) ?_
  refine xx_iconst (pc := 11) dX12_rides_11 cc_iconst_0 ?_
  refine xx_iload_n (pc := 12) dX12_rides_12 3 rfl rfl ?_
  refine xx_iastN (pc := 13) dX12_rides_13 sh_124 (by omega) (by decide) ?_
  refine xx_nw (fun w102 ew102 => ?_)
  refine xx_iconst (pc := 14) dX12_rides_14 cc_iconst_0 ?_
  refine xx_istore (L' := [(4, .int (nI 0)), (0, ic_pt E 114), (1, .int (nI kd)), (2, .int (nI p)), (3, .int (nI dp))]) (pc := 15) dX12_rides_15 (Nat.le_of_ble_eq_true rfl) rfl ?_
  exact xx_sub [0, 1, 2, 3, 4] rfl (lp 16 0 w102 (by omega) (fun a q1 q2 => by rw [ew102, wu_row _ _ _ q2, ew101, wu_row _ _ _ q1]) (fun j hj => by rw [show j = 0 by omega, ew102, wu_o _ _ _ _ (by omega), wu_s, ew101, wu_s]; exact ⟨rfl, rfl⟩) (by omega))

theorem ic_bo_and1 (c : Prop) [Decidable c] : ic_bo c &&& 1 = ic_bo c := by
  unfold ic_bo
  split <;> rfl
set_option maxHeartbeats 4000000 in
set_option maxRecDepth 100000 in
theorem cM_isFit {l : Launch} {E : ic_E} {w : ic_w} {but kd p dp : Nat} (hb : but < 2 ^ 32) (hp : p ≤ 9) (hd : dp ≤ 99) (hI : In (w 115)) (hP : Rp (w 115)) (hv : ∀ j, j < 16 → w 123 j = mo_lp kd p j ∧ w 124 j = mo_ld (w 115) kd dp j) : ic_C l E mX12_isFit 2 0 0 False [ic_pt E 114, .int (nI but)] SHs (hn w) SHs (ic_qe (nI (ic_bo (mo_ft (w 115) kd p dp but (w 115 6) = true))) (hn w)) := by
  refine ic_intro (by decide +kernel) (Nat.le_of_ble_eq_true rfl) ?_
  show xx l E _ _ 0 [(0, ic_pt E 114), (1, .int (nI but))] _ _ _
  have hc6 := hI.2.2.1
  have lp : ∀ (n_ : Nat) (i t : Nat), i ≤ w 115 6 → t = ic_bo (mo_ft (w 115) kd p dp but i = true) → w 115 6 - i < n_ → xx l E (ic_fr E mX12_isFit 2 0 0 False SHs (ic_qe (nI (ic_bo (mo_ft (w 115) kd p dp but (w 115 6) = true))) (hn w))) (0, 0) 4 [(3, .int (nI i)), (2, .int (nI t)), (0, ic_pt E 114), (1, .int (nI but))] [] SHs (hn w) := by
    intro n_
    induction n_ with
    | zero => intro i t hi ht hm_; exact absurd hm_ (Nat.not_lt_zero _)
    | succ n_ ih_ =>
      intro i t hi ht hm_
      refine xx_iload_n (pc := 4) dX12_isFit_4 0 rfl rfl ?_
      refine xx_aload_nP (pc := 5) dX12_isFit_5 2 rfl rfl ?_
      refine xx_getR (pc := 6) 115 dX12_isFit_6 sh_114 fX12_7_12 rfl rfl (by decide) ?_
      refine xx_bipush (pc := 9) dX12_isFit_9 cc_bipush_6 ?_
      refine xx_ialdN (pc := 11) dX12_isFit_11 sh_115 (by omega) (by decide) ?_
      refine xx_icmp_geN (pc := 12) 112 dX12_isFit_12 rfl (by omega) (by omega) (fun c1 => ?_) (fun c1 => ?_)
      · refine xx_iload_n (pc := 112) dX12_isFit_112 1 rfl rfl ?_
        exact xx_iret (pc := 113) dX12_isFit_113 rfl (by rw [ht]; exact ic_nbo) (Nat.le_refl _) (Nat.le_refl _) (ic_re (by rw [ht, show i = w 115 6 by omega]))
      · have hri := hP i (by omega)
        obtain ⟨v1, v2⟩ := hv (w 115 (104 + 4 * i)) (by omega)
        have hpl := mo_lp_le kd hp (w 115 (104 + 4 * i))
        have hdd := mo_ld_le (w 115) kd hd (w 115 (104 + 4 * i))
        refine xx_bipush (pc := 15) dX12_isFit_15 cc_bipush_104 ?_
        refine xx_iconst (pc := 17) dX12_isFit_17 cc_iconst_4 ?_
        refine xx_iload_n (pc := 18) dX12_isFit_18 0 rfl rfl ?_
        refine xx_imulN (pc := 19) dX12_isFit_19 ?_
        refine xx_iaddN (pc := 20) dX12_isFit_20 ?_
        refine xx_istore (L' := [(4, .int (nI (104 + (4 * i)))), (3, .int (nI i)), (2, .int (nI t)), (0, ic_pt E 114), (1, .int (nI but))]) (pc := 21) dX12_isFit_21 (Nat.le_of_ble_eq_true rfl) rfl ?_
        refine xx_aload_nP (pc := 23) dX12_isFit_23 3 rfl rfl ?_
        refine xx_getR (pc := 24) 115 dX12_isFit_24 sh_114 fX12_7_12 rfl rfl (by decide) ?_
        refine xx_iload (pc := 27) dX12_isFit_27 0 rfl ?_
        refine xx_iconst (pc := 29) dX12_isFit_29 cc_iconst_1 ?_
        refine xx_iaddN (pc := 30) dX12_isFit_30 ?_
        refine xx_ialdE (j2 := 105 + 4 * i) (pc := 31) dX12_isFit_31 sh_115 (by omega) (by omega) (by decide) ?_
        refine xx_if_neN (pc := 32) 50 dX12_isFit_32 rfl (by omega) (fun c2 => ?_) (fun c2 => ?_)
        · have hrv : mo_rv (w 115) kd p dp i = w 124 (w 115 (104 + 4 * i)) := by unfold mo_rv; rw [if_neg (by omega), v2]
          refine xx_aload_nP (pc := 50) dX12_isFit_50 3 rfl rfl ?_
          refine xx_getR (pc := 51) 124 dX12_isFit_51 sh_114 fX12_37_12 rfl rfl (by decide) ?_
          refine xx_aload_nP (pc := 54) dX12_isFit_54 3 rfl rfl ?_
          refine xx_getR (pc := 55) 115 dX12_isFit_55 sh_114 fX12_7_12 rfl rfl (by decide) ?_
          refine xx_iload (pc := 58) dX12_isFit_58 0 rfl ?_
          refine xx_ialdE (j2 := 104 + 4 * i) (pc := 60) dX12_isFit_60 sh_115 (by omega) (by omega) (by decide) ?_
          refine xx_ialdN (pc := 61) dX12_isFit_61 sh_124 (by omega) (by decide) ?_
          refine xx_istore (L' := [(5, .int (nI (w 124 (w 115 (104 + 4 * i))))), (4, .int (nI (104 + (4 * i)))), (3, .int (nI i)), (2, .int (nI t)), (0, ic_pt E 114), (1, .int (nI but))]) (pc := 62) dX12_isFit_62 (Nat.le_of_ble_eq_true rfl) rfl ?_
          refine xx_iload_n (pc := 64) dX12_isFit_64 3 rfl rfl ?_
          refine xx_iload_n (pc := 65) dX12_isFit_65 2 rfl rfl ?_
          refine xx_iload_n (pc := 66) dX12_isFit_66 5 rfl rfl ?_
          refine xx_icmp_eqN (pc := 67) 99 dX12_isFit_67 rfl (by omega) (by omega) (fun c3 => ?_) (fun c3 => ?_)
          · refine xx_iconst (pc := 99) dX12_isFit_99 cc_iconst_1 ?_
            refine xx_goto (pc := 100) 104 dX12_isFit_100 rfl ?_
            refine xx_iandN (pc := 104) dX12_isFit_104 ?_
            refine xx_istore_n (L' := [(2, .int (nI (t &&& 1))), (5, .int (nI (w 124 (w 115 (104 + 4 * i))))), (4, .int (nI (104 + (4 * i)))), (3, .int (nI i)), (0, ic_pt E 114), (1, .int (nI but))]) (pc := 105) dX12_isFit_105 rfl (Nat.le_of_ble_eq_true rfl) rfl ?_
            refine xx_iincN (L' := [(3, .int (nI (i + 1))), (2, .int (nI (t &&& 1))), (5, .int (nI (w 124 (w 115 (104 + 4 * i))))), (4, .int (nI (104 + (4 * i)))), (0, ic_pt E 114), (1, .int (nI but))]) (pc := 106) dX12_isFit_106 3 rfl cc_iconst_1 (Nat.le_of_ble_eq_true rfl) rfl ?_
            refine xx_goto (pc := 109) 4 dX12_isFit_109 rfl ?_
            exact xx_sub [0, 1, 4, 5] rfl (ih_ (i + 1) _ (by omega) (by rw [ht, ic_bo_and1]; exact ic_bo_iff (by rw [mo_ft]; rw [show decide (i = but ∨ w 115 (106 + 4 * i) ≤ mo_rv (w 115) kd p dp i ∧ mo_rv (w 115) kd p dp i ≤ w 115 (107 + 4 * i)) = true from decide_eq_true (by omega), Bool.and_true])) (by omega))
          · refine xx_iload (pc := 70) dX12_isFit_70 0 rfl ?_
            refine xx_i2l (pc := 72) dX12_isFit_72 ?_
            refine xx_aload_nP (pc := 73) dX12_isFit_73 4 rfl rfl ?_
            refine xx_getR (pc := 74) 115 dX12_isFit_74 sh_114 fX12_7_12 rfl rfl (by decide) ?_
            refine xx_iload (pc := 77) dX12_isFit_77 1 rfl ?_
            refine xx_iconst (pc := 79) dX12_isFit_79 cc_iconst_2 ?_
            refine xx_iaddN (pc := 80) dX12_isFit_80 ?_
            refine xx_ialdE (j2 := 106 + 4 * i) (pc := 81) dX12_isFit_81 sh_115 (by omega) (by omega) (by decide) ?_
            refine xx_i2l (pc := 82) dX12_isFit_82 ?_
            refine xx_aload_nP (pc := 83) dX12_isFit_83 4 rfl rfl ?_
            refine xx_getR (pc := 84) 115 dX12_isFit_84 sh_114 fX12_7_12 rfl rfl (by decide) ?_
            refine xx_iload (pc := 87) dX12_isFit_87 1 rfl ?_
            refine xx_iconst (pc := 89) dX12_isFit_89 cc_iconst_3 ?_
            refine xx_iaddN (pc := 90) dX12_isFit_90 ?_
            refine xx_ialdE (j2 := 107 + 4 * i) (pc := 91) dX12_isFit_91 sh_115 (by omega) (by omega) (by decide) ?_
            refine xx_i2l (pc := 92) dX12_isFit_92 ?_
            refine xx_callS0 (pc := 93) (st := [.int (nI t)]) (cM_isIn (w 115 (106 + 4 * i) ≤ (w 124 (w 115 (104 + 4 * i))) ∧ (w 124 (w 115 (104 + 4 * i))) ≤ (w 115 (107 + 4 * i))) (ll_in (lo := w 115 (106 + 4 * i)) (hi := w 115 (107 + 4 * i)) (by omega) (ll_nn (by omega)) (ll_nn (by omega)) (by omega))) kX12_isIn sX12_66 dX12_isFit_93 rfl rfl (Nat.le_of_ble_eq_true rfl) ⟨Nat.le_of_ble_eq_true rfl, Nat.le_of_ble_eq_true rfl⟩ ⟨Nat.zero_le _, Nat.zero_le _⟩ (ic_ke ?_)
            refine xx_if_eqB (pc := 96) 103 dX12_isFit_96 rfl (fun c4 => ?_) (fun c4 => ?_)
            · refine xx_iconst (pc := 103) dX12_isFit_103 cc_iconst_0 ?_
              refine xx_iandN (pc := 104) dX12_isFit_104 ?_
              refine xx_istore_n (L' := [(2, .int (nI (t &&& 0))), (5, .int (nI (w 124 (w 115 (104 + 4 * i))))), (4, .int (nI (104 + (4 * i)))), (3, .int (nI i)), (0, ic_pt E 114), (1, .int (nI but))]) (pc := 105) dX12_isFit_105 rfl (Nat.le_of_ble_eq_true rfl) rfl ?_
              refine xx_iincN (L' := [(3, .int (nI (i + 1))), (2, .int (nI (t &&& 0))), (5, .int (nI (w 124 (w 115 (104 + 4 * i))))), (4, .int (nI (104 + (4 * i)))), (0, ic_pt E 114), (1, .int (nI but))]) (pc := 106) dX12_isFit_106 3 rfl cc_iconst_1 (Nat.le_of_ble_eq_true rfl) rfl ?_
              refine xx_goto (pc := 109) 4 dX12_isFit_109 rfl ?_
              exact xx_sub [0, 1, 4, 5] rfl (ih_ (i + 1) _ (by omega) (by rw [Nat.and_zero]; exact (ic_bo_f (by rw [mo_ft]; rw [show decide (i = but ∨ w 115 (106 + 4 * i) ≤ mo_rv (w 115) kd p dp i ∧ mo_rv (w 115) kd p dp i ≤ w 115 (107 + 4 * i)) = false from decide_eq_false (by omega), Bool.and_false]; decide)).symm) (by omega))
            · refine xx_iconst (pc := 99) dX12_isFit_99 cc_iconst_1 ?_
              refine xx_goto (pc := 100) 104 dX12_isFit_100 rfl ?_
              refine xx_iandN (pc := 104) dX12_isFit_104 ?_
              refine xx_istore_n (L' := [(2, .int (nI (t &&& 1))), (5, .int (nI (w 124 (w 115 (104 + 4 * i))))), (4, .int (nI (104 + (4 * i)))), (3, .int (nI i)), (0, ic_pt E 114), (1, .int (nI but))]) (pc := 105) dX12_isFit_105 rfl (Nat.le_of_ble_eq_true rfl) rfl ?_
              refine xx_iincN (L' := [(3, .int (nI (i + 1))), (2, .int (nI (t &&& 1))), (5, .int (nI (w 124 (w 115 (104 + 4 * i))))), (4, .int (nI (104 + (4 * i)))), (0, ic_pt E 114), (1, .int (nI but))]) (pc := 106) dX12_isFit_106 3 rfl cc_iconst_1 (Nat.le_of_ble_eq_true rfl) rfl ?_
              refine xx_goto (pc := 109) 4 dX12_isFit_109 rfl ?_
              exact xx_sub [0, 1, 4, 5] rfl (ih_ (i + 1) _ (by omega) (by rw [ht, ic_bo_and1]; exact ic_bo_iff (by rw [mo_ft]; rw [show decide (i = but ∨ w 115 (106 + 4 * i) ≤ mo_rv (w 115) kd p dp i ∧ mo_rv (w 115) kd p dp i ≤ w 115 (107 + 4 * i)) = true from decide_eq_true (by omega), Bool.and_true])) (by omega))
        · have hrv : mo_rv (w 115) kd p dp i = w 123 (w 115 (104 + 4 * i)) := by unfold mo_rv; rw [if_pos (by omega), v1]
          refine xx_aload_nP (pc := 35) dX12_isFit_35 3 rfl rfl ?_
          refine xx_getR (pc := 36) 123 dX12_isFit_36 sh_114 fX12_34_12 rfl rfl (by decide) ?_
          refine xx_aload_nP (pc := 39) dX12_isFit_39 3 rfl rfl ?_
          refine xx_getR (pc := 40) 115 dX12_isFit_40 sh_114 fX12_7_12 rfl rfl (by decide) ?_
          refine xx_iload (pc := 43) dX12_isFit_43 0 rfl ?_
          refine xx_ialdE (j2 := 104 + 4 * i) (pc := 45) dX12_isFit_45 sh_115 (by omega) (by omega) (by decide) ?_
          refine xx_ialdN (pc := 46) dX12_isFit_46 sh_123 (by omega) (by decide) ?_
          refine xx_goto (pc := 47) 62 dX12_isFit_47 rfl ?_
          refine xx_istore (L' := [(5, .int (nI (w 123 (w 115 (104 + 4 * i))))), (4, .int (nI (104 + (4 * i)))), (3, .int (nI i)), (2, .int (nI t)), (0, ic_pt E 114), (1, .int (nI but))]) (pc := 62) dX12_isFit_62 (Nat.le_of_ble_eq_true rfl) rfl ?_
          refine xx_iload_n (pc := 64) dX12_isFit_64 3 rfl rfl ?_
          refine xx_iload_n (pc := 65) dX12_isFit_65 2 rfl rfl ?_
          refine xx_iload_n (pc := 66) dX12_isFit_66 5 rfl rfl ?_
          refine xx_icmp_eqN (pc := 67) 99 dX12_isFit_67 rfl (by omega) (by omega) (fun c5 => ?_) (fun c5 => ?_)
          · refine xx_iconst (pc := 99) dX12_isFit_99 cc_iconst_1 ?_
            refine xx_goto (pc := 100) 104 dX12_isFit_100 rfl ?_
            refine xx_iandN (pc := 104) dX12_isFit_104 ?_
            refine xx_istore_n (L' := [(2, .int (nI (t &&& 1))), (5, .int (nI (w 123 (w 115 (104 + 4 * i))))), (4, .int (nI (104 + (4 * i)))), (3, .int (nI i)), (0, ic_pt E 114), (1, .int (nI but))]) (pc := 105) dX12_isFit_105 rfl (Nat.le_of_ble_eq_true rfl) rfl ?_
            refine xx_iincN (L' := [(3, .int (nI (i + 1))), (2, .int (nI (t &&& 1))), (5, .int (nI (w 123 (w 115 (104 + 4 * i))))), (4, .int (nI (104 + (4 * i)))), (0, ic_pt E 114), (1, .int (nI but))]) (pc := 106) dX12_isFit_106 3 rfl cc_iconst_1 (Nat.le_of_ble_eq_true rfl) rfl ?_
            refine xx_goto (pc := 109) 4 dX12_isFit_109 rfl ?_
            exact xx_sub [0, 1, 4, 5] rfl (ih_ (i + 1) _ (by omega) (by rw [ht, ic_bo_and1]; exact ic_bo_iff (by rw [mo_ft]; rw [show decide (i = but ∨ w 115 (106 + 4 * i) ≤ mo_rv (w 115) kd p dp i ∧ mo_rv (w 115) kd p dp i ≤ w 115 (107 + 4 * i)) = true from decide_eq_true (by omega), Bool.and_true])) (by omega))
          · refine xx_iload (pc := 70) dX12_isFit_70 0 rfl ?_
            refine xx_i2l (pc := 72) dX12_isFit_72 ?_
            refine xx_aload_nP (pc := 73) dX12_isFit_73 4 rfl rfl ?_
            refine xx_getR (pc := 74) 115 dX12_isFit_74 sh_114 fX12_7_12 rfl rfl (by decide) ?_
            refine xx_iload (pc := 77) dX12_isFit_77 1 rfl ?_
            refine xx_iconst (pc := 79) dX12_isFit_79 cc_iconst_2 ?_
            refine xx_iaddN (pc := 80) dX12_isFit_80 ?_
            refine xx_ialdE (j2 := 106 + 4 * i) (pc := 81) dX12_isFit_81 sh_115 (by omega) (by omega) (by decide) ?_
            refine xx_i2l (pc := 82) dX12_isFit_82 ?_
            refine xx_aload_nP (pc := 83) dX12_isFit_83 4 rfl rfl ?_
            refine xx_getR (pc := 84) 115 dX12_isFit_84 sh_114 fX12_7_12 rfl rfl (by decide) ?_
            refine xx_iload (pc := 87) dX12_isFit_87 1 rfl ?_
            refine xx_iconst (pc := 89) dX12_isFit_89 cc_iconst_3 ?_
            refine xx_iaddN (pc := 90) dX12_isFit_90 ?_
            refine xx_ialdE (j2 := 107 + 4 * i) (pc := 91) dX12_isFit_91 sh_115 (by omega) (by omega) (by decide) ?_
            refine xx_i2l (pc := 92) dX12_isFit_92 ?_
            refine xx_callS0 (pc := 93) (st := [.int (nI t)]) (cM_isIn (w 115 (106 + 4 * i) ≤ (w 123 (w 115 (104 + 4 * i))) ∧ (w 123 (w 115 (104 + 4 * i))) ≤ (w 115 (107 + 4 * i))) (ll_in (lo := w 115 (106 + 4 * i)) (hi := w 115 (107 + 4 * i)) (by omega) (ll_nn (by omega)) (ll_nn (by omega)) (by omega))) kX12_isIn sX12_66 dX12_isFit_93 rfl rfl (Nat.le_of_ble_eq_true rfl) ⟨Nat.le_of_ble_eq_true rfl, Nat.le_of_ble_eq_true rfl⟩ ⟨Nat.zero_le _, Nat.zero_le _⟩ (ic_ke ?_)
            refine xx_if_eqB (pc := 96) 103 dX12_isFit_96 rfl (fun c6 => ?_) (fun c6 => ?_)
            · refine xx_iconst (pc := 103) dX12_isFit_103 cc_iconst_0 ?_
              refine xx_iandN (pc := 104) dX12_isFit_104 ?_
              refine xx_istore_n (L' := [(2, .int (nI (t &&& 0))), (5, .int (nI (w 123 (w 115 (104 + 4 * i))))), (4, .int (nI (104 + (4 * i)))), (3, .int (nI i)), (0, ic_pt E 114), (1, .int (nI but))]) (pc := 105) dX12_isFit_105 rfl (Nat.le_of_ble_eq_true rfl) rfl ?_
              refine xx_iincN (L' := [(3, .int (nI (i + 1))), (2, .int (nI (t &&& 0))), (5, .int (nI (w 123 (w 115 (104 + 4 * i))))), (4, .int (nI (104 + (4 * i)))), (0, ic_pt E 114), (1, .int (nI but))]) (pc := 106) dX12_isFit_106 3 rfl cc_iconst_1 (Nat.le_of_ble_eq_true rfl) rfl ?_
              refine xx_goto (pc := 109) 4 dX12_isFit_109 rfl ?_
              exact xx_sub [0, 1, 4, 5] rfl (ih_ (i + 1) _ (by omega) (by rw [Nat.and_zero]; exact (ic_bo_f (by rw [mo_ft]; rw [show decide (i = but ∨ w 115 (106 + 4 * i) ≤ mo_rv (w 115) kd p dp i ∧ mo_rv (w 115) kd p dp i ≤ w 115 (107 + 4 * i)) = false from decide_eq_false (by omega), Bool.and_false]; decide)).symm) (by omega))
            · refine xx_iconst (pc := 99) dX12_isFit_99 cc_iconst_1 ?_
              refine xx_goto (pc := 100) 104 dX12_isFit_100 rfl ?_
              refine xx_iandN (pc := 104) dX12_isFit_104 ?_
              refine xx_istore_n (L' := [(2, .int (nI (t &&& 1))), (5, .int (nI (w 123 (w 115 (104 + 4 * i))))), (4, .int (nI (104 + (4 * i)))), (3, .int (nI i)), (0, ic_pt E 114), (1, .int (nI but))]) (pc := 105) dX12_isFit_105 rfl (Nat.le_of_ble_eq_true rfl) rfl ?_
              refine xx_iincN (L' := [(3, .int (nI (i + 1))), (2, .int (nI (t &&& 1))), (5, .int (nI (w 123 (w 115 (104 + 4 * i))))), (4, .int (nI (104 + (4 * i)))), (0, ic_pt E 114), (1, .int (nI but))]) (pc := 106) dX12_isFit_106 3 rfl cc_iconst_1 (Nat.le_of_ble_eq_true rfl) rfl ?_
              refine xx_goto (pc := 109) 4 dX12_isFit_109 rfl ?_
              exact xx_sub [0, 1, 4, 5] rfl (ih_ (i + 1) _ (by omega) (by rw [ht, ic_bo_and1]; exact ic_bo_iff (by rw [mo_ft]; rw [show decide (i = but ∨ w 115 (106 + 4 * i) ≤ mo_rv (w 115) kd p dp i ∧ mo_rv (w 115) kd p dp i ≤ w 115 (107 + 4 * i)) = true from decide_eq_true (by omega), Bool.and_true])) (by omega))
  refine xx_iconst (pc := 0) dX12_isFit_0 cc_iconst_1 ?_
  refine xx_istore_n (L' := [(2, .int (nI 1)), (0, ic_pt E 114), (1, .int (nI but))]) (pc := 1) dX12_isFit_1 rfl (Nat.le_of_ble_eq_true rfl) rfl ?_
  refine xx_iconst (pc := 2) dX12_isFit_2 cc_iconst_0 ?_
  refine xx_istore_n (L' := [(3, .int (nI 0)), (2, .int (nI 1)), (0, ic_pt E 114), (1, .int (nI but))]) (pc := 3) dX12_isFit_3 rfl (Nat.le_of_ble_eq_true rfl) rfl ?_
  exact xx_sub [0, 1, 2, 3] rfl (lp (w 115 6 + 1) 0 1 (by omega) (ic_bo_t rfl).symm (by omega))

theorem mo_fst_le2 (P : Nat → Bool) : ∀ n, n ≤ 500 → mo_fst P n ≤ 4294967293
  | 0, _ => Nat.le_refl _
  | n + 1, h => by
    rw [mo_fst]
    split
    · omega
    · exact mo_fst_le2 P n (by omega)
set_option maxHeartbeats 4000000 in
set_option maxRecDepth 100000 in
theorem cM_findsFits {l : Launch} {E : ic_E} {w : ic_w} {but : Nat} (hb : but < 2 ^ 32) (hI : In (w 115)) (hP : Rp (w 115)) : ic_C l E mX12_findsFits 4 0 0 False [ic_pt E 114, .int (nI but)] SHs (hn w) SHs (ic_qv (fun h_ => ∃ w2, h_ = hn w2 ∧ mo_s2 w w2 ∧ w2 114 25 = mo_lfs (w 115) but ∧ w2 114 26 = mo_lf1 (w 115) but)) := by
  refine ic_intro (by decide +kernel) (Nat.le_of_ble_eq_true rfl) ?_
  show xx l E _ _ 0 [(0, ic_pt E 114), (1, .int (nI but))] _ _ _
  have hc6 := hI.2.2.1
  have lp : ∀ (n_ : Nat) (k : Nat) (u : ic_w), 100 ≤ k → k ≤ 600 → mo_s2 w u → u 114 25 = mo_cnt (fun i => mo_lf (w 115) but (100 + i)) (k - 100) → u 114 26 = mo_fst (fun i => mo_lf (w 115) but (100 + i)) (k - 100) → 600 - k < n_ → xx l E (ic_fr E mX12_findsFits 4 0 0 False SHs (ic_qv (fun h_ => ∃ w2, h_ = hn w2 ∧ mo_s2 w w2 ∧ w2 114 25 = mo_lfs (w 115) but ∧ w2 114 26 = mo_lf1 (w 115) but))) (0, 0) 14 [(2, .int (nI k)), (0, ic_pt E 114), (1, .int (nI but))] [] SHs (hn u) := by
    intro n_
    induction n_ with
    | zero => intro k u hk0 hk hs2 h25 h26 hm_; exact absurd hm_ (Nat.not_lt_zero _)
    | succ n_ ih_ =>
      intro k u hk0 hk hs2 h25 h26 hm_
      have hcl := mo_cnt_le (fun i => mo_lf (w 115) but (100 + i)) (k - 100)
      have hI_u : In (u 115) := by rw [mo_s2_115 hs2]; exact hI
      have hf26 : u 114 26 < 2 ^ 32 := by rw [h26]; by_cases z : mo_cnt (fun i => mo_lf (w 115) but (100 + i)) (k - 100) = 0; exact Nat.lt_of_le_of_lt (mo_fst_le2 _ _ (by omega)) (by decide); exact Nat.lt_trans (mo_fst_le _ _ (by omega) z).2 (by decide)
      refine xx_iload_n (pc := 14) dX12_findsFits_14 0 rfl rfl ?_
      refine xx_sipush (pc := 15) dX12_findsFits_15 cc_sipush_600 ?_
      refine xx_icmp_geN (pc := 18) 98 dX12_findsFits_18 rfl (by omega) (by omega) (fun c1 => ?_) (fun c1 => ?_)
      · exact xx_vret (pc := 98) dX12_findsFits_98 rfl (Nat.le_refl _) (Nat.le_refl _) (ic_rv0 ⟨u, rfl, hs2, by rw [h25, show k - 100 = 500 by omega]; rfl, by rw [h26, show k - 100 = 500 by omega]; rfl⟩)
      · refine xx_aload_nP (pc := 21) dX12_findsFits_21 1 rfl rfl ?_
        refine xx_iload_n (pc := 22) dX12_findsFits_22 0 rfl rfl ?_
        refine xx_bipush (pc := 23) dX12_findsFits_23 cc_bipush_100 ?_
        refine xx_idivN (pc := 25) dX12_findsFits_25 (by omega) (by omega) (by omega) ?_
        refine xx_iload_n (pc := 26) dX12_findsFits_26 0 rfl rfl ?_
        refine xx_bipush (pc := 27) dX12_findsFits_27 cc_bipush_10 ?_
        refine xx_idivN (pc := 29) dX12_findsFits_29 (by omega) (by omega) (by omega) ?_
        refine xx_bipush (pc := 30) dX12_findsFits_30 cc_bipush_10 ?_
        refine xx_iremN (pc := 32) dX12_findsFits_32 (by omega) (by omega) (by omega) ?_
        refine xx_iload_n (pc := 33) dX12_findsFits_33 0 rfl rfl ?_
        refine xx_bipush (pc := 34) dX12_findsFits_34 cc_bipush_10 ?_
        refine xx_iremN (pc := 36) dX12_findsFits_36 (by omega) (by omega) (by omega) ?_
        refine xx_bipush (pc := 37) dX12_findsFits_37 cc_bipush_9 ?_
        refine xx_imulN (pc := 39) dX12_findsFits_39 ?_
        refine xx_callV0 (pc := 40) (st := []) sh_114 (cM_rides (w := u) (kd := k / 100) (p := k / 10 % 10) (dp := k % 10 * 9) (by omega) (by omega) (by omega) hI_u) kX12_rides vX12_324_12 dX12_findsFits_40 rfl rfl (Nat.le_of_ble_eq_true rfl) ⟨Nat.le_of_ble_eq_true rfl, Nat.le_of_ble_eq_true rfl⟩ ⟨Nat.zero_le _, Nat.zero_le _⟩ (ic_kv (fun h_ qw2 => ?_))
        obtain ⟨w2, rfl, gw2, vw2⟩ := qw2
        have r_w2 : w2 115 = w 115 := by rw [gw2 115 (by omega) (by omega)]; exact mo_s2_115 hs2
        have hI_w2 : In (w2 115) := by rw [r_w2]; exact hI
        have z25 : w2 114 25 = mo_cnt (fun i => mo_lf (w 115) but (100 + i)) (k - 100) := by rw [gw2 114 (by omega) (by omega)]; exact h25
        have z26 : w2 114 26 = mo_fst (fun i => mo_lf (w 115) but (100 + i)) (k - 100) := by rw [gw2 114 (by omega) (by omega)]; exact h26
        have s2_w2 : mo_s2 w w2 := mo_s2_tr hs2 ⟨fun a q => gw2 a (fun z => by rw [z] at q; revert q; decide) (fun z => by rw [z] at q; revert q; decide), fun k _ => by rw [gw2 114 (by omega) (by omega)]⟩
        refine xx_iload_n (pc := 43) dX12_findsFits_43 0 rfl rfl ?_
        refine xx_bipush (pc := 44) dX12_findsFits_44 cc_bipush_10 ?_
        refine xx_idivN (pc := 46) dX12_findsFits_46 (by omega) (by omega) (by omega) ?_
        refine xx_bipush (pc := 47) dX12_findsFits_47 cc_bipush_10 ?_
        refine xx_iremN (pc := 49) dX12_findsFits_49 (by omega) (by omega) (by omega) ?_
        refine xx_bipush (pc := 50) dX12_findsFits_50 cc_bipush_6 ?_
        refine xx_icmp_geN (pc := 52) 92 dX12_findsFits_52 rfl (by omega) (by omega) (fun c4 => ?_) (fun c4 => ?_)
        · have hln : mo_lf (w 115) but (100 + (k - 100)) = false := by rw [show 100 + (k - 100) = k by omega]; unfold mo_lf; rw [show decide (k / 10 % 10 < 6) = false from decide_eq_false (by omega), Bool.false_and]
          refine xx_iincN (L' := [(2, .int (nI (k + 1))), (0, ic_pt E 114), (1, .int (nI but))]) (pc := 92) dX12_findsFits_92 0 rfl cc_iconst_1 (Nat.le_of_ble_eq_true rfl) rfl ?_
          refine xx_goto (pc := 95) 14 dX12_findsFits_95 rfl ?_
          exact xx_sub [0, 1, 2] rfl (ih_ (k + 1) w2 (by omega) (by omega) s2_w2 (by rw [show k + 1 - 100 = k - 100 + 1 by omega, mo_cnt_f (P := (fun i => mo_lf (w 115) but (100 + i))) hln, z25]) (by rw [show k + 1 - 100 = k - 100 + 1 by omega, mo_fst, if_neg (fun z => by rw [hln] at z; exact absurd z.2 (by decide)), z26]) (by omega))
        · refine xx_aload_nP (pc := 55) dX12_findsFits_55 1 rfl rfl ?_
          refine xx_iload_n (pc := 56) dX12_findsFits_56 2 rfl rfl ?_
          refine xx_callV0 (pc := 57) (st := []) sh_114 (cM_isFit (w := w2) (but := but) (kd := k / 100) (p := k / 10 % 10) (dp := k % 10 * 9) hb (by omega) (by omega) hI_w2 (by rw [r_w2]; exact hP) (by rw [r_w2]; exact (by rw [mo_s2_115 hs2] at vw2; exact vw2))) kX12_isFit vX12_327_12 dX12_findsFits_57 rfl rfl (Nat.le_of_ble_eq_true rfl) ⟨Nat.le_of_ble_eq_true rfl, Nat.le_of_ble_eq_true rfl⟩ ⟨Nat.zero_le _, Nat.zero_le _⟩ (ic_ke ?_)
          refine xx_if_eqB (pc := 60) 92 dX12_findsFits_60 rfl (fun c5 => ?_) (fun c5 => ?_)
          · have hln : mo_lf (w 115) but (100 + (k - 100)) = false := by rw [show 100 + (k - 100) = k by omega]; unfold mo_lf; rw [r_w2] at c5; rw [Bool.eq_false_iff.mpr c5, Bool.and_false]
            refine xx_iincN (L' := [(2, .int (nI (k + 1))), (0, ic_pt E 114), (1, .int (nI but))]) (pc := 92) dX12_findsFits_92 0 rfl cc_iconst_1 (Nat.le_of_ble_eq_true rfl) rfl ?_
            refine xx_goto (pc := 95) 14 dX12_findsFits_95 rfl ?_
            exact xx_sub [0, 1, 2] rfl (ih_ (k + 1) w2 (by omega) (by omega) s2_w2 (by rw [show k + 1 - 100 = k - 100 + 1 by omega, mo_cnt_f (P := (fun i => mo_lf (w 115) but (100 + i))) hln, z25]) (by rw [show k + 1 - 100 = k - 100 + 1 by omega, mo_fst, if_neg (fun z => by rw [hln] at z; exact absurd z.2 (by decide)), z26]) (by omega))
          · have hlf : mo_lf (w 115) but (100 + (k - 100)) = true := by rw [show 100 + (k - 100) = k by omega]; unfold mo_lf; rw [r_w2] at c5; rw [c5, Bool.and_true]; exact decide_eq_true (by omega)
            refine xx_aload_nP (pc := 63) dX12_findsFits_63 1 rfl rfl ?_
            refine xx_aload_nP (pc := 64) dX12_findsFits_64 1 rfl rfl ?_
            refine xx_getN (pc := 65) dX12_findsFits_65 sh_114 fX12_318_12 rfl ?_
            refine xx_if_neN (pc := 68) 75 dX12_findsFits_68 rfl (by omega) (fun c6 => ?_) (fun c6 => ?_)
            · refine xx_aload_nP (pc := 75) dX12_findsFits_75 1 rfl rfl ?_
              refine xx_getN (pc := 76) dX12_findsFits_76 sh_114 fX12_321_12 rfl ?_
              refine xx_putN (pc := 79) dX12_findsFits_79 sh_114 fX12_321_12 rfl rfl ?_
              refine xx_nw (fun w7 ew7 => ?_)
              have y25 : w7 114 25 = mo_cnt (fun i => mo_lf (w 115) but (100 + i)) (k - 100) := by rw [ew7, wu_k _ _ _ _ (by omega), z25]
              refine xx_aload_nP (pc := 82) dX12_findsFits_82 1 rfl rfl ?_
              refine xx_dup (pc := 83) dX12_findsFits_83 rfl ?_
              refine xx_getN (pc := 84) dX12_findsFits_84 sh_114 fX12_318_12 rfl ?_
              refine xx_iconst (pc := 87) dX12_findsFits_87 cc_iconst_1 ?_
              refine xx_iaddN (pc := 88) dX12_findsFits_88 ?_
              refine xx_putN (pc := 89) dX12_findsFits_89 sh_114 fX12_318_12 rfl rfl ?_
              refine xx_nw (fun w8 ew8 => ?_)
              refine xx_iincN (L' := [(2, .int (nI (k + 1))), (0, ic_pt E 114), (1, .int (nI but))]) (pc := 92) dX12_findsFits_92 0 rfl cc_iconst_1 (Nat.le_of_ble_eq_true rfl) rfl ?_
              refine xx_goto (pc := 95) 14 dX12_findsFits_95 rfl ?_
              have hst26 : w8 114 26 = mo_fst (fun i => mo_lf (w 115) but (100 + i)) (k - 100 + 1) := by
                rw [ew8, wu_k _ _ _ _ (by omega), ew7, wu_s, mo_fst]
                first | rw [if_pos ⟨by omega, hlf⟩]; omega | (rw [if_neg (fun z => by have := z.1; omega)]; exact z26)
              exact xx_sub [0, 1, 2] rfl (ih_ (k + 1) w8 (by omega) (by omega) (mo_s2_tr s2_w2 (mo_s2_tr (mo_s2_u ew7 (by decide) (fun _ => by decide)) (mo_s2_u ew8 (by decide) (fun _ => by decide)))) (by rw [show k + 1 - 100 = k - 100 + 1 by omega, mo_cnt_t (P := (fun i => mo_lf (w 115) but (100 + i))) hlf, ew8, wu_s, y25]) (by rw [show k + 1 - 100 = k - 100 + 1 by omega]; exact hst26) (by omega))
            · refine xx_iload_n (pc := 71) dX12_findsFits_71 0 rfl rfl ?_
              refine xx_goto (pc := 72) 79 dX12_findsFits_72 rfl ?_
              refine xx_putN (pc := 79) dX12_findsFits_79 sh_114 fX12_321_12 rfl rfl ?_
              refine xx_nw (fun w9 ew9 => ?_)
              have y25 : w9 114 25 = mo_cnt (fun i => mo_lf (w 115) but (100 + i)) (k - 100) := by rw [ew9, wu_k _ _ _ _ (by omega), z25]
              refine xx_aload_nP (pc := 82) dX12_findsFits_82 1 rfl rfl ?_
              refine xx_dup (pc := 83) dX12_findsFits_83 rfl ?_
              refine xx_getN (pc := 84) dX12_findsFits_84 sh_114 fX12_318_12 rfl ?_
              refine xx_iconst (pc := 87) dX12_findsFits_87 cc_iconst_1 ?_
              refine xx_iaddN (pc := 88) dX12_findsFits_88 ?_
              refine xx_putN (pc := 89) dX12_findsFits_89 sh_114 fX12_318_12 rfl rfl ?_
              refine xx_nw (fun w10 ew10 => ?_)
              refine xx_iincN (L' := [(2, .int (nI (k + 1))), (0, ic_pt E 114), (1, .int (nI but))]) (pc := 92) dX12_findsFits_92 0 rfl cc_iconst_1 (Nat.le_of_ble_eq_true rfl) rfl ?_
              refine xx_goto (pc := 95) 14 dX12_findsFits_95 rfl ?_
              have hst26 : w10 114 26 = mo_fst (fun i => mo_lf (w 115) but (100 + i)) (k - 100 + 1) := by
                rw [ew10, wu_k _ _ _ _ (by omega), ew9, wu_s, mo_fst]
                first | rw [if_pos ⟨by omega, hlf⟩]; omega | (rw [if_neg (fun z => by have := z.1; omega)]; exact z26)
              exact xx_sub [0, 1, 2] rfl (ih_ (k + 1) w10 (by omega) (by omega) (mo_s2_tr s2_w2 (mo_s2_tr (mo_s2_u ew9 (by decide) (fun _ => by decide)) (mo_s2_u ew10 (by decide) (fun _ => by decide)))) (by rw [show k + 1 - 100 = k - 100 + 1 by omega, mo_cnt_t (P := (fun i => mo_lf (w 115) but (100 + i))) hlf, ew10, wu_s, y25]) (by rw [show k + 1 - 100 = k - 100 + 1 by omega]; exact hst26) (by omega))
  refine xx_aload_nP (pc := 0) dX12_findsFits_0 0 rfl rfl ?_
  refine xx_iconst (pc := 1) dX12_findsFits_1 cc_iconst_0 ?_
  refine xx_putN (pc := 2) dX12_findsFits_2 sh_114 fX12_318_12 rfl rfl ?_
  refine xx_nw (fun w201 ew201 => ?_)
  refine xx_aload_nP (pc := 5) dX12_findsFits_5 0 rfl rfl ?_
  refine xx_bipush (pc := 6) dX12_findsFits_6 cc_bipush_m3 ?_
  refine xx_putN (pc := 8) dX12_findsFits_8 sh_114 fX12_321_12 rfl rfl ?_
  refine xx_nw (fun w202 ew202 => ?_)
  refine xx_bipush (pc := 11) dX12_findsFits_11 cc_bipush_100 ?_
  refine xx_istore_n (L' := [(2, .int (nI 100)), (0, ic_pt E 114), (1, .int (nI but))]) (pc := 13) dX12_findsFits_13 rfl (Nat.le_of_ble_eq_true rfl) rfl ?_
  exact xx_sub [0, 1, 2] rfl (lp 501 100 w202 (by omega) (by omega) (mo_s2_tr (mo_s2_u ew201 (by decide) (fun _ => by decide)) (mo_s2_u ew202 (by decide) (fun _ => by decide))) (by rw [ew202, wu_k _ _ _ _ (by omega), ew201, wu_s]; rfl) (by rw [ew202, wu_s]; rfl) (by omega))

