/-! act -/
theorem mo_riw_40 {w : ic_w} (h : w 114 40 ≤ 1) : mo_riw w 114 40 ≤ 1 := by
  unfold mo_riw mo_rw3
  split
  · split
    · rw [mo_lgs_f _ _ (by omega), mo_row_40]
      exact mo_P_le _
    · rw [mo_row_40]
      exact mo_P_le _
  · rw [mo_row_40]
    exact mo_P_le _
def mo_av (w : ic_w) (a x : Nat) : Nat := if a = 0 then mo_sd (w 114 37) (w 114 38) x else if a = 1 then mo_rd (w 114 37) (w 114 38) (w 114 39) x else if a = 2 then mo_rov w x else mo_ris w x
def mo_aw (w : ic_w) (a : Nat) : ic_w := if a = 0 then mo_lgs w (mo_sdl (w 114 37)) else if a = 1 then mo_lgs w (mo_rdl (w 114 37)) else if a = 2 then mo_row w else mo_riw w
def mo_ac0 (w : ic_w) (i : Nat) : ic_w := wu (wu (wu (wu (wu w 114 36 0) 114 40 0) 114 37 (it (w 115) (w 130 i) 0)) 114 38 (w 130 i)) 114 39 (it (w 115) (w 130 i) 3)
theorem mo_aw_40 {w : ic_w} (h : w 114 40 ≤ 1) (a : Nat) : mo_aw w a 114 40 ≤ 1 := by
  unfold mo_aw
  split
  · rw [mo_lgs_f _ _ (by omega)]
    exact h
  · split
    · rw [mo_lgs_f _ _ (by omega)]
      exact h
    · split
      · rw [mo_row_40]
        exact mo_P_le _
      · exact mo_riw_40 h

set_option maxHeartbeats 4000000 in
set_option maxRecDepth 100000 in
theorem cM_act {l : Launch} {E : ic_E} {w : ic_w} {i : Nat} (hi_ : i < 2 ^ 32) {a : Nat} (ha_ : a < 2 ^ 32) {x : Nat} (hx_ : x < 2 ^ 32) (hV : mo_Sv w) (hI : In (w 115)) : ic_C l E mX12_act 8 0 0 False [ic_pt E 114, .int (nI i), .int (nI a), .int (nI x)] SHs (hn w) SHs (ic_qi (fun v_ h_ => v_ = nI (if i ≤ 3 ∧ a ≤ 3 ∧ mo_ho w i = 1 then (if mo_aw (mo_ac0 w i) a 114 40 = 0 then mo_av (mo_ac0 w i) a x else 4294967281) else 0) ∧ h_ = hn (if i ≤ 3 ∧ a ≤ 3 ∧ mo_ho w i = 1 then mo_aw (mo_ac0 w i) a else wu w 114 36 0))) := by
  refine ic_intro (by decide +kernel) (Nat.le_of_ble_eq_true rfl) ?_
  show xx l E _ _ 0 [(0, ic_pt E 114), (1, .int (nI i)), (2, .int (nI a)), (3, .int (nI x))] _ _ _
  have hn0 := hI.n
  refine xx_aload_nP (pc := 0) dX12_act_0 0 rfl rfl ?_
  refine xx_iconst (pc := 1) dX12_act_1 cc_iconst_0 ?_
  refine xx_putN (pc := 2) dX12_act_2 sh_114 fX12_373_12 rfl rfl ?_
  refine xx_nw (fun w1 ew1 => ?_)
  have r115_w1 : w1 115 = w 115 := by rw [ew1]; exact wu_row _ _ _ (by omega)
  have r129_w1 : w1 129 = w 129 := by rw [ew1]; exact wu_row _ _ _ (by omega)
  have r130_w1 : w1 130 = w 130 := by rw [ew1]; exact wu_row _ _ _ (by omega)
  have hI_w1 : In (w1 115) := by rw [r115_w1]; exact hI
  have hV_w1 : mo_Sv w1 := by intro i_ hi_; have := hV i_ hi_; exact ⟨by rw [r129_w1]; exact this.1, by rw [r130_w1]; exact this.2.1, this.2.2 |> fun z => by rw [ew1, wu_o _ _ _ _ (by omega)]; exact z⟩
  have ho_ : mo_ho w1 i = mo_ho w i := by unfold mo_ho; rw [r115_w1, r129_w1, r130_w1]
  refine xx_iload_n (pc := 5) dX12_act_5 1 rfl rfl ?_
  refine xx_callS0 (pc := 6) (st := []) (cM_isShelf (w := w1) (a := i) (by omega)) kX12_isShelf sX12_363 dX12_act_6 rfl rfl (Nat.le_of_ble_eq_true rfl) ⟨Nat.le_of_ble_eq_true rfl, Nat.le_of_ble_eq_true rfl⟩ ⟨Nat.zero_le _, Nat.zero_le _⟩ (ic_ke ?_)
  refine xx_if_eqB (pc := 9) 33 dX12_act_9 rfl (fun c2 => ?_) (fun c2 => ?_)
  · refine xx_iconst (pc := 33) dX12_act_33 cc_iconst_0 ?_
    exact xx_iret (pc := 34) dX12_act_34 rfl (rfl) (Nat.le_refl _) (Nat.le_refl _) (ic_ri ⟨by rw [if_neg (by omega)], by rw [if_neg (by omega), ew1]⟩)
  · refine xx_iload_n (pc := 12) dX12_act_12 2 rfl rfl ?_
    refine xx_i2l (pc := 13) dX12_act_13 ?_
    refine xx_lconst (v := 0) (pc := 14) dX12_act_14 rfl ?_
    refine xx_ldc2 (v := 3) (pc := 15) dX12_act_15 oX12_307 ?_
    refine xx_callS0 (pc := 18) (st := []) (cM_isIn (0 ≤ a ∧ a ≤ 3) (ll_in (lo := 0) (hi := 3) (by omega) (by decide) (by decide) (by omega))) kX12_isIn sX12_66 dX12_act_18 rfl rfl (Nat.le_of_ble_eq_true rfl) ⟨Nat.le_of_ble_eq_true rfl, Nat.le_of_ble_eq_true rfl⟩ ⟨Nat.zero_le _, Nat.zero_le _⟩ (ic_ke ?_)
    refine xx_if_eqB (pc := 21) 33 dX12_act_21 rfl (fun c3 => ?_) (fun c3 => ?_)
    · refine xx_iconst (pc := 33) dX12_act_33 cc_iconst_0 ?_
      exact xx_iret (pc := 34) dX12_act_34 rfl (rfl) (Nat.le_refl _) (Nat.le_refl _) (ic_ri ⟨by rw [if_neg (by omega)], by rw [if_neg (by omega), ew1]⟩)
    · have hhv := mo_ho_le hV (i := i) (by omega)
      refine xx_aload_nP (pc := 24) dX12_act_24 0 rfl rfl ?_
      refine xx_iload_n (pc := 25) dX12_act_25 1 rfl rfl ?_
      refine xx_callV0 (pc := 26) (st := []) sh_114 (cM_heldOn (w := w1) (i := i) (by omega) hV_w1 hI_w1) kX12_heldOn vX12_370_12 dX12_act_26 rfl rfl (Nat.le_of_ble_eq_true rfl) ⟨Nat.le_of_ble_eq_true rfl, Nat.le_of_ble_eq_true rfl⟩ ⟨Nat.zero_le _, Nat.zero_le _⟩ (ic_ke ?_)
      refine xx_iconst (pc := 29) dX12_act_29 cc_iconst_1 ?_
      refine xx_icmp_eqN (pc := 30) 35 dX12_act_30 rfl (by omega) (by omega) (fun c4 => ?_) (fun c4 => ?_)
      · have h1 := mo_ho_1 (w := w) (i := i) (by omega)
        have hb := hI.i (o := w 130 i) (by omega)
        have hz := r130_w1
        have hz2 : w1 130 i = w 130 i := by rw [r130_w1]
        refine xx_aload_nP (pc := 35) dX12_act_35 0 rfl rfl ?_
        refine xx_iconst (pc := 36) dX12_act_36 cc_iconst_0 ?_
        refine xx_putB (pc := 37) dX12_act_37 sh_114 fX12_397_12 rfl rfl (by omega) ?_
        refine xx_nw (fun w5 ew5 => ?_)
        have r115_w5 : w5 115 = w 115 := by rw [ew5]; exact (wu_row _ _ _ (by omega)).trans r115_w1
        have r129_w5 : w5 129 = w 129 := by rw [ew5]; exact (wu_row _ _ _ (by omega)).trans r129_w1
        have r130_w5 : w5 130 = w 130 := by rw [ew5]; exact (wu_row _ _ _ (by omega)).trans r130_w1
        have hI_w5 : In (w5 115) := by rw [r115_w5]; exact hI
        have z_w5 : w5 130 i = w 130 i := by rw [r130_w5]
        refine xx_aload_nP (pc := 40) dX12_act_40 0 rfl rfl ?_
        refine xx_aload_nP (pc := 41) dX12_act_41 0 rfl rfl ?_
        refine xx_aload_nP (pc := 42) dX12_act_42 0 rfl rfl ?_
        refine xx_getR (pc := 43) 130 dX12_act_43 sh_114 fX12_55_12 rfl rfl (by decide) ?_
        refine xx_iload_n (pc := 46) dX12_act_46 1 rfl rfl ?_
        refine xx_ialdN (pc := 47) dX12_act_47 sh_130 (by omega) (by decide) ?_
        refine xx_iconst (pc := 48) dX12_act_48 cc_iconst_0 ?_
        refine xx_callV0 (pc := 49) (st := [ic_pt E 114]) sh_114 (cM_its (w := w5) (o := w5 130 i) (k := 0) (by omega) (by omega)) kX12_its vX12_82_12 dX12_act_49 rfl rfl (Nat.le_of_ble_eq_true rfl) ⟨Nat.le_of_ble_eq_true rfl, Nat.le_of_ble_eq_true rfl⟩ ⟨Nat.zero_le _, Nat.zero_le _⟩ (ic_ke ?_)
        refine xx_putN (pc := 52) dX12_act_52 sh_114 fX12_382_12 rfl rfl ?_
        refine xx_nw (fun w6 ew6 => ?_)
        have r115_w6 : w6 115 = w 115 := by rw [ew6]; exact (wu_row _ _ _ (by omega)).trans r115_w5
        have r129_w6 : w6 129 = w 129 := by rw [ew6]; exact (wu_row _ _ _ (by omega)).trans r129_w5
        have r130_w6 : w6 130 = w 130 := by rw [ew6]; exact (wu_row _ _ _ (by omega)).trans r130_w5
        have hI_w6 : In (w6 115) := by rw [r115_w6]; exact hI
        have z_w6 : w6 130 i = w 130 i := by rw [r130_w6]
        refine xx_aload_nP (pc := 55) dX12_act_55 0 rfl rfl ?_
        refine xx_aload_nP (pc := 56) dX12_act_56 0 rfl rfl ?_
        refine xx_getR (pc := 57) 130 dX12_act_57 sh_114 fX12_55_12 rfl rfl (by decide) ?_
        refine xx_iload_n (pc := 60) dX12_act_60 1 rfl rfl ?_
        refine xx_ialdN (pc := 61) dX12_act_61 sh_130 (by omega) (by decide) ?_
        refine xx_putN (pc := 62) dX12_act_62 sh_114 fX12_379_12 rfl rfl ?_
        refine xx_nw (fun w7 ew7 => ?_)
        have r115_w7 : w7 115 = w 115 := by rw [ew7]; exact (wu_row _ _ _ (by omega)).trans r115_w6
        have r129_w7 : w7 129 = w 129 := by rw [ew7]; exact (wu_row _ _ _ (by omega)).trans r129_w6
        have r130_w7 : w7 130 = w 130 := by rw [ew7]; exact (wu_row _ _ _ (by omega)).trans r130_w6
        have hI_w7 : In (w7 115) := by rw [r115_w7]; exact hI
        have z_w7 : w7 130 i = w 130 i := by rw [r130_w7]
        refine xx_aload_nP (pc := 65) dX12_act_65 0 rfl rfl ?_
        refine xx_aload_nP (pc := 66) dX12_act_66 0 rfl rfl ?_
        refine xx_aload_nP (pc := 67) dX12_act_67 0 rfl rfl ?_
        refine xx_getR (pc := 68) 130 dX12_act_68 sh_114 fX12_55_12 rfl rfl (by decide) ?_
        refine xx_iload_n (pc := 71) dX12_act_71 1 rfl rfl ?_
        refine xx_ialdN (pc := 72) dX12_act_72 sh_130 (by omega) (by decide) ?_
        refine xx_iconst (pc := 73) dX12_act_73 cc_iconst_3 ?_
        refine xx_callV0 (pc := 74) (st := [ic_pt E 114]) sh_114 (cM_its (w := w7) (o := w7 130 i) (k := 3) (by omega) (by omega)) kX12_its vX12_82_12 dX12_act_74 rfl rfl (Nat.le_of_ble_eq_true rfl) ⟨Nat.le_of_ble_eq_true rfl, Nat.le_of_ble_eq_true rfl⟩ ⟨Nat.zero_le _, Nat.zero_le _⟩ (ic_ke ?_)
        refine xx_putN (pc := 77) dX12_act_77 sh_114 fX12_391_12 rfl rfl ?_
        refine xx_nw (fun w8 ew8 => ?_)
        have r115_w8 : w8 115 = w 115 := by rw [ew8]; exact (wu_row _ _ _ (by omega)).trans r115_w7
        have r129_w8 : w8 129 = w 129 := by rw [ew8]; exact (wu_row _ _ _ (by omega)).trans r129_w7
        have r130_w8 : w8 130 = w 130 := by rw [ew8]; exact (wu_row _ _ _ (by omega)).trans r130_w7
        have hI_w8 : In (w8 115) := by rw [r115_w8]; exact hI
        have eA : w8 = mo_ac0 w i := by rw [ew8]; unfold mo_ac0; rw [r115_w7, r130_w7, ew7, r130_w6, ew6, r115_w5, r130_w5, ew5, ew1]
        have h36_w8 : w8 114 36 ≤ 30 := by rw [eA]; show 0 ≤ 30; omega
        have h37_w8 : w8 114 37 ≤ 5 := by rw [eA]; show it (w 115) (w 130 i) 0 ≤ 5; omega
        have h40_w8 : w8 114 40 ≤ 1 := by rw [eA]; show 0 ≤ 1; omega
        refine xx_iload_n (pc := 80) dX12_act_80 2 rfl rfl ?_
        refine xx_if_neN (pc := 81) 92 dX12_act_81 rfl (by omega) (fun c9 => ?_) (fun c9 => ?_)
        · refine xx_iload_n (pc := 92) dX12_act_92 2 rfl rfl ?_
          refine xx_iconst (pc := 93) dX12_act_93 cc_iconst_1 ?_
          refine xx_icmp_neN (pc := 94) 105 dX12_act_94 rfl (by omega) (by omega) (fun c10 => ?_) (fun c10 => ?_)
          · refine xx_iload_n (pc := 105) dX12_act_105 2 rfl rfl ?_
            refine xx_iconst (pc := 106) dX12_act_106 cc_iconst_2 ?_
            refine xx_icmp_neN (pc := 107) 118 dX12_act_107 rfl (by omega) (by omega) (fun c11 => ?_) (fun c11 => ?_)
            · refine xx_aload_nP (pc := 118) dX12_act_118 0 rfl rfl ?_
              refine xx_iload_n (pc := 119) dX12_act_119 3 rfl rfl ?_
              refine xx_callV0 (pc := 120) (st := []) sh_114 (cM_rises (w := w8) (x := x) h36_w8 h37_w8 h40_w8) kX12_rises vX12_415_12 dX12_act_120 rfl rfl (Nat.le_of_ble_eq_true rfl) ⟨Nat.le_of_ble_eq_true rfl, Nat.le_of_ble_eq_true rfl⟩ ⟨Nat.zero_le _, Nat.zero_le _⟩ (ic_ki (fun v13 h_ qw12 => ?_))
              obtain ⟨rfl, rfl⟩ := qw12
              refine xx_nw (fun w12 ew12 => ?_)
              have eW : w12 = mo_aw (mo_ac0 w i) a := by rw [ew12, eA]; unfold mo_aw; exact ((if_neg (by omega)).trans ((if_neg (by omega)).trans (if_neg (by omega)))).symm
              have l40 : w12 114 40 ≤ 1 := by rw [eW]; exact mo_aw_40 (by show 0 ≤ 1; omega) a
              refine xx_istore (L' := [(4, .int (nI (mo_ris w8 x))), (0, ic_pt E 114), (1, .int (nI i)), (2, .int (nI a)), (3, .int (nI x))]) (pc := 123) dX12_act_123 (Nat.le_of_ble_eq_true rfl) rfl ?_
              refine xx_aload_nP (pc := 125) dX12_act_125 1 rfl rfl ?_
              refine xx_getN (pc := 126) dX12_act_126 sh_114 fX12_397_12 rfl ?_
              refine xx_if_eqN (pc := 129) 137 dX12_act_129 rfl (by omega) (fun c14 => ?_) (fun c14 => ?_)
              · refine xx_iload (pc := 137) dX12_act_137 0 rfl ?_
                exact xx_iret (pc := 139) dX12_act_139 rfl (rfl) (Nat.le_refl _) (Nat.le_refl _) (ic_ri ⟨by rw [if_pos (by omega), ← eW, if_pos (by assumption), eA]; unfold mo_av; exact congrArg nI (((if_neg (by omega)).trans ((if_neg (by omega)).trans (if_neg (by omega)))).symm), by rw [if_pos (by omega), eW]⟩)
              · refine xx_bipush (pc := 132) dX12_act_132 cc_bipush_m15 ?_
                refine xx_goto (pc := 134) 139 dX12_act_134 rfl ?_
                exact xx_iret (pc := 139) dX12_act_139 rfl (rfl) (Nat.le_refl _) (Nat.le_refl _) (ic_ri ⟨by rw [if_pos (by omega), ← eW, if_neg (by assumption)], by rw [if_pos (by omega), eW]⟩)
            · refine xx_aload_nP (pc := 110) dX12_act_110 0 rfl rfl ?_
              refine xx_iload_n (pc := 111) dX12_act_111 3 rfl rfl ?_
              refine xx_callV0 (pc := 112) (st := []) sh_114 (cM_rounds (w := w8) (x := x) h36_w8 h37_w8 h40_w8) kX12_rounds vX12_409_12 dX12_act_112 rfl rfl (Nat.le_of_ble_eq_true rfl) ⟨Nat.le_of_ble_eq_true rfl, Nat.le_of_ble_eq_true rfl⟩ ⟨Nat.zero_le _, Nat.zero_le _⟩ (ic_ki (fun v16 h_ qw15 => ?_))
              obtain ⟨rfl, rfl⟩ := qw15
              refine xx_nw (fun w15 ew15 => ?_)
              have eW : w15 = mo_aw (mo_ac0 w i) a := by rw [ew15, eA]; unfold mo_aw; exact ((if_neg (by omega)).trans ((if_neg (by omega)).trans (if_pos (by omega)))).symm
              have l40 : w15 114 40 ≤ 1 := by rw [eW]; exact mo_aw_40 (by show 0 ≤ 1; omega) a
              refine xx_goto (pc := 115) 123 dX12_act_115 rfl ?_
              refine xx_istore (L' := [(4, .int (nI (mo_rov w8 x))), (0, ic_pt E 114), (1, .int (nI i)), (2, .int (nI a)), (3, .int (nI x))]) (pc := 123) dX12_act_123 (Nat.le_of_ble_eq_true rfl) rfl ?_
              refine xx_aload_nP (pc := 125) dX12_act_125 1 rfl rfl ?_
              refine xx_getN (pc := 126) dX12_act_126 sh_114 fX12_397_12 rfl ?_
              refine xx_if_eqN (pc := 129) 137 dX12_act_129 rfl (by omega) (fun c17 => ?_) (fun c17 => ?_)
              · refine xx_iload (pc := 137) dX12_act_137 0 rfl ?_
                exact xx_iret (pc := 139) dX12_act_139 rfl (rfl) (Nat.le_refl _) (Nat.le_refl _) (ic_ri ⟨by rw [if_pos (by omega), ← eW, if_pos (by assumption), eA]; unfold mo_av; exact congrArg nI (((if_neg (by omega)).trans ((if_neg (by omega)).trans (if_pos (by omega)))).symm), by rw [if_pos (by omega), eW]⟩)
              · refine xx_bipush (pc := 132) dX12_act_132 cc_bipush_m15 ?_
                refine xx_goto (pc := 134) 139 dX12_act_134 rfl ?_
                exact xx_iret (pc := 139) dX12_act_139 rfl (rfl) (Nat.le_refl _) (Nat.le_refl _) (ic_ri ⟨by rw [if_pos (by omega), ← eW, if_neg (by assumption)], by rw [if_pos (by omega), eW]⟩)
          · refine xx_aload_nP (pc := 97) dX12_act_97 0 rfl rfl ?_
            refine xx_iload_n (pc := 98) dX12_act_98 3 rfl rfl ?_
            refine xx_callV0 (pc := 99) (st := []) sh_114 (cM_reads (w := w8) (x := x) h36_w8 h37_w8) kX12_reads vX12_406_12 dX12_act_99 rfl rfl (Nat.le_of_ble_eq_true rfl) ⟨Nat.le_of_ble_eq_true rfl, Nat.le_of_ble_eq_true rfl⟩ ⟨Nat.zero_le _, Nat.zero_le _⟩ (ic_ki (fun v19 h_ qw18 => ?_))
            obtain ⟨rfl, rfl⟩ := qw18
            refine xx_nw (fun w18 ew18 => ?_)
            have eW : w18 = mo_aw (mo_ac0 w i) a := by rw [ew18, eA]; unfold mo_aw; exact ((if_neg (by omega)).trans (if_pos (by omega))).symm
            have l40 : w18 114 40 ≤ 1 := by rw [eW]; exact mo_aw_40 (by show 0 ≤ 1; omega) a
            refine xx_goto (pc := 102) 123 dX12_act_102 rfl ?_
            refine xx_istore (L' := [(4, .int (nI (mo_rd (w8 114 37) (w8 114 38) (w8 114 39) x))), (0, ic_pt E 114), (1, .int (nI i)), (2, .int (nI a)), (3, .int (nI x))]) (pc := 123) dX12_act_123 (Nat.le_of_ble_eq_true rfl) rfl ?_
            refine xx_aload_nP (pc := 125) dX12_act_125 1 rfl rfl ?_
            refine xx_getN (pc := 126) dX12_act_126 sh_114 fX12_397_12 rfl ?_
            refine xx_if_eqN (pc := 129) 137 dX12_act_129 rfl (by omega) (fun c20 => ?_) (fun c20 => ?_)
            · refine xx_iload (pc := 137) dX12_act_137 0 rfl ?_
              exact xx_iret (pc := 139) dX12_act_139 rfl (rfl) (Nat.le_refl _) (Nat.le_refl _) (ic_ri ⟨by rw [if_pos (by omega), ← eW, if_pos (by assumption), eA]; unfold mo_av; exact congrArg nI (((if_neg (by omega)).trans (if_pos (by omega))).symm), by rw [if_pos (by omega), eW]⟩)
            · refine xx_bipush (pc := 132) dX12_act_132 cc_bipush_m15 ?_
              refine xx_goto (pc := 134) 139 dX12_act_134 rfl ?_
              exact xx_iret (pc := 139) dX12_act_139 rfl (rfl) (Nat.le_refl _) (Nat.le_refl _) (ic_ri ⟨by rw [if_pos (by omega), ← eW, if_neg (by assumption)], by rw [if_pos (by omega), eW]⟩)
        · refine xx_aload_nP (pc := 84) dX12_act_84 0 rfl rfl ?_
          refine xx_iload_n (pc := 85) dX12_act_85 3 rfl rfl ?_
          refine xx_callV0 (pc := 86) (st := []) sh_114 (cM_stands (w := w8) (x := x) h36_w8 h37_w8) kX12_stands vX12_388_12 dX12_act_86 rfl rfl (Nat.le_of_ble_eq_true rfl) ⟨Nat.le_of_ble_eq_true rfl, Nat.le_of_ble_eq_true rfl⟩ ⟨Nat.zero_le _, Nat.zero_le _⟩ (ic_ki (fun v22 h_ qw21 => ?_))
          obtain ⟨rfl, rfl⟩ := qw21
          refine xx_nw (fun w21 ew21 => ?_)
          have eW : w21 = mo_aw (mo_ac0 w i) a := by rw [ew21, eA]; unfold mo_aw; exact (if_pos (by omega)).symm
          have l40 : w21 114 40 ≤ 1 := by rw [eW]; exact mo_aw_40 (by show 0 ≤ 1; omega) a
          refine xx_goto (pc := 89) 123 dX12_act_89 rfl ?_
          refine xx_istore (L' := [(4, .int (nI (mo_sd (w8 114 37) (w8 114 38) x))), (0, ic_pt E 114), (1, .int (nI i)), (2, .int (nI a)), (3, .int (nI x))]) (pc := 123) dX12_act_123 (Nat.le_of_ble_eq_true rfl) rfl ?_
          refine xx_aload_nP (pc := 125) dX12_act_125 1 rfl rfl ?_
          refine xx_getN (pc := 126) dX12_act_126 sh_114 fX12_397_12 rfl ?_
          refine xx_if_eqN (pc := 129) 137 dX12_act_129 rfl (by omega) (fun c23 => ?_) (fun c23 => ?_)
          · refine xx_iload (pc := 137) dX12_act_137 0 rfl ?_
            exact xx_iret (pc := 139) dX12_act_139 rfl (rfl) (Nat.le_refl _) (Nat.le_refl _) (ic_ri ⟨by rw [if_pos (by omega), ← eW, if_pos (by assumption), eA]; unfold mo_av; exact congrArg nI ((if_pos (by omega)).symm), by rw [if_pos (by omega), eW]⟩)
          · refine xx_bipush (pc := 132) dX12_act_132 cc_bipush_m15 ?_
            refine xx_goto (pc := 134) 139 dX12_act_134 rfl ?_
            exact xx_iret (pc := 139) dX12_act_139 rfl (rfl) (Nat.le_refl _) (Nat.le_refl _) (ic_ri ⟨by rw [if_pos (by omega), ← eW, if_neg (by assumption)], by rw [if_pos (by omega), eW]⟩)
      · refine xx_iconst (pc := 33) dX12_act_33 cc_iconst_0 ?_
        exact xx_iret (pc := 34) dX12_act_34 rfl (rfl) (Nat.le_refl _) (Nat.le_refl _) (ic_ri ⟨by rw [if_neg (by omega)], by rw [if_neg (by omega), ew1]⟩)

