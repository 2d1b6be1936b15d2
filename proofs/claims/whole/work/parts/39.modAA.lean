set_option maxHeartbeats 4000000 in
set_option maxRecDepth 100000 in
theorem cM_rounds {l : Launch} {E : ic_E} {w : ic_w} {x : Nat} (h36 : w 114 36 ≤ 30) (h37 : w 114 37 ≤ 5) (h40 : w 114 40 ≤ 1) : ic_C l E mX12_rounds 4 0 0 False [ic_pt E 114, .int (nI x)] SHs (hn w) SHs (ic_qi (fun v_ h_ => v_ = nI (mo_rov w x) ∧ h_ = hn (mo_row w))) := by
  refine ic_intro (by decide +kernel) (Nat.le_of_ble_eq_true rfl) ?_
  show xx l E _ _ 0 [(0, ic_pt E 114), (1, .int (nI x))] _ _ _
  refine xx_aload_nP (pc := 0) dX12_rounds_0 0 rfl rfl ?_
  refine xx_getN (pc := 1) dX12_rounds_1 sh_114 fX12_382_12 rfl ?_
  refine xx_iconst (pc := 4) dX12_rounds_4 cc_iconst_4 ?_
  refine xx_icmp_neN (pc := 5) 14 dX12_rounds_5 rfl (by omega) (by omega) (fun c1 => ?_) (fun c1 => ?_)
  · refine xx_aload_nP (pc := 14) dX12_rounds_14 0 rfl rfl ?_
    refine xx_getN (pc := 15) dX12_rounds_15 sh_114 fX12_382_12 rfl ?_
    refine xx_iconst (pc := 18) dX12_rounds_18 cc_iconst_5 ?_
    refine xx_icmp_eqN (pc := 19) 28 dX12_rounds_19 rfl (by omega) (by omega) (fun c2 => ?_) (fun c2 => ?_)
    · refine xx_aload_nP (pc := 28) dX12_rounds_28 0 rfl rfl ?_
      refine xx_bipush (pc := 29) dX12_rounds_29 cc_bipush_61 ?_
      refine xx_callV0 (pc := 31) (st := []) sh_114 (cM_runs (w := w) (c := 61) h36) kX12_runs vX12_376_12 dX12_rounds_31 rfl rfl (Nat.le_of_ble_eq_true rfl) ⟨Nat.le_of_ble_eq_true rfl, Nat.le_of_ble_eq_true rfl⟩ ⟨Nat.zero_le _, Nat.zero_le _⟩ (ic_kv (fun h_ qw3 => ?_))
      obtain rfl := qw3
      refine xx_nw (fun w3 ew3 => ?_)
      have h36_w3 : w3 114 36 ≤ 30 := by rw [ew3]; exact mo_rn_36 h36
      have q37_w3 : w3 114 37 = w 114 37 := by rw [ew3, mo_rn_f _ _ (by omega)]
      have q38_w3 : w3 114 38 = w 114 38 := by rw [ew3, mo_rn_f _ _ (by omega)]
      have q39_w3 : w3 114 39 = w 114 39 := by rw [ew3, mo_rn_f _ _ (by omega)]
      have q40_w3 : w3 114 40 = w 114 40 := by rw [ew3, mo_rn_f _ _ (by omega)]
      refine xx_aload_nP (pc := 34) dX12_rounds_34 0 rfl rfl ?_
      refine xx_iload_n (pc := 35) dX12_rounds_35 1 rfl rfl ?_
      refine xx_callV0 (pc := 36) (st := []) sh_114 (cM_roundsOfClerk (w := w3) (x := x) h36_w3 (by rw [q40_w3]; exact h40)) kX12_roundsOfClerk vX12_403_12 dX12_rounds_36 rfl rfl (Nat.le_of_ble_eq_true rfl) ⟨Nat.le_of_ble_eq_true rfl, Nat.le_of_ble_eq_true rfl⟩ ⟨Nat.zero_le _, Nat.zero_le _⟩ (ic_ki (fun v6 h_ qw5 => ?_))
      obtain ⟨rfl, rfl⟩ := qw5
      refine xx_nw (fun w5 fw5 => ?_)
      have ew5 : w5 = mo_wA w3 := fw5
      have q37_w5 : w5 114 37 = w 114 37 := by rw [ew5, mo_wA_f _ (by omega) (by omega), q37_w3]
      have q38_w5 : w5 114 38 = w 114 38 := by rw [ew5, mo_wA_f _ (by omega) (by omega), q38_w3]
      have q40_w5 : w5 114 40 = mo_P w := by rw [ew5, mo_wA_40, ew3, mo_P_rn]
      have h36_w5 : w5 114 36 ≤ 30 := by rw [ew5]; exact mo_wA_36 h36_w3
      have hpl := mo_P_le w
      refine xx_istore_n (L' := [(2, .int (nI (mo_mi (mo_rr (w3 114 40) (mo_D w3) x) 5))), (0, ic_pt E 114), (1, .int (nI x))]) (pc := 39) dX12_rounds_39 rfl (Nat.le_of_ble_eq_true rfl) rfl ?_
      refine xx_aload_nP (pc := 40) dX12_rounds_40 1 rfl rfl ?_
      refine xx_getN (pc := 41) dX12_rounds_41 sh_114 fX12_397_12 rfl ?_
      refine xx_if_eqN (pc := 44) 51 dX12_rounds_44 rfl (by omega) (fun c7 => ?_) (fun c7 => ?_)
      · refine xx_iload_n (pc := 51) dX12_rounds_51 0 rfl rfl ?_
        refine xx_aload_nP (pc := 52) dX12_rounds_52 1 rfl rfl ?_
        refine xx_aload_nP (pc := 53) dX12_rounds_53 1 rfl rfl ?_
        refine xx_getN (pc := 54) dX12_rounds_54 sh_114 fX12_379_12 rfl ?_
        refine xx_callV0 (pc := 57) (st := [.int (nI (mo_mi (mo_rr (w3 114 40) (mo_D w3) x) 5))]) sh_114 (cM_stands (w := w5) (x := w5 114 38) h36_w5 (by rw [q37_w5]; exact h37)) kX12_stands vX12_388_12 dX12_rounds_57 rfl rfl (Nat.le_of_ble_eq_true rfl) ⟨Nat.le_of_ble_eq_true rfl, Nat.le_of_ble_eq_true rfl⟩ ⟨Nat.zero_le _, Nat.zero_le _⟩ (ic_ki (fun v9 h_ qw8 => ?_))
        obtain ⟨rfl, rfl⟩ := qw8
        refine xx_nw (fun w8 ew8 => ?_)
        refine xx_ixorN (pc := 60) dX12_rounds_60 ?_
        exact xx_iret (pc := 61) dX12_rounds_61 rfl (rfl) (Nat.le_refl _) (Nat.le_refl _) (ic_ri ⟨by rw [q37_w5, q38_w5, q40_w3, ew3, mo_D_rn, show w 114 37 = 5 by omega]; unfold mo_rov; exact congrArg nI ((if_neg (by omega)).trans ((if_pos (by omega)).trans (if_pos (by omega)))).symm, by rw [ew8, q37_w5, show w 114 37 = 5 by omega, ew5, ew3]; unfold mo_row; exact congrArg hn ((if_neg (by omega)).trans ((if_pos (by omega)).trans (if_pos (by omega)))).symm⟩)
      · refine xx_iconst (pc := 47) dX12_rounds_47 cc_iconst_0 ?_
        refine xx_goto (pc := 48) 61 dX12_rounds_48 rfl ?_
        exact xx_iret (pc := 61) dX12_rounds_61 rfl (rfl) (Nat.le_refl _) (Nat.le_refl _) (ic_ri ⟨by unfold mo_rov; exact congrArg nI ((if_neg (by omega)).trans ((if_pos (by omega)).trans (if_neg (by omega)))).symm, by rw [ew5, ew3]; unfold mo_row; exact congrArg hn ((if_neg (by omega)).trans ((if_pos (by omega)).trans (if_neg (by omega)))).symm⟩)
    · refine xx_aload_nP (pc := 22) dX12_rounds_22 0 rfl rfl ?_
      refine xx_iload_n (pc := 23) dX12_rounds_23 1 rfl rfl ?_
      refine xx_callV0 (pc := 24) (st := []) sh_114 (cM_roundsPlain (w := w) (x := x) h36 h40) kX12_roundsPlain vX12_400_12 dX12_rounds_24 rfl rfl (Nat.le_of_ble_eq_true rfl) ⟨Nat.le_of_ble_eq_true rfl, Nat.le_of_ble_eq_true rfl⟩ ⟨Nat.zero_le _, Nat.zero_le _⟩ (ic_ki (fun v11 h_ qw10 => ?_))
      obtain ⟨rfl, rfl⟩ := qw10
      refine xx_nw (fun w10 ew10 => ?_)
      exact xx_iret (pc := 27) dX12_rounds_27 rfl (rfl) (Nat.le_refl _) (Nat.le_refl _) (ic_ri ⟨by unfold mo_rov; exact congrArg nI ((if_neg (by omega)).trans (if_neg (by omega))).symm, by rw [ew10]; unfold mo_row; exact congrArg hn ((if_neg (by omega)).trans (if_neg (by omega))).symm⟩)
  · refine xx_aload_nP (pc := 8) dX12_rounds_8 0 rfl rfl ?_
    refine xx_iload_n (pc := 9) dX12_rounds_9 1 rfl rfl ?_
    refine xx_callV0 (pc := 10) (st := []) sh_114 (cM_roundsOfClerk (w := w) (x := x) h36 h40) kX12_roundsOfClerk vX12_403_12 dX12_rounds_10 rfl rfl (Nat.le_of_ble_eq_true rfl) ⟨Nat.le_of_ble_eq_true rfl, Nat.le_of_ble_eq_true rfl⟩ ⟨Nat.zero_le _, Nat.zero_le _⟩ (ic_ki (fun v13 h_ qw12 => ?_))
    obtain ⟨rfl, rfl⟩ := qw12
    refine xx_nw (fun w12 fw12 => ?_)
    have ew12 : w12 = mo_wA w := fw12
    exact xx_iret (pc := 13) dX12_rounds_13 rfl (rfl) (Nat.le_refl _) (Nat.le_refl _) (ic_ri ⟨by unfold mo_rov; exact congrArg nI (if_pos (by omega)).symm, by rw [ew12]; unfold mo_row; exact congrArg hn (if_pos (by omega)).symm⟩)

