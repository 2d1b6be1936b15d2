/-! doings: rises -/
theorem mo_rpw_f (w : ic_w) {j : Nat} (h : j ≠ 36) : mo_rpw w 114 j = w 114 j := by
  unfold mo_rpw
  rw [mo_lgs_f _ _ h, mo_rn_f _ _ h]
theorem mo_rpw_36 {w : ic_w} (h : w 114 36 ≤ 30) : mo_rpw w 114 36 ≤ 30 := by
  unfold mo_rpw
  exact mo_lgs_36 _ (mo_rn_36 h)
theorem mo_P_rpw (w : ic_w) : mo_P (mo_rpw w) = mo_P w := by
  unfold mo_P mo_D
  rw [mo_rpw_f _ (by omega), mo_rpw_f _ (by omega), mo_rpw_f _ (by omega)]
def mo_rw3 (w : ic_w) : ic_w := mo_row (mo_rpw (mo_rn w 51))
def mo_ris (w : ic_w) (x : Nat) : Nat := if w 114 37 = 3 then (if mo_P w = 0 then mo_rsp (mo_rn w 51) x + mo_rd 3 (w 114 38) (w 114 39) (w 114 39) else 0) else mo_rsp w x
def mo_riw (w : ic_w) : ic_w := if w 114 37 = 3 then (if mo_P w = 0 then mo_lgs (mo_rw3 w) (mo_rdl 3) else mo_rw3 w) else mo_row (mo_rpw w)

set_option maxHeartbeats 4000000 in
set_option maxRecDepth 100000 in
theorem cM_rises {l : Launch} {E : ic_E} {w : ic_w} {x : Nat} (h36 : w 114 36 ≤ 30) (h37 : w 114 37 ≤ 5) (h40 : w 114 40 ≤ 1) : ic_C l E mX12_rises 7 0 0 False [ic_pt E 114, .int (nI x)] SHs (hn w) SHs (ic_qi (fun v_ h_ => v_ = nI (mo_ris w x) ∧ h_ = hn (mo_riw w))) := by
  refine ic_intro (by decide +kernel) (Nat.le_of_ble_eq_true rfl) ?_
  show xx l E _ _ 0 [(0, ic_pt E 114), (1, .int (nI x))] _ _ _
  refine xx_aload_nP (pc := 0) dX12_rises_0 0 rfl rfl ?_
  refine xx_getN (pc := 1) dX12_rises_1 sh_114 fX12_382_12 rfl ?_
  refine xx_iconst (pc := 4) dX12_rises_4 cc_iconst_3 ?_
  refine xx_icmp_eqN (pc := 5) 14 dX12_rises_5 rfl (by omega) (by omega) (fun c1 => ?_) (fun c1 => ?_)
  · refine xx_aload_nP (pc := 14) dX12_rises_14 0 rfl rfl ?_
    refine xx_bipush (pc := 15) dX12_rises_15 cc_bipush_51 ?_
    refine xx_callV0 (pc := 17) (st := []) sh_114 (cM_runs (w := w) (c := 51) h36) kX12_runs vX12_376_12 dX12_rises_17 rfl rfl (Nat.le_of_ble_eq_true rfl) ⟨Nat.le_of_ble_eq_true rfl, Nat.le_of_ble_eq_true rfl⟩ ⟨Nat.zero_le _, Nat.zero_le _⟩ (ic_kv (fun h_ qw2 => ?_))
    obtain rfl := qw2
    refine xx_nw (fun w2 ew2 => ?_)
    have h36_w2 : w2 114 36 ≤ 30 := by rw [ew2]; exact mo_rn_36 h36
    have q37_w2 : w2 114 37 = w 114 37 := by rw [ew2, mo_rn_f _ _ (by omega)]
    have q38_w2 : w2 114 38 = w 114 38 := by rw [ew2, mo_rn_f _ _ (by omega)]
    have q39_w2 : w2 114 39 = w 114 39 := by rw [ew2, mo_rn_f _ _ (by omega)]
    have q40_w2 : w2 114 40 = w 114 40 := by rw [ew2, mo_rn_f _ _ (by omega)]
    refine xx_aload_nP (pc := 20) dX12_rises_20 0 rfl rfl ?_
    refine xx_iload_n (pc := 21) dX12_rises_21 1 rfl rfl ?_
    refine xx_callV0 (pc := 22) (st := []) sh_114 (cM_risesPlain (w := w2) (x := x) h36_w2 (by rw [q37_w2]; exact h37) (by rw [q40_w2]; exact h40)) kX12_risesPlain vX12_412_12 dX12_rises_22 rfl rfl (Nat.le_of_ble_eq_true rfl) ⟨Nat.le_of_ble_eq_true rfl, Nat.le_of_ble_eq_true rfl⟩ ⟨Nat.zero_le _, Nat.zero_le _⟩ (ic_ki (fun v5 h_ qw4 => ?_))
    obtain ⟨rfl, rfl⟩ := qw4
    refine xx_nw (fun w4 ew4 => ?_)
    have q37_w4 : w4 114 37 = w 114 37 := by rw [ew4, mo_row_f _ (by omega) (by omega), mo_rpw_f _ (by omega), q37_w2]
    have q38_w4 : w4 114 38 = w 114 38 := by rw [ew4, mo_row_f _ (by omega) (by omega), mo_rpw_f _ (by omega), q38_w2]
    have q39_w4 : w4 114 39 = w 114 39 := by rw [ew4, mo_row_f _ (by omega) (by omega), mo_rpw_f _ (by omega), q39_w2]
    have q40_w4 : w4 114 40 = mo_P w := by rw [ew4, mo_row_40, mo_P_rpw, ew2, mo_P_rn]
    have h36_w4 : w4 114 36 ≤ 30 := by rw [ew4]; exact mo_row_36 (mo_rpw_36 h36_w2)
    have hpl := mo_P_le w
    refine xx_istore_n (L' := [(2, .int (nI (mo_rsp w2 x))), (0, ic_pt E 114), (1, .int (nI x))]) (pc := 25) dX12_rises_25 rfl (Nat.le_of_ble_eq_true rfl) rfl ?_
    refine xx_aload_nP (pc := 26) dX12_rises_26 1 rfl rfl ?_
    refine xx_getN (pc := 27) dX12_rises_27 sh_114 fX12_397_12 rfl ?_
    refine xx_if_eqN (pc := 30) 37 dX12_rises_30 rfl (by omega) (fun c6 => ?_) (fun c6 => ?_)
    · refine xx_iload_n (pc := 37) dX12_rises_37 0 rfl rfl ?_
      refine xx_aload_nP (pc := 38) dX12_rises_38 1 rfl rfl ?_
      refine xx_aload_nP (pc := 39) dX12_rises_39 1 rfl rfl ?_
      refine xx_getN (pc := 40) dX12_rises_40 sh_114 fX12_391_12 rfl ?_
      refine xx_callV0 (pc := 43) (st := [.int (nI (mo_rsp w2 x))]) sh_114 (cM_reads (w := w4) (x := w4 114 39) h36_w4 (by rw [q37_w4]; exact h37)) kX12_reads vX12_406_12 dX12_rises_43 rfl rfl (Nat.le_of_ble_eq_true rfl) ⟨Nat.le_of_ble_eq_true rfl, Nat.le_of_ble_eq_true rfl⟩ ⟨Nat.zero_le _, Nat.zero_le _⟩ (ic_ki (fun v8 h_ qw7 => ?_))
      obtain ⟨rfl, rfl⟩ := qw7
      refine xx_nw (fun w7 ew7 => ?_)
      refine xx_iaddN (pc := 46) dX12_rises_46 ?_
      exact xx_iret (pc := 47) dX12_rises_47 rfl (rfl) (Nat.le_refl _) (Nat.le_refl _) (ic_ri ⟨by rw [q37_w4, q38_w4, q39_w4, ew2, show w 114 37 = 3 by omega]; unfold mo_ris; exact congrArg nI ((if_pos (by omega)).trans (if_pos (by omega))).symm, by rw [ew7, q37_w4, show w 114 37 = 3 by omega, ew4, ew2]; unfold mo_riw; exact congrArg hn ((if_pos (by omega)).trans (if_pos (by omega))).symm⟩)
    · refine xx_iconst (pc := 33) dX12_rises_33 cc_iconst_0 ?_
      refine xx_goto (pc := 34) 47 dX12_rises_34 rfl ?_
      exact xx_iret (pc := 47) dX12_rises_47 rfl (rfl) (Nat.le_refl _) (Nat.le_refl _) (ic_ri ⟨by unfold mo_ris; exact congrArg nI ((if_pos (by omega)).trans (if_neg (by omega))).symm, by rw [ew4, ew2]; unfold mo_riw; exact congrArg hn ((if_pos (by omega)).trans (if_neg (by omega))).symm⟩)
  · refine xx_aload_nP (pc := 8) dX12_rises_8 0 rfl rfl ?_
    refine xx_iload_n (pc := 9) dX12_rises_9 1 rfl rfl ?_
    refine xx_callV0 (pc := 10) (st := []) sh_114 (cM_risesPlain (w := w) (x := x) h36 h37 h40) kX12_risesPlain vX12_412_12 dX12_rises_10 rfl rfl (Nat.le_of_ble_eq_true rfl) ⟨Nat.le_of_ble_eq_true rfl, Nat.le_of_ble_eq_true rfl⟩ ⟨Nat.zero_le _, Nat.zero_le _⟩ (ic_ki (fun v10 h_ qw9 => ?_))
    obtain ⟨rfl, rfl⟩ := qw9
    refine xx_nw (fun w9 ew9 => ?_)
    exact xx_iret (pc := 13) dX12_rises_13 rfl (rfl) (Nat.le_refl _) (Nat.le_refl _) (ic_ri ⟨by unfold mo_ris; exact congrArg nI (if_neg (by omega)).symm, by rw [ew9]; unfold mo_riw; exact congrArg hn (if_neg (by omega)).symm⟩)

