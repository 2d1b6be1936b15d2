/-! doings: what is read -/
set_option maxHeartbeats 4000000 in
set_option maxRecDepth 100000 in
theorem cM_reads {l : Launch} {E : ic_E} {w : ic_w} {x : Nat} (h36 : w 114 36 ≤ 30) (h37 : w 114 37 ≤ 5) : ic_C l E mX12_reads 5 0 0 False [ic_pt E 114, .int (nI x)] SHs (hn w) SHs (ic_qi (fun v_ h_ => v_ = nI (mo_rd (w 114 37) (w 114 38) (w 114 39) x) ∧ h_ = hn (mo_lgs w (mo_rdl (w 114 37))))) := by
  refine ic_intro (by decide +kernel) (Nat.le_of_ble_eq_true rfl) ?_
  show xx l E _ _ 0 [(0, ic_pt E 114), (1, .int (nI x))] _ _ _
  refine xx_aload_nP (pc := 0) dX12_reads_0 0 rfl rfl ?_
  refine xx_getN (pc := 1) dX12_reads_1 sh_114 fX12_382_12 rfl ?_
  refine xx_iconst (pc := 4) dX12_reads_4 cc_iconst_2 ?_
  refine xx_icmp_eqN (pc := 5) 16 dX12_reads_5 rfl (by omega) (by omega) (fun c1 => ?_) (fun c1 => ?_)
  · refine xx_aload_nP (pc := 16) dX12_reads_16 0 rfl rfl ?_
    refine xx_bipush (pc := 17) dX12_reads_17 cc_bipush_30 ?_
    refine xx_callV0 (pc := 19) (st := []) sh_114 (cM_runs (w := w) (c := 30) h36) kX12_runs vX12_376_12 dX12_reads_19 rfl rfl (Nat.le_of_ble_eq_true rfl) ⟨Nat.le_of_ble_eq_true rfl, Nat.le_of_ble_eq_true rfl⟩ ⟨Nat.zero_le _, Nat.zero_le _⟩ (ic_kv (fun h_ qw2 => ?_))
    obtain rfl := qw2
    refine xx_nw (fun w2 ew2 => ?_)
    have h36_w2 : w2 114 36 ≤ 30 := by rw [ew2]; exact mo_rn_36 h36
    have q37_w2 : w2 114 37 = w 114 37 := by rw [ew2, mo_rn_f _ _ (by omega)]
    have q38_w2 : w2 114 38 = w 114 38 := by rw [ew2, mo_rn_f _ _ (by omega)]
    have q39_w2 : w2 114 39 = w 114 39 := by rw [ew2, mo_rn_f _ _ (by omega)]
    have q40_w2 : w2 114 40 = w 114 40 := by rw [ew2, mo_rn_f _ _ (by omega)]
    refine xx_aload_nP (pc := 22) dX12_reads_22 0 rfl rfl ?_
    refine xx_iload_n (pc := 23) dX12_reads_23 1 rfl rfl ?_
    refine xx_callV0 (pc := 24) (st := []) sh_114 (cM_readsPlain (w := w2) (x := x) h36_w2 (by rw [q37_w2]; exact h37)) kX12_readsPlain vX12_394_12 dX12_reads_24 rfl rfl (Nat.le_of_ble_eq_true rfl) ⟨Nat.le_of_ble_eq_true rfl, Nat.le_of_ble_eq_true rfl⟩ ⟨Nat.zero_le _, Nat.zero_le _⟩ (ic_ki (fun v5 h_ qw4 => ?_))
    obtain ⟨rfl, rfl⟩ := qw4
    refine xx_nw (fun w4 ew4 => ?_)
    have h36_w4 : w4 114 36 ≤ 30 := by rw [ew4]; exact mo_lgs_36 _ h36_w2
    have q37_w4 : w4 114 37 = w 114 37 := by rw [ew4, mo_lgs_f _ _ (by omega)]; exact q37_w2
    have q38_w4 : w4 114 38 = w 114 38 := by rw [ew4, mo_lgs_f _ _ (by omega)]; exact q38_w2
    have q39_w4 : w4 114 39 = w 114 39 := by rw [ew4, mo_lgs_f _ _ (by omega)]; exact q39_w2
    have q40_w4 : w4 114 40 = w 114 40 := by rw [ew4, mo_lgs_f _ _ (by omega)]; exact q40_w2
    refine xx_iconst (pc := 27) dX12_reads_27 cc_iconst_3 ?_
    refine xx_imulN (pc := 28) dX12_reads_28 ?_
    exact xx_iret (pc := 29) dX12_reads_29 rfl (rfl) (Nat.le_refl _) (Nat.le_refl _) (ic_ri ⟨by rw [q37_w2, q38_w2, q39_w2]; unfold mo_rd; exact congrArg nI (if_pos (by omega)).symm, by rw [ew4, q37_w2, ew2]; show hn (mo_lgs w (30 :: 11 :: mo_sdl (w 114 37))) = _; unfold mo_rdl; exact congrArg hn (congrArg (mo_lgs w) (if_pos (by omega)).symm)⟩)
  · refine xx_aload_nP (pc := 8) dX12_reads_8 0 rfl rfl ?_
    refine xx_getN (pc := 9) dX12_reads_9 sh_114 fX12_382_12 rfl ?_
    refine xx_iconst (pc := 12) dX12_reads_12 cc_iconst_3 ?_
    refine xx_icmp_neN (pc := 13) 30 dX12_reads_13 rfl (by omega) (by omega) (fun c6 => ?_) (fun c6 => ?_)
    · refine xx_aload_nP (pc := 30) dX12_reads_30 0 rfl rfl ?_
      refine xx_getN (pc := 31) dX12_reads_31 sh_114 fX12_382_12 rfl ?_
      refine xx_iconst (pc := 34) dX12_reads_34 cc_iconst_5 ?_
      refine xx_icmp_neN (pc := 35) 52 dX12_reads_35 rfl (by omega) (by omega) (fun c7 => ?_) (fun c7 => ?_)
      · refine xx_aload_nP (pc := 52) dX12_reads_52 0 rfl rfl ?_
        refine xx_iload_n (pc := 53) dX12_reads_53 1 rfl rfl ?_
        refine xx_callV0 (pc := 54) (st := []) sh_114 (cM_readsPlain (w := w) (x := x) h36 h37) kX12_readsPlain vX12_394_12 dX12_reads_54 rfl rfl (Nat.le_of_ble_eq_true rfl) ⟨Nat.le_of_ble_eq_true rfl, Nat.le_of_ble_eq_true rfl⟩ ⟨Nat.zero_le _, Nat.zero_le _⟩ (ic_ki (fun v9 h_ qw8 => ?_))
        obtain ⟨rfl, rfl⟩ := qw8
        refine xx_nw (fun w8 ew8 => ?_)
        have h36_w8 : w8 114 36 ≤ 30 := by rw [ew8]; exact mo_lgs_36 _ h36
        have q37_w8 : w8 114 37 = w 114 37 := by rw [ew8, mo_lgs_f _ _ (by omega)]
        have q38_w8 : w8 114 38 = w 114 38 := by rw [ew8, mo_lgs_f _ _ (by omega)]
        have q39_w8 : w8 114 39 = w 114 39 := by rw [ew8, mo_lgs_f _ _ (by omega)]
        have q40_w8 : w8 114 40 = w 114 40 := by rw [ew8, mo_lgs_f _ _ (by omega)]
        exact xx_iret (pc := 57) dX12_reads_57 rfl (rfl) (Nat.le_refl _) (Nat.le_refl _) (ic_ri ⟨by unfold mo_rd; exact congrArg nI ((if_neg (by omega)).trans (if_neg (by omega))).symm, by rw [ew8]; unfold mo_rdl; exact congrArg hn (congrArg (mo_lgs w) ((if_neg (by omega)).trans (if_neg (by omega))).symm)⟩)
      · refine xx_aload_nP (pc := 38) dX12_reads_38 0 rfl rfl ?_
        refine xx_bipush (pc := 39) dX12_reads_39 cc_bipush_60 ?_
        refine xx_callV0 (pc := 41) (st := []) sh_114 (cM_runs (w := w) (c := 60) h36) kX12_runs vX12_376_12 dX12_reads_41 rfl rfl (Nat.le_of_ble_eq_true rfl) ⟨Nat.le_of_ble_eq_true rfl, Nat.le_of_ble_eq_true rfl⟩ ⟨Nat.zero_le _, Nat.zero_le _⟩ (ic_kv (fun h_ qw10 => ?_))
        obtain rfl := qw10
        refine xx_nw (fun w10 ew10 => ?_)
        have h36_w10 : w10 114 36 ≤ 30 := by rw [ew10]; exact mo_rn_36 h36
        have q37_w10 : w10 114 37 = w 114 37 := by rw [ew10, mo_rn_f _ _ (by omega)]
        have q38_w10 : w10 114 38 = w 114 38 := by rw [ew10, mo_rn_f _ _ (by omega)]
        have q39_w10 : w10 114 39 = w 114 39 := by rw [ew10, mo_rn_f _ _ (by omega)]
        have q40_w10 : w10 114 40 = w 114 40 := by rw [ew10, mo_rn_f _ _ (by omega)]
        refine xx_iconst (pc := 44) dX12_reads_44 cc_iconst_0 ?_
        refine xx_aload_nP (pc := 45) dX12_reads_45 0 rfl rfl ?_
        refine xx_iload_n (pc := 46) dX12_reads_46 1 rfl rfl ?_
        refine xx_callV0 (pc := 47) (st := [.int (nI 0)]) sh_114 (cM_readsPlain (w := w10) (x := x) h36_w10 (by rw [q37_w10]; exact h37)) kX12_readsPlain vX12_394_12 dX12_reads_47 rfl rfl (Nat.le_of_ble_eq_true rfl) ⟨Nat.le_of_ble_eq_true rfl, Nat.le_of_ble_eq_true rfl⟩ ⟨Nat.zero_le _, Nat.zero_le _⟩ (ic_ki (fun v13 h_ qw12 => ?_))
        obtain ⟨rfl, rfl⟩ := qw12
        refine xx_nw (fun w12 ew12 => ?_)
        have h36_w12 : w12 114 36 ≤ 30 := by rw [ew12]; exact mo_lgs_36 _ h36_w10
        have q37_w12 : w12 114 37 = w 114 37 := by rw [ew12, mo_lgs_f _ _ (by omega)]; exact q37_w10
        have q38_w12 : w12 114 38 = w 114 38 := by rw [ew12, mo_lgs_f _ _ (by omega)]; exact q38_w10
        have q39_w12 : w12 114 39 = w 114 39 := by rw [ew12, mo_lgs_f _ _ (by omega)]; exact q39_w10
        have q40_w12 : w12 114 40 = w 114 40 := by rw [ew12, mo_lgs_f _ _ (by omega)]; exact q40_w10
        refine xx_isubM (pc := 50) dX12_reads_50 ?_
        exact xx_iret (pc := 51) dX12_reads_51 rfl (rfl) (Nat.le_refl _) (Nat.le_refl _) (ic_ri ⟨by rw [q37_w10, q38_w10, q39_w10]; unfold mo_rd; exact congrArg nI ((if_neg (by omega)).trans (if_pos (by omega))).symm, by rw [ew12, q37_w10, ew10]; show hn (mo_lgs w (60 :: 11 :: mo_sdl (w 114 37))) = _; unfold mo_rdl; exact congrArg hn (congrArg (mo_lgs w) ((if_neg (by omega)).trans (if_pos (by omega))).symm)⟩)
    · refine xx_aload_nP (pc := 16) dX12_reads_16 0 rfl rfl ?_
      refine xx_bipush (pc := 17) dX12_reads_17 cc_bipush_30 ?_
      refine xx_callV0 (pc := 19) (st := []) sh_114 (cM_runs (w := w) (c := 30) h36) kX12_runs vX12_376_12 dX12_reads_19 rfl rfl (Nat.le_of_ble_eq_true rfl) ⟨Nat.le_of_ble_eq_true rfl, Nat.le_of_ble_eq_true rfl⟩ ⟨Nat.zero_le _, Nat.zero_le _⟩ (ic_kv (fun h_ qw14 => ?_))
      obtain rfl := qw14
      refine xx_nw (fun w14 ew14 => ?_)
      have h36_w14 : w14 114 36 ≤ 30 := by rw [ew14]; exact mo_rn_36 h36
      have q37_w14 : w14 114 37 = w 114 37 := by rw [ew14, mo_rn_f _ _ (by omega)]
      have q38_w14 : w14 114 38 = w 114 38 := by rw [ew14, mo_rn_f _ _ (by omega)]
      have q39_w14 : w14 114 39 = w 114 39 := by rw [ew14, mo_rn_f _ _ (by omega)]
      have q40_w14 : w14 114 40 = w 114 40 := by rw [ew14, mo_rn_f _ _ (by omega)]
      refine xx_aload_nP (pc := 22) dX12_reads_22 0 rfl rfl ?_
      refine xx_iload_n (pc := 23) dX12_reads_23 1 rfl rfl ?_
      refine xx_callV0 (pc := 24) (st := []) sh_114 (cM_readsPlain (w := w14) (x := x) h36_w14 (by rw [q37_w14]; exact h37)) kX12_readsPlain vX12_394_12 dX12_reads_24 rfl rfl (Nat.le_of_ble_eq_true rfl) ⟨Nat.le_of_ble_eq_true rfl, Nat.le_of_ble_eq_true rfl⟩ ⟨Nat.zero_le _, Nat.zero_le _⟩ (ic_ki (fun v17 h_ qw16 => ?_))
      obtain ⟨rfl, rfl⟩ := qw16
      refine xx_nw (fun w16 ew16 => ?_)
      have h36_w16 : w16 114 36 ≤ 30 := by rw [ew16]; exact mo_lgs_36 _ h36_w14
      have q37_w16 : w16 114 37 = w 114 37 := by rw [ew16, mo_lgs_f _ _ (by omega)]; exact q37_w14
      have q38_w16 : w16 114 38 = w 114 38 := by rw [ew16, mo_lgs_f _ _ (by omega)]; exact q38_w14
      have q39_w16 : w16 114 39 = w 114 39 := by rw [ew16, mo_lgs_f _ _ (by omega)]; exact q39_w14
      have q40_w16 : w16 114 40 = w 114 40 := by rw [ew16, mo_lgs_f _ _ (by omega)]; exact q40_w14
      refine xx_iconst (pc := 27) dX12_reads_27 cc_iconst_3 ?_
      refine xx_imulN (pc := 28) dX12_reads_28 ?_
      exact xx_iret (pc := 29) dX12_reads_29 rfl (rfl) (Nat.le_refl _) (Nat.le_refl _) (ic_ri ⟨by rw [q37_w14, q38_w14, q39_w14]; unfold mo_rd; exact congrArg nI (if_pos (by omega)).symm, by rw [ew16, q37_w14, ew14]; show hn (mo_lgs w (30 :: 11 :: mo_sdl (w 114 37))) = _; unfold mo_rdl; exact congrArg hn (congrArg (mo_lgs w) (if_pos (by omega)).symm)⟩)

