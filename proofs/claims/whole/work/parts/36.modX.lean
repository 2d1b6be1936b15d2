/-! doings: rounds -/
def mo_rm (x d : Nat) : Nat := tn (nI x - nI x / nI d * nI d)
def mo_dd (n a : Nat) : Nat := (mo_mi n a + 4) % 4294967296
theorem mo_dd_lt (n a : Nat) : mo_dd n a < 2 ^ 32 := Nat.mod_lt _ (by decide)
theorem mo_dd_z {d : Nat} (h : d < 2 ^ 32) (z : ¬ d = 0) : ¬ nI d = 0 := fun y => z ((nI_inj h (by omega)).mp (y.trans rfl))
def mo_pt (p d : Nat) : Nat := if ¬ p = 0 ∨ d = 0 then 1 else 0
def mo_rr (p d x : Nat) : Nat := if ¬ p = 0 ∨ d = 0 then 0 else mo_rm x d

set_option maxHeartbeats 4000000 in
set_option maxRecDepth 100000 in
theorem cM_roundsPlain {l : Launch} {E : ic_E} {w : ic_w} {x : Nat} (h36 : w 114 36 ≤ 30) (h40 : w 114 40 ≤ 1) : ic_C l E mX12_roundsPlain 2 0 0 False [ic_pt E 114, .int (nI x)] SHs (hn w) SHs (ic_qi (fun v_ h_ => v_ = nI (mo_rr (w 114 40) (mo_dd (w 114 38) (w 114 39)) x) ∧ h_ = hn (wu (mo_rn w 12) 114 40 (mo_pt (w 114 40) (mo_dd (w 114 38) (w 114 39)))))) := by
  refine ic_intro (by decide +kernel) (Nat.le_of_ble_eq_true rfl) ?_
  show xx l E _ _ 0 [(0, ic_pt E 114), (1, .int (nI x))] _ _ _
  have hdl := mo_dd_lt (w 114 38) (w 114 39)
  refine xx_aload_nP (pc := 0) dX12_roundsPlain_0 0 rfl rfl ?_
  refine xx_bipush (pc := 1) dX12_roundsPlain_1 cc_bipush_12 ?_
  refine xx_callV0 (pc := 3) (st := []) sh_114 (cM_runs (w := w) (c := 12) h36) kX12_runs vX12_376_12 dX12_roundsPlain_3 rfl rfl (Nat.le_of_ble_eq_true rfl) ⟨Nat.le_of_ble_eq_true rfl, Nat.le_of_ble_eq_true rfl⟩ ⟨Nat.zero_le _, Nat.zero_le _⟩ (ic_kv (fun h_ qw1 => ?_))
  obtain rfl := qw1
  refine xx_nw (fun w1 ew1 => ?_)
  have h36_w1 : w1 114 36 ≤ 30 := by rw [ew1]; exact mo_rn_36 h36
  have q37_w1 : w1 114 37 = w 114 37 := by rw [ew1, mo_rn_f _ _ (by omega)]
  have q38_w1 : w1 114 38 = w 114 38 := by rw [ew1, mo_rn_f _ _ (by omega)]
  have q39_w1 : w1 114 39 = w 114 39 := by rw [ew1, mo_rn_f _ _ (by omega)]
  have q40_w1 : w1 114 40 = w 114 40 := by rw [ew1, mo_rn_f _ _ (by omega)]
  refine xx_aload_nP (pc := 6) dX12_roundsPlain_6 0 rfl rfl ?_
  refine xx_getN (pc := 7) dX12_roundsPlain_7 sh_114 fX12_379_12 rfl ?_
  refine xx_aload_nP (pc := 10) dX12_roundsPlain_10 0 rfl rfl ?_
  refine xx_getN (pc := 11) dX12_roundsPlain_11 sh_114 fX12_391_12 rfl ?_
  refine xx_isubM (pc := 14) dX12_roundsPlain_14 ?_
  refine xx_iconst (pc := 15) dX12_roundsPlain_15 cc_iconst_4 ?_
  refine xx_iaddN (pc := 16) dX12_roundsPlain_16 ?_
  refine xx_eqI (y := nI (mo_dd (w 114 38) (w 114 39))) (by rw [q38_w1, q39_w1]; exact (nI_mod _).symm) ?_
  refine xx_istore_n (L' := [(2, .int (nI (mo_dd (w 114 38) (w 114 39)))), (0, ic_pt E 114), (1, .int (nI x))]) (pc := 17) dX12_roundsPlain_17 rfl (Nat.le_of_ble_eq_true rfl) rfl ?_
  refine xx_aload_nP (pc := 18) dX12_roundsPlain_18 1 rfl rfl ?_
  refine xx_aload_nP (pc := 19) dX12_roundsPlain_19 1 rfl rfl ?_
  refine xx_getN (pc := 20) dX12_roundsPlain_20 sh_114 fX12_397_12 rfl ?_
  refine xx_if_neN (pc := 23) 30 dX12_roundsPlain_23 rfl (by omega) (fun c3 => ?_) (fun c3 => ?_)
  · refine xx_iconst (pc := 30) dX12_roundsPlain_30 cc_iconst_1 ?_
    refine xx_goto (pc := 31) 35 dX12_roundsPlain_31 rfl ?_
    refine xx_putB (pc := 35) dX12_roundsPlain_35 sh_114 fX12_397_12 rfl rfl (by omega) ?_
    refine xx_nw (fun w4 ew4 => ?_)
    have z40 : w4 114 40 = 1 := by rw [ew4, wu_s]
    refine xx_aload_nP (pc := 38) dX12_roundsPlain_38 1 rfl rfl ?_
    refine xx_getN (pc := 39) dX12_roundsPlain_39 sh_114 fX12_397_12 rfl ?_
    refine xx_if_eqN (pc := 42) 49 dX12_roundsPlain_42 rfl (by omega) (fun c5 => ?_) (fun c5 => ?_)
    · refine xx_iload_n (pc := 49) dX12_roundsPlain_49 2 rfl rfl ?_
      refine xx_iload_n (pc := 50) dX12_roundsPlain_50 0 rfl rfl ?_
      refine xx_irem (pc := 51) dX12_roundsPlain_51 (by exact mo_dd_z hdl (by omega)) ?_
      refine xx_eqI (y := nI (mo_rm x (mo_dd (w 114 38) (w 114 39)))) (nI_tn _).symm ?_
      exact xx_iret (pc := 52) dX12_roundsPlain_52 rfl (rfl) (Nat.le_refl _) (Nat.le_refl _) (ic_ri ⟨by unfold mo_rr; exact congrArg nI (if_neg (by omega)).symm, by rw [ew4, ew1]; unfold mo_pt; first | (rw [if_pos (by omega)]; done) | (rw [if_neg (by omega)]; done)⟩)
    · refine xx_iconst (pc := 45) dX12_roundsPlain_45 cc_iconst_0 ?_
      refine xx_goto (pc := 46) 52 dX12_roundsPlain_46 rfl ?_
      exact xx_iret (pc := 52) dX12_roundsPlain_52 rfl (rfl) (Nat.le_refl _) (Nat.le_refl _) (ic_ri ⟨by unfold mo_rr; exact congrArg nI (if_pos (by omega)).symm, by rw [ew4, ew1]; unfold mo_pt; first | (rw [if_pos (by omega)]; done) | (rw [if_neg (by omega)]; done)⟩)
  · refine xx_iload_n (pc := 26) dX12_roundsPlain_26 0 rfl rfl ?_
    refine xx_if_neN (pc := 27) 34 dX12_roundsPlain_27 rfl (by omega) (fun c6 => ?_) (fun c6 => ?_)
    · refine xx_iconst (pc := 34) dX12_roundsPlain_34 cc_iconst_0 ?_
      refine xx_putB (pc := 35) dX12_roundsPlain_35 sh_114 fX12_397_12 rfl rfl (by omega) ?_
      refine xx_nw (fun w7 ew7 => ?_)
      have z40 : w7 114 40 = 0 := by rw [ew7, wu_s]
      refine xx_aload_nP (pc := 38) dX12_roundsPlain_38 1 rfl rfl ?_
      refine xx_getN (pc := 39) dX12_roundsPlain_39 sh_114 fX12_397_12 rfl ?_
      refine xx_if_eqN (pc := 42) 49 dX12_roundsPlain_42 rfl (by omega) (fun c8 => ?_) (fun c8 => ?_)
      · refine xx_iload_n (pc := 49) dX12_roundsPlain_49 2 rfl rfl ?_
        refine xx_iload_n (pc := 50) dX12_roundsPlain_50 0 rfl rfl ?_
        refine xx_irem (pc := 51) dX12_roundsPlain_51 (by exact mo_dd_z hdl (by omega)) ?_
        refine xx_eqI (y := nI (mo_rm x (mo_dd (w 114 38) (w 114 39)))) (nI_tn _).symm ?_
        exact xx_iret (pc := 52) dX12_roundsPlain_52 rfl (rfl) (Nat.le_refl _) (Nat.le_refl _) (ic_ri ⟨by unfold mo_rr; exact congrArg nI (if_neg (by omega)).symm, by rw [ew7, ew1]; unfold mo_pt; first | (rw [if_pos (by omega)]; done) | (rw [if_neg (by omega)]; done)⟩)
      · refine xx_iconst (pc := 45) dX12_roundsPlain_45 cc_iconst_0 ?_
        refine xx_goto (pc := 46) 52 dX12_roundsPlain_46 rfl ?_
        exact xx_iret (pc := 52) dX12_roundsPlain_52 rfl (rfl) (Nat.le_refl _) (Nat.le_refl _) (ic_ri ⟨by unfold mo_rr; exact congrArg nI (if_pos (by omega)).symm, by rw [ew7, ew1]; unfold mo_pt; first | (rw [if_pos (by omega)]; done) | (rw [if_neg (by omega)]; done)⟩)
    · refine xx_iconst (pc := 30) dX12_roundsPlain_30 cc_iconst_1 ?_
      refine xx_goto (pc := 31) 35 dX12_roundsPlain_31 rfl ?_
      refine xx_putB (pc := 35) dX12_roundsPlain_35 sh_114 fX12_397_12 rfl rfl (by omega) ?_
      refine xx_nw (fun w9 ew9 => ?_)
      have z40 : w9 114 40 = 1 := by rw [ew9, wu_s]
      refine xx_aload_nP (pc := 38) dX12_roundsPlain_38 1 rfl rfl ?_
      refine xx_getN (pc := 39) dX12_roundsPlain_39 sh_114 fX12_397_12 rfl ?_
      refine xx_if_eqN (pc := 42) 49 dX12_roundsPlain_42 rfl (by omega) (fun c10 => ?_) (fun c10 => ?_)
      · refine xx_iload_n (pc := 49) dX12_roundsPlain_49 2 rfl rfl ?_
        refine xx_iload_n (pc := 50) dX12_roundsPlain_50 0 rfl rfl ?_
        refine xx_irem (pc := 51) dX12_roundsPlain_51 (by exact mo_dd_z hdl (by omega)) ?_
        refine xx_eqI (y := nI (mo_rm x (mo_dd (w 114 38) (w 114 39)))) (nI_tn _).symm ?_
        exact xx_iret (pc := 52) dX12_roundsPlain_52 rfl (rfl) (Nat.le_refl _) (Nat.le_refl _) (ic_ri ⟨by unfold mo_rr; exact congrArg nI (if_neg (by omega)).symm, by rw [ew9, ew1]; unfold mo_pt; first | (rw [if_pos (by omega)]; done) | (rw [if_neg (by omega)]; done)⟩)
      · refine xx_iconst (pc := 45) dX12_roundsPlain_45 cc_iconst_0 ?_
        refine xx_goto (pc := 46) 52 dX12_roundsPlain_46 rfl ?_
        exact xx_iret (pc := 52) dX12_roundsPlain_52 rfl (rfl) (Nat.le_refl _) (Nat.le_refl _) (ic_ri ⟨by unfold mo_rr; exact congrArg nI (if_pos (by omega)).symm, by rw [ew9, ew1]; unfold mo_pt; first | (rw [if_pos (by omega)]; done) | (rw [if_neg (by omega)]; done)⟩)

