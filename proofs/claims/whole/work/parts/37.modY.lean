set_option maxHeartbeats 4000000 in
set_option maxRecDepth 100000 in
theorem cM_roundsOfClerk {l : Launch} {E : ic_E} {w : ic_w} {x : Nat} (h36 : w 114 36 ≤ 30) (h40 : w 114 40 ≤ 1) : ic_C l E mX12_roundsOfClerk 3 0 0 False [ic_pt E 114, .int (nI x)] SHs (hn w) SHs (ic_qi (fun v_ h_ => v_ = nI (mo_mi (mo_rr (w 114 40) (mo_dd (w 114 38) (w 114 39)) x) 5) ∧ h_ = hn (wu (mo_rn (mo_rn w 40) 12) 114 40 (mo_pt (w 114 40) (mo_dd (w 114 38) (w 114 39)))))) := by
  refine ic_intro (by decide +kernel) (Nat.le_of_ble_eq_true rfl) ?_
  show xx l E _ _ 0 [(0, ic_pt E 114), (1, .int (nI x))] _ _ _
  refine xx_aload_nP (pc := 0) dX12_roundsOfClerk_0 0 rfl rfl ?_
  refine xx_bipush (pc := 1) dX12_roundsOfClerk_1 cc_bipush_40 ?_
  refine xx_callV0 (pc := 3) (st := []) sh_114 (cM_runs (w := w) (c := 40) h36) kX12_runs vX12_376_12 dX12_roundsOfClerk_3 rfl rfl (Nat.le_of_ble_eq_true rfl) ⟨Nat.le_of_ble_eq_true rfl, Nat.le_of_ble_eq_true rfl⟩ ⟨Nat.zero_le _, Nat.zero_le _⟩ (ic_kv (fun h_ qw1 => ?_))
  obtain rfl := qw1
  refine xx_nw (fun w1 ew1 => ?_)
  have h36_w1 : w1 114 36 ≤ 30 := by rw [ew1]; exact mo_rn_36 h36
  have q37_w1 : w1 114 37 = w 114 37 := by rw [ew1, mo_rn_f _ _ (by omega)]
  have q38_w1 : w1 114 38 = w 114 38 := by rw [ew1, mo_rn_f _ _ (by omega)]
  have q39_w1 : w1 114 39 = w 114 39 := by rw [ew1, mo_rn_f _ _ (by omega)]
  have q40_w1 : w1 114 40 = w 114 40 := by rw [ew1, mo_rn_f _ _ (by omega)]
  refine xx_aload_nP (pc := 6) dX12_roundsOfClerk_6 0 rfl rfl ?_
  refine xx_iload_n (pc := 7) dX12_roundsOfClerk_7 1 rfl rfl ?_
  refine xx_callV0 (pc := 8) (st := []) sh_114 (cM_roundsPlain (w := w1) (x := x) h36_w1 (by rw [q40_w1]; exact h40)) kX12_roundsPlain vX12_400_12 dX12_roundsOfClerk_8 rfl rfl (Nat.le_of_ble_eq_true rfl) ⟨Nat.le_of_ble_eq_true rfl, Nat.le_of_ble_eq_true rfl⟩ ⟨Nat.zero_le _, Nat.zero_le _⟩ (ic_ki (fun v4 h_ qw3 => ?_))
  obtain ⟨rfl, rfl⟩ := qw3
  refine xx_nw (fun w3 ew3 => ?_)
  refine xx_iconst (pc := 11) dX12_roundsOfClerk_11 cc_iconst_5 ?_
  refine xx_isubM (pc := 12) dX12_roundsOfClerk_12 ?_
  exact xx_iret (pc := 13) dX12_roundsOfClerk_13 rfl (rfl) (Nat.le_refl _) (Nat.le_refl _) (ic_ri ⟨by rw [q40_w1, q38_w1, q39_w1], by rw [ew3, q40_w1, q38_w1, q39_w1, ew1]⟩)

