/-! doings: what rises -/
def mo_rpw (w : ic_w) : ic_w := mo_lgs (mo_rn w 13) (mo_rdl (w 114 37))
def mo_rsp (w : ic_w) (x : Nat) : Nat := mo_mi (mo_rd (w 114 37) (w 114 38) (w 114 39) x) (mo_rov (mo_rpw w) x)

set_option maxHeartbeats 4000000 in
set_option maxRecDepth 100000 in
theorem cM_risesPlain {l : Launch} {E : ic_E} {w : ic_w} {x : Nat} (h36 : w 114 36 ≤ 30) (h37 : w 114 37 ≤ 5) (h40 : w 114 40 ≤ 1) : ic_C l E mX12_risesPlain 6 0 0 False [ic_pt E 114, .int (nI x)] SHs (hn w) SHs (ic_qi (fun v_ h_ => v_ = nI (mo_rsp w x) ∧ h_ = hn (mo_row (mo_rpw w)))) := by
  refine ic_intro (by decide +kernel) (Nat.le_of_ble_eq_true rfl) ?_
  show xx l E _ _ 0 [(0, ic_pt E 114), (1, .int (nI x))] _ _ _
  refine xx_aload_nP (pc := 0) dX12_risesPlain_0 0 rfl rfl ?_
  refine xx_bipush (pc := 1) dX12_risesPlain_1 cc_bipush_13 ?_
  refine xx_callV0 (pc := 3) (st := []) sh_114 (cM_runs (w := w) (c := 13) h36) kX12_runs vX12_376_12 dX12_risesPlain_3 rfl rfl (Nat.le_of_ble_eq_true rfl) ⟨Nat.le_of_ble_eq_true rfl, Nat.le_of_ble_eq_true rfl⟩ ⟨Nat.zero_le _, Nat.zero_le _⟩ (ic_kv (fun h_ qw1 => ?_))
  obtain rfl := qw1
  refine xx_nw (fun w1 ew1 => ?_)
  have h36_w1 : w1 114 36 ≤ 30 := by rw [ew1]; exact mo_rn_36 h36
  have q37_w1 : w1 114 37 = w 114 37 := by rw [ew1, mo_rn_f _ _ (by omega)]
  have q38_w1 : w1 114 38 = w 114 38 := by rw [ew1, mo_rn_f _ _ (by omega)]
  have q39_w1 : w1 114 39 = w 114 39 := by rw [ew1, mo_rn_f _ _ (by omega)]
  have q40_w1 : w1 114 40 = w 114 40 := by rw [ew1, mo_rn_f _ _ (by omega)]
  refine xx_aload_nP (pc := 6) dX12_risesPlain_6 0 rfl rfl ?_
  refine xx_iload_n (pc := 7) dX12_risesPlain_7 1 rfl rfl ?_
  refine xx_callV0 (pc := 8) (st := []) sh_114 (cM_reads (w := w1) (x := x) h36_w1 (by rw [q37_w1]; exact h37)) kX12_reads vX12_406_12 dX12_risesPlain_8 rfl rfl (Nat.le_of_ble_eq_true rfl) ⟨Nat.le_of_ble_eq_true rfl, Nat.le_of_ble_eq_true rfl⟩ ⟨Nat.zero_le _, Nat.zero_le _⟩ (ic_ki (fun v4 h_ qw3 => ?_))
  obtain ⟨rfl, rfl⟩ := qw3
  refine xx_nw (fun w3 ew3 => ?_)
  have h36_w3 : w3 114 36 ≤ 30 := by rw [ew3]; exact mo_lgs_36 _ h36_w1
  have q37_w3 : w3 114 37 = w 114 37 := by rw [ew3, mo_lgs_f _ _ (by omega)]; exact q37_w1
  have q38_w3 : w3 114 38 = w 114 38 := by rw [ew3, mo_lgs_f _ _ (by omega)]; exact q38_w1
  have q39_w3 : w3 114 39 = w 114 39 := by rw [ew3, mo_lgs_f _ _ (by omega)]; exact q39_w1
  have q40_w3 : w3 114 40 = w 114 40 := by rw [ew3, mo_lgs_f _ _ (by omega)]; exact q40_w1
  refine xx_istore_n (L' := [(2, .int (nI (mo_rd (w1 114 37) (w1 114 38) (w1 114 39) x))), (0, ic_pt E 114), (1, .int (nI x))]) (pc := 11) dX12_risesPlain_11 rfl (Nat.le_of_ble_eq_true rfl) rfl ?_
  refine xx_iload_n (pc := 12) dX12_risesPlain_12 0 rfl rfl ?_
  refine xx_aload_nP (pc := 13) dX12_risesPlain_13 1 rfl rfl ?_
  refine xx_iload_n (pc := 14) dX12_risesPlain_14 2 rfl rfl ?_
  refine xx_callV0 (pc := 15) (st := [.int (nI (mo_rd (w1 114 37) (w1 114 38) (w1 114 39) x))]) sh_114 (cM_rounds (w := w3) (x := x) h36_w3 (by rw [q37_w3]; exact h37) (by rw [q40_w3]; exact h40)) kX12_rounds vX12_409_12 dX12_risesPlain_15 rfl rfl (Nat.le_of_ble_eq_true rfl) ⟨Nat.le_of_ble_eq_true rfl, Nat.le_of_ble_eq_true rfl⟩ ⟨Nat.zero_le _, Nat.zero_le _⟩ (ic_ki (fun v6 h_ qw5 => ?_))
  obtain ⟨rfl, rfl⟩ := qw5
  refine xx_nw (fun w5 ew5 => ?_)
  refine xx_isubM (pc := 18) dX12_risesPlain_18 ?_
  exact xx_iret (pc := 19) dX12_risesPlain_19 rfl (rfl) (Nat.le_refl _) (Nat.le_refl _) (ic_ri ⟨by rw [q37_w1, q38_w1, q39_w1, show w3 = mo_rpw w by rw [ew3, q37_w1, ew1]; rfl]; rfl, by rw [ew5, show w3 = mo_rpw w by rw [ew3, q37_w1, ew1]; rfl]⟩)

