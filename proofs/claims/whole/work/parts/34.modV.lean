/-! doings -/
def mo_mi (a b : Nat) : Nat := a + (4294967296 - b % 4294967296)
theorem xx_isubM {l : Launch} {E : ic_E} {F : ic_F} {kc : Nat × Nat} {pc : Nat} {L : List (Nat × Value)} {st : List Value} {sh : List ic_S} {h : ic_H} {a b : Nat} (hd : decode F.2.2.1 pc = .ok (.isub, 1)) (kk : xx l E F kc (pc + 1) L (.int (nI (mo_mi a b)) :: st) sh h) : xx l E F kc pc L (.int (nI b) :: .int (nI a) :: st) sh h := by
  refine xx_isub hd ?_
  rw [← nI_mod b, nI_subW (Nat.le_of_lt (Nat.mod_lt _ (by decide)))]
  exact kk
/-- what runs is told -/
def mo_rn (w : ic_w) (c : Nat) : ic_w := if w 114 36 < 30 then wu (wu w 132 (w 114 36) c) 114 36 (w 114 36 + 1) else w
def mo_lgs : ic_w → List Nat → ic_w
  | w, [] => w
  | w, c :: cs => mo_lgs (mo_rn w c) cs
theorem mo_rn_f (w : ic_w) (c : Nat) {j : Nat} (h : j ≠ 36) : mo_rn w c 114 j = w 114 j := by
  unfold mo_rn
  split
  · rw [wu_k _ _ _ _ h, wu_o _ _ _ _ (by omega)]
  · rfl
theorem mo_rn_36 {w : ic_w} {c : Nat} (h : w 114 36 ≤ 30) : mo_rn w c 114 36 ≤ 30 := by
  unfold mo_rn
  split
  · rw [wu_s]
    omega
  · exact h
theorem mo_lgs_f (w : ic_w) : ∀ (cs : List Nat) {j : Nat}, j ≠ 36 → mo_lgs w cs 114 j = w 114 j := by
  intro cs
  induction cs generalizing w with
  | nil => intro j _; rfl
  | cons c cs ih =>
    intro j h
    rw [mo_lgs, ih _ h, mo_rn_f _ _ h]
theorem mo_lgs_36 {w : ic_w} : ∀ (cs : List Nat), w 114 36 ≤ 30 → mo_lgs w cs 114 36 ≤ 30 := by
  intro cs
  induction cs generalizing w with
  | nil => exact id
  | cons c cs ih =>
    intro h
    rw [mo_lgs]
    exact ih (mo_rn_36 h)
theorem mo_lgs_a (w : ic_w) : ∀ (a b : List Nat), mo_lgs (mo_lgs w a) b = mo_lgs w (a ++ b) := by
  intro a
  induction a generalizing w with
  | nil => intro b; rfl
  | cons c cs ih => intro b; exact ih _ b
def mo_sp (n x : Nat) : Nat := mo_mi (x * 5) n
def mo_sd (kd n x : Nat) : Nat := if kd = 1 then mo_sp n x ^^^ 14 else if kd = 3 then mo_sp n (x + 11) else mo_sp n x
def mo_sdl (kd : Nat) : List Nat := if kd = 1 then [20, 10] else if kd = 3 then [50, 10] else [10]
def mo_rp (kd n a x : Nat) : Nat := mo_sd kd n x + 4 * a
def mo_rd (kd n a x : Nat) : Nat := if kd = 2 ∨ kd = 3 then mo_rp kd n a x * 3 else if kd = 5 then mo_mi 0 (mo_rp kd n a x) else mo_rp kd n a x
def mo_rdl (kd : Nat) : List Nat := if kd = 2 ∨ kd = 3 then 30 :: 11 :: mo_sdl kd else if kd = 5 then 60 :: 11 :: mo_sdl kd else 11 :: mo_sdl kd

set_option maxHeartbeats 4000000 in
set_option maxRecDepth 100000 in
theorem cM_runs {l : Launch} {E : ic_E} {w : ic_w} {c : Nat} (h36 : w 114 36 ≤ 30) : ic_C l E mX12_runs 1 0 0 False [ic_pt E 114, .int (nI c)] SHs (hn w) SHs (ic_qv (fun h_ => h_ = hn (mo_rn w c))) := by
  refine ic_intro (by decide +kernel) (Nat.le_of_ble_eq_true rfl) ?_
  show xx l E _ _ 0 [(0, ic_pt E 114), (1, .int (nI c))] _ _ _
  refine xx_aload_nP (pc := 0) dX12_runs_0 0 rfl rfl ?_
  refine xx_getN (pc := 1) dX12_runs_1 sh_114 fX12_373_12 rfl ?_
  refine xx_bipush (pc := 4) dX12_runs_4 cc_bipush_30 ?_
  refine xx_icmp_geN (pc := 6) 29 dX12_runs_6 rfl (by omega) (by omega) (fun c1 => ?_) (fun c1 => ?_)
  · exact xx_vret (pc := 29) dX12_runs_29 rfl (Nat.le_refl _) (Nat.le_refl _) (ic_rv0 (by rw [mo_rn, if_neg (by omega)]))
  · refine xx_aload_nP (pc := 9) dX12_runs_9 0 rfl rfl ?_
    refine xx_getR (pc := 10) 132 dX12_runs_10 sh_114 fX12_61_12 rfl rfl (by decide) ?_
    refine xx_aload_nP (pc := 13) dX12_runs_13 0 rfl rfl ?_
    refine xx_getN (pc := 14) dX12_runs_14 sh_114 fX12_373_12 rfl ?_
    refine xx_iload_n (pc := 17) dX12_runs_17 1 rfl rfl ?_
    refine xx_iastN (pc := 18) dX12_runs_18 sh_132 (by omega) (by decide) ?_
    refine xx_nw (fun w2 ew2 => ?_)
    have f36 : w2 114 36 = w 114 36 := by rw [ew2, wu_o _ _ _ _ (by omega)]
    refine xx_aload_nP (pc := 19) dX12_runs_19 0 rfl rfl ?_
    refine xx_dup (pc := 20) dX12_runs_20 rfl ?_
    refine xx_getN (pc := 21) dX12_runs_21 sh_114 fX12_373_12 rfl ?_
    refine xx_iconst (pc := 24) dX12_runs_24 cc_iconst_1 ?_
    refine xx_iaddN (pc := 25) dX12_runs_25 ?_
    refine xx_putN (pc := 26) dX12_runs_26 sh_114 fX12_373_12 rfl rfl ?_
    refine xx_nw (fun w3 ew3 => ?_)
    exact xx_vret (pc := 29) dX12_runs_29 rfl (Nat.le_refl _) (Nat.le_refl _) (ic_rv0 (by rw [mo_rn, if_pos (by omega), ew3, f36, ew2]))

set_option maxHeartbeats 4000000 in
set_option maxRecDepth 100000 in
theorem cM_standsPlain {l : Launch} {E : ic_E} {w : ic_w} {x : Nat} (h36 : w 114 36 ≤ 30) : ic_C l E mX12_standsPlain 2 0 0 False [ic_pt E 114, .int (nI x)] SHs (hn w) SHs (ic_qi (fun v_ h_ => v_ = nI (mo_sp (w 114 38) x) ∧ h_ = hn (mo_lgs w ([10])))) := by
  refine ic_intro (by decide +kernel) (Nat.le_of_ble_eq_true rfl) ?_
  show xx l E _ _ 0 [(0, ic_pt E 114), (1, .int (nI x))] _ _ _
  refine xx_aload_nP (pc := 0) dX12_standsPlain_0 0 rfl rfl ?_
  refine xx_bipush (pc := 1) dX12_standsPlain_1 cc_bipush_10 ?_
  refine xx_callV0 (pc := 3) (st := []) sh_114 (cM_runs (w := w) (c := 10) h36) kX12_runs vX12_376_12 dX12_standsPlain_3 rfl rfl (Nat.le_of_ble_eq_true rfl) ⟨Nat.le_of_ble_eq_true rfl, Nat.le_of_ble_eq_true rfl⟩ ⟨Nat.zero_le _, Nat.zero_le _⟩ (ic_kv (fun h_ qw1 => ?_))
  obtain rfl := qw1
  refine xx_nw (fun w1 ew1 => ?_)
  have h36_w1 : w1 114 36 ≤ 30 := by rw [ew1]; exact mo_rn_36 h36
  have q37_w1 : w1 114 37 = w 114 37 := by rw [ew1, mo_rn_f _ _ (by omega)]
  have q38_w1 : w1 114 38 = w 114 38 := by rw [ew1, mo_rn_f _ _ (by omega)]
  have q39_w1 : w1 114 39 = w 114 39 := by rw [ew1, mo_rn_f _ _ (by omega)]
  have q40_w1 : w1 114 40 = w 114 40 := by rw [ew1, mo_rn_f _ _ (by omega)]
  refine xx_iload_n (pc := 6) dX12_standsPlain_6 1 rfl rfl ?_
  refine xx_iconst (pc := 7) dX12_standsPlain_7 cc_iconst_5 ?_
  refine xx_imulN (pc := 8) dX12_standsPlain_8 ?_
  refine xx_aload_nP (pc := 9) dX12_standsPlain_9 0 rfl rfl ?_
  refine xx_getN (pc := 10) dX12_standsPlain_10 sh_114 fX12_379_12 rfl ?_
  refine xx_isubM (pc := 13) dX12_standsPlain_13 ?_
  exact xx_iret (pc := 14) dX12_standsPlain_14 rfl (rfl) (Nat.le_refl _) (Nat.le_refl _) (ic_ri ⟨by rw [q38_w1]; rfl, by rw [ew1]; rfl⟩)

set_option maxHeartbeats 4000000 in
set_option maxRecDepth 100000 in
theorem cM_stands {l : Launch} {E : ic_E} {w : ic_w} {x : Nat} (h36 : w 114 36 ≤ 30) (h37 : w 114 37 ≤ 5) : ic_C l E mX12_stands 3 0 0 False [ic_pt E 114, .int (nI x)] SHs (hn w) SHs (ic_qi (fun v_ h_ => v_ = nI (mo_sd (w 114 37) (w 114 38) x) ∧ h_ = hn (mo_lgs w (mo_sdl (w 114 37))))) := by
  refine ic_intro (by decide +kernel) (Nat.le_of_ble_eq_true rfl) ?_
  show xx l E _ _ 0 [(0, ic_pt E 114), (1, .int (nI x))] _ _ _
  refine xx_aload_nP (pc := 0) dX12_stands_0 0 rfl rfl ?_
  refine xx_getN (pc := 1) dX12_stands_1 sh_114 fX12_382_12 rfl ?_
  refine xx_iconst (pc := 4) dX12_stands_4 cc_iconst_1 ?_
  refine xx_icmp_neN (pc := 5) 23 dX12_stands_5 rfl (by omega) (by omega) (fun c1 => ?_) (fun c1 => ?_)
  · refine xx_aload_nP (pc := 23) dX12_stands_23 0 rfl rfl ?_
    refine xx_getN (pc := 24) dX12_stands_24 sh_114 fX12_382_12 rfl ?_
    refine xx_iconst (pc := 27) dX12_stands_27 cc_iconst_3 ?_
    refine xx_icmp_neN (pc := 28) 46 dX12_stands_28 rfl (by omega) (by omega) (fun c2 => ?_) (fun c2 => ?_)
    · refine xx_aload_nP (pc := 46) dX12_stands_46 0 rfl rfl ?_
      refine xx_iload_n (pc := 47) dX12_stands_47 1 rfl rfl ?_
      refine xx_callV0 (pc := 48) (st := []) sh_114 (cM_standsPlain (w := w) (x := x) h36) kX12_standsPlain vX12_385_12 dX12_stands_48 rfl rfl (Nat.le_of_ble_eq_true rfl) ⟨Nat.le_of_ble_eq_true rfl, Nat.le_of_ble_eq_true rfl⟩ ⟨Nat.zero_le _, Nat.zero_le _⟩ (ic_ki (fun v4 h_ qw3 => ?_))
      obtain ⟨rfl, rfl⟩ := qw3
      refine xx_nw (fun w3 ew3 => ?_)
      have h36_w3 : w3 114 36 ≤ 30 := by rw [ew3]; exact mo_lgs_36 _ h36
      have q37_w3 : w3 114 37 = w 114 37 := by rw [ew3, mo_lgs_f _ _ (by omega)]
      have q38_w3 : w3 114 38 = w 114 38 := by rw [ew3, mo_lgs_f _ _ (by omega)]
      have q39_w3 : w3 114 39 = w 114 39 := by rw [ew3, mo_lgs_f _ _ (by omega)]
      have q40_w3 : w3 114 40 = w 114 40 := by rw [ew3, mo_lgs_f _ _ (by omega)]
      exact xx_iret (pc := 51) dX12_stands_51 rfl (rfl) (Nat.le_refl _) (Nat.le_refl _) (ic_ri ⟨by rw [mo_sd, if_neg (by omega), if_neg (by omega)], by rw [mo_sdl, if_neg (by omega), if_neg (by omega), ew3] <;> rfl⟩)
    · refine xx_aload_nP (pc := 31) dX12_stands_31 0 rfl rfl ?_
      refine xx_bipush (pc := 32) dX12_stands_32 cc_bipush_50 ?_
      refine xx_callV0 (pc := 34) (st := []) sh_114 (cM_runs (w := w) (c := 50) h36) kX12_runs vX12_376_12 dX12_stands_34 rfl rfl (Nat.le_of_ble_eq_true rfl) ⟨Nat.le_of_ble_eq_true rfl, Nat.le_of_ble_eq_true rfl⟩ ⟨Nat.zero_le _, Nat.zero_le _⟩ (ic_kv (fun h_ qw5 => ?_))
      obtain rfl := qw5
      refine xx_nw (fun w5 ew5 => ?_)
      have h36_w5 : w5 114 36 ≤ 30 := by rw [ew5]; exact mo_rn_36 h36
      have q37_w5 : w5 114 37 = w 114 37 := by rw [ew5, mo_rn_f _ _ (by omega)]
      have q38_w5 : w5 114 38 = w 114 38 := by rw [ew5, mo_rn_f _ _ (by omega)]
      have q39_w5 : w5 114 39 = w 114 39 := by rw [ew5, mo_rn_f _ _ (by omega)]
      have q40_w5 : w5 114 40 = w 114 40 := by rw [ew5, mo_rn_f _ _ (by omega)]
      refine xx_aload_nP (pc := 37) dX12_stands_37 0 rfl rfl ?_
      refine xx_iload_n (pc := 38) dX12_stands_38 1 rfl rfl ?_
      refine xx_bipush (pc := 39) dX12_stands_39 cc_bipush_11 ?_
      refine xx_iaddN (pc := 41) dX12_stands_41 ?_
      refine xx_callV0 (pc := 42) (st := []) sh_114 (cM_standsPlain (w := w5) (x := x + 11) h36_w5) kX12_standsPlain vX12_385_12 dX12_stands_42 rfl rfl (Nat.le_of_ble_eq_true rfl) ⟨Nat.le_of_ble_eq_true rfl, Nat.le_of_ble_eq_true rfl⟩ ⟨Nat.zero_le _, Nat.zero_le _⟩ (ic_ki (fun v8 h_ qw7 => ?_))
      obtain ⟨rfl, rfl⟩ := qw7
      refine xx_nw (fun w7 ew7 => ?_)
      have h36_w7 : w7 114 36 ≤ 30 := by rw [ew7]; exact mo_lgs_36 _ h36_w5
      have q37_w7 : w7 114 37 = w 114 37 := by rw [ew7, mo_lgs_f _ _ (by omega)]; exact q37_w5
      have q38_w7 : w7 114 38 = w 114 38 := by rw [ew7, mo_lgs_f _ _ (by omega)]; exact q38_w5
      have q39_w7 : w7 114 39 = w 114 39 := by rw [ew7, mo_lgs_f _ _ (by omega)]; exact q39_w5
      have q40_w7 : w7 114 40 = w 114 40 := by rw [ew7, mo_lgs_f _ _ (by omega)]; exact q40_w5
      exact xx_iret (pc := 45) dX12_stands_45 rfl (rfl) (Nat.le_refl _) (Nat.le_refl _) (ic_ri ⟨by rw [mo_sd, if_neg (by omega), if_pos (by omega), q38_w5], by rw [mo_sdl, if_neg (by omega), if_pos (by omega), ew7, ew5] <;> rfl⟩)
  · refine xx_aload_nP (pc := 8) dX12_stands_8 0 rfl rfl ?_
    refine xx_bipush (pc := 9) dX12_stands_9 cc_bipush_20 ?_
    refine xx_callV0 (pc := 11) (st := []) sh_114 (cM_runs (w := w) (c := 20) h36) kX12_runs vX12_376_12 dX12_stands_11 rfl rfl (Nat.le_of_ble_eq_true rfl) ⟨Nat.le_of_ble_eq_true rfl, Nat.le_of_ble_eq_true rfl⟩ ⟨Nat.zero_le _, Nat.zero_le _⟩ (ic_kv (fun h_ qw9 => ?_))
    obtain rfl := qw9
    refine xx_nw (fun w9 ew9 => ?_)
    have h36_w9 : w9 114 36 ≤ 30 := by rw [ew9]; exact mo_rn_36 h36
    have q37_w9 : w9 114 37 = w 114 37 := by rw [ew9, mo_rn_f _ _ (by omega)]
    have q38_w9 : w9 114 38 = w 114 38 := by rw [ew9, mo_rn_f _ _ (by omega)]
    have q39_w9 : w9 114 39 = w 114 39 := by rw [ew9, mo_rn_f _ _ (by omega)]
    have q40_w9 : w9 114 40 = w 114 40 := by rw [ew9, mo_rn_f _ _ (by omega)]
    refine xx_aload_nP (pc := 14) dX12_stands_14 0 rfl rfl ?_
    refine xx_iload_n (pc := 15) dX12_stands_15 1 rfl rfl ?_
    refine xx_callV0 (pc := 16) (st := []) sh_114 (cM_standsPlain (w := w9) (x := x) h36_w9) kX12_standsPlain vX12_385_12 dX12_stands_16 rfl rfl (Nat.le_of_ble_eq_true rfl) ⟨Nat.le_of_ble_eq_true rfl, Nat.le_of_ble_eq_true rfl⟩ ⟨Nat.zero_le _, Nat.zero_le _⟩ (ic_ki (fun v12 h_ qw11 => ?_))
    obtain ⟨rfl, rfl⟩ := qw11
    refine xx_nw (fun w11 ew11 => ?_)
    have h36_w11 : w11 114 36 ≤ 30 := by rw [ew11]; exact mo_lgs_36 _ h36_w9
    have q37_w11 : w11 114 37 = w 114 37 := by rw [ew11, mo_lgs_f _ _ (by omega)]; exact q37_w9
    have q38_w11 : w11 114 38 = w 114 38 := by rw [ew11, mo_lgs_f _ _ (by omega)]; exact q38_w9
    have q39_w11 : w11 114 39 = w 114 39 := by rw [ew11, mo_lgs_f _ _ (by omega)]; exact q39_w9
    have q40_w11 : w11 114 40 = w 114 40 := by rw [ew11, mo_lgs_f _ _ (by omega)]; exact q40_w9
    refine xx_bipush (pc := 19) dX12_stands_19 cc_bipush_14 ?_
    refine xx_ixorN (pc := 21) dX12_stands_21 ?_
    exact xx_iret (pc := 22) dX12_stands_22 rfl (rfl) (Nat.le_refl _) (Nat.le_refl _) (ic_ri ⟨by rw [mo_sd, if_pos (by omega), q38_w9], by rw [mo_sdl, if_pos (by omega), ew11, ew9] <;> rfl⟩)

set_option maxHeartbeats 4000000 in
set_option maxRecDepth 100000 in
theorem cM_readsPlain {l : Launch} {E : ic_E} {w : ic_w} {x : Nat} (h36 : w 114 36 ≤ 30) (h37 : w 114 37 ≤ 5) : ic_C l E mX12_readsPlain 4 0 0 False [ic_pt E 114, .int (nI x)] SHs (hn w) SHs (ic_qi (fun v_ h_ => v_ = nI (mo_rp (w 114 37) (w 114 38) (w 114 39) x) ∧ h_ = hn (mo_lgs w (11 :: mo_sdl (w 114 37))))) := by
  refine ic_intro (by decide +kernel) (Nat.le_of_ble_eq_true rfl) ?_
  show xx l E _ _ 0 [(0, ic_pt E 114), (1, .int (nI x))] _ _ _
  refine xx_aload_nP (pc := 0) dX12_readsPlain_0 0 rfl rfl ?_
  refine xx_bipush (pc := 1) dX12_readsPlain_1 cc_bipush_11 ?_
  refine xx_callV0 (pc := 3) (st := []) sh_114 (cM_runs (w := w) (c := 11) h36) kX12_runs vX12_376_12 dX12_readsPlain_3 rfl rfl (Nat.le_of_ble_eq_true rfl) ⟨Nat.le_of_ble_eq_true rfl, Nat.le_of_ble_eq_true rfl⟩ ⟨Nat.zero_le _, Nat.zero_le _⟩ (ic_kv (fun h_ qw1 => ?_))
  obtain rfl := qw1
  refine xx_nw (fun w1 ew1 => ?_)
  have h36_w1 : w1 114 36 ≤ 30 := by rw [ew1]; exact mo_rn_36 h36
  have q37_w1 : w1 114 37 = w 114 37 := by rw [ew1, mo_rn_f _ _ (by omega)]
  have q38_w1 : w1 114 38 = w 114 38 := by rw [ew1, mo_rn_f _ _ (by omega)]
  have q39_w1 : w1 114 39 = w 114 39 := by rw [ew1, mo_rn_f _ _ (by omega)]
  have q40_w1 : w1 114 40 = w 114 40 := by rw [ew1, mo_rn_f _ _ (by omega)]
  refine xx_aload_nP (pc := 6) dX12_readsPlain_6 0 rfl rfl ?_
  refine xx_iload_n (pc := 7) dX12_readsPlain_7 1 rfl rfl ?_
  refine xx_callV0 (pc := 8) (st := []) sh_114 (cM_stands (w := w1) (x := x) h36_w1 (by rw [q37_w1]; exact h37)) kX12_stands vX12_388_12 dX12_readsPlain_8 rfl rfl (Nat.le_of_ble_eq_true rfl) ⟨Nat.le_of_ble_eq_true rfl, Nat.le_of_ble_eq_true rfl⟩ ⟨Nat.zero_le _, Nat.zero_le _⟩ (ic_ki (fun v4 h_ qw3 => ?_))
  obtain ⟨rfl, rfl⟩ := qw3
  refine xx_nw (fun w3 ew3 => ?_)
  have h36_w3 : w3 114 36 ≤ 30 := by rw [ew3]; exact mo_lgs_36 _ h36_w1
  have q37_w3 : w3 114 37 = w 114 37 := by rw [ew3, mo_lgs_f _ _ (by omega)]; exact q37_w1
  have q38_w3 : w3 114 38 = w 114 38 := by rw [ew3, mo_lgs_f _ _ (by omega)]; exact q38_w1
  have q39_w3 : w3 114 39 = w 114 39 := by rw [ew3, mo_lgs_f _ _ (by omega)]; exact q39_w1
  have q40_w3 : w3 114 40 = w 114 40 := by rw [ew3, mo_lgs_f _ _ (by omega)]; exact q40_w1
  refine xx_iconst (pc := 11) dX12_readsPlain_11 cc_iconst_4 ?_
  refine xx_aload_nP (pc := 12) dX12_readsPlain_12 0 rfl rfl ?_
  refine xx_getN (pc := 13) dX12_readsPlain_13 sh_114 fX12_391_12 rfl ?_
  refine xx_imulN (pc := 16) dX12_readsPlain_16 ?_
  refine xx_iaddN (pc := 17) dX12_readsPlain_17 ?_
  exact xx_iret (pc := 18) dX12_readsPlain_18 rfl (rfl) (Nat.le_refl _) (Nat.le_refl _) (ic_ri ⟨by unfold mo_rp; rw [q37_w1, q38_w1, q39_w3], by rw [ew3, q37_w1, ew1]; rfl⟩)

