/-! the class: riders act, the second half -/
theorem mo_rw0_f (W : ic_w) {j : Nat} (h : j ≠ 36) (h2 : j ≠ 40) : mo_rw0 W 114 j = W 114 j := by
  unfold mo_rw0
  rw [wu_k _ _ _ _ h2, mo_rn_f _ _ h]
theorem row_p {S : ic_w} {k : Nat} (h : S 114 37 = k) (h4 : k ≠ 4) (h5 : k ≠ 5) : mo_row S = mo_rw0 S := by
  unfold mo_row
  rw [if_neg (by omega), if_neg (by omega)]
  rfl
theorem row_4 {S : ic_w} (h : S 114 37 = 4) : mo_row S = mo_wA S := if_pos h
theorem mo_D_lt (W : ic_w) : mo_D W < 2 ^ 32 := Nat.mod_lt _ (by decide)
theorem rounds_s {w W : ic_w} {k : Nat} (h : Ca w (mo_cl W [12]) k) (h0 : W 114 40 = 0) (z : ¬ mo_D W = 0) : Ca w (mo_rw0 W) k := by
  have y := h.same (b := 0) ((mo_cl_f _ _ (by omega)).trans h0)
  rw [mo_cl_1 h0] at y
  unfold mo_rw0
  rw [mo_P_0 h0, if_neg z]
  exact y
theorem rounds_t {w W : ic_w} {k : Nat} (h : Ca w (mo_cl W [12]) k) (h0 : W 114 40 = 0) (z : mo_D W = 0) : Ca (wu w (27 + 2 * k) 4 1) (mo_rw0 W) k := by
  have y := h.set (b := 1) (by omega)
  rw [mo_cl_1 h0] at y
  unfold mo_rw0
  rw [mo_P_0 h0, if_pos z]
  exact y
theorem wA_s {W : ic_w} (h0 : W 114 40 = 0) : mo_rw0 (mo_cl W [40]) = mo_wA W := by
  rw [mo_cl_1 h0]
  unfold mo_rw0 mo_wA
  rw [mo_P_rn]
theorem row_5 {W : ic_w} (h0 : W 114 40 = 0) (h : W 114 37 = 5) : mo_cl (mo_wA (mo_cl W [61])) [10] = mo_row W := by
  rw [mo_cl_1 h0]
  unfold mo_row
  rw [if_neg (by omega), if_pos h]
  unfold mo_cl
  rw [mo_wA_40, mo_P_rn]
  rfl
theorem rp_e {W : ic_w} {k : Nat} {l : List Nat} (h0 : W 114 40 = 0) (hk : W 114 37 = k) (hl : mo_rdl k = l) : mo_cl (mo_cl W [13]) l = mo_rpw W := by
  unfold mo_rpw
  rw [hk, hl, mo_cl_1 h0]
  exact if_pos (by rw [mo_rn_f _ _ (by omega)]; exact h0)
theorem riw_3 {W : ic_w} (h0 : W 114 40 = 0) (hk : W 114 37 = 3) : mo_cl (mo_row (mo_rpw (mo_cl W [51]))) (mo_rdl 3) = mo_riw W := by
  rw [mo_cl_1 h0]
  unfold mo_riw
  rw [if_pos hk]
  unfold mo_cl
  rw [mo_row_40, mo_P_rpw, mo_P_rn]
  rfl
set_option maxHeartbeats 4000000 in
set_option maxRecDepth 100000 in
theorem cC_roundsP_1 {l : Launch} {E : ic_E} {w : ic_w} {W : ic_w} {x : Nat} (h0 : W 114 40 = 0) (hA : Ca w W 1) : ic_C l E mX9_rounds 2 0 0 False [ic_pt E 29, .int (nI x)] SHs (hn w) SHs (ic_qi (fun v_ h_ => v_ = nI (mo_rr 0 (mo_D W) x) ∧ ∃ w2, h_ = hn w2 ∧ (∀ a, a ≠ 29 → a ≠ 30 → w2 a = w a) ∧ Ca w2 (mo_rw0 W) 1)) := by
  refine ic_intro (by decide +kernel) (Nat.le_of_ble_eq_true rfl) ?_
  show xx l E _ _ 0 [(0, ic_pt E 29), (1, .int (nI x))] _ _ _
  have a0_ : w 29 0 = W 114 38 := hA.1.1
  have a1_ : w 29 1 = W 114 39 := hA.1.2.1
  have a3_ : w 29 3 = W 114 36 := hA.1.2.2.1
  have a4_ : w 29 4 = W 114 40 := hA.1.2.2.2
  have b_ := hA.2.1
  have hD_ := mo_D_lt W
  refine xx_aload_nP (pc := 0) dX9_rounds_0 0 rfl rfl ?_
  refine xx_bipush (pc := 1) dX9_rounds_1 cc_bipush_12 ?_
  refine xx_callU0 (pc := 3) (st := []) sh_29 (cC_begins_1 (w := w) (W := W) (c := 12) (by omega) hA) kX9_begins uX9_29_7 dX9_rounds_3 rfl rfl (Nat.le_of_ble_eq_true rfl) ⟨Nat.le_of_ble_eq_true rfl, Nat.le_of_ble_eq_true rfl⟩ ⟨Nat.zero_le _, Nat.zero_le _⟩ (ic_kv (fun h_ qw1 => ?_))
  obtain ⟨w1, rfl, f_w1, hA_w1⟩ := qw1
  have g_w1 : ∀ a, a ≠ 29 → a ≠ 30 → w1 a = w a := fun a h1 h2 => (f_w1 a h1 h2).trans rfl
  have s_w1 : ∀ j, j ≠ 36 → j ≠ 40 → (mo_cl W [12]) 114 j = W 114 j := fun j h1 h2 => (mo_cl_f _ _ h1).trans rfl
  have z_w1 : (mo_cl W [12]) 114 40 = W 114 40 := (mo_cl_f _ _ (by omega)).trans rfl
  have a0_w1 : w1 29 0 = W 114 38 := hA_w1.1.1.trans (s_w1 38 (by omega) (by omega))
  have a1_w1 : w1 29 1 = W 114 39 := hA_w1.1.2.1.trans (s_w1 39 (by omega) (by omega))
  refine xx_aload_nP (pc := 6) dX9_rounds_6 0 rfl rfl ?_
  refine xx_getN (pc := 7) dX9_rounds_7 sh_29 fX9_15_7 rfl ?_
  refine xx_eqI (y := nI (W 114 38)) (by rw [a0_w1]) ?_
  refine xx_aload_nP (pc := 10) dX9_rounds_10 0 rfl rfl ?_
  refine xx_getN (pc := 11) dX9_rounds_11 sh_29 fX9_19_7 rfl ?_
  refine xx_eqI (y := nI (W 114 39)) (by rw [a1_w1]) ?_
  refine xx_isubM (pc := 14) dX9_rounds_14 ?_
  refine xx_iconst (pc := 15) dX9_rounds_15 cc_iconst_4 ?_
  refine xx_iaddN (pc := 16) dX9_rounds_16 ?_
  refine xx_eqI (y := nI (mo_D W)) ((nI_mod _).symm) ?_
  refine xx_istore_n (L' := [(2, .int (nI (mo_D W))), (0, ic_pt E 29), (1, .int (nI x))]) (pc := 17) dX9_rounds_17 rfl (Nat.le_of_ble_eq_true rfl) rfl ?_
  refine xx_iload_n (pc := 18) dX9_rounds_18 0 rfl rfl ?_
  refine xx_if_neN (pc := 19) 29 dX9_rounds_19 rfl (by omega) (fun c3 => ?_) (fun c3 => ?_)
  · refine xx_iload_n (pc := 29) dX9_rounds_29 2 rfl rfl ?_
    refine xx_iload_n (pc := 30) dX9_rounds_30 0 rfl rfl ?_
    refine xx_irem (pc := 31) dX9_rounds_31 (by exact mo_dd_z hD_ (by omega)) ?_
    refine xx_eqI (y := nI (mo_rm x (mo_D W))) (nI_tn _).symm ?_
    exact xx_iret (pc := 32) dX9_rounds_32 rfl (rfl) (Nat.le_refl _) (Nat.le_refl _) (ic_ri ⟨by unfold mo_rr; exact congrArg nI (if_neg (by omega)).symm, w1, rfl, g_w1, rounds_s hA_w1 h0 (by omega)⟩)
  · refine xx_aload_nP (pc := 22) dX9_rounds_22 1 rfl rfl ?_
    refine xx_iconst (pc := 23) dX9_rounds_23 cc_iconst_1 ?_
    refine xx_putB (pc := 24) dX9_rounds_24 sh_29 fX9_25_7 rfl rfl (by omega) ?_
    refine xx_nw (fun w4 ew4 => ?_)
    refine xx_iconst (pc := 27) dX9_rounds_27 cc_iconst_0 ?_
    exact xx_iret (pc := 28) dX9_rounds_28 rfl (rfl) (Nat.le_refl _) (Nat.le_refl _) (ic_ri ⟨by unfold mo_rr; exact congrArg nI (if_pos (Or.inr (by omega))).symm, w4, rfl, fun a h1 h2 => by rw [ew4, wu_row _ _ _ h1]; exact g_w1 a h1 h2, by rw [ew4]; exact rounds_t hA_w1 h0 (by omega)⟩)

set_option maxHeartbeats 4000000 in
set_option maxRecDepth 100000 in
theorem cC_roundsP_2 {l : Launch} {E : ic_E} {w : ic_w} {W : ic_w} {x : Nat} (h0 : W 114 40 = 0) (hA : Ca w W 2) : ic_C l E mX9_rounds 2 0 0 False [ic_pt E 31, .int (nI x)] SHs (hn w) SHs (ic_qi (fun v_ h_ => v_ = nI (mo_rr 0 (mo_D W) x) ∧ ∃ w2, h_ = hn w2 ∧ (∀ a, a ≠ 31 → a ≠ 32 → w2 a = w a) ∧ Ca w2 (mo_rw0 W) 2)) := by
  refine ic_intro (by decide +kernel) (Nat.le_of_ble_eq_true rfl) ?_
  show xx l E _ _ 0 [(0, ic_pt E 31), (1, .int (nI x))] _ _ _
  have a0_ : w 31 0 = W 114 38 := hA.1.1
  have a1_ : w 31 1 = W 114 39 := hA.1.2.1
  have a3_ : w 31 3 = W 114 36 := hA.1.2.2.1
  have a4_ : w 31 4 = W 114 40 := hA.1.2.2.2
  have b_ := hA.2.1
  have hD_ := mo_D_lt W
  refine xx_aload_nP (pc := 0) dX9_rounds_0 0 rfl rfl ?_
  refine xx_bipush (pc := 1) dX9_rounds_1 cc_bipush_12 ?_
  refine xx_callU0 (pc := 3) (st := []) sh_31 (cC_begins_2 (w := w) (W := W) (c := 12) (by omega) hA) kX9_begins uX9_29_3 dX9_rounds_3 rfl rfl (Nat.le_of_ble_eq_true rfl) ⟨Nat.le_of_ble_eq_true rfl, Nat.le_of_ble_eq_true rfl⟩ ⟨Nat.zero_le _, Nat.zero_le _⟩ (ic_kv (fun h_ qw1 => ?_))
  obtain ⟨w1, rfl, f_w1, hA_w1⟩ := qw1
  have g_w1 : ∀ a, a ≠ 31 → a ≠ 32 → w1 a = w a := fun a h1 h2 => (f_w1 a h1 h2).trans rfl
  have s_w1 : ∀ j, j ≠ 36 → j ≠ 40 → (mo_cl W [12]) 114 j = W 114 j := fun j h1 h2 => (mo_cl_f _ _ h1).trans rfl
  have z_w1 : (mo_cl W [12]) 114 40 = W 114 40 := (mo_cl_f _ _ (by omega)).trans rfl
  have a0_w1 : w1 31 0 = W 114 38 := hA_w1.1.1.trans (s_w1 38 (by omega) (by omega))
  have a1_w1 : w1 31 1 = W 114 39 := hA_w1.1.2.1.trans (s_w1 39 (by omega) (by omega))
  refine xx_aload_nP (pc := 6) dX9_rounds_6 0 rfl rfl ?_
  refine xx_getN (pc := 7) dX9_rounds_7 sh_31 fX9_15_3 rfl ?_
  refine xx_eqI (y := nI (W 114 38)) (by rw [a0_w1]) ?_
  refine xx_aload_nP (pc := 10) dX9_rounds_10 0 rfl rfl ?_
  refine xx_getN (pc := 11) dX9_rounds_11 sh_31 fX9_19_3 rfl ?_
  refine xx_eqI (y := nI (W 114 39)) (by rw [a1_w1]) ?_
  refine xx_isubM (pc := 14) dX9_rounds_14 ?_
  refine xx_iconst (pc := 15) dX9_rounds_15 cc_iconst_4 ?_
  refine xx_iaddN (pc := 16) dX9_rounds_16 ?_
  refine xx_eqI (y := nI (mo_D W)) ((nI_mod _).symm) ?_
  refine xx_istore_n (L' := [(2, .int (nI (mo_D W))), (0, ic_pt E 31), (1, .int (nI x))]) (pc := 17) dX9_rounds_17 rfl (Nat.le_of_ble_eq_true rfl) rfl ?_
  refine xx_iload_n (pc := 18) dX9_rounds_18 0 rfl rfl ?_
  refine xx_if_neN (pc := 19) 29 dX9_rounds_19 rfl (by omega) (fun c3 => ?_) (fun c3 => ?_)
  · refine xx_iload_n (pc := 29) dX9_rounds_29 2 rfl rfl ?_
    refine xx_iload_n (pc := 30) dX9_rounds_30 0 rfl rfl ?_
    refine xx_irem (pc := 31) dX9_rounds_31 (by exact mo_dd_z hD_ (by omega)) ?_
    refine xx_eqI (y := nI (mo_rm x (mo_D W))) (nI_tn _).symm ?_
    exact xx_iret (pc := 32) dX9_rounds_32 rfl (rfl) (Nat.le_refl _) (Nat.le_refl _) (ic_ri ⟨by unfold mo_rr; exact congrArg nI (if_neg (by omega)).symm, w1, rfl, g_w1, rounds_s hA_w1 h0 (by omega)⟩)
  · refine xx_aload_nP (pc := 22) dX9_rounds_22 1 rfl rfl ?_
    refine xx_iconst (pc := 23) dX9_rounds_23 cc_iconst_1 ?_
    refine xx_putB (pc := 24) dX9_rounds_24 sh_31 fX9_25_3 rfl rfl (by omega) ?_
    refine xx_nw (fun w4 ew4 => ?_)
    refine xx_iconst (pc := 27) dX9_rounds_27 cc_iconst_0 ?_
    exact xx_iret (pc := 28) dX9_rounds_28 rfl (rfl) (Nat.le_refl _) (Nat.le_refl _) (ic_ri ⟨by unfold mo_rr; exact congrArg nI (if_pos (Or.inr (by omega))).symm, w4, rfl, fun a h1 h2 => by rw [ew4, wu_row _ _ _ h1]; exact g_w1 a h1 h2, by rw [ew4]; exact rounds_t hA_w1 h0 (by omega)⟩)

set_option maxHeartbeats 4000000 in
set_option maxRecDepth 100000 in
theorem cC_roundsP_3 {l : Launch} {E : ic_E} {w : ic_w} {W : ic_w} {x : Nat} (h0 : W 114 40 = 0) (hA : Ca w W 3) : ic_C l E mX9_rounds 2 0 0 False [ic_pt E 33, .int (nI x)] SHs (hn w) SHs (ic_qi (fun v_ h_ => v_ = nI (mo_rr 0 (mo_D W) x) ∧ ∃ w2, h_ = hn w2 ∧ (∀ a, a ≠ 33 → a ≠ 34 → w2 a = w a) ∧ Ca w2 (mo_rw0 W) 3)) := by
  refine ic_intro (by decide +kernel) (Nat.le_of_ble_eq_true rfl) ?_
  show xx l E _ _ 0 [(0, ic_pt E 33), (1, .int (nI x))] _ _ _
  have a0_ : w 33 0 = W 114 38 := hA.1.1
  have a1_ : w 33 1 = W 114 39 := hA.1.2.1
  have a3_ : w 33 3 = W 114 36 := hA.1.2.2.1
  have a4_ : w 33 4 = W 114 40 := hA.1.2.2.2
  have b_ := hA.2.1
  have hD_ := mo_D_lt W
  refine xx_aload_nP (pc := 0) dX9_rounds_0 0 rfl rfl ?_
  refine xx_bipush (pc := 1) dX9_rounds_1 cc_bipush_12 ?_
  refine xx_callU0 (pc := 3) (st := []) sh_33 (cC_begins_3 (w := w) (W := W) (c := 12) (by omega) hA) kX9_begins uX9_29_2 dX9_rounds_3 rfl rfl (Nat.le_of_ble_eq_true rfl) ⟨Nat.le_of_ble_eq_true rfl, Nat.le_of_ble_eq_true rfl⟩ ⟨Nat.zero_le _, Nat.zero_le _⟩ (ic_kv (fun h_ qw1 => ?_))
  obtain ⟨w1, rfl, f_w1, hA_w1⟩ := qw1
  have g_w1 : ∀ a, a ≠ 33 → a ≠ 34 → w1 a = w a := fun a h1 h2 => (f_w1 a h1 h2).trans rfl
  have s_w1 : ∀ j, j ≠ 36 → j ≠ 40 → (mo_cl W [12]) 114 j = W 114 j := fun j h1 h2 => (mo_cl_f _ _ h1).trans rfl
  have z_w1 : (mo_cl W [12]) 114 40 = W 114 40 := (mo_cl_f _ _ (by omega)).trans rfl
  have a0_w1 : w1 33 0 = W 114 38 := hA_w1.1.1.trans (s_w1 38 (by omega) (by omega))
  have a1_w1 : w1 33 1 = W 114 39 := hA_w1.1.2.1.trans (s_w1 39 (by omega) (by omega))
  refine xx_aload_nP (pc := 6) dX9_rounds_6 0 rfl rfl ?_
  refine xx_getN (pc := 7) dX9_rounds_7 sh_33 fX9_15_2 rfl ?_
  refine xx_eqI (y := nI (W 114 38)) (by rw [a0_w1]) ?_
  refine xx_aload_nP (pc := 10) dX9_rounds_10 0 rfl rfl ?_
  refine xx_getN (pc := 11) dX9_rounds_11 sh_33 fX9_19_2 rfl ?_
  refine xx_eqI (y := nI (W 114 39)) (by rw [a1_w1]) ?_
  refine xx_isubM (pc := 14) dX9_rounds_14 ?_
  refine xx_iconst (pc := 15) dX9_rounds_15 cc_iconst_4 ?_
  refine xx_iaddN (pc := 16) dX9_rounds_16 ?_
  refine xx_eqI (y := nI (mo_D W)) ((nI_mod _).symm) ?_
  refine xx_istore_n (L' := [(2, .int (nI (mo_D W))), (0, ic_pt E 33), (1, .int (nI x))]) (pc := 17) dX9_rounds_17 rfl (Nat.le_of_ble_eq_true rfl) rfl ?_
  refine xx_iload_n (pc := 18) dX9_rounds_18 0 rfl rfl ?_
  refine xx_if_neN (pc := 19) 29 dX9_rounds_19 rfl (by omega) (fun c3 => ?_) (fun c3 => ?_)
  · refine xx_iload_n (pc := 29) dX9_rounds_29 2 rfl rfl ?_
    refine xx_iload_n (pc := 30) dX9_rounds_30 0 rfl rfl ?_
    refine xx_irem (pc := 31) dX9_rounds_31 (by exact mo_dd_z hD_ (by omega)) ?_
    refine xx_eqI (y := nI (mo_rm x (mo_D W))) (nI_tn _).symm ?_
    exact xx_iret (pc := 32) dX9_rounds_32 rfl (rfl) (Nat.le_refl _) (Nat.le_refl _) (ic_ri ⟨by unfold mo_rr; exact congrArg nI (if_neg (by omega)).symm, w1, rfl, g_w1, rounds_s hA_w1 h0 (by omega)⟩)
  · refine xx_aload_nP (pc := 22) dX9_rounds_22 1 rfl rfl ?_
    refine xx_iconst (pc := 23) dX9_rounds_23 cc_iconst_1 ?_
    refine xx_putB (pc := 24) dX9_rounds_24 sh_33 fX9_25_2 rfl rfl (by omega) ?_
    refine xx_nw (fun w4 ew4 => ?_)
    refine xx_iconst (pc := 27) dX9_rounds_27 cc_iconst_0 ?_
    exact xx_iret (pc := 28) dX9_rounds_28 rfl (rfl) (Nat.le_refl _) (Nat.le_refl _) (ic_ri ⟨by unfold mo_rr; exact congrArg nI (if_pos (Or.inr (by omega))).symm, w4, rfl, fun a h1 h2 => by rw [ew4, wu_row _ _ _ h1]; exact g_w1 a h1 h2, by rw [ew4]; exact rounds_t hA_w1 h0 (by omega)⟩)

set_option maxHeartbeats 4000000 in
set_option maxRecDepth 100000 in
theorem cC_roundsP_4 {l : Launch} {E : ic_E} {w : ic_w} {W : ic_w} {x : Nat} (h0 : W 114 40 = 0) (hA : Ca w W 4) : ic_C l E mX9_rounds 2 0 0 False [ic_pt E 35, .int (nI x)] SHs (hn w) SHs (ic_qi (fun v_ h_ => v_ = nI (mo_rr 0 (mo_D W) x) ∧ ∃ w2, h_ = hn w2 ∧ (∀ a, a ≠ 35 → a ≠ 36 → w2 a = w a) ∧ Ca w2 (mo_rw0 W) 4)) := by
  refine ic_intro (by decide +kernel) (Nat.le_of_ble_eq_true rfl) ?_
  show xx l E _ _ 0 [(0, ic_pt E 35), (1, .int (nI x))] _ _ _
  have a0_ : w 35 0 = W 114 38 := hA.1.1
  have a1_ : w 35 1 = W 114 39 := hA.1.2.1
  have a3_ : w 35 3 = W 114 36 := hA.1.2.2.1
  have a4_ : w 35 4 = W 114 40 := hA.1.2.2.2
  have b_ := hA.2.1
  have hD_ := mo_D_lt W
  refine xx_aload_nP (pc := 0) dX9_rounds_0 0 rfl rfl ?_
  refine xx_bipush (pc := 1) dX9_rounds_1 cc_bipush_12 ?_
  refine xx_callU0 (pc := 3) (st := []) sh_35 (cC_begins_4 (w := w) (W := W) (c := 12) (by omega) hA) kX9_begins uX9_29_1 dX9_rounds_3 rfl rfl (Nat.le_of_ble_eq_true rfl) ⟨Nat.le_of_ble_eq_true rfl, Nat.le_of_ble_eq_true rfl⟩ ⟨Nat.zero_le _, Nat.zero_le _⟩ (ic_kv (fun h_ qw1 => ?_))
  obtain ⟨w1, rfl, f_w1, hA_w1⟩ := qw1
  have g_w1 : ∀ a, a ≠ 35 → a ≠ 36 → w1 a = w a := fun a h1 h2 => (f_w1 a h1 h2).trans rfl
  have s_w1 : ∀ j, j ≠ 36 → j ≠ 40 → (mo_cl W [12]) 114 j = W 114 j := fun j h1 h2 => (mo_cl_f _ _ h1).trans rfl
  have z_w1 : (mo_cl W [12]) 114 40 = W 114 40 := (mo_cl_f _ _ (by omega)).trans rfl
  have a0_w1 : w1 35 0 = W 114 38 := hA_w1.1.1.trans (s_w1 38 (by omega) (by omega))
  have a1_w1 : w1 35 1 = W 114 39 := hA_w1.1.2.1.trans (s_w1 39 (by omega) (by omega))
  refine xx_aload_nP (pc := 6) dX9_rounds_6 0 rfl rfl ?_
  refine xx_getN (pc := 7) dX9_rounds_7 sh_35 fX9_15_1 rfl ?_
  refine xx_eqI (y := nI (W 114 38)) (by rw [a0_w1]) ?_
  refine xx_aload_nP (pc := 10) dX9_rounds_10 0 rfl rfl ?_
  refine xx_getN (pc := 11) dX9_rounds_11 sh_35 fX9_19_1 rfl ?_
  refine xx_eqI (y := nI (W 114 39)) (by rw [a1_w1]) ?_
  refine xx_isubM (pc := 14) dX9_rounds_14 ?_
  refine xx_iconst (pc := 15) dX9_rounds_15 cc_iconst_4 ?_
  refine xx_iaddN (pc := 16) dX9_rounds_16 ?_
  refine xx_eqI (y := nI (mo_D W)) ((nI_mod _).symm) ?_
  refine xx_istore_n (L' := [(2, .int (nI (mo_D W))), (0, ic_pt E 35), (1, .int (nI x))]) (pc := 17) dX9_rounds_17 rfl (Nat.le_of_ble_eq_true rfl) rfl ?_
  refine xx_iload_n (pc := 18) dX9_rounds_18 0 rfl rfl ?_
  refine xx_if_neN (pc := 19) 29 dX9_rounds_19 rfl (by omega) (fun c3 => ?_) (fun c3 => ?_)
  · refine xx_iload_n (pc := 29) dX9_rounds_29 2 rfl rfl ?_
    refine xx_iload_n (pc := 30) dX9_rounds_30 0 rfl rfl ?_
    refine xx_irem (pc := 31) dX9_rounds_31 (by exact mo_dd_z hD_ (by omega)) ?_
    refine xx_eqI (y := nI (mo_rm x (mo_D W))) (nI_tn _).symm ?_
    exact xx_iret (pc := 32) dX9_rounds_32 rfl (rfl) (Nat.le_refl _) (Nat.le_refl _) (ic_ri ⟨by unfold mo_rr; exact congrArg nI (if_neg (by omega)).symm, w1, rfl, g_w1, rounds_s hA_w1 h0 (by omega)⟩)
  · refine xx_aload_nP (pc := 22) dX9_rounds_22 1 rfl rfl ?_
    refine xx_iconst (pc := 23) dX9_rounds_23 cc_iconst_1 ?_
    refine xx_putB (pc := 24) dX9_rounds_24 sh_35 fX9_25_1 rfl rfl (by omega) ?_
    refine xx_nw (fun w4 ew4 => ?_)
    refine xx_iconst (pc := 27) dX9_rounds_27 cc_iconst_0 ?_
    exact xx_iret (pc := 28) dX9_rounds_28 rfl (rfl) (Nat.le_refl _) (Nat.le_refl _) (ic_ri ⟨by unfold mo_rr; exact congrArg nI (if_pos (Or.inr (by omega))).symm, w4, rfl, fun a h1 h2 => by rw [ew4, wu_row _ _ _ h1]; exact g_w1 a h1 h2, by rw [ew4]; exact rounds_t hA_w1 h0 (by omega)⟩)

set_option maxHeartbeats 4000000 in
set_option maxRecDepth 100000 in
theorem cC_roundsP_5 {l : Launch} {E : ic_E} {w : ic_w} {W : ic_w} {x : Nat} (h0 : W 114 40 = 0) (hA : Ca w W 5) : ic_C l E mX9_rounds 2 0 0 False [ic_pt E 37, .int (nI x)] SHs (hn w) SHs (ic_qi (fun v_ h_ => v_ = nI (mo_rr 0 (mo_D W) x) ∧ ∃ w2, h_ = hn w2 ∧ (∀ a, a ≠ 37 → a ≠ 38 → w2 a = w a) ∧ Ca w2 (mo_rw0 W) 5)) := by
  refine ic_intro (by decide +kernel) (Nat.le_of_ble_eq_true rfl) ?_
  show xx l E _ _ 0 [(0, ic_pt E 37), (1, .int (nI x))] _ _ _
  have a0_ : w 37 0 = W 114 38 := hA.1.1
  have a1_ : w 37 1 = W 114 39 := hA.1.2.1
  have a3_ : w 37 3 = W 114 36 := hA.1.2.2.1
  have a4_ : w 37 4 = W 114 40 := hA.1.2.2.2
  have b_ := hA.2.1
  have hD_ := mo_D_lt W
  refine xx_aload_nP (pc := 0) dX9_rounds_0 0 rfl rfl ?_
  refine xx_bipush (pc := 1) dX9_rounds_1 cc_bipush_12 ?_
  refine xx_callU0 (pc := 3) (st := []) sh_37 (cC_begins_5 (w := w) (W := W) (c := 12) (by omega) hA) kX9_begins uX9_29_0 dX9_rounds_3 rfl rfl (Nat.le_of_ble_eq_true rfl) ⟨Nat.le_of_ble_eq_true rfl, Nat.le_of_ble_eq_true rfl⟩ ⟨Nat.zero_le _, Nat.zero_le _⟩ (ic_kv (fun h_ qw1 => ?_))
  obtain ⟨w1, rfl, f_w1, hA_w1⟩ := qw1
  have g_w1 : ∀ a, a ≠ 37 → a ≠ 38 → w1 a = w a := fun a h1 h2 => (f_w1 a h1 h2).trans rfl
  have s_w1 : ∀ j, j ≠ 36 → j ≠ 40 → (mo_cl W [12]) 114 j = W 114 j := fun j h1 h2 => (mo_cl_f _ _ h1).trans rfl
  have z_w1 : (mo_cl W [12]) 114 40 = W 114 40 := (mo_cl_f _ _ (by omega)).trans rfl
  have a0_w1 : w1 37 0 = W 114 38 := hA_w1.1.1.trans (s_w1 38 (by omega) (by omega))
  have a1_w1 : w1 37 1 = W 114 39 := hA_w1.1.2.1.trans (s_w1 39 (by omega) (by omega))
  refine xx_aload_nP (pc := 6) dX9_rounds_6 0 rfl rfl ?_
  refine xx_getN (pc := 7) dX9_rounds_7 sh_37 fX9_15_0 rfl ?_
  refine xx_eqI (y := nI (W 114 38)) (by rw [a0_w1]) ?_
  refine xx_aload_nP (pc := 10) dX9_rounds_10 0 rfl rfl ?_
  refine xx_getN (pc := 11) dX9_rounds_11 sh_37 fX9_19_0 rfl ?_
  refine xx_eqI (y := nI (W 114 39)) (by rw [a1_w1]) ?_
  refine xx_isubM (pc := 14) dX9_rounds_14 ?_
  refine xx_iconst (pc := 15) dX9_rounds_15 cc_iconst_4 ?_
  refine xx_iaddN (pc := 16) dX9_rounds_16 ?_
  refine xx_eqI (y := nI (mo_D W)) ((nI_mod _).symm) ?_
  refine xx_istore_n (L' := [(2, .int (nI (mo_D W))), (0, ic_pt E 37), (1, .int (nI x))]) (pc := 17) dX9_rounds_17 rfl (Nat.le_of_ble_eq_true rfl) rfl ?_
  refine xx_iload_n (pc := 18) dX9_rounds_18 0 rfl rfl ?_
  refine xx_if_neN (pc := 19) 29 dX9_rounds_19 rfl (by omega) (fun c3 => ?_) (fun c3 => ?_)
  · refine xx_iload_n (pc := 29) dX9_rounds_29 2 rfl rfl ?_
    refine xx_iload_n (pc := 30) dX9_rounds_30 0 rfl rfl ?_
    refine xx_irem (pc := 31) dX9_rounds_31 (by exact mo_dd_z hD_ (by omega)) ?_
    refine xx_eqI (y := nI (mo_rm x (mo_D W))) (nI_tn _).symm ?_
    exact xx_iret (pc := 32) dX9_rounds_32 rfl (rfl) (Nat.le_refl _) (Nat.le_refl _) (ic_ri ⟨by unfold mo_rr; exact congrArg nI (if_neg (by omega)).symm, w1, rfl, g_w1, rounds_s hA_w1 h0 (by omega)⟩)
  · refine xx_aload_nP (pc := 22) dX9_rounds_22 1 rfl rfl ?_
    refine xx_iconst (pc := 23) dX9_rounds_23 cc_iconst_1 ?_
    refine xx_putB (pc := 24) dX9_rounds_24 sh_37 fX9_25_0 rfl rfl (by omega) ?_
    refine xx_nw (fun w4 ew4 => ?_)
    refine xx_iconst (pc := 27) dX9_rounds_27 cc_iconst_0 ?_
    exact xx_iret (pc := 28) dX9_rounds_28 rfl (rfl) (Nat.le_refl _) (Nat.le_refl _) (ic_ri ⟨by unfold mo_rr; exact congrArg nI (if_pos (Or.inr (by omega))).symm, w4, rfl, fun a h1 h2 => by rw [ew4, wu_row _ _ _ h1]; exact g_w1 a h1 h2, by rw [ew4]; exact rounds_t hA_w1 h0 (by omega)⟩)

set_option maxHeartbeats 4000000 in
set_option maxRecDepth 100000 in
theorem cC_roundsC_4 {l : Launch} {E : ic_E} {w : ic_w} {W : ic_w} {x : Nat} (h0 : W 114 40 = 0) (hA : Ca w W 4) : ic_C l E mX1_rounds 3 0 0 False [ic_pt E 35, .int (nI x)] SHs (hn w) SHs (ic_qi (fun v_ h_ => v_ = nI (mo_mi (mo_rr 0 (mo_D W) x) 5) ∧ ∃ w2, h_ = hn w2 ∧ (∀ a, a ≠ 35 → a ≠ 36 → w2 a = w a) ∧ Ca w2 (mo_wA W) 4)) := by
  refine ic_intro (by decide +kernel) (Nat.le_of_ble_eq_true rfl) ?_
  show xx l E _ _ 0 [(0, ic_pt E 35), (1, .int (nI x))] _ _ _
  have a0_ : w 35 0 = W 114 38 := hA.1.1
  have a1_ : w 35 1 = W 114 39 := hA.1.2.1
  have a3_ : w 35 3 = W 114 36 := hA.1.2.2.1
  have a4_ : w 35 4 = W 114 40 := hA.1.2.2.2
  have b_ := hA.2.1
  refine xx_aload_nP (pc := 0) dX1_rounds_0 0 rfl rfl ?_
  refine xx_bipush (pc := 1) dX1_rounds_1 cc_bipush_40 ?_
  refine xx_callU0 (pc := 3) (st := []) sh_35 (cC_begins_4 (w := w) (W := W) (c := 40) (by omega) hA) kX9_begins uX1_17_1 dX1_rounds_3 rfl rfl (Nat.le_of_ble_eq_true rfl) ⟨Nat.le_of_ble_eq_true rfl, Nat.le_of_ble_eq_true rfl⟩ ⟨Nat.zero_le _, Nat.zero_le _⟩ (ic_kv (fun h_ qw1 => ?_))
  obtain ⟨w1, rfl, f_w1, hA_w1⟩ := qw1
  have g_w1 : ∀ a, a ≠ 35 → a ≠ 36 → w1 a = w a := fun a h1 h2 => (f_w1 a h1 h2).trans rfl
  have s_w1 : ∀ j, j ≠ 36 → j ≠ 40 → (mo_cl W [40]) 114 j = W 114 j := fun j h1 h2 => (mo_cl_f _ _ h1).trans rfl
  have z_w1 : (mo_cl W [40]) 114 40 = W 114 40 := (mo_cl_f _ _ (by omega)).trans rfl
  have a0_w1 : w1 35 0 = W 114 38 := hA_w1.1.1.trans (s_w1 38 (by omega) (by omega))
  have a1_w1 : w1 35 1 = W 114 39 := hA_w1.1.2.1.trans (s_w1 39 (by omega) (by omega))
  refine xx_aload_nP (pc := 6) dX1_rounds_6 0 rfl rfl ?_
  refine xx_iload_n (pc := 7) dX1_rounds_7 1 rfl rfl ?_
  refine xx_callP0 (pc := 8) (st := []) sh_35 (by decide) (cC_roundsP_4 (w := w1) (W := (mo_cl W [40])) (x := x) (z_w1.trans h0) hA_w1) kX9_rounds pX1_23 dX1_rounds_8 rfl rfl (Nat.le_of_ble_eq_true rfl) ⟨Nat.le_of_ble_eq_true rfl, Nat.le_of_ble_eq_true rfl⟩ ⟨Nat.zero_le _, Nat.zero_le _⟩ (ic_ki (fun v_ h_ qw3 => ?_))
  obtain ⟨x_, q_⟩ := qw3
  obtain rfl : v_ = nI (mo_rr 0 (mo_D W) x) := by rw [x_, mo_D_e (V := (mo_cl W [40])) (W := W) (fun j h1 h2 => by by_cases y : j = 40; rw [y]; exact z_w1; exact s_w1 j (by omega) y)]
  obtain ⟨w3, rfl, f_w3, hA_w3⟩ := q_
  have g_w3 : ∀ a, a ≠ 35 → a ≠ 36 → w3 a = w a := fun a h1 h2 => (f_w3 a h1 h2).trans (g_w1 a h1 h2)
  have s_w3 : ∀ j, j ≠ 36 → j ≠ 40 → (mo_rw0 (mo_cl W [40])) 114 j = W 114 j := fun j h1 h2 => (mo_rw0_f _ h1 h2).trans (s_w1 j h1 h2)
  have z_w3 : (mo_rw0 (mo_cl W [40])) 114 40 = mo_P W := (wu_s _ _ _ _).trans (mo_P_e (V := (mo_cl W [40])) (W := W) (fun j h1 h2 => by by_cases y : j = 40; rw [y]; exact z_w1; exact s_w1 j (by omega) y))
  have a0_w3 : w3 35 0 = W 114 38 := hA_w3.1.1.trans (s_w3 38 (by omega) (by omega))
  have a1_w3 : w3 35 1 = W 114 39 := hA_w3.1.2.1.trans (s_w3 39 (by omega) (by omega))
  refine xx_iconst (pc := 11) dX1_rounds_11 cc_iconst_5 ?_
  refine xx_isubM (pc := 12) dX1_rounds_12 ?_
  exact xx_iret (pc := 13) dX1_rounds_13 rfl (rfl) (Nat.le_refl _) (Nat.le_refl _) (ic_ri ⟨rfl, w3, rfl, g_w3, by have y_ := hA_w3; rw [wA_s h0] at y_; exact y_⟩)

set_option maxHeartbeats 4000000 in
set_option maxRecDepth 100000 in
theorem cC_roundsC_5 {l : Launch} {E : ic_E} {w : ic_w} {W : ic_w} {x : Nat} (h0 : W 114 40 = 0) (hA : Ca w W 5) : ic_C l E mX1_rounds 3 0 0 False [ic_pt E 37, .int (nI x)] SHs (hn w) SHs (ic_qi (fun v_ h_ => v_ = nI (mo_mi (mo_rr 0 (mo_D W) x) 5) ∧ ∃ w2, h_ = hn w2 ∧ (∀ a, a ≠ 37 → a ≠ 38 → w2 a = w a) ∧ Ca w2 (mo_wA W) 5)) := by
  refine ic_intro (by decide +kernel) (Nat.le_of_ble_eq_true rfl) ?_
  show xx l E _ _ 0 [(0, ic_pt E 37), (1, .int (nI x))] _ _ _
  have a0_ : w 37 0 = W 114 38 := hA.1.1
  have a1_ : w 37 1 = W 114 39 := hA.1.2.1
  have a3_ : w 37 3 = W 114 36 := hA.1.2.2.1
  have a4_ : w 37 4 = W 114 40 := hA.1.2.2.2
  have b_ := hA.2.1
  refine xx_aload_nP (pc := 0) dX1_rounds_0 0 rfl rfl ?_
  refine xx_bipush (pc := 1) dX1_rounds_1 cc_bipush_40 ?_
  refine xx_callU0 (pc := 3) (st := []) sh_37 (cC_begins_5 (w := w) (W := W) (c := 40) (by omega) hA) kX9_begins uX1_17_0 dX1_rounds_3 rfl rfl (Nat.le_of_ble_eq_true rfl) ⟨Nat.le_of_ble_eq_true rfl, Nat.le_of_ble_eq_true rfl⟩ ⟨Nat.zero_le _, Nat.zero_le _⟩ (ic_kv (fun h_ qw1 => ?_))
  obtain ⟨w1, rfl, f_w1, hA_w1⟩ := qw1
  have g_w1 : ∀ a, a ≠ 37 → a ≠ 38 → w1 a = w a := fun a h1 h2 => (f_w1 a h1 h2).trans rfl
  have s_w1 : ∀ j, j ≠ 36 → j ≠ 40 → (mo_cl W [40]) 114 j = W 114 j := fun j h1 h2 => (mo_cl_f _ _ h1).trans rfl
  have z_w1 : (mo_cl W [40]) 114 40 = W 114 40 := (mo_cl_f _ _ (by omega)).trans rfl
  have a0_w1 : w1 37 0 = W 114 38 := hA_w1.1.1.trans (s_w1 38 (by omega) (by omega))
  have a1_w1 : w1 37 1 = W 114 39 := hA_w1.1.2.1.trans (s_w1 39 (by omega) (by omega))
  refine xx_aload_nP (pc := 6) dX1_rounds_6 0 rfl rfl ?_
  refine xx_iload_n (pc := 7) dX1_rounds_7 1 rfl rfl ?_
  refine xx_callP0 (pc := 8) (st := []) sh_37 (by decide) (cC_roundsP_5 (w := w1) (W := (mo_cl W [40])) (x := x) (z_w1.trans h0) hA_w1) kX9_rounds pX1_23 dX1_rounds_8 rfl rfl (Nat.le_of_ble_eq_true rfl) ⟨Nat.le_of_ble_eq_true rfl, Nat.le_of_ble_eq_true rfl⟩ ⟨Nat.zero_le _, Nat.zero_le _⟩ (ic_ki (fun v_ h_ qw3 => ?_))
  obtain ⟨x_, q_⟩ := qw3
  obtain rfl : v_ = nI (mo_rr 0 (mo_D W) x) := by rw [x_, mo_D_e (V := (mo_cl W [40])) (W := W) (fun j h1 h2 => by by_cases y : j = 40; rw [y]; exact z_w1; exact s_w1 j (by omega) y)]
  obtain ⟨w3, rfl, f_w3, hA_w3⟩ := q_
  have g_w3 : ∀ a, a ≠ 37 → a ≠ 38 → w3 a = w a := fun a h1 h2 => (f_w3 a h1 h2).trans (g_w1 a h1 h2)
  have s_w3 : ∀ j, j ≠ 36 → j ≠ 40 → (mo_rw0 (mo_cl W [40])) 114 j = W 114 j := fun j h1 h2 => (mo_rw0_f _ h1 h2).trans (s_w1 j h1 h2)
  have z_w3 : (mo_rw0 (mo_cl W [40])) 114 40 = mo_P W := (wu_s _ _ _ _).trans (mo_P_e (V := (mo_cl W [40])) (W := W) (fun j h1 h2 => by by_cases y : j = 40; rw [y]; exact z_w1; exact s_w1 j (by omega) y))
  have a0_w3 : w3 37 0 = W 114 38 := hA_w3.1.1.trans (s_w3 38 (by omega) (by omega))
  have a1_w3 : w3 37 1 = W 114 39 := hA_w3.1.2.1.trans (s_w3 39 (by omega) (by omega))
  refine xx_iconst (pc := 11) dX1_rounds_11 cc_iconst_5 ?_
  refine xx_isubM (pc := 12) dX1_rounds_12 ?_
  exact xx_iret (pc := 13) dX1_rounds_13 rfl (rfl) (Nat.le_refl _) (Nat.le_refl _) (ic_ri ⟨rfl, w3, rfl, g_w3, by have y_ := hA_w3; rw [wA_s h0] at y_; exact y_⟩)

set_option maxHeartbeats 4000000 in
set_option maxRecDepth 100000 in
theorem cC_rounds5_5 {l : Launch} {E : ic_E} {w : ic_w} {W : ic_w} {x : Nat} (h0 : W 114 40 = 0) (hA : Ca w W 5) : ic_C l E mX0_rounds 4 0 0 False [ic_pt E 37, .int (nI x)] SHs (hn w) SHs (ic_qi (fun v_ h_ => v_ = nI (mo_mi (mo_rr 0 (mo_D W) x) 5 ^^^ mo_sp (W 114 38) (W 114 38)) ∧ ∃ w2, h_ = hn w2 ∧ (∀ a, a ≠ 37 → a ≠ 38 → w2 a = w a) ∧ Ca w2 (mo_row W) 5)) := by
  refine ic_intro (by decide +kernel) (Nat.le_of_ble_eq_true rfl) ?_
  show xx l E _ _ 0 [(0, ic_pt E 37), (1, .int (nI x))] _ _ _
  have a0_ : w 37 0 = W 114 38 := hA.1.1
  have a1_ : w 37 1 = W 114 39 := hA.1.2.1
  have a3_ : w 37 3 = W 114 36 := hA.1.2.2.1
  have a4_ : w 37 4 = W 114 40 := hA.1.2.2.2
  have b_ := hA.2.1
  refine xx_aload_nP (pc := 0) dX0_rounds_0 0 rfl rfl ?_
  refine xx_bipush (pc := 1) dX0_rounds_1 cc_bipush_61 ?_
  refine xx_callU0 (pc := 3) (st := []) sh_37 (cC_begins_5 (w := w) (W := W) (c := 61) (by omega) hA) kX9_begins uX0_15_0 dX0_rounds_3 rfl rfl (Nat.le_of_ble_eq_true rfl) ⟨Nat.le_of_ble_eq_true rfl, Nat.le_of_ble_eq_true rfl⟩ ⟨Nat.zero_le _, Nat.zero_le _⟩ (ic_kv (fun h_ qw1 => ?_))
  obtain ⟨w1, rfl, f_w1, hA_w1⟩ := qw1
  have g_w1 : ∀ a, a ≠ 37 → a ≠ 38 → w1 a = w a := fun a h1 h2 => (f_w1 a h1 h2).trans rfl
  have s_w1 : ∀ j, j ≠ 36 → j ≠ 40 → (mo_cl W [61]) 114 j = W 114 j := fun j h1 h2 => (mo_cl_f _ _ h1).trans rfl
  have z_w1 : (mo_cl W [61]) 114 40 = W 114 40 := (mo_cl_f _ _ (by omega)).trans rfl
  have a0_w1 : w1 37 0 = W 114 38 := hA_w1.1.1.trans (s_w1 38 (by omega) (by omega))
  have a1_w1 : w1 37 1 = W 114 39 := hA_w1.1.2.1.trans (s_w1 39 (by omega) (by omega))
  refine xx_aload_nP (pc := 6) dX0_rounds_6 0 rfl rfl ?_
  refine xx_iload_n (pc := 7) dX0_rounds_7 1 rfl rfl ?_
  refine xx_callP0 (pc := 8) (st := []) sh_37 (by decide) (cC_roundsC_5 (w := w1) (W := (mo_cl W [61])) (x := x) (z_w1.trans h0) hA_w1) kX1_rounds pX0_24 dX0_rounds_8 rfl rfl (Nat.le_of_ble_eq_true rfl) ⟨Nat.le_of_ble_eq_true rfl, Nat.le_of_ble_eq_true rfl⟩ ⟨Nat.zero_le _, Nat.zero_le _⟩ (ic_ki (fun v_ h_ qw3 => ?_))
  obtain ⟨x_, q_⟩ := qw3
  obtain rfl : v_ = nI (mo_mi (mo_rr 0 (mo_D W) x) 5) := by rw [x_, mo_D_e (V := (mo_cl W [61])) (W := W) (fun j h1 h2 => by by_cases y : j = 40; rw [y]; exact z_w1; exact s_w1 j (by omega) y)]
  obtain ⟨w3, rfl, f_w3, hA_w3⟩ := q_
  have g_w3 : ∀ a, a ≠ 37 → a ≠ 38 → w3 a = w a := fun a h1 h2 => (f_w3 a h1 h2).trans (g_w1 a h1 h2)
  have s_w3 : ∀ j, j ≠ 36 → j ≠ 40 → (mo_wA (mo_cl W [61])) 114 j = W 114 j := fun j h1 h2 => (mo_wA_f _ h1 h2).trans (s_w1 j h1 h2)
  have z_w3 : (mo_wA (mo_cl W [61])) 114 40 = mo_P W := (mo_wA_40 _).trans (mo_P_e (V := (mo_cl W [61])) (W := W) (fun j h1 h2 => by by_cases y : j = 40; rw [y]; exact z_w1; exact s_w1 j (by omega) y))
  have a0_w3 : w3 37 0 = W 114 38 := hA_w3.1.1.trans (s_w3 38 (by omega) (by omega))
  have a1_w3 : w3 37 1 = W 114 39 := hA_w3.1.2.1.trans (s_w3 39 (by omega) (by omega))
  refine xx_aload_nP (pc := 11) dX0_rounds_11 0 rfl rfl ?_
  refine xx_aload_nP (pc := 12) dX0_rounds_12 0 rfl rfl ?_
  refine xx_getN (pc := 13) dX0_rounds_13 sh_37 fX0_27_0 rfl ?_
  refine xx_eqI (y := nI (W 114 38)) (by rw [a0_w3]) ?_
  refine xx_callU0 (pc := 16) (st := [.int (nI (mo_mi (mo_rr 0 (mo_D W) x) 5))]) sh_37 (cC_standsP_5 (w := w3) (W := (mo_wA (mo_cl W [61]))) (x := W 114 38) hA_w3) kX9_stands uX0_31_0 dX0_rounds_16 rfl rfl (Nat.le_of_ble_eq_true rfl) ⟨Nat.le_of_ble_eq_true rfl, Nat.le_of_ble_eq_true rfl⟩ ⟨Nat.zero_le _, Nat.zero_le _⟩ (ic_ki (fun v_ h_ qw4 => ?_))
  obtain ⟨x_, q_⟩ := qw4
  obtain rfl : v_ = nI (mo_sp (W 114 38) (W 114 38)) := by rw [x_, s_w3 38 (by omega) (by omega)]
  obtain ⟨w4, rfl, f_w4, hA_w4⟩ := q_
  have g_w4 : ∀ a, a ≠ 37 → a ≠ 38 → w4 a = w a := fun a h1 h2 => (f_w4 a h1 h2).trans (g_w3 a h1 h2)
  have s_w4 : ∀ j, j ≠ 36 → j ≠ 40 → (mo_cl (mo_wA (mo_cl W [61])) [10]) 114 j = W 114 j := fun j h1 h2 => (mo_cl_f _ _ h1).trans (s_w3 j h1 h2)
  have z_w4 : (mo_cl (mo_wA (mo_cl W [61])) [10]) 114 40 = mo_P W := (mo_cl_f _ _ (by omega)).trans z_w3
  have a0_w4 : w4 37 0 = W 114 38 := hA_w4.1.1.trans (s_w4 38 (by omega) (by omega))
  have a1_w4 : w4 37 1 = W 114 39 := hA_w4.1.2.1.trans (s_w4 39 (by omega) (by omega))
  refine xx_ixorN (pc := 19) dX0_rounds_19 ?_
  exact xx_iret (pc := 20) dX0_rounds_20 rfl (rfl) (Nat.le_refl _) (Nat.le_refl _) (ic_ri ⟨rfl, w4, rfl, g_w4, by have y_ := hA_w4; rw [row_5 h0 b_.1] at y_; exact y_⟩)

set_option maxHeartbeats 4000000 in
set_option maxRecDepth 100000 in
theorem cC_risesP_1 {l : Launch} {E : ic_E} {w : ic_w} {W : ic_w} {x : Nat} (h0 : W 114 40 = 0) (hA : Ca w W 1) : ic_C l E mX9_rises 6 0 0 False [ic_pt E 29, .int (nI x)] SHs (hn w) SHs (ic_qi (fun v_ h_ => v_ = nI (mo_mi ((mo_sp (W 114 38) x ^^^ 14) + 4 * (W 114 39)) (mo_rr 0 (mo_D W) x)) ∧ ∃ w2, h_ = hn w2 ∧ (∀ a, a ≠ 29 → a ≠ 30 → w2 a = w a) ∧ Ca w2 (mo_row (mo_rpw W)) 1)) := by
  refine ic_intro (by decide +kernel) (Nat.le_of_ble_eq_true rfl) ?_
  show xx l E _ _ 0 [(0, ic_pt E 29), (1, .int (nI x))] _ _ _
  have a0_ : w 29 0 = W 114 38 := hA.1.1
  have a1_ : w 29 1 = W 114 39 := hA.1.2.1
  have a3_ : w 29 3 = W 114 36 := hA.1.2.2.1
  have a4_ : w 29 4 = W 114 40 := hA.1.2.2.2
  have b_ := hA.2.1
  refine xx_aload_nP (pc := 0) dX9_rises_0 0 rfl rfl ?_
  refine xx_bipush (pc := 1) dX9_rises_1 cc_bipush_13 ?_
  refine xx_callU0 (pc := 3) (st := []) sh_29 (cC_begins_1 (w := w) (W := W) (c := 13) (by omega) hA) kX9_begins uX9_29_7 dX9_rises_3 rfl rfl (Nat.le_of_ble_eq_true rfl) ⟨Nat.le_of_ble_eq_true rfl, Nat.le_of_ble_eq_true rfl⟩ ⟨Nat.zero_le _, Nat.zero_le _⟩ (ic_kv (fun h_ qw1 => ?_))
  obtain ⟨w1, rfl, f_w1, hA_w1⟩ := qw1
  have g_w1 : ∀ a, a ≠ 29 → a ≠ 30 → w1 a = w a := fun a h1 h2 => (f_w1 a h1 h2).trans rfl
  have s_w1 : ∀ j, j ≠ 36 → j ≠ 40 → (mo_cl W [13]) 114 j = W 114 j := fun j h1 h2 => (mo_cl_f _ _ h1).trans rfl
  have z_w1 : (mo_cl W [13]) 114 40 = W 114 40 := (mo_cl_f _ _ (by omega)).trans rfl
  have a0_w1 : w1 29 0 = W 114 38 := hA_w1.1.1.trans (s_w1 38 (by omega) (by omega))
  have a1_w1 : w1 29 1 = W 114 39 := hA_w1.1.2.1.trans (s_w1 39 (by omega) (by omega))
  refine xx_aload_nP (pc := 6) dX9_rises_6 0 rfl rfl ?_
  refine xx_iload_n (pc := 7) dX9_rises_7 1 rfl rfl ?_
  refine xx_callU0 (pc := 8) (st := []) sh_29 (cC_readsP_1 (w := w1) (W := (mo_cl W [13])) (x := x) hA_w1) kX9_reads uX9_37_7 dX9_rises_8 rfl rfl (Nat.le_of_ble_eq_true rfl) ⟨Nat.le_of_ble_eq_true rfl, Nat.le_of_ble_eq_true rfl⟩ ⟨Nat.zero_le _, Nat.zero_le _⟩ (ic_ki (fun v_ h_ qw3 => ?_))
  obtain ⟨x_, q_⟩ := qw3
  obtain rfl : v_ = nI ((mo_sp (W 114 38) x ^^^ 14) + 4 * (W 114 39)) := by rw [x_, s_w1 38 (by omega) (by omega), s_w1 39 (by omega) (by omega)]
  obtain ⟨w3, rfl, f_w3, hA_w3⟩ := q_
  have g_w3 : ∀ a, a ≠ 29 → a ≠ 30 → w3 a = w a := fun a h1 h2 => (f_w3 a h1 h2).trans (g_w1 a h1 h2)
  have s_w3 : ∀ j, j ≠ 36 → j ≠ 40 → (mo_cl (mo_cl W [13]) [11, 20, 10]) 114 j = W 114 j := fun j h1 h2 => (mo_cl_f _ _ h1).trans (s_w1 j h1 h2)
  have z_w3 : (mo_cl (mo_cl W [13]) [11, 20, 10]) 114 40 = W 114 40 := (mo_cl_f _ _ (by omega)).trans z_w1
  have a0_w3 : w3 29 0 = W 114 38 := hA_w3.1.1.trans (s_w3 38 (by omega) (by omega))
  have a1_w3 : w3 29 1 = W 114 39 := hA_w3.1.2.1.trans (s_w3 39 (by omega) (by omega))
  refine xx_aload_nP (pc := 11) dX9_rises_11 0 rfl rfl ?_
  refine xx_iload_n (pc := 12) dX9_rises_12 1 rfl rfl ?_
  refine xx_callU0 (pc := 13) (st := [.int (nI ((mo_sp (W 114 38) x ^^^ 14) + 4 * (W 114 39)))]) sh_29 (cC_roundsP_1 (w := w3) (W := (mo_cl (mo_cl W [13]) [11, 20, 10])) (x := x) (z_w3.trans h0) hA_w3) kX9_rounds uX9_40_7 dX9_rises_13 rfl rfl (Nat.le_of_ble_eq_true rfl) ⟨Nat.le_of_ble_eq_true rfl, Nat.le_of_ble_eq_true rfl⟩ ⟨Nat.zero_le _, Nat.zero_le _⟩ (ic_ki (fun v_ h_ qw4 => ?_))
  obtain ⟨x_, q_⟩ := qw4
  obtain rfl : v_ = nI (mo_rr 0 (mo_D W) x) := by rw [x_, mo_D_e (V := (mo_cl (mo_cl W [13]) [11, 20, 10])) (W := W) (fun j h1 h2 => by by_cases y : j = 40; rw [y]; exact z_w3; exact s_w3 j (by omega) y)]
  rw [← row_p hA_w3.2.1.1 (by omega) (by omega)] at q_
  obtain ⟨w4, rfl, f_w4, hA_w4⟩ := q_
  have g_w4 : ∀ a, a ≠ 29 → a ≠ 30 → w4 a = w a := fun a h1 h2 => (f_w4 a h1 h2).trans (g_w3 a h1 h2)
  have s_w4 : ∀ j, j ≠ 36 → j ≠ 40 → (mo_row (mo_cl (mo_cl W [13]) [11, 20, 10])) 114 j = W 114 j := fun j h1 h2 => (mo_row_f _ h1 h2).trans (s_w3 j h1 h2)
  have z_w4 : (mo_row (mo_cl (mo_cl W [13]) [11, 20, 10])) 114 40 = mo_P W := (mo_row_40 _).trans (mo_P_e (V := (mo_cl (mo_cl W [13]) [11, 20, 10])) (W := W) (fun j h1 h2 => by by_cases y : j = 40; rw [y]; exact z_w3; exact s_w3 j (by omega) y))
  have a0_w4 : w4 29 0 = W 114 38 := hA_w4.1.1.trans (s_w4 38 (by omega) (by omega))
  have a1_w4 : w4 29 1 = W 114 39 := hA_w4.1.2.1.trans (s_w4 39 (by omega) (by omega))
  refine xx_isubM (pc := 16) dX9_rises_16 ?_
  exact xx_iret (pc := 17) dX9_rises_17 rfl (rfl) (Nat.le_refl _) (Nat.le_refl _) (ic_ri ⟨rfl, w4, rfl, g_w4, by have y_ := hA_w4; rw [rp_e (l := [11, 20, 10]) h0 b_.1 rfl] at y_; exact y_⟩)

set_option maxHeartbeats 4000000 in
set_option maxRecDepth 100000 in
theorem cC_risesP_2 {l : Launch} {E : ic_E} {w : ic_w} {W : ic_w} {x : Nat} (h0 : W 114 40 = 0) (hA : Ca w W 2) : ic_C l E mX9_rises 6 0 0 False [ic_pt E 31, .int (nI x)] SHs (hn w) SHs (ic_qi (fun v_ h_ => v_ = nI (mo_mi (((mo_sp (W 114 38) x) + 4 * (W 114 39)) * 3) (mo_rr 0 (mo_D W) x)) ∧ ∃ w2, h_ = hn w2 ∧ (∀ a, a ≠ 31 → a ≠ 32 → w2 a = w a) ∧ Ca w2 (mo_row (mo_rpw W)) 2)) := by
  refine ic_intro (by decide +kernel) (Nat.le_of_ble_eq_true rfl) ?_
  show xx l E _ _ 0 [(0, ic_pt E 31), (1, .int (nI x))] _ _ _
  have a0_ : w 31 0 = W 114 38 := hA.1.1
  have a1_ : w 31 1 = W 114 39 := hA.1.2.1
  have a3_ : w 31 3 = W 114 36 := hA.1.2.2.1
  have a4_ : w 31 4 = W 114 40 := hA.1.2.2.2
  have b_ := hA.2.1
  refine xx_aload_nP (pc := 0) dX9_rises_0 0 rfl rfl ?_
  refine xx_bipush (pc := 1) dX9_rises_1 cc_bipush_13 ?_
  refine xx_callU0 (pc := 3) (st := []) sh_31 (cC_begins_2 (w := w) (W := W) (c := 13) (by omega) hA) kX9_begins uX9_29_3 dX9_rises_3 rfl rfl (Nat.le_of_ble_eq_true rfl) ⟨Nat.le_of_ble_eq_true rfl, Nat.le_of_ble_eq_true rfl⟩ ⟨Nat.zero_le _, Nat.zero_le _⟩ (ic_kv (fun h_ qw1 => ?_))
  obtain ⟨w1, rfl, f_w1, hA_w1⟩ := qw1
  have g_w1 : ∀ a, a ≠ 31 → a ≠ 32 → w1 a = w a := fun a h1 h2 => (f_w1 a h1 h2).trans rfl
  have s_w1 : ∀ j, j ≠ 36 → j ≠ 40 → (mo_cl W [13]) 114 j = W 114 j := fun j h1 h2 => (mo_cl_f _ _ h1).trans rfl
  have z_w1 : (mo_cl W [13]) 114 40 = W 114 40 := (mo_cl_f _ _ (by omega)).trans rfl
  have a0_w1 : w1 31 0 = W 114 38 := hA_w1.1.1.trans (s_w1 38 (by omega) (by omega))
  have a1_w1 : w1 31 1 = W 114 39 := hA_w1.1.2.1.trans (s_w1 39 (by omega) (by omega))
  refine xx_aload_nP (pc := 6) dX9_rises_6 0 rfl rfl ?_
  refine xx_iload_n (pc := 7) dX9_rises_7 1 rfl rfl ?_
  refine xx_callU0 (pc := 8) (st := []) sh_31 (cC_readsL_2 (w := w1) (W := (mo_cl W [13])) (x := x) hA_w1) kX3_reads uX9_37_3 dX9_rises_8 rfl rfl (Nat.le_of_ble_eq_true rfl) ⟨Nat.le_of_ble_eq_true rfl, Nat.le_of_ble_eq_true rfl⟩ ⟨Nat.zero_le _, Nat.zero_le _⟩ (ic_ki (fun v_ h_ qw3 => ?_))
  obtain ⟨x_, q_⟩ := qw3
  obtain rfl : v_ = nI (((mo_sp (W 114 38) x) + 4 * (W 114 39)) * 3) := by rw [x_, s_w1 38 (by omega) (by omega), s_w1 39 (by omega) (by omega)]
  obtain ⟨w3, rfl, f_w3, hA_w3⟩ := q_
  have g_w3 : ∀ a, a ≠ 31 → a ≠ 32 → w3 a = w a := fun a h1 h2 => (f_w3 a h1 h2).trans (g_w1 a h1 h2)
  have s_w3 : ∀ j, j ≠ 36 → j ≠ 40 → (mo_cl (mo_cl W [13]) [30, 11, 10]) 114 j = W 114 j := fun j h1 h2 => (mo_cl_f _ _ h1).trans (s_w1 j h1 h2)
  have z_w3 : (mo_cl (mo_cl W [13]) [30, 11, 10]) 114 40 = W 114 40 := (mo_cl_f _ _ (by omega)).trans z_w1
  have a0_w3 : w3 31 0 = W 114 38 := hA_w3.1.1.trans (s_w3 38 (by omega) (by omega))
  have a1_w3 : w3 31 1 = W 114 39 := hA_w3.1.2.1.trans (s_w3 39 (by omega) (by omega))
  refine xx_aload_nP (pc := 11) dX9_rises_11 0 rfl rfl ?_
  refine xx_iload_n (pc := 12) dX9_rises_12 1 rfl rfl ?_
  refine xx_callU0 (pc := 13) (st := [.int (nI (((mo_sp (W 114 38) x) + 4 * (W 114 39)) * 3))]) sh_31 (cC_roundsP_2 (w := w3) (W := (mo_cl (mo_cl W [13]) [30, 11, 10])) (x := x) (z_w3.trans h0) hA_w3) kX9_rounds uX9_40_3 dX9_rises_13 rfl rfl (Nat.le_of_ble_eq_true rfl) ⟨Nat.le_of_ble_eq_true rfl, Nat.le_of_ble_eq_true rfl⟩ ⟨Nat.zero_le _, Nat.zero_le _⟩ (ic_ki (fun v_ h_ qw4 => ?_))
  obtain ⟨x_, q_⟩ := qw4
  obtain rfl : v_ = nI (mo_rr 0 (mo_D W) x) := by rw [x_, mo_D_e (V := (mo_cl (mo_cl W [13]) [30, 11, 10])) (W := W) (fun j h1 h2 => by by_cases y : j = 40; rw [y]; exact z_w3; exact s_w3 j (by omega) y)]
  rw [← row_p hA_w3.2.1.1 (by omega) (by omega)] at q_
  obtain ⟨w4, rfl, f_w4, hA_w4⟩ := q_
  have g_w4 : ∀ a, a ≠ 31 → a ≠ 32 → w4 a = w a := fun a h1 h2 => (f_w4 a h1 h2).trans (g_w3 a h1 h2)
  have s_w4 : ∀ j, j ≠ 36 → j ≠ 40 → (mo_row (mo_cl (mo_cl W [13]) [30, 11, 10])) 114 j = W 114 j := fun j h1 h2 => (mo_row_f _ h1 h2).trans (s_w3 j h1 h2)
  have z_w4 : (mo_row (mo_cl (mo_cl W [13]) [30, 11, 10])) 114 40 = mo_P W := (mo_row_40 _).trans (mo_P_e (V := (mo_cl (mo_cl W [13]) [30, 11, 10])) (W := W) (fun j h1 h2 => by by_cases y : j = 40; rw [y]; exact z_w3; exact s_w3 j (by omega) y))
  have a0_w4 : w4 31 0 = W 114 38 := hA_w4.1.1.trans (s_w4 38 (by omega) (by omega))
  have a1_w4 : w4 31 1 = W 114 39 := hA_w4.1.2.1.trans (s_w4 39 (by omega) (by omega))
  refine xx_isubM (pc := 16) dX9_rises_16 ?_
  exact xx_iret (pc := 17) dX9_rises_17 rfl (rfl) (Nat.le_refl _) (Nat.le_refl _) (ic_ri ⟨rfl, w4, rfl, g_w4, by have y_ := hA_w4; rw [rp_e (l := [30, 11, 10]) h0 b_.1 rfl] at y_; exact y_⟩)

set_option maxHeartbeats 4000000 in
set_option maxRecDepth 100000 in
theorem cC_risesP_3 {l : Launch} {E : ic_E} {w : ic_w} {W : ic_w} {x : Nat} (h0 : W 114 40 = 0) (hA : Ca w W 3) : ic_C l E mX9_rises 6 0 0 False [ic_pt E 33, .int (nI x)] SHs (hn w) SHs (ic_qi (fun v_ h_ => v_ = nI (mo_mi (((mo_sp (W 114 38) (x + 11)) + 4 * (W 114 39)) * 3) (mo_rr 0 (mo_D W) x)) ∧ ∃ w2, h_ = hn w2 ∧ (∀ a, a ≠ 33 → a ≠ 34 → w2 a = w a) ∧ Ca w2 (mo_row (mo_rpw W)) 3)) := by
  refine ic_intro (by decide +kernel) (Nat.le_of_ble_eq_true rfl) ?_
  show xx l E _ _ 0 [(0, ic_pt E 33), (1, .int (nI x))] _ _ _
  have a0_ : w 33 0 = W 114 38 := hA.1.1
  have a1_ : w 33 1 = W 114 39 := hA.1.2.1
  have a3_ : w 33 3 = W 114 36 := hA.1.2.2.1
  have a4_ : w 33 4 = W 114 40 := hA.1.2.2.2
  have b_ := hA.2.1
  refine xx_aload_nP (pc := 0) dX9_rises_0 0 rfl rfl ?_
  refine xx_bipush (pc := 1) dX9_rises_1 cc_bipush_13 ?_
  refine xx_callU0 (pc := 3) (st := []) sh_33 (cC_begins_3 (w := w) (W := W) (c := 13) (by omega) hA) kX9_begins uX9_29_2 dX9_rises_3 rfl rfl (Nat.le_of_ble_eq_true rfl) ⟨Nat.le_of_ble_eq_true rfl, Nat.le_of_ble_eq_true rfl⟩ ⟨Nat.zero_le _, Nat.zero_le _⟩ (ic_kv (fun h_ qw1 => ?_))
  obtain ⟨w1, rfl, f_w1, hA_w1⟩ := qw1
  have g_w1 : ∀ a, a ≠ 33 → a ≠ 34 → w1 a = w a := fun a h1 h2 => (f_w1 a h1 h2).trans rfl
  have s_w1 : ∀ j, j ≠ 36 → j ≠ 40 → (mo_cl W [13]) 114 j = W 114 j := fun j h1 h2 => (mo_cl_f _ _ h1).trans rfl
  have z_w1 : (mo_cl W [13]) 114 40 = W 114 40 := (mo_cl_f _ _ (by omega)).trans rfl
  have a0_w1 : w1 33 0 = W 114 38 := hA_w1.1.1.trans (s_w1 38 (by omega) (by omega))
  have a1_w1 : w1 33 1 = W 114 39 := hA_w1.1.2.1.trans (s_w1 39 (by omega) (by omega))
  refine xx_aload_nP (pc := 6) dX9_rises_6 0 rfl rfl ?_
  refine xx_iload_n (pc := 7) dX9_rises_7 1 rfl rfl ?_
  refine xx_callU0 (pc := 8) (st := []) sh_33 (cC_readsL_3 (w := w1) (W := (mo_cl W [13])) (x := x) hA_w1) kX3_reads uX9_37_2 dX9_rises_8 rfl rfl (Nat.le_of_ble_eq_true rfl) ⟨Nat.le_of_ble_eq_true rfl, Nat.le_of_ble_eq_true rfl⟩ ⟨Nat.zero_le _, Nat.zero_le _⟩ (ic_ki (fun v_ h_ qw3 => ?_))
  obtain ⟨x_, q_⟩ := qw3
  obtain rfl : v_ = nI (((mo_sp (W 114 38) (x + 11)) + 4 * (W 114 39)) * 3) := by rw [x_, s_w1 38 (by omega) (by omega), s_w1 39 (by omega) (by omega)]
  obtain ⟨w3, rfl, f_w3, hA_w3⟩ := q_
  have g_w3 : ∀ a, a ≠ 33 → a ≠ 34 → w3 a = w a := fun a h1 h2 => (f_w3 a h1 h2).trans (g_w1 a h1 h2)
  have s_w3 : ∀ j, j ≠ 36 → j ≠ 40 → (mo_cl (mo_cl W [13]) [30, 11, 50, 10]) 114 j = W 114 j := fun j h1 h2 => (mo_cl_f _ _ h1).trans (s_w1 j h1 h2)
  have z_w3 : (mo_cl (mo_cl W [13]) [30, 11, 50, 10]) 114 40 = W 114 40 := (mo_cl_f _ _ (by omega)).trans z_w1
  have a0_w3 : w3 33 0 = W 114 38 := hA_w3.1.1.trans (s_w3 38 (by omega) (by omega))
  have a1_w3 : w3 33 1 = W 114 39 := hA_w3.1.2.1.trans (s_w3 39 (by omega) (by omega))
  refine xx_aload_nP (pc := 11) dX9_rises_11 0 rfl rfl ?_
  refine xx_iload_n (pc := 12) dX9_rises_12 1 rfl rfl ?_
  refine xx_callU0 (pc := 13) (st := [.int (nI (((mo_sp (W 114 38) (x + 11)) + 4 * (W 114 39)) * 3))]) sh_33 (cC_roundsP_3 (w := w3) (W := (mo_cl (mo_cl W [13]) [30, 11, 50, 10])) (x := x) (z_w3.trans h0) hA_w3) kX9_rounds uX9_40_2 dX9_rises_13 rfl rfl (Nat.le_of_ble_eq_true rfl) ⟨Nat.le_of_ble_eq_true rfl, Nat.le_of_ble_eq_true rfl⟩ ⟨Nat.zero_le _, Nat.zero_le _⟩ (ic_ki (fun v_ h_ qw4 => ?_))
  obtain ⟨x_, q_⟩ := qw4
  obtain rfl : v_ = nI (mo_rr 0 (mo_D W) x) := by rw [x_, mo_D_e (V := (mo_cl (mo_cl W [13]) [30, 11, 50, 10])) (W := W) (fun j h1 h2 => by by_cases y : j = 40; rw [y]; exact z_w3; exact s_w3 j (by omega) y)]
  rw [← row_p hA_w3.2.1.1 (by omega) (by omega)] at q_
  obtain ⟨w4, rfl, f_w4, hA_w4⟩ := q_
  have g_w4 : ∀ a, a ≠ 33 → a ≠ 34 → w4 a = w a := fun a h1 h2 => (f_w4 a h1 h2).trans (g_w3 a h1 h2)
  have s_w4 : ∀ j, j ≠ 36 → j ≠ 40 → (mo_row (mo_cl (mo_cl W [13]) [30, 11, 50, 10])) 114 j = W 114 j := fun j h1 h2 => (mo_row_f _ h1 h2).trans (s_w3 j h1 h2)
  have z_w4 : (mo_row (mo_cl (mo_cl W [13]) [30, 11, 50, 10])) 114 40 = mo_P W := (mo_row_40 _).trans (mo_P_e (V := (mo_cl (mo_cl W [13]) [30, 11, 50, 10])) (W := W) (fun j h1 h2 => by by_cases y : j = 40; rw [y]; exact z_w3; exact s_w3 j (by omega) y))
  have a0_w4 : w4 33 0 = W 114 38 := hA_w4.1.1.trans (s_w4 38 (by omega) (by omega))
  have a1_w4 : w4 33 1 = W 114 39 := hA_w4.1.2.1.trans (s_w4 39 (by omega) (by omega))
  refine xx_isubM (pc := 16) dX9_rises_16 ?_
  exact xx_iret (pc := 17) dX9_rises_17 rfl (rfl) (Nat.le_refl _) (Nat.le_refl _) (ic_ri ⟨rfl, w4, rfl, g_w4, by have y_ := hA_w4; rw [rp_e (l := [30, 11, 50, 10]) h0 b_.1 rfl] at y_; exact y_⟩)

set_option maxHeartbeats 4000000 in
set_option maxRecDepth 100000 in
theorem cC_risesP_4 {l : Launch} {E : ic_E} {w : ic_w} {W : ic_w} {x : Nat} (h0 : W 114 40 = 0) (hA : Ca w W 4) : ic_C l E mX9_rises 6 0 0 False [ic_pt E 35, .int (nI x)] SHs (hn w) SHs (ic_qi (fun v_ h_ => v_ = nI (mo_mi ((mo_sp (W 114 38) x) + 4 * (W 114 39)) (mo_mi (mo_rr 0 (mo_D W) x) 5)) ∧ ∃ w2, h_ = hn w2 ∧ (∀ a, a ≠ 35 → a ≠ 36 → w2 a = w a) ∧ Ca w2 (mo_row (mo_rpw W)) 4)) := by
  refine ic_intro (by decide +kernel) (Nat.le_of_ble_eq_true rfl) ?_
  show xx l E _ _ 0 [(0, ic_pt E 35), (1, .int (nI x))] _ _ _
  have a0_ : w 35 0 = W 114 38 := hA.1.1
  have a1_ : w 35 1 = W 114 39 := hA.1.2.1
  have a3_ : w 35 3 = W 114 36 := hA.1.2.2.1
  have a4_ : w 35 4 = W 114 40 := hA.1.2.2.2
  have b_ := hA.2.1
  refine xx_aload_nP (pc := 0) dX9_rises_0 0 rfl rfl ?_
  refine xx_bipush (pc := 1) dX9_rises_1 cc_bipush_13 ?_
  refine xx_callU0 (pc := 3) (st := []) sh_35 (cC_begins_4 (w := w) (W := W) (c := 13) (by omega) hA) kX9_begins uX9_29_1 dX9_rises_3 rfl rfl (Nat.le_of_ble_eq_true rfl) ⟨Nat.le_of_ble_eq_true rfl, Nat.le_of_ble_eq_true rfl⟩ ⟨Nat.zero_le _, Nat.zero_le _⟩ (ic_kv (fun h_ qw1 => ?_))
  obtain ⟨w1, rfl, f_w1, hA_w1⟩ := qw1
  have g_w1 : ∀ a, a ≠ 35 → a ≠ 36 → w1 a = w a := fun a h1 h2 => (f_w1 a h1 h2).trans rfl
  have s_w1 : ∀ j, j ≠ 36 → j ≠ 40 → (mo_cl W [13]) 114 j = W 114 j := fun j h1 h2 => (mo_cl_f _ _ h1).trans rfl
  have z_w1 : (mo_cl W [13]) 114 40 = W 114 40 := (mo_cl_f _ _ (by omega)).trans rfl
  have a0_w1 : w1 35 0 = W 114 38 := hA_w1.1.1.trans (s_w1 38 (by omega) (by omega))
  have a1_w1 : w1 35 1 = W 114 39 := hA_w1.1.2.1.trans (s_w1 39 (by omega) (by omega))
  refine xx_aload_nP (pc := 6) dX9_rises_6 0 rfl rfl ?_
  refine xx_iload_n (pc := 7) dX9_rises_7 1 rfl rfl ?_
  refine xx_callU0 (pc := 8) (st := []) sh_35 (cC_readsP_4 (w := w1) (W := (mo_cl W [13])) (x := x) hA_w1) kX9_reads uX9_37_1 dX9_rises_8 rfl rfl (Nat.le_of_ble_eq_true rfl) ⟨Nat.le_of_ble_eq_true rfl, Nat.le_of_ble_eq_true rfl⟩ ⟨Nat.zero_le _, Nat.zero_le _⟩ (ic_ki (fun v_ h_ qw3 => ?_))
  obtain ⟨x_, q_⟩ := qw3
  obtain rfl : v_ = nI ((mo_sp (W 114 38) x) + 4 * (W 114 39)) := by rw [x_, s_w1 38 (by omega) (by omega), s_w1 39 (by omega) (by omega)]
  obtain ⟨w3, rfl, f_w3, hA_w3⟩ := q_
  have g_w3 : ∀ a, a ≠ 35 → a ≠ 36 → w3 a = w a := fun a h1 h2 => (f_w3 a h1 h2).trans (g_w1 a h1 h2)
  have s_w3 : ∀ j, j ≠ 36 → j ≠ 40 → (mo_cl (mo_cl W [13]) [11, 10]) 114 j = W 114 j := fun j h1 h2 => (mo_cl_f _ _ h1).trans (s_w1 j h1 h2)
  have z_w3 : (mo_cl (mo_cl W [13]) [11, 10]) 114 40 = W 114 40 := (mo_cl_f _ _ (by omega)).trans z_w1
  have a0_w3 : w3 35 0 = W 114 38 := hA_w3.1.1.trans (s_w3 38 (by omega) (by omega))
  have a1_w3 : w3 35 1 = W 114 39 := hA_w3.1.2.1.trans (s_w3 39 (by omega) (by omega))
  refine xx_aload_nP (pc := 11) dX9_rises_11 0 rfl rfl ?_
  refine xx_iload_n (pc := 12) dX9_rises_12 1 rfl rfl ?_
  refine xx_callU0 (pc := 13) (st := [.int (nI ((mo_sp (W 114 38) x) + 4 * (W 114 39)))]) sh_35 (cC_roundsC_4 (w := w3) (W := (mo_cl (mo_cl W [13]) [11, 10])) (x := x) (z_w3.trans h0) hA_w3) kX1_rounds uX9_40_1 dX9_rises_13 rfl rfl (Nat.le_of_ble_eq_true rfl) ⟨Nat.le_of_ble_eq_true rfl, Nat.le_of_ble_eq_true rfl⟩ ⟨Nat.zero_le _, Nat.zero_le _⟩ (ic_ki (fun v_ h_ qw4 => ?_))
  obtain ⟨x_, q_⟩ := qw4
  obtain rfl : v_ = nI (mo_mi (mo_rr 0 (mo_D W) x) 5) := by rw [x_, mo_D_e (V := (mo_cl (mo_cl W [13]) [11, 10])) (W := W) (fun j h1 h2 => by by_cases y : j = 40; rw [y]; exact z_w3; exact s_w3 j (by omega) y)]
  rw [← row_4 hA_w3.2.1.1] at q_
  obtain ⟨w4, rfl, f_w4, hA_w4⟩ := q_
  have g_w4 : ∀ a, a ≠ 35 → a ≠ 36 → w4 a = w a := fun a h1 h2 => (f_w4 a h1 h2).trans (g_w3 a h1 h2)
  have s_w4 : ∀ j, j ≠ 36 → j ≠ 40 → (mo_row (mo_cl (mo_cl W [13]) [11, 10])) 114 j = W 114 j := fun j h1 h2 => (mo_row_f _ h1 h2).trans (s_w3 j h1 h2)
  have z_w4 : (mo_row (mo_cl (mo_cl W [13]) [11, 10])) 114 40 = mo_P W := (mo_row_40 _).trans (mo_P_e (V := (mo_cl (mo_cl W [13]) [11, 10])) (W := W) (fun j h1 h2 => by by_cases y : j = 40; rw [y]; exact z_w3; exact s_w3 j (by omega) y))
  have a0_w4 : w4 35 0 = W 114 38 := hA_w4.1.1.trans (s_w4 38 (by omega) (by omega))
  have a1_w4 : w4 35 1 = W 114 39 := hA_w4.1.2.1.trans (s_w4 39 (by omega) (by omega))
  refine xx_isubM (pc := 16) dX9_rises_16 ?_
  exact xx_iret (pc := 17) dX9_rises_17 rfl (rfl) (Nat.le_refl _) (Nat.le_refl _) (ic_ri ⟨rfl, w4, rfl, g_w4, by have y_ := hA_w4; rw [rp_e (l := [11, 10]) h0 b_.1 rfl] at y_; exact y_⟩)

set_option maxHeartbeats 4000000 in
set_option maxRecDepth 100000 in
theorem cC_risesP_5 {l : Launch} {E : ic_E} {w : ic_w} {W : ic_w} {x : Nat} (h0 : W 114 40 = 0) (hA : Ca w W 5) : ic_C l E mX9_rises 6 0 0 False [ic_pt E 37, .int (nI x)] SHs (hn w) SHs (ic_qi (fun v_ h_ => v_ = nI (mo_mi (mo_mi 0 ((mo_sp (W 114 38) x) + 4 * (W 114 39))) (mo_mi (mo_rr 0 (mo_D W) x) 5 ^^^ mo_sp (W 114 38) (W 114 38))) ∧ ∃ w2, h_ = hn w2 ∧ (∀ a, a ≠ 37 → a ≠ 38 → w2 a = w a) ∧ Ca w2 (mo_row (mo_rpw W)) 5)) := by
  refine ic_intro (by decide +kernel) (Nat.le_of_ble_eq_true rfl) ?_
  show xx l E _ _ 0 [(0, ic_pt E 37), (1, .int (nI x))] _ _ _
  have a0_ : w 37 0 = W 114 38 := hA.1.1
  have a1_ : w 37 1 = W 114 39 := hA.1.2.1
  have a3_ : w 37 3 = W 114 36 := hA.1.2.2.1
  have a4_ : w 37 4 = W 114 40 := hA.1.2.2.2
  have b_ := hA.2.1
  refine xx_aload_nP (pc := 0) dX9_rises_0 0 rfl rfl ?_
  refine xx_bipush (pc := 1) dX9_rises_1 cc_bipush_13 ?_
  refine xx_callU0 (pc := 3) (st := []) sh_37 (cC_begins_5 (w := w) (W := W) (c := 13) (by omega) hA) kX9_begins uX9_29_0 dX9_rises_3 rfl rfl (Nat.le_of_ble_eq_true rfl) ⟨Nat.le_of_ble_eq_true rfl, Nat.le_of_ble_eq_true rfl⟩ ⟨Nat.zero_le _, Nat.zero_le _⟩ (ic_kv (fun h_ qw1 => ?_))
  obtain ⟨w1, rfl, f_w1, hA_w1⟩ := qw1
  have g_w1 : ∀ a, a ≠ 37 → a ≠ 38 → w1 a = w a := fun a h1 h2 => (f_w1 a h1 h2).trans rfl
  have s_w1 : ∀ j, j ≠ 36 → j ≠ 40 → (mo_cl W [13]) 114 j = W 114 j := fun j h1 h2 => (mo_cl_f _ _ h1).trans rfl
  have z_w1 : (mo_cl W [13]) 114 40 = W 114 40 := (mo_cl_f _ _ (by omega)).trans rfl
  have a0_w1 : w1 37 0 = W 114 38 := hA_w1.1.1.trans (s_w1 38 (by omega) (by omega))
  have a1_w1 : w1 37 1 = W 114 39 := hA_w1.1.2.1.trans (s_w1 39 (by omega) (by omega))
  refine xx_aload_nP (pc := 6) dX9_rises_6 0 rfl rfl ?_
  refine xx_iload_n (pc := 7) dX9_rises_7 1 rfl rfl ?_
  refine xx_callU0 (pc := 8) (st := []) sh_37 (cC_reads5_5 (w := w1) (W := (mo_cl W [13])) (x := x) hA_w1) kX0_reads uX9_37_0 dX9_rises_8 rfl rfl (Nat.le_of_ble_eq_true rfl) ⟨Nat.le_of_ble_eq_true rfl, Nat.le_of_ble_eq_true rfl⟩ ⟨Nat.zero_le _, Nat.zero_le _⟩ (ic_ki (fun v_ h_ qw3 => ?_))
  obtain ⟨x_, q_⟩ := qw3
  obtain rfl : v_ = nI (mo_mi 0 ((mo_sp (W 114 38) x) + 4 * (W 114 39))) := by rw [x_, s_w1 38 (by omega) (by omega), s_w1 39 (by omega) (by omega)]
  obtain ⟨w3, rfl, f_w3, hA_w3⟩ := q_
  have g_w3 : ∀ a, a ≠ 37 → a ≠ 38 → w3 a = w a := fun a h1 h2 => (f_w3 a h1 h2).trans (g_w1 a h1 h2)
  have s_w3 : ∀ j, j ≠ 36 → j ≠ 40 → (mo_cl (mo_cl W [13]) [60, 11, 10]) 114 j = W 114 j := fun j h1 h2 => (mo_cl_f _ _ h1).trans (s_w1 j h1 h2)
  have z_w3 : (mo_cl (mo_cl W [13]) [60, 11, 10]) 114 40 = W 114 40 := (mo_cl_f _ _ (by omega)).trans z_w1
  have a0_w3 : w3 37 0 = W 114 38 := hA_w3.1.1.trans (s_w3 38 (by omega) (by omega))
  have a1_w3 : w3 37 1 = W 114 39 := hA_w3.1.2.1.trans (s_w3 39 (by omega) (by omega))
  refine xx_aload_nP (pc := 11) dX9_rises_11 0 rfl rfl ?_
  refine xx_iload_n (pc := 12) dX9_rises_12 1 rfl rfl ?_
  refine xx_callU0 (pc := 13) (st := [.int (nI (mo_mi 0 ((mo_sp (W 114 38) x) + 4 * (W 114 39))))]) sh_37 (cC_rounds5_5 (w := w3) (W := (mo_cl (mo_cl W [13]) [60, 11, 10])) (x := x) (z_w3.trans h0) hA_w3) kX0_rounds uX9_40_0 dX9_rises_13 rfl rfl (Nat.le_of_ble_eq_true rfl) ⟨Nat.le_of_ble_eq_true rfl, Nat.le_of_ble_eq_true rfl⟩ ⟨Nat.zero_le _, Nat.zero_le _⟩ (ic_ki (fun v_ h_ qw4 => ?_))
  obtain ⟨x_, q_⟩ := qw4
  obtain rfl : v_ = nI (mo_mi (mo_rr 0 (mo_D W) x) 5 ^^^ mo_sp (W 114 38) (W 114 38)) := by rw [x_, mo_D_e (V := (mo_cl (mo_cl W [13]) [60, 11, 10])) (W := W) (fun j h1 h2 => by by_cases y : j = 40; rw [y]; exact z_w3; exact s_w3 j (by omega) y), s_w3 38 (by omega) (by omega)]
  obtain ⟨w4, rfl, f_w4, hA_w4⟩ := q_
  have g_w4 : ∀ a, a ≠ 37 → a ≠ 38 → w4 a = w a := fun a h1 h2 => (f_w4 a h1 h2).trans (g_w3 a h1 h2)
  have s_w4 : ∀ j, j ≠ 36 → j ≠ 40 → (mo_row (mo_cl (mo_cl W [13]) [60, 11, 10])) 114 j = W 114 j := fun j h1 h2 => (mo_row_f _ h1 h2).trans (s_w3 j h1 h2)
  have z_w4 : (mo_row (mo_cl (mo_cl W [13]) [60, 11, 10])) 114 40 = mo_P W := (mo_row_40 _).trans (mo_P_e (V := (mo_cl (mo_cl W [13]) [60, 11, 10])) (W := W) (fun j h1 h2 => by by_cases y : j = 40; rw [y]; exact z_w3; exact s_w3 j (by omega) y))
  have a0_w4 : w4 37 0 = W 114 38 := hA_w4.1.1.trans (s_w4 38 (by omega) (by omega))
  have a1_w4 : w4 37 1 = W 114 39 := hA_w4.1.2.1.trans (s_w4 39 (by omega) (by omega))
  refine xx_isubM (pc := 16) dX9_rises_16 ?_
  exact xx_iret (pc := 17) dX9_rises_17 rfl (rfl) (Nat.le_refl _) (Nat.le_refl _) (ic_ri ⟨rfl, w4, rfl, g_w4, by have y_ := hA_w4; rw [rp_e (l := [60, 11, 10]) h0 b_.1 rfl] at y_; exact y_⟩)

set_option maxHeartbeats 4000000 in
set_option maxRecDepth 100000 in
theorem cC_rises3_3 {l : Launch} {E : ic_E} {w : ic_w} {W : ic_w} {x : Nat} (h0 : W 114 40 = 0) (hA : Ca w W 3) : ic_C l E mX2_rises 7 0 0 False [ic_pt E 33, .int (nI x)] SHs (hn w) SHs (ic_qi (fun v_ h_ => v_ = nI (mo_mi (((mo_sp (W 114 38) (x + 11)) + 4 * (W 114 39)) * 3) (mo_rr 0 (mo_D W) x) + (((mo_sp (W 114 38) ((W 114 39) + 11)) + 4 * (W 114 39)) * 3)) ∧ ∃ w2, h_ = hn w2 ∧ (∀ a, a ≠ 33 → a ≠ 34 → w2 a = w a) ∧ Ca w2 (mo_riw W) 3)) := by
  refine ic_intro (by decide +kernel) (Nat.le_of_ble_eq_true rfl) ?_
  show xx l E _ _ 0 [(0, ic_pt E 33), (1, .int (nI x))] _ _ _
  have a0_ : w 33 0 = W 114 38 := hA.1.1
  have a1_ : w 33 1 = W 114 39 := hA.1.2.1
  have a3_ : w 33 3 = W 114 36 := hA.1.2.2.1
  have a4_ : w 33 4 = W 114 40 := hA.1.2.2.2
  have b_ := hA.2.1
  refine xx_aload_nP (pc := 0) dX2_rises_0 0 rfl rfl ?_
  refine xx_bipush (pc := 1) dX2_rises_1 cc_bipush_51 ?_
  refine xx_callU0 (pc := 3) (st := []) sh_33 (cC_begins_3 (w := w) (W := W) (c := 51) (by omega) hA) kX9_begins uX2_15_2 dX2_rises_3 rfl rfl (Nat.le_of_ble_eq_true rfl) ⟨Nat.le_of_ble_eq_true rfl, Nat.le_of_ble_eq_true rfl⟩ ⟨Nat.zero_le _, Nat.zero_le _⟩ (ic_kv (fun h_ qw1 => ?_))
  obtain ⟨w1, rfl, f_w1, hA_w1⟩ := qw1
  have g_w1 : ∀ a, a ≠ 33 → a ≠ 34 → w1 a = w a := fun a h1 h2 => (f_w1 a h1 h2).trans rfl
  have s_w1 : ∀ j, j ≠ 36 → j ≠ 40 → (mo_cl W [51]) 114 j = W 114 j := fun j h1 h2 => (mo_cl_f _ _ h1).trans rfl
  have z_w1 : (mo_cl W [51]) 114 40 = W 114 40 := (mo_cl_f _ _ (by omega)).trans rfl
  have a0_w1 : w1 33 0 = W 114 38 := hA_w1.1.1.trans (s_w1 38 (by omega) (by omega))
  have a1_w1 : w1 33 1 = W 114 39 := hA_w1.1.2.1.trans (s_w1 39 (by omega) (by omega))
  refine xx_aload_nP (pc := 6) dX2_rises_6 0 rfl rfl ?_
  refine xx_iload_n (pc := 7) dX2_rises_7 1 rfl rfl ?_
  refine xx_callO0 (pc := 8) (st := []) sh_33 (by decide) (cC_risesP_3 (w := w1) (W := (mo_cl W [51])) (x := x) (z_w1.trans h0) hA_w1) kX9_rises oX2_24 dX2_rises_8 rfl rfl (Nat.le_of_ble_eq_true rfl) ⟨Nat.le_of_ble_eq_true rfl, Nat.le_of_ble_eq_true rfl⟩ ⟨Nat.zero_le _, Nat.zero_le _⟩ (ic_ki (fun v_ h_ qw3 => ?_))
  obtain ⟨x_, q_⟩ := qw3
  obtain rfl : v_ = nI (mo_mi (((mo_sp (W 114 38) (x + 11)) + 4 * (W 114 39)) * 3) (mo_rr 0 (mo_D W) x)) := by rw [x_, mo_D_e (V := (mo_cl W [51])) (W := W) (fun j h1 h2 => by by_cases y : j = 40; rw [y]; exact z_w1; exact s_w1 j (by omega) y), s_w1 38 (by omega) (by omega), s_w1 39 (by omega) (by omega)]
  obtain ⟨w3, rfl, f_w3, hA_w3⟩ := q_
  have g_w3 : ∀ a, a ≠ 33 → a ≠ 34 → w3 a = w a := fun a h1 h2 => (f_w3 a h1 h2).trans (g_w1 a h1 h2)
  have s_w3 : ∀ j, j ≠ 36 → j ≠ 40 → (mo_row (mo_rpw (mo_cl W [51]))) 114 j = W 114 j := fun j h1 h2 => ((mo_row_f _ h1 h2).trans (mo_rpw_f _ h1)).trans (s_w1 j h1 h2)
  have z_w3 : (mo_row (mo_rpw (mo_cl W [51]))) 114 40 = mo_P W := (mo_row_40 _).trans ((mo_P_rpw _).trans (mo_P_e (V := (mo_cl W [51])) (W := W) (fun j h1 h2 => by by_cases y : j = 40; rw [y]; exact z_w1; exact s_w1 j (by omega) y)))
  have a0_w3 : w3 33 0 = W 114 38 := hA_w3.1.1.trans (s_w3 38 (by omega) (by omega))
  have a1_w3 : w3 33 1 = W 114 39 := hA_w3.1.2.1.trans (s_w3 39 (by omega) (by omega))
  refine xx_aload_nP (pc := 11) dX2_rises_11 0 rfl rfl ?_
  refine xx_aload_nP (pc := 12) dX2_rises_12 0 rfl rfl ?_
  refine xx_getN (pc := 13) dX2_rises_13 sh_33 fX2_27_2 rfl ?_
  refine xx_eqI (y := nI (W 114 39)) (by rw [a1_w3]) ?_
  refine xx_callU0 (pc := 16) (st := [.int (nI (mo_mi (((mo_sp (W 114 38) (x + 11)) + 4 * (W 114 39)) * 3) (mo_rr 0 (mo_D W) x)))]) sh_33 (cC_readsL_3 (w := w3) (W := (mo_row (mo_rpw (mo_cl W [51])))) (x := W 114 39) hA_w3) kX3_reads uX2_31_2 dX2_rises_16 rfl rfl (Nat.le_of_ble_eq_true rfl) ⟨Nat.le_of_ble_eq_true rfl, Nat.le_of_ble_eq_true rfl⟩ ⟨Nat.zero_le _, Nat.zero_le _⟩ (ic_ki (fun v_ h_ qw4 => ?_))
  obtain ⟨x_, q_⟩ := qw4
  obtain rfl : v_ = nI (((mo_sp (W 114 38) ((W 114 39) + 11)) + 4 * (W 114 39)) * 3) := by rw [x_, s_w3 38 (by omega) (by omega), s_w3 39 (by omega) (by omega)]
  obtain ⟨w4, rfl, f_w4, hA_w4⟩ := q_
  have g_w4 : ∀ a, a ≠ 33 → a ≠ 34 → w4 a = w a := fun a h1 h2 => (f_w4 a h1 h2).trans (g_w3 a h1 h2)
  have s_w4 : ∀ j, j ≠ 36 → j ≠ 40 → (mo_cl (mo_row (mo_rpw (mo_cl W [51]))) [30, 11, 50, 10]) 114 j = W 114 j := fun j h1 h2 => (mo_cl_f _ _ h1).trans (s_w3 j h1 h2)
  have z_w4 : (mo_cl (mo_row (mo_rpw (mo_cl W [51]))) [30, 11, 50, 10]) 114 40 = mo_P W := (mo_cl_f _ _ (by omega)).trans z_w3
  have a0_w4 : w4 33 0 = W 114 38 := hA_w4.1.1.trans (s_w4 38 (by omega) (by omega))
  have a1_w4 : w4 33 1 = W 114 39 := hA_w4.1.2.1.trans (s_w4 39 (by omega) (by omega))
  refine xx_iaddN (pc := 19) dX2_rises_19 ?_
  exact xx_iret (pc := 20) dX2_rises_20 rfl (rfl) (Nat.le_refl _) (Nat.le_refl _) (ic_ri ⟨rfl, w4, rfl, g_w4, by have y_ : Ca w4 (mo_cl (mo_row (mo_rpw (mo_cl W [51]))) (mo_rdl 3)) 3 := hA_w4; rw [riw_3 h0 b_.1] at y_; exact y_⟩)

