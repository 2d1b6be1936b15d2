/-! what is asked of plans -/
theorem mo_s2_xk {k : Nat} {w u : ic_w} (h : mo_xk k w u) : mo_s2 w u := by
  refine ⟨fun a q => h.1 a ?_, fun j q => h.2.1 j ?_⟩
  · have z := of_decide_eq_true q
    exact decide_eq_true (by omega)
  · have z := of_decide_eq_true q
    omega
def mo_lowN (v : Nat) : Nat → Nat → Nat
  | 0, _ => 4294967293
  | n + 1, i => if v / 2 ^ i &&& 1 = 1 then i else mo_lowN v n (i + 1)

set_option maxHeartbeats 4000000 in
set_option maxRecDepth 100000 in
theorem cM_isSet {l : Launch} {E : ic_E} {w : ic_w} {a : Nat} (ha_ : a < 2 ^ 32) (hI : In (w 115)) : ic_C l E mX12_isSet 2 0 0 False [ic_pt E 114, .int (nI a)] SHs (hn w) SHs (ic_qe (nI (ic_bo (a < 2 ^ w 115 0))) (hn w)) := by
  refine ic_intro (by decide +kernel) (Nat.le_of_ble_eq_true rfl) ?_
  show xx l E _ _ 0 [(0, ic_pt E 114), (1, .int (nI a))] _ _ _
  have hn0 := hI.n
  have hpp := Nat.two_pow_pos (w 115 0)
  have hp2 := mo_p2 hn0
  have hpx : 1 * 2 ^ w 115 0 ≤ 64 := by omega
  refine xx_iload_n (pc := 0) dX12_isSet_0 1 rfl rfl ?_
  refine xx_i2l (pc := 1) dX12_isSet_1 ?_
  refine xx_lconst (v := 0) (pc := 2) dX12_isSet_2 rfl ?_
  refine xx_iconst (pc := 3) dX12_isSet_3 cc_iconst_1 ?_
  refine xx_aload_nP (pc := 4) dX12_isSet_4 0 rfl rfl ?_
  refine xx_getR (pc := 5) 115 dX12_isSet_5 sh_114 fX12_7_12 rfl rfl (by decide) ?_
  refine xx_iconst (pc := 8) dX12_isSet_8 cc_iconst_0 ?_
  refine xx_ialdN (pc := 9) dX12_isSet_9 sh_115 (by omega) (by decide) ?_
  refine xx_ishlN (pc := 10) dX12_isSet_10 (by omega) (by omega) ?_
  refine xx_iconst (pc := 11) dX12_isSet_11 cc_iconst_1 ?_
  refine xx_isubN (pc := 12) dX12_isSet_12 (by omega) ?_
  refine xx_i2l (pc := 13) dX12_isSet_13 ?_
  refine xx_callS0 (pc := 14) (st := []) (cM_isIn (0 ≤ a ∧ a ≤ ((1 * 2 ^ (w 115 0)) - 1)) (ll_in (lo := 0) (hi := (1 * 2 ^ (w 115 0)) - 1) (by omega) (by decide) (ll_nn (by omega)) (by omega))) kX12_isIn sX12_66 dX12_isSet_14 rfl rfl (Nat.le_of_ble_eq_true rfl) ⟨Nat.le_of_ble_eq_true rfl, Nat.le_of_ble_eq_true rfl⟩ ⟨Nat.zero_le _, Nat.zero_le _⟩ (ic_ke ?_)
  exact xx_iret (pc := 17) dX12_isSet_17 rfl (ic_nbo) (Nat.le_refl _) (Nat.le_refl _) (ic_re (ic_bo_iff (by omega)))

set_option maxHeartbeats 4000000 in
set_option maxRecDepth 100000 in
theorem cM_isLong {l : Launch} {E : ic_E} {w : ic_w} {a : Nat} (ha_ : a < 2 ^ 32) : ic_C l E mX12_isLong 2 0 0 False [.int (nI a)] SHs (hn w) SHs (ic_qe (nI (ic_bo (a ≤ 4))) (hn w)) := by
  refine ic_intro (by decide +kernel) (Nat.le_of_ble_eq_true rfl) ?_
  show xx l E _ _ 0 [(0, .int (nI a))] _ _ _
  refine xx_iload_n (pc := 0) dX12_isLong_0 0 rfl rfl ?_
  refine xx_i2l (pc := 1) dX12_isLong_1 ?_
  refine xx_lconst (v := 0) (pc := 2) dX12_isLong_2 rfl ?_
  refine xx_ldc2 (v := 4) (pc := 3) dX12_isLong_3 oX12_298 ?_
  refine xx_callS0 (pc := 6) (st := []) (cM_isIn (0 ≤ a ∧ a ≤ 4) (ll_in (lo := 0) (hi := 4) (by omega) (by decide) (by decide) (by omega))) kX12_isIn sX12_66 dX12_isLong_6 rfl rfl (Nat.le_of_ble_eq_true rfl) ⟨Nat.le_of_ble_eq_true rfl, Nat.le_of_ble_eq_true rfl⟩ ⟨Nat.zero_le _, Nat.zero_le _⟩ (ic_ke ?_)
  exact xx_iret (pc := 9) dX12_isLong_9 rfl (ic_nbo) (Nat.le_refl _) (Nat.le_refl _) (ic_re (ic_bo_iff (by omega)))

set_option maxHeartbeats 4000000 in
set_option maxRecDepth 100000 in
theorem cM_findsPlans {l : Launch} {E : ic_E} {w : ic_w} {n want : Nat} (hn4 : n ≤ 4) (hw64 : want < 64) (hI : In (w 115)) (hR : Ru (w 115)) : ic_C l E mX12_findsPlans 15 0 0 False [ic_pt E 114, .int (nI n), .int (nI want)] SHs (hn w) SHs (ic_qv (fun h_ => ∃ w2, h_ = hn w2 ∧ mo_s2 w w2 ∧ mo_xr w2 (mo_sm (w 115) n want))) := by
  refine ic_intro (by decide +kernel) (Nat.le_of_ble_eq_true rfl) ?_
  show xx l E _ _ 0 [(0, ic_pt E 114), (1, .int (nI n)), (2, .int (nI want))] _ _ _
  refine xx_aload_nP (pc := 0) dX12_findsPlans_0 0 rfl rfl ?_
  refine xx_iconst (pc := 1) dX12_findsPlans_1 cc_iconst_m1 ?_
  refine xx_putN (pc := 2) dX12_findsPlans_2 sh_114 fX12_276_12 rfl rfl ?_
  refine xx_nw (fun w1 ew1 => ?_)
  refine xx_aload_nP (pc := 5) dX12_findsPlans_5 0 rfl rfl ?_
  refine xx_iconst (pc := 6) dX12_findsPlans_6 cc_iconst_0 ?_
  refine xx_putN (pc := 7) dX12_findsPlans_7 sh_114 fX12_279_12 rfl rfl ?_
  refine xx_nw (fun w2 ew2 => ?_)
  refine xx_aload_nP (pc := 10) dX12_findsPlans_10 0 rfl rfl ?_
  refine xx_iconst (pc := 11) dX12_findsPlans_11 cc_iconst_0 ?_
  refine xx_putN (pc := 12) dX12_findsPlans_12 sh_114 fX12_282_12 rfl rfl ?_
  refine xx_nw (fun w3 ew3 => ?_)
  refine xx_aload_nP (pc := 15) dX12_findsPlans_15 0 rfl rfl ?_
  refine xx_iload_n (pc := 16) dX12_findsPlans_16 2 rfl rfl ?_
  refine xx_putN (pc := 17) dX12_findsPlans_17 sh_114 fX12_288_12 rfl rfl ?_
  refine xx_nw (fun w4 ew4 => ?_)
  refine xx_aload_nP (pc := 20) dX12_findsPlans_20 0 rfl rfl ?_
  refine xx_bipush (pc := 21) dX12_findsPlans_21 cc_bipush_9 ?_
  refine xx_putN (pc := 23) dX12_findsPlans_23 sh_114 fX12_291_12 rfl rfl ?_
  refine xx_nw (fun w5 ew5 => ?_)
  refine xx_aload_nP (pc := 26) dX12_findsPlans_26 0 rfl rfl ?_
  refine xx_iconst (pc := 27) dX12_findsPlans_27 cc_iconst_0 ?_
  refine xx_putN (pc := 28) dX12_findsPlans_28 sh_114 fX12_285_12 rfl rfl ?_
  refine xx_nw (fun w6 ew6 => ?_)
  refine xx_aload_nP (pc := 31) dX12_findsPlans_31 0 rfl rfl ?_
  refine xx_iconst (pc := 32) dX12_findsPlans_32 cc_iconst_0 ?_
  refine xx_iload_n (pc := 33) dX12_findsPlans_33 1 rfl rfl ?_
  refine xx_iconst (pc := 34) dX12_findsPlans_34 cc_iconst_0 ?_
  refine xx_iconst (pc := 35) dX12_findsPlans_35 cc_iconst_0 ?_
  have s_w6 : mo_s2 w w6 := mo_s2_tr (mo_s2_u ew1 (by decide) (fun _ => by decide)) (mo_s2_tr (mo_s2_u ew2 (by decide) (fun _ => by decide)) (mo_s2_tr (mo_s2_u ew3 (by decide) (fun _ => by decide)) (mo_s2_tr (mo_s2_u ew4 (by decide) (fun _ => by decide)) (mo_s2_tr (mo_s2_u ew5 (by decide) (fun _ => by decide)) (mo_s2_u ew6 (by decide) (fun _ => by decide))))))
  have r_w6 : w6 115 = w 115 := mo_s2_115 s_w6
  have hI_w6 : In (w6 115) := by rw [r_w6]; exact hI
  have hR_w6 : Ru (w6 115) := by rw [r_w6]; exact hR
  have x_w6 : mo_xr w6 (mo_p0 want, fun _ => 0) := by
    refine ⟨fun j h1 h2 => ?_, fun j h => absurd h (Nat.not_lt_zero _), Nat.zero_le _, Or.inl rfl, Nat.le_refl _, hw64⟩
    rcases (show j = 16 ∨ j = 17 ∨ j = 18 ∨ j = 19 ∨ j = 20 ∨ j = 21 by omega) with rfl | rfl | rfl | rfl | rfl | rfl <;> simp [wu, mo_p0, ew6, ew5, ew4, ew3, ew2, ew1]
  refine xx_callV0 (pc := 36) (st := []) sh_114 (cM_plans n (w := w6) (k := 0) (n := n) (sum := 0) (few := 0) (acts := fun _ => 0) (x := (mo_p0 want, fun _ => 0)) (Nat.zero_add _) hn4 hI_w6 hR_w6 (by omega) (by omega) x_w6 (fun j hj => absurd hj (Nat.not_lt_zero _))) kX12_plans vX12_294_12 dX12_findsPlans_36 rfl rfl (Nat.le_of_ble_eq_true rfl) (pl_hR (d := 15) (by omega) (Nat.le_of_ble_eq_true rfl)) ⟨Nat.zero_le _, Nat.zero_le _⟩ (ic_kv (fun h_ qw7 => ?_))
  obtain ⟨w7, rfl, k_w7, x_w7⟩ := qw7
  rw [r_w6] at x_w7
  exact xx_vret (pc := 39) dX12_findsPlans_39 rfl (Nat.le_refl _) (Nat.le_refl _) (ic_rv0 ⟨w7, rfl, mo_s2_tr s_w6 (mo_s2_xk k_w7), x_w7⟩)

set_option maxHeartbeats 4000000 in
set_option maxRecDepth 100000 in
theorem cM_best {l : Launch} {E : ic_E} {w : ic_w} {n : Nat} (hn_ : n < 2 ^ 32) (hI : In (w 115)) (hR : Ru (w 115)) : ic_C l E mX12_best 16 0 0 False [ic_pt E 114, .int (nI n)] SHs (hn w) SHs (ic_qi (fun v_ h_ => v_ = nI (if n ≤ 4 then (mo_sm (w 115) n 0).1 16 else 4294967295) ∧ ∃ w2, h_ = hn w2 ∧ mo_s2 w w2)) := by
  refine ic_intro (by decide +kernel) (Nat.le_of_ble_eq_true rfl) ?_
  show xx l E _ _ 0 [(0, ic_pt E 114), (1, .int (nI n))] _ _ _
  refine xx_iload_n (pc := 0) dX12_best_0 1 rfl rfl ?_
  refine xx_callS0 (pc := 1) (st := []) (cM_isLong (w := w) (a := n) (by omega)) kX12_isLong sX12_300 dX12_best_1 rfl rfl (Nat.le_of_ble_eq_true rfl) ⟨Nat.le_of_ble_eq_true rfl, Nat.le_of_ble_eq_true rfl⟩ ⟨Nat.zero_le _, Nat.zero_le _⟩ (ic_ke ?_)
  refine xx_if_neB (pc := 4) 9 dX12_best_4 rfl (fun c1 => ?_) (fun c1 => ?_)
  · refine xx_aload_nP (pc := 9) dX12_best_9 0 rfl rfl ?_
    refine xx_iload_n (pc := 10) dX12_best_10 1 rfl rfl ?_
    refine xx_iconst (pc := 11) dX12_best_11 cc_iconst_0 ?_
    refine xx_callV0 (pc := 12) (st := []) sh_114 (cM_findsPlans (w := w) (n := n) (want := 0) (by omega) (by omega) hI hR) kX12_findsPlans vX12_303_12 dX12_best_12 rfl rfl (Nat.le_of_ble_eq_true rfl) ⟨Nat.le_of_ble_eq_true rfl, Nat.le_of_ble_eq_true rfl⟩ ⟨Nat.zero_le _, Nat.zero_le _⟩ (ic_kv (fun h_ qw2 => ?_))
    obtain ⟨w2, rfl, s2_w2, x_w2⟩ := qw2
    have r_w2 : w2 115 = w 115 := mo_s2_115 s2_w2
    have hI_w2 : In (w2 115) := by rw [r_w2]; exact hI
    have hR_w2 : Ru (w2 115) := by rw [r_w2]; exact hR
    have p16_w2 : w2 114 16 = (mo_sm (w 115) n 0).1 16 := x_w2.1 16 (by omega) (by omega)
    have p17_w2 : w2 114 17 = (mo_sm (w 115) n 0).1 17 := x_w2.1 17 (by omega) (by omega)
    have p18_w2 : w2 114 18 = (mo_sm (w 115) n 0).1 18 := x_w2.1 18 (by omega) (by omega)
    have p19_w2 : w2 114 19 = (mo_sm (w 115) n 0).1 19 := x_w2.1 19 (by omega) (by omega)
    have p20_w2 : w2 114 20 = (mo_sm (w 115) n 0).1 20 := x_w2.1 20 (by omega) (by omega)
    have p21_w2 : w2 114 21 = (mo_sm (w 115) n 0).1 21 := x_w2.1 21 (by omega) (by omega)
    have pb_w2 := x_w2.2.2
    refine xx_aload_nP (pc := 15) dX12_best_15 0 rfl rfl ?_
    refine xx_getN (pc := 16) dX12_best_16 sh_114 fX12_276_12 rfl ?_
    exact xx_iret (pc := 19) dX12_best_19 rfl (rfl) (Nat.le_refl _) (Nat.le_refl _) (ic_ri ⟨by rw [if_pos (by omega)]; rw [p16_w2], w2, rfl, s2_w2⟩)
  · refine xx_iconst (pc := 7) dX12_best_7 cc_iconst_m1 ?_
    exact xx_iret (pc := 8) dX12_best_8 rfl (rfl) (Nat.le_refl _) (Nat.le_refl _) (ic_ri ⟨by rw [if_neg (by omega)], w, rfl, mo_s2_rf w⟩)

set_option maxHeartbeats 4000000 in
set_option maxRecDepth 100000 in
theorem cM_ways {l : Launch} {E : ic_E} {w : ic_w} {n : Nat} (hn_ : n < 2 ^ 32) (hI : In (w 115)) (hR : Ru (w 115)) : ic_C l E mX12_ways 16 0 0 False [ic_pt E 114, .int (nI n)] SHs (hn w) SHs (ic_qi (fun v_ h_ => v_ = nI (if n ≤ 4 then (mo_sm (w 115) n 0).1 17 else 4294967295) ∧ ∃ w2, h_ = hn w2 ∧ mo_s2 w w2)) := by
  refine ic_intro (by decide +kernel) (Nat.le_of_ble_eq_true rfl) ?_
  show xx l E _ _ 0 [(0, ic_pt E 114), (1, .int (nI n))] _ _ _
  refine xx_iload_n (pc := 0) dX12_ways_0 1 rfl rfl ?_
  refine xx_callS0 (pc := 1) (st := []) (cM_isLong (w := w) (a := n) (by omega)) kX12_isLong sX12_300 dX12_ways_1 rfl rfl (Nat.le_of_ble_eq_true rfl) ⟨Nat.le_of_ble_eq_true rfl, Nat.le_of_ble_eq_true rfl⟩ ⟨Nat.zero_le _, Nat.zero_le _⟩ (ic_ke ?_)
  refine xx_if_neB (pc := 4) 9 dX12_ways_4 rfl (fun c1 => ?_) (fun c1 => ?_)
  · refine xx_aload_nP (pc := 9) dX12_ways_9 0 rfl rfl ?_
    refine xx_iload_n (pc := 10) dX12_ways_10 1 rfl rfl ?_
    refine xx_iconst (pc := 11) dX12_ways_11 cc_iconst_0 ?_
    refine xx_callV0 (pc := 12) (st := []) sh_114 (cM_findsPlans (w := w) (n := n) (want := 0) (by omega) (by omega) hI hR) kX12_findsPlans vX12_303_12 dX12_ways_12 rfl rfl (Nat.le_of_ble_eq_true rfl) ⟨Nat.le_of_ble_eq_true rfl, Nat.le_of_ble_eq_true rfl⟩ ⟨Nat.zero_le _, Nat.zero_le _⟩ (ic_kv (fun h_ qw2 => ?_))
    obtain ⟨w2, rfl, s2_w2, x_w2⟩ := qw2
    have r_w2 : w2 115 = w 115 := mo_s2_115 s2_w2
    have hI_w2 : In (w2 115) := by rw [r_w2]; exact hI
    have hR_w2 : Ru (w2 115) := by rw [r_w2]; exact hR
    have p16_w2 : w2 114 16 = (mo_sm (w 115) n 0).1 16 := x_w2.1 16 (by omega) (by omega)
    have p17_w2 : w2 114 17 = (mo_sm (w 115) n 0).1 17 := x_w2.1 17 (by omega) (by omega)
    have p18_w2 : w2 114 18 = (mo_sm (w 115) n 0).1 18 := x_w2.1 18 (by omega) (by omega)
    have p19_w2 : w2 114 19 = (mo_sm (w 115) n 0).1 19 := x_w2.1 19 (by omega) (by omega)
    have p20_w2 : w2 114 20 = (mo_sm (w 115) n 0).1 20 := x_w2.1 20 (by omega) (by omega)
    have p21_w2 : w2 114 21 = (mo_sm (w 115) n 0).1 21 := x_w2.1 21 (by omega) (by omega)
    have pb_w2 := x_w2.2.2
    refine xx_aload_nP (pc := 15) dX12_ways_15 0 rfl rfl ?_
    refine xx_getN (pc := 16) dX12_ways_16 sh_114 fX12_279_12 rfl ?_
    exact xx_iret (pc := 19) dX12_ways_19 rfl (rfl) (Nat.le_refl _) (Nat.le_refl _) (ic_ri ⟨by rw [if_pos (by omega)]; rw [p17_w2], w2, rfl, s2_w2⟩)
  · refine xx_iconst (pc := 7) dX12_ways_7 cc_iconst_m1 ?_
    exact xx_iret (pc := 8) dX12_ways_8 rfl (rfl) (Nat.le_refl _) (Nat.le_refl _) (ic_ri ⟨by rw [if_neg (by omega)], w, rfl, mo_s2_rf w⟩)

set_option maxHeartbeats 4000000 in
set_option maxRecDepth 100000 in
theorem cM_ith {l : Launch} {E : ic_E} {w : ic_w} {n : Nat} (hn_ : n < 2 ^ 32) {i : Nat} (hi_ : i < 2 ^ 32) (hI : In (w 115)) (hR : Ru (w 115)) : ic_C l E mX12_ith 16 0 0 False [ic_pt E 114, .int (nI n), .int (nI i)] SHs (hn w) SHs (ic_qi (fun v_ h_ => v_ = nI (if n ≤ 4 ∧ i ≤ 3 then (if i < (mo_sm (w 115) n 0).1 18 then (mo_sm (w 115) n 0).2 i else 4294967293) else 4294967295) ∧ ∃ w2, h_ = hn w2 ∧ mo_s2 w w2)) := by
  refine ic_intro (by decide +kernel) (Nat.le_of_ble_eq_true rfl) ?_
  show xx l E _ _ 0 [(0, ic_pt E 114), (1, .int (nI n)), (2, .int (nI i))] _ _ _
  refine xx_iload_n (pc := 0) dX12_ith_0 1 rfl rfl ?_
  refine xx_callS0 (pc := 1) (st := []) (cM_isLong (w := w) (a := n) (by omega)) kX12_isLong sX12_300 dX12_ith_1 rfl rfl (Nat.le_of_ble_eq_true rfl) ⟨Nat.le_of_ble_eq_true rfl, Nat.le_of_ble_eq_true rfl⟩ ⟨Nat.zero_le _, Nat.zero_le _⟩ (ic_ke ?_)
  refine xx_if_eqB (pc := 4) 19 dX12_ith_4 rfl (fun c1 => ?_) (fun c1 => ?_)
  · refine xx_iconst (pc := 19) dX12_ith_19 cc_iconst_m1 ?_
    exact xx_iret (pc := 20) dX12_ith_20 rfl (rfl) (Nat.le_refl _) (Nat.le_refl _) (ic_ri ⟨by rw [if_neg (by omega)], w, rfl, mo_s2_rf w⟩)
  · refine xx_iload_n (pc := 7) dX12_ith_7 2 rfl rfl ?_
    refine xx_i2l (pc := 8) dX12_ith_8 ?_
    refine xx_lconst (v := 0) (pc := 9) dX12_ith_9 rfl ?_
    refine xx_ldc2 (v := 3) (pc := 10) dX12_ith_10 oX12_307 ?_
    refine xx_callS0 (pc := 13) (st := []) (cM_isIn (0 ≤ i ∧ i ≤ 3) (ll_in (lo := 0) (hi := 3) (by omega) (by decide) (by decide) (by omega))) kX12_isIn sX12_66 dX12_ith_13 rfl rfl (Nat.le_of_ble_eq_true rfl) ⟨Nat.le_of_ble_eq_true rfl, Nat.le_of_ble_eq_true rfl⟩ ⟨Nat.zero_le _, Nat.zero_le _⟩ (ic_ke ?_)
    refine xx_if_neB (pc := 16) 21 dX12_ith_16 rfl (fun c2 => ?_) (fun c2 => ?_)
    · refine xx_aload_nP (pc := 21) dX12_ith_21 0 rfl rfl ?_
      refine xx_iload_n (pc := 22) dX12_ith_22 1 rfl rfl ?_
      refine xx_iconst (pc := 23) dX12_ith_23 cc_iconst_0 ?_
      refine xx_callV0 (pc := 24) (st := []) sh_114 (cM_findsPlans (w := w) (n := n) (want := 0) (by omega) (by omega) hI hR) kX12_findsPlans vX12_303_12 dX12_ith_24 rfl rfl (Nat.le_of_ble_eq_true rfl) ⟨Nat.le_of_ble_eq_true rfl, Nat.le_of_ble_eq_true rfl⟩ ⟨Nat.zero_le _, Nat.zero_le _⟩ (ic_kv (fun h_ qw3 => ?_))
      obtain ⟨w3, rfl, s2_w3, x_w3⟩ := qw3
      have r_w3 : w3 115 = w 115 := mo_s2_115 s2_w3
      have hI_w3 : In (w3 115) := by rw [r_w3]; exact hI
      have hR_w3 : Ru (w3 115) := by rw [r_w3]; exact hR
      have p16_w3 : w3 114 16 = (mo_sm (w 115) n 0).1 16 := x_w3.1 16 (by omega) (by omega)
      have p17_w3 : w3 114 17 = (mo_sm (w 115) n 0).1 17 := x_w3.1 17 (by omega) (by omega)
      have p18_w3 : w3 114 18 = (mo_sm (w 115) n 0).1 18 := x_w3.1 18 (by omega) (by omega)
      have p19_w3 : w3 114 19 = (mo_sm (w 115) n 0).1 19 := x_w3.1 19 (by omega) (by omega)
      have p20_w3 : w3 114 20 = (mo_sm (w 115) n 0).1 20 := x_w3.1 20 (by omega) (by omega)
      have p21_w3 : w3 114 21 = (mo_sm (w 115) n 0).1 21 := x_w3.1 21 (by omega) (by omega)
      have pb_w3 := x_w3.2.2
      refine xx_iload_n (pc := 27) dX12_ith_27 2 rfl rfl ?_
      refine xx_aload_nP (pc := 28) dX12_ith_28 0 rfl rfl ?_
      refine xx_getN (pc := 29) dX12_ith_29 sh_114 fX12_282_12 rfl ?_
      refine xx_icmp_geN (pc := 32) 44 dX12_ith_32 rfl (by omega) (by omega) (fun c5 => ?_) (fun c5 => ?_)
      · refine xx_bipush (pc := 44) dX12_ith_44 cc_bipush_m3 ?_
        exact xx_iret (pc := 46) dX12_ith_46 rfl (rfl) (Nat.le_refl _) (Nat.le_refl _) (ic_ri ⟨by rw [if_pos (by omega)]; rw [if_neg (by omega)], w3, rfl, s2_w3⟩)
      · refine xx_aload_nP (pc := 35) dX12_ith_35 0 rfl rfl ?_
        refine xx_getR (pc := 36) 122 dX12_ith_36 sh_114 fX12_31_12 rfl rfl (by decide) ?_
        refine xx_iload_n (pc := 39) dX12_ith_39 2 rfl rfl ?_
        refine xx_ialdN (pc := 40) dX12_ith_40 sh_122 (by omega) (by decide) ?_
        refine xx_goto (pc := 41) 46 dX12_ith_41 rfl ?_
        exact xx_iret (pc := 46) dX12_ith_46 rfl (rfl) (Nat.le_refl _) (Nat.le_refl _) (ic_ri ⟨by rw [if_pos (by omega)]; rw [if_pos (by omega), x_w3.2.1 i (by omega)], w3, rfl, s2_w3⟩)
    · refine xx_iconst (pc := 19) dX12_ith_19 cc_iconst_m1 ?_
      exact xx_iret (pc := 20) dX12_ith_20 rfl (rfl) (Nat.le_refl _) (Nat.le_refl _) (ic_ri ⟨by rw [if_neg (by omega)], w, rfl, mo_s2_rf w⟩)

set_option maxHeartbeats 4000000 in
set_option maxRecDepth 100000 in
theorem cM_ticket {l : Launch} {E : ic_E} {w : ic_w} {n : Nat} (hn_ : n < 2 ^ 32) {set : Nat} (hset_ : set < 2 ^ 32) (hI : In (w 115)) (hR : Ru (w 115)) : ic_C l E mX12_ticket 16 0 0 False [ic_pt E 114, .int (nI n), .int (nI set)] SHs (hn w) SHs (ic_qi (fun v_ h_ => v_ = nI (if n ≤ 4 ∧ set < 2 ^ w 115 0 then (if (mo_sm (w 115) n set).1 20 < 9 then (mo_sm (w 115) n set).1 20 else 4294967293) else 4294967295) ∧ ∃ w2, h_ = hn w2 ∧ mo_s2 w w2)) := by
  refine ic_intro (by decide +kernel) (Nat.le_of_ble_eq_true rfl) ?_
  show xx l E _ _ 0 [(0, ic_pt E 114), (1, .int (nI n)), (2, .int (nI set))] _ _ _
  have hn0 := hI.n
  have hp2 := mo_p2 hn0
  refine xx_iload_n (pc := 0) dX12_ticket_0 1 rfl rfl ?_
  refine xx_callS0 (pc := 1) (st := []) (cM_isLong (w := w) (a := n) (by omega)) kX12_isLong sX12_300 dX12_ticket_1 rfl rfl (Nat.le_of_ble_eq_true rfl) ⟨Nat.le_of_ble_eq_true rfl, Nat.le_of_ble_eq_true rfl⟩ ⟨Nat.zero_le _, Nat.zero_le _⟩ (ic_ke ?_)
  refine xx_if_eqB (pc := 4) 15 dX12_ticket_4 rfl (fun c1 => ?_) (fun c1 => ?_)
  · refine xx_iconst (pc := 15) dX12_ticket_15 cc_iconst_m1 ?_
    exact xx_iret (pc := 16) dX12_ticket_16 rfl (rfl) (Nat.le_refl _) (Nat.le_refl _) (ic_ri ⟨by rw [if_neg (by omega)], w, rfl, mo_s2_rf w⟩)
  · refine xx_aload_nP (pc := 7) dX12_ticket_7 0 rfl rfl ?_
    refine xx_iload_n (pc := 8) dX12_ticket_8 2 rfl rfl ?_
    refine xx_callV0 (pc := 9) (st := []) sh_114 (cM_isSet (w := w) (a := set) (by omega) hI) kX12_isSet vX12_309_12 dX12_ticket_9 rfl rfl (Nat.le_of_ble_eq_true rfl) ⟨Nat.le_of_ble_eq_true rfl, Nat.le_of_ble_eq_true rfl⟩ ⟨Nat.zero_le _, Nat.zero_le _⟩ (ic_ke ?_)
    refine xx_if_neB (pc := 12) 17 dX12_ticket_12 rfl (fun c2 => ?_) (fun c2 => ?_)
    · refine xx_aload_nP (pc := 17) dX12_ticket_17 0 rfl rfl ?_
      refine xx_iload_n (pc := 18) dX12_ticket_18 1 rfl rfl ?_
      refine xx_iload_n (pc := 19) dX12_ticket_19 2 rfl rfl ?_
      refine xx_callV0 (pc := 20) (st := []) sh_114 (cM_findsPlans (w := w) (n := n) (want := set) (by omega) (by omega) hI hR) kX12_findsPlans vX12_303_12 dX12_ticket_20 rfl rfl (Nat.le_of_ble_eq_true rfl) ⟨Nat.le_of_ble_eq_true rfl, Nat.le_of_ble_eq_true rfl⟩ ⟨Nat.zero_le _, Nat.zero_le _⟩ (ic_kv (fun h_ qw3 => ?_))
      obtain ⟨w3, rfl, s2_w3, x_w3⟩ := qw3
      have r_w3 : w3 115 = w 115 := mo_s2_115 s2_w3
      have hI_w3 : In (w3 115) := by rw [r_w3]; exact hI
      have hR_w3 : Ru (w3 115) := by rw [r_w3]; exact hR
      have p16_w3 : w3 114 16 = (mo_sm (w 115) n set).1 16 := x_w3.1 16 (by omega) (by omega)
      have p17_w3 : w3 114 17 = (mo_sm (w 115) n set).1 17 := x_w3.1 17 (by omega) (by omega)
      have p18_w3 : w3 114 18 = (mo_sm (w 115) n set).1 18 := x_w3.1 18 (by omega) (by omega)
      have p19_w3 : w3 114 19 = (mo_sm (w 115) n set).1 19 := x_w3.1 19 (by omega) (by omega)
      have p20_w3 : w3 114 20 = (mo_sm (w 115) n set).1 20 := x_w3.1 20 (by omega) (by omega)
      have p21_w3 : w3 114 21 = (mo_sm (w 115) n set).1 21 := x_w3.1 21 (by omega) (by omega)
      have pb_w3 := x_w3.2.2
      refine xx_aload_nP (pc := 23) dX12_ticket_23 0 rfl rfl ?_
      refine xx_getN (pc := 24) dX12_ticket_24 sh_114 fX12_291_12 rfl ?_
      refine xx_bipush (pc := 27) dX12_ticket_27 cc_bipush_9 ?_
      refine xx_icmp_geN (pc := 29) 39 dX12_ticket_29 rfl (by omega) (by omega) (fun c5 => ?_) (fun c5 => ?_)
      · refine xx_bipush (pc := 39) dX12_ticket_39 cc_bipush_m3 ?_
        exact xx_iret (pc := 41) dX12_ticket_41 rfl (rfl) (Nat.le_refl _) (Nat.le_refl _) (ic_ri ⟨by rw [if_pos (by omega)]; rw [if_neg (by omega)], w3, rfl, s2_w3⟩)
      · refine xx_aload_nP (pc := 32) dX12_ticket_32 0 rfl rfl ?_
        refine xx_getN (pc := 33) dX12_ticket_33 sh_114 fX12_291_12 rfl ?_
        refine xx_goto (pc := 36) 41 dX12_ticket_36 rfl ?_
        exact xx_iret (pc := 41) dX12_ticket_41 rfl (rfl) (Nat.le_refl _) (Nat.le_refl _) (ic_ri ⟨by rw [if_pos (by omega)]; rw [if_pos (by omega), p20_w3], w3, rfl, s2_w3⟩)
    · refine xx_iconst (pc := 15) dX12_ticket_15 cc_iconst_m1 ?_
      exact xx_iret (pc := 16) dX12_ticket_16 rfl (rfl) (Nat.le_refl _) (Nat.le_refl _) (ic_ri ⟨by rw [if_neg (by omega)], w, rfl, mo_s2_rf w⟩)

set_option maxHeartbeats 4000000 in
set_option maxRecDepth 100000 in
theorem cM_bars {l : Launch} {E : ic_E} {w : ic_w} {n : Nat} (hn_ : n < 2 ^ 32) {set : Nat} (hset_ : set < 2 ^ 32) (hI : In (w 115)) (hR : Ru (w 115)) : ic_C l E mX12_bars 16 0 0 False [ic_pt E 114, .int (nI n), .int (nI set)] SHs (hn w) SHs (ic_qi (fun v_ h_ => v_ = nI (if n ≤ 4 ∧ set < 2 ^ w 115 0 then mo_lowN (set &&& ((mo_sm (w 115) n set).1 21 ^^^ 4294967295)) (w 115 0) 0 else 4294967295) ∧ ∃ w2, h_ = hn w2 ∧ mo_s2 w w2)) := by
  refine ic_intro (by decide +kernel) (Nat.le_of_ble_eq_true rfl) ?_
  show xx l E _ _ 0 [(0, ic_pt E 114), (1, .int (nI n)), (2, .int (nI set))] _ _ _
  have hn0 := hI.n
  have hp2 := mo_p2 hn0
  refine xx_iload_n (pc := 0) dX12_bars_0 1 rfl rfl ?_
  refine xx_callS0 (pc := 1) (st := []) (cM_isLong (w := w) (a := n) (by omega)) kX12_isLong sX12_300 dX12_bars_1 rfl rfl (Nat.le_of_ble_eq_true rfl) ⟨Nat.le_of_ble_eq_true rfl, Nat.le_of_ble_eq_true rfl⟩ ⟨Nat.zero_le _, Nat.zero_le _⟩ (ic_ke ?_)
  refine xx_if_eqB (pc := 4) 15 dX12_bars_4 rfl (fun c1 => ?_) (fun c1 => ?_)
  · refine xx_iconst (pc := 15) dX12_bars_15 cc_iconst_m1 ?_
    exact xx_iret (pc := 16) dX12_bars_16 rfl (rfl) (Nat.le_refl _) (Nat.le_refl _) (ic_ri ⟨by rw [if_neg (by omega)], w, rfl, mo_s2_rf w⟩)
  · refine xx_aload_nP (pc := 7) dX12_bars_7 0 rfl rfl ?_
    refine xx_iload_n (pc := 8) dX12_bars_8 2 rfl rfl ?_
    refine xx_callV0 (pc := 9) (st := []) sh_114 (cM_isSet (w := w) (a := set) (by omega) hI) kX12_isSet vX12_309_12 dX12_bars_9 rfl rfl (Nat.le_of_ble_eq_true rfl) ⟨Nat.le_of_ble_eq_true rfl, Nat.le_of_ble_eq_true rfl⟩ ⟨Nat.zero_le _, Nat.zero_le _⟩ (ic_ke ?_)
    refine xx_if_neB (pc := 12) 17 dX12_bars_12 rfl (fun c2 => ?_) (fun c2 => ?_)
    · refine xx_aload_nP (pc := 17) dX12_bars_17 0 rfl rfl ?_
      refine xx_iload_n (pc := 18) dX12_bars_18 1 rfl rfl ?_
      refine xx_iload_n (pc := 19) dX12_bars_19 2 rfl rfl ?_
      refine xx_callV0 (pc := 20) (st := []) sh_114 (cM_findsPlans (w := w) (n := n) (want := set) (by omega) (by omega) hI hR) kX12_findsPlans vX12_303_12 dX12_bars_20 rfl rfl (Nat.le_of_ble_eq_true rfl) ⟨Nat.le_of_ble_eq_true rfl, Nat.le_of_ble_eq_true rfl⟩ ⟨Nat.zero_le _, Nat.zero_le _⟩ (ic_kv (fun h_ qw3 => ?_))
      obtain ⟨w3, rfl, s2_w3, x_w3⟩ := qw3
      have r_w3 : w3 115 = w 115 := mo_s2_115 s2_w3
      have hI_w3 : In (w3 115) := by rw [r_w3]; exact hI
      have hR_w3 : Ru (w3 115) := by rw [r_w3]; exact hR
      have p16_w3 : w3 114 16 = (mo_sm (w 115) n set).1 16 := x_w3.1 16 (by omega) (by omega)
      have p17_w3 : w3 114 17 = (mo_sm (w 115) n set).1 17 := x_w3.1 17 (by omega) (by omega)
      have p18_w3 : w3 114 18 = (mo_sm (w 115) n set).1 18 := x_w3.1 18 (by omega) (by omega)
      have p19_w3 : w3 114 19 = (mo_sm (w 115) n set).1 19 := x_w3.1 19 (by omega) (by omega)
      have p20_w3 : w3 114 20 = (mo_sm (w 115) n set).1 20 := x_w3.1 20 (by omega) (by omega)
      have p21_w3 : w3 114 21 = (mo_sm (w 115) n set).1 21 := x_w3.1 21 (by omega) (by omega)
      have pb_w3 := x_w3.2.2
      refine xx_iconst (pc := 23) dX12_bars_23 cc_iconst_0 ?_
      refine xx_istore_n (L' := [(3, .int (nI 0)), (0, ic_pt E 114), (1, .int (nI n)), (2, .int (nI set))]) (pc := 24) dX12_bars_24 rfl (Nat.le_of_ble_eq_true rfl) rfl ?_
      have hvl := Nat.and_le_left (n := set) (m := w3 114 21 ^^^ 4294967295)
      have lp : ∀ (n_ : Nat) (i : Nat), i ≤ w 115 0 → mo_lowN (set &&& ((mo_sm (w 115) n set).1 21 ^^^ 4294967295)) (w 115 0) 0 = mo_lowN (set &&& ((mo_sm (w 115) n set).1 21 ^^^ 4294967295)) (w 115 0 - i) i → w 115 0 - i < n_ → xx l E (ic_fr E mX12_bars 16 0 0 False SHs (ic_qi (fun v_ h_ => v_ = nI (if n ≤ 4 ∧ set < 2 ^ w 115 0 then mo_lowN (set &&& ((mo_sm (w 115) n set).1 21 ^^^ 4294967295)) (w 115 0) 0 else 4294967295) ∧ ∃ w2, h_ = hn w2 ∧ mo_s2 w w2))) (0, 0) 25 [(3, .int (nI i)), (0, ic_pt E 114), (1, .int (nI n)), (2, .int (nI set))] [] SHs (hn w3) := by
        intro n_
        induction n_ with
        | zero => intro i hi hq hm_; exact absurd hm_ (Nat.not_lt_zero _)
        | succ n_ ih_ =>
          intro i hi hq hm_
          have e0 : w3 115 0 = w 115 0 := by rw [r_w3]
          refine xx_iload_n (pc := 25) dX12_bars_25 0 rfl rfl ?_
          refine xx_aload_nP (pc := 26) dX12_bars_26 1 rfl rfl ?_
          refine xx_getR (pc := 27) 115 dX12_bars_27 sh_114 fX12_7_12 rfl rfl (by decide) ?_
          refine xx_iconst (pc := 30) dX12_bars_30 cc_iconst_0 ?_
          refine xx_ialdN (pc := 31) dX12_bars_31 sh_115 (by omega) (by decide) ?_
          refine xx_icmp_geN (pc := 32) 59 dX12_bars_32 rfl (by omega) (by omega) (fun c55 => ?_) (fun c55 => ?_)
          · refine xx_bipush (pc := 59) dX12_bars_59 cc_bipush_m3 ?_
            exact xx_iret (pc := 61) dX12_bars_61 rfl (rfl) (Nat.le_refl _) (Nat.le_refl _) (ic_ri ⟨by rw [if_pos (by omega), hq, show w 115 0 - i = 0 by omega]; rfl, w3, rfl, s2_w3⟩)
          · refine xx_iload_n (pc := 35) dX12_bars_35 3 rfl rfl ?_
            refine xx_aload_nP (pc := 36) dX12_bars_36 1 rfl rfl ?_
            refine xx_getN (pc := 37) dX12_bars_37 sh_114 fX12_285_12 rfl ?_
            refine xx_iconst (pc := 40) dX12_bars_40 cc_iconst_m1 ?_
            refine xx_ixorN (pc := 41) dX12_bars_41 ?_
            refine xx_iandN (pc := 42) dX12_bars_42 ?_
            refine xx_iload_n (pc := 43) dX12_bars_43 0 rfl rfl ?_
            refine xx_ishrN (pc := 44) dX12_bars_44 (by omega) (by omega) ?_
            refine xx_iconst (pc := 45) dX12_bars_45 cc_iconst_1 ?_
            refine xx_iandN (pc := 46) dX12_bars_46 ?_
            refine xx_iconst (pc := 47) dX12_bars_47 cc_iconst_1 ?_
            refine xx_icmp_neN (pc := 48) 53 dX12_bars_48 rfl (by have := Nat.and_le_right (n := (set &&& (w3 114 21 ^^^ 4294967295)) / 2 ^ i) (m := 1); omega) (by omega) (fun c56 => ?_) (fun c56 => ?_)
            · refine xx_iincN (L' := [(3, .int (nI (i + 1))), (0, ic_pt E 114), (1, .int (nI n)), (2, .int (nI set))]) (pc := 53) dX12_bars_53 0 rfl cc_iconst_1 (Nat.le_of_ble_eq_true rfl) rfl ?_
              refine xx_goto (pc := 56) 25 dX12_bars_56 rfl ?_
              exact xx_sub [0, 1, 2, 3] rfl (ih_ (i + 1) (by omega) (by rw [hq, show w 115 0 - i = (w 115 0 - (i + 1)) + 1 by omega, mo_lowN, if_neg (by rw [← p21_w3]; assumption)]) (by omega))
            · refine xx_iload_n (pc := 51) dX12_bars_51 0 rfl rfl ?_
              exact xx_iret (pc := 52) dX12_bars_52 rfl (rfl) (Nat.le_refl _) (Nat.le_refl _) (ic_ri ⟨by rw [if_pos (by omega), hq, show w 115 0 - i = (w 115 0 - (i + 1)) + 1 by omega, mo_lowN, if_pos (by rw [← p21_w3]; assumption)], w3, rfl, s2_w3⟩)
      exact xx_sub [0, 1, 2, 3] rfl (lp (w 115 0 + 1) 0 (by omega) rfl (by omega))
    · refine xx_iconst (pc := 15) dX12_bars_15 cc_iconst_m1 ?_
      exact xx_iret (pc := 16) dX12_bars_16 rfl (rfl) (Nat.le_refl _) (Nat.le_refl _) (ic_ri ⟨by rw [if_neg (by omega)], w, rfl, mo_s2_rf w⟩)

