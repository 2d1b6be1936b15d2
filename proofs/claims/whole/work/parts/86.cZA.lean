/-! the class: keep, again -/
set_option maxHeartbeats 4000000 in
set_option maxRecDepth 100000 in
theorem cC_keep {l : Launch} {E : ic_E} {w : ic_w}  : ic_C l E mX11_keep 4 0 0 False [ic_pt E 0] SHs (hn w) SHs (ic_qi (fun v_ h_ => v_ = nI 1 ∧ ∃ w2, h_ = hn w2 ∧ (∀ a, a ≠ 0 → a < 67 ∨ 94 < a → w2 a = w a) ∧ (∀ j, j ≠ 2 → w2 0 j = w 0 j) ∧ w2 0 2 = 1 ∧ Nk w2 67 w 39)) := by
  refine ic_intro (by decide +kernel) (Nat.le_of_ble_eq_true rfl) ?_
  show xx l E _ _ 0 [(0, ic_pt E 0)] _ _ _
  refine xx_aload_nP (pc := 0) dX11_keep_0 0 rfl rfl ?_
  refine xx_getR (pc := 1) 67 dX11_keep_1 sh_0 fX11_78_11 rfl rfl (by decide) ?_
  refine xx_aload_nP (pc := 4) dX11_keep_4 0 rfl rfl ?_
  refine xx_getR (pc := 5) 39 dX11_keep_5 sh_0 fX11_74_11 rfl rfl (by decide) ?_
  refine xx_callV0 (pc := 8) (st := []) sh_67 (cC_netB_67 (w := w)) kX5_become vX11_388_5 dX11_keep_8 rfl rfl (Nat.le_of_ble_eq_true rfl) ⟨Nat.le_of_ble_eq_true rfl, Nat.le_of_ble_eq_true rfl⟩ ⟨Nat.zero_le _, Nat.zero_le _⟩ (ic_kv (fun h_ qw1 => ?_))
  obtain ⟨w1, rfl, f_w1, k_w1⟩ := qw1
  refine xx_aload_nP (pc := 11) dX11_keep_11 0 rfl rfl ?_
  refine xx_iconst (pc := 12) dX11_keep_12 cc_iconst_1 ?_
  refine xx_putB (pc := 13) dX11_keep_13 sh_0 fX11_390_11 rfl rfl (by omega) ?_
  refine xx_nw (fun w3 ew3 => ?_)
  have kk_ : Nk w3 67 w 39 := by
    have y := k_w1
    have e : ∀ a, a ≠ 0 → w3 a = w1 a := fun a h => by rw [ew3, wu_row _ _ _ h]
    obtain ⟨a1, a2, a3, a4, a5, a6⟩ := y
    refine ⟨by rw [e _ (by omega)]; exact a1, fun t ht => by rw [e _ (by omega)]; exact a2 t ht, fun j hj => by rw [e _ (by omega), e _ (by omega), e _ (by omega), e _ (by omega), e _ (by omega)]; exact a3 j hj, a4.re (fun r _ => e _ (by omega)) (fun _ _ => rfl), a5.re (fun r _ => e _ (by omega)) (fun _ _ => rfl), a6.re (fun r _ => e _ (by omega)) (fun _ _ => rfl)⟩
  refine xx_iconst (pc := 16) dX11_keep_16 cc_iconst_1 ?_
  exact xx_iret (pc := 17) dX11_keep_17 rfl (rfl) (Nat.le_refl _) (Nat.le_refl _) (ic_ri ⟨rfl, w3, rfl, fun a h1 h2 => by rw [ew3, wu_row _ _ _ h1]; exact f_w1 a h2, fun j hj => by rw [ew3, wu_k _ _ _ _ hj, f_w1 0 (by omega)], by rw [ew3, wu_s], kk_⟩)

set_option maxHeartbeats 4000000 in
set_option maxRecDepth 100000 in
theorem cC_again {l : Launch} {E : ic_E} {w : ic_w} (hk : w 0 2 ≤ 1) : ic_C l E mX11_again 4 0 0 False [ic_pt E 0] SHs (hn w) SHs (ic_qi (fun v_ h_ => v_ = nI (if w 0 2 = 0 then 4294967293 else w 67 10) ∧ ∃ w2, h_ = hn w2 ∧ (∀ a, a < 39 ∨ 66 < a → w2 a = w a) ∧ (w 0 2 = 0 → w2 = w) ∧ (w 0 2 ≠ 0 → Nk w2 39 w 67))) := by
  refine ic_intro (by decide +kernel) (Nat.le_of_ble_eq_true rfl) ?_
  show xx l E _ _ 0 [(0, ic_pt E 0)] _ _ _
  refine xx_aload_nP (pc := 0) dX11_again_0 0 rfl rfl ?_
  refine xx_getN (pc := 1) dX11_again_1 sh_0 fX11_390_11 rfl ?_
  refine xx_if_neN (pc := 4) 10 dX11_again_4 rfl (by omega) (fun c1 => ?_) (fun c1 => ?_)
  · refine xx_aload_nP (pc := 10) dX11_again_10 0 rfl rfl ?_
    refine xx_getR (pc := 11) 39 dX11_again_11 sh_0 fX11_74_11 rfl rfl (by decide) ?_
    refine xx_aload_nP (pc := 14) dX11_again_14 0 rfl rfl ?_
    refine xx_getR (pc := 15) 67 dX11_again_15 sh_0 fX11_78_11 rfl rfl (by decide) ?_
    refine xx_callV0 (pc := 18) (st := []) sh_39 (cC_netB_39 (w := w)) kX5_become vX11_388_5 dX11_again_18 rfl rfl (Nat.le_of_ble_eq_true rfl) ⟨Nat.le_of_ble_eq_true rfl, Nat.le_of_ble_eq_true rfl⟩ ⟨Nat.zero_le _, Nat.zero_le _⟩ (ic_kv (fun h_ qw2 => ?_))
    obtain ⟨w2, rfl, f_w2, k_w2⟩ := qw2
    refine xx_aload_nP (pc := 21) dX11_again_21 0 rfl rfl ?_
    refine xx_getR (pc := 22) 39 dX11_again_22 sh_0 fX11_74_11 rfl rfl (by decide) ?_
    refine xx_getN (pc := 25) dX11_again_25 sh_39 fX11_101_5 rfl ?_
    exact xx_iret (pc := 28) dX11_again_28 rfl (rfl) (Nat.le_refl _) (Nat.le_refl _) (ic_ri ⟨by rw [if_neg (by omega)]; exact congrArg nI k_w2.1.1, w2, rfl, f_w2, fun h => absurd h (by omega), fun _ => k_w2⟩)
  · refine xx_bipush (pc := 7) dX11_again_7 cc_bipush_m3 ?_
    exact xx_iret (pc := 9) dX11_again_9 rfl (rfl) (Nat.le_refl _) (Nat.le_refl _) (ic_ri ⟨by rw [if_pos (by omega)], w, rfl, fun _ _ => rfl, fun _ => rfl, fun h => absurd h (by omega)⟩)

