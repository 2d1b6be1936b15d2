/-! the class: anew, state, train, lot -/
set_option maxHeartbeats 4000000 in
set_option maxRecDepth 100000 in
theorem cC_startAgain {l : Launch} {E : ic_E} {w : ic_w} {s : Nat → Nat} (hC : Cw w s) (hIn : In s) : ic_C l E mX5_startAgain 1 0 0 False [ic_pt E 39] SHs (hn w) SHs (ic_qv (fun h_ => ∃ w2, h_ = hn w2 ∧ Fn w w2 ∧ Cw w2 (mo_anew s))) := by
  refine ic_intro (by decide +kernel) (Nat.le_of_ble_eq_true rfl) ?_
  show xx l E _ _ 0 [(0, ic_pt E 39)] _ _ _
  have hn0 := hIn.n
  refine xx_aload_nP (pc := 0) dX5_startAgain_0 0 rfl rfl ?_
  refine xx_getR (pc := 1) 46 dX5_startAgain_1 sh_39 fX5_33_5 rfl rfl (by decide) ?_
  refine xx_iconst (pc := 4) dX5_startAgain_4 cc_iconst_0 ?_
  refine xx_putN (pc := 5) dX5_startAgain_5 sh_46 fX5_99_4 rfl rfl ?_
  refine xx_nw (fun w1 ew1 => ?_)
  refine xx_aload_nP (pc := 8) dX5_startAgain_8 0 rfl rfl ?_
  refine xx_getR (pc := 9) 46 dX5_startAgain_9 sh_39 fX5_33_5 rfl rfl (by decide) ?_
  refine xx_iconst (pc := 12) dX5_startAgain_12 cc_iconst_0 ?_
  refine xx_putN (pc := 13) dX5_startAgain_13 sh_46 fX5_96_4 rfl rfl ?_
  refine xx_nw (fun w2 ew2 => ?_)
  refine xx_aload_nP (pc := 16) dX5_startAgain_16 0 rfl rfl ?_
  refine xx_iconst (pc := 17) dX5_startAgain_17 cc_iconst_0 ?_
  refine xx_putN (pc := 18) dX5_startAgain_18 sh_39 fX5_87_5 rfl rfl ?_
  refine xx_nw (fun w3 ew3 => ?_)
  refine xx_iconst (pc := 21) dX5_startAgain_21 cc_iconst_0 ?_
  refine xx_istore_n (L' := [(1, .int (nI 0)), (0, ic_pt E 39)]) (pc := 22) dX5_startAgain_22 rfl (Nat.le_of_ble_eq_true rfl) rfl ?_
  have fx : ∀ a, a ≠ 39 → a ≠ 46 → w3 a = w a := fun a h1 h2 => by rw [ew3, wu_row _ _ _ (by omega), ew2, wu_row _ _ _ (by omega), ew1, wu_row _ _ _ (by omega)]
  have x46 : w3 46 0 = 0 ∧ w3 46 1 = 0 ∧ w3 39 12 = 0 ∧ ∀ q, q ≠ 12 → w3 39 q = w 39 q := by
    rw [ew3, ew2, ew1]
    exact ⟨by rw [wu_o _ _ _ _ (by omega), wu_k _ _ _ _ (by omega), wu_s], by rw [wu_o _ _ _ _ (by omega), wu_s], wu_s _ _ _ _, fun q hq => by rw [wu_k _ _ _ _ hq, wu_o _ _ _ _ (by omega), wu_o _ _ _ _ (by omega)]⟩
  have lp : ∀ (n_ : Nat) (k : Nat) (u : ic_w), k ≤ s 0 → (∀ a, a ≠ 48 → u a = w3 a) → (∀ j, j < k → u 48 j = w3 45 j) → s 0 - k < n_ → xx l E (ic_fr E mX5_startAgain 1 0 0 False SHs (ic_qv (fun h_ => ∃ w2, h_ = hn w2 ∧ Fn w w2 ∧ Cw w2 (mo_anew s)))) (0, 0) 23 [(1, .int (nI k)), (0, ic_pt E 39)] [] SHs (hn u) := by
    intro n_
    induction n_ with
    | zero => intro k u hk hf hd hm_; exact absurd hm_ (Nat.not_lt_zero _)
    | succ n_ ih_ =>
      intro k u hk hf hd hm_
      have n1_u : u 39 10 = s 0 := by rw [hf _ (by omega), x46.2.2.2 10 (by omega)]; exact hC.1.n
      refine xx_iload_n (pc := 23) dX5_startAgain_23 0 rfl rfl ?_
      refine xx_aload_nP (pc := 24) dX5_startAgain_24 1 rfl rfl ?_
      refine xx_getN (pc := 25) dX5_startAgain_25 sh_39 fX5_84_5 rfl ?_
      refine xx_icmp_geN (pc := 28) 52 dX5_startAgain_28 rfl (by omega) (by omega) (fun c24 => ?_) (fun c24 => ?_)
      · exact xx_vret (pc := 52) dX5_startAgain_52 rfl (Nat.le_refl _) (Nat.le_refl _) (ic_rv0 ⟨u, rfl, fun a ha => by rw [hf _ (by omega), fx _ (by omega) (by omega)], hC.anew hIn (by rw [hf _ (by omega)]; exact x46.1) (by rw [hf _ (by omega)]; exact x46.2.1) (fun q hq => by rw [hf _ (by omega)]; exact x46.2.2.2 q hq) (by rw [hf _ (by omega)]; exact x46.2.2.1) (fun q hq => by rw [hd q (by omega), fx _ (by omega) (by omega)]) (fun a h1 h2 h3 => by rw [hf _ h3, fx _ h1 h2])⟩)
      · refine xx_aload_nP (pc := 31) dX5_startAgain_31 1 rfl rfl ?_
        refine xx_getR (pc := 32) 46 dX5_startAgain_32 sh_39 fX5_33_5 rfl rfl (by decide) ?_
        refine xx_getR (pc := 35) 48 dX5_startAgain_35 sh_46 fX5_93_4 rfl rfl (by decide) ?_
        refine xx_iload_n (pc := 38) dX5_startAgain_38 0 rfl rfl ?_
        refine xx_aload_nP (pc := 39) dX5_startAgain_39 1 rfl rfl ?_
        refine xx_getR (pc := 40) 45 dX5_startAgain_40 sh_39 fX5_27_5 rfl rfl (by decide) ?_
        refine xx_iload_n (pc := 43) dX5_startAgain_43 0 rfl rfl ?_
        refine xx_ialdN (pc := 44) dX5_startAgain_44 sh_45 (by omega) (by decide) ?_
        refine xx_iastN (pc := 45) dX5_startAgain_45 sh_48 (by omega) (by decide) ?_
        refine xx_nw (fun w25 ew25 => ?_)
        refine xx_iincN (L' := [(1, .int (nI (k + 1))), (0, ic_pt E 39)]) (pc := 46) dX5_startAgain_46 0 rfl cc_iconst_1 (Nat.le_of_ble_eq_true rfl) rfl ?_
        refine xx_goto (pc := 49) 23 dX5_startAgain_49 rfl ?_
        exact xx_sub [0, 1] rfl (ih_ (k + 1) w25 (by omega) (fun a h => by rw [ew25, wu_row _ _ _ h]; exact hf a h) (fun j hj => by rw [ew25]; by_cases z : j = k; rw [z, wu_s, hf _ (by omega)]; rw [wu_k _ _ _ _ z]; exact hd j (by omega)) (by omega))
  exact xx_sub [0, 1] rfl (lp (s 0 + 1) 0 w3 (by omega) (fun _ _ => rfl) (fun _ h => absurd h (by omega)) (by omega))

set_option maxHeartbeats 4000000 in
set_option maxRecDepth 100000 in
theorem cC_anew {l : Launch} {E : ic_E} {w : ic_w} {s : Nat → Nat} (hC : Cw w s) (hIn : In s) : ic_C l E mX11_anew 2 0 0 False [ic_pt E 0] SHs (hn w) SHs (ic_qi (fun v_ h_ => v_ = nI (s 1) ∧ ∃ w2, h_ = hn w2 ∧ Fn w w2 ∧ Cw w2 (mo_anew s))) := by
  refine ic_intro (by decide +kernel) (Nat.le_of_ble_eq_true rfl) ?_
  show xx l E _ _ 0 [(0, ic_pt E 0)] _ _ _
  have hN := hC.1
  have hm := hC.2.1
  have n5_w := hC.2.2.1
  have n6_w := hC.2.2.2
  have hn0 := hIn.n
  have htt := hIn.t
  have hcr := hIn.cr (s 1)
  have n1_w : w 39 10 = s 0 := hN.n
  have n2_w : w 39 11 = s 2 := hN.e
  have n3_w : w 46 0 = s 1 := hm.t
  have n4_w : w 46 1 = mo_outs s := hm.o
  refine xx_aload_nP (pc := 0) dX11_anew_0 0 rfl rfl ?_
  refine xx_getR (pc := 1) 39 dX11_anew_1 sh_0 fX11_74_11 rfl rfl (by decide) ?_
  refine xx_getR (pc := 4) 46 dX11_anew_4 sh_39 fX11_112_5 rfl rfl (by decide) ?_
  refine xx_getN (pc := 7) dX11_anew_7 sh_46 fX11_137_4 rfl ?_
  refine xx_istore_n (L' := [(1, .int (nI (w 46 0))), (0, ic_pt E 0)]) (pc := 10) dX11_anew_10 rfl (Nat.le_of_ble_eq_true rfl) rfl ?_
  refine xx_aload_nP (pc := 11) dX11_anew_11 1 rfl rfl ?_
  refine xx_getR (pc := 12) 39 dX11_anew_12 sh_0 fX11_74_11 rfl rfl (by decide) ?_
  refine xx_callV0 (pc := 15) (st := []) sh_39 (cC_startAgain (w := w) (s := s) hC hIn) kX5_startAgain vX11_179_5 dX11_anew_15 rfl rfl (Nat.le_of_ble_eq_true rfl) ⟨Nat.le_of_ble_eq_true rfl, Nat.le_of_ble_eq_true rfl⟩ ⟨Nat.zero_le _, Nat.zero_le _⟩ (ic_kv (fun h_ qw1 => ?_))
  obtain ⟨w1, rfl, fw1, hC_w1⟩ := qw1
  refine xx_iload_n (pc := 18) dX11_anew_18 0 rfl rfl ?_
  exact xx_iret (pc := 19) dX11_anew_19 rfl (rfl) (Nat.le_refl _) (Nat.le_refl _) (ic_ri ⟨by rw [n3_w], w1, rfl, fw1, hC_w1⟩)

set_option maxHeartbeats 4000000 in
set_option maxRecDepth 100000 in
theorem cC_atHome {l : Launch} {E : ic_E} {w : ic_w} {s : Nat → Nat} (hC : Cw w s) (hIn : In s) : ic_C l E mX5_atHome 1 0 0 False [ic_pt E 39] SHs (hn w) SHs (ic_qe (nI (mo_homes s)) (hn w)) := by
  refine ic_intro (by decide +kernel) (Nat.le_of_ble_eq_true rfl) ?_
  show xx l E _ _ 0 [(0, ic_pt E 39)] _ _ _
  have hN := hC.1
  have hm := hC.2.1
  have n5_w := hC.2.2.1
  have n6_w := hC.2.2.2
  have hn0 := hIn.n
  have htt := hIn.t
  have hcr := hIn.cr (s 1)
  have n1_w : w 39 10 = s 0 := hN.n
  have n2_w : w 39 11 = s 2 := hN.e
  have n3_w : w 46 0 = s 1 := hm.t
  have n4_w : w 46 1 = mo_outs s := hm.o
  have lp : ∀ (n_ : Nat) (q c : Nat), q ≤ s 0 → c = mo_set (fun q => decide (it s q 5 = it s q 3)) q → s 0 - q < n_ → xx l E (ic_fr E mX5_atHome 1 0 0 False SHs (ic_qe (nI (mo_homes s)) (hn w))) (0, 0) 4 [(2, .int (nI q)), (1, .int (nI c)), (0, ic_pt E 39)] [] SHs (hn w) := by
    intro n_
    induction n_ with
    | zero => intro q c hq hc hm_; exact absurd hm_ (Nat.not_lt_zero _)
    | succ n_ ih_ =>
      intro q c hq hc hm_
      refine xx_iload_n (pc := 4) dX5_atHome_4 0 rfl rfl ?_
      refine xx_aload_nP (pc := 5) dX5_atHome_5 2 rfl rfl ?_
      refine xx_getN (pc := 6) dX5_atHome_6 sh_39 fX5_84_5 rfl ?_
      refine xx_icmp_geN (pc := 9) 42 dX5_atHome_9 rfl (by omega) (by omega) (fun c1 => ?_) (fun c1 => ?_)
      · refine xx_iload_n (pc := 42) dX5_atHome_42 1 rfl rfl ?_
        exact xx_iret (pc := 43) dX5_atHome_43 rfl (rfl) (Nat.le_refl _) (Nat.le_refl _) (ic_re (by rw [hc, show q = s 0 by omega]; rfl))
      · have a_ : w 48 q = it s q 5 := hm.a (by omega)
        have h_ : w 45 q = it s q 3 := hN.hm (by omega)
        have hp2 := mo_p2 (n := q) (by omega)
        have i_ := hIn.i (o := q) (by omega)
        refine xx_aload_nP (pc := 12) dX5_atHome_12 2 rfl rfl ?_
        refine xx_getR (pc := 13) 46 dX5_atHome_13 sh_39 fX5_33_5 rfl rfl (by decide) ?_
        refine xx_getR (pc := 16) 48 dX5_atHome_16 sh_46 fX5_93_4 rfl rfl (by decide) ?_
        refine xx_iload_n (pc := 19) dX5_atHome_19 0 rfl rfl ?_
        refine xx_ialdN (pc := 20) dX5_atHome_20 sh_48 (by omega) (by decide) ?_
        refine xx_aload_nP (pc := 21) dX5_atHome_21 2 rfl rfl ?_
        refine xx_getR (pc := 22) 45 dX5_atHome_22 sh_39 fX5_27_5 rfl rfl (by decide) ?_
        refine xx_iload_n (pc := 25) dX5_atHome_25 0 rfl rfl ?_
        refine xx_ialdN (pc := 26) dX5_atHome_26 sh_45 (by omega) (by decide) ?_
        refine xx_icmp_neN (pc := 27) 36 dX5_atHome_27 rfl (by omega) (by omega) (fun c2 => ?_) (fun c2 => ?_)
        · refine xx_iincN (L' := [(2, .int (nI (q + 1))), (1, .int (nI c)), (0, ic_pt E 39)]) (pc := 36) dX5_atHome_36 0 rfl cc_iconst_1 (Nat.le_of_ble_eq_true rfl) rfl ?_
          refine xx_goto (pc := 39) 4 dX5_atHome_39 rfl ?_
          exact xx_sub [0, 1, 2] rfl (ih_ (q + 1) _ (by omega) (by rw [hc]; exact (mo_set_f (by simp; omega)).symm) (by omega))
        · refine xx_iload_n (pc := 30) dX5_atHome_30 1 rfl rfl ?_
          refine xx_iconst (pc := 31) dX5_atHome_31 cc_iconst_1 ?_
          refine xx_iload_n (pc := 32) dX5_atHome_32 0 rfl rfl ?_
          refine xx_ishlN (pc := 33) dX5_atHome_33 (by omega) (by omega) ?_
          refine xx_iorN (pc := 34) dX5_atHome_34 ?_
          refine xx_istore_n (L' := [(1, .int (nI (c ||| (1 * 2 ^ q)))), (2, .int (nI q)), (0, ic_pt E 39)]) (pc := 35) dX5_atHome_35 rfl (Nat.le_of_ble_eq_true rfl) rfl ?_
          refine xx_iincN (L' := [(2, .int (nI (q + 1))), (1, .int (nI (c ||| (1 * 2 ^ q)))), (0, ic_pt E 39)]) (pc := 36) dX5_atHome_36 1 rfl cc_iconst_1 (Nat.le_of_ble_eq_true rfl) rfl ?_
          refine xx_goto (pc := 39) 4 dX5_atHome_39 rfl ?_
          exact xx_sub [0, 1, 2] rfl (ih_ (q + 1) _ (by omega) (by rw [hc]; rw [Nat.one_mul]; exact (mo_set_t (by simp; omega)).symm) (by omega))
  refine xx_iconst (pc := 0) dX5_atHome_0 cc_iconst_0 ?_
  refine xx_istore_n (L' := [(1, .int (nI 0)), (0, ic_pt E 39)]) (pc := 1) dX5_atHome_1 rfl (Nat.le_of_ble_eq_true rfl) rfl ?_
  refine xx_iconst (pc := 2) dX5_atHome_2 cc_iconst_0 ?_
  refine xx_istore_n (L' := [(2, .int (nI 0)), (1, .int (nI 0)), (0, ic_pt E 39)]) (pc := 3) dX5_atHome_3 rfl (Nat.le_of_ble_eq_true rfl) rfl ?_
  exact xx_sub [0, 1, 2] rfl (lp (s 0 + 1) 0 0 (by omega) rfl (by omega))

set_option maxHeartbeats 4000000 in
set_option maxRecDepth 100000 in
theorem cC_state {l : Launch} {E : ic_E} {w : ic_w} {k : Nat} (hk_ : k < 2 ^ 32) {s : Nat → Nat} (hC : Cw w s) (hIn : In s) : ic_C l E mX11_state 2 0 0 False [ic_pt E 0, .int (nI k)] SHs (hn w) SHs (ic_qe (nI (mo_state s k)) (hn w)) := by
  refine ic_intro (by decide +kernel) (Nat.le_of_ble_eq_true rfl) ?_
  show xx l E _ _ 0 [(0, ic_pt E 0), (1, .int (nI k))] _ _ _
  have hN := hC.1
  have hm := hC.2.1
  have n5_w := hC.2.2.1
  have n6_w := hC.2.2.2
  have hn0 := hIn.n
  have htt := hIn.t
  have hcr := hIn.cr (s 1)
  have n1_w : w 39 10 = s 0 := hN.n
  have n2_w : w 39 11 = s 2 := hN.e
  have n3_w : w 46 0 = s 1 := hm.t
  have n4_w : w 46 1 = mo_outs s := hm.o
  refine xx_iload_n (pc := 0) dX11_state_0 1 rfl rfl ?_
  rcases (show k = 0 ∨ k = 1 ∨ k = 2 ∨ k = 3 ∨ k = 4 ∨ k = 5 ∨ k = 6 ∨ 7 ≤ k by omega) with rfl | rfl | rfl | rfl | rfl | rfl | rfl | hbig
  · refine xx_tin (pc := 1) 44 dX11_state_1 (by decide) (by decide) rfl rfl ?_
    refine xx_aload_nP (pc := 44) dX11_state_44 0 rfl rfl ?_
    refine xx_getR (pc := 45) 39 dX11_state_45 sh_0 fX11_74_11 rfl rfl (by decide) ?_
    refine xx_getR (pc := 48) 46 dX11_state_48 sh_39 fX11_112_5 rfl rfl (by decide) ?_
    refine xx_getN (pc := 51) dX11_state_51 sh_46 fX11_137_4 rfl ?_
    exact xx_iret (pc := 54) dX11_state_54 rfl (rfl) (Nat.le_refl _) (Nat.le_refl _) (ic_re (by rw [n3_w]; rfl))
  · refine xx_tin (pc := 1) 55 dX11_state_1 (by decide) (by decide) rfl rfl ?_
    refine xx_aload_nP (pc := 55) dX11_state_55 0 rfl rfl ?_
    refine xx_getR (pc := 56) 39 dX11_state_56 sh_0 fX11_74_11 rfl rfl (by decide) ?_
    refine xx_getN (pc := 59) dX11_state_59 sh_39 fX11_176_5 rfl ?_
    exact xx_iret (pc := 62) dX11_state_62 rfl (rfl) (Nat.le_refl _) (Nat.le_refl _) (ic_re (by rw [n2_w]; rfl))
  · refine xx_tin (pc := 1) 63 dX11_state_1 (by decide) (by decide) rfl rfl ?_
    refine xx_aload_nP (pc := 63) dX11_state_63 0 rfl rfl ?_
    refine xx_getR (pc := 64) 39 dX11_state_64 sh_0 fX11_74_11 rfl rfl (by decide) ?_
    refine xx_getN (pc := 67) dX11_state_67 sh_39 fX11_182_5 rfl ?_
    exact xx_iret (pc := 70) dX11_state_70 rfl (rfl) (Nat.le_refl _) (Nat.le_refl _) (ic_re (by rw [n5_w]; rfl))
  · refine xx_tin (pc := 1) 71 dX11_state_1 (by decide) (by decide) rfl rfl ?_
    refine xx_aload_nP (pc := 71) dX11_state_71 0 rfl rfl ?_
    refine xx_getR (pc := 72) 39 dX11_state_72 sh_0 fX11_74_11 rfl rfl (by decide) ?_
    refine xx_aload_nP (pc := 75) dX11_state_75 0 rfl rfl ?_
    refine xx_getR (pc := 76) 39 dX11_state_76 sh_0 fX11_74_11 rfl rfl (by decide) ?_
    refine xx_getR (pc := 79) 46 dX11_state_79 sh_39 fX11_112_5 rfl rfl (by decide) ?_
    refine xx_callV0 (pc := 82) (st := []) sh_39 (cC_isOver (w := w) (m := 46) (s := s) Mo_46 hm hN hIn) kX5_isOver vX11_185_5 dX11_state_82 rfl rfl (Nat.le_of_ble_eq_true rfl) ⟨Nat.le_of_ble_eq_true rfl, Nat.le_of_ble_eq_true rfl⟩ ⟨Nat.zero_le _, Nat.zero_le _⟩ (ic_ke ?_)
    refine xx_if_eqB (pc := 85) 92 dX11_state_85 rfl (fun c1 => ?_) (fun c1 => ?_)
    · refine xx_iconst (pc := 92) dX11_state_92 cc_iconst_0 ?_
      exact xx_iret (pc := 93) dX11_state_93 rfl (rfl) (Nat.le_refl _) (Nat.le_refl _) (ic_re (by show _ = ic_bo _; first | exact (ic_bo_t (by omega)).symm | exact (ic_bo_f (by omega)).symm))
    · refine xx_iconst (pc := 88) dX11_state_88 cc_iconst_1 ?_
      refine xx_goto (pc := 89) 93 dX11_state_89 rfl ?_
      exact xx_iret (pc := 93) dX11_state_93 rfl (rfl) (Nat.le_refl _) (Nat.le_refl _) (ic_re (by show _ = ic_bo _; first | exact (ic_bo_t (by omega)).symm | exact (ic_bo_f (by omega)).symm))
  · refine xx_tin (pc := 1) 94 dX11_state_1 (by decide) (by decide) rfl rfl ?_
    refine xx_aload_nP (pc := 94) dX11_state_94 0 rfl rfl ?_
    refine xx_getR (pc := 95) 39 dX11_state_95 sh_0 fX11_74_11 rfl rfl (by decide) ?_
    refine xx_getR (pc := 98) 46 dX11_state_98 sh_39 fX11_112_5 rfl rfl (by decide) ?_
    refine xx_getN (pc := 101) dX11_state_101 sh_46 fX11_189_4 rfl ?_
    exact xx_iret (pc := 104) dX11_state_104 rfl (rfl) (Nat.le_refl _) (Nat.le_refl _) (ic_re (by rw [n4_w]; rfl))
  · refine xx_tin (pc := 1) 105 dX11_state_1 (by decide) (by decide) rfl rfl ?_
    refine xx_aload_nP (pc := 105) dX11_state_105 0 rfl rfl ?_
    refine xx_getR (pc := 106) 39 dX11_state_106 sh_0 fX11_74_11 rfl rfl (by decide) ?_
    refine xx_aload_nP (pc := 109) dX11_state_109 0 rfl rfl ?_
    refine xx_getR (pc := 110) 39 dX11_state_110 sh_0 fX11_74_11 rfl rfl (by decide) ?_
    refine xx_getR (pc := 113) 46 dX11_state_113 sh_39 fX11_112_5 rfl rfl (by decide) ?_
    refine xx_getN (pc := 116) dX11_state_116 sh_46 fX11_137_4 rfl ?_
    refine xx_eqI (y := nI (s 1)) (by rw [n3_w]) ?_
    refine xx_callV0 (pc := 119) (st := []) sh_39 (cC_crowdOf (w := w) (t := s 1) (s := s) (by omega) hN) kX5_crowdOf vX11_192_5 dX11_state_119 rfl rfl (Nat.le_of_ble_eq_true rfl) ⟨Nat.le_of_ble_eq_true rfl, Nat.le_of_ble_eq_true rfl⟩ ⟨Nat.zero_le _, Nat.zero_le _⟩ (ic_ke ?_)
    exact xx_iret (pc := 122) dX11_state_122 rfl (rfl) (Nat.le_refl _) (Nat.le_refl _) (ic_re rfl)
  · refine xx_tin (pc := 1) 123 dX11_state_1 (by decide) (by decide) rfl rfl ?_
    refine xx_aload_nP (pc := 123) dX11_state_123 0 rfl rfl ?_
    refine xx_getR (pc := 124) 39 dX11_state_124 sh_0 fX11_74_11 rfl rfl (by decide) ?_
    refine xx_callV0 (pc := 127) (st := []) sh_39 (cC_atHome (w := w) (s := s) hC hIn) kX5_atHome vX11_195_5 dX11_state_127 rfl rfl (Nat.le_of_ble_eq_true rfl) ⟨Nat.le_of_ble_eq_true rfl, Nat.le_of_ble_eq_true rfl⟩ ⟨Nat.zero_le _, Nat.zero_le _⟩ (ic_ke ?_)
    exact xx_iret (pc := 130) dX11_state_130 rfl (rfl) (Nat.le_refl _) (Nat.le_refl _) (ic_re rfl)
  · refine xx_tout (pc := 1) 131 dX11_state_1 (by rw [nI_sgn (by omega)]; split <;> omega) rfl ?_
    refine xx_iconst (pc := 131) dX11_state_131 cc_iconst_m1 ?_
    exact xx_iret (pc := 132) dX11_state_132 rfl (rfl) (Nat.le_refl _) (Nat.le_refl _) (ic_re (by unfold mo_state; rw [if_neg (by omega), if_neg (by omega), if_neg (by omega), if_neg (by omega), if_neg (by omega)]))

theorem mo_go_3 (s : Nat → Nat) (act : Nat) : mo_go s act 3 = (s 3 + mo_worth s act) % 2 ^ 32 := by
  unfold mo_go
  rw [if_neg (by omega), if_pos rfl]
theorem Cw.gone {w u : ic_w} {s : Nat → Nat} {act : Nat} (h : Cw w s) (hI : In s) (ha : act ≤ 6) (g : Fm 46 w u) (hm : Cs u 46 (mo_go s act)) : Cw (wu u 39 12 (mo_go s act 3)) (mo_go s act) := by
  have hn_ : Cn u (mo_go s act) := (h.1.fm Mo_46 g).go hI ha
  refine ⟨hn_.of (wu_k _ _ _ _ (by omega)) (wu_k _ _ _ _ (by omega)) (by rw [wu_row _ _ _ (by omega)]) (fun a _ _ _ _ _ _ _ _ => wu_row _ _ _ (by omega)), hm.of (wu_row _ _ _ (by omega)) (wu_row _ _ _ (by omega)) (wu_row _ _ _ (by omega)), wu_s _ _ _ _, ?_⟩
  rw [wu_k _ _ _ _ (by omega), g 39 (by omega) (by omega) (by omega) (by omega) (by omega), mo_go_r s ha hI.n (by omega)]
  exact h.2.2.2
theorem Fm.n {w a : ic_w} (h : Fm 46 w a) : Fn w a := fun q hq => h q (by omega) (by omega) (by omega) (by omega) (by omega)
set_option maxHeartbeats 4000000 in
set_option maxRecDepth 100000 in
theorem cC_goes {l : Launch} {E : ic_E} {w : ic_w} {act : Nat} {s : Nat → Nat} (hC : Cw w s) (hIn : In s) (hRu : Ru s) (hact : act ≤ s 0) (ht_ : s 1 < s 2) : ic_C l E mX5_goes 7 0 0 False [ic_pt E 39, .int (nI act)] SHs (hn w) SHs (ic_qi (fun v_ h_ => v_ = nI (mo_worth s act) ∧ ∃ w2, h_ = hn w2 ∧ Fn w w2 ∧ Cw w2 (mo_go s act))) := by
  refine ic_intro (by decide +kernel) (Nat.le_of_ble_eq_true rfl) ?_
  show xx l E _ _ 0 [(0, ic_pt E 39), (1, .int (nI act))] _ _ _
  have hN := hC.1
  have hm := hC.2.1
  have n5_w := hC.2.2.1
  have n6_w := hC.2.2.2
  have hn0 := hIn.n
  have htt := hIn.t
  have hcr := hIn.cr (s 1)
  have n1_w : w 39 10 = s 0 := hN.n
  have n2_w : w 39 11 = s 2 := hN.e
  have n3_w : w 46 0 = s 1 := hm.t
  have n4_w : w 46 1 = mo_outs s := hm.o
  refine xx_aload_nP (pc := 0) dX5_goes_0 0 rfl rfl ?_
  refine xx_aload_nP (pc := 1) dX5_goes_1 0 rfl rfl ?_
  refine xx_getR (pc := 2) 46 dX5_goes_2 sh_39 fX5_33_5 rfl rfl (by decide) ?_
  refine xx_iload_n (pc := 5) dX5_goes_5 1 rfl rfl ?_
  have hwl_x1 := mo_worth_le hIn (act := act) (by omega)
  refine xx_callV0 (pc := 6) (st := []) sh_39 (cC_goBy (w := w) (m := 46) (act := act) (s := s) Mo_46 hm hN hIn hRu (by omega)) kX5_goBy vX5_154_5 dX5_goes_6 rfl rfl (Nat.le_of_ble_eq_true rfl) ⟨Nat.le_of_ble_eq_true rfl, Nat.le_of_ble_eq_true rfl⟩ ⟨Nat.zero_le _, Nat.zero_le _⟩ (ic_ki (fun v3 h_ qw2 => ?_))
  obtain ⟨rfl, w2, rfl, gw2, hm_w2⟩ := qw2
  have hIn_w2 : In (mo_go s act) := In_go hIn (by omega) (by omega)
  have hRu_w2 : Ru (mo_go s act) := Ru_go hRu hIn (by omega)
  have hN_w2 : Cn w2 (mo_go s act) := (hN.fm Mo_46 gw2).go hIn (by omega)
  refine xx_istore_n (L' := [(2, .int (nI (mo_worth s act))), (0, ic_pt E 39), (1, .int (nI act))]) (pc := 9) dX5_goes_9 rfl (Nat.le_of_ble_eq_true rfl) rfl ?_
  refine xx_aload_nP (pc := 10) dX5_goes_10 1 rfl rfl ?_
  refine xx_dup (pc := 11) dX5_goes_11 rfl ?_
  refine xx_getN (pc := 12) dX5_goes_12 sh_39 fX5_87_5 rfl ?_
  refine xx_iload_n (pc := 15) dX5_goes_15 0 rfl rfl ?_
  refine xx_iaddN (pc := 16) dX5_goes_16 ?_
  refine xx_eqI (y := nI (mo_go s act 3)) (by rw [mo_go_3, nI_mod, gw2 39 (by omega) (by omega) (by omega) (by omega) (by omega), n5_w]) ?_
  refine xx_putN (pc := 17) dX5_goes_17 sh_39 fX5_87_5 rfl rfl ?_
  refine xx_nw (fun w4 ew4 => ?_)
  refine xx_iload_n (pc := 20) dX5_goes_20 0 rfl rfl ?_
  exact xx_iret (pc := 21) dX5_goes_21 rfl (rfl) (Nat.le_refl _) (Nat.le_refl _) (ic_ri ⟨rfl, w4, rfl, fun a ha => by rw [ew4, wu_row _ _ _ (by omega)]; exact gw2.n a ha, by rw [ew4]; exact hC.gone hIn (by omega) gw2 hm_w2⟩)

set_option maxHeartbeats 4000000 in
set_option maxRecDepth 100000 in
theorem cC_train {l : Launch} {E : ic_E} {w : ic_w} {s : Nat → Nat} (hC : Cw w s) (hIn : In s) (hRu : Ru s) : ic_C l E mX11_train 8 0 0 False [ic_pt E 0] SHs (hn w) SHs (ic_qi (fun v_ h_ => v_ = nI (if s 2 ≤ s 1 then 4294967292 else mo_worth s (mo_rest s)) ∧ ∃ w2, h_ = hn w2 ∧ Fn w w2 ∧ Cw w2 (if s 2 ≤ s 1 then s else mo_go s (mo_rest s)))) := by
  refine ic_intro (by decide +kernel) (Nat.le_of_ble_eq_true rfl) ?_
  show xx l E _ _ 0 [(0, ic_pt E 0)] _ _ _
  have hN := hC.1
  have hm := hC.2.1
  have n5_w := hC.2.2.1
  have n6_w := hC.2.2.2
  have hn0 := hIn.n
  have htt := hIn.t
  have hcr := hIn.cr (s 1)
  have n1_w : w 39 10 = s 0 := hN.n
  have n2_w : w 39 11 = s 2 := hN.e
  have n3_w : w 46 0 = s 1 := hm.t
  have n4_w : w 46 1 = mo_outs s := hm.o
  refine xx_aload_nP (pc := 0) dX11_train_0 0 rfl rfl ?_
  refine xx_getR (pc := 1) 39 dX11_train_1 sh_0 fX11_74_11 rfl rfl (by decide) ?_
  refine xx_aload_nP (pc := 4) dX11_train_4 0 rfl rfl ?_
  refine xx_getR (pc := 5) 39 dX11_train_5 sh_0 fX11_74_11 rfl rfl (by decide) ?_
  refine xx_getR (pc := 8) 46 dX11_train_8 sh_39 fX11_112_5 rfl rfl (by decide) ?_
  refine xx_callV0 (pc := 11) (st := []) sh_39 (cC_isOver (w := w) (m := 46) (s := s) Mo_46 hm hN hIn) kX5_isOver vX11_185_5 dX11_train_11 rfl rfl (Nat.le_of_ble_eq_true rfl) ⟨Nat.le_of_ble_eq_true rfl, Nat.le_of_ble_eq_true rfl⟩ ⟨Nat.zero_le _, Nat.zero_le _⟩ (ic_ke ?_)
  refine xx_if_eqB (pc := 14) 20 dX11_train_14 rfl (fun c1 => ?_) (fun c1 => ?_)
  · refine xx_aload_nP (pc := 20) dX11_train_20 0 rfl rfl ?_
    refine xx_getR (pc := 21) 39 dX11_train_21 sh_0 fX11_74_11 rfl rfl (by decide) ?_
    refine xx_aload_nP (pc := 24) dX11_train_24 0 rfl rfl ?_
    refine xx_getR (pc := 25) 39 dX11_train_25 sh_0 fX11_74_11 rfl rfl (by decide) ?_
    refine xx_aload_nP (pc := 28) dX11_train_28 0 rfl rfl ?_
    refine xx_getR (pc := 29) 39 dX11_train_29 sh_0 fX11_74_11 rfl rfl (by decide) ?_
    refine xx_getR (pc := 32) 46 dX11_train_32 sh_39 fX11_112_5 rfl rfl (by decide) ?_
    have x2 := mo_rest_le s
    refine xx_callV0 (pc := 35) (st := [ic_pt E 39]) sh_39 (cC_actOfRest (w := w) (m := 46) (s := s)  Mo_46 hm hN hIn hRu) kX5_actOfRest vX11_216_5 dX11_train_35 rfl rfl (Nat.le_of_ble_eq_true rfl) ⟨Nat.le_of_ble_eq_true rfl, Nat.le_of_ble_eq_true rfl⟩ ⟨Nat.zero_le _, Nat.zero_le _⟩ (ic_ki (fun v4 h_ qw3 => ?_))
    obtain ⟨rfl, w3, rfl, gw3⟩ := qw3
    have hN_w3 : Cn w3 s := hN.fs gw3
    have hm_w3 : Cs w3 46 s := hm.fs Mo_46 gw3
    have n1_w3 : w3 39 10 = s 0 := hN_w3.n
    have n2_w3 : w3 39 11 = s 2 := hN_w3.e
    have n3_w3 : w3 46 0 = s 1 := hm_w3.t
    have hC_w3 := hC.fp gw3.p
    have hwl_x5 := mo_worth_le hIn (act := mo_rest s) (by omega)
    refine xx_callV0 (pc := 38) (st := []) sh_39 (cC_goes (w := w3) (act := mo_rest s) (s := s) hC_w3 hIn hRu (by omega) (by omega)) kX5_goes vX11_220_5 dX11_train_38 rfl rfl (Nat.le_of_ble_eq_true rfl) ⟨Nat.le_of_ble_eq_true rfl, Nat.le_of_ble_eq_true rfl⟩ ⟨Nat.zero_le _, Nat.zero_le _⟩ (ic_ki (fun v7 h_ qw6 => ?_))
    obtain ⟨rfl, w6, rfl, fw6, hC_w6⟩ := qw6
    exact xx_iret (pc := 41) dX11_train_41 rfl (rfl) (Nat.le_refl _) (Nat.le_refl _) (ic_ri ⟨by rw [if_neg (by omega)], w6, rfl, gw3.p.n.tr fw6, by rw [if_neg (by omega)]; exact hC_w6⟩)
  · refine xx_bipush (pc := 17) dX11_train_17 cc_bipush_m4 ?_
    exact xx_iret (pc := 19) dX11_train_19 rfl (rfl) (Nat.le_refl _) (Nat.le_refl _) (ic_ri ⟨by rw [if_pos (by omega)], w, rfl, Fn.rf w, by rw [if_pos (by omega)]; exact hC⟩)

set_option maxHeartbeats 4000000 in
set_option maxRecDepth 100000 in
theorem cC_lot {l : Launch} {E : ic_E} {w : ic_w} {s : Nat → Nat} (hC : Cw w s) (hIn : In s) (hRu : Ru s) : ic_C l E mX11_lot 8 0 0 False [ic_pt E 0] SHs (hn w) SHs (ic_qi (fun v_ h_ => v_ = nI (if s 2 ≤ s 1 then 4294967292 else mo_lw s) ∧ ∃ w2, h_ = hn w2 ∧ Fn w w2 ∧ Cw w2 (if s 2 ≤ s 1 then s else mo_lgo s))) := by
  refine ic_intro (by decide +kernel) (Nat.le_of_ble_eq_true rfl) ?_
  show xx l E _ _ 0 [(0, ic_pt E 0)] _ _ _
  have hN := hC.1
  have hm := hC.2.1
  have n5_w := hC.2.2.1
  have n6_w := hC.2.2.2
  have hn0 := hIn.n
  have htt := hIn.t
  have hcr := hIn.cr (s 1)
  have n1_w : w 39 10 = s 0 := hN.n
  have n2_w : w 39 11 = s 2 := hN.e
  have n3_w : w 46 0 = s 1 := hm.t
  have n4_w : w 46 1 = mo_outs s := hm.o
  refine xx_aload_nP (pc := 0) dX11_lot_0 0 rfl rfl ?_
  refine xx_getR (pc := 1) 39 dX11_lot_1 sh_0 fX11_74_11 rfl rfl (by decide) ?_
  refine xx_aload_nP (pc := 4) dX11_lot_4 0 rfl rfl ?_
  refine xx_getR (pc := 5) 39 dX11_lot_5 sh_0 fX11_74_11 rfl rfl (by decide) ?_
  refine xx_getR (pc := 8) 46 dX11_lot_8 sh_39 fX11_112_5 rfl rfl (by decide) ?_
  refine xx_callV0 (pc := 11) (st := []) sh_39 (cC_isOver (w := w) (m := 46) (s := s) Mo_46 hm hN hIn) kX5_isOver vX11_185_5 dX11_lot_11 rfl rfl (Nat.le_of_ble_eq_true rfl) ⟨Nat.le_of_ble_eq_true rfl, Nat.le_of_ble_eq_true rfl⟩ ⟨Nat.zero_le _, Nat.zero_le _⟩ (ic_ke ?_)
  refine xx_if_eqB (pc := 14) 20 dX11_lot_14 rfl (fun c1 => ?_) (fun c1 => ?_)
  · refine xx_aload_nP (pc := 20) dX11_lot_20 0 rfl rfl ?_
    refine xx_getR (pc := 21) 39 dX11_lot_21 sh_0 fX11_74_11 rfl rfl (by decide) ?_
    refine xx_aload_nP (pc := 24) dX11_lot_24 0 rfl rfl ?_
    refine xx_getR (pc := 25) 39 dX11_lot_25 sh_0 fX11_74_11 rfl rfl (by decide) ?_
    refine xx_getN (pc := 28) dX11_lot_28 sh_39 fX11_312_5 rfl ?_
    refine xx_callS0 (pc := 31) (st := [ic_pt E 39]) (cC_nextChance (w := w) (z := w 39 13)) kX11_nextChance sX11_315 dX11_lot_31 rfl rfl (Nat.le_of_ble_eq_true rfl) ⟨Nat.le_of_ble_eq_true rfl, Nat.le_of_ble_eq_true rfl⟩ ⟨Nat.zero_le _, Nat.zero_le _⟩ (ic_ke ?_)
    refine xx_eqI (y := nI (mo_z (s 4))) (by rw [n6_w]) ?_
    refine xx_putN (pc := 34) dX11_lot_34 sh_39 fX11_312_5 rfl rfl ?_
    refine xx_nw (fun w2 ew2 => ?_)
    have hC_w2 : Cw w2 (mo_zs s) := by rw [ew2]; exact hC.up hIn Lc_z (by omega) (by omega)
    have fz_ : Fn w w2 := fun a ha => by rw [ew2, wu_row _ _ _ (by omega)]
    have hInz := In_zs hIn
    have hRuz := Ru_zs hRu
    have hz13 : w2 39 13 = mo_z (s 4) := by rw [ew2, wu_s]
    have hzl := mo_z_lt (s 4)
    have z0 : mo_zs s 0 = s 0 := mo_zs_n s (by omega)
    have z1 : mo_zs s 1 = s 1 := mo_zs_n s (by omega)
    have z2 : mo_zs s 2 = s 2 := mo_zs_n s (by omega)
    have hzal := mo_za_le s
    refine xx_aload_nP (pc := 37) dX11_lot_37 0 rfl rfl ?_
    refine xx_getR (pc := 38) 39 dX11_lot_38 sh_0 fX11_74_11 rfl rfl (by decide) ?_
    refine xx_aload_nP (pc := 41) dX11_lot_41 0 rfl rfl ?_
    refine xx_getR (pc := 42) 39 dX11_lot_42 sh_0 fX11_74_11 rfl rfl (by decide) ?_
    refine xx_aload_nP (pc := 45) dX11_lot_45 0 rfl rfl ?_
    refine xx_getR (pc := 46) 39 dX11_lot_46 sh_0 fX11_74_11 rfl rfl (by decide) ?_
    refine xx_getN (pc := 49) dX11_lot_49 sh_39 fX11_312_5 rfl ?_
    refine xx_eqI (y := nI (mo_z (s 4))) (by rw [hz13]) ?_
    refine xx_callV0 (pc := 52) (st := [ic_pt E 39]) sh_39 (cC_actByLot (w := w2) (z := mo_z (s 4)) (s := mo_zs s) (by omega) hC_w2.1 hInz) kX5_actByLot vX11_318_5 dX11_lot_52 rfl rfl (Nat.le_of_ble_eq_true rfl) ⟨Nat.le_of_ble_eq_true rfl, Nat.le_of_ble_eq_true rfl⟩ ⟨Nat.zero_le _, Nat.zero_le _⟩ (ic_ke ?_)
    have hwl_x3 := mo_worth_le hInz (act := mo_za s) (by omega)
    refine xx_callV0 (pc := 55) (st := []) sh_39 (cC_goes (w := w2) (act := mo_za s) (s := (mo_zs s)) hC_w2 hInz hRuz (by omega) (by omega)) kX5_goes vX11_220_5 dX11_lot_55 rfl rfl (Nat.le_of_ble_eq_true rfl) ⟨Nat.le_of_ble_eq_true rfl, Nat.le_of_ble_eq_true rfl⟩ ⟨Nat.zero_le _, Nat.zero_le _⟩ (ic_ki (fun v5 h_ qw4 => ?_))
    obtain ⟨rfl, w4, rfl, fw4, hC_w4⟩ := qw4
    exact xx_iret (pc := 58) dX11_lot_58 rfl (rfl) (Nat.le_refl _) (Nat.le_refl _) (ic_ri ⟨by rw [if_neg (by omega)]; rfl, w4, rfl, fz_.tr fw4, by rw [if_neg (by omega)]; exact hC_w4⟩)
  · refine xx_bipush (pc := 17) dX11_lot_17 cc_bipush_m4 ?_
    exact xx_iret (pc := 19) dX11_lot_19 rfl (rfl) (Nat.le_refl _) (Nat.le_refl _) (ic_ri ⟨by rw [if_pos (by omega)], w, rfl, Fn.rf w, by rw [if_pos (by omega)]; exact hC⟩)

