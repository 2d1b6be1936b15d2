/-! the class: what one will do, and the act of the rest -/
set_option maxHeartbeats 4000000 in
set_option maxRecDepth 100000 in
theorem cC_will {l : Launch} {E : ic_E} {w : ic_w} {m k : Nat} {s : Nat → Nat} (hM : Mo m) (hm : Cs w m s) (hN : Cn w s) (hIn : In s) (hRu : Ru s) (hk : k < s 0) : ic_C l E mX5_will 2 0 0 False [ic_pt E 39, ic_pt E m, .int (nI k)] SHs (hn w) SHs (ic_qi (fun v_ h_ => v_ = nI (mo_will s k) ∧ ∃ w2, h_ = hn w2 ∧ Fs w w2)) := by
  refine ic_intro (by decide +kernel) (Nat.le_of_ble_eq_true rfl) ?_
  show xx l E _ _ 0 [(0, ic_pt E 39), (1, ic_pt E m), (2, .int (nI k))] _ _ _
  have hMb := hM.2.2.2
  have hn0 := hIn.n
  have htt := hIn.t
  have hcr := hIn.cr (s 1)
  have n1_w : w 39 10 = s 0 := hN.n
  have n2_w : w 39 11 = s 2 := hN.e
  have n3_w : w m 0 = s 1 := hm.t
  have hik := hIn.i (o := k) (by omega)
  have hk1 := hN.k1 hk
  have r0w := hN.r0
  have h5 := hIn.2.2.1
  have r49 : s 5 ≤ 8 := h5.1
  refine xx_aload_nP (pc := 0) dX5_will_0 0 rfl rfl ?_
  refine xx_getR (pc := 1) 49 dX5_will_1 sh_39 fX5_40_5 rfl rfl (by decide) ?_
  refine xx_getN (pc := 4) dX5_will_4 sh_49 fX5_131_10 rfl ?_
  refine xx_if_neN (pc := 7) 12 dX5_will_7 rfl (by omega) (fun c1 => ?_) (fun c1 => ?_)
  · refine xx_aload_nP (pc := 12) dX5_will_12 0 rfl rfl ?_
    refine xx_getR (pc := 13) 66 dX5_will_13 sh_39 fX5_61_5 rfl rfl (by decide) ?_
    refine xx_iconst (pc := 16) dX5_will_16 cc_iconst_0 ?_
    refine xx_aload_nP (pc := 17) dX5_will_17 1 rfl rfl ?_
    refine xx_getN (pc := 18) dX5_will_18 hM.1 fX5_99_4 rfl ?_
    refine xx_eqI (y := nI (s 1)) (by rw [hm.t]) ?_
    refine xx_iastN (pc := 21) dX5_will_21 sh_66 (by omega) (by decide) ?_
    refine xx_nw (fun w2 ew2 => ?_)
    have fw2 : Fs w w2 := fun a h1 h2 => by rw [ew2, wu_row _ _ _ h2]
    have hN_w2 : Cn w2 s := hN.fs fw2
    have hm_w2 : Cs w2 m s := hm.fs hM fw2
    have n1_w2 : w2 39 10 = s 0 := hN_w2.n
    have n2_w2 : w2 39 11 = s 2 := hN_w2.e
    have n3_w2 : w2 m 0 = s 1 := hm_w2.t
    refine xx_aload_nP (pc := 22) dX5_will_22 0 rfl rfl ?_
    refine xx_getR (pc := 23) 66 dX5_will_23 sh_39 fX5_61_5 rfl rfl (by decide) ?_
    refine xx_iconst (pc := 26) dX5_will_26 cc_iconst_1 ?_
    refine xx_aload_nP (pc := 27) dX5_will_27 1 rfl rfl ?_
    refine xx_getR (pc := 28) (m + 1) dX5_will_28 hM.1 fX5_90_4 rfl (by rfl) (by omega) ?_
    refine xx_iload_n (pc := 31) dX5_will_31 2 rfl rfl ?_
    refine xx_ialdN (pc := 32) dX5_will_32 hM.2.1 (by omega) (by decide) ?_
    refine xx_eqI (y := nI (it s k 1)) (by rw [hm_w2.d hk]) ?_
    refine xx_iastN (pc := 33) dX5_will_33 sh_66 (by omega) (by decide) ?_
    refine xx_nw (fun w3 ew3 => ?_)
    have fw3 : Fs w w3 := fun a h1 h2 => by rw [ew3, wu_row _ _ _ h2]; exact fw2 a h1 h2
    have hN_w3 : Cn w3 s := hN.fs fw3
    have hm_w3 : Cs w3 m s := hm.fs hM fw3
    have n1_w3 : w3 39 10 = s 0 := hN_w3.n
    have n2_w3 : w3 39 11 = s 2 := hN_w3.e
    have n3_w3 : w3 m 0 = s 1 := hm_w3.t
    refine xx_aload_nP (pc := 34) dX5_will_34 0 rfl rfl ?_
    refine xx_getR (pc := 35) 66 dX5_will_35 sh_39 fX5_61_5 rfl rfl (by decide) ?_
    refine xx_iconst (pc := 38) dX5_will_38 cc_iconst_2 ?_
    refine xx_aload_nP (pc := 39) dX5_will_39 0 rfl rfl ?_
    refine xx_getR (pc := 40) 44 dX5_will_40 sh_39 fX5_24_5 rfl rfl (by decide) ?_
    refine xx_iload_n (pc := 43) dX5_will_43 2 rfl rfl ?_
    refine xx_ialdN (pc := 44) dX5_will_44 sh_44 (by omega) (by decide) ?_
    refine xx_eqI (y := nI (it s k 2)) (by rw [hN_w3.ws hk]) ?_
    refine xx_iastN (pc := 45) dX5_will_45 sh_66 (by omega) (by decide) ?_
    refine xx_nw (fun w4 ew4 => ?_)
    have fw4 : Fs w w4 := fun a h1 h2 => by rw [ew4, wu_row _ _ _ h2]; exact fw3 a h1 h2
    have hN_w4 : Cn w4 s := hN.fs fw4
    have hm_w4 : Cs w4 m s := hm.fs hM fw4
    have n1_w4 : w4 39 10 = s 0 := hN_w4.n
    have n2_w4 : w4 39 11 = s 2 := hN_w4.e
    have n3_w4 : w4 m 0 = s 1 := hm_w4.t
    refine xx_aload_nP (pc := 46) dX5_will_46 0 rfl rfl ?_
    refine xx_getR (pc := 47) 66 dX5_will_47 sh_39 fX5_61_5 rfl rfl (by decide) ?_
    refine xx_iconst (pc := 50) dX5_will_50 cc_iconst_3 ?_
    refine xx_aload_nP (pc := 51) dX5_will_51 0 rfl rfl ?_
    refine xx_aload_nP (pc := 52) dX5_will_52 1 rfl rfl ?_
    refine xx_getN (pc := 53) dX5_will_53 hM.1 fX5_99_4 rfl ?_
    refine xx_callV0 (pc := 56) (st := [.int (nI 3), ic_pt E 66]) sh_39 (cC_crowdOf (w := w4) (t := w4 m 0) (s := s) (by omega) hN_w4) kX5_crowdOf vX5_115_5 dX5_will_56 rfl rfl (Nat.le_of_ble_eq_true rfl) ⟨Nat.le_of_ble_eq_true rfl, Nat.le_of_ble_eq_true rfl⟩ ⟨Nat.zero_le _, Nat.zero_le _⟩ (ic_ke ?_)
    refine xx_eqI (y := nI (mo_crowd s (s 1))) (by rw [hm_w4.t]) ?_
    refine xx_iconst (pc := 59) dX5_will_59 cc_iconst_2 ?_
    refine xx_ishrN (pc := 60) dX5_will_60 (by omega) (by omega) ?_
    refine xx_eqI (y := nI (mo_crowd s (s 1) / 4)) (rfl) ?_
    refine xx_iastN (pc := 61) dX5_will_61 sh_66 (by omega) (by decide) ?_
    refine xx_nw (fun w5 ew5 => ?_)
    have fw5 : Fs w w5 := fun a h1 h2 => by rw [ew5, wu_row _ _ _ h2]; exact fw4 a h1 h2
    have hN_w5 : Cn w5 s := hN.fs fw5
    have hm_w5 : Cs w5 m s := hm.fs hM fw5
    have n1_w5 : w5 39 10 = s 0 := hN_w5.n
    have n2_w5 : w5 39 11 = s 2 := hN_w5.e
    have n3_w5 : w5 m 0 = s 1 := hm_w5.t
    refine xx_aload_nP (pc := 62) dX5_will_62 0 rfl rfl ?_
    refine xx_getR (pc := 63) 66 dX5_will_63 sh_39 fX5_61_5 rfl rfl (by decide) ?_
    refine xx_iconst (pc := 66) dX5_will_66 cc_iconst_4 ?_
    refine xx_iload_n (pc := 67) dX5_will_67 2 rfl rfl ?_
    refine xx_iastN (pc := 68) dX5_will_68 sh_66 (by omega) (by decide) ?_
    refine xx_nw (fun w6 ew6 => ?_)
    have fw6 : Fs w w6 := fun a h1 h2 => by rw [ew6, wu_row _ _ _ h2]; exact fw5 a h1 h2
    have hN_w6 : Cn w6 s := hN.fs fw6
    have hm_w6 : Cs w6 m s := hm.fs hM fw6
    have n1_w6 : w6 39 10 = s 0 := hN_w6.n
    have n2_w6 : w6 39 11 = s 2 := hN_w6.e
    have n3_w6 : w6 m 0 = s 1 := hm_w6.t
    refine xx_iconst (pc := 69) dX5_will_69 cc_iconst_0 ?_
    refine xx_istore_n (L' := [(3, .int (nI 0)), (0, ic_pt E 39), (1, ic_pt E m), (2, .int (nI k))]) (pc := 70) dX5_will_70 rfl (Nat.le_of_ble_eq_true rfl) rfl ?_
    have hf_ : Fs w w6 := fun a h1 h2 => by rw [ew6, wu_row _ _ _ h2, ew5, wu_row _ _ _ h2, ew4, wu_row _ _ _ h2, ew3, wu_row _ _ _ h2, ew2, wu_row _ _ _ h2]
    have hKn : Kn w6 s k := by
      refine ⟨?_, ?_, ?_, ?_, ?_⟩
      · rw [ew6, wu_k _ _ _ _ (by omega), ew5, wu_k _ _ _ _ (by omega), ew4, wu_k _ _ _ _ (by omega), ew3, wu_k _ _ _ _ (by omega), ew2, wu_s]
      · rw [ew6, wu_k _ _ _ _ (by omega), ew5, wu_k _ _ _ _ (by omega), ew4, wu_k _ _ _ _ (by omega), ew3, wu_s]
      · rw [ew6, wu_k _ _ _ _ (by omega), ew5, wu_k _ _ _ _ (by omega), ew4, wu_s]
      · rw [ew6, wu_k _ _ _ _ (by omega), ew5, wu_s]
      · rw [ew6, wu_s]
    have hN_w6 : Cn w6 s := hN.fs hf_
    have hm_w6 : Cs w6 m s := hm.fs hM hf_
    have n1_w6 : w6 39 10 = s 0 := hN_w6.n
    have n2_w6 : w6 39 11 = s 2 := hN_w6.e
    have n3_w6 : w6 m 0 = s 1 := hm_w6.t
    have r0 := hN_w6.r0
    have kd_ := hN_w6.kd hk
    have lp : ∀ (n_ : Nat) (i : Nat), i ≤ s 5 → mo_will s k = mo_rule s k (s 5 - i) i → s 5 - i < n_ → xx l E (ic_fr E mX5_will 2 0 0 False SHs (ic_qi (fun v_ h_ => v_ = nI (mo_will s k) ∧ ∃ w2, h_ = hn w2 ∧ Fs w w2))) (0, 0) 71 [(3, .int (nI i)), (0, ic_pt E 39), (1, ic_pt E m), (2, .int (nI k))] [] SHs (hn w6) := by
      intro n_
      induction n_ with
      | zero => intro i hi hq hm_; exact absurd hm_ (Nat.not_lt_zero _)
      | succ n_ ih_ =>
        intro i hi hq hm_
        refine xx_iload_n (pc := 71) dX5_will_71 0 rfl rfl ?_
        refine xx_aload_nP (pc := 72) dX5_will_72 1 rfl rfl ?_
        refine xx_getR (pc := 73) 49 dX5_will_73 sh_39 fX5_40_5 rfl rfl (by decide) ?_
        refine xx_getN (pc := 76) dX5_will_76 sh_49 fX5_131_10 rfl ?_
        refine xx_icmp_geN (pc := 79) 134 dX5_will_79 rfl (by omega) (by omega) (fun c27 => ?_) (fun c27 => ?_)
        · refine xx_iconst (pc := 134) dX5_will_134 cc_iconst_0 ?_
          exact xx_iret (pc := 135) dX5_will_135 rfl (rfl) (Nat.le_refl _) (Nat.le_refl _) (ic_ri ⟨by rw [hq, show s 5 - i = 0 by omega]; rfl, w6, rfl, hf_⟩)
        · have rk_ := hN_w6.rk (i := i) (by omega)
          have ru_ := hRu.1 i (by omega)
          refine xx_aload_nP (pc := 82) dX5_will_82 1 rfl rfl ?_
          refine xx_getR (pc := 83) 43 dX5_will_83 sh_39 fX5_21_5 rfl rfl (by decide) ?_
          refine xx_iload_n (pc := 86) dX5_will_86 3 rfl rfl ?_
          refine xx_ialdN (pc := 87) dX5_will_87 sh_43 (by omega) (by decide) ?_
          refine xx_aload_nP (pc := 88) dX5_will_88 1 rfl rfl ?_
          refine xx_getR (pc := 89) 49 dX5_will_89 sh_39 fX5_40_5 rfl rfl (by decide) ?_
          refine xx_getR (pc := 92) 50 dX5_will_92 sh_49 fX5_133_10 rfl rfl (by decide) ?_
          refine xx_iload_n (pc := 95) dX5_will_95 0 rfl rfl ?_
          refine xx_ialdN (pc := 96) dX5_will_96 sh_50 (by omega) (by decide) ?_
          refine xx_callSN0 (pc := 97) (st := []) (cC_isUnder (w := w6) (own := w6 43 k) (ab := w6 50 i) (by omega) (by omega)) kX11_isUnder nX5_134 (by exact s_X11_isUnder) dX5_will_97 rfl rfl (Nat.le_of_ble_eq_true rfl) ⟨Nat.le_of_ble_eq_true rfl, Nat.le_of_ble_eq_true rfl⟩ ⟨Nat.zero_le _, Nat.zero_le _⟩ (ic_ke ?_)
          refine xx_if_eqB (pc := 100) 128 dX5_will_100 rfl (fun c28 => ?_) (fun c28 => ?_)
          · refine xx_iincN (L' := [(3, .int (nI (i + 1))), (0, ic_pt E 39), (1, ic_pt E m), (2, .int (nI k))]) (pc := 128) dX5_will_128 0 rfl cc_iconst_1 (Nat.le_of_ble_eq_true rfl) rfl ?_
            refine xx_goto (pc := 131) 71 dX5_will_131 rfl ?_
            exact xx_sub [0, 1, 2, 3] rfl (ih_ (i + 1) (by omega) (by rw [hq, show s 5 - i = (s 5 - (i + 1)) + 1 by omega, mo_rule, if_neg (by rw [kd_, rk_.1] at *; first | exact ⟨by assumption, by assumption⟩ | (intro z; first | exact absurd z.1 (by assumption) | exact absurd z.2 (by assumption)))]) (by omega))
          · refine xx_aload_nP (pc := 103) dX5_will_103 1 rfl rfl ?_
            refine xx_getR (pc := 104) 49 dX5_will_104 sh_39 fX5_40_5 rfl rfl (by decide) ?_
            refine xx_iload_n (pc := 107) dX5_will_107 0 rfl rfl ?_
            refine xx_aload_nP (pc := 108) dX5_will_108 1 rfl rfl ?_
            refine xx_getR (pc := 109) 66 dX5_will_109 sh_39 fX5_61_5 rfl rfl (by decide) ?_
            refine xx_callV0 (pc := 112) (st := []) sh_49 (cC_holds (w := w6) (s := s) (i := i) (q := k) (by omega) (by omega) hN_w6 hIn hRu hKn) kX10_holds vX5_138_10 dX5_will_112 rfl rfl (Nat.le_of_ble_eq_true rfl) ⟨Nat.le_of_ble_eq_true rfl, Nat.le_of_ble_eq_true rfl⟩ ⟨Nat.zero_le _, Nat.zero_le _⟩ (ic_ke ?_)
            refine xx_if_eqB (pc := 115) 128 dX5_will_115 rfl (fun c29 => ?_) (fun c29 => ?_)
            · refine xx_iincN (L' := [(3, .int (nI (i + 1))), (0, ic_pt E 39), (1, ic_pt E m), (2, .int (nI k))]) (pc := 128) dX5_will_128 0 rfl cc_iconst_1 (Nat.le_of_ble_eq_true rfl) rfl ?_
              refine xx_goto (pc := 131) 71 dX5_will_131 rfl ?_
              exact xx_sub [0, 1, 2, 3] rfl (ih_ (i + 1) (by omega) (by rw [hq, show s 5 - i = (s 5 - (i + 1)) + 1 by omega, mo_rule, if_neg (by rw [kd_, rk_.1] at *; first | exact ⟨by assumption, by assumption⟩ | (intro z; first | exact absurd z.1 (by assumption) | exact absurd z.2 (by assumption)))]) (by omega))
            · refine xx_aload_nP (pc := 118) dX5_will_118 1 rfl rfl ?_
              refine xx_getR (pc := 119) 49 dX5_will_119 sh_39 fX5_40_5 rfl rfl (by decide) ?_
              refine xx_getR (pc := 122) 51 dX5_will_122 sh_49 fX5_142_10 rfl rfl (by decide) ?_
              refine xx_iload_n (pc := 125) dX5_will_125 0 rfl rfl ?_
              refine xx_ialdN (pc := 126) dX5_will_126 sh_51 (by omega) (by decide) ?_
              exact xx_iret (pc := 127) dX5_will_127 rfl (rfl) (Nat.le_refl _) (Nat.le_refl _) (ic_ri ⟨by rw [hq, show s 5 - i = (s 5 - (i + 1)) + 1 by omega, mo_rule, if_pos (by rw [kd_, rk_.1] at *; first | exact ⟨by assumption, by assumption⟩ | (intro z; first | exact absurd z.1 (by assumption) | exact absurd z.2 (by assumption))), rk_.2.1], w6, rfl, hf_⟩)
    exact xx_sub [0, 1, 2, 3] rfl (lp (s 5 + 1) 0 (by omega) rfl (by omega))
  · refine xx_iconst (pc := 10) dX5_will_10 cc_iconst_0 ?_
    exact xx_iret (pc := 11) dX5_will_11 rfl (rfl) (Nat.le_refl _) (Nat.le_refl _) (ic_ri ⟨by unfold mo_will; rw [show s 5 = 0 by omega]; rfl, w, rfl, Fs.rf w⟩)

set_option maxHeartbeats 4000000 in
set_option maxRecDepth 100000 in
theorem cC_deed {l : Launch} {E : ic_E} {w : ic_w} {m k : Nat} {s : Nat → Nat} (hM : Mo m) (hm : Cs w m s) (hN : Cn w s) (hIn : In s) (hRu : Ru s) (hk : k < s 0) : ic_C l E mX5_deed 4 0 0 False [ic_pt E 39, ic_pt E m, .int (nI k)] SHs (hn w) SHs (ic_qi (fun v_ h_ => v_ = nI (mo_deed s k) ∧ ∃ w2, h_ = hn w2 ∧ Fs w w2)) := by
  refine ic_intro (by decide +kernel) (Nat.le_of_ble_eq_true rfl) ?_
  show xx l E _ _ 0 [(0, ic_pt E 39), (1, ic_pt E m), (2, .int (nI k))] _ _ _
  have hMb := hM.2.2.2
  have hn0 := hIn.n
  have htt := hIn.t
  have hcr := hIn.cr (s 1)
  have n1_w : w 39 10 = s 0 := hN.n
  have n2_w : w 39 11 = s 2 := hN.e
  have n3_w : w m 0 = s 1 := hm.t
  have hik := hIn.i (o := k) (by omega)
  have hk1 := hN.k1 hk
  refine xx_aload_nP (pc := 0) dX5_deed_0 1 rfl rfl ?_
  refine xx_iload_n (pc := 1) dX5_deed_1 2 rfl rfl ?_
  refine xx_callV0 (pc := 2) (st := []) hM.1 (cC_isOut (w := w) (m := m) (s := s) (k := k) hM hm (by omega) hIn) kX4_isOut vX5_102_4 dX5_deed_2 rfl rfl (Nat.le_of_ble_eq_true rfl) ⟨Nat.le_of_ble_eq_true rfl, Nat.le_of_ble_eq_true rfl⟩ ⟨Nat.zero_le _, Nat.zero_le _⟩ (ic_ke ?_)
  refine xx_if_eqB (pc := 5) 10 dX5_deed_5 rfl (fun c1 => ?_) (fun c1 => ?_)
  · refine xx_aload_nP (pc := 10) dX5_deed_10 0 rfl rfl ?_
    refine xx_aload_nP (pc := 11) dX5_deed_11 1 rfl rfl ?_
    refine xx_iload_n (pc := 12) dX5_deed_12 2 rfl rfl ?_
    have x2 := mo_will_le hRu k
    refine xx_callV0 (pc := 13) (st := []) sh_39 (cC_will (w := w) (m := m) (s := s) (k := k) hM hm hN hIn hRu (by omega)) kX5_will vX5_145_5 dX5_deed_13 rfl rfl (Nat.le_of_ble_eq_true rfl) ⟨Nat.le_of_ble_eq_true rfl, Nat.le_of_ble_eq_true rfl⟩ ⟨Nat.zero_le _, Nat.zero_le _⟩ (ic_ki (fun v4 h_ qw3 => ?_))
    obtain ⟨rfl, w3, rfl, gw3⟩ := qw3
    have hN_w3 : Cn w3 s := hN.fs gw3
    have hm_w3 : Cs w3 m s := hm.fs hM gw3
    have n1_w3 : w3 39 10 = s 0 := hN_w3.n
    have n2_w3 : w3 39 11 = s 2 := hN_w3.e
    have n3_w3 : w3 m 0 = s 1 := hm_w3.t
    refine xx_istore_n (L' := [(3, .int (nI (mo_will s k))), (0, ic_pt E 39), (1, ic_pt E m), (2, .int (nI k))]) (pc := 16) dX5_deed_16 rfl (Nat.le_of_ble_eq_true rfl) rfl ?_
    refine xx_iload_n (pc := 17) dX5_deed_17 0 rfl rfl ?_
    refine xx_if_neN (pc := 18) 34 dX5_deed_18 rfl (by omega) (fun c5 => ?_) (fun c5 => ?_)
    · refine xx_iload_n (pc := 34) dX5_deed_34 0 rfl rfl ?_
      exact xx_iret (pc := 35) dX5_deed_35 rfl (rfl) (Nat.le_refl _) (Nat.le_refl _) (ic_ri ⟨by unfold mo_deed; rw [if_neg (by omega)]; first | exact congrArg nI (if_pos (by omega)).symm | exact congrArg nI (if_neg (by omega)).symm, w3, rfl, gw3⟩)
    · refine xx_aload_nP (pc := 21) dX5_deed_21 1 rfl rfl ?_
      refine xx_aload_nP (pc := 22) dX5_deed_22 2 rfl rfl ?_
      refine xx_iload_n (pc := 23) dX5_deed_23 3 rfl rfl ?_
      have hpl_x6 := mo_pays_le hIn (o := k) (by omega)
      refine xx_callV0 (pc := 24) (st := []) sh_39 (cC_pays (w := w3) (m := m) (s := s) (k := k) hM hm_w3 hN_w3 hIn (by omega)) kX5_pays vX5_149_5 dX5_deed_24 rfl rfl (Nat.le_of_ble_eq_true rfl) ⟨Nat.le_of_ble_eq_true rfl, Nat.le_of_ble_eq_true rfl⟩ ⟨Nat.zero_le _, Nat.zero_le _⟩ (ic_ke ?_)
      refine xx_if_neN (pc := 27) 34 dX5_deed_27 rfl (by omega) (fun c7 => ?_) (fun c7 => ?_)
      · refine xx_iload_n (pc := 34) dX5_deed_34 0 rfl rfl ?_
        exact xx_iret (pc := 35) dX5_deed_35 rfl (rfl) (Nat.le_refl _) (Nat.le_refl _) (ic_ri ⟨by unfold mo_deed; rw [if_neg (by omega)]; first | exact congrArg nI (if_pos (by omega)).symm | exact congrArg nI (if_neg (by omega)).symm, w3, rfl, gw3⟩)
      · refine xx_iconst (pc := 30) dX5_deed_30 cc_iconst_2 ?_
        refine xx_goto (pc := 31) 35 dX5_deed_31 rfl ?_
        exact xx_iret (pc := 35) dX5_deed_35 rfl (rfl) (Nat.le_refl _) (Nat.le_refl _) (ic_ri ⟨by unfold mo_deed; rw [if_neg (by omega)]; first | exact congrArg nI (if_pos (by omega)).symm | exact congrArg nI (if_neg (by omega)).symm, w3, rfl, gw3⟩)
  · refine xx_iconst (pc := 8) dX5_deed_8 cc_iconst_2 ?_
    exact xx_iret (pc := 9) dX5_deed_9 rfl (rfl) (Nat.le_refl _) (Nat.le_refl _) (ic_ri ⟨by unfold mo_deed; rw [if_pos (by omega)], w, rfl, Fs.rf w⟩)

def mo_idle (s : Nat → Nat) : Nat := mo_set (fun q => decide (mo_deed s q = 2)) (s 0)
set_option maxHeartbeats 4000000 in
set_option maxRecDepth 100000 in
theorem cC_idlers {l : Launch} {E : ic_E} {w : ic_w} {m : Nat} {s : Nat → Nat} (hM : Mo m) (hm : Cs w m s) (hN : Cn w s) (hIn : In s) (hRu : Ru s) : ic_C l E mX5_idlers 5 0 0 False [ic_pt E 39, ic_pt E m] SHs (hn w) SHs (ic_qi (fun v_ h_ => v_ = nI (mo_idle s) ∧ ∃ w2, h_ = hn w2 ∧ Fs w w2)) := by
  refine ic_intro (by decide +kernel) (Nat.le_of_ble_eq_true rfl) ?_
  show xx l E _ _ 0 [(0, ic_pt E 39), (1, ic_pt E m)] _ _ _
  have hMb := hM.2.2.2
  have hn0 := hIn.n
  have htt := hIn.t
  have hcr := hIn.cr (s 1)
  have n1_w : w 39 10 = s 0 := hN.n
  have n2_w : w 39 11 = s 2 := hN.e
  have n3_w : w m 0 = s 1 := hm.t
  have lp : ∀ (n_ : Nat) (q c : Nat) (u : ic_w), q ≤ s 0 → c = mo_set (fun q => decide (mo_deed s q = 2)) q → Fs w u → s 0 - q < n_ → xx l E (ic_fr E mX5_idlers 5 0 0 False SHs (ic_qi (fun v_ h_ => v_ = nI (mo_idle s) ∧ ∃ w2, h_ = hn w2 ∧ Fs w w2))) (0, 0) 4 [(3, .int (nI q)), (2, .int (nI c)), (0, ic_pt E 39), (1, ic_pt E m)] [] SHs (hn u) := by
    intro n_
    induction n_ with
    | zero => intro q c u hq hc hf hm_; exact absurd hm_ (Nat.not_lt_zero _)
    | succ n_ ih_ =>
      intro q c u hq hc hf hm_
      have hN_u : Cn u s := hN.fs hf
      have hm_u : Cs u m s := hm.fs hM hf
      have n1_u : u 39 10 = s 0 := hN_u.n
      have n2_u : u 39 11 = s 2 := hN_u.e
      have n3_u : u m 0 = s 1 := hm_u.t
      refine xx_iload_n (pc := 4) dX5_idlers_4 0 rfl rfl ?_
      refine xx_aload_nP (pc := 5) dX5_idlers_5 2 rfl rfl ?_
      refine xx_getN (pc := 6) dX5_idlers_6 sh_39 fX5_84_5 rfl ?_
      refine xx_icmp_geN (pc := 9) 34 dX5_idlers_9 rfl (by omega) (by omega) (fun c1 => ?_) (fun c1 => ?_)
      · refine xx_iload_n (pc := 34) dX5_idlers_34 1 rfl rfl ?_
        exact xx_iret (pc := 35) dX5_idlers_35 rfl (rfl) (Nat.le_refl _) (Nat.le_refl _) (ic_ri ⟨by rw [hc, show q = s 0 by omega]; rfl, u, rfl, hf⟩)
      · refine xx_aload_nP (pc := 12) dX5_idlers_12 2 rfl rfl ?_
        refine xx_aload_nP (pc := 13) dX5_idlers_13 3 rfl rfl ?_
        refine xx_iload_n (pc := 14) dX5_idlers_14 0 rfl rfl ?_
        have x2 := mo_deed_le hRu q
        refine xx_callV0 (pc := 15) (st := []) sh_39 (cC_deed (w := u) (m := m) (s := s) (k := q) hM hm_u hN_u hIn hRu (by omega)) kX5_deed vX5_152_5 dX5_idlers_15 rfl rfl (Nat.le_of_ble_eq_true rfl) ⟨Nat.le_of_ble_eq_true rfl, Nat.le_of_ble_eq_true rfl⟩ ⟨Nat.zero_le _, Nat.zero_le _⟩ (ic_ki (fun v4 h_ qw3 => ?_))
        obtain ⟨rfl, w3, rfl, gw3⟩ := qw3
        have hN_w3 : Cn w3 s := hN_u.fs gw3
        have hm_w3 : Cs w3 m s := hm_u.fs hM gw3
        have n1_w3 : w3 39 10 = s 0 := hN_w3.n
        have n2_w3 : w3 39 11 = s 2 := hN_w3.e
        have n3_w3 : w3 m 0 = s 1 := hm_w3.t
        refine xx_iconst (pc := 18) dX5_idlers_18 cc_iconst_2 ?_
        refine xx_icmp_neN (pc := 19) 28 dX5_idlers_19 rfl (by omega) (by omega) (fun c5 => ?_) (fun c5 => ?_)
        · refine xx_iincN (L' := [(3, .int (nI (q + 1))), (2, .int (nI c)), (0, ic_pt E 39), (1, ic_pt E m)]) (pc := 28) dX5_idlers_28 0 rfl cc_iconst_1 (Nat.le_of_ble_eq_true rfl) rfl ?_
          refine xx_goto (pc := 31) 4 dX5_idlers_31 rfl ?_
          exact xx_sub [0, 1, 2, 3] rfl (ih_ (q + 1) _ w3 (by omega) (by rw [hc]; exact (mo_set_f (by simp; omega)).symm) (hf.tr gw3) (by omega))
        · refine xx_iload_n (pc := 22) dX5_idlers_22 1 rfl rfl ?_
          refine xx_iconst (pc := 23) dX5_idlers_23 cc_iconst_1 ?_
          refine xx_iload_n (pc := 24) dX5_idlers_24 0 rfl rfl ?_
          refine xx_ishlN (pc := 25) dX5_idlers_25 (by omega) (by have hp2 := mo_p2 (n := q) (by omega); omega) ?_
          refine xx_iorN (pc := 26) dX5_idlers_26 ?_
          refine xx_istore_n (L' := [(2, .int (nI (c ||| (1 * 2 ^ q)))), (3, .int (nI q)), (0, ic_pt E 39), (1, ic_pt E m)]) (pc := 27) dX5_idlers_27 rfl (Nat.le_of_ble_eq_true rfl) rfl ?_
          refine xx_iincN (L' := [(3, .int (nI (q + 1))), (2, .int (nI (c ||| (1 * 2 ^ q)))), (0, ic_pt E 39), (1, ic_pt E m)]) (pc := 28) dX5_idlers_28 1 rfl cc_iconst_1 (Nat.le_of_ble_eq_true rfl) rfl ?_
          refine xx_goto (pc := 31) 4 dX5_idlers_31 rfl ?_
          exact xx_sub [0, 1, 2, 3] rfl (ih_ (q + 1) _ w3 (by omega) (by rw [hc]; rw [Nat.one_mul]; exact (mo_set_t (by simp; omega)).symm) (hf.tr gw3) (by omega))
  refine xx_iconst (pc := 0) dX5_idlers_0 cc_iconst_0 ?_
  refine xx_istore_n (L' := [(2, .int (nI 0)), (0, ic_pt E 39), (1, ic_pt E m)]) (pc := 1) dX5_idlers_1 rfl (Nat.le_of_ble_eq_true rfl) rfl ?_
  refine xx_iconst (pc := 2) dX5_idlers_2 cc_iconst_0 ?_
  refine xx_istore_n (L' := [(3, .int (nI 0)), (2, .int (nI 0)), (0, ic_pt E 39), (1, ic_pt E m)]) (pc := 3) dX5_idlers_3 rfl (Nat.le_of_ble_eq_true rfl) rfl ?_
  exact xx_sub [0, 1, 2, 3] rfl (lp (s 0 + 1) 0 0 w (by omega) rfl (Fs.rf w) (by omega))

set_option maxHeartbeats 4000000 in
set_option maxRecDepth 100000 in
theorem cC_actOfRest {l : Launch} {E : ic_E} {w : ic_w} {m : Nat} {s : Nat → Nat} (hM : Mo m) (hm : Cs w m s) (hN : Cn w s) (hIn : In s) (hRu : Ru s) : ic_C l E mX5_actOfRest 5 0 0 False [ic_pt E 39, ic_pt E m] SHs (hn w) SHs (ic_qi (fun v_ h_ => v_ = nI (mo_rest s) ∧ ∃ w2, h_ = hn w2 ∧ Fs w w2)) := by
  refine ic_intro (by decide +kernel) (Nat.le_of_ble_eq_true rfl) ?_
  show xx l E _ _ 0 [(0, ic_pt E 39), (1, ic_pt E m)] _ _ _
  have hMb := hM.2.2.2
  have hn0 := hIn.n
  have htt := hIn.t
  have hcr := hIn.cr (s 1)
  have n1_w : w 39 10 = s 0 := hN.n
  have n2_w : w 39 11 = s 2 := hN.e
  have n3_w : w m 0 = s 1 := hm.t
  have lp : ∀ (n_ : Nat) (q : Nat) (u : ic_w), q ≤ s 0 → mo_rest s = mo_restN s (s 0 - q) q → Fs w u → s 0 - q < n_ → xx l E (ic_fr E mX5_actOfRest 5 0 0 False SHs (ic_qi (fun v_ h_ => v_ = nI (mo_rest s) ∧ ∃ w2, h_ = hn w2 ∧ Fs w w2))) (0, 0) 2 [(2, .int (nI q)), (0, ic_pt E 39), (1, ic_pt E m)] [] SHs (hn u) := by
    intro n_
    induction n_ with
    | zero => intro q u hq hc hf hm_; exact absurd hm_ (Nat.not_lt_zero _)
    | succ n_ ih_ =>
      intro q u hq hc hf hm_
      have hN_u : Cn u s := hN.fs hf
      have hm_u : Cs u m s := hm.fs hM hf
      have n1_u : u 39 10 = s 0 := hN_u.n
      have n2_u : u 39 11 = s 2 := hN_u.e
      have n3_u : u m 0 = s 1 := hm_u.t
      refine xx_iload_n (pc := 2) dX5_actOfRest_2 0 rfl rfl ?_
      refine xx_aload_nP (pc := 3) dX5_actOfRest_3 1 rfl rfl ?_
      refine xx_getN (pc := 4) dX5_actOfRest_4 sh_39 fX5_84_5 rfl ?_
      refine xx_icmp_geN (pc := 7) 29 dX5_actOfRest_7 rfl (by omega) (by omega) (fun c1 => ?_) (fun c1 => ?_)
      · refine xx_iconst (pc := 29) dX5_actOfRest_29 cc_iconst_0 ?_
        exact xx_iret (pc := 30) dX5_actOfRest_30 rfl (rfl) (Nat.le_refl _) (Nat.le_refl _) (ic_ri ⟨by rw [hc, show s 0 - q = 0 by omega]; rfl, u, rfl, hf⟩)
      · refine xx_aload_nP (pc := 10) dX5_actOfRest_10 1 rfl rfl ?_
        refine xx_aload_nP (pc := 11) dX5_actOfRest_11 2 rfl rfl ?_
        refine xx_iload_n (pc := 12) dX5_actOfRest_12 0 rfl rfl ?_
        have x2 := mo_deed_le hRu q
        refine xx_callV0 (pc := 13) (st := []) sh_39 (cC_deed (w := u) (m := m) (s := s) (k := q) hM hm_u hN_u hIn hRu (by omega)) kX5_deed vX5_152_5 dX5_actOfRest_13 rfl rfl (Nat.le_of_ble_eq_true rfl) ⟨Nat.le_of_ble_eq_true rfl, Nat.le_of_ble_eq_true rfl⟩ ⟨Nat.zero_le _, Nat.zero_le _⟩ (ic_ki (fun v4 h_ qw3 => ?_))
        obtain ⟨rfl, w3, rfl, gw3⟩ := qw3
        have hN_w3 : Cn w3 s := hN_u.fs gw3
        have hm_w3 : Cs w3 m s := hm_u.fs hM gw3
        have n1_w3 : w3 39 10 = s 0 := hN_w3.n
        have n2_w3 : w3 39 11 = s 2 := hN_w3.e
        have n3_w3 : w3 m 0 = s 1 := hm_w3.t
        refine xx_if_neN (pc := 16) 23 dX5_actOfRest_16 rfl (by omega) (fun c5 => ?_) (fun c5 => ?_)
        · refine xx_iincN (L' := [(2, .int (nI (q + 1))), (0, ic_pt E 39), (1, ic_pt E m)]) (pc := 23) dX5_actOfRest_23 0 rfl cc_iconst_1 (Nat.le_of_ble_eq_true rfl) rfl ?_
          refine xx_goto (pc := 26) 2 dX5_actOfRest_26 rfl ?_
          exact xx_sub [0, 1, 2] rfl (ih_ (q + 1) w3 (by omega) (by rw [hc, show s 0 - q = (s 0 - (q + 1)) + 1 by omega, mo_restN, if_neg (fun z => absurd ((mo_deed_0 (hIn.i (o := q) (by omega)).2.2.2.2.1).mpr z) (by omega))]) (hf.tr gw3) (by omega))
        · refine xx_iload_n (pc := 19) dX5_actOfRest_19 0 rfl rfl ?_
          refine xx_iconst (pc := 20) dX5_actOfRest_20 cc_iconst_1 ?_
          refine xx_iaddN (pc := 21) dX5_actOfRest_21 ?_
          exact xx_iret (pc := 22) dX5_actOfRest_22 rfl (rfl) (Nat.le_refl _) (Nat.le_refl _) (ic_ri ⟨by rw [hc, show s 0 - q = (s 0 - (q + 1)) + 1 by omega, mo_restN, if_pos ((mo_deed_0 (hIn.i (o := q) (by omega)).2.2.2.2.1).mp (by omega))], w3, rfl, hf.tr gw3⟩)
  refine xx_iconst (pc := 0) dX5_actOfRest_0 cc_iconst_0 ?_
  refine xx_istore_n (L' := [(2, .int (nI 0)), (0, ic_pt E 39), (1, ic_pt E m)]) (pc := 1) dX5_actOfRest_1 rfl (Nat.le_of_ble_eq_true rfl) rfl ?_
  exact xx_sub [0, 1, 2] rfl (lp (s 0 + 1) 0 w (by omega) rfl (Fs.rf w) (by omega))

set_option maxHeartbeats 4000000 in
set_option maxRecDepth 100000 in
theorem cC_actByLot {l : Launch} {E : ic_E} {w : ic_w} {z : Nat} {s : Nat → Nat} (hz : z < 2 ^ 32) (hN : Cn w s) (hIn : In s) : ic_C l E mX5_actByLot 1 0 0 False [ic_pt E 39, .int (nI z)] SHs (hn w) SHs (ic_qe (nI (z / 2 ^ 16 % (s 0 + 1))) (hn w)) := by
  refine ic_intro (by decide +kernel) (Nat.le_of_ble_eq_true rfl) ?_
  show xx l E _ _ 0 [(0, ic_pt E 39), (1, .int (nI z))] _ _ _
  have hn0 := hIn.n
  have n1 := hN.n
  refine xx_iload_n (pc := 0) dX5_actByLot_0 1 rfl rfl ?_
  refine xx_bipush (pc := 1) dX5_actByLot_1 cc_bipush_16 ?_
  refine xx_iushrN (pc := 3) dX5_actByLot_3 (by omega) (by omega) ?_
  refine xx_aload_nP (pc := 4) dX5_actByLot_4 0 rfl rfl ?_
  refine xx_getN (pc := 5) dX5_actByLot_5 sh_39 fX5_84_5 rfl ?_
  refine xx_iconst (pc := 8) dX5_actByLot_8 cc_iconst_1 ?_
  refine xx_iaddN (pc := 9) dX5_actByLot_9 ?_
  refine xx_eqI (y := nI (s 0 + 1)) (by rw [n1]) ?_
  refine xx_iremN (pc := 10) dX5_actByLot_10 (by omega) (by omega) (by omega) ?_
  exact xx_iret (pc := 11) dX5_actByLot_11 rfl (rfl) (Nat.le_refl _) (Nat.le_refl _) (ic_re rfl)

set_option maxHeartbeats 4000000 in
set_option maxRecDepth 100000 in
theorem cC_fullest {l : Launch} {E : ic_E} {w : ic_w} {m : Nat} {s : Nat → Nat} (hM : Mo m) (hm : Cs w m s) (hN : Cn w s) (hIn : In s) : ic_C l E mX5_fullest 3 0 0 False [ic_pt E 39, ic_pt E m] SHs (hn w) SHs (ic_qi (fun v_ h_ => v_ = nI (mo_am (mo_many s) 5) ∧ ∃ w2, h_ = hn w2 ∧ Fs w w2 ∧ ∀ f, f < 6 → w2 65 f = mo_many s f)) := by
  refine ic_intro (by decide +kernel) (Nat.le_of_ble_eq_true rfl) ?_
  show xx l E _ _ 0 [(0, ic_pt E 39), (1, ic_pt E m)] _ _ _
  have hMb := hM.2.2.2
  have hn0 := hIn.n
  have htt := hIn.t
  have hcr := hIn.cr (s 1)
  have n1_w : w 39 10 = s 0 := hN.n
  have n2_w : w 39 11 = s 2 := hN.e
  have n3_w : w m 0 = s 1 := hm.t
  refine xx_aload_nP (pc := 0) dX5_fullest_0 0 rfl rfl ?_
  refine xx_aload_nP (pc := 1) dX5_fullest_1 1 rfl rfl ?_
  refine xx_callV0 (pc := 2) (st := []) sh_39 (cC_count (w := w) (m := m) (s := s) hM hm hN hIn) kX5_count vX5_106_5 dX5_fullest_2 rfl rfl (Nat.le_of_ble_eq_true rfl) ⟨Nat.le_of_ble_eq_true rfl, Nat.le_of_ble_eq_true rfl⟩ ⟨Nat.zero_le _, Nat.zero_le _⟩ (ic_kv (fun h_ qw1 => ?_))
  obtain ⟨w1, rfl, kw1, cw1⟩ := qw1
  have gw1 : Fs w w1 := fun a h1 _ => kw1 a h1
  have hN_w1 : Cn w1 s := hN.fs gw1
  have hm_w1 : Cs w1 m s := hm.fs hM gw1
  have n1_w1 : w1 39 10 = s 0 := hN_w1.n
  have n2_w1 : w1 39 11 = s 2 := hN_w1.e
  have n3_w1 : w1 m 0 = s 1 := hm_w1.t
  refine xx_iconst (pc := 5) dX5_fullest_5 cc_iconst_0 ?_
  refine xx_istore_n (L' := [(2, .int (nI 0)), (0, ic_pt E 39), (1, ic_pt E m)]) (pc := 6) dX5_fullest_6 rfl (Nat.le_of_ble_eq_true rfl) rfl ?_
  refine xx_iconst (pc := 7) dX5_fullest_7 cc_iconst_1 ?_
  refine xx_istore_n (L' := [(3, .int (nI 1)), (2, .int (nI 0)), (0, ic_pt E 39), (1, ic_pt E m)]) (pc := 8) dX5_fullest_8 rfl (Nat.le_of_ble_eq_true rfl) rfl ?_
  have lp : ∀ (n_ : Nat) (f b : Nat), 1 ≤ f ∧ f ≤ 6 → b = mo_am (mo_many s) (f - 1) → 6 - f < n_ → xx l E (ic_fr E mX5_fullest 3 0 0 False SHs (ic_qi (fun v_ h_ => v_ = nI (mo_am (mo_many s) 5) ∧ ∃ w2, h_ = hn w2 ∧ Fs w w2 ∧ ∀ f, f < 6 → w2 65 f = mo_many s f))) (0, 0) 9 [(3, .int (nI f)), (2, .int (nI b)), (0, ic_pt E 39), (1, ic_pt E m)] [] SHs (hn w1) := by
    intro n_
    induction n_ with
    | zero => intro f b h1 hb hm_; exact absurd hm_ (Nat.not_lt_zero _)
    | succ n_ ih_ =>
      intro f b h1 hb hm_
      have hbl := mo_am_le (mo_many s) (f - 1)
      have hb5 := cw1 b (by omega)
      have hf5 : f < 6 → w1 65 f = mo_many s f := fun z => cw1 f z
      have l1 := mo_many_le hIn f
      have l2 := mo_many_le hIn b
      refine xx_iload_n (pc := 9) dX5_fullest_9 0 rfl rfl ?_
      refine xx_bipush (pc := 10) dX5_fullest_10 cc_bipush_6 ?_
      refine xx_icmp_geN (pc := 12) 38 dX5_fullest_12 rfl (by omega) (by omega) (fun c23 => ?_) (fun c23 => ?_)
      · refine xx_iload_n (pc := 38) dX5_fullest_38 1 rfl rfl ?_
        exact xx_iret (pc := 39) dX5_fullest_39 rfl (rfl) (Nat.le_refl _) (Nat.le_refl _) (ic_ri ⟨by rw [hb, show f - 1 = 5 by omega], w1, rfl, gw1, cw1⟩)
      · have hf6 := hf5 (by omega)
        refine xx_aload_nP (pc := 15) dX5_fullest_15 2 rfl rfl ?_
        refine xx_getR (pc := 16) 65 dX5_fullest_16 sh_39 fX5_58_5 rfl rfl (by decide) ?_
        refine xx_iload_n (pc := 19) dX5_fullest_19 0 rfl rfl ?_
        refine xx_ialdN (pc := 20) dX5_fullest_20 sh_65 (by omega) (by decide) ?_
        refine xx_aload_nP (pc := 21) dX5_fullest_21 2 rfl rfl ?_
        refine xx_getR (pc := 22) 65 dX5_fullest_22 sh_39 fX5_58_5 rfl rfl (by decide) ?_
        refine xx_iload_n (pc := 25) dX5_fullest_25 1 rfl rfl ?_
        refine xx_ialdN (pc := 26) dX5_fullest_26 sh_65 (by omega) (by decide) ?_
        refine xx_icmp_leN (pc := 27) 32 dX5_fullest_27 rfl (by omega) (by omega) (fun c24 => ?_) (fun c24 => ?_)
        · refine xx_iincN (L' := [(3, .int (nI (f + 1))), (2, .int (nI b)), (0, ic_pt E 39), (1, ic_pt E m)]) (pc := 32) dX5_fullest_32 0 rfl cc_iconst_1 (Nat.le_of_ble_eq_true rfl) rfl ?_
          refine xx_goto (pc := 35) 9 dX5_fullest_35 rfl ?_
          exact xx_sub [0, 1, 2, 3] rfl (ih_ (f + 1) _ (by omega) (by rw [show f + 1 - 1 = (f - 1) + 1 by omega, mo_am, show f - 1 + 1 = f by omega, ← hb]; exact (if_neg (by omega)).symm) (by omega))
        · refine xx_iload_n (pc := 30) dX5_fullest_30 0 rfl rfl ?_
          refine xx_istore_n (L' := [(2, .int (nI f)), (3, .int (nI f)), (0, ic_pt E 39), (1, ic_pt E m)]) (pc := 31) dX5_fullest_31 rfl (Nat.le_of_ble_eq_true rfl) rfl ?_
          refine xx_iincN (L' := [(3, .int (nI (f + 1))), (2, .int (nI f)), (0, ic_pt E 39), (1, ic_pt E m)]) (pc := 32) dX5_fullest_32 1 rfl cc_iconst_1 (Nat.le_of_ble_eq_true rfl) rfl ?_
          refine xx_goto (pc := 35) 9 dX5_fullest_35 rfl ?_
          exact xx_sub [0, 1, 2, 3] rfl (ih_ (f + 1) _ (by omega) (by rw [show f + 1 - 1 = (f - 1) + 1 by omega, mo_am, show f - 1 + 1 = f by omega, ← hb]; exact (if_pos (by omega)).symm) (by omega))
  exact xx_sub [0, 1, 2, 3] rfl (lp 6 1 0 (by omega) rfl (by omega))

