/-! the class: times -/
theorem mo_lgo_4 {s : Nat → Nat} (h : In s) : mo_lgo s 4 = mo_z (s 4) := by
  have hz := mo_za_le s
  have h0 := h.n
  unfold mo_lgo
  rw [mo_go_r _ (by omega) (In_zs h).n (by omega)]
  exact fu_s _ _ _
set_option maxHeartbeats 4000000 in
set_option maxRecDepth 100000 in
theorem cC_times {l : Launch} {E : ic_E} {w : ic_w} {n : Nat} (hn_ : n < 2 ^ 32) {v : Nat} (hv_ : v < 2 ^ 32) {s : Nat → Nat} (hC : Cw w s) (hIn : In s) (hRu : Ru s) : ic_C l E mX11_times 8 0 0 False [ic_pt E 0, .int (nI n), .int (nI v)] SHs (hn w) SHs (ic_qi (fun v_ h_ => v_ = nI (if (1 ≤ n ∧ n ≤ 40) ∧ v ≤ 999 then mo_times s n v else 4294967295) ∧ ∃ w2, h_ = hn w2 ∧ Fp w w2)) := by
  refine ic_intro (by decide +kernel) (Nat.le_of_ble_eq_true rfl) ?_
  show xx l E _ _ 0 [(0, ic_pt E 0), (1, .int (nI n)), (2, .int (nI v))] _ _ _
  have hN := hC.1
  have hm := hC.2.1
  have n5_w := hC.2.2.1
  have n6_w := hC.2.2.2
  have hn0 := hIn.n
  have htt := hIn.t
  have hcr := hIn.cr (s 1)
  have n1_w : w 39 10 = s 0 := hN.n
  have n2_w : w 39 11 = s 2 := hN.e
  have n3_w : w 46 0 = s 1 := hm.t
  have n4_w : w 46 1 = mo_outs s := hm.o
  refine xx_iload_n (pc := 0) dX11_times_0 1 rfl rfl ?_
  refine xx_iconst (pc := 1) dX11_times_1 cc_iconst_1 ?_
  refine xx_bipush (pc := 2) dX11_times_2 cc_bipush_40 ?_
  refine xx_callS0 (pc := 4) (st := []) (cC_within (w := w) (v := n) (lo := 1) (hi := 40) (by omega) (by omega) (by omega)) kX11_within sX11_94 dX11_times_4 rfl rfl (Nat.le_of_ble_eq_true rfl) ⟨Nat.le_of_ble_eq_true rfl, Nat.le_of_ble_eq_true rfl⟩ ⟨Nat.zero_le _, Nat.zero_le _⟩ (ic_ke ?_)
  refine xx_if_eqB (pc := 7) 21 dX11_times_7 rfl (fun c1 => ?_) (fun c1 => ?_)
  · refine xx_iconst (pc := 21) dX11_times_21 cc_iconst_m1 ?_
    exact xx_iret (pc := 22) dX11_times_22 rfl (rfl) (Nat.le_refl _) (Nat.le_refl _) (ic_ri ⟨by rw [if_neg (by omega)], w, rfl, Fp.rf w⟩)
  · refine xx_iload_n (pc := 10) dX11_times_10 2 rfl rfl ?_
    refine xx_iconst (pc := 11) dX11_times_11 cc_iconst_0 ?_
    refine xx_sipush (pc := 12) dX11_times_12 cc_sipush_999 ?_
    refine xx_callS0 (pc := 15) (st := []) (cC_within (w := w) (v := v) (lo := 0) (hi := 999) (by omega) (by omega) (by omega)) kX11_within sX11_94 dX11_times_15 rfl rfl (Nat.le_of_ble_eq_true rfl) ⟨Nat.le_of_ble_eq_true rfl, Nat.le_of_ble_eq_true rfl⟩ ⟨Nat.zero_le _, Nat.zero_le _⟩ (ic_ke ?_)
    refine xx_if_neB (pc := 18) 23 dX11_times_18 rfl (fun c2 => ?_) (fun c2 => ?_)
    · refine xx_iconst (pc := 23) dX11_times_23 cc_iconst_0 ?_
      refine xx_istore_n (L' := [(3, .int (nI 0)), (0, ic_pt E 0), (1, .int (nI n)), (2, .int (nI v))]) (pc := 24) dX11_times_24 rfl (Nat.le_of_ble_eq_true rfl) rfl ?_
      refine xx_aload_nP (pc := 25) dX11_times_25 1 rfl rfl ?_
      refine xx_getR (pc := 26) 39 dX11_times_26 sh_0 fX11_74_11 rfl rfl (by decide) ?_
      refine xx_getN (pc := 29) dX11_times_29 sh_39 fX11_312_5 rfl ?_
      refine xx_istore (L' := [(4, .int (nI (w 39 13))), (3, .int (nI 0)), (0, ic_pt E 0), (1, .int (nI n)), (2, .int (nI v))]) (pc := 32) dX11_times_32 (Nat.le_of_ble_eq_true rfl) rfl ?_
      refine xx_iconst (pc := 34) dX11_times_34 cc_iconst_0 ?_
      refine xx_istore (L' := [(5, .int (nI 0)), (4, .int (nI (w 39 13))), (3, .int (nI 0)), (0, ic_pt E 0), (1, .int (nI n)), (2, .int (nI v))]) (pc := 35) dX11_times_35 (Nat.le_of_ble_eq_true rfl) rfl ?_
      have lp : ∀ (n_ : Nat) (k z c : Nat) (u : ic_w), k ≤ n → c = mo_cnt (fun k => decide (v ≤ mo_lsum 16 (fu s 4 (mo_tz s k)))) k → z = mo_tz s k → Fp w u → z < 2 ^ 32 → n - k < n_ → xx l E (ic_fr E mX11_times 8 0 0 False SHs (ic_qi (fun v_ h_ => v_ = nI (if (1 ≤ n ∧ n ≤ 40) ∧ v ≤ 999 then mo_times s n v else 4294967295) ∧ ∃ w2, h_ = hn w2 ∧ Fp w w2))) (0, 0) 37 [(5, .int (nI k)), (4, .int (nI z)), (3, .int (nI c)), (0, ic_pt E 0), (1, .int (nI n)), (2, .int (nI v))] [] SHs (hn u) := by
        intro n_
        induction n_ with
        | zero => intro k z c u hk hc hz hf hzl hm_; exact absurd hm_ (Nat.not_lt_zero _)
        | succ n_ ih_ =>
          intro k z c u hk hc hz hf hzl hm_
          have hC_u := hC.fp hf
          have hcl := mo_cnt_le (fun k => decide (v ≤ mo_lsum 16 (fu s 4 (mo_tz s k)))) k
          refine xx_iload (pc := 37) dX11_times_37 0 rfl ?_
          refine xx_iload_n (pc := 39) dX11_times_39 4 rfl rfl ?_
          refine xx_icmp_geN (pc := 40) 137 dX11_times_40 rfl (by omega) (by omega) (fun c23 => ?_) (fun c23 => ?_)
          · refine xx_iload_n (pc := 137) dX11_times_137 2 rfl rfl ?_
            exact xx_iret (pc := 138) dX11_times_138 rfl (rfl) (Nat.le_refl _) (Nat.le_refl _) (ic_ri ⟨by rw [if_pos (by omega), hc, show k = n by omega]; rfl, u, rfl, hf⟩)
          · refine xx_aload_nP (pc := 43) dX11_times_43 3 rfl rfl ?_
            refine xx_getR (pc := 44) 1 dX11_times_44 sh_0 fX11_10_11 rfl rfl (by decide) ?_
            refine xx_aload_nP (pc := 47) dX11_times_47 3 rfl rfl ?_
            refine xx_getR (pc := 48) 39 dX11_times_48 sh_0 fX11_74_11 rfl rfl (by decide) ?_
            refine xx_getR (pc := 51) 46 dX11_times_51 sh_39 fX11_112_5 rfl rfl (by decide) ?_
            refine xx_callV0 (pc := 54) (st := []) sh_1 (cC_mbecome (w := u) (m := 1) (p := 46) Mo_1 Mo_46 (by omega)) kX4_become vX11_226_4 dX11_times_54 rfl rfl (Nat.le_of_ble_eq_true rfl) ⟨Nat.le_of_ble_eq_true rfl, Nat.le_of_ble_eq_true rfl⟩ ⟨Nat.zero_le _, Nat.zero_le _⟩ (ic_kv (fun h_ qw24 => ?_))
            obtain ⟨w24, rfl, b0, b1, bj, gb⟩ := qw24
            have hf_w24 : Fp u w24 := ⟨fun a ha => gb a (by omega) (by omega) (by omega), by rw [gb 55 (by omega) (by omega) (by omega)]⟩
            have hm_w24 : Cs w24 1 s := Cs.bc hC_u.2.1 hIn b0 b1 bj
            have hN_w24 : Cn w24 s := hC_u.1.fp hf_w24
            refine xx_iconst (pc := 57) dX11_times_57 cc_iconst_0 ?_
            refine xx_istore (L' := [(6, .int (nI 0)), (5, .int (nI k)), (4, .int (nI z)), (3, .int (nI c)), (0, ic_pt E 0), (1, .int (nI n)), (2, .int (nI v))]) (pc := 58) dX11_times_58 (Nat.le_of_ble_eq_true rfl) rfl ?_
            refine xx_iconst (pc := 60) dX11_times_60 cc_iconst_0 ?_
            refine xx_istore (L' := [(7, .int (nI 0)), (6, .int (nI 0)), (5, .int (nI k)), (4, .int (nI z)), (3, .int (nI c)), (0, ic_pt E 0), (1, .int (nI n)), (2, .int (nI v))]) (pc := 61) dX11_times_61 (Nat.le_of_ble_eq_true rfl) rfl ?_
            have lq : ∀ (n_i : Nat) (i g y m : Nat) (t : Nat → Nat) (x : ic_w), i ≤ 16 ∧ m = 16 - i → y = t 4 → mo_lsum 16 (fu s 4 (mo_tz s k)) = g + mo_lsum m t → mo_lrun 16 (fu s 4 (mo_tz s k)) = mo_lrun m t → g ≤ 33 * i → Cn x t → Cs x 1 t → In t → Ru t → y < 2 ^ 32 → Fp u x → 16 - i < n_i → xx l E (ic_fr E mX11_times 8 0 0 False SHs (ic_qi (fun v_ h_ => v_ = nI (if (1 ≤ n ∧ n ≤ 40) ∧ v ≤ 999 then mo_times s n v else 4294967295) ∧ ∃ w2, h_ = hn w2 ∧ Fp w w2))) (0, 0) 63 [(7, .int (nI i)), (6, .int (nI g)), (4, .int (nI y)), (3, .int (nI c)), (5, .int (nI k)), (0, ic_pt E 0), (1, .int (nI n)), (2, .int (nI v))] [] SHs (hn x) := by
              intro n_i
              induction n_i with
              | zero => intro i g y m t x hi hy hsum hrun hg hN_x hm_x hIn_x hRu_x hzl hx_ hm_i; exact absurd hm_i (Nat.not_lt_zero _)
              | succ n_i ih_i =>
                intro i g y m t x hi hy hsum hrun hg hN_x hm_x hIn_x hRu_x hzl hx_ hm_i
                have n1_x : x 39 10 = t 0 := hN_x.n
                have n2_x : x 39 11 = t 2 := hN_x.e
                have n3_x : x 1 0 = t 1 := hm_x.t
                have tn0_x := hIn_x.n
                have ttt_x := hIn_x.t
                have tza_x := mo_za_le t
                have hcl := mo_cnt_le (fun k => decide (v ≤ mo_lsum 16 (fu s 4 (mo_tz s k)))) k
                refine xx_iload (pc := 63) dX11_times_63 0 rfl ?_
                refine xx_bipush (pc := 65) dX11_times_65 cc_bipush_16 ?_
                refine xx_icmp_geN (pc := 67) 122 dX11_times_67 rfl (by omega) (by omega) (fun c46 => ?_) (fun c46 => ?_)
                · have hz_ : mo_lsum m t = 0 ∧ mo_lrun m t = t := by rw [show m = 0 by omega]; exact ⟨rfl, rfl⟩
                  refine xx_iload (pc := 122) dX11_times_122 1 rfl ?_
                  refine xx_iload_n (pc := 124) dX11_times_124 7 rfl rfl ?_
                  refine xx_icmp_ltN (pc := 125) 131 dX11_times_125 rfl (by omega) (by omega) (fun c47 => ?_) (fun c47 => ?_)
                  · refine xx_iincN (L' := [(5, .int (nI (k + 1))), (7, .int (nI i)), (6, .int (nI g)), (4, .int (nI y)), (3, .int (nI c)), (0, ic_pt E 0), (1, .int (nI n)), (2, .int (nI v))]) (pc := 131) dX11_times_131 4 rfl cc_iconst_1 (Nat.le_of_ble_eq_true rfl) rfl ?_
                    refine xx_goto (pc := 134) 37 dX11_times_134 rfl ?_
                    exact xx_sub [0, 3, 4, 5, 6, 7] rfl (ih_ (k + 1) _ (c) x (by omega) (by rw [hc]; exact (mo_cnt_f (decide_eq_false (by omega))).symm) (by rw [mo_tz, hrun, hz_.2, hy]) (hf.tr hx_) hzl (by omega))
                  · refine xx_iincN (L' := [(3, .int (nI (c + 1))), (7, .int (nI i)), (6, .int (nI g)), (4, .int (nI y)), (5, .int (nI k)), (0, ic_pt E 0), (1, .int (nI n)), (2, .int (nI v))]) (pc := 128) dX11_times_128 3 rfl cc_iconst_1 (Nat.le_of_ble_eq_true rfl) rfl ?_
                    refine xx_iincN (L' := [(5, .int (nI (k + 1))), (3, .int (nI (c + 1))), (7, .int (nI i)), (6, .int (nI g)), (4, .int (nI y)), (0, ic_pt E 0), (1, .int (nI n)), (2, .int (nI v))]) (pc := 131) dX11_times_131 4 rfl cc_iconst_1 (Nat.le_of_ble_eq_true rfl) rfl ?_
                    refine xx_goto (pc := 134) 37 dX11_times_134 rfl ?_
                    exact xx_sub [0, 4, 1, 5, 6, 7] rfl (ih_ (k + 1) _ (c + 1) x (by omega) (by rw [hc]; exact (mo_cnt_t (decide_eq_true (by omega))).symm) (by rw [mo_tz, hrun, hz_.2, hy]) (hf.tr hx_) hzl (by omega))
                · refine xx_aload_nP (pc := 70) dX11_times_70 5 rfl rfl ?_
                  refine xx_getR (pc := 71) 39 dX11_times_71 sh_0 fX11_74_11 rfl rfl (by decide) ?_
                  refine xx_aload_nP (pc := 74) dX11_times_74 5 rfl rfl ?_
                  refine xx_getR (pc := 75) 1 dX11_times_75 sh_0 fX11_10_11 rfl rfl (by decide) ?_
                  refine xx_callV0 (pc := 78) (st := []) sh_39 (cC_isOver (w := x) (m := 1) (s := t) Mo_1 hm_x hN_x hIn_x) kX5_isOver vX11_185_5 dX11_times_78 rfl rfl (Nat.le_of_ble_eq_true rfl) ⟨Nat.le_of_ble_eq_true rfl, Nat.le_of_ble_eq_true rfl⟩ ⟨Nat.zero_le _, Nat.zero_le _⟩ (ic_ke ?_)
                  refine xx_if_neB (pc := 81) 122 dX11_times_81 rfl (fun c48 => ?_) (fun c48 => ?_)
                  · have hz_ : mo_lsum m t = 0 ∧ mo_lrun m t = t := ⟨mo_lsum_e (by omega), mo_lrun_e (by omega)⟩
                    refine xx_iload (pc := 122) dX11_times_122 1 rfl ?_
                    refine xx_iload_n (pc := 124) dX11_times_124 7 rfl rfl ?_
                    refine xx_icmp_ltN (pc := 125) 131 dX11_times_125 rfl (by omega) (by omega) (fun c49 => ?_) (fun c49 => ?_)
                    · refine xx_iincN (L' := [(5, .int (nI (k + 1))), (7, .int (nI i)), (6, .int (nI g)), (4, .int (nI y)), (3, .int (nI c)), (0, ic_pt E 0), (1, .int (nI n)), (2, .int (nI v))]) (pc := 131) dX11_times_131 4 rfl cc_iconst_1 (Nat.le_of_ble_eq_true rfl) rfl ?_
                      refine xx_goto (pc := 134) 37 dX11_times_134 rfl ?_
                      exact xx_sub [0, 3, 4, 5, 6, 7] rfl (ih_ (k + 1) _ (c) x (by omega) (by rw [hc]; exact (mo_cnt_f (decide_eq_false (by omega))).symm) (by rw [mo_tz, hrun, hz_.2, hy]) (hf.tr hx_) hzl (by omega))
                    · refine xx_iincN (L' := [(3, .int (nI (c + 1))), (7, .int (nI i)), (6, .int (nI g)), (4, .int (nI y)), (5, .int (nI k)), (0, ic_pt E 0), (1, .int (nI n)), (2, .int (nI v))]) (pc := 128) dX11_times_128 3 rfl cc_iconst_1 (Nat.le_of_ble_eq_true rfl) rfl ?_
                      refine xx_iincN (L' := [(5, .int (nI (k + 1))), (3, .int (nI (c + 1))), (7, .int (nI i)), (6, .int (nI g)), (4, .int (nI y)), (0, ic_pt E 0), (1, .int (nI n)), (2, .int (nI v))]) (pc := 131) dX11_times_131 4 rfl cc_iconst_1 (Nat.le_of_ble_eq_true rfl) rfl ?_
                      refine xx_goto (pc := 134) 37 dX11_times_134 rfl ?_
                      exact xx_sub [0, 4, 1, 5, 6, 7] rfl (ih_ (k + 1) _ (c + 1) x (by omega) (by rw [hc]; exact (mo_cnt_t (decide_eq_true (by omega))).symm) (by rw [mo_tz, hrun, hz_.2, hy]) (hf.tr hx_) hzl (by omega))
                  · refine xx_iload (pc := 84) dX11_times_84 2 rfl ?_
                    refine xx_callS0 (pc := 86) (st := []) (cC_nextChance (w := x) (z := y)) kX11_nextChance sX11_315 dX11_times_86 rfl rfl (Nat.le_of_ble_eq_true rfl) ⟨Nat.le_of_ble_eq_true rfl, Nat.le_of_ble_eq_true rfl⟩ ⟨Nat.zero_le _, Nat.zero_le _⟩ (ic_ke ?_)
                    refine xx_istore (L' := [(4, .int (nI (mo_z y))), (7, .int (nI i)), (6, .int (nI g)), (3, .int (nI c)), (5, .int (nI k)), (0, ic_pt E 0), (1, .int (nI n)), (2, .int (nI v))]) (pc := 89) dX11_times_89 (Nat.le_of_ble_eq_true rfl) rfl ?_
                    refine xx_iload (pc := 91) dX11_times_91 2 rfl ?_
                    refine xx_aload_nP (pc := 93) dX11_times_93 5 rfl rfl ?_
                    refine xx_getR (pc := 94) 39 dX11_times_94 sh_0 fX11_74_11 rfl rfl (by decide) ?_
                    refine xx_aload_nP (pc := 97) dX11_times_97 5 rfl rfl ?_
                    refine xx_getR (pc := 98) 1 dX11_times_98 sh_0 fX11_10_11 rfl rfl (by decide) ?_
                    refine xx_aload_nP (pc := 101) dX11_times_101 5 rfl rfl ?_
                    refine xx_getR (pc := 102) 39 dX11_times_102 sh_0 fX11_74_11 rfl rfl (by decide) ?_
                    refine xx_iload (pc := 105) dX11_times_105 0 rfl ?_
                    refine xx_callV0 (pc := 107) (st := [ic_pt E 1, ic_pt E 39, .int (nI g)]) sh_39 (cC_actByLot (w := x) (z := mo_z y) (s := t) (mo_z_lt _) hN_x hIn_x) kX5_actByLot vX11_318_5 dX11_times_107 rfl rfl (Nat.le_of_ble_eq_true rfl) ⟨Nat.le_of_ble_eq_true rfl, Nat.le_of_ble_eq_true rfl⟩ ⟨Nat.zero_le _, Nat.zero_le _⟩ (ic_ke ?_)
                    refine xx_eqI (y := nI (mo_za t)) (by rw [hy]; rfl) ?_
                    have z0_ : mo_zs t 0 = t 0 := mo_zs_n t (by omega)
                    have z1_ : mo_zs t 1 = t 1 := mo_zs_n t (by omega)
                    have z2_ : mo_zs t 2 = t 2 := mo_zs_n t (by omega)
                    have hwl_ : mo_lw t ≤ 33 := mo_worth_le (In_zs hIn_x) (by omega)
                    refine xx_callV0 (pc := 110) (st := [.int (nI g)]) sh_39 (cC_goBy (w := x) (m := 1) (act := mo_za t) (s := mo_zs t) Mo_1 (hm_x.e (fun j hj => mo_zs_n t hj)) (hN_x.z hIn_x (fun j hj => mo_zs_n t hj)) (In_zs hIn_x) (Ru_zs hRu_x) (by omega)) kX5_goBy vX11_229_5 dX11_times_110 rfl rfl (Nat.le_of_ble_eq_true rfl) ⟨Nat.le_of_ble_eq_true rfl, Nat.le_of_ble_eq_true rfl⟩ ⟨Nat.zero_le _, Nat.zero_le _⟩ (ic_ki (fun v51 h_ qw50 => ?_))
                    obtain ⟨rfl, w50, rfl, gw50, hm_w50⟩ := qw50
                    have hIn_w50 : In (mo_lgo t) := In_go (In_zs hIn_x) (by omega) (by omega)
                    have hRu_w50 : Ru (mo_lgo t) := Ru_go (Ru_zs hRu_x) (In_zs hIn_x) (by omega)
                    have hN_w50 : Cn w50 (mo_lgo t) := ((hN_x.z hIn_x (fun j hj => mo_zs_n t hj)).fm Mo_1 gw50).go (In_zs hIn_x) (by omega)
                    refine xx_iaddN (pc := 113) dX11_times_113 ?_
                    refine xx_istore (L' := [(6, .int (nI (g + (mo_lw t)))), (4, .int (nI (mo_z y))), (7, .int (nI i)), (3, .int (nI c)), (5, .int (nI k)), (0, ic_pt E 0), (1, .int (nI n)), (2, .int (nI v))]) (pc := 114) dX11_times_114 (Nat.le_of_ble_eq_true rfl) rfl ?_
                    refine xx_iincN (L' := [(7, .int (nI (i + 1))), (6, .int (nI (g + (mo_lw t)))), (4, .int (nI (mo_z y))), (3, .int (nI c)), (5, .int (nI k)), (0, ic_pt E 0), (1, .int (nI n)), (2, .int (nI v))]) (pc := 116) dX11_times_116 2 rfl cc_iconst_1 (Nat.le_of_ble_eq_true rfl) rfl ?_
                    refine xx_goto (pc := 119) 63 dX11_times_119 rfl ?_
                    have z0_ : mo_zs t 0 = t 0 := mo_zs_n t (by omega)
                    exact xx_sub [0, 1, 2, 3, 4, 5, 6, 7] rfl (ih_i (i + 1) _ _ (m - 1) (mo_lgo t) w50 (by omega) (by rw [hy]; exact (mo_lgo_4 hIn_x).symm) (by rw [hsum, show m = (m - 1) + 1 by omega, mo_lsum, if_neg (by omega), Nat.add_sub_cancel]; omega) (by rw [hrun, show m = (m - 1) + 1 by omega, mo_lrun, if_neg (by omega), Nat.add_sub_cancel]) (by omega) hN_w50 hm_w50 hIn_w50 hRu_w50 (mo_z_lt _) (hx_.tr (gw50.p (by omega))) (by omega))
            have hfe : ∀ j, j ≠ 4 → (fu s 4 (mo_tz s k)) j = s j := fun j hj => fu_n _ hj
            exact xx_sub [0, 1, 3, 4, 2, 5, 6, 7] rfl (lq 17 0 0 _ 16 (fu s 4 (mo_tz s k)) w24 (by omega) (by rw [hz]; exact (fu_s _ _ _).symm) (by rw [Nat.zero_add]) rfl (by omega) (hN_w24.z hIn hfe) (hm_w24.e hfe) (In_z hIn (by rw [← hz]; exact hzl)) (Ru_z hRu) hzl hf_w24 (by omega))
      exact xx_sub [0, 1, 2, 3, 4, 5] rfl (lp (n + 1) 0 _ 0 w (by omega) rfl (by rw [n6_w]; rfl) (Fp.rf w) (by rw [n6_w]; exact hIn.2.2.2.2.2.2 4 (by omega)) (by omega))
    · refine xx_iconst (pc := 21) dX11_times_21 cc_iconst_m1 ?_
      exact xx_iret (pc := 22) dX11_times_22 rfl (rfl) (Nat.le_refl _) (Nat.le_refl _) (ic_ri ⟨by rw [if_neg (by omega)], w, rfl, Fp.rf w⟩)

