set_option maxHeartbeats 4000000 in
set_option maxRecDepth 100000 in
theorem cM_manyAt {l : Launch} {E : ic_E} {w : ic_w} {f : Nat} (hf : f < 6) (hI : In (w 115)) : ic_C l E mX12_manyAt 2 0 0 False [ic_pt E 114, .int (nI f)] SHs (hn w) SHs (ic_qe (nI (mo_many (w 115) f)) (hn w)) := by
  refine ic_intro (by decide +kernel) (Nat.le_of_ble_eq_true rfl) ?_
  show xx l E _ _ 0 [(0, ic_pt E 114), (1, .int (nI f))] _ _ _
  have hn0 := hI.n
  have lp : ∀ (n_ : Nat) (q c : Nat), q ≤ w 115 0 → c = mo_cnt (fun o => decide (it (w 115) o 4 = 0 ∧ it (w 115) o 5 = f)) q → w 115 0 - q < n_ → xx l E (ic_fr E mX12_manyAt 2 0 0 False SHs (ic_qe (nI (mo_many (w 115) f)) (hn w))) (0, 0) 4 [(3, .int (nI q)), (2, .int (nI c)), (0, ic_pt E 114), (1, .int (nI f))] [] SHs (hn w) := by
    intro n_
    induction n_ with
    | zero => intro q c hq hc hm_; exact absurd hm_ (Nat.not_lt_zero _)
    | succ n_ ih_ =>
      intro q c hq hc hm_
      have hcl := mo_cnt_le (fun o => decide (it (w 115) o 4 = 0 ∧ it (w 115) o 5 = f)) q
      refine xx_iload_n (pc := 4) dX12_manyAt_4 0 rfl rfl ?_
      refine xx_aload_nP (pc := 5) dX12_manyAt_5 2 rfl rfl ?_
      refine xx_getR (pc := 6) 115 dX12_manyAt_6 sh_114 fX12_7_12 rfl rfl (by decide) ?_
      refine xx_iconst (pc := 9) dX12_manyAt_9 cc_iconst_0 ?_
      refine xx_ialdN (pc := 10) dX12_manyAt_10 sh_115 (by omega) (by decide) ?_
      refine xx_icmp_geN (pc := 11) 47 dX12_manyAt_11 rfl (by omega) (by omega) (fun c1 => ?_) (fun c1 => ?_)
      · refine xx_iload_n (pc := 47) dX12_manyAt_47 1 rfl rfl ?_
        exact xx_iret (pc := 48) dX12_manyAt_48 rfl (rfl) (Nat.le_refl _) (Nat.le_refl _) (ic_re (by rw [hc, show q = w 115 0 by omega]; rfl))
      · have hq5 := hI.i (o := q) (by omega)
        refine xx_iload_n (pc := 14) dX12_manyAt_14 1 rfl rfl ?_
        refine xx_aload_nP (pc := 15) dX12_manyAt_15 2 rfl rfl ?_
        refine xx_iload_n (pc := 16) dX12_manyAt_16 0 rfl rfl ?_
        refine xx_iconst (pc := 17) dX12_manyAt_17 cc_iconst_4 ?_
        refine xx_callV0 (pc := 18) (st := [.int (nI c)]) sh_114 (cM_its (w := w) (o := q) (k := 4) (by omega) (by omega)) kX12_its vX12_82_12 dX12_manyAt_18 rfl rfl (Nat.le_of_ble_eq_true rfl) ⟨Nat.le_of_ble_eq_true rfl, Nat.le_of_ble_eq_true rfl⟩ ⟨Nat.zero_le _, Nat.zero_le _⟩ (ic_ke ?_)
        refine xx_if_neN (pc := 21) 38 dX12_manyAt_21 rfl (by omega) (fun c2 => ?_) (fun c2 => ?_)
        · refine xx_iconst (pc := 38) dX12_manyAt_38 cc_iconst_0 ?_
          refine xx_iaddN (pc := 39) dX12_manyAt_39 ?_
          refine xx_istore_n (L' := [(2, .int (nI (c + 0))), (3, .int (nI q)), (0, ic_pt E 114), (1, .int (nI f))]) (pc := 40) dX12_manyAt_40 rfl (Nat.le_of_ble_eq_true rfl) rfl ?_
          refine xx_iincN (L' := [(3, .int (nI (q + 1))), (2, .int (nI (c + 0))), (0, ic_pt E 114), (1, .int (nI f))]) (pc := 41) dX12_manyAt_41 1 rfl cc_iconst_1 (Nat.le_of_ble_eq_true rfl) rfl ?_
          refine xx_goto (pc := 44) 4 dX12_manyAt_44 rfl ?_
          exact xx_sub [0, 1, 2, 3] rfl (ih_ (q + 1) _ (by omega) (by rw [hc]; exact (mo_cnt_f (by simp; intros; simp_all)).symm) (by omega))
        · refine xx_aload_nP (pc := 24) dX12_manyAt_24 2 rfl rfl ?_
          refine xx_iload_n (pc := 25) dX12_manyAt_25 0 rfl rfl ?_
          refine xx_iconst (pc := 26) dX12_manyAt_26 cc_iconst_5 ?_
          refine xx_callV0 (pc := 27) (st := [.int (nI c)]) sh_114 (cM_its (w := w) (o := q) (k := 5) (by omega) (by omega)) kX12_its vX12_82_12 dX12_manyAt_27 rfl rfl (Nat.le_of_ble_eq_true rfl) ⟨Nat.le_of_ble_eq_true rfl, Nat.le_of_ble_eq_true rfl⟩ ⟨Nat.zero_le _, Nat.zero_le _⟩ (ic_ke ?_)
          refine xx_iload_n (pc := 30) dX12_manyAt_30 3 rfl rfl ?_
          refine xx_icmp_neN (pc := 31) 38 dX12_manyAt_31 rfl (by omega) (by omega) (fun c3 => ?_) (fun c3 => ?_)
          · refine xx_iconst (pc := 38) dX12_manyAt_38 cc_iconst_0 ?_
            refine xx_iaddN (pc := 39) dX12_manyAt_39 ?_
            refine xx_istore_n (L' := [(2, .int (nI (c + 0))), (3, .int (nI q)), (0, ic_pt E 114), (1, .int (nI f))]) (pc := 40) dX12_manyAt_40 rfl (Nat.le_of_ble_eq_true rfl) rfl ?_
            refine xx_iincN (L' := [(3, .int (nI (q + 1))), (2, .int (nI (c + 0))), (0, ic_pt E 114), (1, .int (nI f))]) (pc := 41) dX12_manyAt_41 1 rfl cc_iconst_1 (Nat.le_of_ble_eq_true rfl) rfl ?_
            refine xx_goto (pc := 44) 4 dX12_manyAt_44 rfl ?_
            exact xx_sub [0, 1, 2, 3] rfl (ih_ (q + 1) _ (by omega) (by rw [hc]; exact (mo_cnt_f (by simp; intros; simp_all)).symm) (by omega))
          · refine xx_iconst (pc := 34) dX12_manyAt_34 cc_iconst_1 ?_
            refine xx_goto (pc := 35) 39 dX12_manyAt_35 rfl ?_
            refine xx_iaddN (pc := 39) dX12_manyAt_39 ?_
            refine xx_istore_n (L' := [(2, .int (nI (c + 1))), (3, .int (nI q)), (0, ic_pt E 114), (1, .int (nI f))]) (pc := 40) dX12_manyAt_40 rfl (Nat.le_of_ble_eq_true rfl) rfl ?_
            refine xx_iincN (L' := [(3, .int (nI (q + 1))), (2, .int (nI (c + 1))), (0, ic_pt E 114), (1, .int (nI f))]) (pc := 41) dX12_manyAt_41 1 rfl cc_iconst_1 (Nat.le_of_ble_eq_true rfl) rfl ?_
            refine xx_goto (pc := 44) 4 dX12_manyAt_44 rfl ?_
            exact xx_sub [0, 1, 2, 3] rfl (ih_ (q + 1) _ (by omega) (by rw [hc]; exact (mo_cnt_t (by simp [*])).symm) (by omega))
  refine xx_iconst (pc := 0) dX12_manyAt_0 cc_iconst_0 ?_
  refine xx_istore_n (L' := [(2, .int (nI 0)), (0, ic_pt E 114), (1, .int (nI f))]) (pc := 1) dX12_manyAt_1 rfl (Nat.le_of_ble_eq_true rfl) rfl ?_
  refine xx_iconst (pc := 2) dX12_manyAt_2 cc_iconst_0 ?_
  refine xx_istore_n (L' := [(3, .int (nI 0)), (2, .int (nI 0)), (0, ic_pt E 114), (1, .int (nI f))]) (pc := 3) dX12_manyAt_3 rfl (Nat.le_of_ble_eq_true rfl) rfl ?_
  exact xx_sub [0, 1, 2, 3] rfl (lp (w 115 0 + 1) 0 0 (by omega) rfl (by omega))

theorem mo_many_le {s : Nat → Nat} (h : In s) (f : Nat) : mo_many s f ≤ 6 := Nat.le_trans (mo_cnt_le _ _) h.n
def mo_press (s : Nat → Nat) (n k : Nat) : Nat := if k = 0 then mo_am (mo_many (mo_itn s n)) 5 else mo_many (mo_itn s n) (mo_am (mo_many (mo_itn s n)) 5)
theorem mo_itn_n {s : Nat → Nat} : ∀ (n : Nat) (s : Nat → Nat), In s → Ru s → In (mo_itn s n)
  | 0, _, h, _ => h
  | n + 1, s, h, r => by
    rw [mo_itn]
    split
    · exact h
    · have h1 := mo_rest_le s
      have h0 := h.n
      exact mo_itn_n (s := s) n _ (In_go h (by omega) (by omega)) (Ru_go r h (by omega))
set_option maxHeartbeats 4000000 in
set_option maxRecDepth 100000 in
theorem cM_press {l : Launch} {E : ic_E} {w : ic_w} {n : Nat} (hn_ : n < 2 ^ 32) {a : Nat} (ha_ : a < 2 ^ 32) (hI : In (w 115)) (hR : Ru (w 115)) : ic_C l E mX12_press 8 0 0 False [ic_pt E 114, .int (nI n), .int (nI a)] SHs (hn w) SHs (ic_qi (fun v_ h_ => v_ = nI (if n ≤ 16 ∧ a ≤ 1 then mo_press (w 115) n a else 4294967295) ∧ ∃ w2, h_ = hn w2 ∧ mo_sc w w2)) := by
  refine ic_intro (by decide +kernel) (Nat.le_of_ble_eq_true rfl) ?_
  show xx l E _ _ 0 [(0, ic_pt E 114), (1, .int (nI n)), (2, .int (nI a))] _ _ _
  refine xx_iload_n (pc := 0) dX12_press_0 1 rfl rfl ?_
  refine xx_i2l (pc := 1) dX12_press_1 ?_
  refine xx_lconst (v := 0) (pc := 2) dX12_press_2 rfl ?_
  refine xx_ldc2 (v := 16) (pc := 3) dX12_press_3 oX12_138 ?_
  refine xx_callS0 (pc := 6) (st := []) (cM_isIn (0 ≤ n ∧ n ≤ 16) (ll_in (lo := 0) (hi := 16) (by omega) (by decide) (by decide) (by omega))) kX12_isIn sX12_66 dX12_press_6 rfl rfl (Nat.le_of_ble_eq_true rfl) ⟨Nat.le_of_ble_eq_true rfl, Nat.le_of_ble_eq_true rfl⟩ ⟨Nat.zero_le _, Nat.zero_le _⟩ (ic_ke ?_)
  refine xx_if_eqB (pc := 9) 22 dX12_press_9 rfl (fun c1 => ?_) (fun c1 => ?_)
  · refine xx_iconst (pc := 22) dX12_press_22 cc_iconst_m1 ?_
    exact xx_iret (pc := 23) dX12_press_23 rfl (rfl) (Nat.le_refl _) (Nat.le_refl _) (ic_ri ⟨by rw [if_neg (by omega)], w, rfl, fun _ _ _ => rfl⟩)
  · refine xx_iload_n (pc := 12) dX12_press_12 2 rfl rfl ?_
    refine xx_i2l (pc := 13) dX12_press_13 ?_
    refine xx_lconst (v := 0) (pc := 14) dX12_press_14 rfl ?_
    refine xx_lconst (v := 1) (pc := 15) dX12_press_15 rfl ?_
    refine xx_callS0 (pc := 16) (st := []) (cM_isIn (0 ≤ a ∧ a ≤ 1) (ll_in (lo := 0) (hi := 1) (by omega) (by decide) (by decide) (by omega))) kX12_isIn sX12_66 dX12_press_16 rfl rfl (Nat.le_of_ble_eq_true rfl) ⟨Nat.le_of_ble_eq_true rfl, Nat.le_of_ble_eq_true rfl⟩ ⟨Nat.zero_le _, Nat.zero_le _⟩ (ic_ke ?_)
    refine xx_if_neB (pc := 19) 24 dX12_press_19 rfl (fun c2 => ?_) (fun c2 => ?_)
    · refine xx_aload_nP (pc := 24) dX12_press_24 0 rfl rfl ?_
      refine xx_iconst (pc := 25) dX12_press_25 cc_iconst_0 ?_
      refine xx_callV0 (pc := 26) (st := []) sh_114 (cM_laysAside (w := w) (lv := 0) (by omega)) kX12_laysAside vX12_251_12 dX12_press_26 rfl rfl (Nat.le_of_ble_eq_true rfl) ⟨Nat.le_of_ble_eq_true rfl, Nat.le_of_ble_eq_true rfl⟩ ⟨Nat.zero_le _, Nat.zero_le _⟩ (ic_kv (fun h_ qw3 => ?_))
      obtain rfl := qw3
      refine xx_nw (fun w3 ew3 => ?_)
      refine xx_iconst (pc := 29) dX12_press_29 cc_iconst_0 ?_
      refine xx_istore_n (L' := [(3, .int (nI 0)), (0, ic_pt E 114), (1, .int (nI n)), (2, .int (nI a))]) (pc := 30) dX12_press_30 rfl (Nat.le_of_ble_eq_true rfl) rfl ?_
      have lp : ∀ (n_ : Nat) (k : Nat) (u : ic_w), k ≤ n → mo_itn (w 115) n = mo_itn (u 115) (n - k) → In (u 115) → Ru (u 115) → (∀ k, 44 ≤ k → u 115 k = w 115 k) → (∀ a, a ≠ 115 → a ≠ 120 → u a = w3 a) → n - k < n_ → xx l E (ic_fr E mX12_press 8 0 0 False SHs (ic_qi (fun v_ h_ => v_ = nI (if n ≤ 16 ∧ a ≤ 1 then mo_press (w 115) n a else 4294967295) ∧ ∃ w2, h_ = hn w2 ∧ mo_sc w w2))) (0, 0) 31 [(3, .int (nI k)), (0, ic_pt E 114), (1, .int (nI n)), (2, .int (nI a))] [] SHs (hn u) := by
        intro n_
        induction n_ with
        | zero => intro k u hk hs hI_u hR_u h44 hr hm_; exact absurd hm_ (Nat.not_lt_zero _)
        | succ n_ ih_ =>
          intro k u hk hs hI_u hR_u h44 hr hm_
          have hrl_u := mo_rest_le (u 115)
          have hn0_u := hI_u.n
          have htt_u := hI_u.t
          refine xx_iload_n (pc := 31) dX12_press_31 0 rfl rfl ?_
          refine xx_iload_n (pc := 32) dX12_press_32 2 rfl rfl ?_
          refine xx_icmp_geN (pc := 33) 59 dX12_press_33 rfl (by omega) (by omega) (fun c55 => ?_) (fun c55 => ?_)
          · have hz : mo_itn (w 115) n = u 115 := by rw [hs, show n - k = 0 by omega]; rfl
            refine xx_iconst (pc := 59) dX12_press_59 cc_iconst_0 ?_
            refine xx_istore_n (L' := [(3, .int (nI 0)), (0, ic_pt E 114), (1, .int (nI n)), (2, .int (nI a))]) (pc := 60) dX12_press_60 rfl (Nat.le_of_ble_eq_true rfl) rfl ?_
            refine xx_iconst (pc := 61) dX12_press_61 cc_iconst_0 ?_
            refine xx_istore (L' := [(4, .int (nI 0)), (3, .int (nI 0)), (0, ic_pt E 114), (1, .int (nI n)), (2, .int (nI a))]) (pc := 62) dX12_press_62 (Nat.le_of_ble_eq_true rfl) rfl ?_
            refine xx_iconst (pc := 64) dX12_press_64 cc_iconst_0 ?_
            refine xx_istore (L' := [(5, .int (nI 0)), (4, .int (nI 0)), (3, .int (nI 0)), (0, ic_pt E 114), (1, .int (nI n)), (2, .int (nI a))]) (pc := 65) dX12_press_65 (Nat.le_of_ble_eq_true rfl) rfl ?_
            have lf : ∀ (n_ : Nat) (f mst bst : Nat), f ≤ 6 → (f = 0 → bst = 0 ∧ mst = 0) → (∀ g, f = g + 1 → bst = mo_am (mo_many (u 115)) g ∧ mst = mo_many (u 115) (mo_am (mo_many (u 115)) g)) → 6 - f < n_ → xx l E (ic_fr E mX12_press 8 0 0 False SHs (ic_qi (fun v_ h_ => v_ = nI (if n ≤ 16 ∧ a ≤ 1 then mo_press (w 115) n a else 4294967295) ∧ ∃ w2, h_ = hn w2 ∧ mo_sc w w2))) (0, 0) 67 [(5, .int (nI f)), (4, .int (nI mst)), (3, .int (nI bst)), (0, ic_pt E 114), (1, .int (nI n)), (2, .int (nI a))] [] SHs (hn u) := by
              intro n_
              induction n_ with
              | zero => intro f mst bst hf hb0 hb1 hm_; exact absurd hm_ (Nat.not_lt_zero _)
              | succ n_ ih_ =>
                intro f mst bst hf hb0 hb1 hm_
                have hml := mo_many_le hI_u f
                have hmb : mst ≤ 6 := by rcases f with _ | f; exact (by have := (hb0 rfl).2; omega); rw [(hb1 f rfl).2]; exact mo_many_le hI_u _
                refine xx_iload (pc := 67) dX12_press_67 0 rfl ?_
                refine xx_bipush (pc := 69) dX12_press_69 cc_bipush_6 ?_
                refine xx_icmp_geN (pc := 71) 111 dX12_press_71 rfl (by omega) (by omega) (fun c106 => ?_) (fun c106 => ?_)
                · refine xx_aload_nP (pc := 111) dX12_press_111 3 rfl rfl ?_
                  refine xx_iconst (pc := 112) dX12_press_112 cc_iconst_0 ?_
                  refine xx_callV0 (pc := 113) (st := []) sh_114 (cM_laysBack (w := u) (lv := 0) (by omega)) kX12_laysBack vX12_255_12 dX12_press_113 rfl rfl (Nat.le_of_ble_eq_true rfl) ⟨Nat.le_of_ble_eq_true rfl, Nat.le_of_ble_eq_true rfl⟩ ⟨Nat.zero_le _, Nat.zero_le _⟩ (ic_kv (fun h_ qw107 => ?_))
                  obtain rfl := qw107
                  refine xx_nw (fun w107 ew107 => ?_)
                  refine xx_iload_n (pc := 116) dX12_press_116 5 rfl rfl ?_
                  refine xx_if_neN (pc := 117) 124 dX12_press_117 rfl (by omega) (fun c109 => ?_) (fun c109 => ?_)
                  · refine xx_iload (pc := 124) dX12_press_124 1 rfl ?_
                    exact xx_iret (pc := 126) dX12_press_126 rfl (rfl) (Nat.le_refl _) (Nat.le_refl _) (ic_ri ⟨by rw [if_pos (by omega)]; unfold mo_press; obtain ⟨b1, b2⟩ := hb1 5 (by omega); rw [hz, ← b2, ← b1]; first | rw [if_pos (by omega)] | rw [if_neg (by omega)], w107, rfl, by rw [ew107]; exact mo_back h44 (fun j hj => by rw [hr 117 (by omega) (by omega), ew3, wr_s]; unfold mo_cp; rw [if_pos (by omega)]; congr 1; omega) (fun a q1 q2 q3 => by rw [hr a q1 q3, ew3, wr_n _ q2])⟩)
                  · refine xx_iload_n (pc := 120) dX12_press_120 2 rfl rfl ?_
                    refine xx_goto (pc := 121) 126 dX12_press_121 rfl ?_
                    exact xx_iret (pc := 126) dX12_press_126 rfl (rfl) (Nat.le_refl _) (Nat.le_refl _) (ic_ri ⟨by rw [if_pos (by omega)]; unfold mo_press; obtain ⟨b1, b2⟩ := hb1 5 (by omega); rw [hz, ← b2, ← b1]; first | rw [if_pos (by omega)] | rw [if_neg (by omega)], w107, rfl, by rw [ew107]; exact mo_back h44 (fun j hj => by rw [hr 117 (by omega) (by omega), ew3, wr_s]; unfold mo_cp; rw [if_pos (by omega)]; congr 1; omega) (fun a q1 q2 q3 => by rw [hr a q1 q3, ew3, wr_n _ q2])⟩)
                · refine xx_aload_nP (pc := 74) dX12_press_74 3 rfl rfl ?_
                  refine xx_iload (pc := 75) dX12_press_75 0 rfl ?_
                  refine xx_callV0 (pc := 77) (st := []) sh_114 (cM_manyAt (w := u) (f := f) (by omega) hI_u) kX12_manyAt vX12_273_12 dX12_press_77 rfl rfl (Nat.le_of_ble_eq_true rfl) ⟨Nat.le_of_ble_eq_true rfl, Nat.le_of_ble_eq_true rfl⟩ ⟨Nat.zero_le _, Nat.zero_le _⟩ (ic_ke ?_)
                  refine xx_istore (L' := [(6, .int (nI (mo_many (u 115) f))), (5, .int (nI f)), (4, .int (nI mst)), (3, .int (nI bst)), (0, ic_pt E 114), (1, .int (nI n)), (2, .int (nI a))]) (pc := 80) dX12_press_80 (Nat.le_of_ble_eq_true rfl) rfl ?_
                  refine xx_iload (pc := 82) dX12_press_82 0 rfl ?_
                  refine xx_iload (pc := 84) dX12_press_84 2 rfl ?_
                  refine xx_icmp_leN (pc := 86) 94 dX12_press_86 rfl (by omega) (by omega) (fun c110 => ?_) (fun c110 => ?_)
                  · refine xx_iload_n (pc := 94) dX12_press_94 3 rfl rfl ?_
                    refine xx_istore_n (L' := [(3, .int (nI bst)), (6, .int (nI (mo_many (u 115) f))), (5, .int (nI f)), (4, .int (nI mst)), (0, ic_pt E 114), (1, .int (nI n)), (2, .int (nI a))]) (pc := 95) dX12_press_95 rfl (Nat.le_of_ble_eq_true rfl) rfl ?_
                    refine xx_iload (pc := 96) dX12_press_96 3 rfl ?_
                    refine xx_iload (pc := 98) dX12_press_98 1 rfl ?_
                    refine xx_callS0 (pc := 100) (st := []) (cM_greatest (w := u) (a := mst) (b := mo_many (u 115) f) (by omega) (by omega)) kX12_greatest sX12_78 dX12_press_100 rfl rfl (Nat.le_of_ble_eq_true rfl) ⟨Nat.le_of_ble_eq_true rfl, Nat.le_of_ble_eq_true rfl⟩ ⟨Nat.zero_le _, Nat.zero_le _⟩ (ic_ke ?_)
                    refine xx_istore (L' := [(4, .int (nI (max mst (mo_many (u 115) f)))), (3, .int (nI bst)), (6, .int (nI (mo_many (u 115) f))), (5, .int (nI f)), (0, ic_pt E 114), (1, .int (nI n)), (2, .int (nI a))]) (pc := 103) dX12_press_103 (Nat.le_of_ble_eq_true rfl) rfl ?_
                    refine xx_iincN (L' := [(5, .int (nI (f + 1))), (4, .int (nI (max mst (mo_many (u 115) f)))), (3, .int (nI bst)), (6, .int (nI (mo_many (u 115) f))), (0, ic_pt E 114), (1, .int (nI n)), (2, .int (nI a))]) (pc := 105) dX12_press_105 3 rfl cc_iconst_1 (Nat.le_of_ble_eq_true rfl) rfl ?_
                    refine xx_goto (pc := 108) 67 dX12_press_108 rfl ?_
                    have hst : (bst) = mo_am (mo_many (u 115)) f ∧ max mst (mo_many (u 115) f) = mo_many (u 115) (mo_am (mo_many (u 115)) f) := by
                      rcases f with _ | f
                      · obtain ⟨b1, b2⟩ := hb0 rfl
                        refine ⟨?_, ?_⟩
                        · show _ = 0; omega
                        · show _ = mo_many (u 115) 0; omega
                      · obtain ⟨b1, b2⟩ := hb1 f rfl
                        rw [← b1] at b2
                        rw [mo_am, ← b1, ← b2]
                        refine ⟨?_, ?_⟩
                        · split <;> omega
                        · split <;> omega
                    exact xx_sub [0, 1, 2, 4, 5, 6] rfl (ih_ (f + 1) _ _ (by omega) (fun z => absurd z (by omega)) (fun g hg => by rw [show g = f by omega]; exact hst) (by omega))
                  · refine xx_iload (pc := 89) dX12_press_89 1 rfl ?_
                    refine xx_goto (pc := 91) 95 dX12_press_91 rfl ?_
                    refine xx_istore_n (L' := [(3, .int (nI f)), (6, .int (nI (mo_many (u 115) f))), (5, .int (nI f)), (4, .int (nI mst)), (0, ic_pt E 114), (1, .int (nI n)), (2, .int (nI a))]) (pc := 95) dX12_press_95 rfl (Nat.le_of_ble_eq_true rfl) rfl ?_
                    refine xx_iload (pc := 96) dX12_press_96 3 rfl ?_
                    refine xx_iload (pc := 98) dX12_press_98 1 rfl ?_
                    refine xx_callS0 (pc := 100) (st := []) (cM_greatest (w := u) (a := mst) (b := mo_many (u 115) f) (by omega) (by omega)) kX12_greatest sX12_78 dX12_press_100 rfl rfl (Nat.le_of_ble_eq_true rfl) ⟨Nat.le_of_ble_eq_true rfl, Nat.le_of_ble_eq_true rfl⟩ ⟨Nat.zero_le _, Nat.zero_le _⟩ (ic_ke ?_)
                    refine xx_istore (L' := [(4, .int (nI (max mst (mo_many (u 115) f)))), (3, .int (nI f)), (6, .int (nI (mo_many (u 115) f))), (5, .int (nI f)), (0, ic_pt E 114), (1, .int (nI n)), (2, .int (nI a))]) (pc := 103) dX12_press_103 (Nat.le_of_ble_eq_true rfl) rfl ?_
                    refine xx_iincN (L' := [(5, .int (nI (f + 1))), (4, .int (nI (max mst (mo_many (u 115) f)))), (3, .int (nI f)), (6, .int (nI (mo_many (u 115) f))), (0, ic_pt E 114), (1, .int (nI n)), (2, .int (nI a))]) (pc := 105) dX12_press_105 3 rfl cc_iconst_1 (Nat.le_of_ble_eq_true rfl) rfl ?_
                    refine xx_goto (pc := 108) 67 dX12_press_108 rfl ?_
                    have hst : (f) = mo_am (mo_many (u 115)) f ∧ max mst (mo_many (u 115) f) = mo_many (u 115) (mo_am (mo_many (u 115)) f) := by
                      rcases f with _ | f
                      · obtain ⟨b1, b2⟩ := hb0 rfl
                        refine ⟨?_, ?_⟩
                        · show _ = 0; omega
                        · show _ = mo_many (u 115) 0; omega
                      · obtain ⟨b1, b2⟩ := hb1 f rfl
                        rw [← b1] at b2
                        rw [mo_am, ← b1, ← b2]
                        refine ⟨?_, ?_⟩
                        · split <;> omega
                        · split <;> omega
                    exact xx_sub [0, 1, 2, 4, 5, 6] rfl (ih_ (f + 1) _ _ (by omega) (fun z => absurd z (by omega)) (fun g hg => by rw [show g = f by omega]; exact hst) (by omega))
            exact xx_sub [0, 1, 2, 3, 4, 5] rfl (lf 7 0 0 0 (by omega) (fun _ => ⟨rfl, rfl⟩) (fun g hg => absurd hg (by omega)) (by omega))
          · refine xx_aload_nP (pc := 36) dX12_press_36 1 rfl rfl ?_
            refine xx_callV0 (pc := 37) (st := []) sh_114 (cM_isOver (w := u) hI_u) kX12_isOver vX12_140_12 dX12_press_37 rfl rfl (Nat.le_of_ble_eq_true rfl) ⟨Nat.le_of_ble_eq_true rfl, Nat.le_of_ble_eq_true rfl⟩ ⟨Nat.zero_le _, Nat.zero_le _⟩ (ic_ke ?_)
            refine xx_if_neB (pc := 40) 59 dX12_press_40 rfl (fun c56 => ?_) (fun c56 => ?_)
            · have hz : mo_itn (w 115) n = u 115 := by rw [hs, show n - k = (n - (k + 1)) + 1 by omega, mo_itn, if_pos (by omega)]
              refine xx_iconst (pc := 59) dX12_press_59 cc_iconst_0 ?_
              refine xx_istore_n (L' := [(3, .int (nI 0)), (0, ic_pt E 114), (1, .int (nI n)), (2, .int (nI a))]) (pc := 60) dX12_press_60 rfl (Nat.le_of_ble_eq_true rfl) rfl ?_
              refine xx_iconst (pc := 61) dX12_press_61 cc_iconst_0 ?_
              refine xx_istore (L' := [(4, .int (nI 0)), (3, .int (nI 0)), (0, ic_pt E 114), (1, .int (nI n)), (2, .int (nI a))]) (pc := 62) dX12_press_62 (Nat.le_of_ble_eq_true rfl) rfl ?_
              refine xx_iconst (pc := 64) dX12_press_64 cc_iconst_0 ?_
              refine xx_istore (L' := [(5, .int (nI 0)), (4, .int (nI 0)), (3, .int (nI 0)), (0, ic_pt E 114), (1, .int (nI n)), (2, .int (nI a))]) (pc := 65) dX12_press_65 (Nat.le_of_ble_eq_true rfl) rfl ?_
              have lf : ∀ (n_ : Nat) (f mst bst : Nat), f ≤ 6 → (f = 0 → bst = 0 ∧ mst = 0) → (∀ g, f = g + 1 → bst = mo_am (mo_many (u 115)) g ∧ mst = mo_many (u 115) (mo_am (mo_many (u 115)) g)) → 6 - f < n_ → xx l E (ic_fr E mX12_press 8 0 0 False SHs (ic_qi (fun v_ h_ => v_ = nI (if n ≤ 16 ∧ a ≤ 1 then mo_press (w 115) n a else 4294967295) ∧ ∃ w2, h_ = hn w2 ∧ mo_sc w w2))) (0, 0) 67 [(5, .int (nI f)), (4, .int (nI mst)), (3, .int (nI bst)), (0, ic_pt E 114), (1, .int (nI n)), (2, .int (nI a))] [] SHs (hn u) := by
                intro n_
                induction n_ with
                | zero => intro f mst bst hf hb0 hb1 hm_; exact absurd hm_ (Nat.not_lt_zero _)
                | succ n_ ih_ =>
                  intro f mst bst hf hb0 hb1 hm_
                  have hml := mo_many_le hI_u f
                  have hmb : mst ≤ 6 := by rcases f with _ | f; exact (by have := (hb0 rfl).2; omega); rw [(hb1 f rfl).2]; exact mo_many_le hI_u _
                  refine xx_iload (pc := 67) dX12_press_67 0 rfl ?_
                  refine xx_bipush (pc := 69) dX12_press_69 cc_bipush_6 ?_
                  refine xx_icmp_geN (pc := 71) 111 dX12_press_71 rfl (by omega) (by omega) (fun c107 => ?_) (fun c107 => ?_)
                  · refine xx_aload_nP (pc := 111) dX12_press_111 3 rfl rfl ?_
                    refine xx_iconst (pc := 112) dX12_press_112 cc_iconst_0 ?_
                    refine xx_callV0 (pc := 113) (st := []) sh_114 (cM_laysBack (w := u) (lv := 0) (by omega)) kX12_laysBack vX12_255_12 dX12_press_113 rfl rfl (Nat.le_of_ble_eq_true rfl) ⟨Nat.le_of_ble_eq_true rfl, Nat.le_of_ble_eq_true rfl⟩ ⟨Nat.zero_le _, Nat.zero_le _⟩ (ic_kv (fun h_ qw108 => ?_))
                    obtain rfl := qw108
                    refine xx_nw (fun w108 ew108 => ?_)
                    refine xx_iload_n (pc := 116) dX12_press_116 5 rfl rfl ?_
                    refine xx_if_neN (pc := 117) 124 dX12_press_117 rfl (by omega) (fun c110 => ?_) (fun c110 => ?_)
                    · refine xx_iload (pc := 124) dX12_press_124 1 rfl ?_
                      exact xx_iret (pc := 126) dX12_press_126 rfl (rfl) (Nat.le_refl _) (Nat.le_refl _) (ic_ri ⟨by rw [if_pos (by omega)]; unfold mo_press; obtain ⟨b1, b2⟩ := hb1 5 (by omega); rw [hz, ← b2, ← b1]; first | rw [if_pos (by omega)] | rw [if_neg (by omega)], w108, rfl, by rw [ew108]; exact mo_back h44 (fun j hj => by rw [hr 117 (by omega) (by omega), ew3, wr_s]; unfold mo_cp; rw [if_pos (by omega)]; congr 1; omega) (fun a q1 q2 q3 => by rw [hr a q1 q3, ew3, wr_n _ q2])⟩)
                    · refine xx_iload_n (pc := 120) dX12_press_120 2 rfl rfl ?_
                      refine xx_goto (pc := 121) 126 dX12_press_121 rfl ?_
                      exact xx_iret (pc := 126) dX12_press_126 rfl (rfl) (Nat.le_refl _) (Nat.le_refl _) (ic_ri ⟨by rw [if_pos (by omega)]; unfold mo_press; obtain ⟨b1, b2⟩ := hb1 5 (by omega); rw [hz, ← b2, ← b1]; first | rw [if_pos (by omega)] | rw [if_neg (by omega)], w108, rfl, by rw [ew108]; exact mo_back h44 (fun j hj => by rw [hr 117 (by omega) (by omega), ew3, wr_s]; unfold mo_cp; rw [if_pos (by omega)]; congr 1; omega) (fun a q1 q2 q3 => by rw [hr a q1 q3, ew3, wr_n _ q2])⟩)
                  · refine xx_aload_nP (pc := 74) dX12_press_74 3 rfl rfl ?_
                    refine xx_iload (pc := 75) dX12_press_75 0 rfl ?_
                    refine xx_callV0 (pc := 77) (st := []) sh_114 (cM_manyAt (w := u) (f := f) (by omega) hI_u) kX12_manyAt vX12_273_12 dX12_press_77 rfl rfl (Nat.le_of_ble_eq_true rfl) ⟨Nat.le_of_ble_eq_true rfl, Nat.le_of_ble_eq_true rfl⟩ ⟨Nat.zero_le _, Nat.zero_le _⟩ (ic_ke ?_)
                    refine xx_istore (L' := [(6, .int (nI (mo_many (u 115) f))), (5, .int (nI f)), (4, .int (nI mst)), (3, .int (nI bst)), (0, ic_pt E 114), (1, .int (nI n)), (2, .int (nI a))]) (pc := 80) dX12_press_80 (Nat.le_of_ble_eq_true rfl) rfl ?_
                    refine xx_iload (pc := 82) dX12_press_82 0 rfl ?_
                    refine xx_iload (pc := 84) dX12_press_84 2 rfl ?_
                    refine xx_icmp_leN (pc := 86) 94 dX12_press_86 rfl (by omega) (by omega) (fun c111 => ?_) (fun c111 => ?_)
                    · refine xx_iload_n (pc := 94) dX12_press_94 3 rfl rfl ?_
                      refine xx_istore_n (L' := [(3, .int (nI bst)), (6, .int (nI (mo_many (u 115) f))), (5, .int (nI f)), (4, .int (nI mst)), (0, ic_pt E 114), (1, .int (nI n)), (2, .int (nI a))]) (pc := 95) dX12_press_95 rfl (Nat.le_of_ble_eq_true rfl) rfl ?_
                      refine xx_iload (pc := 96) dX12_press_96 3 rfl ?_
                      refine xx_iload (pc := 98) dX12_press_98 1 rfl ?_
                      refine xx_callS0 (pc := 100) (st := []) (cM_greatest (w := u) (a := mst) (b := mo_many (u 115) f) (by omega) (by omega)) kX12_greatest sX12_78 dX12_press_100 rfl rfl (Nat.le_of_ble_eq_true rfl) ⟨Nat.le_of_ble_eq_true rfl, Nat.le_of_ble_eq_true rfl⟩ ⟨Nat.zero_le _, Nat.zero_le _⟩ (ic_ke ?_)
                      refine xx_istore (L' := [(4, .int (nI (max mst (mo_many (u 115) f)))), (3, .int (nI bst)), (6, .int (nI (mo_many (u 115) f))), (5, .int (nI f)), (0, ic_pt E 114), (1, .int (nI n)), (2, .int (nI a))]) (pc := 103) dX12_press_103 (Nat.le_of_ble_eq_true rfl) rfl ?_
                      refine xx_iincN (L' := [(5, .int (nI (f + 1))), (4, .int (nI (max mst (mo_many (u 115) f)))), (3, .int (nI bst)), (6, .int (nI (mo_many (u 115) f))), (0, ic_pt E 114), (1, .int (nI n)), (2, .int (nI a))]) (pc := 105) dX12_press_105 3 rfl cc_iconst_1 (Nat.le_of_ble_eq_true rfl) rfl ?_
                      refine xx_goto (pc := 108) 67 dX12_press_108 rfl ?_
                      have hst : (bst) = mo_am (mo_many (u 115)) f ∧ max mst (mo_many (u 115) f) = mo_many (u 115) (mo_am (mo_many (u 115)) f) := by
                        rcases f with _ | f
                        · obtain ⟨b1, b2⟩ := hb0 rfl
                          refine ⟨?_, ?_⟩
                          · show _ = 0; omega
                          · show _ = mo_many (u 115) 0; omega
                        · obtain ⟨b1, b2⟩ := hb1 f rfl
                          rw [← b1] at b2
                          rw [mo_am, ← b1, ← b2]
                          refine ⟨?_, ?_⟩
                          · split <;> omega
                          · split <;> omega
                      exact xx_sub [0, 1, 2, 4, 5, 6] rfl (ih_ (f + 1) _ _ (by omega) (fun z => absurd z (by omega)) (fun g hg => by rw [show g = f by omega]; exact hst) (by omega))
                    · refine xx_iload (pc := 89) dX12_press_89 1 rfl ?_
                      refine xx_goto (pc := 91) 95 dX12_press_91 rfl ?_
                      refine xx_istore_n (L' := [(3, .int (nI f)), (6, .int (nI (mo_many (u 115) f))), (5, .int (nI f)), (4, .int (nI mst)), (0, ic_pt E 114), (1, .int (nI n)), (2, .int (nI a))]) (pc := 95) dX12_press_95 rfl (Nat.le_of_ble_eq_true rfl) rfl ?_
                      refine xx_iload (pc := 96) dX12_press_96 3 rfl ?_
                      refine xx_iload (pc := 98) dX12_press_98 1 rfl ?_
                      refine xx_callS0 (pc := 100) (st := []) (cM_greatest (w := u) (a := mst) (b := mo_many (u 115) f) (by omega) (by omega)) kX12_greatest sX12_78 dX12_press_100 rfl rfl (Nat.le_of_ble_eq_true rfl) ⟨Nat.le_of_ble_eq_true rfl, Nat.le_of_ble_eq_true rfl⟩ ⟨Nat.zero_le _, Nat.zero_le _⟩ (ic_ke ?_)
                      refine xx_istore (L' := [(4, .int (nI (max mst (mo_many (u 115) f)))), (3, .int (nI f)), (6, .int (nI (mo_many (u 115) f))), (5, .int (nI f)), (0, ic_pt E 114), (1, .int (nI n)), (2, .int (nI a))]) (pc := 103) dX12_press_103 (Nat.le_of_ble_eq_true rfl) rfl ?_
                      refine xx_iincN (L' := [(5, .int (nI (f + 1))), (4, .int (nI (max mst (mo_many (u 115) f)))), (3, .int (nI f)), (6, .int (nI (mo_many (u 115) f))), (0, ic_pt E 114), (1, .int (nI n)), (2, .int (nI a))]) (pc := 105) dX12_press_105 3 rfl cc_iconst_1 (Nat.le_of_ble_eq_true rfl) rfl ?_
                      refine xx_goto (pc := 108) 67 dX12_press_108 rfl ?_
                      have hst : (f) = mo_am (mo_many (u 115)) f ∧ max mst (mo_many (u 115) f) = mo_many (u 115) (mo_am (mo_many (u 115)) f) := by
                        rcases f with _ | f
                        · obtain ⟨b1, b2⟩ := hb0 rfl
                          refine ⟨?_, ?_⟩
                          · show _ = 0; omega
                          · show _ = mo_many (u 115) 0; omega
                        · obtain ⟨b1, b2⟩ := hb1 f rfl
                          rw [← b1] at b2
                          rw [mo_am, ← b1, ← b2]
                          refine ⟨?_, ?_⟩
                          · split <;> omega
                          · split <;> omega
                      exact xx_sub [0, 1, 2, 4, 5, 6] rfl (ih_ (f + 1) _ _ (by omega) (fun z => absurd z (by omega)) (fun g hg => by rw [show g = f by omega]; exact hst) (by omega))
              exact xx_sub [0, 1, 2, 3, 4, 5] rfl (lf 7 0 0 0 (by omega) (fun _ => ⟨rfl, rfl⟩) (fun g hg => absurd hg (by omega)) (by omega))
            · refine xx_aload_nP (pc := 43) dX12_press_43 1 rfl rfl ?_
              refine xx_aload_nP (pc := 44) dX12_press_44 1 rfl rfl ?_
              refine xx_callV0 (pc := 45) (st := [ic_pt E 114]) sh_114 (cM_restAct (w := u) hI_u hR_u) kX12_restAct vX12_245_12 dX12_press_45 rfl rfl (Nat.le_of_ble_eq_true rfl) ⟨Nat.le_of_ble_eq_true rfl, Nat.le_of_ble_eq_true rfl⟩ ⟨Nat.zero_le _, Nat.zero_le _⟩ (ic_ke ?_)
              have hwl_x57 := mo_worth_le hI_u (act := mo_rest (u 115)) (by omega)
              refine xx_callV0 (pc := 48) (st := []) sh_114 (cM_goesWith (w := u) (act := mo_rest (u 115)) (by omega) (by omega) hI_u hR_u (by omega)) kX12_goesWith vX12_248_12 dX12_press_48 rfl rfl (Nat.le_of_ble_eq_true rfl) ⟨Nat.le_of_ble_eq_true rfl, Nat.le_of_ble_eq_true rfl⟩ ⟨Nat.zero_le _, Nat.zero_le _⟩ (ic_ki (fun v59 h_ qw58 => ?_))
              obtain ⟨rfl, w58, rfl, gw58⟩ := qw58
              have hI_w58 : In (w58 115) := by rw [gw58.1]; exact In_go hI_u (by omega) (by omega)
              have hR_w58 : Ru (w58 115) := by rw [gw58.1]; exact Ru_go hR_u hI_u (by omega)
              refine xx_istore (L' := [(4, .int (nI (mo_worth (u 115) (mo_rest (u 115))))), (3, .int (nI k)), (0, ic_pt E 114), (1, .int (nI n)), (2, .int (nI a))]) (pc := 51) dX12_press_51 (Nat.le_of_ble_eq_true rfl) rfl ?_
              refine xx_iincN (L' := [(3, .int (nI (k + 1))), (4, .int (nI (mo_worth (u 115) (mo_rest (u 115))))), (0, ic_pt E 114), (1, .int (nI n)), (2, .int (nI a))]) (pc := 53) dX12_press_53 1 rfl cc_iconst_1 (Nat.le_of_ble_eq_true rfl) rfl ?_
              refine xx_goto (pc := 56) 31 dX12_press_56 rfl ?_
              have hnx : mo_itn (w 115) n = mo_itn (w58 115) (n - (k + 1)) := by rw [hs, show n - k = (n - (k + 1)) + 1 by omega, mo_itn, if_neg (by omega), gw58.1]
              exact xx_sub [0, 2, 3, 4] rfl (ih_ (k + 1) w58 (by omega) hnx hI_w58 hR_w58 (fun k hk => by rw [gw58.1, mo_go_r _ (by omega) (by omega) (by omega)]; exact h44 k hk) (fun a q1 q2 => by rw [gw58.2 a q1 q2]; exact hr a q1 q2) (by omega))
      have rW : w3 115 = w 115 := by rw [ew3, wr_n _ (by omega)]
      exact xx_sub [0, 1, 2, 3] rfl (lp (n + 1) 0 w3 (by omega) (by rw [rW]; rfl) (by rw [rW]; exact hI) (by rw [rW]; exact hR) (fun k _ => by rw [rW]) (fun _ _ _ => rfl) (by omega))
    · refine xx_iconst (pc := 22) dX12_press_22 cc_iconst_m1 ?_
      exact xx_iret (pc := 23) dX12_press_23 rfl (rfl) (Nat.le_refl _) (Nat.le_refl _) (ic_ri ⟨by rw [if_neg (by omega)], w, rfl, fun _ _ _ => rfl⟩)

