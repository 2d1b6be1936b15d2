/-! the rest of the trains -/
def mo_restN (s : Nat → Nat) : Nat → Nat → Nat
  | 0, _ => 0
  | n + 1, o => if 0 < mo_pays s o ∧ mo_will s o = 0 then o + 1 else mo_restN s n (o + 1)
def mo_rest (s : Nat → Nat) : Nat := mo_restN s (s 0) 0
theorem mo_restN_le (s : Nat → Nat) : ∀ n o, mo_restN s n o ≤ o + n
  | 0, _ => Nat.zero_le _
  | n + 1, o => by
    rw [mo_restN]
    split
    · omega
    · have := mo_restN_le s n (o + 1)
      omega
theorem mo_rest_le (s : Nat → Nat) : mo_rest s ≤ s 0 := by
  have := mo_restN_le s (s 0) 0
  unfold mo_rest
  omega
def mo_on (s : Nat → Nat) : Nat → Nat
  | 0 => 0
  | n + 1 => if s 2 ≤ s 1 then 0 else mo_worth s (mo_rest s) + mo_on (mo_go s (mo_rest s)) n
/-- from s on, trains of the rest till P, n at most -/
def mo_run (P : (Nat → Nat) → Bool) (s : Nat → Nat) : Nat → Nat → Nat
  | 0 => s
  | n + 1 => if P s then s else mo_run P (mo_go s (mo_rest s)) n
def mo_over (s : Nat → Nat) : Bool := decide (s 2 ≤ s 1)
/-- an argument, of 0 to n the least, with which f is most -/
def mo_am (f : Nat → Nat) : Nat → Nat
  | 0 => 0
  | n + 1 => if f (mo_am f n) < f (n + 1) then n + 1 else mo_am f n
theorem mo_am_le (f : Nat → Nat) : ∀ n, mo_am f n ≤ n
  | 0 => Nat.le_refl _
  | n + 1 => by
    have := mo_am_le f n
    rw [mo_am]
    split <;> omega
/-- scratch rows apart, nothing is changed -/
def mo_sc (w w2 : ic_w) : Prop := ∀ a, a ≠ 117 → a ≠ 120 → w2 a = w a
theorem mo_on_le {s : Nat → Nat} : ∀ (n : Nat) (s : Nat → Nat), In s → Ru s → mo_on s n ≤ 33 * n
  | 0, _, _, _ => Nat.zero_le _
  | n + 1, s, h, r => by
    rw [mo_on]
    split
    · omega
    · have h1 := mo_rest_le s
      have h0 := h.n
      have := mo_worth_le h (act := mo_rest s) (by omega)
      have := mo_on_le (s := s) n _ (In_go h (act := mo_rest s) (by omega) (by omega)) (Ru_go r h (by omega))
      omega
/-- behind laysBack: what was laid aside is there again -/
theorem mo_back {w u : ic_w} (h1 : ∀ k, 44 ≤ k → u 115 k = w 115 k) (h2 : ∀ j, j < 44 → u 117 j = w 115 j) (h3 : ∀ a, a ≠ 115 → a ≠ 117 → a ≠ 120 → u a = w a) : mo_sc w (wr u 115 (mo_cp (u 115) 0 (u 117) (44 * 0) 44)) := by
  intro a q1 q2
  by_cases q : a = 115
  · subst q
    rw [wr_s]
    funext k
    unfold mo_cp
    by_cases z : k < 44
    · rw [if_pos (by omega), show 44 * 0 + (k - 0) = k by omega, h2 k z]
    · rw [if_neg (by omega), h1 k (by omega)]
  · rw [wr_n _ q, h3 a q q1 q2]
theorem nI_nlem1 {a : Nat} (ha : a < 2 ^ 31) : ¬ nI a ≤ nI 4294967295 := by
  rw [Int32.le_iff_toInt_le, nI_sgn (by omega), nI_sgn (by omega), if_pos ha, if_neg (by omega)]
  omega
theorem nI_m1lt {a : Nat} (ha : a < 2 ^ 31) : nI 4294967295 < nI a := by
  rw [Int32.lt_iff_toInt_lt, nI_sgn (by omega), nI_sgn (by omega), if_pos ha, if_neg (by omega)]
  omega
theorem cM_greatestM {l : Launch} {E : ic_E} {w : ic_w} {b : Nat} (hb : b < 2 ^ 31) : ic_C l E mX12_greatest 1 0 0 False [.int (nI 4294967295), .int (nI b)] SHs (hn w) SHs (ic_qe (nI b) (hn w)) := by
  refine ic_intro (by decide +kernel) (Nat.le_of_ble_eq_true rfl) ?_
  show xx l E _ _ 0 [(0, .int (nI 4294967295)), (1, .int (nI b))] _ _ _
  refine xx_iload_n (pc := 0) dX12_greatest_0 0 rfl rfl ?_
  refine xx_iload_n (pc := 1) dX12_greatest_1 1 rfl rfl ?_
  refine xx_icmp_le (pc := 2) 9 dX12_greatest_2 rfl (fun c1 => ?_) (fun c1 => ?_)
  · refine xx_iload_n (pc := 9) dX12_greatest_9 1 rfl rfl ?_
    exact xx_iret (pc := 10) dX12_greatest_10 rfl rfl (Nat.le_refl _) (Nat.le_refl _) (ic_re rfl)
  · exact absurd (Int32.le_of_lt (nI_m1lt hb)) c1

set_option maxHeartbeats 4000000 in
set_option maxRecDepth 100000 in
theorem cM_restAct {l : Launch} {E : ic_E} {w : ic_w} (hI : In (w 115)) (hR : Ru (w 115)) : ic_C l E mX12_restAct 6 0 0 False [ic_pt E 114] SHs (hn w) SHs (ic_qe (nI (mo_rest (w 115))) (hn w)) := by
  refine ic_intro (by decide +kernel) (Nat.le_of_ble_eq_true rfl) ?_
  show xx l E _ _ 0 [(0, ic_pt E 114)] _ _ _
  have hn0 := hI.n
  have lp : ∀ (n_ : Nat) (k : Nat), k ≤ w 115 0 → mo_rest (w 115) = mo_restN (w 115) (w 115 0 - k) k → w 115 0 - k < n_ → xx l E (ic_fr E mX12_restAct 6 0 0 False SHs (ic_qe (nI (mo_rest (w 115))) (hn w))) (0, 0) 2 [(1, .int (nI k)), (0, ic_pt E 114)] [] SHs (hn w) := by
    intro n_
    induction n_ with
    | zero => intro k hk hq hm_; exact absurd hm_ (Nat.not_lt_zero _)
    | succ n_ ih_ =>
      intro k hk hq hm_
      refine xx_iload_n (pc := 2) dX12_restAct_2 0 rfl rfl ?_
      refine xx_aload_nP (pc := 3) dX12_restAct_3 1 rfl rfl ?_
      refine xx_getR (pc := 4) 115 dX12_restAct_4 sh_114 fX12_7_12 rfl rfl (by decide) ?_
      refine xx_iconst (pc := 7) dX12_restAct_7 cc_iconst_0 ?_
      refine xx_ialdN (pc := 8) dX12_restAct_8 sh_115 (by omega) (by decide) ?_
      refine xx_icmp_geN (pc := 9) 30 dX12_restAct_9 rfl (by omega) (by omega) (fun c1 => ?_) (fun c1 => ?_)
      · refine xx_iconst (pc := 30) dX12_restAct_30 cc_iconst_0 ?_
        exact xx_iret (pc := 31) dX12_restAct_31 rfl (rfl) (Nat.le_refl _) (Nat.le_refl _) (ic_re (by rw [hq, show w 115 0 - k = 0 by omega]; rfl))
      · refine xx_aload_nP (pc := 12) dX12_restAct_12 1 rfl rfl ?_
        refine xx_iload_n (pc := 13) dX12_restAct_13 0 rfl rfl ?_
        refine xx_callV0 (pc := 14) (st := []) sh_114 (cM_mayBe (w := w) (o := k) (by omega) hI hR) kX12_mayBe vX12_127_12 dX12_restAct_14 rfl rfl (Nat.le_of_ble_eq_true rfl) ⟨Nat.le_of_ble_eq_true rfl, Nat.le_of_ble_eq_true rfl⟩ ⟨Nat.zero_le _, Nat.zero_le _⟩ (ic_ke ?_)
        refine xx_if_eqB (pc := 17) 24 dX12_restAct_17 rfl (fun c2 => ?_) (fun c2 => ?_)
        · refine xx_iincN (L' := [(1, .int (nI (k + 1))), (0, ic_pt E 114)]) (pc := 24) dX12_restAct_24 0 rfl cc_iconst_1 (Nat.le_of_ble_eq_true rfl) rfl ?_
          refine xx_goto (pc := 27) 2 dX12_restAct_27 rfl ?_
          exact xx_sub [0, 1] rfl (ih_ (k + 1) (by omega) (by rw [hq, show w 115 0 - k = (w 115 0 - (k + 1)) + 1 by omega, mo_restN, if_neg (by assumption)]) (by omega))
        · refine xx_iload_n (pc := 20) dX12_restAct_20 0 rfl rfl ?_
          refine xx_iconst (pc := 21) dX12_restAct_21 cc_iconst_1 ?_
          refine xx_iaddN (pc := 22) dX12_restAct_22 ?_
          exact xx_iret (pc := 23) dX12_restAct_23 rfl (rfl) (Nat.le_refl _) (Nat.le_refl _) (ic_re (by rw [hq, show w 115 0 - k = (w 115 0 - (k + 1)) + 1 by omega, mo_restN, if_pos (by assumption)]))
  refine xx_iconst (pc := 0) dX12_restAct_0 cc_iconst_0 ?_
  refine xx_istore_n (L' := [(1, .int (nI 0)), (0, ic_pt E 114)]) (pc := 1) dX12_restAct_1 rfl (Nat.le_of_ble_eq_true rfl) rfl ?_
  exact xx_sub [0, 1] rfl (lp (w 115 0 + 1) 0 (by omega) rfl (by omega))

set_option maxHeartbeats 4000000 in
set_option maxRecDepth 100000 in
theorem cM_train {l : Launch} {E : ic_E} {w : ic_w} (hI : In (w 115)) (hR : Ru (w 115)) : ic_C l E mX12_train 7 0 0 False [ic_pt E 114] SHs (hn w) SHs (ic_qi (fun v_ h_ => v_ = nI (if w 115 2 ≤ w 115 1 then 4294967292 else mo_worth (w 115) (mo_rest (w 115))) ∧ ∃ w2, h_ = hn w2 ∧ (if w 115 2 ≤ w 115 1 then w2 = w else mo_gone w (mo_rest (w 115)) w2))) := by
  refine ic_intro (by decide +kernel) (Nat.le_of_ble_eq_true rfl) ?_
  show xx l E _ _ 0 [(0, ic_pt E 114)] _ _ _
  have hrl_w := mo_rest_le (w 115)
  have hn0_w := hI.n
  have htt_w := hI.t
  refine xx_aload_nP (pc := 0) dX12_train_0 0 rfl rfl ?_
  refine xx_callV0 (pc := 1) (st := []) sh_114 (cM_isOver (w := w) hI) kX12_isOver vX12_140_12 dX12_train_1 rfl rfl (Nat.le_of_ble_eq_true rfl) ⟨Nat.le_of_ble_eq_true rfl, Nat.le_of_ble_eq_true rfl⟩ ⟨Nat.zero_le _, Nat.zero_le _⟩ (ic_ke ?_)
  refine xx_if_eqB (pc := 4) 12 dX12_train_4 rfl (fun c1 => ?_) (fun c1 => ?_)
  · refine xx_aload_nP (pc := 12) dX12_train_12 0 rfl rfl ?_
    refine xx_aload_nP (pc := 13) dX12_train_13 0 rfl rfl ?_
    refine xx_callV0 (pc := 14) (st := [ic_pt E 114]) sh_114 (cM_restAct (w := w) hI hR) kX12_restAct vX12_245_12 dX12_train_14 rfl rfl (Nat.le_of_ble_eq_true rfl) ⟨Nat.le_of_ble_eq_true rfl, Nat.le_of_ble_eq_true rfl⟩ ⟨Nat.zero_le _, Nat.zero_le _⟩ (ic_ke ?_)
    have hwl_x2 := mo_worth_le hI (act := mo_rest (w 115)) (by omega)
    refine xx_callV0 (pc := 17) (st := []) sh_114 (cM_goesWith (w := w) (act := mo_rest (w 115)) (by omega) (by omega) hI hR (by omega)) kX12_goesWith vX12_248_12 dX12_train_17 rfl rfl (Nat.le_of_ble_eq_true rfl) ⟨Nat.le_of_ble_eq_true rfl, Nat.le_of_ble_eq_true rfl⟩ ⟨Nat.zero_le _, Nat.zero_le _⟩ (ic_ki (fun v4 h_ qw3 => ?_))
    obtain ⟨rfl, w3, rfl, gw3⟩ := qw3
    have hI_w3 : In (w3 115) := by rw [gw3.1]; exact In_go hI (by omega) (by omega)
    have hR_w3 : Ru (w3 115) := by rw [gw3.1]; exact Ru_go hR hI (by omega)
    exact xx_iret (pc := 20) dX12_train_20 rfl (rfl) (Nat.le_refl _) (Nat.le_refl _) (ic_ri ⟨by rw [if_neg (by omega)], w3, rfl, by rw [if_neg (by omega)]; exact gw3⟩)
  · refine xx_bipush (pc := 7) dX12_train_7 cc_bipush_m4 ?_
    refine xx_goto (pc := 9) 20 dX12_train_9 rfl ?_
    exact xx_iret (pc := 20) dX12_train_20 rfl (rfl) (Nat.le_refl _) (Nat.le_refl _) (ic_ri ⟨by rw [if_pos (by omega)], w, rfl, by rw [if_pos (by omega)]⟩)

set_option maxHeartbeats 4000000 in
set_option maxRecDepth 100000 in
theorem cM_onBy {l : Launch} {E : ic_E} {w : ic_w} {n : Nat} (hn16 : n ≤ 16) (hI : In (w 115)) (hR : Ru (w 115)) : ic_C l E mX12_onBy 7 0 0 False [ic_pt E 114, .int (nI n)] SHs (hn w) SHs (ic_qi (fun v_ h_ => v_ = nI (mo_on (w 115) n) ∧ ∃ w2, h_ = hn w2 ∧ mo_sc w w2)) := by
  refine ic_intro (by decide +kernel) (Nat.le_of_ble_eq_true rfl) ?_
  show xx l E _ _ 0 [(0, ic_pt E 114), (1, .int (nI n))] _ _ _
  refine xx_aload_nP (pc := 0) dX12_onBy_0 0 rfl rfl ?_
  refine xx_iconst (pc := 1) dX12_onBy_1 cc_iconst_0 ?_
  refine xx_callV0 (pc := 2) (st := []) sh_114 (cM_laysAside (w := w) (lv := 0) (by omega)) kX12_laysAside vX12_251_12 dX12_onBy_2 rfl rfl (Nat.le_of_ble_eq_true rfl) ⟨Nat.le_of_ble_eq_true rfl, Nat.le_of_ble_eq_true rfl⟩ ⟨Nat.zero_le _, Nat.zero_le _⟩ (ic_kv (fun h_ qw1 => ?_))
  obtain rfl := qw1
  refine xx_nw (fun w1 ew1 => ?_)
  refine xx_iconst (pc := 5) dX12_onBy_5 cc_iconst_0 ?_
  refine xx_istore_n (L' := [(2, .int (nI 0)), (0, ic_pt E 114), (1, .int (nI n))]) (pc := 6) dX12_onBy_6 rfl (Nat.le_of_ble_eq_true rfl) rfl ?_
  refine xx_iconst (pc := 7) dX12_onBy_7 cc_iconst_0 ?_
  refine xx_istore_n (L' := [(3, .int (nI 0)), (2, .int (nI 0)), (0, ic_pt E 114), (1, .int (nI n))]) (pc := 8) dX12_onBy_8 rfl (Nat.le_of_ble_eq_true rfl) rfl ?_
  have lp : ∀ (n_ : Nat) (k sm : Nat) (u : ic_w), k ≤ n → mo_on (w 115) n = sm + mo_on (u 115) (n - k) → In (u 115) → Ru (u 115) → (∀ k, 44 ≤ k → u 115 k = w 115 k) → (∀ a, a ≠ 115 → a ≠ 120 → u a = w1 a) → n - k < n_ → xx l E (ic_fr E mX12_onBy 7 0 0 False SHs (ic_qi (fun v_ h_ => v_ = nI (mo_on (w 115) n) ∧ ∃ w2, h_ = hn w2 ∧ mo_sc w w2))) (0, 0) 9 [(3, .int (nI k)), (2, .int (nI sm)), (0, ic_pt E 114), (1, .int (nI n))] [] SHs (hn u) := by
    intro n_
    induction n_ with
    | zero => intro k sm u hk hs hI_u hR_u h44 hr hm_; exact absurd hm_ (Nat.not_lt_zero _)
    | succ n_ ih_ =>
      intro k sm u hk hs hI_u hR_u h44 hr hm_
      have hrl_u := mo_rest_le (u 115)
      have hn0_u := hI_u.n
      have htt_u := hI_u.t
      refine xx_iload_n (pc := 9) dX12_onBy_9 0 rfl rfl ?_
      refine xx_iload_n (pc := 10) dX12_onBy_10 3 rfl rfl ?_
      refine xx_icmp_geN (pc := 11) 38 dX12_onBy_11 rfl (by omega) (by omega) (fun c53 => ?_) (fun c53 => ?_)
      · have hz : sm + mo_on (u 115) (n - k) = sm := by rw [show n - k = 0 by omega]; rfl
        refine xx_aload_nP (pc := 38) dX12_onBy_38 2 rfl rfl ?_
        refine xx_iconst (pc := 39) dX12_onBy_39 cc_iconst_0 ?_
        refine xx_callV0 (pc := 40) (st := []) sh_114 (cM_laysBack (w := u) (lv := 0) (by omega)) kX12_laysBack vX12_255_12 dX12_onBy_40 rfl rfl (Nat.le_of_ble_eq_true rfl) ⟨Nat.le_of_ble_eq_true rfl, Nat.le_of_ble_eq_true rfl⟩ ⟨Nat.zero_le _, Nat.zero_le _⟩ (ic_kv (fun h_ qw54 => ?_))
        obtain rfl := qw54
        refine xx_nw (fun w54 ew54 => ?_)
        refine xx_iload_n (pc := 43) dX12_onBy_43 1 rfl rfl ?_
        exact xx_iret (pc := 44) dX12_onBy_44 rfl (rfl) (Nat.le_refl _) (Nat.le_refl _) (ic_ri ⟨by rw [hs, hz], w54, rfl, by rw [ew54]; exact mo_back h44 (fun j hj => by rw [hr 117 (by omega) (by omega), ew1, wr_s]; unfold mo_cp; rw [if_pos (by omega)]; congr 1; omega) (fun a q1 q2 q3 => by rw [hr a q1 q3, ew1, wr_n _ q2])⟩)
      · refine xx_aload_nP (pc := 14) dX12_onBy_14 2 rfl rfl ?_
        refine xx_callV0 (pc := 15) (st := []) sh_114 (cM_isOver (w := u) hI_u) kX12_isOver vX12_140_12 dX12_onBy_15 rfl rfl (Nat.le_of_ble_eq_true rfl) ⟨Nat.le_of_ble_eq_true rfl, Nat.le_of_ble_eq_true rfl⟩ ⟨Nat.zero_le _, Nat.zero_le _⟩ (ic_ke ?_)
        refine xx_if_neB (pc := 18) 38 dX12_onBy_18 rfl (fun c56 => ?_) (fun c56 => ?_)
        · have hz : sm + mo_on (u 115) (n - k) = sm := by rw [show n - k = (n - (k + 1)) + 1 by omega, mo_on, if_pos (by omega)]; rfl
          refine xx_aload_nP (pc := 38) dX12_onBy_38 2 rfl rfl ?_
          refine xx_iconst (pc := 39) dX12_onBy_39 cc_iconst_0 ?_
          refine xx_callV0 (pc := 40) (st := []) sh_114 (cM_laysBack (w := u) (lv := 0) (by omega)) kX12_laysBack vX12_255_12 dX12_onBy_40 rfl rfl (Nat.le_of_ble_eq_true rfl) ⟨Nat.le_of_ble_eq_true rfl, Nat.le_of_ble_eq_true rfl⟩ ⟨Nat.zero_le _, Nat.zero_le _⟩ (ic_kv (fun h_ qw57 => ?_))
          obtain rfl := qw57
          refine xx_nw (fun w57 ew57 => ?_)
          refine xx_iload_n (pc := 43) dX12_onBy_43 1 rfl rfl ?_
          exact xx_iret (pc := 44) dX12_onBy_44 rfl (rfl) (Nat.le_refl _) (Nat.le_refl _) (ic_ri ⟨by rw [hs, hz], w57, rfl, by rw [ew57]; exact mo_back h44 (fun j hj => by rw [hr 117 (by omega) (by omega), ew1, wr_s]; unfold mo_cp; rw [if_pos (by omega)]; congr 1; omega) (fun a q1 q2 q3 => by rw [hr a q1 q3, ew1, wr_n _ q2])⟩)
        · refine xx_iload_n (pc := 21) dX12_onBy_21 1 rfl rfl ?_
          refine xx_aload_nP (pc := 22) dX12_onBy_22 2 rfl rfl ?_
          refine xx_aload_nP (pc := 23) dX12_onBy_23 2 rfl rfl ?_
          refine xx_callV0 (pc := 24) (st := [ic_pt E 114, .int (nI sm)]) sh_114 (cM_restAct (w := u) hI_u hR_u) kX12_restAct vX12_245_12 dX12_onBy_24 rfl rfl (Nat.le_of_ble_eq_true rfl) ⟨Nat.le_of_ble_eq_true rfl, Nat.le_of_ble_eq_true rfl⟩ ⟨Nat.zero_le _, Nat.zero_le _⟩ (ic_ke ?_)
          have hwl_x59 := mo_worth_le hI_u (act := mo_rest (u 115)) (by omega)
          refine xx_callV0 (pc := 27) (st := [.int (nI sm)]) sh_114 (cM_goesWith (w := u) (act := mo_rest (u 115)) (by omega) (by omega) hI_u hR_u (by omega)) kX12_goesWith vX12_248_12 dX12_onBy_27 rfl rfl (Nat.le_of_ble_eq_true rfl) ⟨Nat.le_of_ble_eq_true rfl, Nat.le_of_ble_eq_true rfl⟩ ⟨Nat.zero_le _, Nat.zero_le _⟩ (ic_ki (fun v61 h_ qw60 => ?_))
          obtain ⟨rfl, w60, rfl, gw60⟩ := qw60
          have hI_w60 : In (w60 115) := by rw [gw60.1]; exact In_go hI_u (by omega) (by omega)
          have hR_w60 : Ru (w60 115) := by rw [gw60.1]; exact Ru_go hR_u hI_u (by omega)
          refine xx_iaddN (pc := 30) dX12_onBy_30 ?_
          refine xx_istore_n (L' := [(2, .int (nI (sm + (mo_worth (u 115) (mo_rest (u 115)))))), (3, .int (nI k)), (0, ic_pt E 114), (1, .int (nI n))]) (pc := 31) dX12_onBy_31 rfl (Nat.le_of_ble_eq_true rfl) rfl ?_
          refine xx_iincN (L' := [(3, .int (nI (k + 1))), (2, .int (nI (sm + (mo_worth (u 115) (mo_rest (u 115)))))), (0, ic_pt E 114), (1, .int (nI n))]) (pc := 32) dX12_onBy_32 1 rfl cc_iconst_1 (Nat.le_of_ble_eq_true rfl) rfl ?_
          refine xx_goto (pc := 35) 9 dX12_onBy_35 rfl ?_
          have hnx : mo_on (w 115) n = sm + mo_worth (u 115) (mo_rest (u 115)) + mo_on (w60 115) (n - (k + 1)) := by rw [hs, show n - k = (n - (k + 1)) + 1 by omega, mo_on, if_neg (by omega), gw60.1, Nat.add_assoc]
          exact xx_sub [0, 1, 2, 3] rfl (ih_ (k + 1) _ w60 (by omega) hnx hI_w60 hR_w60 (fun k hk => by rw [gw60.1, mo_go_r _ (by omega) (by omega) (by omega)]; exact h44 k hk) (fun a q1 q2 => by rw [gw60.2 a q1 q2]; exact hr a q1 q2) (by omega))
  exact xx_sub [0, 1, 2, 3] rfl (lp (n + 1) 0 0 w1 (by omega) (by rw [Nat.zero_add, ew1, wr_n _ (by omega)]; rfl) (by rw [ew1, wr_n _ (by omega)]; exact hI) (by rw [ew1, wr_n _ (by omega)]; exact hR) (fun k _ => by rw [ew1, wr_n _ (by omega)]) (fun _ _ _ => rfl) (by omega))

set_option maxHeartbeats 4000000 in
set_option maxRecDepth 100000 in
theorem cM_on {l : Launch} {E : ic_E} {w : ic_w} {n : Nat} (hn_ : n < 2 ^ 32) (hI : In (w 115)) (hR : Ru (w 115)) : ic_C l E mX12_on 8 0 0 False [ic_pt E 114, .int (nI n)] SHs (hn w) SHs (ic_qi (fun v_ h_ => v_ = nI (if n ≤ 16 then mo_on (w 115) n else 4294967295) ∧ ∃ w2, h_ = hn w2 ∧ mo_sc w w2)) := by
  refine ic_intro (by decide +kernel) (Nat.le_of_ble_eq_true rfl) ?_
  show xx l E _ _ 0 [(0, ic_pt E 114), (1, .int (nI n))] _ _ _
  refine xx_iload_n (pc := 0) dX12_on_0 1 rfl rfl ?_
  refine xx_i2l (pc := 1) dX12_on_1 ?_
  refine xx_lconst (v := 0) (pc := 2) dX12_on_2 rfl ?_
  refine xx_ldc2 (v := 16) (pc := 3) dX12_on_3 oX12_138 ?_
  refine xx_callS0 (pc := 6) (st := []) (cM_isIn (0 ≤ n ∧ n ≤ 16) (ll_in (lo := 0) (hi := 16) (by omega) (by decide) (by decide) (by omega))) kX12_isIn sX12_66 dX12_on_6 rfl rfl (Nat.le_of_ble_eq_true rfl) ⟨Nat.le_of_ble_eq_true rfl, Nat.le_of_ble_eq_true rfl⟩ ⟨Nat.zero_le _, Nat.zero_le _⟩ (ic_ke ?_)
  refine xx_if_eqB (pc := 9) 20 dX12_on_9 rfl (fun c1 => ?_) (fun c1 => ?_)
  · refine xx_iconst (pc := 20) dX12_on_20 cc_iconst_m1 ?_
    exact xx_iret (pc := 21) dX12_on_21 rfl (rfl) (Nat.le_refl _) (Nat.le_refl _) (ic_ri ⟨by rw [if_neg (by omega)], w, rfl, fun _ _ _ => rfl⟩)
  · refine xx_aload_nP (pc := 12) dX12_on_12 0 rfl rfl ?_
    refine xx_iload_n (pc := 13) dX12_on_13 1 rfl rfl ?_
    have hon_x2 := mo_on_le (s := w 115) n (w 115) hI hR
    refine xx_callV0 (pc := 14) (st := []) sh_114 (cM_onBy (w := w) (n := n) (by omega) hI hR) kX12_onBy vX12_258_12 dX12_on_14 rfl rfl (Nat.le_of_ble_eq_true rfl) ⟨Nat.le_of_ble_eq_true rfl, Nat.le_of_ble_eq_true rfl⟩ ⟨Nat.zero_le _, Nat.zero_le _⟩ (ic_ki (fun v4 h_ qw3 => ?_))
    obtain ⟨rfl, w3, rfl, gw3⟩ := qw3
    have r_w3 : w3 115 = w 115 := gw3 115 (by omega) (by omega)
    have hI_w3 : In (w3 115) := by rw [r_w3]; exact hI
    have hR_w3 : Ru (w3 115) := by rw [r_w3]; exact hR
    refine xx_goto (pc := 17) 21 dX12_on_17 rfl ?_
    exact xx_iret (pc := 21) dX12_on_21 rfl (rfl) (Nat.le_refl _) (Nat.le_refl _) (ic_ri ⟨by rw [if_pos (by omega)], w3, rfl, gw3⟩)

def mo_pw (o : Nat) (s : Nat → Nat) : Bool := mo_over s || decide (it s o 4 = 1)
def mo_pl (o : Nat) (s : Nat → Nat) : Bool := mo_over s || decide (50 ≤ it s o 1)
def mo_when (s : Nat → Nat) (o : Nat) : Nat := if it s o 4 = 1 then 4294967293 else if it (mo_run (mo_pw o) s 17) o 4 = 1 then mo_run (mo_pw o) s 17 1 - 1 else 4294967293
def mo_lost (s : Nat → Nat) (o : Nat) : Nat := if 50 ≤ it (mo_run (mo_pl o) s 17) o 1 then mo_run (mo_pl o) s 17 1 else 4294967293
theorem mo_run_p {P : (Nat → Nat) → Bool} {s : Nat → Nat} {n : Nat} (h : P s = true) (hn : 0 < n) : mo_run P s n = s := by
  rcases n with _ | n
  · omega
  · rw [mo_run, if_pos h]
set_option maxHeartbeats 4000000 in
set_option maxRecDepth 100000 in
theorem cM_when {l : Launch} {E : ic_E} {w : ic_w} {o : Nat} (ho_ : o < 2 ^ 32) (hI : In (w 115)) (hR : Ru (w 115)) : ic_C l E mX12_when 8 0 0 False [ic_pt E 114, .int (nI o)] SHs (hn w) SHs (ic_qi (fun v_ h_ => v_ = nI (if o < w 115 0 then mo_when (w 115) o else 4294967295) ∧ ∃ w2, h_ = hn w2 ∧ mo_sc w w2)) := by
  refine ic_intro (by decide +kernel) (Nat.le_of_ble_eq_true rfl) ?_
  show xx l E _ _ 0 [(0, ic_pt E 114), (1, .int (nI o))] _ _ _
  have hrl_w := mo_rest_le (w 115)
  have hn0_w := hI.n
  have htt_w := hI.t
  refine xx_aload_nP (pc := 0) dX12_when_0 0 rfl rfl ?_
  refine xx_iload_n (pc := 1) dX12_when_1 1 rfl rfl ?_
  refine xx_callV0 (pc := 2) (st := []) sh_114 (cM_isOne (w := w) (o := o) (by omega) hI) kX12_isOne vX12_116_12 dX12_when_2 rfl rfl (Nat.le_of_ble_eq_true rfl) ⟨Nat.le_of_ble_eq_true rfl, Nat.le_of_ble_eq_true rfl⟩ ⟨Nat.zero_le _, Nat.zero_le _⟩ (ic_ke ?_)
  refine xx_if_neB (pc := 5) 10 dX12_when_5 rfl (fun c1 => ?_) (fun c1 => ?_)
  · have ho5 := hI.i (o := o) (by omega)
    refine xx_aload_nP (pc := 10) dX12_when_10 0 rfl rfl ?_
    refine xx_iload_n (pc := 11) dX12_when_11 1 rfl rfl ?_
    refine xx_iconst (pc := 12) dX12_when_12 cc_iconst_4 ?_
    refine xx_callV0 (pc := 13) (st := []) sh_114 (cM_its (w := w) (o := o) (k := 4) (by omega) (by omega)) kX12_its vX12_82_12 dX12_when_13 rfl rfl (Nat.le_of_ble_eq_true rfl) ⟨Nat.le_of_ble_eq_true rfl, Nat.le_of_ble_eq_true rfl⟩ ⟨Nat.zero_le _, Nat.zero_le _⟩ (ic_ke ?_)
    refine xx_iconst (pc := 16) dX12_when_16 cc_iconst_1 ?_
    refine xx_icmp_neN (pc := 17) 23 dX12_when_17 rfl (by omega) (by omega) (fun c2 => ?_) (fun c2 => ?_)
    · refine xx_aload_nP (pc := 23) dX12_when_23 0 rfl rfl ?_
      refine xx_iconst (pc := 24) dX12_when_24 cc_iconst_0 ?_
      refine xx_callV0 (pc := 25) (st := []) sh_114 (cM_laysAside (w := w) (lv := 0) (by omega)) kX12_laysAside vX12_251_12 dX12_when_25 rfl rfl (Nat.le_of_ble_eq_true rfl) ⟨Nat.le_of_ble_eq_true rfl, Nat.le_of_ble_eq_true rfl⟩ ⟨Nat.zero_le _, Nat.zero_le _⟩ (ic_kv (fun h_ qw3 => ?_))
      obtain rfl := qw3
      refine xx_nw (fun w3 ew3 => ?_)
      have lp : ∀ (n_ : Nat) (m : Nat) (u : ic_w), mo_run (mo_pw o) (w 115) 17 = mo_run (mo_pw o) (u 115) m → u 115 2 - u 115 1 < m → In (u 115) → Ru (u 115) → (∀ k, 44 ≤ k → u 115 k = w 115 k) → (∀ a, a ≠ 115 → a ≠ 120 → u a = w3 a) → u 115 0 = w 115 0 → (it (u 115) o 4 = 0 ∨ 1 ≤ u 115 1) → m < n_ → xx l E (ic_fr E mX12_when 8 0 0 False SHs (ic_qi (fun v_ h_ => v_ = nI (if o < w 115 0 then mo_when (w 115) o else 4294967295) ∧ ∃ w2, h_ = hn w2 ∧ mo_sc w w2))) (0, 0) 28 [(0, ic_pt E 114), (1, .int (nI o))] [] SHs (hn u) := by
        intro n_
        induction n_ with
        | zero => intro m u hq hm0 hI_u hR_u h44 hr hN h1t hm_; exact absurd hm_ (Nat.not_lt_zero _)
        | succ n_ ih_ =>
          intro m u hq hm0 hI_u hR_u h44 hr hN h1t hm_
          have hrl_u := mo_rest_le (u 115)
          have hn0_u := hI_u.n
          have htt_u := hI_u.t
          have hou := hI_u.i (o := o) (by omega)
          refine xx_aload_nP (pc := 28) dX12_when_28 0 rfl rfl ?_
          refine xx_callV0 (pc := 29) (st := []) sh_114 (cM_isOver (w := u) hI_u) kX12_isOver vX12_140_12 dX12_when_29 rfl rfl (Nat.le_of_ble_eq_true rfl) ⟨Nat.le_of_ble_eq_true rfl, Nat.le_of_ble_eq_true rfl⟩ ⟨Nat.zero_le _, Nat.zero_le _⟩ (ic_ke ?_)
          refine xx_if_neB (pc := 32) 56 dX12_when_32 rfl (fun c55 => ?_) (fun c55 => ?_)
          · refine xx_aload_nP (pc := 56) dX12_when_56 0 rfl rfl ?_
            refine xx_iload_n (pc := 57) dX12_when_57 1 rfl rfl ?_
            refine xx_iconst (pc := 58) dX12_when_58 cc_iconst_4 ?_
            refine xx_callV0 (pc := 59) (st := []) sh_114 (cM_its (w := u) (o := o) (k := 4) (by omega) (by omega)) kX12_its vX12_82_12 dX12_when_59 rfl rfl (Nat.le_of_ble_eq_true rfl) ⟨Nat.le_of_ble_eq_true rfl, Nat.le_of_ble_eq_true rfl⟩ ⟨Nat.zero_le _, Nat.zero_le _⟩ (ic_ke ?_)
            refine xx_if_neN (pc := 62) 70 dX12_when_62 rfl (by omega) (fun c56 => ?_) (fun c56 => ?_)
            · refine xx_aload_nP (pc := 70) dX12_when_70 0 rfl rfl ?_
              refine xx_getR (pc := 71) 115 dX12_when_71 sh_114 fX12_7_12 rfl rfl (by decide) ?_
              refine xx_iconst (pc := 74) dX12_when_74 cc_iconst_1 ?_
              refine xx_ialdN (pc := 75) dX12_when_75 sh_115 (by omega) (by decide) ?_
              refine xx_iconst (pc := 76) dX12_when_76 cc_iconst_1 ?_
              refine xx_isubN (pc := 77) dX12_when_77 (by omega) ?_
              refine xx_istore_n (L' := [(2, .int (nI ((u 115 1) - 1))), (0, ic_pt E 114), (1, .int (nI o))]) (pc := 78) dX12_when_78 rfl (Nat.le_of_ble_eq_true rfl) rfl ?_
              refine xx_aload_nP (pc := 79) dX12_when_79 1 rfl rfl ?_
              refine xx_iconst (pc := 80) dX12_when_80 cc_iconst_0 ?_
              refine xx_callV0 (pc := 81) (st := []) sh_114 (cM_laysBack (w := u) (lv := 0) (by omega)) kX12_laysBack vX12_255_12 dX12_when_81 rfl rfl (Nat.le_of_ble_eq_true rfl) ⟨Nat.le_of_ble_eq_true rfl, Nat.le_of_ble_eq_true rfl⟩ ⟨Nat.zero_le _, Nat.zero_le _⟩ (ic_kv (fun h_ qw57 => ?_))
              obtain rfl := qw57
              refine xx_nw (fun w57 ew57 => ?_)
              refine xx_iload_n (pc := 84) dX12_when_84 0 rfl rfl ?_
              exact xx_iret (pc := 85) dX12_when_85 rfl (rfl) (Nat.le_refl _) (Nat.le_refl _) (ic_ri ⟨by rw [if_pos (by omega)]; unfold mo_when; rw [if_neg (by omega), show mo_run (mo_pw o) (w 115) 17 = u 115 by rw [hq]; exact mo_run_p (by unfold mo_pw mo_over; simp; omega) (by omega)]; first | (exfalso; omega) | rw [if_pos (by omega)] | rw [if_neg (by omega)], w57, rfl, by rw [ew57]; exact mo_back h44 (fun j hj => by rw [hr 117 (by omega) (by omega), ew3, wr_s]; unfold mo_cp; rw [if_pos (by omega)]; congr 1; omega) (fun a q1 q2 q3 => by rw [hr a q1 q3, ew3, wr_n _ q2])⟩)
            · refine xx_bipush (pc := 65) dX12_when_65 cc_bipush_m3 ?_
              refine xx_goto (pc := 67) 78 dX12_when_67 rfl ?_
              refine xx_istore_n (L' := [(2, .int (nI 4294967293)), (0, ic_pt E 114), (1, .int (nI o))]) (pc := 78) dX12_when_78 rfl (Nat.le_of_ble_eq_true rfl) rfl ?_
              refine xx_aload_nP (pc := 79) dX12_when_79 1 rfl rfl ?_
              refine xx_iconst (pc := 80) dX12_when_80 cc_iconst_0 ?_
              refine xx_callV0 (pc := 81) (st := []) sh_114 (cM_laysBack (w := u) (lv := 0) (by omega)) kX12_laysBack vX12_255_12 dX12_when_81 rfl rfl (Nat.le_of_ble_eq_true rfl) ⟨Nat.le_of_ble_eq_true rfl, Nat.le_of_ble_eq_true rfl⟩ ⟨Nat.zero_le _, Nat.zero_le _⟩ (ic_kv (fun h_ qw59 => ?_))
              obtain rfl := qw59
              refine xx_nw (fun w59 ew59 => ?_)
              refine xx_iload_n (pc := 84) dX12_when_84 0 rfl rfl ?_
              exact xx_iret (pc := 85) dX12_when_85 rfl (rfl) (Nat.le_refl _) (Nat.le_refl _) (ic_ri ⟨by rw [if_pos (by omega)]; unfold mo_when; rw [if_neg (by omega), show mo_run (mo_pw o) (w 115) 17 = u 115 by rw [hq]; exact mo_run_p (by unfold mo_pw mo_over; simp; omega) (by omega)]; first | (exfalso; omega) | rw [if_pos (by omega)] | rw [if_neg (by omega)], w59, rfl, by rw [ew59]; exact mo_back h44 (fun j hj => by rw [hr 117 (by omega) (by omega), ew3, wr_s]; unfold mo_cp; rw [if_pos (by omega)]; congr 1; omega) (fun a q1 q2 q3 => by rw [hr a q1 q3, ew3, wr_n _ q2])⟩)
          · refine xx_aload_nP (pc := 35) dX12_when_35 0 rfl rfl ?_
            refine xx_iload_n (pc := 36) dX12_when_36 1 rfl rfl ?_
            refine xx_iconst (pc := 37) dX12_when_37 cc_iconst_4 ?_
            refine xx_callV0 (pc := 38) (st := []) sh_114 (cM_its (w := u) (o := o) (k := 4) (by omega) (by omega)) kX12_its vX12_82_12 dX12_when_38 rfl rfl (Nat.le_of_ble_eq_true rfl) ⟨Nat.le_of_ble_eq_true rfl, Nat.le_of_ble_eq_true rfl⟩ ⟨Nat.zero_le _, Nat.zero_le _⟩ (ic_ke ?_)
            refine xx_if_neN (pc := 41) 56 dX12_when_41 rfl (by omega) (fun c61 => ?_) (fun c61 => ?_)
            · refine xx_aload_nP (pc := 56) dX12_when_56 0 rfl rfl ?_
              refine xx_iload_n (pc := 57) dX12_when_57 1 rfl rfl ?_
              refine xx_iconst (pc := 58) dX12_when_58 cc_iconst_4 ?_
              refine xx_callV0 (pc := 59) (st := []) sh_114 (cM_its (w := u) (o := o) (k := 4) (by omega) (by omega)) kX12_its vX12_82_12 dX12_when_59 rfl rfl (Nat.le_of_ble_eq_true rfl) ⟨Nat.le_of_ble_eq_true rfl, Nat.le_of_ble_eq_true rfl⟩ ⟨Nat.zero_le _, Nat.zero_le _⟩ (ic_ke ?_)
              refine xx_if_neN (pc := 62) 70 dX12_when_62 rfl (by omega) (fun c62 => ?_) (fun c62 => ?_)
              · refine xx_aload_nP (pc := 70) dX12_when_70 0 rfl rfl ?_
                refine xx_getR (pc := 71) 115 dX12_when_71 sh_114 fX12_7_12 rfl rfl (by decide) ?_
                refine xx_iconst (pc := 74) dX12_when_74 cc_iconst_1 ?_
                refine xx_ialdN (pc := 75) dX12_when_75 sh_115 (by omega) (by decide) ?_
                refine xx_iconst (pc := 76) dX12_when_76 cc_iconst_1 ?_
                refine xx_isubN (pc := 77) dX12_when_77 (by omega) ?_
                refine xx_istore_n (L' := [(2, .int (nI ((u 115 1) - 1))), (0, ic_pt E 114), (1, .int (nI o))]) (pc := 78) dX12_when_78 rfl (Nat.le_of_ble_eq_true rfl) rfl ?_
                refine xx_aload_nP (pc := 79) dX12_when_79 1 rfl rfl ?_
                refine xx_iconst (pc := 80) dX12_when_80 cc_iconst_0 ?_
                refine xx_callV0 (pc := 81) (st := []) sh_114 (cM_laysBack (w := u) (lv := 0) (by omega)) kX12_laysBack vX12_255_12 dX12_when_81 rfl rfl (Nat.le_of_ble_eq_true rfl) ⟨Nat.le_of_ble_eq_true rfl, Nat.le_of_ble_eq_true rfl⟩ ⟨Nat.zero_le _, Nat.zero_le _⟩ (ic_kv (fun h_ qw63 => ?_))
                obtain rfl := qw63
                refine xx_nw (fun w63 ew63 => ?_)
                refine xx_iload_n (pc := 84) dX12_when_84 0 rfl rfl ?_
                exact xx_iret (pc := 85) dX12_when_85 rfl (rfl) (Nat.le_refl _) (Nat.le_refl _) (ic_ri ⟨by rw [if_pos (by omega)]; unfold mo_when; rw [if_neg (by omega), show mo_run (mo_pw o) (w 115) 17 = u 115 by rw [hq]; exact mo_run_p (by unfold mo_pw mo_over; simp; omega) (by omega)]; first | (exfalso; omega) | rw [if_pos (by omega)] | rw [if_neg (by omega)], w63, rfl, by rw [ew63]; exact mo_back h44 (fun j hj => by rw [hr 117 (by omega) (by omega), ew3, wr_s]; unfold mo_cp; rw [if_pos (by omega)]; congr 1; omega) (fun a q1 q2 q3 => by rw [hr a q1 q3, ew3, wr_n _ q2])⟩)
              · refine xx_bipush (pc := 65) dX12_when_65 cc_bipush_m3 ?_
                refine xx_goto (pc := 67) 78 dX12_when_67 rfl ?_
                refine xx_istore_n (L' := [(2, .int (nI 4294967293)), (0, ic_pt E 114), (1, .int (nI o))]) (pc := 78) dX12_when_78 rfl (Nat.le_of_ble_eq_true rfl) rfl ?_
                refine xx_aload_nP (pc := 79) dX12_when_79 1 rfl rfl ?_
                refine xx_iconst (pc := 80) dX12_when_80 cc_iconst_0 ?_
                refine xx_callV0 (pc := 81) (st := []) sh_114 (cM_laysBack (w := u) (lv := 0) (by omega)) kX12_laysBack vX12_255_12 dX12_when_81 rfl rfl (Nat.le_of_ble_eq_true rfl) ⟨Nat.le_of_ble_eq_true rfl, Nat.le_of_ble_eq_true rfl⟩ ⟨Nat.zero_le _, Nat.zero_le _⟩ (ic_kv (fun h_ qw65 => ?_))
                obtain rfl := qw65
                refine xx_nw (fun w65 ew65 => ?_)
                refine xx_iload_n (pc := 84) dX12_when_84 0 rfl rfl ?_
                exact xx_iret (pc := 85) dX12_when_85 rfl (rfl) (Nat.le_refl _) (Nat.le_refl _) (ic_ri ⟨by rw [if_pos (by omega)]; unfold mo_when; rw [if_neg (by omega), show mo_run (mo_pw o) (w 115) 17 = u 115 by rw [hq]; exact mo_run_p (by unfold mo_pw mo_over; simp; omega) (by omega)]; first | (exfalso; omega) | rw [if_pos (by omega)] | rw [if_neg (by omega)], w65, rfl, by rw [ew65]; exact mo_back h44 (fun j hj => by rw [hr 117 (by omega) (by omega), ew3, wr_s]; unfold mo_cp; rw [if_pos (by omega)]; congr 1; omega) (fun a q1 q2 q3 => by rw [hr a q1 q3, ew3, wr_n _ q2])⟩)
            · refine xx_aload_nP (pc := 44) dX12_when_44 0 rfl rfl ?_
              refine xx_aload_nP (pc := 45) dX12_when_45 0 rfl rfl ?_
              refine xx_callV0 (pc := 46) (st := [ic_pt E 114]) sh_114 (cM_restAct (w := u) hI_u hR_u) kX12_restAct vX12_245_12 dX12_when_46 rfl rfl (Nat.le_of_ble_eq_true rfl) ⟨Nat.le_of_ble_eq_true rfl, Nat.le_of_ble_eq_true rfl⟩ ⟨Nat.zero_le _, Nat.zero_le _⟩ (ic_ke ?_)
              have hwl_x67 := mo_worth_le hI_u (act := mo_rest (u 115)) (by omega)
              refine xx_callV0 (pc := 49) (st := []) sh_114 (cM_goesWith (w := u) (act := mo_rest (u 115)) (by omega) (by omega) hI_u hR_u (by omega)) kX12_goesWith vX12_248_12 dX12_when_49 rfl rfl (Nat.le_of_ble_eq_true rfl) ⟨Nat.le_of_ble_eq_true rfl, Nat.le_of_ble_eq_true rfl⟩ ⟨Nat.zero_le _, Nat.zero_le _⟩ (ic_ki (fun v69 h_ qw68 => ?_))
              obtain ⟨rfl, w68, rfl, gw68⟩ := qw68
              have hI_w68 : In (w68 115) := by rw [gw68.1]; exact In_go hI_u (by omega) (by omega)
              have hR_w68 : Ru (w68 115) := by rw [gw68.1]; exact Ru_go hR_u hI_u (by omega)
              refine xx_istore_n (L' := [(2, .int (nI (mo_worth (u 115) (mo_rest (u 115))))), (0, ic_pt E 114), (1, .int (nI o))]) (pc := 52) dX12_when_52 rfl (Nat.le_of_ble_eq_true rfl) rfl ?_
              refine xx_goto (pc := 53) 28 dX12_when_53 rfl ?_
              have hpn : (mo_pw o) (u 115) = false := by unfold mo_pw mo_over; simp; omega
              have hmx : ∃ m2, m = m2 + 1 := by rcases m with _ | m2; exact absurd hm0 (by omega); exact ⟨m2, rfl⟩
              obtain ⟨m2, rfl⟩ := hmx
              exact xx_sub [1, 2] rfl (ih_ m2 w68 (by rw [hq, mo_run, if_neg (by rw [hpn]; decide), gw68.1]) (by rw [gw68.1, mo_go_1, mo_go_r _ (by omega) (by omega) (by omega)]; omega) hI_w68 hR_w68 (fun k hk => by rw [gw68.1, mo_go_r _ (by omega) (by omega) (by omega)]; exact h44 k hk) (fun a q1 q2 => by rw [gw68.2 a q1 q2]; exact hr a q1 q2) (by rw [gw68.1, mo_go_r _ (by omega) (by omega) (by omega)]; exact hN) (by rw [gw68.1, mo_go_1]; omega) (by omega))
      have rW : w3 115 = w 115 := by rw [ew3, wr_n _ (by omega)]
      exact xx_sub [0, 1] rfl (lp 18 17 w3 (by rw [rW]) (by rw [rW]; omega) (by rw [rW]; exact hI) (by rw [rW]; exact hR) (fun k _ => by rw [rW]) (fun _ _ _ => rfl) (by rw [rW]) (by rw [rW]; omega) (by omega))
    · refine xx_bipush (pc := 20) dX12_when_20 cc_bipush_m3 ?_
      exact xx_iret (pc := 22) dX12_when_22 rfl (rfl) (Nat.le_refl _) (Nat.le_refl _) (ic_ri ⟨by unfold mo_when; rw [if_pos (by omega), if_pos (by omega)], w, rfl, fun _ _ _ => rfl⟩)
  · refine xx_iconst (pc := 8) dX12_when_8 cc_iconst_m1 ?_
    exact xx_iret (pc := 9) dX12_when_9 rfl (rfl) (Nat.le_refl _) (Nat.le_refl _) (ic_ri ⟨by rw [if_neg (by omega)], w, rfl, fun _ _ _ => rfl⟩)

set_option maxHeartbeats 4000000 in
set_option maxRecDepth 100000 in
theorem cM_lost {l : Launch} {E : ic_E} {w : ic_w} {o : Nat} (ho_ : o < 2 ^ 32) (hI : In (w 115)) (hR : Ru (w 115)) : ic_C l E mX12_lost 8 0 0 False [ic_pt E 114, .int (nI o)] SHs (hn w) SHs (ic_qi (fun v_ h_ => v_ = nI (if o < w 115 0 then mo_lost (w 115) o else 4294967295) ∧ ∃ w2, h_ = hn w2 ∧ mo_sc w w2)) := by
  refine ic_intro (by decide +kernel) (Nat.le_of_ble_eq_true rfl) ?_
  show xx l E _ _ 0 [(0, ic_pt E 114), (1, .int (nI o))] _ _ _
  have hrl_w := mo_rest_le (w 115)
  have hn0_w := hI.n
  have htt_w := hI.t
  refine xx_aload_nP (pc := 0) dX12_lost_0 0 rfl rfl ?_
  refine xx_iload_n (pc := 1) dX12_lost_1 1 rfl rfl ?_
  refine xx_callV0 (pc := 2) (st := []) sh_114 (cM_isOne (w := w) (o := o) (by omega) hI) kX12_isOne vX12_116_12 dX12_lost_2 rfl rfl (Nat.le_of_ble_eq_true rfl) ⟨Nat.le_of_ble_eq_true rfl, Nat.le_of_ble_eq_true rfl⟩ ⟨Nat.zero_le _, Nat.zero_le _⟩ (ic_ke ?_)
  refine xx_if_neB (pc := 5) 10 dX12_lost_5 rfl (fun c1 => ?_) (fun c1 => ?_)
  · have ho5 := hI.i (o := o) (by omega)
    refine xx_aload_nP (pc := 10) dX12_lost_10 0 rfl rfl ?_
    refine xx_iconst (pc := 11) dX12_lost_11 cc_iconst_0 ?_
    refine xx_callV0 (pc := 12) (st := []) sh_114 (cM_laysAside (w := w) (lv := 0) (by omega)) kX12_laysAside vX12_251_12 dX12_lost_12 rfl rfl (Nat.le_of_ble_eq_true rfl) ⟨Nat.le_of_ble_eq_true rfl, Nat.le_of_ble_eq_true rfl⟩ ⟨Nat.zero_le _, Nat.zero_le _⟩ (ic_kv (fun h_ qw2 => ?_))
    obtain rfl := qw2
    refine xx_nw (fun w2 ew2 => ?_)
    have lp : ∀ (n_ : Nat) (m : Nat) (u : ic_w), mo_run (mo_pl o) (w 115) 17 = mo_run (mo_pl o) (u 115) m → u 115 2 - u 115 1 < m → In (u 115) → Ru (u 115) → (∀ k, 44 ≤ k → u 115 k = w 115 k) → (∀ a, a ≠ 115 → a ≠ 120 → u a = w2 a) → u 115 0 = w 115 0 → m < n_ → xx l E (ic_fr E mX12_lost 8 0 0 False SHs (ic_qi (fun v_ h_ => v_ = nI (if o < w 115 0 then mo_lost (w 115) o else 4294967295) ∧ ∃ w2, h_ = hn w2 ∧ mo_sc w w2))) (0, 0) 15 [(0, ic_pt E 114), (1, .int (nI o))] [] SHs (hn u) := by
      intro n_
      induction n_ with
      | zero => intro m u hq hm0 hI_u hR_u h44 hr hN hm_; exact absurd hm_ (Nat.not_lt_zero _)
      | succ n_ ih_ =>
        intro m u hq hm0 hI_u hR_u h44 hr hN hm_
        have hrl_u := mo_rest_le (u 115)
        have hn0_u := hI_u.n
        have htt_u := hI_u.t
        have hou := hI_u.i (o := o) (by omega)
        refine xx_aload_nP (pc := 15) dX12_lost_15 0 rfl rfl ?_
        refine xx_callV0 (pc := 16) (st := []) sh_114 (cM_isOver (w := u) hI_u) kX12_isOver vX12_140_12 dX12_lost_16 rfl rfl (Nat.le_of_ble_eq_true rfl) ⟨Nat.le_of_ble_eq_true rfl, Nat.le_of_ble_eq_true rfl⟩ ⟨Nat.zero_le _, Nat.zero_le _⟩ (ic_ke ?_)
        refine xx_if_neB (pc := 19) 45 dX12_lost_19 rfl (fun c54 => ?_) (fun c54 => ?_)
        · refine xx_aload_nP (pc := 45) dX12_lost_45 0 rfl rfl ?_
          refine xx_iload_n (pc := 46) dX12_lost_46 1 rfl rfl ?_
          refine xx_iconst (pc := 47) dX12_lost_47 cc_iconst_1 ?_
          refine xx_callV0 (pc := 48) (st := []) sh_114 (cM_its (w := u) (o := o) (k := 1) (by omega) (by omega)) kX12_its vX12_82_12 dX12_lost_48 rfl rfl (Nat.le_of_ble_eq_true rfl) ⟨Nat.le_of_ble_eq_true rfl, Nat.le_of_ble_eq_true rfl⟩ ⟨Nat.zero_le _, Nat.zero_le _⟩ (ic_ke ?_)
          refine xx_bipush (pc := 51) dX12_lost_51 cc_bipush_50 ?_
          refine xx_icmp_geN (pc := 53) 61 dX12_lost_53 rfl (by omega) (by omega) (fun c55 => ?_) (fun c55 => ?_)
          · refine xx_aload_nP (pc := 61) dX12_lost_61 0 rfl rfl ?_
            refine xx_getR (pc := 62) 115 dX12_lost_62 sh_114 fX12_7_12 rfl rfl (by decide) ?_
            refine xx_iconst (pc := 65) dX12_lost_65 cc_iconst_1 ?_
            refine xx_ialdN (pc := 66) dX12_lost_66 sh_115 (by omega) (by decide) ?_
            refine xx_istore_n (L' := [(2, .int (nI (u 115 1))), (0, ic_pt E 114), (1, .int (nI o))]) (pc := 67) dX12_lost_67 rfl (Nat.le_of_ble_eq_true rfl) rfl ?_
            refine xx_aload_nP (pc := 68) dX12_lost_68 1 rfl rfl ?_
            refine xx_iconst (pc := 69) dX12_lost_69 cc_iconst_0 ?_
            refine xx_callV0 (pc := 70) (st := []) sh_114 (cM_laysBack (w := u) (lv := 0) (by omega)) kX12_laysBack vX12_255_12 dX12_lost_70 rfl rfl (Nat.le_of_ble_eq_true rfl) ⟨Nat.le_of_ble_eq_true rfl, Nat.le_of_ble_eq_true rfl⟩ ⟨Nat.zero_le _, Nat.zero_le _⟩ (ic_kv (fun h_ qw56 => ?_))
            obtain rfl := qw56
            refine xx_nw (fun w56 ew56 => ?_)
            refine xx_iload_n (pc := 73) dX12_lost_73 0 rfl rfl ?_
            exact xx_iret (pc := 74) dX12_lost_74 rfl (rfl) (Nat.le_refl _) (Nat.le_refl _) (ic_ri ⟨by rw [if_pos (by omega)]; unfold mo_lost; rw [show mo_run (mo_pl o) (w 115) 17 = u 115 by rw [hq]; exact mo_run_p (by unfold mo_pl mo_over; simp; omega) (by omega)]; first | (exfalso; omega) | rw [if_pos (by omega)] | rw [if_neg (by omega)], w56, rfl, by rw [ew56]; exact mo_back h44 (fun j hj => by rw [hr 117 (by omega) (by omega), ew2, wr_s]; unfold mo_cp; rw [if_pos (by omega)]; congr 1; omega) (fun a q1 q2 q3 => by rw [hr a q1 q3, ew2, wr_n _ q2])⟩)
          · refine xx_bipush (pc := 56) dX12_lost_56 cc_bipush_m3 ?_
            refine xx_goto (pc := 58) 67 dX12_lost_58 rfl ?_
            refine xx_istore_n (L' := [(2, .int (nI 4294967293)), (0, ic_pt E 114), (1, .int (nI o))]) (pc := 67) dX12_lost_67 rfl (Nat.le_of_ble_eq_true rfl) rfl ?_
            refine xx_aload_nP (pc := 68) dX12_lost_68 1 rfl rfl ?_
            refine xx_iconst (pc := 69) dX12_lost_69 cc_iconst_0 ?_
            refine xx_callV0 (pc := 70) (st := []) sh_114 (cM_laysBack (w := u) (lv := 0) (by omega)) kX12_laysBack vX12_255_12 dX12_lost_70 rfl rfl (Nat.le_of_ble_eq_true rfl) ⟨Nat.le_of_ble_eq_true rfl, Nat.le_of_ble_eq_true rfl⟩ ⟨Nat.zero_le _, Nat.zero_le _⟩ (ic_kv (fun h_ qw58 => ?_))
            obtain rfl := qw58
            refine xx_nw (fun w58 ew58 => ?_)
            refine xx_iload_n (pc := 73) dX12_lost_73 0 rfl rfl ?_
            exact xx_iret (pc := 74) dX12_lost_74 rfl (rfl) (Nat.le_refl _) (Nat.le_refl _) (ic_ri ⟨by rw [if_pos (by omega)]; unfold mo_lost; rw [show mo_run (mo_pl o) (w 115) 17 = u 115 by rw [hq]; exact mo_run_p (by unfold mo_pl mo_over; simp; omega) (by omega)]; first | (exfalso; omega) | rw [if_pos (by omega)] | rw [if_neg (by omega)], w58, rfl, by rw [ew58]; exact mo_back h44 (fun j hj => by rw [hr 117 (by omega) (by omega), ew2, wr_s]; unfold mo_cp; rw [if_pos (by omega)]; congr 1; omega) (fun a q1 q2 q3 => by rw [hr a q1 q3, ew2, wr_n _ q2])⟩)
        · refine xx_aload_nP (pc := 22) dX12_lost_22 0 rfl rfl ?_
          refine xx_iload_n (pc := 23) dX12_lost_23 1 rfl rfl ?_
          refine xx_iconst (pc := 24) dX12_lost_24 cc_iconst_1 ?_
          refine xx_callV0 (pc := 25) (st := []) sh_114 (cM_its (w := u) (o := o) (k := 1) (by omega) (by omega)) kX12_its vX12_82_12 dX12_lost_25 rfl rfl (Nat.le_of_ble_eq_true rfl) ⟨Nat.le_of_ble_eq_true rfl, Nat.le_of_ble_eq_true rfl⟩ ⟨Nat.zero_le _, Nat.zero_le _⟩ (ic_ke ?_)
          refine xx_bipush (pc := 28) dX12_lost_28 cc_bipush_50 ?_
          refine xx_icmp_geN (pc := 30) 45 dX12_lost_30 rfl (by omega) (by omega) (fun c60 => ?_) (fun c60 => ?_)
          · refine xx_aload_nP (pc := 45) dX12_lost_45 0 rfl rfl ?_
            refine xx_iload_n (pc := 46) dX12_lost_46 1 rfl rfl ?_
            refine xx_iconst (pc := 47) dX12_lost_47 cc_iconst_1 ?_
            refine xx_callV0 (pc := 48) (st := []) sh_114 (cM_its (w := u) (o := o) (k := 1) (by omega) (by omega)) kX12_its vX12_82_12 dX12_lost_48 rfl rfl (Nat.le_of_ble_eq_true rfl) ⟨Nat.le_of_ble_eq_true rfl, Nat.le_of_ble_eq_true rfl⟩ ⟨Nat.zero_le _, Nat.zero_le _⟩ (ic_ke ?_)
            refine xx_bipush (pc := 51) dX12_lost_51 cc_bipush_50 ?_
            refine xx_icmp_geN (pc := 53) 61 dX12_lost_53 rfl (by omega) (by omega) (fun c61 => ?_) (fun c61 => ?_)
            · refine xx_aload_nP (pc := 61) dX12_lost_61 0 rfl rfl ?_
              refine xx_getR (pc := 62) 115 dX12_lost_62 sh_114 fX12_7_12 rfl rfl (by decide) ?_
              refine xx_iconst (pc := 65) dX12_lost_65 cc_iconst_1 ?_
              refine xx_ialdN (pc := 66) dX12_lost_66 sh_115 (by omega) (by decide) ?_
              refine xx_istore_n (L' := [(2, .int (nI (u 115 1))), (0, ic_pt E 114), (1, .int (nI o))]) (pc := 67) dX12_lost_67 rfl (Nat.le_of_ble_eq_true rfl) rfl ?_
              refine xx_aload_nP (pc := 68) dX12_lost_68 1 rfl rfl ?_
              refine xx_iconst (pc := 69) dX12_lost_69 cc_iconst_0 ?_
              refine xx_callV0 (pc := 70) (st := []) sh_114 (cM_laysBack (w := u) (lv := 0) (by omega)) kX12_laysBack vX12_255_12 dX12_lost_70 rfl rfl (Nat.le_of_ble_eq_true rfl) ⟨Nat.le_of_ble_eq_true rfl, Nat.le_of_ble_eq_true rfl⟩ ⟨Nat.zero_le _, Nat.zero_le _⟩ (ic_kv (fun h_ qw62 => ?_))
              obtain rfl := qw62
              refine xx_nw (fun w62 ew62 => ?_)
              refine xx_iload_n (pc := 73) dX12_lost_73 0 rfl rfl ?_
              exact xx_iret (pc := 74) dX12_lost_74 rfl (rfl) (Nat.le_refl _) (Nat.le_refl _) (ic_ri ⟨by rw [if_pos (by omega)]; unfold mo_lost; rw [show mo_run (mo_pl o) (w 115) 17 = u 115 by rw [hq]; exact mo_run_p (by unfold mo_pl mo_over; simp; omega) (by omega)]; first | (exfalso; omega) | rw [if_pos (by omega)] | rw [if_neg (by omega)], w62, rfl, by rw [ew62]; exact mo_back h44 (fun j hj => by rw [hr 117 (by omega) (by omega), ew2, wr_s]; unfold mo_cp; rw [if_pos (by omega)]; congr 1; omega) (fun a q1 q2 q3 => by rw [hr a q1 q3, ew2, wr_n _ q2])⟩)
            · refine xx_bipush (pc := 56) dX12_lost_56 cc_bipush_m3 ?_
              refine xx_goto (pc := 58) 67 dX12_lost_58 rfl ?_
              refine xx_istore_n (L' := [(2, .int (nI 4294967293)), (0, ic_pt E 114), (1, .int (nI o))]) (pc := 67) dX12_lost_67 rfl (Nat.le_of_ble_eq_true rfl) rfl ?_
              refine xx_aload_nP (pc := 68) dX12_lost_68 1 rfl rfl ?_
              refine xx_iconst (pc := 69) dX12_lost_69 cc_iconst_0 ?_
              refine xx_callV0 (pc := 70) (st := []) sh_114 (cM_laysBack (w := u) (lv := 0) (by omega)) kX12_laysBack vX12_255_12 dX12_lost_70 rfl rfl (Nat.le_of_ble_eq_true rfl) ⟨Nat.le_of_ble_eq_true rfl, Nat.le_of_ble_eq_true rfl⟩ ⟨Nat.zero_le _, Nat.zero_le _⟩ (ic_kv (fun h_ qw64 => ?_))
              obtain rfl := qw64
              refine xx_nw (fun w64 ew64 => ?_)
              refine xx_iload_n (pc := 73) dX12_lost_73 0 rfl rfl ?_
              exact xx_iret (pc := 74) dX12_lost_74 rfl (rfl) (Nat.le_refl _) (Nat.le_refl _) (ic_ri ⟨by rw [if_pos (by omega)]; unfold mo_lost; rw [show mo_run (mo_pl o) (w 115) 17 = u 115 by rw [hq]; exact mo_run_p (by unfold mo_pl mo_over; simp; omega) (by omega)]; first | (exfalso; omega) | rw [if_pos (by omega)] | rw [if_neg (by omega)], w64, rfl, by rw [ew64]; exact mo_back h44 (fun j hj => by rw [hr 117 (by omega) (by omega), ew2, wr_s]; unfold mo_cp; rw [if_pos (by omega)]; congr 1; omega) (fun a q1 q2 q3 => by rw [hr a q1 q3, ew2, wr_n _ q2])⟩)
          · refine xx_aload_nP (pc := 33) dX12_lost_33 0 rfl rfl ?_
            refine xx_aload_nP (pc := 34) dX12_lost_34 0 rfl rfl ?_
            refine xx_callV0 (pc := 35) (st := [ic_pt E 114]) sh_114 (cM_restAct (w := u) hI_u hR_u) kX12_restAct vX12_245_12 dX12_lost_35 rfl rfl (Nat.le_of_ble_eq_true rfl) ⟨Nat.le_of_ble_eq_true rfl, Nat.le_of_ble_eq_true rfl⟩ ⟨Nat.zero_le _, Nat.zero_le _⟩ (ic_ke ?_)
            have hwl_x66 := mo_worth_le hI_u (act := mo_rest (u 115)) (by omega)
            refine xx_callV0 (pc := 38) (st := []) sh_114 (cM_goesWith (w := u) (act := mo_rest (u 115)) (by omega) (by omega) hI_u hR_u (by omega)) kX12_goesWith vX12_248_12 dX12_lost_38 rfl rfl (Nat.le_of_ble_eq_true rfl) ⟨Nat.le_of_ble_eq_true rfl, Nat.le_of_ble_eq_true rfl⟩ ⟨Nat.zero_le _, Nat.zero_le _⟩ (ic_ki (fun v68 h_ qw67 => ?_))
            obtain ⟨rfl, w67, rfl, gw67⟩ := qw67
            have hI_w67 : In (w67 115) := by rw [gw67.1]; exact In_go hI_u (by omega) (by omega)
            have hR_w67 : Ru (w67 115) := by rw [gw67.1]; exact Ru_go hR_u hI_u (by omega)
            refine xx_istore_n (L' := [(2, .int (nI (mo_worth (u 115) (mo_rest (u 115))))), (0, ic_pt E 114), (1, .int (nI o))]) (pc := 41) dX12_lost_41 rfl (Nat.le_of_ble_eq_true rfl) rfl ?_
            refine xx_goto (pc := 42) 15 dX12_lost_42 rfl ?_
            have hpn : (mo_pl o) (u 115) = false := by unfold mo_pl mo_over; simp; omega
            have hmx : ∃ m2, m = m2 + 1 := by rcases m with _ | m2; exact absurd hm0 (by omega); exact ⟨m2, rfl⟩
            obtain ⟨m2, rfl⟩ := hmx
            exact xx_sub [1, 2] rfl (ih_ m2 w67 (by rw [hq, mo_run, if_neg (by rw [hpn]; decide), gw67.1]) (by rw [gw67.1, mo_go_1, mo_go_r _ (by omega) (by omega) (by omega)]; omega) hI_w67 hR_w67 (fun k hk => by rw [gw67.1, mo_go_r _ (by omega) (by omega) (by omega)]; exact h44 k hk) (fun a q1 q2 => by rw [gw67.2 a q1 q2]; exact hr a q1 q2) (by rw [gw67.1, mo_go_r _ (by omega) (by omega) (by omega)]; exact hN) (by omega))
    have rW : w2 115 = w 115 := by rw [ew2, wr_n _ (by omega)]
    exact xx_sub [0, 1] rfl (lp 18 17 w2 (by rw [rW]) (by rw [rW]; omega) (by rw [rW]; exact hI) (by rw [rW]; exact hR) (fun k _ => by rw [rW]) (fun _ _ _ => rfl) (by rw [rW]) (by omega))
  · refine xx_iconst (pc := 8) dX12_lost_8 cc_iconst_m1 ?_
    exact xx_iret (pc := 9) dX12_lost_9 rfl (rfl) (Nat.le_refl _) (Nat.le_refl _) (ic_ri ⟨by rw [if_neg (by omega)], w, rfl, fun _ _ _ => rfl⟩)

