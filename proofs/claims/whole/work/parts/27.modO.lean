/-! the game of two -/
def mo_ab (k : Nat) (f : Nat → Nat) : Nat → Nat
  | 0 => 0
  | n + 1 => if (k % 2 = 0 ∧ f (mo_ab k f n) < f (n + 1)) ∨ (¬ k % 2 = 0 ∧ f (n + 1) < f (mo_ab k f n)) then n + 1 else mo_ab k f n
theorem mo_ab_le (k : Nat) (f : Nat → Nat) : ∀ n, mo_ab k f n ≤ n
  | 0 => Nat.le_refl _
  | n + 1 => by
    have := mo_ab_le k f n
    rw [mo_ab]
    split <;> omega
def mo_gv : Nat → (Nat → Nat) → Nat → Nat
  | 0, _, _ => 0
  | m + 1, s, k => if s 2 ≤ s 1 then 0 else (fun a => mo_worth s a + mo_gv m (mo_go s a) (k + 1)) (mo_ab k (fun a => mo_worth s a + mo_gv m (mo_go s a) (k + 1)) (s 0))
def mo_gf (m : Nat) (s : Nat → Nat) (k a : Nat) : Nat := mo_worth s a + mo_gv m (mo_go s a) (k + 1)
theorem mo_gv_s (m : Nat) (s : Nat → Nat) (k : Nat) : mo_gv (m + 1) s k = if s 2 ≤ s 1 then 0 else mo_gf m s k (mo_ab k (mo_gf m s k) (s 0)) := rfl
theorem mo_gv_le : ∀ (m : Nat) (s : Nat → Nat) (k : Nat), In s → Ru s → mo_gv m s k ≤ 33 * m
  | 0, _, _, _, _ => Nat.zero_le _
  | m + 1, s, k, h, r => by
    rw [mo_gv_s]
    split
    · omega
    · have h0 := h.n
      have h1 := mo_ab_le k (mo_gf m s k) (s 0)
      have h2 := mo_worth_le h (act := mo_ab k (mo_gf m s k) (s 0)) (by omega)
      have h3 := mo_gv_le m _ (k + 1) (In_go h (act := mo_ab k (mo_gf m s k) (s 0)) (by omega) (by omega)) (Ru_go r h (by omega))
      show mo_worth s _ + mo_gv m _ _ ≤ _
      omega
theorem mo_gf_le {m : Nat} {s : Nat → Nat} {k a : Nat} (h : In s) (r : Ru s) (ha : a ≤ 6) (ht : s 1 < s 2) : mo_gf m s k a ≤ 33 + 33 * m := by
  have h2 := mo_worth_le h (act := a) ha
  have h3 := mo_gv_le m _ (k + 1) (In_go h ha ht) (Ru_go r h ha)
  unfold mo_gf
  omega
def mo_vk (k : Nat) (w w2 : ic_w) : Prop := (∀ a, a ≠ 114 → a ≠ 117 → a ≠ 120 → w2 a = w a) ∧ (∀ j, j ≠ 22 → w2 114 j = w 114 j) ∧ ∀ j, j < 44 * k → w2 117 j = w 117 j
theorem mo_vk_rf (k : Nat) (w : ic_w) : mo_vk k w w := ⟨fun _ _ _ _ => rfl, fun _ _ => rfl, fun _ _ => rfl⟩
theorem mo_s2_vk {k : Nat} {w u : ic_w} (h : mo_vk k w u) : mo_s2 w u := by
  refine ⟨fun a q => ?_, fun j q => h.2.1 j ?_⟩
  · have z := of_decide_eq_true q
    exact h.1 a (by omega) (by omega) (by omega)
  · have z := of_decide_eq_true q
    omega

set_option maxHeartbeats 4000000 in
set_option maxRecDepth 100000 in
theorem cM_valueFrom {l : Launch} {E : ic_E} : ∀ (m : Nat) {w : ic_w} {k n : Nat}, k + m = n → n ≤ 4 → In (w 115) → Ru (w 115) → ic_C l E mX12_valueFrom (m + 10) 0 0 False [ic_pt E 114, .int (nI k), .int (nI n)] SHs (hn w) SHs (ic_qi (fun v_ h_ => v_ = nI (mo_gv m (w 115) k) ∧ ∃ w2, h_ = hn w2 ∧ mo_vk k w w2 ∧ ∀ m2, m = m2 + 1 → w 115 1 < w 115 2 → w2 114 22 = mo_ab k (mo_gf m2 (w 115) k) (w 115 0))) := by
  intro m
  induction m with
  | zero =>
    intro w k n hkn hn4 hI hR
    refine ic_intro (by decide +kernel) (Nat.le_of_ble_eq_true rfl) ?_
    show xx l E _ _ 0 [(0, ic_pt E 114), (1, .int (nI k)), (2, .int (nI n))] _ _ _
    refine xx_iload_n (pc := 0) dX12_valueFrom_0 1 rfl rfl ?_
    refine xx_iload_n (pc := 1) dX12_valueFrom_1 2 rfl rfl ?_
    refine xx_icmp_eqN (pc := 2) 12 dX12_valueFrom_2 rfl (by omega) (by omega) (fun c1 => ?_) (fun c1 => by exfalso; omega)
    refine xx_iconst (pc := 12) dX12_valueFrom_12 cc_iconst_0 ?_
    exact xx_iret (pc := 13) dX12_valueFrom_13 rfl (rfl) (Nat.le_refl _) (Nat.le_refl _) (ic_ri ⟨rfl, w, rfl, mo_vk_rf k w, fun m2 hm2 => absurd hm2 (by omega)⟩)
  | succ m ih =>
    intro w k n hkn hn4 hI hR
    refine ic_intro (by decide +kernel) (Nat.le_of_ble_eq_true rfl) ?_
    show xx l E _ _ 0 [(0, ic_pt E 114), (1, .int (nI k)), (2, .int (nI n))] _ _ _
    have htt := hI.t
    have hn0 := hI.n
    refine xx_iload_n (pc := 0) dX12_valueFrom_0 1 rfl rfl ?_
    refine xx_iload_n (pc := 1) dX12_valueFrom_1 2 rfl rfl ?_
    refine xx_icmp_eqN (pc := 2) 12 dX12_valueFrom_2 rfl (by omega) (by omega) (fun c1 => by exfalso; omega) (fun c1 => ?_)
    refine xx_aload_nP (pc := 5) dX12_valueFrom_5 0 rfl rfl ?_
    refine xx_callV0 (pc := 6) (st := []) sh_114 (cM_isOver (w := w) hI) kX12_isOver vX12_140_12 dX12_valueFrom_6 rfl rfl (Nat.le_of_ble_eq_true rfl) (pl_hR (d := m + 1 + 10) (by omega) (Nat.le_of_ble_eq_true rfl)) ⟨Nat.zero_le _, Nat.zero_le _⟩ (ic_ke ?_)
    refine xx_if_eqB (pc := 9) 14 dX12_valueFrom_9 rfl (fun c2 => ?_) (fun c2 => ?_)
    · refine xx_aload_nP (pc := 14) dX12_valueFrom_14 0 rfl rfl ?_
      refine xx_iload_n (pc := 15) dX12_valueFrom_15 1 rfl rfl ?_
      refine xx_callV0 (pc := 16) (st := []) sh_114 (cM_laysAside (w := w) (lv := k) (by omega)) kX12_laysAside vX12_251_12 dX12_valueFrom_16 rfl rfl (Nat.le_of_ble_eq_true rfl) (pl_hR (d := m + 1 + 10) (by omega) (Nat.le_of_ble_eq_true rfl)) ⟨Nat.zero_le _, Nat.zero_le _⟩ (ic_kv (fun h_ qw3 => ?_))
      obtain rfl := qw3
      refine xx_nw (fun w3 ew3 => ?_)
      refine xx_iconst (pc := 19) dX12_valueFrom_19 cc_iconst_0 ?_
      refine xx_istore_n (L' := [(3, .int (nI 0)), (0, ic_pt E 114), (1, .int (nI k)), (2, .int (nI n))]) (pc := 20) dX12_valueFrom_20 rfl (Nat.le_of_ble_eq_true rfl) rfl ?_
      refine xx_iconst (pc := 21) dX12_valueFrom_21 cc_iconst_m1 ?_
      refine xx_istore (L' := [(4, .int (nI 4294967295)), (3, .int (nI 0)), (0, ic_pt E 114), (1, .int (nI k)), (2, .int (nI n))]) (pc := 22) dX12_valueFrom_22 (Nat.le_of_ble_eq_true rfl) rfl ?_
      refine xx_iconst (pc := 24) dX12_valueFrom_24 cc_iconst_0 ?_
      refine xx_istore (L' := [(5, .int (nI 0)), (4, .int (nI 4294967295)), (3, .int (nI 0)), (0, ic_pt E 114), (1, .int (nI k)), (2, .int (nI n))]) (pc := 25) dX12_valueFrom_25 (Nat.le_of_ble_eq_true rfl) rfl ?_
      have r_w3 : w3 115 = w 115 := by rw [ew3, wr_n _ (by omega)]
      have hI_w3 : In (w3 115) := by rw [r_w3]; exact hI
      have hR_w3 : Ru (w3 115) := by rw [r_w3]; exact hR
      have e0_w3 : w3 115 0 = w 115 0 := by rw [r_w3]
      have e1_w3 : w3 115 1 < w3 115 2 := by rw [r_w3]; omega
      have k_w3 : mo_vk k w w3 := ⟨fun b q1 q2 q3 => by rw [ew3, wr_n _ q2], fun j q => by rw [ew3, wr_n _ (by omega)], fun j q => by rw [ew3, wr_s]; unfold mo_cp; rw [if_neg (by omega)]⟩
      have has0 : ∀ j, j < 44 → w3 117 (44 * k + j) = w 115 j := fun j hj => by rw [ew3, wr_s]; unfold mo_cp; rw [if_pos (by omega)]; congr 1; omega
      have lp : ∀ (n_ : Nat) (a ag bs : Nat) (u : ic_w), 1 ≤ a → a ≤ w 115 0 + 1 → ag = mo_ab k (mo_gf m (w 115) k) (a - 1) → bs = (mo_gf m (w 115) k) (mo_ab k (mo_gf m (w 115) k) (a - 1)) → mo_vk k w u → (∀ j, j < 44 → u 117 (44 * k + j) = w 115 j) → w 115 0 + 1 - a < n_ → xx l E (ic_fr E mX12_valueFrom (m + 1 + 10) 0 0 False SHs (ic_qi (fun v_ h_ => v_ = nI (mo_gv (m + 1) (w 115) k) ∧ ∃ w2, h_ = hn w2 ∧ mo_vk k w w2 ∧ ∀ m2, (m + 1) = m2 + 1 → w 115 1 < w 115 2 → w2 114 22 = mo_ab k (mo_gf m2 (w 115) k) (w 115 0)))) (0, 0) 27 [(5, .int (nI a)), (4, .int (nI ag)), (3, .int (nI bs)), (0, ic_pt E 114), (1, .int (nI k)), (2, .int (nI n))] [] SHs (hn u) := by
        intro n_
        induction n_ with
        | zero => intro a ag bs u ha1 hal hb1 hb2 hk_u has hm_; exact absurd hm_ (Nat.not_lt_zero _)
        | succ n_ ih_ =>
          intro a ag bs u ha1 hal hb1 hb2 hk_u has hm_
          have r_u : u 115 = w 115 := hk_u.1 115 (by omega) (by omega) (by omega)
          have hI_u : In (u 115) := by rw [r_u]; exact hI
          have hR_u : Ru (u 115) := by rw [r_u]; exact hR
          have e0 : u 115 0 = w 115 0 := by rw [r_u]
          have e1 : u 115 1 < u 115 2 := by rw [r_u]; omega
          have hagl : ag ≤ 6 := by rw [hb1]; have := mo_ab_le k (mo_gf m (w 115) k) (a - 1); omega
          have hbl : bs ≤ 33 + 33 * m := by rw [hb2]; have := mo_ab_le k (mo_gf m (w 115) k) (a - 1); exact mo_gf_le hI hR (by omega) (by omega)
          refine xx_iload (pc := 27) dX12_valueFrom_27 0 rfl ?_
          refine xx_aload_nP (pc := 29) dX12_valueFrom_29 3 rfl rfl ?_
          refine xx_getR (pc := 30) 115 dX12_valueFrom_30 sh_114 fX12_7_12 rfl rfl (by decide) ?_
          refine xx_iconst (pc := 33) dX12_valueFrom_33 cc_iconst_0 ?_
          refine xx_ialdN (pc := 34) dX12_valueFrom_34 sh_115 (by omega) (by decide) ?_
          refine xx_icmp_gtN (pc := 35) 103 dX12_valueFrom_35 rfl (by omega) (by omega) (fun c55 => ?_) (fun c55 => ?_)
          · refine xx_aload_nP (pc := 103) dX12_valueFrom_103 3 rfl rfl ?_
            refine xx_iload (pc := 104) dX12_valueFrom_104 1 rfl ?_
            refine xx_putN (pc := 106) dX12_valueFrom_106 sh_114 fX12_315_12 rfl rfl ?_
            refine xx_nw (fun w56 ew56 => ?_)
            refine xx_iload_n (pc := 109) dX12_valueFrom_109 2 rfl rfl ?_
            exact xx_iret (pc := 110) dX12_valueFrom_110 rfl (rfl) (Nat.le_refl _) (Nat.le_refl _) (ic_ri ⟨by rw [mo_gv_s, if_neg (by omega), hb2, show a - 1 = w 115 0 by omega], w56, rfl, ⟨fun b q1 q2 q3 => by rw [ew56, wu_row _ _ _ q1]; exact hk_u.1 b q1 q2 q3, fun j q => by rw [ew56, wu_k _ _ _ _ q]; exact hk_u.2.1 j q, fun j q => by rw [ew56, wu_o _ _ _ _ (by omega)]; exact hk_u.2.2 j q⟩, fun m2 hm2 _ => by rw [ew56, wu_s, hb1, show m2 = m by omega, show a - 1 = w 115 0 by omega]⟩)
          · refine xx_aload_nP (pc := 38) dX12_valueFrom_38 3 rfl rfl ?_
            refine xx_iload (pc := 39) dX12_valueFrom_39 0 rfl ?_
            have hwl_x57 := mo_worth_le hI_u (act := a) (by omega)
            refine xx_callV0 (pc := 41) (st := []) sh_114 (cM_goesWith (w := u) (act := a) (by omega) (by omega) hI_u hR_u (by omega)) kX12_goesWith vX12_248_12 dX12_valueFrom_41 rfl rfl (Nat.le_of_ble_eq_true rfl) (pl_hR (d := m + 1 + 10) (by omega) (Nat.le_of_ble_eq_true rfl)) ⟨Nat.zero_le _, Nat.zero_le _⟩ (ic_ki (fun v59 h_ qw58 => ?_))
            obtain ⟨rfl, w58, rfl, gw58⟩ := qw58
            have hI_w58 : In (w58 115) := by rw [gw58.1]; exact In_go hI_u (by omega) (by omega)
            have hR_w58 : Ru (w58 115) := by rw [gw58.1]; exact Ru_go hR_u hI_u (by omega)
            refine xx_istore (L' := [(6, .int (nI (mo_worth (u 115) a))), (5, .int (nI a)), (4, .int (nI ag)), (3, .int (nI bs)), (0, ic_pt E 114), (1, .int (nI k)), (2, .int (nI n))]) (pc := 44) dX12_valueFrom_44 (Nat.le_of_ble_eq_true rfl) rfl ?_
            refine xx_iload (pc := 46) dX12_valueFrom_46 0 rfl ?_
            refine xx_aload_nP (pc := 48) dX12_valueFrom_48 4 rfl rfl ?_
            refine xx_iload_n (pc := 49) dX12_valueFrom_49 5 rfl rfl ?_
            refine xx_iconst (pc := 50) dX12_valueFrom_50 cc_iconst_1 ?_
            refine xx_iaddN (pc := 51) dX12_valueFrom_51 ?_
            refine xx_iload_n (pc := 52) dX12_valueFrom_52 6 rfl rfl ?_
            refine xx_callV0 (pc := 53) (st := [.int (nI (mo_worth (u 115) a))]) sh_114 (ih (w := w58) (k := k + 1) (n := n) (by omega) (by omega) hI_w58 hR_w58) kX12_valueFrom vX12_312_12 dX12_valueFrom_53 rfl rfl (Nat.le_of_ble_eq_true rfl) (pl_hR (d := m + 1 + 10) (by omega) (Nat.le_of_ble_eq_true rfl)) ⟨Nat.zero_le _, Nat.zero_le _⟩ (ic_ki (fun v61 h_ qw60 => ?_))
            obtain ⟨rfl, w60, rfl, k_w60, f_w60⟩ := qw60
            have hv : mo_worth (u 115) a + mo_gv m (w58 115) (k + 1) = (mo_gf m (w 115) k) a := by rw [gw58.1, r_u]; rfl
            have hvl : (mo_gf m (w 115) k) a ≤ 33 + 33 * m := mo_gf_le hI hR (by omega) (by omega)
            refine xx_iaddN (pc := 56) dX12_valueFrom_56 ?_
            refine xx_istore (L' := [(7, .int (nI ((mo_worth (u 115) a) + (mo_gv m (w58 115) (k + 1))))), (6, .int (nI (mo_worth (u 115) a))), (5, .int (nI a)), (4, .int (nI ag)), (3, .int (nI bs)), (0, ic_pt E 114), (1, .int (nI k)), (2, .int (nI n))]) (pc := 57) dX12_valueFrom_57 (Nat.le_of_ble_eq_true rfl) rfl ?_
            refine xx_aload_nP (pc := 59) dX12_valueFrom_59 5 rfl rfl ?_
            refine xx_iload_n (pc := 60) dX12_valueFrom_60 6 rfl rfl ?_
            refine xx_callV0 (pc := 61) (st := []) sh_114 (cM_laysBack (w := w60) (lv := k) (by omega)) kX12_laysBack vX12_255_12 dX12_valueFrom_61 rfl rfl (Nat.le_of_ble_eq_true rfl) (pl_hR (d := m + 1 + 10) (by omega) (Nat.le_of_ble_eq_true rfl)) ⟨Nat.zero_le _, Nat.zero_le _⟩ (ic_kv (fun h_ qw62 => ?_))
            obtain rfl := qw62
            refine xx_nw (fun w62 ew62 => ?_)
            refine xx_iload (pc := 64) dX12_valueFrom_64 3 rfl ?_
            refine xx_if_ltN (pc := 66) 90 dX12_valueFrom_66 rfl (by omega) (fun c64 => by exfalso; omega) (fun c64 => ?_)
            refine xx_iload_n (pc := 69) dX12_valueFrom_69 6 rfl rfl ?_
            refine xx_iconst (pc := 70) dX12_valueFrom_70 cc_iconst_2 ?_
            refine xx_iremN (pc := 71) dX12_valueFrom_71 (by omega) (by omega) (by omega) ?_
            refine xx_if_neN (pc := 72) 84 dX12_valueFrom_72 rfl (by omega) (fun c65 => ?_) (fun c65 => ?_)
            · refine xx_iload (pc := 84) dX12_valueFrom_84 0 rfl ?_
              refine xx_iload_n (pc := 86) dX12_valueFrom_86 4 rfl rfl ?_
              refine xx_icmp_geN (pc := 87) 97 dX12_valueFrom_87 rfl (by omega) (by omega) (fun c66 => ?_) (fun c66 => ?_)
              · refine xx_iincN (L' := [(5, .int (nI (a + 1))), (7, .int (nI ((mo_worth (u 115) a) + (mo_gv m (w58 115) (k + 1))))), (6, .int (nI (mo_worth (u 115) a))), (4, .int (nI ag)), (3, .int (nI bs)), (0, ic_pt E 114), (1, .int (nI k)), (2, .int (nI n))]) (pc := 97) dX12_valueFrom_97 2 rfl cc_iconst_1 (Nat.le_of_ble_eq_true rfl) rfl ?_
                refine xx_goto (pc := 100) 27 dX12_valueFrom_100 rfl ?_
                have h115 : w62 115 = w 115 := by
                  rw [ew62, wr_s]
                  funext j
                  unfold mo_cp
                  by_cases z : j < 44
                  · rw [if_pos (by omega), Nat.sub_zero, k_w60.2.2 _ (by omega), gw58.2 117 (by omega) (by omega)]
                    exact has j z
                  · rw [if_neg (by omega), k_w60.1 115 (by omega) (by omega) (by omega), gw58.1, mo_go_r _ (by omega) (by omega) (by omega), r_u]
                have hk4 : mo_vk k w w62 := by
                  refine ⟨fun b q1 q2 q3 => ?_, fun j q => ?_, fun j q => ?_⟩
                  · by_cases z : b = 115
                    · rw [z]
                      exact h115
                    · rw [ew62, wr_n _ z, k_w60.1 b q1 q2 q3, gw58.2 b z q3]
                      exact hk_u.1 b q1 q2 q3
                  · rw [ew62, wr_n _ (by omega), k_w60.2.1 j q, gw58.2 114 (by omega) (by omega)]
                    exact hk_u.2.1 j q
                  · rw [ew62, wr_n _ (by omega), k_w60.2.2 j (by omega), gw58.2 117 (by omega) (by omega)]
                    exact hk_u.2.2 j q
                have has4 : ∀ j, j < 44 → w62 117 (44 * k + j) = w 115 j := fun j hj => by rw [ew62, wr_n _ (by omega), k_w60.2.2 _ (by omega), gw58.2 117 (by omega) (by omega)]; exact has j hj
                have hst : ag = mo_ab k (mo_gf m (w 115) k) a ∧ (bs) = (mo_gf m (w 115) k) (mo_ab k (mo_gf m (w 115) k) a) := by
                  obtain ⟨z, rfl⟩ : ∃ z, a = z + 1 := ⟨a - 1, by omega⟩
                  rw [Nat.add_sub_cancel] at hb1 hb2
                  rw [← hb1] at hb2
                  have hab : mo_ab k (mo_gf m (w 115) k) (z + 1) = ag := by
                    rw [mo_ab, ← hb1, ← hb2]
                    exact if_neg (by omega)
                  rw [hab]
                  exact ⟨rfl, hb2⟩
                exact xx_sub [0, 3, 4, 5, 6, 7] rfl (ih_ (a + 1) _ _ w62 (by omega) (by omega) (by rw [Nat.add_sub_cancel]; exact hst.1) (by rw [Nat.add_sub_cancel]; exact hst.2) hk4 has4 (by omega))
              · refine xx_iload (pc := 90) dX12_valueFrom_90 0 rfl ?_
                refine xx_istore_n (L' := [(3, .int (nI ((mo_worth (u 115) a) + (mo_gv m (w58 115) (k + 1))))), (7, .int (nI ((mo_worth (u 115) a) + (mo_gv m (w58 115) (k + 1))))), (6, .int (nI (mo_worth (u 115) a))), (5, .int (nI a)), (4, .int (nI ag)), (0, ic_pt E 114), (1, .int (nI k)), (2, .int (nI n))]) (pc := 92) dX12_valueFrom_92 rfl (Nat.le_of_ble_eq_true rfl) rfl ?_
                refine xx_iload (pc := 93) dX12_valueFrom_93 3 rfl ?_
                refine xx_istore (L' := [(4, .int (nI a)), (3, .int (nI ((mo_worth (u 115) a) + (mo_gv m (w58 115) (k + 1))))), (7, .int (nI ((mo_worth (u 115) a) + (mo_gv m (w58 115) (k + 1))))), (6, .int (nI (mo_worth (u 115) a))), (5, .int (nI a)), (0, ic_pt E 114), (1, .int (nI k)), (2, .int (nI n))]) (pc := 95) dX12_valueFrom_95 (Nat.le_of_ble_eq_true rfl) rfl ?_
                refine xx_iincN (L' := [(5, .int (nI (a + 1))), (4, .int (nI a)), (3, .int (nI ((mo_worth (u 115) a) + (mo_gv m (w58 115) (k + 1))))), (7, .int (nI ((mo_worth (u 115) a) + (mo_gv m (w58 115) (k + 1))))), (6, .int (nI (mo_worth (u 115) a))), (0, ic_pt E 114), (1, .int (nI k)), (2, .int (nI n))]) (pc := 97) dX12_valueFrom_97 4 rfl cc_iconst_1 (Nat.le_of_ble_eq_true rfl) rfl ?_
                refine xx_goto (pc := 100) 27 dX12_valueFrom_100 rfl ?_
                have h115 : w62 115 = w 115 := by
                  rw [ew62, wr_s]
                  funext j
                  unfold mo_cp
                  by_cases z : j < 44
                  · rw [if_pos (by omega), Nat.sub_zero, k_w60.2.2 _ (by omega), gw58.2 117 (by omega) (by omega)]
                    exact has j z
                  · rw [if_neg (by omega), k_w60.1 115 (by omega) (by omega) (by omega), gw58.1, mo_go_r _ (by omega) (by omega) (by omega), r_u]
                have hk4 : mo_vk k w w62 := by
                  refine ⟨fun b q1 q2 q3 => ?_, fun j q => ?_, fun j q => ?_⟩
                  · by_cases z : b = 115
                    · rw [z]
                      exact h115
                    · rw [ew62, wr_n _ z, k_w60.1 b q1 q2 q3, gw58.2 b z q3]
                      exact hk_u.1 b q1 q2 q3
                  · rw [ew62, wr_n _ (by omega), k_w60.2.1 j q, gw58.2 114 (by omega) (by omega)]
                    exact hk_u.2.1 j q
                  · rw [ew62, wr_n _ (by omega), k_w60.2.2 j (by omega), gw58.2 117 (by omega) (by omega)]
                    exact hk_u.2.2 j q
                have has4 : ∀ j, j < 44 → w62 117 (44 * k + j) = w 115 j := fun j hj => by rw [ew62, wr_n _ (by omega), k_w60.2.2 _ (by omega), gw58.2 117 (by omega) (by omega)]; exact has j hj
                have hst : a = mo_ab k (mo_gf m (w 115) k) a ∧ ((mo_worth (u 115) a) + (mo_gv m (w58 115) (k + 1))) = (mo_gf m (w 115) k) (mo_ab k (mo_gf m (w 115) k) a) := by
                  obtain ⟨z, rfl⟩ : ∃ z, a = z + 1 := ⟨a - 1, by omega⟩
                  rw [Nat.add_sub_cancel] at hb1 hb2
                  rw [← hb1] at hb2
                  have hab : mo_ab k (mo_gf m (w 115) k) (z + 1) = z + 1 := by
                    rw [mo_ab, ← hb1, ← hb2]
                    exact if_pos (by omega)
                  rw [hab]
                  exact ⟨rfl, hv⟩
                exact xx_sub [0, 1, 2, 5, 6, 7] rfl (ih_ (a + 1) _ _ w62 (by omega) (by omega) (by rw [Nat.add_sub_cancel]; exact hst.1) (by rw [Nat.add_sub_cancel]; exact hst.2) hk4 has4 (by omega))
            · refine xx_iload (pc := 75) dX12_valueFrom_75 0 rfl ?_
              refine xx_iload_n (pc := 77) dX12_valueFrom_77 4 rfl rfl ?_
              refine xx_icmp_leN (pc := 78) 97 dX12_valueFrom_78 rfl (by omega) (by omega) (fun c67 => ?_) (fun c67 => ?_)
              · refine xx_iincN (L' := [(5, .int (nI (a + 1))), (7, .int (nI ((mo_worth (u 115) a) + (mo_gv m (w58 115) (k + 1))))), (6, .int (nI (mo_worth (u 115) a))), (4, .int (nI ag)), (3, .int (nI bs)), (0, ic_pt E 114), (1, .int (nI k)), (2, .int (nI n))]) (pc := 97) dX12_valueFrom_97 2 rfl cc_iconst_1 (Nat.le_of_ble_eq_true rfl) rfl ?_
                refine xx_goto (pc := 100) 27 dX12_valueFrom_100 rfl ?_
                have h115 : w62 115 = w 115 := by
                  rw [ew62, wr_s]
                  funext j
                  unfold mo_cp
                  by_cases z : j < 44
                  · rw [if_pos (by omega), Nat.sub_zero, k_w60.2.2 _ (by omega), gw58.2 117 (by omega) (by omega)]
                    exact has j z
                  · rw [if_neg (by omega), k_w60.1 115 (by omega) (by omega) (by omega), gw58.1, mo_go_r _ (by omega) (by omega) (by omega), r_u]
                have hk4 : mo_vk k w w62 := by
                  refine ⟨fun b q1 q2 q3 => ?_, fun j q => ?_, fun j q => ?_⟩
                  · by_cases z : b = 115
                    · rw [z]
                      exact h115
                    · rw [ew62, wr_n _ z, k_w60.1 b q1 q2 q3, gw58.2 b z q3]
                      exact hk_u.1 b q1 q2 q3
                  · rw [ew62, wr_n _ (by omega), k_w60.2.1 j q, gw58.2 114 (by omega) (by omega)]
                    exact hk_u.2.1 j q
                  · rw [ew62, wr_n _ (by omega), k_w60.2.2 j (by omega), gw58.2 117 (by omega) (by omega)]
                    exact hk_u.2.2 j q
                have has4 : ∀ j, j < 44 → w62 117 (44 * k + j) = w 115 j := fun j hj => by rw [ew62, wr_n _ (by omega), k_w60.2.2 _ (by omega), gw58.2 117 (by omega) (by omega)]; exact has j hj
                have hst : ag = mo_ab k (mo_gf m (w 115) k) a ∧ (bs) = (mo_gf m (w 115) k) (mo_ab k (mo_gf m (w 115) k) a) := by
                  obtain ⟨z, rfl⟩ : ∃ z, a = z + 1 := ⟨a - 1, by omega⟩
                  rw [Nat.add_sub_cancel] at hb1 hb2
                  rw [← hb1] at hb2
                  have hab : mo_ab k (mo_gf m (w 115) k) (z + 1) = ag := by
                    rw [mo_ab, ← hb1, ← hb2]
                    exact if_neg (by omega)
                  rw [hab]
                  exact ⟨rfl, hb2⟩
                exact xx_sub [0, 3, 4, 5, 6, 7] rfl (ih_ (a + 1) _ _ w62 (by omega) (by omega) (by rw [Nat.add_sub_cancel]; exact hst.1) (by rw [Nat.add_sub_cancel]; exact hst.2) hk4 has4 (by omega))
              · refine xx_goto (pc := 81) 90 dX12_valueFrom_81 rfl ?_
                refine xx_iload (pc := 90) dX12_valueFrom_90 0 rfl ?_
                refine xx_istore_n (L' := [(3, .int (nI ((mo_worth (u 115) a) + (mo_gv m (w58 115) (k + 1))))), (7, .int (nI ((mo_worth (u 115) a) + (mo_gv m (w58 115) (k + 1))))), (6, .int (nI (mo_worth (u 115) a))), (5, .int (nI a)), (4, .int (nI ag)), (0, ic_pt E 114), (1, .int (nI k)), (2, .int (nI n))]) (pc := 92) dX12_valueFrom_92 rfl (Nat.le_of_ble_eq_true rfl) rfl ?_
                refine xx_iload (pc := 93) dX12_valueFrom_93 3 rfl ?_
                refine xx_istore (L' := [(4, .int (nI a)), (3, .int (nI ((mo_worth (u 115) a) + (mo_gv m (w58 115) (k + 1))))), (7, .int (nI ((mo_worth (u 115) a) + (mo_gv m (w58 115) (k + 1))))), (6, .int (nI (mo_worth (u 115) a))), (5, .int (nI a)), (0, ic_pt E 114), (1, .int (nI k)), (2, .int (nI n))]) (pc := 95) dX12_valueFrom_95 (Nat.le_of_ble_eq_true rfl) rfl ?_
                refine xx_iincN (L' := [(5, .int (nI (a + 1))), (4, .int (nI a)), (3, .int (nI ((mo_worth (u 115) a) + (mo_gv m (w58 115) (k + 1))))), (7, .int (nI ((mo_worth (u 115) a) + (mo_gv m (w58 115) (k + 1))))), (6, .int (nI (mo_worth (u 115) a))), (0, ic_pt E 114), (1, .int (nI k)), (2, .int (nI n))]) (pc := 97) dX12_valueFrom_97 4 rfl cc_iconst_1 (Nat.le_of_ble_eq_true rfl) rfl ?_
                refine xx_goto (pc := 100) 27 dX12_valueFrom_100 rfl ?_
                have h115 : w62 115 = w 115 := by
                  rw [ew62, wr_s]
                  funext j
                  unfold mo_cp
                  by_cases z : j < 44
                  · rw [if_pos (by omega), Nat.sub_zero, k_w60.2.2 _ (by omega), gw58.2 117 (by omega) (by omega)]
                    exact has j z
                  · rw [if_neg (by omega), k_w60.1 115 (by omega) (by omega) (by omega), gw58.1, mo_go_r _ (by omega) (by omega) (by omega), r_u]
                have hk4 : mo_vk k w w62 := by
                  refine ⟨fun b q1 q2 q3 => ?_, fun j q => ?_, fun j q => ?_⟩
                  · by_cases z : b = 115
                    · rw [z]
                      exact h115
                    · rw [ew62, wr_n _ z, k_w60.1 b q1 q2 q3, gw58.2 b z q3]
                      exact hk_u.1 b q1 q2 q3
                  · rw [ew62, wr_n _ (by omega), k_w60.2.1 j q, gw58.2 114 (by omega) (by omega)]
                    exact hk_u.2.1 j q
                  · rw [ew62, wr_n _ (by omega), k_w60.2.2 j (by omega), gw58.2 117 (by omega) (by omega)]
                    exact hk_u.2.2 j q
                have has4 : ∀ j, j < 44 → w62 117 (44 * k + j) = w 115 j := fun j hj => by rw [ew62, wr_n _ (by omega), k_w60.2.2 _ (by omega), gw58.2 117 (by omega) (by omega)]; exact has j hj
                have hst : a = mo_ab k (mo_gf m (w 115) k) a ∧ ((mo_worth (u 115) a) + (mo_gv m (w58 115) (k + 1))) = (mo_gf m (w 115) k) (mo_ab k (mo_gf m (w 115) k) a) := by
                  obtain ⟨z, rfl⟩ : ∃ z, a = z + 1 := ⟨a - 1, by omega⟩
                  rw [Nat.add_sub_cancel] at hb1 hb2
                  rw [← hb1] at hb2
                  have hab : mo_ab k (mo_gf m (w 115) k) (z + 1) = z + 1 := by
                    rw [mo_ab, ← hb1, ← hb2]
                    exact if_pos (by omega)
                  rw [hab]
                  exact ⟨rfl, hv⟩
                exact xx_sub [0, 1, 2, 5, 6, 7] rfl (ih_ (a + 1) _ _ w62 (by omega) (by omega) (by rw [Nat.add_sub_cancel]; exact hst.1) (by rw [Nat.add_sub_cancel]; exact hst.2) hk4 has4 (by omega))
      refine xx_iload (pc := 27) dX12_valueFrom_27 0 rfl ?_
      refine xx_aload_nP (pc := 29) dX12_valueFrom_29 3 rfl rfl ?_
      refine xx_getR (pc := 30) 115 dX12_valueFrom_30 sh_114 fX12_7_12 rfl rfl (by decide) ?_
      refine xx_iconst (pc := 33) dX12_valueFrom_33 cc_iconst_0 ?_
      refine xx_ialdN (pc := 34) dX12_valueFrom_34 sh_115 (by omega) (by decide) ?_
      refine xx_icmp_gtN (pc := 35) 103 dX12_valueFrom_35 rfl (by omega) (by omega) (fun c468 => by exfalso; omega) (fun c468 => ?_)
      refine xx_aload_nP (pc := 38) dX12_valueFrom_38 3 rfl rfl ?_
      refine xx_iload (pc := 39) dX12_valueFrom_39 0 rfl ?_
      have hwl_x469 := mo_worth_le hI_w3 (act := 0) (by omega)
      refine xx_callV0 (pc := 41) (st := []) sh_114 (cM_goesWith (w := w3) (act := 0) (by omega) (by omega) hI_w3 hR_w3 (by omega)) kX12_goesWith vX12_248_12 dX12_valueFrom_41 rfl rfl (Nat.le_of_ble_eq_true rfl) (pl_hR (d := m + 1 + 10) (by omega) (Nat.le_of_ble_eq_true rfl)) ⟨Nat.zero_le _, Nat.zero_le _⟩ (ic_ki (fun v471 h_ qw470 => ?_))
      obtain ⟨rfl, w470, rfl, gw470⟩ := qw470
      have hI_w470 : In (w470 115) := by rw [gw470.1]; exact In_go hI_w3 (by omega) (by omega)
      have hR_w470 : Ru (w470 115) := by rw [gw470.1]; exact Ru_go hR_w3 hI_w3 (by omega)
      refine xx_istore (L' := [(6, .int (nI (mo_worth (w3 115) 0))), (5, .int (nI 0)), (4, .int (nI 4294967295)), (3, .int (nI 0)), (0, ic_pt E 114), (1, .int (nI k)), (2, .int (nI n))]) (pc := 44) dX12_valueFrom_44 (Nat.le_of_ble_eq_true rfl) rfl ?_
      refine xx_iload (pc := 46) dX12_valueFrom_46 0 rfl ?_
      refine xx_aload_nP (pc := 48) dX12_valueFrom_48 4 rfl rfl ?_
      refine xx_iload_n (pc := 49) dX12_valueFrom_49 5 rfl rfl ?_
      refine xx_iconst (pc := 50) dX12_valueFrom_50 cc_iconst_1 ?_
      refine xx_iaddN (pc := 51) dX12_valueFrom_51 ?_
      refine xx_iload_n (pc := 52) dX12_valueFrom_52 6 rfl rfl ?_
      refine xx_callV0 (pc := 53) (st := [.int (nI (mo_worth (w3 115) 0))]) sh_114 (ih (w := w470) (k := k + 1) (n := n) (by omega) (by omega) hI_w470 hR_w470) kX12_valueFrom vX12_312_12 dX12_valueFrom_53 rfl rfl (Nat.le_of_ble_eq_true rfl) (pl_hR (d := m + 1 + 10) (by omega) (Nat.le_of_ble_eq_true rfl)) ⟨Nat.zero_le _, Nat.zero_le _⟩ (ic_ki (fun v473 h_ qw472 => ?_))
      obtain ⟨rfl, w472, rfl, k_w472, f_w472⟩ := qw472
      have hv : mo_worth (w3 115) 0 + mo_gv m (w470 115) (k + 1) = (mo_gf m (w 115) k) 0 := by rw [gw470.1, r_w3]; rfl
      have hvl : (mo_gf m (w 115) k) 0 ≤ 33 + 33 * m := mo_gf_le hI hR (by omega) (by omega)
      refine xx_iaddN (pc := 56) dX12_valueFrom_56 ?_
      refine xx_istore (L' := [(7, .int (nI ((mo_worth (w3 115) 0) + (mo_gv m (w470 115) (k + 1))))), (6, .int (nI (mo_worth (w3 115) 0))), (5, .int (nI 0)), (4, .int (nI 4294967295)), (3, .int (nI 0)), (0, ic_pt E 114), (1, .int (nI k)), (2, .int (nI n))]) (pc := 57) dX12_valueFrom_57 (Nat.le_of_ble_eq_true rfl) rfl ?_
      refine xx_aload_nP (pc := 59) dX12_valueFrom_59 5 rfl rfl ?_
      refine xx_iload_n (pc := 60) dX12_valueFrom_60 6 rfl rfl ?_
      refine xx_callV0 (pc := 61) (st := []) sh_114 (cM_laysBack (w := w472) (lv := k) (by omega)) kX12_laysBack vX12_255_12 dX12_valueFrom_61 rfl rfl (Nat.le_of_ble_eq_true rfl) (pl_hR (d := m + 1 + 10) (by omega) (Nat.le_of_ble_eq_true rfl)) ⟨Nat.zero_le _, Nat.zero_le _⟩ (ic_kv (fun h_ qw474 => ?_))
      obtain rfl := qw474
      refine xx_nw (fun w474 ew474 => ?_)
      refine xx_iload (pc := 64) dX12_valueFrom_64 3 rfl ?_
      refine xx_if_ltS (pc := 66) 90 dX12_valueFrom_66 rfl (by omega) (fun c476 => ?_) (fun c476 => by exfalso; omega)
      refine xx_iload (pc := 90) dX12_valueFrom_90 0 rfl ?_
      refine xx_istore_n (L' := [(3, .int (nI ((mo_worth (w3 115) 0) + (mo_gv m (w470 115) (k + 1))))), (7, .int (nI ((mo_worth (w3 115) 0) + (mo_gv m (w470 115) (k + 1))))), (6, .int (nI (mo_worth (w3 115) 0))), (5, .int (nI 0)), (4, .int (nI 4294967295)), (0, ic_pt E 114), (1, .int (nI k)), (2, .int (nI n))]) (pc := 92) dX12_valueFrom_92 rfl (Nat.le_of_ble_eq_true rfl) rfl ?_
      refine xx_iload (pc := 93) dX12_valueFrom_93 3 rfl ?_
      refine xx_istore (L' := [(4, .int (nI 0)), (3, .int (nI ((mo_worth (w3 115) 0) + (mo_gv m (w470 115) (k + 1))))), (7, .int (nI ((mo_worth (w3 115) 0) + (mo_gv m (w470 115) (k + 1))))), (6, .int (nI (mo_worth (w3 115) 0))), (5, .int (nI 0)), (0, ic_pt E 114), (1, .int (nI k)), (2, .int (nI n))]) (pc := 95) dX12_valueFrom_95 (Nat.le_of_ble_eq_true rfl) rfl ?_
      refine xx_iincN (L' := [(5, .int (nI (0 + 1))), (4, .int (nI 0)), (3, .int (nI ((mo_worth (w3 115) 0) + (mo_gv m (w470 115) (k + 1))))), (7, .int (nI ((mo_worth (w3 115) 0) + (mo_gv m (w470 115) (k + 1))))), (6, .int (nI (mo_worth (w3 115) 0))), (0, ic_pt E 114), (1, .int (nI k)), (2, .int (nI n))]) (pc := 97) dX12_valueFrom_97 4 rfl cc_iconst_1 (Nat.le_of_ble_eq_true rfl) rfl ?_
      refine xx_goto (pc := 100) 27 dX12_valueFrom_100 rfl ?_
      have h115 : w474 115 = w 115 := by
        rw [ew474, wr_s]
        funext j
        unfold mo_cp
        by_cases z : j < 44
        · rw [if_pos (by omega), Nat.sub_zero, k_w472.2.2 _ (by omega), gw470.2 117 (by omega) (by omega)]
          exact has0 j z
        · rw [if_neg (by omega), k_w472.1 115 (by omega) (by omega) (by omega), gw470.1, mo_go_r _ (by omega) (by omega) (by omega), r_w3]
      have hk4 : mo_vk k w w474 := by
        refine ⟨fun b q1 q2 q3 => ?_, fun j q => ?_, fun j q => ?_⟩
        · by_cases z : b = 115
          · rw [z]
            exact h115
          · rw [ew474, wr_n _ z, k_w472.1 b q1 q2 q3, gw470.2 b z q3]
            exact k_w3.1 b q1 q2 q3
        · rw [ew474, wr_n _ (by omega), k_w472.2.1 j q, gw470.2 114 (by omega) (by omega)]
          exact k_w3.2.1 j q
        · rw [ew474, wr_n _ (by omega), k_w472.2.2 j (by omega), gw470.2 117 (by omega) (by omega)]
          exact k_w3.2.2 j q
      have has4 : ∀ j, j < 44 → w474 117 (44 * k + j) = w 115 j := fun j hj => by rw [ew474, wr_n _ (by omega), k_w472.2.2 _ (by omega), gw470.2 117 (by omega) (by omega)]; exact has0 j hj
      exact xx_sub [0, 1, 2, 5, 6, 7] rfl (lp (w 115 0 + 2) 1 _ _ w474 (by omega) (by omega) rfl hv hk4 has4 (by omega))
    · refine xx_iconst (pc := 12) dX12_valueFrom_12 cc_iconst_0 ?_
      exact xx_iret (pc := 13) dX12_valueFrom_13 rfl (rfl) (Nat.le_refl _) (Nat.le_refl _) (ic_ri ⟨by rw [mo_gv_s, if_pos (by omega)], w, rfl, mo_vk_rf k w, fun m2 _ ht => absurd ht (by omega)⟩)

set_option maxHeartbeats 4000000 in
set_option maxRecDepth 100000 in
theorem cM_game {l : Launch} {E : ic_E} {w : ic_w} {n : Nat} (hn_ : n < 2 ^ 32) (hI : In (w 115)) (hR : Ru (w 115)) : ic_C l E mX12_game 15 0 0 False [ic_pt E 114, .int (nI n)] SHs (hn w) SHs (ic_qi (fun v_ h_ => v_ = nI (if 1 ≤ n ∧ n ≤ 4 then mo_gv n (w 115) 0 else 4294967295) ∧ ∃ w2, h_ = hn w2 ∧ mo_s2 w w2)) := by
  refine ic_intro (by decide +kernel) (Nat.le_of_ble_eq_true rfl) ?_
  show xx l E _ _ 0 [(0, ic_pt E 114), (1, .int (nI n))] _ _ _
  refine xx_iload_n (pc := 0) dX12_game_0 1 rfl rfl ?_
  refine xx_i2l (pc := 1) dX12_game_1 ?_
  refine xx_lconst (v := 1) (pc := 2) dX12_game_2 rfl ?_
  refine xx_ldc2 (v := 4) (pc := 3) dX12_game_3 oX12_298 ?_
  refine xx_callS0 (pc := 6) (st := []) (cM_isIn (1 ≤ n ∧ n ≤ 4) (ll_in (lo := 1) (hi := 4) (by omega) (by decide) (by decide) (by omega))) kX12_isIn sX12_66 dX12_game_6 rfl rfl (Nat.le_of_ble_eq_true rfl) (pl_hR (d := 15) (by omega) (Nat.le_of_ble_eq_true rfl)) ⟨Nat.zero_le _, Nat.zero_le _⟩ (ic_ke ?_)
  refine xx_if_eqB (pc := 9) 21 dX12_game_9 rfl (fun c1 => ?_) (fun c1 => ?_)
  · refine xx_iconst (pc := 21) dX12_game_21 cc_iconst_m1 ?_
    exact xx_iret (pc := 22) dX12_game_22 rfl (rfl) (Nat.le_refl _) (Nat.le_refl _) (ic_ri ⟨by rw [if_neg (by omega)], w, rfl, mo_s2_rf w⟩)
  · refine xx_aload_nP (pc := 12) dX12_game_12 0 rfl rfl ?_
    refine xx_iconst (pc := 13) dX12_game_13 cc_iconst_0 ?_
    refine xx_iload_n (pc := 14) dX12_game_14 1 rfl rfl ?_
    have hgl := mo_gv_le n (w 115) 0 hI hR
    refine xx_callV0 (pc := 15) (st := []) sh_114 (cM_valueFrom n (w := w) (k := 0) (n := n) (Nat.zero_add _) (by omega) hI hR) kX12_valueFrom vX12_312_12 dX12_game_15 rfl rfl (Nat.le_of_ble_eq_true rfl) (pl_hR (d := 15) (by omega) (Nat.le_of_ble_eq_true rfl)) ⟨Nat.zero_le _, Nat.zero_le _⟩ (ic_ki (fun v3 h_ qw2 => ?_))
    obtain ⟨rfl, w2, rfl, k_w2, f_w2⟩ := qw2
    refine xx_goto (pc := 18) 22 dX12_game_18 rfl ?_
    exact xx_iret (pc := 22) dX12_game_22 rfl (rfl) (Nat.le_refl _) (Nat.le_refl _) (ic_ri ⟨by rw [if_pos (by omega)], w2, rfl, mo_s2_vk k_w2⟩)

set_option maxHeartbeats 4000000 in
set_option maxRecDepth 100000 in
theorem cM_play {l : Launch} {E : ic_E} {w : ic_w} {n : Nat} (hn_ : n < 2 ^ 32) (hI : In (w 115)) (hR : Ru (w 115)) : ic_C l E mX12_play 15 0 0 False [ic_pt E 114, .int (nI n)] SHs (hn w) SHs (ic_qi (fun v_ h_ => v_ = nI (if 1 ≤ n ∧ n ≤ 4 then (if w 115 2 ≤ w 115 1 then 4294967293 else mo_ab 0 (mo_gf (n - 1) (w 115) 0) (w 115 0)) else 4294967295) ∧ ∃ w2, h_ = hn w2 ∧ mo_s2 w w2)) := by
  refine ic_intro (by decide +kernel) (Nat.le_of_ble_eq_true rfl) ?_
  show xx l E _ _ 0 [(0, ic_pt E 114), (1, .int (nI n))] _ _ _
  refine xx_iload_n (pc := 0) dX12_play_0 1 rfl rfl ?_
  refine xx_i2l (pc := 1) dX12_play_1 ?_
  refine xx_lconst (v := 1) (pc := 2) dX12_play_2 rfl ?_
  refine xx_ldc2 (v := 4) (pc := 3) dX12_play_3 oX12_298 ?_
  refine xx_callS0 (pc := 6) (st := []) (cM_isIn (1 ≤ n ∧ n ≤ 4) (ll_in (lo := 1) (hi := 4) (by omega) (by decide) (by decide) (by omega))) kX12_isIn sX12_66 dX12_play_6 rfl rfl (Nat.le_of_ble_eq_true rfl) (pl_hR (d := 15) (by omega) (Nat.le_of_ble_eq_true rfl)) ⟨Nat.zero_le _, Nat.zero_le _⟩ (ic_ke ?_)
  refine xx_if_neB (pc := 9) 14 dX12_play_9 rfl (fun c1 => ?_) (fun c1 => ?_)
  · refine xx_aload_nP (pc := 14) dX12_play_14 0 rfl rfl ?_
    refine xx_callV0 (pc := 15) (st := []) sh_114 (cM_isOver (w := w) hI) kX12_isOver vX12_140_12 dX12_play_15 rfl rfl (Nat.le_of_ble_eq_true rfl) (pl_hR (d := 15) (by omega) (Nat.le_of_ble_eq_true rfl)) ⟨Nat.zero_le _, Nat.zero_le _⟩ (ic_ke ?_)
    refine xx_if_eqB (pc := 18) 24 dX12_play_18 rfl (fun c2 => ?_) (fun c2 => ?_)
    · refine xx_aload_nP (pc := 24) dX12_play_24 0 rfl rfl ?_
      refine xx_iconst (pc := 25) dX12_play_25 cc_iconst_0 ?_
      refine xx_iload_n (pc := 26) dX12_play_26 1 rfl rfl ?_
      have hgl := mo_gv_le n (w 115) 0 hI hR
      refine xx_callV0 (pc := 27) (st := []) sh_114 (cM_valueFrom n (w := w) (k := 0) (n := n) (Nat.zero_add _) (by omega) hI hR) kX12_valueFrom vX12_312_12 dX12_play_27 rfl rfl (Nat.le_of_ble_eq_true rfl) (pl_hR (d := 15) (by omega) (Nat.le_of_ble_eq_true rfl)) ⟨Nat.zero_le _, Nat.zero_le _⟩ (ic_ki (fun v4 h_ qw3 => ?_))
      obtain ⟨rfl, w3, rfl, k_w3, f_w3⟩ := qw3
      refine xx_istore_n (L' := [(2, .int (nI (mo_gv n (w 115) 0))), (0, ic_pt E 114), (1, .int (nI n))]) (pc := 30) dX12_play_30 rfl (Nat.le_of_ble_eq_true rfl) rfl ?_
      refine xx_aload_nP (pc := 31) dX12_play_31 1 rfl rfl ?_
      refine xx_getN (pc := 32) dX12_play_32 sh_114 fX12_315_12 rfl ?_
      exact xx_iret (pc := 35) dX12_play_35 rfl (rfl) (Nat.le_refl _) (Nat.le_refl _) (ic_ri ⟨by rw [if_pos (by omega), if_neg (by omega), f_w3 (n - 1) (by omega) (by omega)], w3, rfl, mo_s2_vk k_w3⟩)
    · refine xx_bipush (pc := 21) dX12_play_21 cc_bipush_m3 ?_
      exact xx_iret (pc := 23) dX12_play_23 rfl (rfl) (Nat.le_refl _) (Nat.le_refl _) (ic_ri ⟨by rw [if_pos (by omega), if_pos (by omega)], w, rfl, mo_s2_rf w⟩)
  · refine xx_iconst (pc := 12) dX12_play_12 cc_iconst_m1 ?_
    exact xx_iret (pc := 13) dX12_play_13 rfl (rfl) (Nat.le_refl _) (Nat.le_refl _) (ic_ri ⟨by rw [if_neg (by omega)], w, rfl, mo_s2_rf w⟩)

