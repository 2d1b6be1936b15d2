/-! plans, all of them -/
theorem mo_xr_of {u w2 : ic_w} {x : mo_X} (h : mo_xr u x) (e1 : w2 114 = u 114) (e2 : w2 122 = u 122) : mo_xr w2 x := ⟨fun j a b => by rw [e1]; exact h.1 j a b, fun j a => by rw [e2]; exact h.2.1 j a, h.2.2⟩
set_option maxHeartbeats 4000000 in
set_option maxRecDepth 100000 in
theorem cM_plans {l : Launch} {E : ic_E} : ∀ (m : Nat) {w : ic_w} {k n sum few : Nat} {acts : Nat → Nat} {x : mo_X}, k + m = n → n ≤ 4 → In (w 115) → Ru (w 115) → sum ≤ 33 * k → few ≤ k → mo_xr w x → (∀ j, j < k → w 121 j = acts j) → ic_C l E mX12_plans (m + 10) 0 0 False [ic_pt E 114, .int (nI k), .int (nI n), .int (nI sum), .int (nI few)] SHs (hn w) SHs (ic_qv (fun h_ => ∃ w2, h_ = hn w2 ∧ mo_xk k w w2 ∧ mo_xr w2 (mo_pln m (w 115) k sum few acts x))) := by
  intro m
  induction m with
  | zero =>
    intro w k n sum few acts x hkn hn4 hI hR hsm hfw hx ha
    refine ic_intro (by decide +kernel) (Nat.le_of_ble_eq_true rfl) ?_
    show xx l E _ _ 0 [(0, ic_pt E 114), (1, .int (nI k)), (2, .int (nI n)), (3, .int (nI sum)), (4, .int (nI few))] _ _ _
    refine xx_iload_n (pc := 0) dX12_plans_0 1 rfl rfl ?_
    refine xx_iload_n (pc := 1) dX12_plans_1 2 rfl rfl ?_
    refine xx_icmp_eqN (pc := 2) 12 dX12_plans_2 rfl (by omega) (by omega) (fun c1 => ?_) (fun c1 => by exfalso; omega)
    exact xx_sub [0, 1, 2, 3, 4] rfl (xx_plans_leaf (acts := acts) (x := x) (by omega) hn4 (by omega) hI (by omega) (by omega) hx ha (fun w2 g1 g2 => ⟨rfl, w2, rfl, g1, g2⟩))
  | succ m ih =>
    intro w k n sum few acts x hkn hn4 hI hR hsm hfw hx ha
    refine ic_intro (by decide +kernel) (Nat.le_of_ble_eq_true rfl) ?_
    show xx l E _ _ 0 [(0, ic_pt E 114), (1, .int (nI k)), (2, .int (nI n)), (3, .int (nI sum)), (4, .int (nI few))] _ _ _
    have htt := hI.t
    have hn0 := hI.n
    refine xx_iload_n (pc := 0) dX12_plans_0 1 rfl rfl ?_
    refine xx_iload_n (pc := 1) dX12_plans_1 2 rfl rfl ?_
    refine xx_icmp_eqN (pc := 2) 12 dX12_plans_2 rfl (by omega) (by omega) (fun c1 => by exfalso; omega) (fun c1 => ?_)
    refine xx_aload_nP (pc := 5) dX12_plans_5 0 rfl rfl ?_
    refine xx_callV0 (pc := 6) (st := []) sh_114 (cM_isOver (w := w) hI) kX12_isOver vX12_140_12 dX12_plans_6 rfl rfl (Nat.le_of_ble_eq_true rfl) (pl_hR (d := m + 1 + 10) (by omega) (Nat.le_of_ble_eq_true rfl)) ⟨Nat.zero_le _, Nat.zero_le _⟩ (ic_ke ?_)
    refine xx_if_eqB (pc := 9) 138 dX12_plans_9 rfl (fun c2 => ?_) (fun c2 => ?_)
    · refine xx_aload_nP (pc := 138) dX12_plans_138 0 rfl rfl ?_
      refine xx_iload_n (pc := 139) dX12_plans_139 1 rfl rfl ?_
      refine xx_callV0 (pc := 140) (st := []) sh_114 (cM_laysAside (w := w) (lv := k) (by omega)) kX12_laysAside vX12_251_12 dX12_plans_140 rfl rfl (Nat.le_of_ble_eq_true rfl) (pl_hR (d := m + 1 + 10) (by omega) (Nat.le_of_ble_eq_true rfl)) ⟨Nat.zero_le _, Nat.zero_le _⟩ (ic_kv (fun h_ qw3 => ?_))
      obtain rfl := qw3
      refine xx_nw (fun w3 ew3 => ?_)
      refine xx_iconst (pc := 143) dX12_plans_143 cc_iconst_0 ?_
      refine xx_istore (L' := [(5, .int (nI 0)), (0, ic_pt E 114), (1, .int (nI k)), (2, .int (nI n)), (3, .int (nI sum)), (4, .int (nI few))]) (pc := 144) dX12_plans_144 (Nat.le_of_ble_eq_true rfl) rfl ?_
      have lp : ∀ (n_ : Nat) (a : Nat) (u : ic_w), a ≤ w 115 0 + 1 → mo_xk k w u → mo_xr u (mo_fold (fun a y => mo_pln m (mo_go (w 115) a) (k + 1) (sum + mo_worth (w 115) a) (if a = 0 then few else few + 1) (fu acts k a) y) a x) → (∀ j, j < 44 → u 117 (44 * k + j) = w 115 j) → w 115 0 + 1 - a < n_ → xx l E (ic_fr E mX12_plans (m + 1 + 10) 0 0 False SHs (ic_qv (fun h_ => ∃ w2, h_ = hn w2 ∧ mo_xk k w w2 ∧ mo_xr w2 (mo_pln (m + 1) (w 115) k sum few acts x)))) (0, 0) 146 [(5, .int (nI a)), (0, ic_pt E 114), (1, .int (nI k)), (2, .int (nI n)), (3, .int (nI sum)), (4, .int (nI few))] [] SHs (hn u) := by
        intro n_
        induction n_ with
        | zero => intro a u hal hk_u hx_u has hm_; exact absurd hm_ (Nat.not_lt_zero _)
        | succ n_ ih_ =>
          intro a u hal hk_u hx_u has hm_
          have r_u : u 115 = w 115 := mo_xk_115 hk_u
          have e0 : u 115 0 = w 115 0 := by rw [r_u]
          refine xx_iload (pc := 146) dX12_plans_146 0 rfl ?_
          refine xx_aload_nP (pc := 148) dX12_plans_148 1 rfl rfl ?_
          refine xx_getR (pc := 149) 115 dX12_plans_149 sh_114 fX12_7_12 rfl rfl (by decide) ?_
          refine xx_iconst (pc := 152) dX12_plans_152 cc_iconst_0 ?_
          refine xx_ialdN (pc := 153) dX12_plans_153 sh_115 (by omega) (by decide) ?_
          refine xx_icmp_gtN (pc := 154) 210 dX12_plans_154 rfl (by omega) (by omega) (fun c55 => ?_) (fun c55 => ?_)
          · exact xx_vret (pc := 210) dX12_plans_210 rfl (Nat.le_refl _) (Nat.le_refl _) (ic_rv0 ⟨u, rfl, hk_u, by rw [mo_pln, if_neg (by omega), show w 115 0 + 1 = a by omega]; exact hx_u⟩)
          · refine xx_aload_nP (pc := 157) dX12_plans_157 1 rfl rfl ?_
            refine xx_getR (pc := 158) 121 dX12_plans_158 sh_114 fX12_28_12 rfl rfl (by decide) ?_
            refine xx_iload_n (pc := 161) dX12_plans_161 2 rfl rfl ?_
            refine xx_iload (pc := 162) dX12_plans_162 0 rfl ?_
            refine xx_iastN (pc := 164) dX12_plans_164 sh_121 (by omega) (by decide) ?_
            refine xx_nw (fun w56 ew56 => ?_)
            have r_w56 : w56 115 = w 115 := by rw [ew56, wu_row _ _ _ (by omega), r_u]
            have hI_w56 : In (w56 115) := by rw [r_w56]; exact hI
            have hR_w56 : Ru (w56 115) := by rw [r_w56]; exact hR
            have e0_w56 : w56 115 0 = w 115 0 := by rw [r_w56]
            have e1_w56 : w56 115 1 < w56 115 2 := by rw [r_w56]; omega
            have hwl : mo_worth (w56 115) a ≤ 33 := mo_worth_le hI_w56 (by omega)
            refine xx_aload_nP (pc := 165) dX12_plans_165 1 rfl rfl ?_
            refine xx_iload (pc := 166) dX12_plans_166 0 rfl ?_
            have hwl_x57 := mo_worth_le hI_w56 (act := a) (by omega)
            refine xx_callV0 (pc := 168) (st := []) sh_114 (cM_goesWith (w := w56) (act := a) (by omega) (by omega) hI_w56 hR_w56 (by omega)) kX12_goesWith vX12_248_12 dX12_plans_168 rfl rfl (Nat.le_of_ble_eq_true rfl) (pl_hR (d := m + 1 + 10) (by omega) (Nat.le_of_ble_eq_true rfl)) ⟨Nat.zero_le _, Nat.zero_le _⟩ (ic_ki (fun v59 h_ qw58 => ?_))
            obtain ⟨rfl, w58, rfl, gw58⟩ := qw58
            have hI_w58 : In (w58 115) := by rw [gw58.1]; exact In_go hI_w56 (by omega) (by omega)
            have hR_w58 : Ru (w58 115) := by rw [gw58.1]; exact Ru_go hR_w56 hI_w56 (by omega)
            refine xx_istore (L' := [(6, .int (nI (mo_worth (w56 115) a))), (5, .int (nI a)), (0, ic_pt E 114), (1, .int (nI k)), (2, .int (nI n)), (3, .int (nI sum)), (4, .int (nI few))]) (pc := 171) dX12_plans_171 (Nat.le_of_ble_eq_true rfl) rfl ?_
            refine xx_aload_nP (pc := 173) dX12_plans_173 2 rfl rfl ?_
            refine xx_iload_n (pc := 174) dX12_plans_174 3 rfl rfl ?_
            refine xx_iconst (pc := 175) dX12_plans_175 cc_iconst_1 ?_
            refine xx_iaddN (pc := 176) dX12_plans_176 ?_
            refine xx_iload_n (pc := 177) dX12_plans_177 4 rfl rfl ?_
            refine xx_iload_n (pc := 178) dX12_plans_178 5 rfl rfl ?_
            refine xx_iload (pc := 179) dX12_plans_179 0 rfl ?_
            refine xx_iaddN (pc := 181) dX12_plans_181 ?_
            refine xx_iload (pc := 182) dX12_plans_182 1 rfl ?_
            refine xx_if_neN (pc := 184) 192 dX12_plans_184 rfl (by omega) (fun c60 => ?_) (fun c60 => ?_)
            · refine xx_iload (pc := 192) dX12_plans_192 6 rfl ?_
              refine xx_iconst (pc := 194) dX12_plans_194 cc_iconst_1 ?_
              refine xx_iaddN (pc := 195) dX12_plans_195 ?_
              have x_w58 : mo_xr w58 (mo_fold (fun a y => mo_pln m (mo_go (w 115) a) (k + 1) (sum + mo_worth (w 115) a) (if a = 0 then few else few + 1) (fu acts k a) y) a x) := mo_xr_of hx_u (by rw [gw58.2 114 (by omega) (by omega), ew56, wu_row _ _ _ (by omega)]) (by rw [gw58.2 122 (by omega) (by omega), ew56, wu_row _ _ _ (by omega)])
              have a_w58 : ∀ j, j < k + 1 → w58 121 j = fu acts k a j := by
                intro j hj
                rw [gw58.2 121 (by omega) (by omega), ew56]
                by_cases q : j = k
                · subst q
                  rw [wu_s, fu_s]
                · rw [wu_k _ _ _ _ q, fu_n _ q, hk_u.2.2.2 j (by omega)]
                  exact ha j (by omega)
              refine xx_eqI (y := nI (if a = 0 then few else few + 1)) (by rw [if_neg (by omega)]) ?_
              refine xx_callV0 (pc := 196) (st := []) sh_114 (ih (w := w58) (k := k + 1) (n := n) (sum := sum + mo_worth (w56 115) a) (few := if a = 0 then few else few + 1) (acts := fu acts k a) (x := mo_fold (fun a y => mo_pln m (mo_go (w 115) a) (k + 1) (sum + mo_worth (w 115) a) (if a = 0 then few else few + 1) (fu acts k a) y) a x) (by omega) (by omega) hI_w58 hR_w58 (by omega) (by split <;> omega) x_w58 a_w58) kX12_plans vX12_294_12 dX12_plans_196 rfl rfl (Nat.le_of_ble_eq_true rfl) (pl_hR (d := m + 1 + 10) (by omega) (Nat.le_of_ble_eq_true rfl)) ⟨Nat.zero_le _, Nat.zero_le _⟩ (ic_kv (fun h_ qw61 => ?_))
              obtain ⟨w61, rfl, k_w61, x_w61⟩ := qw61
              refine xx_aload_nP (pc := 199) dX12_plans_199 2 rfl rfl ?_
              refine xx_iload_n (pc := 200) dX12_plans_200 3 rfl rfl ?_
              refine xx_callV0 (pc := 201) (st := []) sh_114 (cM_laysBack (w := w61) (lv := k) (by omega)) kX12_laysBack vX12_255_12 dX12_plans_201 rfl rfl (Nat.le_of_ble_eq_true rfl) (pl_hR (d := m + 1 + 10) (by omega) (Nat.le_of_ble_eq_true rfl)) ⟨Nat.zero_le _, Nat.zero_le _⟩ (ic_kv (fun h_ qw63 => ?_))
              obtain rfl := qw63
              refine xx_nw (fun w63 ew63 => ?_)
              refine xx_iincN (L' := [(5, .int (nI (a + 1))), (6, .int (nI (mo_worth (w56 115) a))), (0, ic_pt E 114), (1, .int (nI k)), (2, .int (nI n)), (3, .int (nI sum)), (4, .int (nI few))]) (pc := 204) dX12_plans_204 1 rfl cc_iconst_1 (Nat.le_of_ble_eq_true rfl) rfl ?_
              refine xx_goto (pc := 207) 146 dX12_plans_207 rfl ?_
              have h115 : w63 115 = w 115 := by
                rw [ew63, wr_s]
                funext j
                unfold mo_cp
                by_cases z : j < 44
                · rw [if_pos (by omega), Nat.sub_zero, k_w61.2.2.1 _ (by omega), gw58.2 117 (by omega) (by omega), ew56, wu_row _ _ _ (by omega)]
                  exact has j z
                · rw [if_neg (by omega), mo_xk_115 k_w61, gw58.1, mo_go_r _ (by omega) (by omega) (by omega), r_w56]
              have hk4 : mo_xk k w w63 := by
                refine ⟨fun b q => ?_, fun j q => ?_, fun j q => ?_, fun j q => ?_⟩
                · by_cases z : b = 115
                  · rw [z]
                    exact h115
                  · rw [ew63, wr_n _ z, k_w61.1 b q, gw58.2 b z (fun y => by rw [y] at q; revert q; decide), ew56, wu_row _ _ _ (fun y => by rw [y] at q; revert q; decide)]
                    exact hk_u.1 b q
                · rw [ew63, wr_n _ (by omega), k_w61.2.1 j q, gw58.2 114 (by omega) (by omega), ew56, wu_o _ _ _ _ (by omega)]
                  exact hk_u.2.1 j q
                · rw [ew63, wr_n _ (by omega), k_w61.2.2.1 j (by omega), gw58.2 117 (by omega) (by omega), ew56, wu_o _ _ _ _ (by omega)]
                  exact hk_u.2.2.1 j q
                · rw [ew63, wr_n _ (by omega), k_w61.2.2.2 j (by omega), gw58.2 121 (by omega) (by omega), ew56, wu_k _ _ _ _ (by omega)]
                  exact hk_u.2.2.2 j q
              have hx4 : mo_xr w63 (mo_fold (fun a y => mo_pln m (mo_go (w 115) a) (k + 1) (sum + mo_worth (w 115) a) (if a = 0 then few else few + 1) (fu acts k a) y) (a + 1) x) := by
                refine mo_xr_of (u := w61) ?_ (by rw [ew63, wr_n _ (by omega)]) (by rw [ew63, wr_n _ (by omega)])
                have x3 := x_w61
                rw [gw58.1, r_w56] at x3
                exact x3
              exact xx_sub [0, 2, 3, 4, 5, 6] rfl (ih_ (a + 1) w63 (by omega) hk4 hx4 (fun j hj => by rw [ew63, wr_n _ (by omega), k_w61.2.2.1 _ (by omega), gw58.2 117 (by omega) (by omega), ew56, wu_o _ _ _ _ (by omega)]; exact has j hj) (by omega))
            · refine xx_iload (pc := 187) dX12_plans_187 6 rfl ?_
              refine xx_goto (pc := 189) 196 dX12_plans_189 rfl ?_
              have x_w58 : mo_xr w58 (mo_fold (fun a y => mo_pln m (mo_go (w 115) a) (k + 1) (sum + mo_worth (w 115) a) (if a = 0 then few else few + 1) (fu acts k a) y) a x) := mo_xr_of hx_u (by rw [gw58.2 114 (by omega) (by omega), ew56, wu_row _ _ _ (by omega)]) (by rw [gw58.2 122 (by omega) (by omega), ew56, wu_row _ _ _ (by omega)])
              have a_w58 : ∀ j, j < k + 1 → w58 121 j = fu acts k a j := by
                intro j hj
                rw [gw58.2 121 (by omega) (by omega), ew56]
                by_cases q : j = k
                · subst q
                  rw [wu_s, fu_s]
                · rw [wu_k _ _ _ _ q, fu_n _ q, hk_u.2.2.2 j (by omega)]
                  exact ha j (by omega)
              refine xx_eqI (y := nI (if a = 0 then few else few + 1)) (by rw [if_pos (by omega)]) ?_
              refine xx_callV0 (pc := 196) (st := []) sh_114 (ih (w := w58) (k := k + 1) (n := n) (sum := sum + mo_worth (w56 115) a) (few := if a = 0 then few else few + 1) (acts := fu acts k a) (x := mo_fold (fun a y => mo_pln m (mo_go (w 115) a) (k + 1) (sum + mo_worth (w 115) a) (if a = 0 then few else few + 1) (fu acts k a) y) a x) (by omega) (by omega) hI_w58 hR_w58 (by omega) (by split <;> omega) x_w58 a_w58) kX12_plans vX12_294_12 dX12_plans_196 rfl rfl (Nat.le_of_ble_eq_true rfl) (pl_hR (d := m + 1 + 10) (by omega) (Nat.le_of_ble_eq_true rfl)) ⟨Nat.zero_le _, Nat.zero_le _⟩ (ic_kv (fun h_ qw65 => ?_))
              obtain ⟨w65, rfl, k_w65, x_w65⟩ := qw65
              refine xx_aload_nP (pc := 199) dX12_plans_199 2 rfl rfl ?_
              refine xx_iload_n (pc := 200) dX12_plans_200 3 rfl rfl ?_
              refine xx_callV0 (pc := 201) (st := []) sh_114 (cM_laysBack (w := w65) (lv := k) (by omega)) kX12_laysBack vX12_255_12 dX12_plans_201 rfl rfl (Nat.le_of_ble_eq_true rfl) (pl_hR (d := m + 1 + 10) (by omega) (Nat.le_of_ble_eq_true rfl)) ⟨Nat.zero_le _, Nat.zero_le _⟩ (ic_kv (fun h_ qw67 => ?_))
              obtain rfl := qw67
              refine xx_nw (fun w67 ew67 => ?_)
              refine xx_iincN (L' := [(5, .int (nI (a + 1))), (6, .int (nI (mo_worth (w56 115) a))), (0, ic_pt E 114), (1, .int (nI k)), (2, .int (nI n)), (3, .int (nI sum)), (4, .int (nI few))]) (pc := 204) dX12_plans_204 1 rfl cc_iconst_1 (Nat.le_of_ble_eq_true rfl) rfl ?_
              refine xx_goto (pc := 207) 146 dX12_plans_207 rfl ?_
              have h115 : w67 115 = w 115 := by
                rw [ew67, wr_s]
                funext j
                unfold mo_cp
                by_cases z : j < 44
                · rw [if_pos (by omega), Nat.sub_zero, k_w65.2.2.1 _ (by omega), gw58.2 117 (by omega) (by omega), ew56, wu_row _ _ _ (by omega)]
                  exact has j z
                · rw [if_neg (by omega), mo_xk_115 k_w65, gw58.1, mo_go_r _ (by omega) (by omega) (by omega), r_w56]
              have hk4 : mo_xk k w w67 := by
                refine ⟨fun b q => ?_, fun j q => ?_, fun j q => ?_, fun j q => ?_⟩
                · by_cases z : b = 115
                  · rw [z]
                    exact h115
                  · rw [ew67, wr_n _ z, k_w65.1 b q, gw58.2 b z (fun y => by rw [y] at q; revert q; decide), ew56, wu_row _ _ _ (fun y => by rw [y] at q; revert q; decide)]
                    exact hk_u.1 b q
                · rw [ew67, wr_n _ (by omega), k_w65.2.1 j q, gw58.2 114 (by omega) (by omega), ew56, wu_o _ _ _ _ (by omega)]
                  exact hk_u.2.1 j q
                · rw [ew67, wr_n _ (by omega), k_w65.2.2.1 j (by omega), gw58.2 117 (by omega) (by omega), ew56, wu_o _ _ _ _ (by omega)]
                  exact hk_u.2.2.1 j q
                · rw [ew67, wr_n _ (by omega), k_w65.2.2.2 j (by omega), gw58.2 121 (by omega) (by omega), ew56, wu_k _ _ _ _ (by omega)]
                  exact hk_u.2.2.2 j q
              have hx4 : mo_xr w67 (mo_fold (fun a y => mo_pln m (mo_go (w 115) a) (k + 1) (sum + mo_worth (w 115) a) (if a = 0 then few else few + 1) (fu acts k a) y) (a + 1) x) := by
                refine mo_xr_of (u := w65) ?_ (by rw [ew67, wr_n _ (by omega)]) (by rw [ew67, wr_n _ (by omega)])
                have x3 := x_w65
                rw [gw58.1, r_w56] at x3
                exact x3
              exact xx_sub [0, 2, 3, 4, 5, 6] rfl (ih_ (a + 1) w67 (by omega) hk4 hx4 (fun j hj => by rw [ew67, wr_n _ (by omega), k_w65.2.2.1 _ (by omega), gw58.2 117 (by omega) (by omega), ew56, wu_o _ _ _ _ (by omega)]; exact has j hj) (by omega))
      exact xx_sub [0, 1, 2, 3, 4, 5] rfl (lp (w 115 0 + 2) 0 w3 (by omega) ⟨fun b q => by rw [ew3, wr_n _ (fun y => by rw [y] at q; revert q; decide)], fun j q => by rw [ew3, wr_n _ (by omega)], fun j q => by rw [ew3, wr_s]; unfold mo_cp; rw [if_neg (by omega)], fun j q => by rw [ew3, wr_n _ (by omega)]⟩ (mo_xr_of hx (by rw [ew3, wr_n _ (by omega)]) (by rw [ew3, wr_n _ (by omega)])) (fun j hj => by rw [ew3, wr_s]; unfold mo_cp; rw [if_pos (by omega)]; congr 1; omega) (by omega))
    · exact xx_sub [0, 1, 2, 3, 4] rfl (xx_plans_leaf (acts := acts) (x := x) (by omega) hn4 (by omega) hI (by omega) (by omega) hx ha (fun w2 g1 g2 => ⟨rfl, w2, rfl, g1, by rw [mo_pln, if_pos (by omega)]; exact g2⟩))

