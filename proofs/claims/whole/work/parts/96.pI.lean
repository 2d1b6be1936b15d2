/-! the reader of the rules: conditions -/
def tk_PO (l : Launch) (E : ic_E) (d : Nat) : Prop := ∀ {w : ic_w} {f : Nat → Nat} {n a : Nat}, Tz w f n a → w 114 10 = 0 → w 114 11 + d = 3 → 2 * w 115 7 ≤ a → ic_C l E mX12_oneHere (3 * d + 8) 0 0 False [ic_pt E 114] SHs (hn w) SHs (tk_Q w f n (tk_one f n d a))
def tk_PA (l : Launch) (E : ic_E) (d : Nat) : Prop := ∀ {w : ic_w} {f : Nat → Nat} {n a : Nat}, Tz w f n a → w 114 10 = 0 → w 114 11 + d = 3 → 2 * w 115 7 ≤ a → ic_C l E mX12_allHere (3 * d + 9) 0 0 False [ic_pt E 114] SHs (hn w) SHs (tk_Q w f n (tk_all f n (tk_one f n d) a))
def tk_PC (l : Launch) (E : ic_E) (d : Nat) : Prop := ∀ {w : ic_w} {f : Nat → Nat} {n a : Nat}, Tz w f n a → w 114 10 = 0 → w 114 11 + d = 3 → 2 * w 115 7 ≤ a → ic_C l E mX12_condHere (3 * d + 10) 0 0 False [ic_pt E 114] SHs (hn w) SHs (tk_Q w f n (tk_cnd f n (tk_one f n d) a))
theorem tk_i_lt {f : Nat → Nat} {n a : Nat} {l : List Nat} (h : tk_i f n l a = true) : a < n := (tk_k_le f n a).2.mpr (by rw [(tk_i_k h).1]; decide)
set_option maxHeartbeats 4000000 in
set_option maxRecDepth 100000 in
theorem cZ_oneW {l : Launch} {E : ic_E} {w : ic_w} (p_w : w 114 10 = 1) : ic_C l E mX12_oneHere 1 0 0 False [ic_pt E 114] SHs (hn w) SHs (ic_qv (fun h_ => ∃ w2, h_ = hn w2 ∧ w2 = w)) := by
  refine ic_intro (by decide +kernel) (Nat.le_of_ble_eq_true rfl) ?_
  show xx l E _ _ 0 [(0, ic_pt E 114)] _ _ _
  refine xx_iconst (pc := 0) dX12_oneHere_0 cc_iconst_0 ?_
  refine xx_istore_n (L' := [(1, .int (nI 0)), (0, ic_pt E 114)]) (pc := 1) dX12_oneHere_1 rfl (Nat.le_of_ble_eq_true rfl) rfl ?_
  refine xx_aload_nP (pc := 2) dX12_oneHere_2 1 rfl rfl ?_
  refine xx_getN (pc := 3) dX12_oneHere_3 sh_114 fX12_180_12 rfl ?_
  refine xx_eqI (y := nI (1)) (by rw [p_w]) ?_
  refine xx_if_neN (pc := 6) 35 dX12_oneHere_6 rfl (by omega) (fun c1 => ?_) (fun c1 => by exfalso; omega)
  refine xx_aload_nP (pc := 35) dX12_oneHere_35 1 rfl rfl ?_
  refine xx_getN (pc := 36) dX12_oneHere_36 sh_114 fX12_180_12 rfl ?_
  refine xx_eqI (y := nI (1)) (by rw [p_w]) ?_
  refine xx_if_neN (pc := 39) 105 dX12_oneHere_39 rfl (by omega) (fun c2 => ?_) (fun c2 => by exfalso; omega)
  refine xx_aload_nP (pc := 105) dX12_oneHere_105 1 rfl rfl ?_
  refine xx_getN (pc := 106) dX12_oneHere_106 sh_114 fX12_180_12 rfl ?_
  refine xx_eqI (y := nI (1)) (by rw [p_w]) ?_
  refine xx_if_neN (pc := 109) 116 dX12_oneHere_109 rfl (by omega) (fun c3 => ?_) (fun c3 => by exfalso; omega)
  refine xx_iload_n (pc := 116) dX12_oneHere_116 0 rfl rfl ?_
  refine xx_iconst (pc := 117) dX12_oneHere_117 cc_iconst_2 ?_
  refine xx_iremN (pc := 118) dX12_oneHere_118 (by omega) (by omega) (by omega) ?_
  refine xx_iconst (pc := 119) dX12_oneHere_119 cc_iconst_1 ?_
  refine xx_icmp_neN (pc := 120) 130 dX12_oneHere_120 rfl (by omega) (by omega) (fun c4 => ?_) (fun c4 => by exfalso; omega)
  exact xx_vret (pc := 130) dX12_oneHere_130 rfl (Nat.le_refl _) (Nat.le_refl _) (ic_rv0 ⟨w, rfl, rfl⟩)

set_option maxHeartbeats 4000000 in
set_option maxRecDepth 100000 in
theorem cZ_allW {l : Launch} {E : ic_E} {w : ic_w} (p_w : w 114 10 = 1) : ic_C l E mX12_allHere 2 0 0 False [ic_pt E 114] SHs (hn w) SHs (ic_qv (fun h_ => ∃ w2, h_ = hn w2 ∧ w2 = w)) := by
  refine ic_intro (by decide +kernel) (Nat.le_of_ble_eq_true rfl) ?_
  show xx l E _ _ 0 [(0, ic_pt E 114)] _ _ _
  refine xx_aload_nP (pc := 0) dX12_allHere_0 0 rfl rfl ?_
  refine xx_callV0 (pc := 1) (st := []) sh_114 (cZ_oneW (w := w) p_w) kX12_oneHere vX12_221_12 dX12_allHere_1 rfl rfl (Nat.le_of_ble_eq_true rfl) ⟨Nat.le_of_ble_eq_true rfl, Nat.le_of_ble_eq_true rfl⟩ ⟨Nat.zero_le _, Nat.zero_le _⟩ (ic_kv (fun h_ qw1 => ?_))
  obtain ⟨w1, rfl, e_w1⟩ := qw1
  have p_w1 : w1 114 10 = 1 := by rw [e_w1]; exact p_w
  refine xx_aload_nP (pc := 4) dX12_allHere_4 0 rfl rfl ?_
  refine xx_getN (pc := 5) dX12_allHere_5 sh_114 fX12_180_12 rfl ?_
  refine xx_eqI (y := nI (1)) (by rw [p_w1]) ?_
  refine xx_if_neN (pc := 8) 45 dX12_allHere_8 rfl (by omega) (fun c3 => ?_) (fun c3 => by exfalso; omega)
  exact xx_vret (pc := 45) dX12_allHere_45 rfl (Nat.le_refl _) (Nat.le_refl _) (ic_rv0 ⟨w1, rfl, e_w1⟩)

set_option maxHeartbeats 4000000 in
set_option maxRecDepth 100000 in
theorem cZ_condW {l : Launch} {E : ic_E} {w : ic_w} (p_w : w 114 10 = 1) : ic_C l E mX12_condHere 3 0 0 False [ic_pt E 114] SHs (hn w) SHs (ic_qv (fun h_ => ∃ w2, h_ = hn w2 ∧ w2 = w)) := by
  refine ic_intro (by decide +kernel) (Nat.le_of_ble_eq_true rfl) ?_
  show xx l E _ _ 0 [(0, ic_pt E 114)] _ _ _
  refine xx_aload_nP (pc := 0) dX12_condHere_0 0 rfl rfl ?_
  refine xx_callV0 (pc := 1) (st := []) sh_114 (cZ_allW (w := w) p_w) kX12_allHere vX12_224_12 dX12_condHere_1 rfl rfl (Nat.le_of_ble_eq_true rfl) ⟨Nat.le_of_ble_eq_true rfl, Nat.le_of_ble_eq_true rfl⟩ ⟨Nat.zero_le _, Nat.zero_le _⟩ (ic_kv (fun h_ qw1 => ?_))
  obtain ⟨w1, rfl, e_w1⟩ := qw1
  have p_w1 : w1 114 10 = 1 := by rw [e_w1]; exact p_w
  refine xx_aload_nP (pc := 4) dX12_condHere_4 0 rfl rfl ?_
  refine xx_getN (pc := 5) dX12_condHere_5 sh_114 fX12_180_12 rfl ?_
  refine xx_eqI (y := nI (1)) (by rw [p_w1]) ?_
  refine xx_if_neN (pc := 8) 40 dX12_condHere_8 rfl (by omega) (fun c3 => ?_) (fun c3 => by exfalso; omega)
  exact xx_vret (pc := 40) dX12_condHere_40 rfl (Nat.le_refl _) (Nat.le_refl _) (ic_rv0 ⟨w1, rfl, e_w1⟩)

set_option maxHeartbeats 4000000 in
set_option maxRecDepth 100000 in
theorem cZ_all {l : Launch} {E : ic_E} {w : ic_w} {d : Nat} (h : tk_PO l E d) {f : Nat → Nat} {n a : Nat} (z_w : Tz w f n a) (p_w : w 114 10 = 0) (ho : w 114 11 + d = 3) (hb : 2 * w 115 7 ≤ a) : ic_C l E mX12_allHere (3 * d + 9) 0 0 False [ic_pt E 114] SHs (hn w) SHs (tk_Q w f n (tk_all f n (tk_one f n d) a)) := by
  refine ic_intro (by decide +kernel) (Nat.le_of_ble_eq_true rfl) ?_
  show xx l E _ _ 0 [(0, ic_pt E 114)] _ _ _
  have hn2 := z_w.b
  have x_w := Hw.rf w
  have o_w : w 114 11 = w 114 11 := rfl
  have s_w : w 115 = tk_sts (w 115) [] := rfl
  have lp : ∀ (n_ : Nat) (k b : Nat) (K : tk_L) (u : ic_w), Tz u f n b → u 114 10 = 0 → Hw w u → u 114 11 = w 114 11 → u 115 = tk_sts (w 115) K → tk_all f n (tk_one f n d) a = (((tk_lp f n [97, 110, 100] (tk_one f n d) 4) k b).1, ((tk_lp f n [97, 110, 100] (tk_one f n d) 4) k b).2.1, K ++ ((tk_lp f n [97, 110, 100] (tk_one f n d) 4) k b).2.2) → 2 * (w 115 7 + K.length) ≤ b → n ≤ b + k → k < n_ → xx l E (ic_fr E mX12_allHere (3 * d + 9) 0 0 False SHs (tk_Q w f n (tk_all f n (tk_one f n d) a))) (0, 0) 4 [(0, ic_pt E 114)] [] SHs (hn u) := by
    intro n_
    induction n_ with
    | zero => intro k b K u z_u p_u x_u o_u s_u hl hK hk hm_; exact absurd hm_ (Nat.not_lt_zero _)
    | succ n_ ih_ =>
      intro k b K u z_u p_u x_u o_u s_u hl hK hk hm_
      refine xx_aload_nP (pc := 4) dX12_allHere_4 0 rfl rfl ?_
      refine xx_getN (pc := 5) dX12_allHere_5 sh_114 fX12_180_12 rfl ?_
      refine xx_eqI (y := nI (0)) (by rw [p_u]) ?_
      refine xx_if_neN (pc := 8) 45 dX12_allHere_8 rfl (by omega) (fun c1 => by exfalso; omega) (fun c1 => ?_)
      refine xx_aload_nP (pc := 11) dX12_allHere_11 0 rfl rfl ?_
      refine xx_iconst (pc := 12) dX12_allHere_12 cc_iconst_3 ?_
      refine xx_bipush (pc := 13) dX12_allHere_13 cc_bipush_97 ?_
      refine xx_bipush (pc := 15) dX12_allHere_15 cc_bipush_110 ?_
      refine xx_bipush (pc := 17) dX12_allHere_17 cc_bipush_100 ?_
      refine xx_bipush (pc := 19) dX12_allHere_19 cc_bipush_100 ?_
      refine xx_callV0 (pc := 21) (st := []) sh_114 (cZ_and (w := u) z_u) kX12_isName vX12_187_12 dX12_allHere_21 rfl rfl (Nat.le_of_ble_eq_true rfl) (pl_hR (d := (3 * d + 9)) (by omega) (Nat.le_of_ble_eq_true rfl)) ⟨Nat.zero_le _, Nat.zero_le _⟩ (ic_ke ?_)
      refine xx_if_eqB (pc := 24) 45 dX12_allHere_24 rfl (fun c2 => ?_) (fun c2 => ?_)
      · exact xx_vret (pc := 45) dX12_allHere_45 rfl (Nat.le_refl _) (Nat.le_refl _) (ic_rv0 (by rw [hl, tk_lp_f c2]; exact ⟨u, rfl, x_u, o_u, z_u, p_u, fun _ => by rw [s_u]; simp⟩))
      · have hi_ := c2
        have hlt_ := tk_i_lt hi_
        have hz_ := tk_i_z z_u.2.1 hi_
        have hz2_ : b + 3 ≤ tk_z f n b := hz_.1
        obtain ⟨k, rfl⟩ : ∃ q, k = q + 1 := ⟨k - 1, by omega⟩
        refine xx_aload_nP (pc := 27) dX12_allHere_27 0 rfl rfl ?_
        refine xx_callV0 (pc := 28) (st := []) sh_114 (cZ_next (w := u) z_u) kX12_nextToken vX12_184_12 dX12_allHere_28 rfl rfl (Nat.le_of_ble_eq_true rfl) (pl_hR (d := (3 * d + 9)) (by omega) (Nat.le_of_ble_eq_true rfl)) ⟨Nat.zero_le _, Nat.zero_le _⟩ (ic_kv (fun h_ qw3 => ?_))
        obtain ⟨w3, rfl, y_w3, z_w3, p0_⟩ := qw3
        have p_w3 : w3 114 10 = 0 := p0_.trans p_u
        have x_w3 := x_u.tr y_w3.h
        have o_w3 : w3 114 11 = w 114 11 := (y_w3.2 11 (by omega)).trans o_u
        have s_w3 : w3 115 = tk_sts (w 115) K := (y_w3.1 115 (by decide)).trans s_u
        refine xx_aload_nP (pc := 31) dX12_allHere_31 0 rfl rfl ?_
        refine xx_callV0 (pc := 32) (st := []) sh_114 (h z_w3 p_w3 (by rw [o_w3]; exact ho) (by rw [s_w3]; first | exact hb | (rw [tk_sts_7]; omega))) kX12_oneHere vX12_221_12 dX12_allHere_32 rfl rfl (Nat.le_of_ble_eq_true rfl) (pl_hR (d := (3 * d + 9)) (by omega) (Nat.le_of_ble_eq_true rfl)) ⟨Nat.zero_le _, Nat.zero_le _⟩ (ic_kv (fun h_ qw5 => ?_))
        obtain ⟨w5, rfl, y_w5, q11_w5, z_w5, q10_w5, q15_w5⟩ := qw5
        have R_w5 := tk_one_R (f := f) d (tk_z f n b) (z_w3).2.1
        have x_w5 := x_w3.tr y_w5
        have o_w5 : w5 114 11 = w 114 11 := q11_w5.trans o_w3
        by_cases v_w5 : ((tk_one f n d) (tk_z f n b)).1 = 0
        · have p_w5 : w5 114 10 = 0 := q10_w5.trans v_w5
          have s_w5 : w5 115 = tk_sts (w 115) (K ++ ((tk_one f n d) (tk_z f n b)).2.2) := by rw [q15_w5 v_w5, s_w3]; exact (tk_sts_a _ _ _).symm
          refine xx_aload_nP (pc := 35) dX12_allHere_35 0 rfl rfl ?_
          refine xx_iconst (pc := 36) dX12_allHere_36 cc_iconst_4 ?_
          refine xx_iconst (pc := 37) dX12_allHere_37 cc_iconst_0 ?_
          refine xx_iconst (pc := 38) dX12_allHere_38 cc_iconst_0 ?_
          refine xx_callV0 (pc := 39) (st := []) sh_114 (cZ_steps (w := w5) (x := 4) (y := 0) (z := 0) z_w5 (by decide) (by decide) (by decide) p_w5 (by rw [s_w5, tk_sts_7]; have := (R_w5.2.2.2 v_w5).1; have := R_w5.2.2.1; simp only [List.length_append]; omega)) kX12_steps vX12_208_12 dX12_allHere_39 rfl rfl (Nat.le_of_ble_eq_true rfl) (pl_hR (d := (3 * d + 9)) (by omega) (Nat.le_of_ble_eq_true rfl)) ⟨Nat.zero_le _, Nat.zero_le _⟩ (ic_kv (fun h_ qw7 => ?_))
          obtain ⟨w7, rfl, y_w7, q11_, z_w7, p_w7, q15_⟩ := qw7
          have x_w7 := x_w5.tr y_w7
          have o_w7 : w7 114 11 = w 114 11 := q11_.trans o_w5
          have s_w7 : w7 115 = tk_sts (w 115) (K ++ ((tk_one f n d) (tk_z f n b)).2.2 ++ [(4, 0, 0)]) := by rw [q15_, s_w5]; exact (tk_sts_a _ (K ++ ((tk_one f n d) (tk_z f n b)).2.2) [(4, 0, 0)]).symm
          refine xx_goto (pc := 42) 4 dX12_allHere_42 rfl ?_
          exact xx_sub [0] rfl (ih_ k (((tk_one f n d) (tk_z f n b)).2.1) (K ++ ((tk_one f n d) (tk_z f n b)).2.2 ++ [(4, 0, 0)]) w7 z_w7 p_w7 x_w7 o_w7 s_w7 (by rw [hl, tk_lp_t hi_, tk_P_0 v_w5]; simp [tk_bd_0c, List.append_assoc]) (by have := (R_w5.2.2.2 v_w5).1; simp only [List.length_append, List.length_cons, List.length_nil]; omega) (by have := (R_w5.2.1); omega) (Nat.lt_of_succ_lt_succ hm_))
        · have v1_w5 : ((tk_one f n d) (tk_z f n b)).1 = 1 := by have := R_w5.1; omega
          have p_w5 : w5 114 10 = 1 := q10_w5.trans v1_w5
          refine xx_aload_nP (pc := 35) dX12_allHere_35 0 rfl rfl ?_
          refine xx_iconst (pc := 36) dX12_allHere_36 cc_iconst_4 ?_
          refine xx_iconst (pc := 37) dX12_allHere_37 cc_iconst_0 ?_
          refine xx_iconst (pc := 38) dX12_allHere_38 cc_iconst_0 ?_
          refine xx_callV0 (pc := 39) (st := []) sh_114 (cZ_stepsW (w := w5) (x := 4) (y := 0) (z := 0) p_w5) kX12_steps vX12_208_12 dX12_allHere_39 rfl rfl (Nat.le_of_ble_eq_true rfl) (pl_hR (d := (3 * d + 9)) (by omega) (Nat.le_of_ble_eq_true rfl)) ⟨Nat.zero_le _, Nat.zero_le _⟩ (ic_kv (fun h_ qw9 => ?_))
          obtain ⟨w9, rfl, e_w9⟩ := qw9
          have z_w9 := z_w5
          have p_w9 := p_w5
          have x_w9 := x_w5
          have o_w9 := o_w5
          rw [← e_w9] at z_w9 p_w9 x_w9 o_w9
          refine xx_goto (pc := 42) 4 dX12_allHere_42 rfl ?_
          refine xx_aload_nP (pc := 4) dX12_allHere_4 0 rfl rfl ?_
          refine xx_getN (pc := 5) dX12_allHere_5 sh_114 fX12_180_12 rfl ?_
          refine xx_eqI (y := nI (1)) (by rw [p_w9]) ?_
          refine xx_if_neN (pc := 8) 45 dX12_allHere_8 rfl (by omega) (fun c11 => ?_) (fun c11 => by exfalso; omega)
          exact xx_vret (pc := 45) dX12_allHere_45 rfl (Nat.le_refl _) (Nat.le_refl _) (ic_rv0 (by rw [hl, tk_lp_t hi_, tk_P_1 v1_w5, tk_bd_11]; exact ⟨w9, rfl, x_w9, o_w9, z_w9, p_w9, fun y_ => absurd y_ Nat.one_ne_zero⟩))
  refine xx_aload_nP (pc := 0) dX12_allHere_0 0 rfl rfl ?_
  refine xx_callV0 (pc := 1) (st := []) sh_114 (h z_w p_w (by rw [o_w]; exact ho) (by rw [s_w]; first | exact hb | (rw [tk_sts_7]; omega))) kX12_oneHere vX12_221_12 dX12_allHere_1 rfl rfl (Nat.le_of_ble_eq_true rfl) (pl_hR (d := (3 * d + 9)) (by omega) (Nat.le_of_ble_eq_true rfl)) ⟨Nat.zero_le _, Nat.zero_le _⟩ (ic_kv (fun h_ qw12 => ?_))
  obtain ⟨w12, rfl, y_w12, q11_w12, z_w12, q10_w12, q15_w12⟩ := qw12
  have R_w12 := tk_one_R (f := f) d (a) (z_w).2.1
  have x_w12 := x_w.tr y_w12
  have o_w12 : w12 114 11 = w 114 11 := q11_w12.trans o_w
  by_cases v_w12 : ((tk_one f n d) a).1 = 0
  · have p_w12 : w12 114 10 = 0 := q10_w12.trans v_w12
    have s_w12 : w12 115 = tk_sts (w 115) (((tk_one f n d) a).2.2) := by rw [q15_w12 v_w12, s_w] <;> rfl
    exact xx_sub [0] rfl (lp 201 200 (((tk_one f n d) a).2.1) (((tk_one f n d) a).2.2) w12 z_w12 p_w12 x_w12 o_w12 s_w12 (by rw [tk_all, tk_bd_0 v_w12]) (by have := (R_w12.2.2.2 v_w12).1; omega) (by omega) (by omega))
  · have v1_w12 : ((tk_one f n d) a).1 = 1 := by have := R_w12.1; omega
    have p_w12 : w12 114 10 = 1 := q10_w12.trans v1_w12
    refine xx_aload_nP (pc := 4) dX12_allHere_4 0 rfl rfl ?_
    refine xx_getN (pc := 5) dX12_allHere_5 sh_114 fX12_180_12 rfl ?_
    refine xx_eqI (y := nI (1)) (by rw [p_w12]) ?_
    refine xx_if_neN (pc := 8) 45 dX12_allHere_8 rfl (by omega) (fun c14 => ?_) (fun c14 => by exfalso; omega)
    exact xx_vret (pc := 45) dX12_allHere_45 rfl (Nat.le_refl _) (Nat.le_refl _) (ic_rv0 (by rw [tk_all, tk_bd_1 v1_w12]; exact ⟨w12, rfl, x_w12, o_w12, z_w12, p_w12.trans v1_w12.symm, fun y_ => absurd (y_.symm.trans v1_w12) (by decide)⟩))

theorem tk_all_1R {f : Nat → Nat} {n : Nat} (d a : Nat) (ha : a ≤ n) : tk_R n (1 + 4 * d + 2) 1 a (tk_all f n (tk_one f n d) a) := tk_all_R (tk_one_R d) ha
theorem tk_cnd_1R {f : Nat → Nat} {n : Nat} (d a : Nat) (ha : a ≤ n) : tk_R n (1 + 4 * d + 4) 1 a (tk_cnd f n (tk_one f n d) a) := tk_cnd_R (tk_one_R d) ha
set_option maxHeartbeats 4000000 in
set_option maxRecDepth 100000 in
theorem cZ_cond {l : Launch} {E : ic_E} {w : ic_w} {d : Nat} (h : tk_PA l E d) {f : Nat → Nat} {n a : Nat} (z_w : Tz w f n a) (p_w : w 114 10 = 0) (ho : w 114 11 + d = 3) (hb : 2 * w 115 7 ≤ a) : ic_C l E mX12_condHere (3 * d + 10) 0 0 False [ic_pt E 114] SHs (hn w) SHs (tk_Q w f n (tk_cnd f n (tk_one f n d) a)) := by
  refine ic_intro (by decide +kernel) (Nat.le_of_ble_eq_true rfl) ?_
  show xx l E _ _ 0 [(0, ic_pt E 114)] _ _ _
  have hn2 := z_w.b
  have x_w := Hw.rf w
  have o_w : w 114 11 = w 114 11 := rfl
  have s_w : w 115 = tk_sts (w 115) [] := rfl
  have lp : ∀ (n_ : Nat) (k b : Nat) (K : tk_L) (u : ic_w), Tz u f n b → u 114 10 = 0 → Hw w u → u 114 11 = w 114 11 → u 115 = tk_sts (w 115) K → tk_cnd f n (tk_one f n d) a = (((tk_lp f n [111, 114] (tk_all f n (tk_one f n d)) 5) k b).1, ((tk_lp f n [111, 114] (tk_all f n (tk_one f n d)) 5) k b).2.1, K ++ ((tk_lp f n [111, 114] (tk_all f n (tk_one f n d)) 5) k b).2.2) → 2 * (w 115 7 + K.length) ≤ b → n ≤ b + k → k < n_ → xx l E (ic_fr E mX12_condHere (3 * d + 10) 0 0 False SHs (tk_Q w f n (tk_cnd f n (tk_one f n d) a))) (0, 0) 4 [(0, ic_pt E 114)] [] SHs (hn u) := by
    intro n_
    induction n_ with
    | zero => intro k b K u z_u p_u x_u o_u s_u hl hK hk hm_; exact absurd hm_ (Nat.not_lt_zero _)
    | succ n_ ih_ =>
      intro k b K u z_u p_u x_u o_u s_u hl hK hk hm_
      refine xx_aload_nP (pc := 4) dX12_condHere_4 0 rfl rfl ?_
      refine xx_getN (pc := 5) dX12_condHere_5 sh_114 fX12_180_12 rfl ?_
      refine xx_eqI (y := nI (0)) (by rw [p_u]) ?_
      refine xx_if_neN (pc := 8) 40 dX12_condHere_8 rfl (by omega) (fun c1 => by exfalso; omega) (fun c1 => ?_)
      refine xx_aload_nP (pc := 11) dX12_condHere_11 0 rfl rfl ?_
      refine xx_bipush (pc := 12) dX12_condHere_12 cc_bipush_111 ?_
      refine xx_bipush (pc := 14) dX12_condHere_14 cc_bipush_114 ?_
      refine xx_callV0 (pc := 16) (st := []) sh_114 (cZ_or (w := u) z_u) kX12_isTwo vX12_227_12 dX12_condHere_16 rfl rfl (Nat.le_of_ble_eq_true rfl) (pl_hR (d := (3 * d + 10)) (by omega) (Nat.le_of_ble_eq_true rfl)) ⟨Nat.zero_le _, Nat.zero_le _⟩ (ic_ke ?_)
      refine xx_if_eqB (pc := 19) 40 dX12_condHere_19 rfl (fun c2 => ?_) (fun c2 => ?_)
      · exact xx_vret (pc := 40) dX12_condHere_40 rfl (Nat.le_refl _) (Nat.le_refl _) (ic_rv0 (by rw [hl, tk_lp_f c2]; exact ⟨u, rfl, x_u, o_u, z_u, p_u, fun _ => by rw [s_u]; simp⟩))
      · have hi_ := c2
        have hlt_ := tk_i_lt hi_
        have hz_ := tk_i_z z_u.2.1 hi_
        have hz2_ : b + 2 ≤ tk_z f n b := hz_.1
        obtain ⟨k, rfl⟩ : ∃ q, k = q + 1 := ⟨k - 1, by omega⟩
        refine xx_aload_nP (pc := 22) dX12_condHere_22 0 rfl rfl ?_
        refine xx_callV0 (pc := 23) (st := []) sh_114 (cZ_next (w := u) z_u) kX12_nextToken vX12_184_12 dX12_condHere_23 rfl rfl (Nat.le_of_ble_eq_true rfl) (pl_hR (d := (3 * d + 10)) (by omega) (Nat.le_of_ble_eq_true rfl)) ⟨Nat.zero_le _, Nat.zero_le _⟩ (ic_kv (fun h_ qw3 => ?_))
        obtain ⟨w3, rfl, y_w3, z_w3, p0_⟩ := qw3
        have p_w3 : w3 114 10 = 0 := p0_.trans p_u
        have x_w3 := x_u.tr y_w3.h
        have o_w3 : w3 114 11 = w 114 11 := (y_w3.2 11 (by omega)).trans o_u
        have s_w3 : w3 115 = tk_sts (w 115) K := (y_w3.1 115 (by decide)).trans s_u
        refine xx_aload_nP (pc := 26) dX12_condHere_26 0 rfl rfl ?_
        refine xx_callV0 (pc := 27) (st := []) sh_114 (h z_w3 p_w3 (by rw [o_w3]; exact ho) (by rw [s_w3]; first | exact hb | (rw [tk_sts_7]; omega))) kX12_allHere vX12_224_12 dX12_condHere_27 rfl rfl (Nat.le_of_ble_eq_true rfl) (pl_hR (d := (3 * d + 10)) (by omega) (Nat.le_of_ble_eq_true rfl)) ⟨Nat.zero_le _, Nat.zero_le _⟩ (ic_kv (fun h_ qw5 => ?_))
        obtain ⟨w5, rfl, y_w5, q11_w5, z_w5, q10_w5, q15_w5⟩ := qw5
        have R_w5 := tk_all_1R (f := f) d (tk_z f n b) (z_w3).2.1
        have x_w5 := x_w3.tr y_w5
        have o_w5 : w5 114 11 = w 114 11 := q11_w5.trans o_w3
        by_cases v_w5 : ((tk_all f n (tk_one f n d)) (tk_z f n b)).1 = 0
        · have p_w5 : w5 114 10 = 0 := q10_w5.trans v_w5
          have s_w5 : w5 115 = tk_sts (w 115) (K ++ ((tk_all f n (tk_one f n d)) (tk_z f n b)).2.2) := by rw [q15_w5 v_w5, s_w3]; exact (tk_sts_a _ _ _).symm
          refine xx_aload_nP (pc := 30) dX12_condHere_30 0 rfl rfl ?_
          refine xx_iconst (pc := 31) dX12_condHere_31 cc_iconst_5 ?_
          refine xx_iconst (pc := 32) dX12_condHere_32 cc_iconst_0 ?_
          refine xx_iconst (pc := 33) dX12_condHere_33 cc_iconst_0 ?_
          refine xx_callV0 (pc := 34) (st := []) sh_114 (cZ_steps (w := w5) (x := 5) (y := 0) (z := 0) z_w5 (by decide) (by decide) (by decide) p_w5 (by rw [s_w5, tk_sts_7]; have := (R_w5.2.2.2 v_w5).1; have := R_w5.2.2.1; simp only [List.length_append]; omega)) kX12_steps vX12_208_12 dX12_condHere_34 rfl rfl (Nat.le_of_ble_eq_true rfl) (pl_hR (d := (3 * d + 10)) (by omega) (Nat.le_of_ble_eq_true rfl)) ⟨Nat.zero_le _, Nat.zero_le _⟩ (ic_kv (fun h_ qw7 => ?_))
          obtain ⟨w7, rfl, y_w7, q11_, z_w7, p_w7, q15_⟩ := qw7
          have x_w7 := x_w5.tr y_w7
          have o_w7 : w7 114 11 = w 114 11 := q11_.trans o_w5
          have s_w7 : w7 115 = tk_sts (w 115) (K ++ ((tk_all f n (tk_one f n d)) (tk_z f n b)).2.2 ++ [(5, 0, 0)]) := by rw [q15_, s_w5]; exact (tk_sts_a _ (K ++ ((tk_all f n (tk_one f n d)) (tk_z f n b)).2.2) [(5, 0, 0)]).symm
          refine xx_goto (pc := 37) 4 dX12_condHere_37 rfl ?_
          exact xx_sub [0] rfl (ih_ k (((tk_all f n (tk_one f n d)) (tk_z f n b)).2.1) (K ++ ((tk_all f n (tk_one f n d)) (tk_z f n b)).2.2 ++ [(5, 0, 0)]) w7 z_w7 p_w7 x_w7 o_w7 s_w7 (by rw [hl, tk_lp_t hi_, tk_P_0 v_w5]; simp [tk_bd_0c, List.append_assoc]) (by have := (R_w5.2.2.2 v_w5).1; simp only [List.length_append, List.length_cons, List.length_nil]; omega) (by have := (R_w5.2.1); omega) (Nat.lt_of_succ_lt_succ hm_))
        · have v1_w5 : ((tk_all f n (tk_one f n d)) (tk_z f n b)).1 = 1 := by have := R_w5.1; omega
          have p_w5 : w5 114 10 = 1 := q10_w5.trans v1_w5
          refine xx_aload_nP (pc := 30) dX12_condHere_30 0 rfl rfl ?_
          refine xx_iconst (pc := 31) dX12_condHere_31 cc_iconst_5 ?_
          refine xx_iconst (pc := 32) dX12_condHere_32 cc_iconst_0 ?_
          refine xx_iconst (pc := 33) dX12_condHere_33 cc_iconst_0 ?_
          refine xx_callV0 (pc := 34) (st := []) sh_114 (cZ_stepsW (w := w5) (x := 5) (y := 0) (z := 0) p_w5) kX12_steps vX12_208_12 dX12_condHere_34 rfl rfl (Nat.le_of_ble_eq_true rfl) (pl_hR (d := (3 * d + 10)) (by omega) (Nat.le_of_ble_eq_true rfl)) ⟨Nat.zero_le _, Nat.zero_le _⟩ (ic_kv (fun h_ qw9 => ?_))
          obtain ⟨w9, rfl, e_w9⟩ := qw9
          have z_w9 := z_w5
          have p_w9 := p_w5
          have x_w9 := x_w5
          have o_w9 := o_w5
          rw [← e_w9] at z_w9 p_w9 x_w9 o_w9
          refine xx_goto (pc := 37) 4 dX12_condHere_37 rfl ?_
          refine xx_aload_nP (pc := 4) dX12_condHere_4 0 rfl rfl ?_
          refine xx_getN (pc := 5) dX12_condHere_5 sh_114 fX12_180_12 rfl ?_
          refine xx_eqI (y := nI (1)) (by rw [p_w9]) ?_
          refine xx_if_neN (pc := 8) 40 dX12_condHere_8 rfl (by omega) (fun c11 => ?_) (fun c11 => by exfalso; omega)
          exact xx_vret (pc := 40) dX12_condHere_40 rfl (Nat.le_refl _) (Nat.le_refl _) (ic_rv0 (by rw [hl, tk_lp_t hi_, tk_P_1 v1_w5, tk_bd_11]; exact ⟨w9, rfl, x_w9, o_w9, z_w9, p_w9, fun y_ => absurd y_ Nat.one_ne_zero⟩))
  refine xx_aload_nP (pc := 0) dX12_condHere_0 0 rfl rfl ?_
  refine xx_callV0 (pc := 1) (st := []) sh_114 (h z_w p_w (by rw [o_w]; exact ho) (by rw [s_w]; first | exact hb | (rw [tk_sts_7]; omega))) kX12_allHere vX12_224_12 dX12_condHere_1 rfl rfl (Nat.le_of_ble_eq_true rfl) (pl_hR (d := (3 * d + 10)) (by omega) (Nat.le_of_ble_eq_true rfl)) ⟨Nat.zero_le _, Nat.zero_le _⟩ (ic_kv (fun h_ qw12 => ?_))
  obtain ⟨w12, rfl, y_w12, q11_w12, z_w12, q10_w12, q15_w12⟩ := qw12
  have R_w12 := tk_all_1R (f := f) d (a) (z_w).2.1
  have x_w12 := x_w.tr y_w12
  have o_w12 : w12 114 11 = w 114 11 := q11_w12.trans o_w
  by_cases v_w12 : ((tk_all f n (tk_one f n d)) a).1 = 0
  · have p_w12 : w12 114 10 = 0 := q10_w12.trans v_w12
    have s_w12 : w12 115 = tk_sts (w 115) (((tk_all f n (tk_one f n d)) a).2.2) := by rw [q15_w12 v_w12, s_w] <;> rfl
    exact xx_sub [0] rfl (lp 201 200 (((tk_all f n (tk_one f n d)) a).2.1) (((tk_all f n (tk_one f n d)) a).2.2) w12 z_w12 p_w12 x_w12 o_w12 s_w12 (by rw [tk_cnd, tk_bd_0 v_w12]) (by have := (R_w12.2.2.2 v_w12).1; omega) (by omega) (by omega))
  · have v1_w12 : ((tk_all f n (tk_one f n d)) a).1 = 1 := by have := R_w12.1; omega
    have p_w12 : w12 114 10 = 1 := q10_w12.trans v1_w12
    refine xx_aload_nP (pc := 4) dX12_condHere_4 0 rfl rfl ?_
    refine xx_getN (pc := 5) dX12_condHere_5 sh_114 fX12_180_12 rfl ?_
    refine xx_eqI (y := nI (1)) (by rw [p_w12]) ?_
    refine xx_if_neN (pc := 8) 40 dX12_condHere_8 rfl (by omega) (fun c14 => ?_) (fun c14 => by exfalso; omega)
    exact xx_vret (pc := 40) dX12_condHere_40 rfl (Nat.le_refl _) (Nat.le_refl _) (ic_rv0 (by rw [tk_cnd, tk_bd_1 v1_w12]; exact ⟨w12, rfl, x_w12, o_w12, z_w12, p_w12.trans v1_w12.symm, fun y_ => absurd (y_.symm.trans v1_w12) (by decide)⟩))

