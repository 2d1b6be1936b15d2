/-! the reader of the rules: one of a condition -/
theorem tk_on_eq {f : Nat → Nat} {n a b q : Nat} {h : Nat → tk_P} (e : tk_nt f n 200 a = (b, q)) : tk_on f n h a = tk_bd (if tk_k f n b = 3 ∧ tk_b f n b = 40 then h b else tk_cmp f n b) (fun c => (0, c, if q % 2 = 1 then [(3, 0, 0)] else [])) := by
  unfold tk_on
  rw [e]
set_option maxHeartbeats 4000000 in
set_option maxRecDepth 100000 in
theorem cZ_one0 {l : Launch} {E : ic_E} {w : ic_w}  {f : Nat → Nat} {n a : Nat} (z_w : Tz w f n a) (p_w : w 114 10 = 0) (ho : w 114 11 = 3) (hb : 2 * w 115 7 ≤ a) : ic_C l E mX12_oneHere 8 0 0 False [ic_pt E 114] SHs (hn w) SHs (tk_Q w f n (tk_one f n 0 a)) := by
  refine ic_intro (by decide +kernel) (Nat.le_of_ble_eq_true rfl) ?_
  show xx l E _ _ 0 [(0, ic_pt E 114)] _ _ _
  have hn2 := z_w.b
  have x_w := Hw.rf w
  have o_w : w 114 11 = w 114 11 := rfl
  have s_w : w 115 = tk_sts (w 115) [] := rfl
  have ct0 : ∀ (q e : Nat) (K : tk_L) (u : ic_w), Tz u f n e → u 114 10 = 0 → Hw w u → u 114 11 = w 114 11 → u 115 = tk_sts (w 115) K → w 115 7 + K.length ≤ 140 → q ≤ 200 → tk_one f n 0 a = tk_bd (0, e, K) (fun c => (0, c, if q % 2 = 1 then [(3, 0, 0)] else [])) → xx l E (ic_fr E mX12_oneHere 8 0 0 False SHs (tk_Q w f n (tk_one f n 0 a))) (0, 0) 116 [(1, .int (nI q)), (0, ic_pt E 114)] [] SHs (hn u) := by
    intro q e K u z_u p_u x_u o_u s_u h7 hq hK
    refine xx_iload_n (pc := 116) dX12_oneHere_116 0 rfl rfl ?_
    refine xx_iconst (pc := 117) dX12_oneHere_117 cc_iconst_2 ?_
    refine xx_iremN (pc := 118) dX12_oneHere_118 (by omega) (by omega) (by omega) ?_
    refine xx_iconst (pc := 119) dX12_oneHere_119 cc_iconst_1 ?_
    refine xx_icmp_neN (pc := 120) 130 dX12_oneHere_120 rfl (by omega) (by omega) (fun c501 => ?_) (fun c501 => ?_)
    · have hodd_ : ¬ q % 2 = 1 := by omega
      exact xx_vret (pc := 130) dX12_oneHere_130 rfl (Nat.le_refl _) (Nat.le_refl _) (ic_rv0 (by rw [hK, tk_bd_00, if_neg hodd_, List.append_nil]; exact ⟨u, rfl, x_u, o_u, z_u, p_u, fun _ => s_u⟩))
    · have hodd_ : q % 2 = 1 := by omega
      refine xx_aload_nP (pc := 123) dX12_oneHere_123 1 rfl rfl ?_
      refine xx_iconst (pc := 124) dX12_oneHere_124 cc_iconst_3 ?_
      refine xx_iconst (pc := 125) dX12_oneHere_125 cc_iconst_0 ?_
      refine xx_iconst (pc := 126) dX12_oneHere_126 cc_iconst_0 ?_
      refine xx_callV0 (pc := 127) (st := []) sh_114 (cZ_steps (w := u) (x := 3) (y := 0) (z := 0) z_u (by decide) (by decide) (by decide) p_u (by rw [s_u, tk_sts_7]; omega)) kX12_steps vX12_208_12 dX12_oneHere_127 rfl rfl (Nat.le_of_ble_eq_true rfl) (pl_hR (d := 8) (by omega) (Nat.le_of_ble_eq_true rfl)) ⟨Nat.zero_le _, Nat.zero_le _⟩ (ic_kv (fun h_ qw502 => ?_))
      obtain ⟨w502, rfl, y_w502, q11_, z_w502, p_w502, q15_⟩ := qw502
      have x_w502 := x_u.tr y_w502
      have o_w502 : w502 114 11 = w 114 11 := q11_.trans o_u
      have s_w502 : w502 115 = tk_sts (w 115) (K ++ [(3, 0, 0)]) := by rw [q15_, s_u]; exact (tk_sts_a _ K [(3, 0, 0)]).symm
      exact xx_vret (pc := 130) dX12_oneHere_130 rfl (Nat.le_refl _) (Nat.le_refl _) (ic_rv0 (by rw [hK, tk_bd_00, if_pos hodd_]; exact ⟨w502, rfl, x_w502, o_w502, z_w502, p_w502, fun _ => s_w502⟩))
  have ct1 : ∀ (q e : Nat) (K : tk_L) (u : ic_w), Tz u f n e → u 114 10 = 1 → Hw w u → u 114 11 = w 114 11 → q ≤ 200 → tk_one f n 0 a = tk_bd (1, e, K) (fun c => (0, c, if q % 2 = 1 then [(3, 0, 0)] else [])) → xx l E (ic_fr E mX12_oneHere 8 0 0 False SHs (tk_Q w f n (tk_one f n 0 a))) (0, 0) 116 [(1, .int (nI q)), (0, ic_pt E 114)] [] SHs (hn u) := by
    intro q e K u z_u p_u x_u o_u hq hK
    refine xx_iload_n (pc := 116) dX12_oneHere_116 0 rfl rfl ?_
    refine xx_iconst (pc := 117) dX12_oneHere_117 cc_iconst_2 ?_
    refine xx_iremN (pc := 118) dX12_oneHere_118 (by omega) (by omega) (by omega) ?_
    refine xx_iconst (pc := 119) dX12_oneHere_119 cc_iconst_1 ?_
    refine xx_icmp_neN (pc := 120) 130 dX12_oneHere_120 rfl (by omega) (by omega) (fun c601 => ?_) (fun c601 => ?_)
    · have hodd_ : ¬ q % 2 = 1 := by omega
      exact xx_vret (pc := 130) dX12_oneHere_130 rfl (Nat.le_refl _) (Nat.le_refl _) (ic_rv0 (by rw [hK, tk_bd_11]; exact ⟨u, rfl, x_u, o_u, z_u, p_u, fun y_ => absurd y_ Nat.one_ne_zero⟩))
    · have hodd_ : q % 2 = 1 := by omega
      refine xx_aload_nP (pc := 123) dX12_oneHere_123 1 rfl rfl ?_
      refine xx_iconst (pc := 124) dX12_oneHere_124 cc_iconst_3 ?_
      refine xx_iconst (pc := 125) dX12_oneHere_125 cc_iconst_0 ?_
      refine xx_iconst (pc := 126) dX12_oneHere_126 cc_iconst_0 ?_
      refine xx_callV0 (pc := 127) (st := []) sh_114 (cZ_stepsW (w := u) (x := 3) (y := 0) (z := 0) p_u) kX12_steps vX12_208_12 dX12_oneHere_127 rfl rfl (Nat.le_of_ble_eq_true rfl) (pl_hR (d := 8) (by omega) (Nat.le_of_ble_eq_true rfl)) ⟨Nat.zero_le _, Nat.zero_le _⟩ (ic_kv (fun h_ qw602 => ?_))
      obtain ⟨w602, rfl, e_w602⟩ := qw602
      have z_w602 := z_u
      have p_w602 := p_u
      have x_w602 := x_u
      have o_w602 := o_u
      rw [← e_w602] at z_w602 p_w602 x_w602 o_w602
      exact xx_vret (pc := 130) dX12_oneHere_130 rfl (Nat.le_refl _) (Nat.le_refl _) (ic_rv0 (by rw [hK, tk_bd_11]; exact ⟨w602, rfl, x_w602, o_w602, z_w602, p_w602, fun y_ => absurd y_ Nat.one_ne_zero⟩))
  have lp : ∀ (n_ : Nat) (k b q : Nat) (u : ic_w), Tz u f n b → u 114 10 = 0 → Hw w u → u 114 11 = w 114 11 → u 115 = tk_sts (w 115) [] → tk_nt f n 200 a = ((tk_nt f n k b).1, q + (tk_nt f n k b).2) → n ≤ b + k → q + k ≤ 200 → a ≤ b → k < n_ → xx l E (ic_fr E mX12_oneHere 8 0 0 False SHs (tk_Q w f n (tk_one f n 0 a))) (0, 0) 2 [(1, .int (nI q)), (0, ic_pt E 114)] [] SHs (hn u) := by
    intro n_
    induction n_ with
    | zero => intro k b q u z_u p_u x_u o_u s_u hN hk hq hab hm_; exact absurd hm_ (Nat.not_lt_zero _)
    | succ n_ ih_ =>
      intro k b q u z_u p_u x_u o_u s_u hN hk hq hab hm_
      refine xx_aload_nP (pc := 2) dX12_oneHere_2 1 rfl rfl ?_
      refine xx_getN (pc := 3) dX12_oneHere_3 sh_114 fX12_180_12 rfl ?_
      refine xx_eqI (y := nI (0)) (by rw [p_u]) ?_
      refine xx_if_neN (pc := 6) 35 dX12_oneHere_6 rfl (by omega) (fun c1 => by exfalso; omega) (fun c1 => ?_)
      refine xx_aload_nP (pc := 9) dX12_oneHere_9 1 rfl rfl ?_
      refine xx_iconst (pc := 10) dX12_oneHere_10 cc_iconst_3 ?_
      refine xx_bipush (pc := 11) dX12_oneHere_11 cc_bipush_110 ?_
      refine xx_bipush (pc := 13) dX12_oneHere_13 cc_bipush_111 ?_
      refine xx_bipush (pc := 15) dX12_oneHere_15 cc_bipush_116 ?_
      refine xx_bipush (pc := 17) dX12_oneHere_17 cc_bipush_116 ?_
      refine xx_callV0 (pc := 19) (st := []) sh_114 (cZ_not (w := u) z_u) kX12_isName vX12_187_12 dX12_oneHere_19 rfl rfl (Nat.le_of_ble_eq_true rfl) (pl_hR (d := 8) (by omega) (Nat.le_of_ble_eq_true rfl)) ⟨Nat.zero_le _, Nat.zero_le _⟩ (ic_ke ?_)
      refine xx_if_eqB (pc := 22) 35 dX12_oneHere_22 rfl (fun c2 => ?_) (fun c2 => ?_)
      · rw [tk_nt_f c2] at hN
        have hN2 : tk_nt f n 200 a = (b, q) := hN
        have hK : tk_one f n 0 a = tk_bd (if tk_k f n b = 3 ∧ tk_b f n b = 40 then (fun b => (1, b, [])) b else tk_cmp f n b) (fun c => (0, c, if q % 2 = 1 then [(3, 0, 0)] else [])) := tk_on_eq hN2
        have s7_ : u 115 7 = w 115 7 := by rw [s_u]; rfl
        refine xx_aload_nP (pc := 35) dX12_oneHere_35 1 rfl rfl ?_
        refine xx_getN (pc := 36) dX12_oneHere_36 sh_114 fX12_180_12 rfl ?_
        refine xx_eqI (y := nI (0)) (by rw [p_u]) ?_
        refine xx_if_neN (pc := 39) 105 dX12_oneHere_39 rfl (by omega) (fun c3 => by exfalso; omega) (fun c3 => ?_)
        refine xx_aload_nP (pc := 42) dX12_oneHere_42 1 rfl rfl ?_
        refine xx_bipush (pc := 43) dX12_oneHere_43 cc_bipush_40 ?_
        refine xx_callV0 (pc := 45) (st := []) sh_114 (cZ_byte (w := u) (c := 40) z_u (by decide)) kX12_isByte vX12_205_12 dX12_oneHere_45 rfl rfl (Nat.le_of_ble_eq_true rfl) (pl_hR (d := 8) (by omega) (Nat.le_of_ble_eq_true rfl)) ⟨Nat.zero_le _, Nat.zero_le _⟩ (ic_ke ?_)
        refine xx_if_eqB (pc := 48) 105 dX12_oneHere_48 rfl (fun c4 => ?_) (fun c4 => ?_)
        · have hc40_ : ¬ (tk_k f n b = 3 ∧ tk_b f n b = 40) := c4
          refine xx_aload_nP (pc := 105) dX12_oneHere_105 1 rfl rfl ?_
          refine xx_getN (pc := 106) dX12_oneHere_106 sh_114 fX12_180_12 rfl ?_
          refine xx_eqI (y := nI (0)) (by rw [p_u]) ?_
          refine xx_if_neN (pc := 109) 116 dX12_oneHere_109 rfl (by omega) (fun c5 => by exfalso; omega) (fun c5 => ?_)
          refine xx_aload_nP (pc := 112) dX12_oneHere_112 1 rfl rfl ?_
          refine xx_callV0 (pc := 113) (st := []) sh_114 (cZ_compares (w := u) z_u p_u (by have := z_u.2.1; omega)) kX12_comparesHere vX12_218_12 dX12_oneHere_113 rfl rfl (Nat.le_of_ble_eq_true rfl) (pl_hR (d := 8) (by omega) (Nat.le_of_ble_eq_true rfl)) ⟨Nat.zero_le _, Nat.zero_le _⟩ (ic_kv (fun h_ qw6 => ?_))
          obtain ⟨w6, rfl, y_w6, q11_w6, z_w6, q10_w6, q15_w6⟩ := qw6
          have R_w6 := tk_cmp_R (f := f) (z_u).2.1
          have x_w6 := x_u.tr y_w6
          have o_w6 : w6 114 11 = w 114 11 := q11_w6.trans o_u
          by_cases v_w6 : (tk_cmp f n b).1 = 0
          · have p_w6 : w6 114 10 = 0 := q10_w6.trans v_w6
            have s_w6 : w6 115 = tk_sts (w 115) ((tk_cmp f n b).2.2) := by rw [q15_w6 v_w6, s_u] <;> rfl
            exact xx_sub [0, 1] rfl (ct0 q ((tk_cmp f n b).2.1) ((tk_cmp f n b).2.2) w6 z_w6 p_w6 x_w6 o_w6 s_w6 (by have := (R_w6.2.2.2 v_w6).1; have := R_w6.2.2.1; omega) (by omega) (by rw [hK, if_neg hc40_, ← tk_P_0 v_w6] <;> rfl))
          · have v1_w6 : (tk_cmp f n b).1 = 1 := by have := R_w6.1; omega
            have p_w6 : w6 114 10 = 1 := q10_w6.trans v1_w6
            exact xx_sub [0, 1] rfl (ct1 q ((tk_cmp f n b).2.1) ((tk_cmp f n b).2.2) w6 z_w6 p_w6 x_w6 o_w6 (by omega) (by rw [hK, if_neg hc40_, ← tk_P_1 v1_w6] <;> rfl))
        · have hc40_ : tk_k f n b = 3 ∧ tk_b f n b = 40 := c4
          have hk3_ : tk_k f n b ≠ 0 := by omega
          have hz_ := tk_k_z (f := f) z_u.2.1 hk3_
          refine xx_aload_nP (pc := 51) dX12_oneHere_51 1 rfl rfl ?_
          refine xx_aload_nP (pc := 52) dX12_oneHere_52 1 rfl rfl ?_
          refine xx_getN (pc := 53) dX12_oneHere_53 sh_114 fX12_212_12 rfl ?_
          refine xx_eqI (y := nI (w 114 11)) (by rw [o_u]) ?_
          refine xx_iconst (pc := 56) dX12_oneHere_56 cc_iconst_3 ?_
          refine xx_icmp_geN (pc := 57) 64 dX12_oneHere_57 rfl (by omega) (by omega) (fun c8 => ?_) (fun c8 => by exfalso; omega)
          refine xx_iconst (pc := 64) dX12_oneHere_64 cc_iconst_0 ?_
          refine xx_callV0 (pc := 65) (st := []) sh_114 (cZ_needF (w := u) (b := 0) z_u (by decide) (by omega) rfl) kX12_needs vX12_198_12 dX12_oneHere_65 rfl rfl (Nat.le_of_ble_eq_true rfl) (pl_hR (d := 8) (by omega) (Nat.le_of_ble_eq_true rfl)) ⟨Nat.zero_le _, Nat.zero_le _⟩ (ic_kv (fun h_ qw9 => ?_))
          obtain ⟨w9, rfl, y_w9, z_w9, p_w9⟩ := qw9
          have x_w9 := x_u.tr y_w9.h
          have o_w9 : w9 114 11 = w 114 11 := (y_w9.2 11 (by omega)).trans o_u
          refine xx_aload_nP (pc := 68) dX12_oneHere_68 1 rfl rfl ?_
          refine xx_dup (pc := 69) dX12_oneHere_69 rfl ?_
          refine xx_getN (pc := 70) dX12_oneHere_70 sh_114 fX12_212_12 rfl ?_
          refine xx_eqI (y := nI (w 114 11)) (by rw [o_w9]) ?_
          refine xx_iconst (pc := 73) dX12_oneHere_73 cc_iconst_1 ?_
          refine xx_iaddN (pc := 74) dX12_oneHere_74 ?_
          refine xx_putN (pc := 75) dX12_oneHere_75 sh_114 fX12_212_12 rfl rfl ?_
          refine xx_nw (fun w11 ew11 => ?_)
          have y_w11 : Hw w9 w11 := ⟨fun a h1 h2 => by rw [ew11, wu_row _ _ _ h1], fun j hj => by rw [ew11, wu_k _ _ _ _ (by omega)], fun j _ => by rw [ew11, wu_row _ _ _ (by decide)]⟩
          have x_w11 := x_w9.tr y_w11
          have o_w11 : w11 114 11 = (w 114 11) + 1 := by rw [ew11, wu_s]
          have z_w11 : Tz w11 f n (b) := z_w9.of (fun j h1 h2 => by rw [ew11, wu_k _ _ _ _ (by omega)]) (by rw [ew11, wu_row _ _ _ (by decide)])
          have p_w11 : w11 114 10 = 1 := by rw [ew11, wu_k _ _ _ _ (by omega)]; exact p_w9
          refine xx_aload_nP (pc := 78) dX12_oneHere_78 1 rfl rfl ?_
          refine xx_callV0 (pc := 79) (st := []) sh_114 (cZ_condW (w := w11) p_w11) kX12_condHere vX12_215_12 dX12_oneHere_79 rfl rfl (Nat.le_of_ble_eq_true rfl) (pl_hR (d := 8) (by omega) (Nat.le_of_ble_eq_true rfl)) ⟨Nat.zero_le _, Nat.zero_le _⟩ (ic_kv (fun h_ qw12 => ?_))
          obtain ⟨w12, rfl, e_w12⟩ := qw12
          have p_w12 : w12 114 10 = 1 := by rw [e_w12]; exact p_w11
          have z_w12 := z_w11
          have x_w12 := x_w11
          have o_w12 := o_w11
          rw [← e_w12] at z_w12 x_w12 o_w12
          refine xx_aload_nP (pc := 82) dX12_oneHere_82 1 rfl rfl ?_
          refine xx_aload_nP (pc := 83) dX12_oneHere_83 1 rfl rfl ?_
          refine xx_bipush (pc := 84) dX12_oneHere_84 cc_bipush_41 ?_
          refine xx_callV0 (pc := 86) (st := [ic_pt E 114]) sh_114 (cZ_byte (w := w12) (c := 41) z_w12 (by decide)) kX12_isByte vX12_205_12 dX12_oneHere_86 rfl rfl (Nat.le_of_ble_eq_true rfl) (pl_hR (d := 8) (by omega) (Nat.le_of_ble_eq_true rfl)) ⟨Nat.zero_le _, Nat.zero_le _⟩ (ic_ke ?_)
          refine xx_callV0 (pc := 89) (st := []) sh_114 (cZ_needW (w := w12) (b := ic_bo (tk_k f n b = 3 ∧ tk_b f n b = 41)) z_w12 (ic_bo_le _) p_w12) kX12_needs vX12_198_12 dX12_oneHere_89 rfl rfl (Nat.le_of_ble_eq_true rfl) (pl_hR (d := 8) (by omega) (Nat.le_of_ble_eq_true rfl)) ⟨Nat.zero_le _, Nat.zero_le _⟩ (ic_kv (fun h_ qw14 => ?_))
          obtain ⟨w14, rfl, y_w14, z_w14, p_w14⟩ := qw14
          have x_w14 := x_w12.tr y_w14.h
          have o_w14 : w14 114 11 = (w 114 11) + 1 := (y_w14.2 11 (by omega)).trans o_w12
          refine xx_aload_nP (pc := 92) dX12_oneHere_92 1 rfl rfl ?_
          refine xx_dup (pc := 93) dX12_oneHere_93 rfl ?_
          refine xx_getN (pc := 94) dX12_oneHere_94 sh_114 fX12_212_12 rfl ?_
          refine xx_eqI (y := nI ((w 114 11) + 1)) (by rw [o_w14]) ?_
          refine xx_iconst (pc := 97) dX12_oneHere_97 cc_iconst_1 ?_
          refine xx_isubN (pc := 98) dX12_oneHere_98 (by omega) ?_
          refine xx_putN (pc := 99) dX12_oneHere_99 sh_114 fX12_212_12 rfl rfl ?_
          refine xx_nw (fun w16 ew16 => ?_)
          have y_w16 : Hw w14 w16 := ⟨fun a h1 h2 => by rw [ew16, wu_row _ _ _ h1], fun j hj => by rw [ew16, wu_k _ _ _ _ (by omega)], fun j _ => by rw [ew16, wu_row _ _ _ (by decide)]⟩
          have x_w16 := x_w14.tr y_w16
          have o_w16 : w16 114 11 = ((w 114 11) + 1) - 1 := by rw [ew16, wu_s]
          have z_w16 : Tz w16 f n (b) := z_w14.of (fun j h1 h2 => by rw [ew16, wu_k _ _ _ _ (by omega)]) (by rw [ew16, wu_row _ _ _ (by decide)])
          have p_w16 : w16 114 10 = 1 := by rw [ew16, wu_k _ _ _ _ (by omega)]; exact p_w14
          refine xx_goto (pc := 102) 116 dX12_oneHere_102 rfl ?_
          exact xx_sub [0, 1] rfl (ct1 q (b) [] w16 z_w16 p_w16 x_w16 (by omega) (by omega) (by rw [hK, if_pos hc40_] <;> rfl))
      · have hi_ := c2
        have hlt_ := tk_i_lt hi_
        have hz_ := tk_i_z z_u.2.1 hi_
        have hz2_ : b + 3 ≤ tk_z f n b := hz_.1
        obtain ⟨k, rfl⟩ : ∃ q, k = q + 1 := ⟨k - 1, by omega⟩
        refine xx_iincN (L' := [(1, .int (nI (q + 1))), (0, ic_pt E 114)]) (pc := 25) dX12_oneHere_25 0 rfl cc_iconst_1 (Nat.le_of_ble_eq_true rfl) rfl ?_
        refine xx_aload_nP (pc := 28) dX12_oneHere_28 1 rfl rfl ?_
        refine xx_callV0 (pc := 29) (st := []) sh_114 (cZ_next (w := u) z_u) kX12_nextToken vX12_184_12 dX12_oneHere_29 rfl rfl (Nat.le_of_ble_eq_true rfl) (pl_hR (d := 8) (by omega) (Nat.le_of_ble_eq_true rfl)) ⟨Nat.zero_le _, Nat.zero_le _⟩ (ic_kv (fun h_ qw17 => ?_))
        obtain ⟨w17, rfl, y_w17, z_w17, p0_⟩ := qw17
        have p_w17 : w17 114 10 = 0 := p0_.trans p_u
        have x_w17 := x_u.tr y_w17.h
        have o_w17 : w17 114 11 = w 114 11 := (y_w17.2 11 (by omega)).trans o_u
        have s_w17 : w17 115 = tk_sts (w 115) [] := (y_w17.1 115 (by decide)).trans s_u
        refine xx_goto (pc := 32) 2 dX12_oneHere_32 rfl ?_
        exact xx_sub [0, 1] rfl (ih_ k (tk_z f n b) (q + 1) w17 z_w17 p_w17 x_w17 o_w17 s_w17 (by rw [hN, tk_nt_t hi_]; simp only [Prod.mk.injEq, true_and]; omega) (by omega) (by omega) (by omega) (Nat.lt_of_succ_lt_succ hm_))
  refine xx_iconst (pc := 0) dX12_oneHere_0 cc_iconst_0 ?_
  refine xx_istore_n (L' := [(1, .int (nI 0)), (0, ic_pt E 114)]) (pc := 1) dX12_oneHere_1 rfl (Nat.le_of_ble_eq_true rfl) rfl ?_
  exact xx_sub [0, 1] rfl (lp 201 200 a 0 w z_w p_w x_w o_w s_w (by rw [Nat.zero_add]) (by omega) (by omega) (Nat.le_refl _) (by omega))

set_option maxHeartbeats 4000000 in
set_option maxRecDepth 100000 in
theorem cZ_oneS {l : Launch} {E : ic_E} {w : ic_w} {d : Nat} (hC : tk_PC l E d) {f : Nat → Nat} {n a : Nat} (z_w : Tz w f n a) (p_w : w 114 10 = 0) (ho : w 114 11 + (d + 1) = 3) (hb : 2 * w 115 7 ≤ a) : ic_C l E mX12_oneHere (3 * d + 11) 0 0 False [ic_pt E 114] SHs (hn w) SHs (tk_Q w f n (tk_one f n (d + 1) a)) := by
  refine ic_intro (by decide +kernel) (Nat.le_of_ble_eq_true rfl) ?_
  show xx l E _ _ 0 [(0, ic_pt E 114)] _ _ _
  have hn2 := z_w.b
  have x_w := Hw.rf w
  have o_w : w 114 11 = w 114 11 := rfl
  have s_w : w 115 = tk_sts (w 115) [] := rfl
  have ct0 : ∀ (q e : Nat) (K : tk_L) (u : ic_w), Tz u f n e → u 114 10 = 0 → Hw w u → u 114 11 = w 114 11 → u 115 = tk_sts (w 115) K → w 115 7 + K.length ≤ 140 → q ≤ 200 → tk_one f n (d + 1) a = tk_bd (0, e, K) (fun c => (0, c, if q % 2 = 1 then [(3, 0, 0)] else [])) → xx l E (ic_fr E mX12_oneHere (3 * d + 11) 0 0 False SHs (tk_Q w f n (tk_one f n (d + 1) a))) (0, 0) 116 [(1, .int (nI q)), (0, ic_pt E 114)] [] SHs (hn u) := by
    intro q e K u z_u p_u x_u o_u s_u h7 hq hK
    refine xx_iload_n (pc := 116) dX12_oneHere_116 0 rfl rfl ?_
    refine xx_iconst (pc := 117) dX12_oneHere_117 cc_iconst_2 ?_
    refine xx_iremN (pc := 118) dX12_oneHere_118 (by omega) (by omega) (by omega) ?_
    refine xx_iconst (pc := 119) dX12_oneHere_119 cc_iconst_1 ?_
    refine xx_icmp_neN (pc := 120) 130 dX12_oneHere_120 rfl (by omega) (by omega) (fun c501 => ?_) (fun c501 => ?_)
    · have hodd_ : ¬ q % 2 = 1 := by omega
      exact xx_vret (pc := 130) dX12_oneHere_130 rfl (Nat.le_refl _) (Nat.le_refl _) (ic_rv0 (by rw [hK, tk_bd_00, if_neg hodd_, List.append_nil]; exact ⟨u, rfl, x_u, o_u, z_u, p_u, fun _ => s_u⟩))
    · have hodd_ : q % 2 = 1 := by omega
      refine xx_aload_nP (pc := 123) dX12_oneHere_123 1 rfl rfl ?_
      refine xx_iconst (pc := 124) dX12_oneHere_124 cc_iconst_3 ?_
      refine xx_iconst (pc := 125) dX12_oneHere_125 cc_iconst_0 ?_
      refine xx_iconst (pc := 126) dX12_oneHere_126 cc_iconst_0 ?_
      refine xx_callV0 (pc := 127) (st := []) sh_114 (cZ_steps (w := u) (x := 3) (y := 0) (z := 0) z_u (by decide) (by decide) (by decide) p_u (by rw [s_u, tk_sts_7]; omega)) kX12_steps vX12_208_12 dX12_oneHere_127 rfl rfl (Nat.le_of_ble_eq_true rfl) (pl_hR (d := (3 * d + 11)) (by omega) (Nat.le_of_ble_eq_true rfl)) ⟨Nat.zero_le _, Nat.zero_le _⟩ (ic_kv (fun h_ qw502 => ?_))
      obtain ⟨w502, rfl, y_w502, q11_, z_w502, p_w502, q15_⟩ := qw502
      have x_w502 := x_u.tr y_w502
      have o_w502 : w502 114 11 = w 114 11 := q11_.trans o_u
      have s_w502 : w502 115 = tk_sts (w 115) (K ++ [(3, 0, 0)]) := by rw [q15_, s_u]; exact (tk_sts_a _ K [(3, 0, 0)]).symm
      exact xx_vret (pc := 130) dX12_oneHere_130 rfl (Nat.le_refl _) (Nat.le_refl _) (ic_rv0 (by rw [hK, tk_bd_00, if_pos hodd_]; exact ⟨w502, rfl, x_w502, o_w502, z_w502, p_w502, fun _ => s_w502⟩))
  have ct1 : ∀ (q e : Nat) (K : tk_L) (u : ic_w), Tz u f n e → u 114 10 = 1 → Hw w u → u 114 11 = w 114 11 → q ≤ 200 → tk_one f n (d + 1) a = tk_bd (1, e, K) (fun c => (0, c, if q % 2 = 1 then [(3, 0, 0)] else [])) → xx l E (ic_fr E mX12_oneHere (3 * d + 11) 0 0 False SHs (tk_Q w f n (tk_one f n (d + 1) a))) (0, 0) 116 [(1, .int (nI q)), (0, ic_pt E 114)] [] SHs (hn u) := by
    intro q e K u z_u p_u x_u o_u hq hK
    refine xx_iload_n (pc := 116) dX12_oneHere_116 0 rfl rfl ?_
    refine xx_iconst (pc := 117) dX12_oneHere_117 cc_iconst_2 ?_
    refine xx_iremN (pc := 118) dX12_oneHere_118 (by omega) (by omega) (by omega) ?_
    refine xx_iconst (pc := 119) dX12_oneHere_119 cc_iconst_1 ?_
    refine xx_icmp_neN (pc := 120) 130 dX12_oneHere_120 rfl (by omega) (by omega) (fun c601 => ?_) (fun c601 => ?_)
    · have hodd_ : ¬ q % 2 = 1 := by omega
      exact xx_vret (pc := 130) dX12_oneHere_130 rfl (Nat.le_refl _) (Nat.le_refl _) (ic_rv0 (by rw [hK, tk_bd_11]; exact ⟨u, rfl, x_u, o_u, z_u, p_u, fun y_ => absurd y_ Nat.one_ne_zero⟩))
    · have hodd_ : q % 2 = 1 := by omega
      refine xx_aload_nP (pc := 123) dX12_oneHere_123 1 rfl rfl ?_
      refine xx_iconst (pc := 124) dX12_oneHere_124 cc_iconst_3 ?_
      refine xx_iconst (pc := 125) dX12_oneHere_125 cc_iconst_0 ?_
      refine xx_iconst (pc := 126) dX12_oneHere_126 cc_iconst_0 ?_
      refine xx_callV0 (pc := 127) (st := []) sh_114 (cZ_stepsW (w := u) (x := 3) (y := 0) (z := 0) p_u) kX12_steps vX12_208_12 dX12_oneHere_127 rfl rfl (Nat.le_of_ble_eq_true rfl) (pl_hR (d := (3 * d + 11)) (by omega) (Nat.le_of_ble_eq_true rfl)) ⟨Nat.zero_le _, Nat.zero_le _⟩ (ic_kv (fun h_ qw602 => ?_))
      obtain ⟨w602, rfl, e_w602⟩ := qw602
      have z_w602 := z_u
      have p_w602 := p_u
      have x_w602 := x_u
      have o_w602 := o_u
      rw [← e_w602] at z_w602 p_w602 x_w602 o_w602
      exact xx_vret (pc := 130) dX12_oneHere_130 rfl (Nat.le_refl _) (Nat.le_refl _) (ic_rv0 (by rw [hK, tk_bd_11]; exact ⟨w602, rfl, x_w602, o_w602, z_w602, p_w602, fun y_ => absurd y_ Nat.one_ne_zero⟩))
  have lp : ∀ (n_ : Nat) (k b q : Nat) (u : ic_w), Tz u f n b → u 114 10 = 0 → Hw w u → u 114 11 = w 114 11 → u 115 = tk_sts (w 115) [] → tk_nt f n 200 a = ((tk_nt f n k b).1, q + (tk_nt f n k b).2) → n ≤ b + k → q + k ≤ 200 → a ≤ b → k < n_ → xx l E (ic_fr E mX12_oneHere (3 * d + 11) 0 0 False SHs (tk_Q w f n (tk_one f n (d + 1) a))) (0, 0) 2 [(1, .int (nI q)), (0, ic_pt E 114)] [] SHs (hn u) := by
    intro n_
    induction n_ with
    | zero => intro k b q u z_u p_u x_u o_u s_u hN hk hq hab hm_; exact absurd hm_ (Nat.not_lt_zero _)
    | succ n_ ih_ =>
      intro k b q u z_u p_u x_u o_u s_u hN hk hq hab hm_
      refine xx_aload_nP (pc := 2) dX12_oneHere_2 1 rfl rfl ?_
      refine xx_getN (pc := 3) dX12_oneHere_3 sh_114 fX12_180_12 rfl ?_
      refine xx_eqI (y := nI (0)) (by rw [p_u]) ?_
      refine xx_if_neN (pc := 6) 35 dX12_oneHere_6 rfl (by omega) (fun c1 => by exfalso; omega) (fun c1 => ?_)
      refine xx_aload_nP (pc := 9) dX12_oneHere_9 1 rfl rfl ?_
      refine xx_iconst (pc := 10) dX12_oneHere_10 cc_iconst_3 ?_
      refine xx_bipush (pc := 11) dX12_oneHere_11 cc_bipush_110 ?_
      refine xx_bipush (pc := 13) dX12_oneHere_13 cc_bipush_111 ?_
      refine xx_bipush (pc := 15) dX12_oneHere_15 cc_bipush_116 ?_
      refine xx_bipush (pc := 17) dX12_oneHere_17 cc_bipush_116 ?_
      refine xx_callV0 (pc := 19) (st := []) sh_114 (cZ_not (w := u) z_u) kX12_isName vX12_187_12 dX12_oneHere_19 rfl rfl (Nat.le_of_ble_eq_true rfl) (pl_hR (d := (3 * d + 11)) (by omega) (Nat.le_of_ble_eq_true rfl)) ⟨Nat.zero_le _, Nat.zero_le _⟩ (ic_ke ?_)
      refine xx_if_eqB (pc := 22) 35 dX12_oneHere_22 rfl (fun c2 => ?_) (fun c2 => ?_)
      · rw [tk_nt_f c2] at hN
        have hN2 : tk_nt f n 200 a = (b, q) := hN
        have hK : tk_one f n (d + 1) a = tk_bd (if tk_k f n b = 3 ∧ tk_b f n b = 40 then tk_op f n (tk_one f n d) b else tk_cmp f n b) (fun c => (0, c, if q % 2 = 1 then [(3, 0, 0)] else [])) := tk_on_eq hN2
        have s7_ : u 115 7 = w 115 7 := by rw [s_u]; rfl
        refine xx_aload_nP (pc := 35) dX12_oneHere_35 1 rfl rfl ?_
        refine xx_getN (pc := 36) dX12_oneHere_36 sh_114 fX12_180_12 rfl ?_
        refine xx_eqI (y := nI (0)) (by rw [p_u]) ?_
        refine xx_if_neN (pc := 39) 105 dX12_oneHere_39 rfl (by omega) (fun c3 => by exfalso; omega) (fun c3 => ?_)
        refine xx_aload_nP (pc := 42) dX12_oneHere_42 1 rfl rfl ?_
        refine xx_bipush (pc := 43) dX12_oneHere_43 cc_bipush_40 ?_
        refine xx_callV0 (pc := 45) (st := []) sh_114 (cZ_byte (w := u) (c := 40) z_u (by decide)) kX12_isByte vX12_205_12 dX12_oneHere_45 rfl rfl (Nat.le_of_ble_eq_true rfl) (pl_hR (d := (3 * d + 11)) (by omega) (Nat.le_of_ble_eq_true rfl)) ⟨Nat.zero_le _, Nat.zero_le _⟩ (ic_ke ?_)
        refine xx_if_eqB (pc := 48) 105 dX12_oneHere_48 rfl (fun c4 => ?_) (fun c4 => ?_)
        · have hc40_ : ¬ (tk_k f n b = 3 ∧ tk_b f n b = 40) := c4
          refine xx_aload_nP (pc := 105) dX12_oneHere_105 1 rfl rfl ?_
          refine xx_getN (pc := 106) dX12_oneHere_106 sh_114 fX12_180_12 rfl ?_
          refine xx_eqI (y := nI (0)) (by rw [p_u]) ?_
          refine xx_if_neN (pc := 109) 116 dX12_oneHere_109 rfl (by omega) (fun c5 => by exfalso; omega) (fun c5 => ?_)
          refine xx_aload_nP (pc := 112) dX12_oneHere_112 1 rfl rfl ?_
          refine xx_callV0 (pc := 113) (st := []) sh_114 (cZ_compares (w := u) z_u p_u (by have := z_u.2.1; omega)) kX12_comparesHere vX12_218_12 dX12_oneHere_113 rfl rfl (Nat.le_of_ble_eq_true rfl) (pl_hR (d := (3 * d + 11)) (by omega) (Nat.le_of_ble_eq_true rfl)) ⟨Nat.zero_le _, Nat.zero_le _⟩ (ic_kv (fun h_ qw6 => ?_))
          obtain ⟨w6, rfl, y_w6, q11_w6, z_w6, q10_w6, q15_w6⟩ := qw6
          have R_w6 := tk_cmp_R (f := f) (z_u).2.1
          have x_w6 := x_u.tr y_w6
          have o_w6 : w6 114 11 = w 114 11 := q11_w6.trans o_u
          by_cases v_w6 : (tk_cmp f n b).1 = 0
          · have p_w6 : w6 114 10 = 0 := q10_w6.trans v_w6
            have s_w6 : w6 115 = tk_sts (w 115) ((tk_cmp f n b).2.2) := by rw [q15_w6 v_w6, s_u] <;> rfl
            exact xx_sub [0, 1] rfl (ct0 q ((tk_cmp f n b).2.1) ((tk_cmp f n b).2.2) w6 z_w6 p_w6 x_w6 o_w6 s_w6 (by have := (R_w6.2.2.2 v_w6).1; have := R_w6.2.2.1; omega) (by omega) (by rw [hK, if_neg hc40_, ← tk_P_0 v_w6] <;> rfl))
          · have v1_w6 : (tk_cmp f n b).1 = 1 := by have := R_w6.1; omega
            have p_w6 : w6 114 10 = 1 := q10_w6.trans v1_w6
            exact xx_sub [0, 1] rfl (ct1 q ((tk_cmp f n b).2.1) ((tk_cmp f n b).2.2) w6 z_w6 p_w6 x_w6 o_w6 (by omega) (by rw [hK, if_neg hc40_, ← tk_P_1 v1_w6] <;> rfl))
        · have hc40_ : tk_k f n b = 3 ∧ tk_b f n b = 40 := c4
          have hk3_ : tk_k f n b ≠ 0 := by omega
          have hz_ := tk_k_z (f := f) z_u.2.1 hk3_
          refine xx_aload_nP (pc := 51) dX12_oneHere_51 1 rfl rfl ?_
          refine xx_aload_nP (pc := 52) dX12_oneHere_52 1 rfl rfl ?_
          refine xx_getN (pc := 53) dX12_oneHere_53 sh_114 fX12_212_12 rfl ?_
          refine xx_eqI (y := nI (w 114 11)) (by rw [o_u]) ?_
          refine xx_iconst (pc := 56) dX12_oneHere_56 cc_iconst_3 ?_
          refine xx_icmp_geN (pc := 57) 64 dX12_oneHere_57 rfl (by omega) (by omega) (fun c8 => by exfalso; omega) (fun c8 => ?_)
          refine xx_iconst (pc := 60) dX12_oneHere_60 cc_iconst_1 ?_
          refine xx_goto (pc := 61) 65 dX12_oneHere_61 rfl ?_
          refine xx_callV0 (pc := 65) (st := []) sh_114 (cZ_needT (w := u) (b := 1) z_u (by decide) p_u (by decide)) kX12_needs vX12_198_12 dX12_oneHere_65 rfl rfl (Nat.le_of_ble_eq_true rfl) (pl_hR (d := (3 * d + 11)) (by omega) (Nat.le_of_ble_eq_true rfl)) ⟨Nat.zero_le _, Nat.zero_le _⟩ (ic_kv (fun h_ qw9 => ?_))
          obtain ⟨w9, rfl, y_w9, z_w9, p_w9⟩ := qw9
          have x_w9 := x_u.tr y_w9.h
          have o_w9 : w9 114 11 = w 114 11 := (y_w9.2 11 (by omega)).trans o_u
          have s_w9 : w9 115 = tk_sts (w 115) [] := (y_w9.1 115 (by decide)).trans s_u
          refine xx_aload_nP (pc := 68) dX12_oneHere_68 1 rfl rfl ?_
          refine xx_dup (pc := 69) dX12_oneHere_69 rfl ?_
          refine xx_getN (pc := 70) dX12_oneHere_70 sh_114 fX12_212_12 rfl ?_
          refine xx_eqI (y := nI (w 114 11)) (by rw [o_w9]) ?_
          refine xx_iconst (pc := 73) dX12_oneHere_73 cc_iconst_1 ?_
          refine xx_iaddN (pc := 74) dX12_oneHere_74 ?_
          refine xx_putN (pc := 75) dX12_oneHere_75 sh_114 fX12_212_12 rfl rfl ?_
          refine xx_nw (fun w11 ew11 => ?_)
          have y_w11 : Hw w9 w11 := ⟨fun a h1 h2 => by rw [ew11, wu_row _ _ _ h1], fun j hj => by rw [ew11, wu_k _ _ _ _ (by omega)], fun j _ => by rw [ew11, wu_row _ _ _ (by decide)]⟩
          have x_w11 := x_w9.tr y_w11
          have o_w11 : w11 114 11 = (w 114 11) + 1 := by rw [ew11, wu_s]
          have z_w11 : Tz w11 f n (tk_z f n b) := z_w9.of (fun j h1 h2 => by rw [ew11, wu_k _ _ _ _ (by omega)]) (by rw [ew11, wu_row _ _ _ (by decide)])
          have p_w11 : w11 114 10 = 0 := by rw [ew11, wu_k _ _ _ _ (by omega)]; exact p_w9
          have s_w11 : w11 115 = tk_sts (w 115) [] := by rw [ew11, wu_row _ _ _ (by decide)]; exact s_w9
          refine xx_aload_nP (pc := 78) dX12_oneHere_78 1 rfl rfl ?_
          refine xx_callV0 (pc := 79) (st := []) sh_114 (hC z_w11 p_w11 (by omega) (by rw [s_w11]; show 2 * w 115 7 ≤ _; omega)) kX12_condHere vX12_215_12 dX12_oneHere_79 rfl rfl (Nat.le_of_ble_eq_true rfl) (pl_hR (d := (3 * d + 11)) (by omega) (Nat.le_of_ble_eq_true rfl)) ⟨Nat.zero_le _, Nat.zero_le _⟩ (ic_kv (fun h_ qw12 => ?_))
          obtain ⟨w12, rfl, y_w12, q11_w12, z_w12, q10_w12, q15_w12⟩ := qw12
          have R_w12 := tk_cnd_1R (f := f) d (tk_z f n b) (z_w11).2.1
          have x_w12 := x_w11.tr y_w12
          have o_w12 : w12 114 11 = (w 114 11) + 1 := q11_w12.trans o_w11
          by_cases v_w12 : (tk_cnd f n (tk_one f n d) (tk_z f n b)).1 = 0
          · have p_w12 : w12 114 10 = 0 := q10_w12.trans v_w12
            have s_w12 : w12 115 = tk_sts (w 115) ((tk_cnd f n (tk_one f n d) (tk_z f n b)).2.2) := by rw [q15_w12 v_w12, s_w11] <;> rfl
            refine xx_aload_nP (pc := 82) dX12_oneHere_82 1 rfl rfl ?_
            refine xx_aload_nP (pc := 83) dX12_oneHere_83 1 rfl rfl ?_
            refine xx_bipush (pc := 84) dX12_oneHere_84 cc_bipush_41 ?_
            refine xx_callV0 (pc := 86) (st := [ic_pt E 114]) sh_114 (cZ_byte (w := w12) (c := 41) z_w12 (by decide)) kX12_isByte vX12_205_12 dX12_oneHere_86 rfl rfl (Nat.le_of_ble_eq_true rfl) (pl_hR (d := (3 * d + 11)) (by omega) (Nat.le_of_ble_eq_true rfl)) ⟨Nat.zero_le _, Nat.zero_le _⟩ (ic_ke ?_)
            by_cases c41_ : tk_k f n ((tk_cnd f n (tk_one f n d) (tk_z f n b)).2.1) = 3 ∧ tk_b f n ((tk_cnd f n (tk_one f n d) (tk_z f n b)).2.1) = 41
            · refine xx_callV0 (pc := 89) (st := []) sh_114 (cZ_needT (w := w12) (b := ic_bo (tk_k f n ((tk_cnd f n (tk_one f n d) (tk_z f n b)).2.1) = 3 ∧ tk_b f n ((tk_cnd f n (tk_one f n d) (tk_z f n b)).2.1) = 41)) z_w12 (ic_bo_le _) p_w12 (by rw [ic_bo_t c41_]; decide)) kX12_needs vX12_198_12 dX12_oneHere_89 rfl rfl (Nat.le_of_ble_eq_true rfl) (pl_hR (d := (3 * d + 11)) (by omega) (Nat.le_of_ble_eq_true rfl)) ⟨Nat.zero_le _, Nat.zero_le _⟩ (ic_kv (fun h_ qw14 => ?_))
              obtain ⟨w14, rfl, y_w14, z_w14, p_w14⟩ := qw14
              have x_w14 := x_w12.tr y_w14.h
              have o_w14 : w14 114 11 = (w 114 11) + 1 := (y_w14.2 11 (by omega)).trans o_w12
              have s_w14 : w14 115 = tk_sts (w 115) ((tk_cnd f n (tk_one f n d) (tk_z f n b)).2.2) := (y_w14.1 115 (by decide)).trans s_w12
              refine xx_aload_nP (pc := 92) dX12_oneHere_92 1 rfl rfl ?_
              refine xx_dup (pc := 93) dX12_oneHere_93 rfl ?_
              refine xx_getN (pc := 94) dX12_oneHere_94 sh_114 fX12_212_12 rfl ?_
              refine xx_eqI (y := nI ((w 114 11) + 1)) (by rw [o_w14]) ?_
              refine xx_iconst (pc := 97) dX12_oneHere_97 cc_iconst_1 ?_
              refine xx_isubN (pc := 98) dX12_oneHere_98 (by omega) ?_
              refine xx_putN (pc := 99) dX12_oneHere_99 sh_114 fX12_212_12 rfl rfl ?_
              refine xx_nw (fun w16 ew16 => ?_)
              have y_w16 : Hw w14 w16 := ⟨fun a h1 h2 => by rw [ew16, wu_row _ _ _ h1], fun j hj => by rw [ew16, wu_k _ _ _ _ (by omega)], fun j _ => by rw [ew16, wu_row _ _ _ (by decide)]⟩
              have x_w16 := x_w14.tr y_w16
              have o_w16 : w16 114 11 = ((w 114 11) + 1) - 1 := by rw [ew16, wu_s]
              have z_w16 : Tz w16 f n (tk_z f n ((tk_cnd f n (tk_one f n d) (tk_z f n b)).2.1)) := z_w14.of (fun j h1 h2 => by rw [ew16, wu_k _ _ _ _ (by omega)]) (by rw [ew16, wu_row _ _ _ (by decide)])
              have p_w16 : w16 114 10 = 0 := by rw [ew16, wu_k _ _ _ _ (by omega)]; exact p_w14
              have s_w16 : w16 115 = tk_sts (w 115) ((tk_cnd f n (tk_one f n d) (tk_z f n b)).2.2) := by rw [ew16, wu_row _ _ _ (by decide)]; exact s_w14
              refine xx_goto (pc := 102) 116 dX12_oneHere_102 rfl ?_
              have hz3_ := tk_k_z (f := f) (a := (tk_cnd f n (tk_one f n d) (tk_z f n b)).2.1) R_w12.2.2.1 (by omega)
              have hH_ : tk_op f n (tk_one f n d) b = (0, tk_z f n ((tk_cnd f n (tk_one f n d) (tk_z f n b)).2.1), ((tk_cnd f n (tk_one f n d) (tk_z f n b)).2.2)) := by unfold tk_op; rw [tk_bd_0 v_w12]; simp only [ic_bo_t c41_]; rw [tk_nd_0 (by decide)]; simp
              exact xx_sub [0, 1] rfl (ct0 q (tk_z f n ((tk_cnd f n (tk_one f n d) (tk_z f n b)).2.1)) ((tk_cnd f n (tk_one f n d) (tk_z f n b)).2.2) w16 z_w16 p_w16 x_w16 (by omega) s_w16 (by have := (R_w12.2.2.2 v_w12).1; have := R_w12.2.2.1; omega) (by omega) (by rw [hK, if_pos hc40_, hH_] <;> rfl))
            · refine xx_callV0 (pc := 89) (st := []) sh_114 (cZ_needF (w := w12) (b := ic_bo (tk_k f n ((tk_cnd f n (tk_one f n d) (tk_z f n b)).2.1) = 3 ∧ tk_b f n ((tk_cnd f n (tk_one f n d) (tk_z f n b)).2.1) = 41)) z_w12 (ic_bo_le _) (by omega) (ic_bo_f c41_)) kX12_needs vX12_198_12 dX12_oneHere_89 rfl rfl (Nat.le_of_ble_eq_true rfl) (pl_hR (d := (3 * d + 11)) (by omega) (Nat.le_of_ble_eq_true rfl)) ⟨Nat.zero_le _, Nat.zero_le _⟩ (ic_kv (fun h_ qw17 => ?_))
              obtain ⟨w17, rfl, y_w17, z_w17, p_w17⟩ := qw17
              have x_w17 := x_w12.tr y_w17.h
              have o_w17 : w17 114 11 = (w 114 11) + 1 := (y_w17.2 11 (by omega)).trans o_w12
              refine xx_aload_nP (pc := 92) dX12_oneHere_92 1 rfl rfl ?_
              refine xx_dup (pc := 93) dX12_oneHere_93 rfl ?_
              refine xx_getN (pc := 94) dX12_oneHere_94 sh_114 fX12_212_12 rfl ?_
              refine xx_eqI (y := nI ((w 114 11) + 1)) (by rw [o_w17]) ?_
              refine xx_iconst (pc := 97) dX12_oneHere_97 cc_iconst_1 ?_
              refine xx_isubN (pc := 98) dX12_oneHere_98 (by omega) ?_
              refine xx_putN (pc := 99) dX12_oneHere_99 sh_114 fX12_212_12 rfl rfl ?_
              refine xx_nw (fun w19 ew19 => ?_)
              have y_w19 : Hw w17 w19 := ⟨fun a h1 h2 => by rw [ew19, wu_row _ _ _ h1], fun j hj => by rw [ew19, wu_k _ _ _ _ (by omega)], fun j _ => by rw [ew19, wu_row _ _ _ (by decide)]⟩
              have x_w19 := x_w17.tr y_w19
              have o_w19 : w19 114 11 = ((w 114 11) + 1) - 1 := by rw [ew19, wu_s]
              have z_w19 : Tz w19 f n ((tk_cnd f n (tk_one f n d) (tk_z f n b)).2.1) := z_w17.of (fun j h1 h2 => by rw [ew19, wu_k _ _ _ _ (by omega)]) (by rw [ew19, wu_row _ _ _ (by decide)])
              have p_w19 : w19 114 10 = 1 := by rw [ew19, wu_k _ _ _ _ (by omega)]; exact p_w17
              refine xx_goto (pc := 102) 116 dX12_oneHere_102 rfl ?_
              have hH_ : tk_op f n (tk_one f n d) b = (1, (tk_cnd f n (tk_one f n d) (tk_z f n b)).2.1, ((tk_cnd f n (tk_one f n d) (tk_z f n b)).2.2) ++ []) := by unfold tk_op; rw [tk_bd_0 v_w12]; simp only [ic_bo_f c41_]; rw [tk_nd_1 rfl]
              exact xx_sub [0, 1] rfl (ct1 q ((tk_cnd f n (tk_one f n d) (tk_z f n b)).2.1) (((tk_cnd f n (tk_one f n d) (tk_z f n b)).2.2) ++ []) w19 z_w19 p_w19 x_w19 (by omega) (by omega) (by rw [hK, if_pos hc40_, hH_] <;> rfl))
          · have v1_w12 : (tk_cnd f n (tk_one f n d) (tk_z f n b)).1 = 1 := by have := R_w12.1; omega
            have p_w12 : w12 114 10 = 1 := q10_w12.trans v1_w12
            refine xx_aload_nP (pc := 82) dX12_oneHere_82 1 rfl rfl ?_
            refine xx_aload_nP (pc := 83) dX12_oneHere_83 1 rfl rfl ?_
            refine xx_bipush (pc := 84) dX12_oneHere_84 cc_bipush_41 ?_
            refine xx_callV0 (pc := 86) (st := [ic_pt E 114]) sh_114 (cZ_byte (w := w12) (c := 41) z_w12 (by decide)) kX12_isByte vX12_205_12 dX12_oneHere_86 rfl rfl (Nat.le_of_ble_eq_true rfl) (pl_hR (d := (3 * d + 11)) (by omega) (Nat.le_of_ble_eq_true rfl)) ⟨Nat.zero_le _, Nat.zero_le _⟩ (ic_ke ?_)
            refine xx_callV0 (pc := 89) (st := []) sh_114 (cZ_needW (w := w12) (b := ic_bo (tk_k f n ((tk_cnd f n (tk_one f n d) (tk_z f n b)).2.1) = 3 ∧ tk_b f n ((tk_cnd f n (tk_one f n d) (tk_z f n b)).2.1) = 41)) z_w12 (ic_bo_le _) p_w12) kX12_needs vX12_198_12 dX12_oneHere_89 rfl rfl (Nat.le_of_ble_eq_true rfl) (pl_hR (d := (3 * d + 11)) (by omega) (Nat.le_of_ble_eq_true rfl)) ⟨Nat.zero_le _, Nat.zero_le _⟩ (ic_kv (fun h_ qw20 => ?_))
            obtain ⟨w20, rfl, y_w20, z_w20, p_w20⟩ := qw20
            have x_w20 := x_w12.tr y_w20.h
            have o_w20 : w20 114 11 = (w 114 11) + 1 := (y_w20.2 11 (by omega)).trans o_w12
            refine xx_aload_nP (pc := 92) dX12_oneHere_92 1 rfl rfl ?_
            refine xx_dup (pc := 93) dX12_oneHere_93 rfl ?_
            refine xx_getN (pc := 94) dX12_oneHere_94 sh_114 fX12_212_12 rfl ?_
            refine xx_eqI (y := nI ((w 114 11) + 1)) (by rw [o_w20]) ?_
            refine xx_iconst (pc := 97) dX12_oneHere_97 cc_iconst_1 ?_
            refine xx_isubN (pc := 98) dX12_oneHere_98 (by omega) ?_
            refine xx_putN (pc := 99) dX12_oneHere_99 sh_114 fX12_212_12 rfl rfl ?_
            refine xx_nw (fun w22 ew22 => ?_)
            have y_w22 : Hw w20 w22 := ⟨fun a h1 h2 => by rw [ew22, wu_row _ _ _ h1], fun j hj => by rw [ew22, wu_k _ _ _ _ (by omega)], fun j _ => by rw [ew22, wu_row _ _ _ (by decide)]⟩
            have x_w22 := x_w20.tr y_w22
            have o_w22 : w22 114 11 = ((w 114 11) + 1) - 1 := by rw [ew22, wu_s]
            have z_w22 : Tz w22 f n ((tk_cnd f n (tk_one f n d) (tk_z f n b)).2.1) := z_w20.of (fun j h1 h2 => by rw [ew22, wu_k _ _ _ _ (by omega)]) (by rw [ew22, wu_row _ _ _ (by decide)])
            have p_w22 : w22 114 10 = 1 := by rw [ew22, wu_k _ _ _ _ (by omega)]; exact p_w20
            refine xx_goto (pc := 102) 116 dX12_oneHere_102 rfl ?_
            have hH_ : tk_op f n (tk_one f n d) b = (1, (tk_cnd f n (tk_one f n d) (tk_z f n b)).2.1, (tk_cnd f n (tk_one f n d) (tk_z f n b)).2.2) := by unfold tk_op; rw [tk_bd_1 v1_w12]; exact tk_P_1 v1_w12
            exact xx_sub [0, 1] rfl (ct1 q ((tk_cnd f n (tk_one f n d) (tk_z f n b)).2.1) ((tk_cnd f n (tk_one f n d) (tk_z f n b)).2.2) w22 z_w22 p_w22 x_w22 (by omega) (by omega) (by rw [hK, if_pos hc40_, hH_] <;> rfl))
      · have hi_ := c2
        have hlt_ := tk_i_lt hi_
        have hz_ := tk_i_z z_u.2.1 hi_
        have hz2_ : b + 3 ≤ tk_z f n b := hz_.1
        obtain ⟨k, rfl⟩ : ∃ q, k = q + 1 := ⟨k - 1, by omega⟩
        refine xx_iincN (L' := [(1, .int (nI (q + 1))), (0, ic_pt E 114)]) (pc := 25) dX12_oneHere_25 0 rfl cc_iconst_1 (Nat.le_of_ble_eq_true rfl) rfl ?_
        refine xx_aload_nP (pc := 28) dX12_oneHere_28 1 rfl rfl ?_
        refine xx_callV0 (pc := 29) (st := []) sh_114 (cZ_next (w := u) z_u) kX12_nextToken vX12_184_12 dX12_oneHere_29 rfl rfl (Nat.le_of_ble_eq_true rfl) (pl_hR (d := (3 * d + 11)) (by omega) (Nat.le_of_ble_eq_true rfl)) ⟨Nat.zero_le _, Nat.zero_le _⟩ (ic_kv (fun h_ qw23 => ?_))
        obtain ⟨w23, rfl, y_w23, z_w23, p0_⟩ := qw23
        have p_w23 : w23 114 10 = 0 := p0_.trans p_u
        have x_w23 := x_u.tr y_w23.h
        have o_w23 : w23 114 11 = w 114 11 := (y_w23.2 11 (by omega)).trans o_u
        have s_w23 : w23 115 = tk_sts (w 115) [] := (y_w23.1 115 (by decide)).trans s_u
        refine xx_goto (pc := 32) 2 dX12_oneHere_32 rfl ?_
        exact xx_sub [0, 1] rfl (ih_ k (tk_z f n b) (q + 1) w23 z_w23 p_w23 x_w23 o_w23 s_w23 (by rw [hN, tk_nt_t hi_]; simp only [Prod.mk.injEq, true_and]; omega) (by omega) (by omega) (by omega) (Nat.lt_of_succ_lt_succ hm_))
  refine xx_iconst (pc := 0) dX12_oneHere_0 cc_iconst_0 ?_
  refine xx_istore_n (L' := [(1, .int (nI 0)), (0, ic_pt E 114)]) (pc := 1) dX12_oneHere_1 rfl (Nat.le_of_ble_eq_true rfl) rfl ?_
  exact xx_sub [0, 1] rfl (lp 201 200 a 0 w z_w p_w x_w o_w s_w (by rw [Nat.zero_add]) (by omega) (by omega) (Nat.le_refl _) (by omega))

theorem cZ_conds {l : Launch} {E : ic_E} : ∀ d, tk_PC l E d := by
  intro d
  induction d with
  | zero =>
    have h0 : tk_PO l E 0 := by intro w f n a z p ho hb; exact cZ_one0 z p ho hb
    have h1 : tk_PA l E 0 := by intro w f n a z p ho hb; exact cZ_all h0 z p ho hb
    intro w f n a z p ho hb
    exact cZ_cond h1 z p ho hb
  | succ d ih =>
    have h0 : tk_PO l E (d + 1) := by intro w f n a z p ho hb; exact cZ_oneS ih z p ho hb
    have h1 : tk_PA l E (d + 1) := by intro w f n a z p ho hb; exact cZ_all h0 z p ho hb
    intro w f n a z p ho hb
    exact cZ_cond h1 z p ho hb
