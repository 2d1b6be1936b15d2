/-! the class's reader: conditions -/
theorem cs_en_c {a b c : Nat} (ha : a ≤ 10004) (hb : b ≤ 10004) (hc : c ≤ 2) : (a ||| b * 2 ^ 14) ||| c * 2 ^ 28 = cs_en (c, a, b) := by
  rw [en_or (by omega) (by omega) hc]
  unfold cs_en mo_en
  rw [if_neg (by show ¬ c = 3; omega), if_neg (by show ¬ c = 4; omega), if_neg (by show ¬ c = 5; omega)]
theorem tk_vr_v {f : Nat → Nat} {n a : Nat} (h : tk_ov f n a ≠ 0) : tk_vr f n a = tk_val f n a := if_pos h
theorem tk_vr_ov {f : Nat → Nat} {n a : Nat} (h : tk_vr f n a < 2147483648) : tk_ov f n a ≠ 0 := by
  intro z
  unfold tk_vr at h
  rw [if_neg (by omega)] at h
  omega
theorem tk_vr_lt (f : Nat → Nat) (n a : Nat) : tk_vr f n a ≤ 10004 ∨ tk_vr f n a = 4294967295 := by
  unfold tk_vr
  by_cases z : tk_ov f n a ≠ 0
  · rw [if_pos z]
    exact Or.inl (tk_val_le z)
  · rw [if_neg z]
    exact Or.inr rfl
def cs_PO (l : Launch) (E : ic_E) (d : Nat) : Prop := ∀ {w : ic_w} {f : Nat → Nat} {n a o : Nat}, Ty w f n a → o + d = 3 → 2 * w 5 5 ≤ a → ic_C l E mX10_readOne (3 * d + 7) 0 0 False [ic_pt E 5, .int (nI o)] SHs (hn w) SHs (cs_Q w f n (tk_one f n d a))
def cs_PA (l : Launch) (E : ic_E) (d : Nat) : Prop := ∀ {w : ic_w} {f : Nat → Nat} {n a o : Nat}, Ty w f n a → o + d = 3 → 2 * w 5 5 ≤ a → ic_C l E mX10_readAll (3 * d + 8) 0 0 False [ic_pt E 5, .int (nI o)] SHs (hn w) SHs (cs_Q w f n (tk_all f n (tk_one f n d) a))
def cs_PC (l : Launch) (E : ic_E) (d : Nat) : Prop := ∀ {w : ic_w} {f : Nat → Nat} {n a o : Nat}, Ty w f n a → o + d = 3 → 2 * w 5 5 ≤ a → ic_C l E mX10_readCondition (3 * d + 9) 0 0 False [ic_pt E 5, .int (nI o)] SHs (hn w) SHs (cs_Q w f n (tk_cnd f n (tk_one f n d) a))
set_option maxHeartbeats 4000000 in
set_option maxRecDepth 100000 in
theorem cC_readAll {l : Launch} {E : ic_E} {w : ic_w} (hP : Value.category E.2.2.2.2.2.2 = 1) {d : Nat} (h : cs_PO l E d) {f : Nat → Nat} {n a o : Nat} (z_w : Ty w f n a) (ho : o + d = 3) (hb : 2 * w 5 5 ≤ a) : ic_C l E mX10_readAll (3 * d + 8) 0 0 False [ic_pt E 5, .int (nI o)] SHs (hn w) SHs (cs_Q w f n (tk_all f n (tk_one f n d) a)) := by
  refine ic_intro (by decide +kernel) (Nat.le_of_ble_eq_true rfl) ?_
  show xx l E _ _ 0 [(0, ic_pt E 5), (1, .int (nI o))] _ _ _
  have x_w := Dw.rf w
  have g_w := Dk.rf w
  have hn2 := z_w.1.2.2.1
  have ha := z_w.2.1
  have lp : ∀ (n_ : Nat) (i b : Nat) (K : tk_L) (u : ic_w), Ty u f n b → Dw w u → Dk w u K → tk_all f n (tk_one f n d) a = (((tk_lp f n [97, 110, 100] (tk_one f n d) 4) (200 - i) b).1, ((tk_lp f n [97, 110, 100] (tk_one f n d) 4) (200 - i) b).2.1, K ++ ((tk_lp f n [97, 110, 100] (tk_one f n d) 4) (200 - i) b).2.2) → 2 * (w 5 5 + K.length) ≤ b → i ≤ 200 → 200 - i < n_ → xx l E (ic_fr E mX10_readAll (3 * d + 8) 0 0 False SHs (cs_Q w f n (tk_all f n (tk_one f n d) a))) (0, 0) 12 [(2, .int (nI i)), (0, ic_pt E 5), (1, .int (nI o))] [] SHs (hn u) := by
    intro n_
    induction n_ with
    | zero => intro i b K u z_u x_u g_u hl hK hi hm_; exact absurd hm_ (Nat.not_lt_zero _)
    | succ n_ ih_ =>
      intro i b K u z_u x_u g_u hl hK hi hm_
      refine xx_iload_n (pc := 12) dX10_readAll_12 0 rfl rfl ?_
      refine xx_sipush (pc := 13) dX10_readAll_13 cc_sipush_200 ?_
      refine xx_icmp_geN (pc := 16) 57 dX10_readAll_16 rfl (by omega) (by omega) (fun c201 => ?_) (fun c201 => ?_)
      · have hl3_ := hl
        rw [show 200 - i = 0 by omega] at hl3_
        have hl2_ : tk_all f n (tk_one f n d) a = (0, b, K ++ []) := hl3_
        refine xx_iconst (pc := 57) dX10_readAll_57 cc_iconst_1 ?_
        exact xx_iret (pc := 58) dX10_readAll_58 rfl (rfl) (Nat.le_refl _) (Nat.le_refl _) (ic_ri (by rw [hl2_]; exact ⟨rfl, u, rfl, x_u, fun _ => ⟨z_u, by rw [List.append_nil]; exact g_u⟩, fun y_ => absurd y_ Nat.zero_ne_one⟩))
      · obtain ⟨k, hk_⟩ : ∃ k, 200 - i = k + 1 := ⟨199 - i, by omega⟩
        have hk2_ : 200 - (i + 1) = k := by omega
        refine xx_aload_nP (pc := 19) dX10_readAll_19 1 rfl rfl ?_
        refine xx_ldcS (pc := 20) 13 dX10_readAll_20 rfl rfl ?_
        refine xx_callV0 (pc := 22) (st := []) sh_5 (cC_isNamed (w := u) (i := 13) (wl := [97, 110, 100]) hP (by decide) (by decide +kernel) z_u) kX10_isNamed vX10_72_10 dX10_readAll_22 rfl rfl (Nat.le_of_ble_eq_true rfl) (pl_hR (d := (3 * d + 8)) (by omega) (Nat.le_of_ble_eq_true rfl)) ⟨Nat.zero_le _, Nat.zero_le _⟩ (ic_ke ?_)
        refine xx_if_eqB (pc := 25) 57 dX10_readAll_25 rfl (fun c202 => ?_) (fun c202 => ?_)
        · have hl2_ : tk_all f n (tk_one f n d) a = (0, b, K ++ []) := by rw [hl, tk_lp_f c202]
          refine xx_iconst (pc := 57) dX10_readAll_57 cc_iconst_1 ?_
          exact xx_iret (pc := 58) dX10_readAll_58 rfl (rfl) (Nat.le_refl _) (Nat.le_refl _) (ic_ri (by rw [hl2_]; exact ⟨rfl, u, rfl, x_u, fun _ => ⟨z_u, by rw [List.append_nil]; exact g_u⟩, fun y_ => absurd y_ Nat.zero_ne_one⟩))
        · have hi_ := c202
          have hz_ := tk_i_z z_u.2.1 hi_
          have hz2_ : b + 3 ≤ tk_z f n b := hz_.1
          refine xx_aload_nP (pc := 28) dX10_readAll_28 1 rfl rfl ?_
          refine xx_callV0 (pc := 29) (st := []) sh_5 (cC_next (w := u) z_u) kX10_advance vX10_53_10 dX10_readAll_29 rfl rfl (Nat.le_of_ble_eq_true rfl) (pl_hR (d := (3 * d + 8)) (by omega) (Nat.le_of_ble_eq_true rfl)) ⟨Nat.zero_le _, Nat.zero_le _⟩ (ic_kv (fun h_ qw203 => ?_))
          obtain ⟨w203, rfl, y_w203, z_w203⟩ := qw203
          have x_w203 := x_u.tr y_w203.d
          have g_w203 := g_u.e y_w203
          refine xx_aload_nP (pc := 32) dX10_readAll_32 1 rfl rfl ?_
          refine xx_iload_n (pc := 33) dX10_readAll_33 2 rfl rfl ?_
          refine xx_callV0 (pc := 34) (st := []) sh_5 (h z_w203 ho (by rw [g_w203.1]; omega)) kX10_readOne vX10_95_10 dX10_readAll_34 rfl rfl (Nat.le_of_ble_eq_true rfl) (pl_hR (d := (3 * d + 8)) (by omega) (Nat.le_of_ble_eq_true rfl)) ⟨Nat.zero_le _, Nat.zero_le _⟩ (ic_ki (fun v206 h_ qw205 => ?_))
          obtain ⟨rfl, w205, rfl, y_w205, zz_w205, ff_w205⟩ := qw205
          have R_w205 := tk_one_R (f := f) d (tk_z f n b) z_w203.2.1
          have x_w205 := x_w203.tr y_w205
          by_cases v_w205 : (tk_one f n d (tk_z f n b)).1 = 0
          · have z_w205 := (zz_w205 v_w205).1
            have g_w205 := g_w203.tr (zz_w205 v_w205).2
            refine xx_eqI (y := nI 1) (by rw [v_w205]) ?_
            refine xx_if_eqN (pc := 37) 49 dX10_readAll_37 rfl (by omega) (fun c207 => by exfalso; omega) (fun c207 => ?_)
            refine xx_aload_nP (pc := 40) dX10_readAll_40 1 rfl rfl ?_
            refine xx_bipush (pc := 41) dX10_readAll_41 cc_bipush_m2 ?_
            refine xx_callV0 (pc := 43) (st := []) sh_5 (cC_emit (w := w205) z_w205 (4, 0, 0) (x := 4294967294) (rfl) (by decide) (by rw [g_w205.1]; have := (R_w205.2.2.2 v_w205).1; have := R_w205.2.2.1; simp only [List.length_append]; omega)) kX10_emit vX10_92_10 dX10_readAll_43 rfl rfl (Nat.le_of_ble_eq_true rfl) (pl_hR (d := (3 * d + 8)) (by omega) (Nat.le_of_ble_eq_true rfl)) ⟨Nat.zero_le _, Nat.zero_le _⟩ (ic_ki (fun v209 h_ qw208 => ?_))
            obtain ⟨rfl, w208, rfl, y_w208, z_w208, g0_w208⟩ := qw208
            have x_w208 := x_w205.tr y_w208
            have g_w208 := g_w205.tr g0_w208
            refine xx_if_neN (pc := 46) 51 dX10_readAll_46 rfl (by omega) (fun c210 => ?_) (fun c210 => by exfalso; omega)
            refine xx_iincN (L' := [(2, .int (nI (i + 1))), (0, ic_pt E 5), (1, .int (nI o))]) (pc := 51) dX10_readAll_51 0 rfl cc_iconst_1 (Nat.le_of_ble_eq_true rfl) rfl ?_
            refine xx_goto (pc := 54) 12 dX10_readAll_54 rfl ?_
            exact xx_sub [0, 1, 2] rfl (ih_ (i + 1) ((tk_one f n d (tk_z f n b)).2.1) (K ++ (tk_one f n d (tk_z f n b)).2.2 ++ [(4, 0, 0)]) w208 z_w208 x_w208 g_w208 (by rw [hl, hk_, hk2_, tk_lp_t hi_, tk_P_0 v_w205]; simp [tk_bd_0c, List.append_assoc]) (by have := (R_w205.2.2.2 v_w205).1; simp only [List.length_append, List.length_cons, List.length_nil]; omega) (by omega) (by omega))
          · have v1_w205 : (tk_one f n d (tk_z f n b)).1 = 1 := by have := R_w205.1; omega
            have f_w205 := ff_w205 v1_w205
            refine xx_eqI (y := nI 0) (by rw [v1_w205]) ?_
            refine xx_if_eqN (pc := 37) 49 dX10_readAll_37 rfl (by omega) (fun c211 => ?_) (fun c211 => by exfalso; omega)
            refine xx_iconst (pc := 49) dX10_readAll_49 cc_iconst_0 ?_
            exact xx_iret (pc := 50) dX10_readAll_50 rfl (rfl) (Nat.le_refl _) (Nat.le_refl _) (ic_ri (by rw [hl, hk_, tk_lp_t hi_, tk_P_1 v1_w205, tk_bd_11]; exact ⟨rfl, w205, rfl, x_w205, fun y_ => absurd y_ Nat.one_ne_zero, fun _ => f_w205⟩))
  refine xx_aload_nP (pc := 0) dX10_readAll_0 0 rfl rfl ?_
  refine xx_iload_n (pc := 1) dX10_readAll_1 1 rfl rfl ?_
  refine xx_callV0 (pc := 2) (st := []) sh_5 (h z_w ho (hb)) kX10_readOne vX10_95_10 dX10_readAll_2 rfl rfl (Nat.le_of_ble_eq_true rfl) (pl_hR (d := (3 * d + 8)) (by omega) (Nat.le_of_ble_eq_true rfl)) ⟨Nat.zero_le _, Nat.zero_le _⟩ (ic_ki (fun v2 h_ qw1 => ?_))
  obtain ⟨rfl, w1, rfl, y_w1, zz_w1, ff_w1⟩ := qw1
  have R_w1 := tk_one_R (f := f) d (a) z_w.2.1
  have x_w1 := x_w.tr y_w1
  by_cases v_w1 : (tk_one f n d a).1 = 0
  · have z_w1 := (zz_w1 v_w1).1
    have g_w1 := g_w.tr (zz_w1 v_w1).2
    refine xx_eqI (y := nI 1) (by rw [v_w1]) ?_
    refine xx_if_neN (pc := 5) 10 dX10_readAll_5 rfl (by omega) (fun c3 => ?_) (fun c3 => by exfalso; omega)
    refine xx_iconst (pc := 10) dX10_readAll_10 cc_iconst_0 ?_
    refine xx_istore_n (L' := [(2, .int (nI 0)), (0, ic_pt E 5), (1, .int (nI o))]) (pc := 11) dX10_readAll_11 rfl (Nat.le_of_ble_eq_true rfl) rfl ?_
    exact xx_sub [0, 1, 2] rfl (lp 201 0 ((tk_one f n d a).2.1) ([] ++ (tk_one f n d a).2.2) w1 z_w1 x_w1 g_w1 (by rw [tk_all, tk_bd_0 v_w1]; rfl) (by have := (R_w1.2.2.2 v_w1).1; simp only [List.length_append, List.length_nil]; omega) (by omega) (by omega))
  · have v1_w1 : (tk_one f n d a).1 = 1 := by have := R_w1.1; omega
    have f_w1 := ff_w1 v1_w1
    refine xx_eqI (y := nI 0) (by rw [v1_w1]) ?_
    refine xx_if_neN (pc := 5) 10 dX10_readAll_5 rfl (by omega) (fun c4 => by exfalso; omega) (fun c4 => ?_)
    refine xx_iconst (pc := 8) dX10_readAll_8 cc_iconst_0 ?_
    exact xx_iret (pc := 9) dX10_readAll_9 rfl (rfl) (Nat.le_refl _) (Nat.le_refl _) (ic_ri (by rw [tk_all, tk_bd_1 v1_w1, tk_P_1 v1_w1]; exact ⟨rfl, w1, rfl, x_w1, fun y_ => absurd y_ Nat.one_ne_zero, fun _ => f_w1⟩))

set_option maxHeartbeats 4000000 in
set_option maxRecDepth 100000 in
theorem cC_readCond {l : Launch} {E : ic_E} {w : ic_w} (hP : Value.category E.2.2.2.2.2.2 = 1) {d : Nat} (h : cs_PA l E d) {f : Nat → Nat} {n a o : Nat} (z_w : Ty w f n a) (ho : o + d = 3) (hb : 2 * w 5 5 ≤ a) : ic_C l E mX10_readCondition (3 * d + 9) 0 0 False [ic_pt E 5, .int (nI o)] SHs (hn w) SHs (cs_Q w f n (tk_cnd f n (tk_one f n d) a)) := by
  refine ic_intro (by decide +kernel) (Nat.le_of_ble_eq_true rfl) ?_
  show xx l E _ _ 0 [(0, ic_pt E 5), (1, .int (nI o))] _ _ _
  have x_w := Dw.rf w
  have g_w := Dk.rf w
  have hn2 := z_w.1.2.2.1
  have ha := z_w.2.1
  have lp : ∀ (n_ : Nat) (i b : Nat) (K : tk_L) (u : ic_w), Ty u f n b → Dw w u → Dk w u K → tk_cnd f n (tk_one f n d) a = (((tk_lp f n [111, 114] (tk_all f n (tk_one f n d)) 5) (200 - i) b).1, ((tk_lp f n [111, 114] (tk_all f n (tk_one f n d)) 5) (200 - i) b).2.1, K ++ ((tk_lp f n [111, 114] (tk_all f n (tk_one f n d)) 5) (200 - i) b).2.2) → 2 * (w 5 5 + K.length) ≤ b → i ≤ 200 → 200 - i < n_ → xx l E (ic_fr E mX10_readCondition (3 * d + 9) 0 0 False SHs (cs_Q w f n (tk_cnd f n (tk_one f n d) a))) (0, 0) 12 [(2, .int (nI i)), (0, ic_pt E 5), (1, .int (nI o))] [] SHs (hn u) := by
    intro n_
    induction n_ with
    | zero => intro i b K u z_u x_u g_u hl hK hi hm_; exact absurd hm_ (Nat.not_lt_zero _)
    | succ n_ ih_ =>
      intro i b K u z_u x_u g_u hl hK hi hm_
      refine xx_iload_n (pc := 12) dX10_readCondition_12 0 rfl rfl ?_
      refine xx_sipush (pc := 13) dX10_readCondition_13 cc_sipush_200 ?_
      refine xx_icmp_geN (pc := 16) 57 dX10_readCondition_16 rfl (by omega) (by omega) (fun c201 => ?_) (fun c201 => ?_)
      · have hl3_ := hl
        rw [show 200 - i = 0 by omega] at hl3_
        have hl2_ : tk_cnd f n (tk_one f n d) a = (0, b, K ++ []) := hl3_
        refine xx_iconst (pc := 57) dX10_readCondition_57 cc_iconst_1 ?_
        exact xx_iret (pc := 58) dX10_readCondition_58 rfl (rfl) (Nat.le_refl _) (Nat.le_refl _) (ic_ri (by rw [hl2_]; exact ⟨rfl, u, rfl, x_u, fun _ => ⟨z_u, by rw [List.append_nil]; exact g_u⟩, fun y_ => absurd y_ Nat.zero_ne_one⟩))
      · obtain ⟨k, hk_⟩ : ∃ k, 200 - i = k + 1 := ⟨199 - i, by omega⟩
        have hk2_ : 200 - (i + 1) = k := by omega
        refine xx_aload_nP (pc := 19) dX10_readCondition_19 1 rfl rfl ?_
        refine xx_ldcS (pc := 20) 14 dX10_readCondition_20 rfl rfl ?_
        refine xx_callV0 (pc := 22) (st := []) sh_5 (cC_isNamed (w := u) (i := 14) (wl := [111, 114]) hP (by decide) (by decide +kernel) z_u) kX10_isNamed vX10_72_10 dX10_readCondition_22 rfl rfl (Nat.le_of_ble_eq_true rfl) (pl_hR (d := (3 * d + 9)) (by omega) (Nat.le_of_ble_eq_true rfl)) ⟨Nat.zero_le _, Nat.zero_le _⟩ (ic_ke ?_)
        refine xx_if_eqB (pc := 25) 57 dX10_readCondition_25 rfl (fun c202 => ?_) (fun c202 => ?_)
        · have hl2_ : tk_cnd f n (tk_one f n d) a = (0, b, K ++ []) := by rw [hl, tk_lp_f c202]
          refine xx_iconst (pc := 57) dX10_readCondition_57 cc_iconst_1 ?_
          exact xx_iret (pc := 58) dX10_readCondition_58 rfl (rfl) (Nat.le_refl _) (Nat.le_refl _) (ic_ri (by rw [hl2_]; exact ⟨rfl, u, rfl, x_u, fun _ => ⟨z_u, by rw [List.append_nil]; exact g_u⟩, fun y_ => absurd y_ Nat.zero_ne_one⟩))
        · have hi_ := c202
          have hz_ := tk_i_z z_u.2.1 hi_
          have hz2_ : b + 2 ≤ tk_z f n b := hz_.1
          refine xx_aload_nP (pc := 28) dX10_readCondition_28 1 rfl rfl ?_
          refine xx_callV0 (pc := 29) (st := []) sh_5 (cC_next (w := u) z_u) kX10_advance vX10_53_10 dX10_readCondition_29 rfl rfl (Nat.le_of_ble_eq_true rfl) (pl_hR (d := (3 * d + 9)) (by omega) (Nat.le_of_ble_eq_true rfl)) ⟨Nat.zero_le _, Nat.zero_le _⟩ (ic_kv (fun h_ qw203 => ?_))
          obtain ⟨w203, rfl, y_w203, z_w203⟩ := qw203
          have x_w203 := x_u.tr y_w203.d
          have g_w203 := g_u.e y_w203
          refine xx_aload_nP (pc := 32) dX10_readCondition_32 1 rfl rfl ?_
          refine xx_iload_n (pc := 33) dX10_readCondition_33 2 rfl rfl ?_
          refine xx_callV0 (pc := 34) (st := []) sh_5 (h z_w203 ho (by rw [g_w203.1]; omega)) kX10_readAll vX10_87_10 dX10_readCondition_34 rfl rfl (Nat.le_of_ble_eq_true rfl) (pl_hR (d := (3 * d + 9)) (by omega) (Nat.le_of_ble_eq_true rfl)) ⟨Nat.zero_le _, Nat.zero_le _⟩ (ic_ki (fun v206 h_ qw205 => ?_))
          obtain ⟨rfl, w205, rfl, y_w205, zz_w205, ff_w205⟩ := qw205
          have R_w205 := tk_all_1R (f := f) d (tk_z f n b) z_w203.2.1
          have x_w205 := x_w203.tr y_w205
          by_cases v_w205 : (tk_all f n (tk_one f n d) (tk_z f n b)).1 = 0
          · have z_w205 := (zz_w205 v_w205).1
            have g_w205 := g_w203.tr (zz_w205 v_w205).2
            refine xx_eqI (y := nI 1) (by rw [v_w205]) ?_
            refine xx_if_eqN (pc := 37) 49 dX10_readCondition_37 rfl (by omega) (fun c207 => by exfalso; omega) (fun c207 => ?_)
            refine xx_aload_nP (pc := 40) dX10_readCondition_40 1 rfl rfl ?_
            refine xx_bipush (pc := 41) dX10_readCondition_41 cc_bipush_m3 ?_
            refine xx_callV0 (pc := 43) (st := []) sh_5 (cC_emit (w := w205) z_w205 (5, 0, 0) (x := 4294967293) (rfl) (by decide) (by rw [g_w205.1]; have := (R_w205.2.2.2 v_w205).1; have := R_w205.2.2.1; simp only [List.length_append]; omega)) kX10_emit vX10_92_10 dX10_readCondition_43 rfl rfl (Nat.le_of_ble_eq_true rfl) (pl_hR (d := (3 * d + 9)) (by omega) (Nat.le_of_ble_eq_true rfl)) ⟨Nat.zero_le _, Nat.zero_le _⟩ (ic_ki (fun v209 h_ qw208 => ?_))
            obtain ⟨rfl, w208, rfl, y_w208, z_w208, g0_w208⟩ := qw208
            have x_w208 := x_w205.tr y_w208
            have g_w208 := g_w205.tr g0_w208
            refine xx_if_neN (pc := 46) 51 dX10_readCondition_46 rfl (by omega) (fun c210 => ?_) (fun c210 => by exfalso; omega)
            refine xx_iincN (L' := [(2, .int (nI (i + 1))), (0, ic_pt E 5), (1, .int (nI o))]) (pc := 51) dX10_readCondition_51 0 rfl cc_iconst_1 (Nat.le_of_ble_eq_true rfl) rfl ?_
            refine xx_goto (pc := 54) 12 dX10_readCondition_54 rfl ?_
            exact xx_sub [0, 1, 2] rfl (ih_ (i + 1) ((tk_all f n (tk_one f n d) (tk_z f n b)).2.1) (K ++ (tk_all f n (tk_one f n d) (tk_z f n b)).2.2 ++ [(5, 0, 0)]) w208 z_w208 x_w208 g_w208 (by rw [hl, hk_, hk2_, tk_lp_t hi_, tk_P_0 v_w205]; simp [tk_bd_0c, List.append_assoc]) (by have := (R_w205.2.2.2 v_w205).1; simp only [List.length_append, List.length_cons, List.length_nil]; omega) (by omega) (by omega))
          · have v1_w205 : (tk_all f n (tk_one f n d) (tk_z f n b)).1 = 1 := by have := R_w205.1; omega
            have f_w205 := ff_w205 v1_w205
            refine xx_eqI (y := nI 0) (by rw [v1_w205]) ?_
            refine xx_if_eqN (pc := 37) 49 dX10_readCondition_37 rfl (by omega) (fun c211 => ?_) (fun c211 => by exfalso; omega)
            refine xx_iconst (pc := 49) dX10_readCondition_49 cc_iconst_0 ?_
            exact xx_iret (pc := 50) dX10_readCondition_50 rfl (rfl) (Nat.le_refl _) (Nat.le_refl _) (ic_ri (by rw [hl, hk_, tk_lp_t hi_, tk_P_1 v1_w205, tk_bd_11]; exact ⟨rfl, w205, rfl, x_w205, fun y_ => absurd y_ Nat.one_ne_zero, fun _ => f_w205⟩))
  refine xx_aload_nP (pc := 0) dX10_readCondition_0 0 rfl rfl ?_
  refine xx_iload_n (pc := 1) dX10_readCondition_1 1 rfl rfl ?_
  refine xx_callV0 (pc := 2) (st := []) sh_5 (h z_w ho (hb)) kX10_readAll vX10_87_10 dX10_readCondition_2 rfl rfl (Nat.le_of_ble_eq_true rfl) (pl_hR (d := (3 * d + 9)) (by omega) (Nat.le_of_ble_eq_true rfl)) ⟨Nat.zero_le _, Nat.zero_le _⟩ (ic_ki (fun v2 h_ qw1 => ?_))
  obtain ⟨rfl, w1, rfl, y_w1, zz_w1, ff_w1⟩ := qw1
  have R_w1 := tk_all_1R (f := f) d (a) z_w.2.1
  have x_w1 := x_w.tr y_w1
  by_cases v_w1 : (tk_all f n (tk_one f n d) a).1 = 0
  · have z_w1 := (zz_w1 v_w1).1
    have g_w1 := g_w.tr (zz_w1 v_w1).2
    refine xx_eqI (y := nI 1) (by rw [v_w1]) ?_
    refine xx_if_neN (pc := 5) 10 dX10_readCondition_5 rfl (by omega) (fun c3 => ?_) (fun c3 => by exfalso; omega)
    refine xx_iconst (pc := 10) dX10_readCondition_10 cc_iconst_0 ?_
    refine xx_istore_n (L' := [(2, .int (nI 0)), (0, ic_pt E 5), (1, .int (nI o))]) (pc := 11) dX10_readCondition_11 rfl (Nat.le_of_ble_eq_true rfl) rfl ?_
    exact xx_sub [0, 1, 2] rfl (lp 201 0 ((tk_all f n (tk_one f n d) a).2.1) ([] ++ (tk_all f n (tk_one f n d) a).2.2) w1 z_w1 x_w1 g_w1 (by rw [tk_cnd, tk_bd_0 v_w1]; rfl) (by have := (R_w1.2.2.2 v_w1).1; simp only [List.length_append, List.length_nil]; omega) (by omega) (by omega))
  · have v1_w1 : (tk_all f n (tk_one f n d) a).1 = 1 := by have := R_w1.1; omega
    have f_w1 := ff_w1 v1_w1
    refine xx_eqI (y := nI 0) (by rw [v1_w1]) ?_
    refine xx_if_neN (pc := 5) 10 dX10_readCondition_5 rfl (by omega) (fun c4 => by exfalso; omega) (fun c4 => ?_)
    refine xx_iconst (pc := 8) dX10_readCondition_8 cc_iconst_0 ?_
    exact xx_iret (pc := 9) dX10_readCondition_9 rfl (rfl) (Nat.le_refl _) (Nat.le_refl _) (ic_ri (by rw [tk_cnd, tk_bd_1 v1_w1, tk_P_1 v1_w1]; exact ⟨rfl, w1, rfl, x_w1, fun y_ => absurd y_ Nat.one_ne_zero, fun _ => f_w1⟩))

set_option maxHeartbeats 4000000 in
set_option maxRecDepth 100000 in
theorem cC_readOne0 {l : Launch} {E : ic_E} {w : ic_w} (hP : Value.category E.2.2.2.2.2.2 = 1)  {f : Nat → Nat} {n a o : Nat} (z_w : Ty w f n a) (ho : o = 3) (hb : 2 * w 5 5 ≤ a) : ic_C l E mX10_readOne 7 0 0 False [ic_pt E 5, .int (nI o)] SHs (hn w) SHs (cs_Q w f n (tk_one f n 0 a)) := by
  refine ic_intro (by decide +kernel) (Nat.le_of_ble_eq_true rfl) ?_
  show xx l E _ _ 0 [(0, ic_pt E 5), (1, .int (nI o))] _ _ _
  have x_w := Dw.rf w
  have g_w := Dk.rf w
  have hn2 := z_w.1.2.2.1
  have ha := z_w.2.1
  have c193 : ∀ (q c e : Nat) (K : tk_L) (u : ic_w), Ty u f n e → Dw w u → Dk w u K → w 5 5 + K.length ≤ 140 → c = q % 2 → tk_one f n 0 a = tk_bd (0, e, K) (fun e => (0, e, if q % 2 = 1 then [(3, 0, 0)] else [])) → xx l E (ic_fr E mX10_readOne 7 0 0 False SHs (cs_Q w f n (tk_one f n 0 a))) (0, 0) 193 [(2, .int (nI c)), (1, .int (nI o)), (0, ic_pt E 5)] [] SHs (hn u) := by
    intro q c e K u z_u x_u g_u h7 hc hK
    refine xx_iload_n (pc := 193) dX10_readOne_193 0 rfl rfl ?_
    refine xx_if_eqN (pc := 194) 205 dX10_readOne_194 rfl (by omega) (fun c801 => ?_) (fun c801 => ?_)
    · have hodd_ : ¬ q % 2 = 1 := by omega
      refine xx_iconst (pc := 205) dX10_readOne_205 cc_iconst_1 ?_
      refine xx_goto (pc := 206) 210 dX10_readOne_206 rfl ?_
      exact xx_iret (pc := 210) dX10_readOne_210 rfl (rfl) (Nat.le_refl _) (Nat.le_refl _) (ic_ri (by rw [hK, tk_bd_00, if_neg hodd_]; exact ⟨rfl, u, rfl, x_u, fun _ => ⟨z_u, by rw [List.append_nil]; exact g_u⟩, fun y_ => absurd y_ Nat.zero_ne_one⟩))
    · have hodd_ : q % 2 = 1 := by omega
      refine xx_aload_nP (pc := 197) dX10_readOne_197 2 rfl rfl ?_
      refine xx_iconst (pc := 198) dX10_readOne_198 cc_iconst_m1 ?_
      refine xx_callV0 (pc := 199) (st := []) sh_5 (cC_emit (w := u) z_u (3, 0, 0) (x := 4294967295) (rfl) (by decide) (by rw [g_u.1]; omega)) kX10_emit vX10_92_10 dX10_readOne_199 rfl rfl (Nat.le_of_ble_eq_true rfl) (pl_hR (d := 7) (by omega) (Nat.le_of_ble_eq_true rfl)) ⟨Nat.zero_le _, Nat.zero_le _⟩ (ic_ki (fun v803 h_ qw802 => ?_))
      obtain ⟨rfl, w802, rfl, y_w802, z_w802, g0_w802⟩ := qw802
      have x_w802 := x_u.tr y_w802
      have g_w802 := g_u.tr g0_w802
      refine xx_if_eqN (pc := 202) 209 dX10_readOne_202 rfl (by omega) (fun c804 => by exfalso; omega) (fun c804 => ?_)
      refine xx_iconst (pc := 205) dX10_readOne_205 cc_iconst_1 ?_
      refine xx_goto (pc := 206) 210 dX10_readOne_206 rfl ?_
      exact xx_iret (pc := 210) dX10_readOne_210 rfl (rfl) (Nat.le_refl _) (Nat.le_refl _) (ic_ri (by rw [hK, tk_bd_00, if_pos hodd_]; exact ⟨rfl, w802, rfl, x_w802, fun _ => ⟨z_w802, g_w802⟩, fun y_ => absurd y_ Nat.zero_ne_one⟩))
  have c40 : ∀ (q c b : Nat) (u : ic_w), Ty u f n b → Dw w u → Dk w u [] → c = q % 2 → a ≤ b → tk_one f n 0 a = tk_bd (if tk_k f n b = 3 ∧ tk_b f n b = 40 then (fun b => (1, b, [])) b else tk_cmp f n b) (fun e => (0, e, if q % 2 = 1 then [(3, 0, 0)] else [])) → xx l E (ic_fr E mX10_readOne 7 0 0 False SHs (cs_Q w f n (tk_one f n 0 a))) (0, 0) 40 [(2, .int (nI c)), (1, .int (nI o)), (0, ic_pt E 5)] [] SHs (hn u) := by
    intro q c b u z_u x_u g_u hc hab hK
    refine xx_aload_nP (pc := 40) dX10_readOne_40 2 rfl rfl ?_
    refine xx_bipush (pc := 41) dX10_readOne_41 cc_bipush_40 ?_
    refine xx_callV0 (pc := 43) (st := []) sh_5 (cC_isByte (w := u) (c := 40) z_u (by decide)) kX10_isByte vX10_83_10 dX10_readOne_43 rfl rfl (Nat.le_of_ble_eq_true rfl) (pl_hR (d := 7) (by omega) (Nat.le_of_ble_eq_true rfl)) ⟨Nat.zero_le _, Nat.zero_le _⟩ (ic_ke ?_)
    refine xx_if_eqB (pc := 46) 88 dX10_readOne_46 rfl (fun c301 => ?_) (fun c301 => ?_)
    · have hc40_ : ¬ (tk_k f n b = 3 ∧ tk_b f n b = 40) := c301
      have hv1_ := tk_vr_lt f n b
      refine xx_aload_nP (pc := 88) dX10_readOne_88 2 rfl rfl ?_
      refine xx_callV0 (pc := 89) (st := []) sh_5 (cC_valueRead (w := u) hP z_u) kX10_valueRead vX10_102_10 dX10_readOne_89 rfl rfl (Nat.le_of_ble_eq_true rfl) (pl_hR (d := 7) (by omega) (Nat.le_of_ble_eq_true rfl)) ⟨Nat.zero_le _, Nat.zero_le _⟩ (ic_ke ?_)
      refine xx_istore_n (L' := [(3, .int (nI (tk_vr f n b))), (2, .int (nI c)), (1, .int (nI o)), (0, ic_pt E 5)]) (pc := 92) dX10_readOne_92 rfl (Nat.le_of_ble_eq_true rfl) rfl ?_
      refine xx_iload_n (pc := 93) dX10_readOne_93 0 rfl rfl ?_
      refine xx_if_geS (pc := 94) 99 dX10_readOne_94 rfl (by omega) (fun c302 => ?_) (fun c302 => ?_)
      · have o1_ := tk_vr_ov (by omega : tk_vr f n b < 2147483648)
        have hzb_ := tk_k_z (f := f) z_u.2.1 (tk_ov_k o1_)
        refine xx_aload_nP (pc := 99) dX10_readOne_99 3 rfl rfl ?_
        refine xx_callV0 (pc := 100) (st := []) sh_5 (cC_next (w := u) z_u) kX10_advance vX10_53_10 dX10_readOne_100 rfl rfl (Nat.le_of_ble_eq_true rfl) (pl_hR (d := 7) (by omega) (Nat.le_of_ble_eq_true rfl)) ⟨Nat.zero_le _, Nat.zero_le _⟩ (ic_kv (fun h_ qw303 => ?_))
        obtain ⟨w303, rfl, y_w303, z_w303⟩ := qw303
        have x_w303 := x_u.tr y_w303.d
        have g_w303 := g_u.e y_w303
        have c145 : tk_sb f n (tk_z f n b) ≠ 0 → xx l E (ic_fr E mX10_readOne 7 0 0 False SHs (cs_Q w f n (tk_one f n 0 a))) (0, 0) 145 [(4, .int (nI (tk_sg f n (tk_z f n b)))), (3, .int (nI (tk_vr f n b))), (2, .int (nI c)), (1, .int (nI o)), (0, ic_pt E 5)] [] SHs (hn w303) := by
          intro sb_
          have hsg_ := tk_sg_le f n (tk_z f n b)
          have hzc_ := tk_k_z (f := f) (a := tk_z f n b) hzb_.2 (by rw [tk_sb_k sb_]; decide)
          refine xx_iload (pc := 145) dX10_readOne_145 0 rfl ?_
          refine xx_if_geS (pc := 147) 152 dX10_readOne_147 rfl (by omega) (fun c305 => ?_) (fun c305 => by exfalso; omega)
          refine xx_aload_nP (pc := 152) dX10_readOne_152 4 rfl rfl ?_
          refine xx_callV0 (pc := 153) (st := []) sh_5 (cC_next (w := w303) z_w303) kX10_advance vX10_53_10 dX10_readOne_153 rfl rfl (Nat.le_of_ble_eq_true rfl) (pl_hR (d := 7) (by omega) (Nat.le_of_ble_eq_true rfl)) ⟨Nat.zero_le _, Nat.zero_le _⟩ (ic_kv (fun h_ qw306 => ?_))
          obtain ⟨w306, rfl, y_w306, z_w306⟩ := qw306
          have x_w306 := x_w303.tr y_w306.d
          have g_w306 := g_w303.e y_w306
          refine xx_aload_nP (pc := 156) dX10_readOne_156 4 rfl rfl ?_
          refine xx_callV0 (pc := 157) (st := []) sh_5 (cC_valueRead (w := w306) hP z_w306) kX10_valueRead vX10_102_10 dX10_readOne_157 rfl rfl (Nat.le_of_ble_eq_true rfl) (pl_hR (d := 7) (by omega) (Nat.le_of_ble_eq_true rfl)) ⟨Nat.zero_le _, Nat.zero_le _⟩ (ic_ke ?_)
          have hv2_ := tk_vr_lt f n (tk_z f n (tk_z f n b))
          refine xx_istore (L' := [(5, .int (nI (tk_vr f n (tk_z f n (tk_z f n b))))), (4, .int (nI (tk_sg f n (tk_z f n b)))), (3, .int (nI (tk_vr f n b))), (2, .int (nI c)), (1, .int (nI o)), (0, ic_pt E 5)]) (pc := 160) dX10_readOne_160 (Nat.le_of_ble_eq_true rfl) rfl ?_
          refine xx_iload (pc := 162) dX10_readOne_162 0 rfl ?_
          refine xx_if_ltS (pc := 164) 187 dX10_readOne_164 rfl (by omega) (fun c308 => ?_) (fun c308 => ?_)
          · have o2_ : ¬ tk_ov f n (tk_z f n (tk_z f n b)) ≠ 0 := fun y => by have := tk_val_le y; rw [← tk_vr_v y] at this; omega
            refine xx_iconst (pc := 187) dX10_readOne_187 cc_iconst_0 ?_
            exact xx_iret (pc := 188) dX10_readOne_188 rfl (rfl) (Nat.le_refl _) (Nat.le_refl _) (ic_ri (by rw [hK, if_neg hc40_, tk_cmp_3 o1_ sb_ o2_, tk_bd_11]; exact ⟨rfl, w306, rfl, x_w306, fun y_ => absurd y_ Nat.one_ne_zero, fun _ => z_w306.2.2.1⟩))
          · have o2_ := tk_vr_ov (by omega : tk_vr f n (tk_z f n (tk_z f n b)) < 2147483648)
            have hzd_ := tk_k_z (f := f) hzc_.2 (tk_ov_k o2_)
            refine xx_aload_nP (pc := 167) dX10_readOne_167 5 rfl rfl ?_
            refine xx_iload_n (pc := 168) dX10_readOne_168 2 rfl rfl ?_
            refine xx_iload (pc := 169) dX10_readOne_169 0 rfl ?_
            refine xx_bipush (pc := 171) dX10_readOne_171 cc_bipush_14 ?_
            refine xx_ishlN (pc := 173) dX10_readOne_173 (by omega) (by omega) ?_
            refine xx_iorN (pc := 174) dX10_readOne_174 ?_
            refine xx_iload (pc := 175) dX10_readOne_175 1 rfl ?_
            refine xx_bipush (pc := 177) dX10_readOne_177 cc_bipush_28 ?_
            refine xx_ishlN (pc := 179) dX10_readOne_179 (by omega) (by omega) ?_
            refine xx_iorN (pc := 180) dX10_readOne_180 ?_
            refine xx_callV0 (pc := 181) (st := []) sh_5 (cC_emit (w := w306) z_w306 (tk_sg f n (tk_z f n b), tk_val f n b, tk_val f n (tk_z f n (tk_z f n b))) (x := ((tk_vr f n b) ||| ((tk_vr f n (tk_z f n (tk_z f n b))) * 2 ^ 14)) ||| ((tk_sg f n (tk_z f n b)) * 2 ^ 28)) (by rw [tk_vr_v o1_, tk_vr_v o2_]; exact cs_en_c (tk_val_le o1_) (tk_val_le o2_) hsg_) (by rw [en_or (by omega) (by omega) hsg_]; omega) (by rw [g_w306.1]; show w 5 5 + 0 < 200; omega)) kX10_emit vX10_92_10 dX10_readOne_181 rfl rfl (Nat.le_of_ble_eq_true rfl) (pl_hR (d := 7) (by omega) (Nat.le_of_ble_eq_true rfl)) ⟨Nat.zero_le _, Nat.zero_le _⟩ (ic_ki (fun v310 h_ qw309 => ?_))
            obtain ⟨rfl, w309, rfl, y_w309, z_w309, g0_w309⟩ := qw309
            have x_w309 := x_w306.tr y_w309
            have g_w309 := g_w306.tr g0_w309
            refine xx_if_neN (pc := 184) 189 dX10_readOne_184 rfl (by omega) (fun c311 => ?_) (fun c311 => by exfalso; omega)
            refine xx_aload_nP (pc := 189) dX10_readOne_189 5 rfl rfl ?_
            refine xx_callV0 (pc := 190) (st := []) sh_5 (cC_next (w := w309) z_w309) kX10_advance vX10_53_10 dX10_readOne_190 rfl rfl (Nat.le_of_ble_eq_true rfl) (pl_hR (d := 7) (by omega) (Nat.le_of_ble_eq_true rfl)) ⟨Nat.zero_le _, Nat.zero_le _⟩ (ic_kv (fun h_ qw312 => ?_))
            obtain ⟨w312, rfl, y_w312, z_w312⟩ := qw312
            have x_w312 := x_w309.tr y_w312.d
            have g_w312 := g_w309.e y_w312
            exact xx_sub [3, 4, 5] rfl (c193 q c (tk_z f n (tk_z f n (tk_z f n b))) [(tk_sg f n (tk_z f n b), tk_val f n b, tk_val f n (tk_z f n (tk_z f n b)))] w312 z_w312 x_w312 (by simpa using g_w312) (by show w 5 5 + 1 ≤ 140; omega) hc (by rw [hK, if_neg hc40_, tk_cmp_0 o1_ sb_ o2_]))
        refine xx_aload_nP (pc := 103) dX10_readOne_103 3 rfl rfl ?_
        refine xx_bipush (pc := 104) dX10_readOne_104 cc_bipush_60 ?_
        refine xx_callV0 (pc := 106) (st := []) sh_5 (cC_isByte (w := w303) (c := 60) z_w303 (by decide)) kX10_isByte vX10_83_10 dX10_readOne_106 rfl rfl (Nat.le_of_ble_eq_true rfl) (pl_hR (d := 7) (by omega) (Nat.le_of_ble_eq_true rfl)) ⟨Nat.zero_le _, Nat.zero_le _⟩ (ic_ke ?_)
        refine xx_if_eqB (pc := 109) 116 dX10_readOne_109 rfl (fun c314 => ?_) (fun c314 => ?_)
        · refine xx_aload_nP (pc := 116) dX10_readOne_116 3 rfl rfl ?_
          refine xx_bipush (pc := 117) dX10_readOne_117 cc_bipush_61 ?_
          refine xx_callV0 (pc := 119) (st := []) sh_5 (cC_isByte (w := w303) (c := 61) z_w303 (by decide)) kX10_isByte vX10_83_10 dX10_readOne_119 rfl rfl (Nat.le_of_ble_eq_true rfl) (pl_hR (d := 7) (by omega) (Nat.le_of_ble_eq_true rfl)) ⟨Nat.zero_le _, Nat.zero_le _⟩ (ic_ke ?_)
          refine xx_if_eqB (pc := 122) 129 dX10_readOne_122 rfl (fun c315 => ?_) (fun c315 => ?_)
          · refine xx_aload_nP (pc := 129) dX10_readOne_129 3 rfl rfl ?_
            refine xx_bipush (pc := 130) dX10_readOne_130 cc_bipush_62 ?_
            refine xx_callV0 (pc := 132) (st := []) sh_5 (cC_isByte (w := w303) (c := 62) z_w303 (by decide)) kX10_isByte vX10_83_10 dX10_readOne_132 rfl rfl (Nat.le_of_ble_eq_true rfl) (pl_hR (d := 7) (by omega) (Nat.le_of_ble_eq_true rfl)) ⟨Nat.zero_le _, Nat.zero_le _⟩ (ic_ke ?_)
            refine xx_if_eqB (pc := 135) 142 dX10_readOne_135 rfl (fun c316 => ?_) (fun c316 => ?_)
            · refine xx_iconst (pc := 142) dX10_readOne_142 cc_iconst_m1 ?_
              refine xx_eqI (y := nI (4294967295)) (rfl) ?_
              refine xx_istore (L' := [(4, .int (nI 4294967295)), (3, .int (nI (tk_vr f n b))), (2, .int (nI c)), (1, .int (nI o)), (0, ic_pt E 5)]) (pc := 143) dX10_readOne_143 (Nat.le_of_ble_eq_true rfl) rfl ?_
              have sb_ : ¬ tk_sb f n (tk_z f n b) ≠ 0 := fun y => y (by unfold tk_sb; rw [if_neg (by omega)])
              refine xx_iload (pc := 145) dX10_readOne_145 0 rfl ?_
              refine xx_if_geS (pc := 147) 152 dX10_readOne_147 rfl (by omega) (fun c317 => by exfalso; omega) (fun c317 => ?_)
              refine xx_iconst (pc := 150) dX10_readOne_150 cc_iconst_0 ?_
              exact xx_iret (pc := 151) dX10_readOne_151 rfl (rfl) (Nat.le_refl _) (Nat.le_refl _) (ic_ri (by rw [hK, if_neg hc40_, tk_cmp_2 o1_ sb_, tk_bd_11]; exact ⟨rfl, w303, rfl, x_w303, fun y_ => absurd y_ Nat.one_ne_zero, fun _ => z_w303.2.2.1⟩))
            · refine xx_iconst (pc := 138) dX10_readOne_138 cc_iconst_2 ?_
              refine xx_goto (pc := 139) 143 dX10_readOne_139 rfl ?_
              refine xx_eqI (y := nI (tk_sg f n (tk_z f n b))) (by rw [show tk_sg f n (tk_z f n b) = 2 from by unfold tk_sg; rw [if_neg (by omega), if_neg (by omega)]]) ?_
              refine xx_istore (L' := [(4, .int (nI (tk_sg f n (tk_z f n b)))), (3, .int (nI (tk_vr f n b))), (2, .int (nI c)), (1, .int (nI o)), (0, ic_pt E 5)]) (pc := 143) dX10_readOne_143 (Nat.le_of_ble_eq_true rfl) rfl ?_
              exact xx_sub [0, 1, 2, 3, 4] rfl (c145 (by unfold tk_sb; rw [if_pos (by omega)]; decide))
          · refine xx_iconst (pc := 125) dX10_readOne_125 cc_iconst_1 ?_
            refine xx_goto (pc := 126) 143 dX10_readOne_126 rfl ?_
            refine xx_eqI (y := nI (tk_sg f n (tk_z f n b))) (by rw [show tk_sg f n (tk_z f n b) = 1 from by unfold tk_sg; rw [if_neg (by omega), if_pos (by omega)]]) ?_
            refine xx_istore (L' := [(4, .int (nI (tk_sg f n (tk_z f n b)))), (3, .int (nI (tk_vr f n b))), (2, .int (nI c)), (1, .int (nI o)), (0, ic_pt E 5)]) (pc := 143) dX10_readOne_143 (Nat.le_of_ble_eq_true rfl) rfl ?_
            exact xx_sub [0, 1, 2, 3, 4] rfl (c145 (by unfold tk_sb; rw [if_pos (by omega)]; decide))
        · refine xx_iconst (pc := 112) dX10_readOne_112 cc_iconst_0 ?_
          refine xx_goto (pc := 113) 143 dX10_readOne_113 rfl ?_
          refine xx_eqI (y := nI (tk_sg f n (tk_z f n b))) (by rw [show tk_sg f n (tk_z f n b) = 0 from by unfold tk_sg; rw [if_pos (by omega)]]) ?_
          refine xx_istore (L' := [(4, .int (nI (tk_sg f n (tk_z f n b)))), (3, .int (nI (tk_vr f n b))), (2, .int (nI c)), (1, .int (nI o)), (0, ic_pt E 5)]) (pc := 143) dX10_readOne_143 (Nat.le_of_ble_eq_true rfl) rfl ?_
          exact xx_sub [0, 1, 2, 3, 4] rfl (c145 (by unfold tk_sb; rw [if_pos (by omega)]; decide))
      · have o1_ : ¬ tk_ov f n b ≠ 0 := fun y => by have := tk_val_le y; rw [← tk_vr_v y] at this; omega
        refine xx_iconst (pc := 97) dX10_readOne_97 cc_iconst_0 ?_
        exact xx_iret (pc := 98) dX10_readOne_98 rfl (rfl) (Nat.le_refl _) (Nat.le_refl _) (ic_ri (by rw [hK, if_neg hc40_, tk_cmp_1 o1_, tk_bd_11]; exact ⟨rfl, u, rfl, x_u, fun y_ => absurd y_ Nat.one_ne_zero, fun _ => z_u.2.2.1⟩))
    · have hc40_ : tk_k f n b = 3 ∧ tk_b f n b = 40 := c301
      have hzb_ := tk_k_z (f := f) z_u.2.1 (by omega)
      refine xx_iload_n (pc := 49) dX10_readOne_49 1 rfl rfl ?_
      refine xx_iconst (pc := 50) dX10_readOne_50 cc_iconst_3 ?_
      refine xx_icmp_ltN (pc := 51) 56 dX10_readOne_51 rfl (by omega) (by omega) (fun c318 => by exfalso; omega) (fun c318 => ?_)
      refine xx_iconst (pc := 54) dX10_readOne_54 cc_iconst_0 ?_
      exact xx_iret (pc := 55) dX10_readOne_55 rfl (rfl) (Nat.le_refl _) (Nat.le_refl _) (ic_ri (by rw [hK, if_pos hc40_, tk_bd_11]; exact ⟨rfl, u, rfl, x_u, fun y_ => absurd y_ Nat.one_ne_zero, fun _ => z_u.2.2.1⟩))
  have lp : ∀ (n_ : Nat) (i c b : Nat) (u : ic_w), Ty u f n b → Dw w u → Dk w u [] → tk_nt f n 200 a = ((tk_nt f n (200 - i) b).1, i + (tk_nt f n (200 - i) b).2) → i ≤ 200 → c = i % 2 → a ≤ b → 200 - i < n_ → xx l E (ic_fr E mX10_readOne 7 0 0 False SHs (cs_Q w f n (tk_one f n 0 a))) (0, 0) 4 [(3, .int (nI i)), (2, .int (nI c)), (1, .int (nI o)), (0, ic_pt E 5)] [] SHs (hn u) := by
    intro n_
    induction n_ with
    | zero => intro i c b u z_u x_u g_u hN hi hc hab hm_; exact absurd hm_ (Nat.not_lt_zero _)
    | succ n_ ih_ =>
      intro i c b u z_u x_u g_u hN hi hc hab hm_
      refine xx_iload_n (pc := 4) dX10_readOne_4 0 rfl rfl ?_
      refine xx_sipush (pc := 5) dX10_readOne_5 cc_sipush_200 ?_
      refine xx_icmp_geN (pc := 8) 40 dX10_readOne_8 rfl (by omega) (by omega) (fun c101 => ?_) (fun c101 => ?_)
      · have hN3_ := hN
        rw [show 200 - i = 0 by omega] at hN3_
        have hN2 : tk_nt f n 200 a = (b, i) := hN3_
        have hK : tk_one f n 0 a = tk_bd (if tk_k f n b = 3 ∧ tk_b f n b = 40 then (fun b => (1, b, [])) b else tk_cmp f n b) (fun e => (0, e, if i % 2 = 1 then [(3, 0, 0)] else [])) := tk_on_eq hN2
        exact xx_sub [1, 2, 3] rfl (c40 i c b u z_u x_u g_u hc hab hK)
      · obtain ⟨k, hk_⟩ : ∃ k, 200 - i = k + 1 := ⟨199 - i, by omega⟩
        have hk2_ : 200 - (i + 1) = k := by omega
        refine xx_aload_nP (pc := 11) dX10_readOne_11 3 rfl rfl ?_
        refine xx_ldcS (pc := 12) 7 dX10_readOne_12 rfl rfl ?_
        refine xx_callV0 (pc := 14) (st := []) sh_5 (cC_isNamed (w := u) (i := 7) (wl := [110, 111, 116]) hP (by decide) (by decide +kernel) z_u) kX10_isNamed vX10_72_10 dX10_readOne_14 rfl rfl (Nat.le_of_ble_eq_true rfl) (pl_hR (d := 7) (by omega) (Nat.le_of_ble_eq_true rfl)) ⟨Nat.zero_le _, Nat.zero_le _⟩ (ic_ke ?_)
        refine xx_if_eqB (pc := 17) 40 dX10_readOne_17 rfl (fun c102 => ?_) (fun c102 => ?_)
        · have hN2 : tk_nt f n 200 a = (b, i) := by rw [hN, tk_nt_f c102]; rfl
          have hK : tk_one f n 0 a = tk_bd (if tk_k f n b = 3 ∧ tk_b f n b = 40 then (fun b => (1, b, [])) b else tk_cmp f n b) (fun e => (0, e, if i % 2 = 1 then [(3, 0, 0)] else [])) := tk_on_eq hN2
          exact xx_sub [1, 2, 3] rfl (c40 i c b u z_u x_u g_u hc hab hK)
        · have hi_ := c102
          have hz_ := tk_i_z z_u.2.1 hi_
          have hz2_ : b + 3 ≤ tk_z f n b := hz_.1
          refine xx_iload_n (pc := 20) dX10_readOne_20 1 rfl rfl ?_
          refine xx_if_neN (pc := 21) 28 dX10_readOne_21 rfl (by omega) (fun c103 => ?_) (fun c103 => ?_)
          · refine xx_iconst (pc := 28) dX10_readOne_28 cc_iconst_0 ?_
            refine xx_istore_n (L' := [(2, .int (nI 0)), (3, .int (nI i)), (1, .int (nI o)), (0, ic_pt E 5)]) (pc := 29) dX10_readOne_29 rfl (Nat.le_of_ble_eq_true rfl) rfl ?_
            refine xx_aload_nP (pc := 30) dX10_readOne_30 3 rfl rfl ?_
            refine xx_callV0 (pc := 31) (st := []) sh_5 (cC_next (w := u) z_u) kX10_advance vX10_53_10 dX10_readOne_31 rfl rfl (Nat.le_of_ble_eq_true rfl) (pl_hR (d := 7) (by omega) (Nat.le_of_ble_eq_true rfl)) ⟨Nat.zero_le _, Nat.zero_le _⟩ (ic_kv (fun h_ qw104 => ?_))
            obtain ⟨w104, rfl, y_w104, z_w104⟩ := qw104
            have x_w104 := x_u.tr y_w104.d
            have g_w104 := g_u.e y_w104
            refine xx_iincN (L' := [(3, .int (nI (i + 1))), (2, .int (nI 0)), (1, .int (nI o)), (0, ic_pt E 5)]) (pc := 34) dX10_readOne_34 1 rfl cc_iconst_1 (Nat.le_of_ble_eq_true rfl) rfl ?_
            refine xx_goto (pc := 37) 4 dX10_readOne_37 rfl ?_
            exact xx_sub [0, 1, 2, 3] rfl (ih_ (i + 1) 0 (tk_z f n b) w104 z_w104 x_w104 g_w104 (by rw [hN, hk_, hk2_, tk_nt_t hi_]; simp only [Prod.mk.injEq, true_and]; omega) (by omega) (by omega) (by omega) (by omega))
          · refine xx_iconst (pc := 24) dX10_readOne_24 cc_iconst_1 ?_
            refine xx_goto (pc := 25) 29 dX10_readOne_25 rfl ?_
            refine xx_istore_n (L' := [(2, .int (nI 1)), (3, .int (nI i)), (1, .int (nI o)), (0, ic_pt E 5)]) (pc := 29) dX10_readOne_29 rfl (Nat.le_of_ble_eq_true rfl) rfl ?_
            refine xx_aload_nP (pc := 30) dX10_readOne_30 3 rfl rfl ?_
            refine xx_callV0 (pc := 31) (st := []) sh_5 (cC_next (w := u) z_u) kX10_advance vX10_53_10 dX10_readOne_31 rfl rfl (Nat.le_of_ble_eq_true rfl) (pl_hR (d := 7) (by omega) (Nat.le_of_ble_eq_true rfl)) ⟨Nat.zero_le _, Nat.zero_le _⟩ (ic_kv (fun h_ qw106 => ?_))
            obtain ⟨w106, rfl, y_w106, z_w106⟩ := qw106
            have x_w106 := x_u.tr y_w106.d
            have g_w106 := g_u.e y_w106
            refine xx_iincN (L' := [(3, .int (nI (i + 1))), (2, .int (nI 1)), (1, .int (nI o)), (0, ic_pt E 5)]) (pc := 34) dX10_readOne_34 1 rfl cc_iconst_1 (Nat.le_of_ble_eq_true rfl) rfl ?_
            refine xx_goto (pc := 37) 4 dX10_readOne_37 rfl ?_
            exact xx_sub [0, 1, 2, 3] rfl (ih_ (i + 1) 1 (tk_z f n b) w106 z_w106 x_w106 g_w106 (by rw [hN, hk_, hk2_, tk_nt_t hi_]; simp only [Prod.mk.injEq, true_and]; omega) (by omega) (by omega) (by omega) (by omega))
  refine xx_iconst (pc := 0) dX10_readOne_0 cc_iconst_0 ?_
  refine xx_istore_n (L' := [(2, .int (nI 0)), (0, ic_pt E 5), (1, .int (nI o))]) (pc := 1) dX10_readOne_1 rfl (Nat.le_of_ble_eq_true rfl) rfl ?_
  refine xx_iconst (pc := 2) dX10_readOne_2 cc_iconst_0 ?_
  refine xx_istore_n (L' := [(3, .int (nI 0)), (2, .int (nI 0)), (0, ic_pt E 5), (1, .int (nI o))]) (pc := 3) dX10_readOne_3 rfl (Nat.le_of_ble_eq_true rfl) rfl ?_
  exact xx_sub [0, 1, 3, 2] rfl (lp 201 0 0 a w z_w x_w g_w (by rw [Nat.zero_add]) (by omega) (by omega) (by omega) (by omega))

set_option maxHeartbeats 4000000 in
set_option maxRecDepth 100000 in
theorem cC_readOneS {l : Launch} {E : ic_E} {w : ic_w} (hP : Value.category E.2.2.2.2.2.2 = 1) {d : Nat} (hC : cs_PC l E d) {f : Nat → Nat} {n a o : Nat} (z_w : Ty w f n a) (ho : o + (d + 1) = 3) (hb : 2 * w 5 5 ≤ a) : ic_C l E mX10_readOne (3 * d + 10) 0 0 False [ic_pt E 5, .int (nI o)] SHs (hn w) SHs (cs_Q w f n (tk_one f n (d + 1) a)) := by
  refine ic_intro (by decide +kernel) (Nat.le_of_ble_eq_true rfl) ?_
  show xx l E _ _ 0 [(0, ic_pt E 5), (1, .int (nI o))] _ _ _
  have x_w := Dw.rf w
  have g_w := Dk.rf w
  have hn2 := z_w.1.2.2.1
  have ha := z_w.2.1
  have c193 : ∀ (q c e : Nat) (K : tk_L) (u : ic_w), Ty u f n e → Dw w u → Dk w u K → w 5 5 + K.length ≤ 140 → c = q % 2 → tk_one f n (d + 1) a = tk_bd (0, e, K) (fun e => (0, e, if q % 2 = 1 then [(3, 0, 0)] else [])) → xx l E (ic_fr E mX10_readOne (3 * d + 10) 0 0 False SHs (cs_Q w f n (tk_one f n (d + 1) a))) (0, 0) 193 [(2, .int (nI c)), (1, .int (nI o)), (0, ic_pt E 5)] [] SHs (hn u) := by
    intro q c e K u z_u x_u g_u h7 hc hK
    refine xx_iload_n (pc := 193) dX10_readOne_193 0 rfl rfl ?_
    refine xx_if_eqN (pc := 194) 205 dX10_readOne_194 rfl (by omega) (fun c801 => ?_) (fun c801 => ?_)
    · have hodd_ : ¬ q % 2 = 1 := by omega
      refine xx_iconst (pc := 205) dX10_readOne_205 cc_iconst_1 ?_
      refine xx_goto (pc := 206) 210 dX10_readOne_206 rfl ?_
      exact xx_iret (pc := 210) dX10_readOne_210 rfl (rfl) (Nat.le_refl _) (Nat.le_refl _) (ic_ri (by rw [hK, tk_bd_00, if_neg hodd_]; exact ⟨rfl, u, rfl, x_u, fun _ => ⟨z_u, by rw [List.append_nil]; exact g_u⟩, fun y_ => absurd y_ Nat.zero_ne_one⟩))
    · have hodd_ : q % 2 = 1 := by omega
      refine xx_aload_nP (pc := 197) dX10_readOne_197 2 rfl rfl ?_
      refine xx_iconst (pc := 198) dX10_readOne_198 cc_iconst_m1 ?_
      refine xx_callV0 (pc := 199) (st := []) sh_5 (cC_emit (w := u) z_u (3, 0, 0) (x := 4294967295) (rfl) (by decide) (by rw [g_u.1]; omega)) kX10_emit vX10_92_10 dX10_readOne_199 rfl rfl (Nat.le_of_ble_eq_true rfl) (pl_hR (d := (3 * d + 10)) (by omega) (Nat.le_of_ble_eq_true rfl)) ⟨Nat.zero_le _, Nat.zero_le _⟩ (ic_ki (fun v803 h_ qw802 => ?_))
      obtain ⟨rfl, w802, rfl, y_w802, z_w802, g0_w802⟩ := qw802
      have x_w802 := x_u.tr y_w802
      have g_w802 := g_u.tr g0_w802
      refine xx_if_eqN (pc := 202) 209 dX10_readOne_202 rfl (by omega) (fun c804 => by exfalso; omega) (fun c804 => ?_)
      refine xx_iconst (pc := 205) dX10_readOne_205 cc_iconst_1 ?_
      refine xx_goto (pc := 206) 210 dX10_readOne_206 rfl ?_
      exact xx_iret (pc := 210) dX10_readOne_210 rfl (rfl) (Nat.le_refl _) (Nat.le_refl _) (ic_ri (by rw [hK, tk_bd_00, if_pos hodd_]; exact ⟨rfl, w802, rfl, x_w802, fun _ => ⟨z_w802, g_w802⟩, fun y_ => absurd y_ Nat.zero_ne_one⟩))
  have c40 : ∀ (q c b : Nat) (u : ic_w), Ty u f n b → Dw w u → Dk w u [] → c = q % 2 → a ≤ b → tk_one f n (d + 1) a = tk_bd (if tk_k f n b = 3 ∧ tk_b f n b = 40 then tk_op f n (tk_one f n d) b else tk_cmp f n b) (fun e => (0, e, if q % 2 = 1 then [(3, 0, 0)] else [])) → xx l E (ic_fr E mX10_readOne (3 * d + 10) 0 0 False SHs (cs_Q w f n (tk_one f n (d + 1) a))) (0, 0) 40 [(2, .int (nI c)), (1, .int (nI o)), (0, ic_pt E 5)] [] SHs (hn u) := by
    intro q c b u z_u x_u g_u hc hab hK
    refine xx_aload_nP (pc := 40) dX10_readOne_40 2 rfl rfl ?_
    refine xx_bipush (pc := 41) dX10_readOne_41 cc_bipush_40 ?_
    refine xx_callV0 (pc := 43) (st := []) sh_5 (cC_isByte (w := u) (c := 40) z_u (by decide)) kX10_isByte vX10_83_10 dX10_readOne_43 rfl rfl (Nat.le_of_ble_eq_true rfl) (pl_hR (d := (3 * d + 10)) (by omega) (Nat.le_of_ble_eq_true rfl)) ⟨Nat.zero_le _, Nat.zero_le _⟩ (ic_ke ?_)
    refine xx_if_eqB (pc := 46) 88 dX10_readOne_46 rfl (fun c301 => ?_) (fun c301 => ?_)
    · have hc40_ : ¬ (tk_k f n b = 3 ∧ tk_b f n b = 40) := c301
      have hv1_ := tk_vr_lt f n b
      refine xx_aload_nP (pc := 88) dX10_readOne_88 2 rfl rfl ?_
      refine xx_callV0 (pc := 89) (st := []) sh_5 (cC_valueRead (w := u) hP z_u) kX10_valueRead vX10_102_10 dX10_readOne_89 rfl rfl (Nat.le_of_ble_eq_true rfl) (pl_hR (d := (3 * d + 10)) (by omega) (Nat.le_of_ble_eq_true rfl)) ⟨Nat.zero_le _, Nat.zero_le _⟩ (ic_ke ?_)
      refine xx_istore_n (L' := [(3, .int (nI (tk_vr f n b))), (2, .int (nI c)), (1, .int (nI o)), (0, ic_pt E 5)]) (pc := 92) dX10_readOne_92 rfl (Nat.le_of_ble_eq_true rfl) rfl ?_
      refine xx_iload_n (pc := 93) dX10_readOne_93 0 rfl rfl ?_
      refine xx_if_geS (pc := 94) 99 dX10_readOne_94 rfl (by omega) (fun c302 => ?_) (fun c302 => ?_)
      · have o1_ := tk_vr_ov (by omega : tk_vr f n b < 2147483648)
        have hzb_ := tk_k_z (f := f) z_u.2.1 (tk_ov_k o1_)
        refine xx_aload_nP (pc := 99) dX10_readOne_99 3 rfl rfl ?_
        refine xx_callV0 (pc := 100) (st := []) sh_5 (cC_next (w := u) z_u) kX10_advance vX10_53_10 dX10_readOne_100 rfl rfl (Nat.le_of_ble_eq_true rfl) (pl_hR (d := (3 * d + 10)) (by omega) (Nat.le_of_ble_eq_true rfl)) ⟨Nat.zero_le _, Nat.zero_le _⟩ (ic_kv (fun h_ qw303 => ?_))
        obtain ⟨w303, rfl, y_w303, z_w303⟩ := qw303
        have x_w303 := x_u.tr y_w303.d
        have g_w303 := g_u.e y_w303
        have c145 : tk_sb f n (tk_z f n b) ≠ 0 → xx l E (ic_fr E mX10_readOne (3 * d + 10) 0 0 False SHs (cs_Q w f n (tk_one f n (d + 1) a))) (0, 0) 145 [(4, .int (nI (tk_sg f n (tk_z f n b)))), (3, .int (nI (tk_vr f n b))), (2, .int (nI c)), (1, .int (nI o)), (0, ic_pt E 5)] [] SHs (hn w303) := by
          intro sb_
          have hsg_ := tk_sg_le f n (tk_z f n b)
          have hzc_ := tk_k_z (f := f) (a := tk_z f n b) hzb_.2 (by rw [tk_sb_k sb_]; decide)
          refine xx_iload (pc := 145) dX10_readOne_145 0 rfl ?_
          refine xx_if_geS (pc := 147) 152 dX10_readOne_147 rfl (by omega) (fun c305 => ?_) (fun c305 => by exfalso; omega)
          refine xx_aload_nP (pc := 152) dX10_readOne_152 4 rfl rfl ?_
          refine xx_callV0 (pc := 153) (st := []) sh_5 (cC_next (w := w303) z_w303) kX10_advance vX10_53_10 dX10_readOne_153 rfl rfl (Nat.le_of_ble_eq_true rfl) (pl_hR (d := (3 * d + 10)) (by omega) (Nat.le_of_ble_eq_true rfl)) ⟨Nat.zero_le _, Nat.zero_le _⟩ (ic_kv (fun h_ qw306 => ?_))
          obtain ⟨w306, rfl, y_w306, z_w306⟩ := qw306
          have x_w306 := x_w303.tr y_w306.d
          have g_w306 := g_w303.e y_w306
          refine xx_aload_nP (pc := 156) dX10_readOne_156 4 rfl rfl ?_
          refine xx_callV0 (pc := 157) (st := []) sh_5 (cC_valueRead (w := w306) hP z_w306) kX10_valueRead vX10_102_10 dX10_readOne_157 rfl rfl (Nat.le_of_ble_eq_true rfl) (pl_hR (d := (3 * d + 10)) (by omega) (Nat.le_of_ble_eq_true rfl)) ⟨Nat.zero_le _, Nat.zero_le _⟩ (ic_ke ?_)
          have hv2_ := tk_vr_lt f n (tk_z f n (tk_z f n b))
          refine xx_istore (L' := [(5, .int (nI (tk_vr f n (tk_z f n (tk_z f n b))))), (4, .int (nI (tk_sg f n (tk_z f n b)))), (3, .int (nI (tk_vr f n b))), (2, .int (nI c)), (1, .int (nI o)), (0, ic_pt E 5)]) (pc := 160) dX10_readOne_160 (Nat.le_of_ble_eq_true rfl) rfl ?_
          refine xx_iload (pc := 162) dX10_readOne_162 0 rfl ?_
          refine xx_if_ltS (pc := 164) 187 dX10_readOne_164 rfl (by omega) (fun c308 => ?_) (fun c308 => ?_)
          · have o2_ : ¬ tk_ov f n (tk_z f n (tk_z f n b)) ≠ 0 := fun y => by have := tk_val_le y; rw [← tk_vr_v y] at this; omega
            refine xx_iconst (pc := 187) dX10_readOne_187 cc_iconst_0 ?_
            exact xx_iret (pc := 188) dX10_readOne_188 rfl (rfl) (Nat.le_refl _) (Nat.le_refl _) (ic_ri (by rw [hK, if_neg hc40_, tk_cmp_3 o1_ sb_ o2_, tk_bd_11]; exact ⟨rfl, w306, rfl, x_w306, fun y_ => absurd y_ Nat.one_ne_zero, fun _ => z_w306.2.2.1⟩))
          · have o2_ := tk_vr_ov (by omega : tk_vr f n (tk_z f n (tk_z f n b)) < 2147483648)
            have hzd_ := tk_k_z (f := f) hzc_.2 (tk_ov_k o2_)
            refine xx_aload_nP (pc := 167) dX10_readOne_167 5 rfl rfl ?_
            refine xx_iload_n (pc := 168) dX10_readOne_168 2 rfl rfl ?_
            refine xx_iload (pc := 169) dX10_readOne_169 0 rfl ?_
            refine xx_bipush (pc := 171) dX10_readOne_171 cc_bipush_14 ?_
            refine xx_ishlN (pc := 173) dX10_readOne_173 (by omega) (by omega) ?_
            refine xx_iorN (pc := 174) dX10_readOne_174 ?_
            refine xx_iload (pc := 175) dX10_readOne_175 1 rfl ?_
            refine xx_bipush (pc := 177) dX10_readOne_177 cc_bipush_28 ?_
            refine xx_ishlN (pc := 179) dX10_readOne_179 (by omega) (by omega) ?_
            refine xx_iorN (pc := 180) dX10_readOne_180 ?_
            refine xx_callV0 (pc := 181) (st := []) sh_5 (cC_emit (w := w306) z_w306 (tk_sg f n (tk_z f n b), tk_val f n b, tk_val f n (tk_z f n (tk_z f n b))) (x := ((tk_vr f n b) ||| ((tk_vr f n (tk_z f n (tk_z f n b))) * 2 ^ 14)) ||| ((tk_sg f n (tk_z f n b)) * 2 ^ 28)) (by rw [tk_vr_v o1_, tk_vr_v o2_]; exact cs_en_c (tk_val_le o1_) (tk_val_le o2_) hsg_) (by rw [en_or (by omega) (by omega) hsg_]; omega) (by rw [g_w306.1]; show w 5 5 + 0 < 200; omega)) kX10_emit vX10_92_10 dX10_readOne_181 rfl rfl (Nat.le_of_ble_eq_true rfl) (pl_hR (d := (3 * d + 10)) (by omega) (Nat.le_of_ble_eq_true rfl)) ⟨Nat.zero_le _, Nat.zero_le _⟩ (ic_ki (fun v310 h_ qw309 => ?_))
            obtain ⟨rfl, w309, rfl, y_w309, z_w309, g0_w309⟩ := qw309
            have x_w309 := x_w306.tr y_w309
            have g_w309 := g_w306.tr g0_w309
            refine xx_if_neN (pc := 184) 189 dX10_readOne_184 rfl (by omega) (fun c311 => ?_) (fun c311 => by exfalso; omega)
            refine xx_aload_nP (pc := 189) dX10_readOne_189 5 rfl rfl ?_
            refine xx_callV0 (pc := 190) (st := []) sh_5 (cC_next (w := w309) z_w309) kX10_advance vX10_53_10 dX10_readOne_190 rfl rfl (Nat.le_of_ble_eq_true rfl) (pl_hR (d := (3 * d + 10)) (by omega) (Nat.le_of_ble_eq_true rfl)) ⟨Nat.zero_le _, Nat.zero_le _⟩ (ic_kv (fun h_ qw312 => ?_))
            obtain ⟨w312, rfl, y_w312, z_w312⟩ := qw312
            have x_w312 := x_w309.tr y_w312.d
            have g_w312 := g_w309.e y_w312
            exact xx_sub [3, 4, 5] rfl (c193 q c (tk_z f n (tk_z f n (tk_z f n b))) [(tk_sg f n (tk_z f n b), tk_val f n b, tk_val f n (tk_z f n (tk_z f n b)))] w312 z_w312 x_w312 (by simpa using g_w312) (by show w 5 5 + 1 ≤ 140; omega) hc (by rw [hK, if_neg hc40_, tk_cmp_0 o1_ sb_ o2_]))
        refine xx_aload_nP (pc := 103) dX10_readOne_103 3 rfl rfl ?_
        refine xx_bipush (pc := 104) dX10_readOne_104 cc_bipush_60 ?_
        refine xx_callV0 (pc := 106) (st := []) sh_5 (cC_isByte (w := w303) (c := 60) z_w303 (by decide)) kX10_isByte vX10_83_10 dX10_readOne_106 rfl rfl (Nat.le_of_ble_eq_true rfl) (pl_hR (d := (3 * d + 10)) (by omega) (Nat.le_of_ble_eq_true rfl)) ⟨Nat.zero_le _, Nat.zero_le _⟩ (ic_ke ?_)
        refine xx_if_eqB (pc := 109) 116 dX10_readOne_109 rfl (fun c314 => ?_) (fun c314 => ?_)
        · refine xx_aload_nP (pc := 116) dX10_readOne_116 3 rfl rfl ?_
          refine xx_bipush (pc := 117) dX10_readOne_117 cc_bipush_61 ?_
          refine xx_callV0 (pc := 119) (st := []) sh_5 (cC_isByte (w := w303) (c := 61) z_w303 (by decide)) kX10_isByte vX10_83_10 dX10_readOne_119 rfl rfl (Nat.le_of_ble_eq_true rfl) (pl_hR (d := (3 * d + 10)) (by omega) (Nat.le_of_ble_eq_true rfl)) ⟨Nat.zero_le _, Nat.zero_le _⟩ (ic_ke ?_)
          refine xx_if_eqB (pc := 122) 129 dX10_readOne_122 rfl (fun c315 => ?_) (fun c315 => ?_)
          · refine xx_aload_nP (pc := 129) dX10_readOne_129 3 rfl rfl ?_
            refine xx_bipush (pc := 130) dX10_readOne_130 cc_bipush_62 ?_
            refine xx_callV0 (pc := 132) (st := []) sh_5 (cC_isByte (w := w303) (c := 62) z_w303 (by decide)) kX10_isByte vX10_83_10 dX10_readOne_132 rfl rfl (Nat.le_of_ble_eq_true rfl) (pl_hR (d := (3 * d + 10)) (by omega) (Nat.le_of_ble_eq_true rfl)) ⟨Nat.zero_le _, Nat.zero_le _⟩ (ic_ke ?_)
            refine xx_if_eqB (pc := 135) 142 dX10_readOne_135 rfl (fun c316 => ?_) (fun c316 => ?_)
            · refine xx_iconst (pc := 142) dX10_readOne_142 cc_iconst_m1 ?_
              refine xx_eqI (y := nI (4294967295)) (rfl) ?_
              refine xx_istore (L' := [(4, .int (nI 4294967295)), (3, .int (nI (tk_vr f n b))), (2, .int (nI c)), (1, .int (nI o)), (0, ic_pt E 5)]) (pc := 143) dX10_readOne_143 (Nat.le_of_ble_eq_true rfl) rfl ?_
              have sb_ : ¬ tk_sb f n (tk_z f n b) ≠ 0 := fun y => y (by unfold tk_sb; rw [if_neg (by omega)])
              refine xx_iload (pc := 145) dX10_readOne_145 0 rfl ?_
              refine xx_if_geS (pc := 147) 152 dX10_readOne_147 rfl (by omega) (fun c317 => by exfalso; omega) (fun c317 => ?_)
              refine xx_iconst (pc := 150) dX10_readOne_150 cc_iconst_0 ?_
              exact xx_iret (pc := 151) dX10_readOne_151 rfl (rfl) (Nat.le_refl _) (Nat.le_refl _) (ic_ri (by rw [hK, if_neg hc40_, tk_cmp_2 o1_ sb_, tk_bd_11]; exact ⟨rfl, w303, rfl, x_w303, fun y_ => absurd y_ Nat.one_ne_zero, fun _ => z_w303.2.2.1⟩))
            · refine xx_iconst (pc := 138) dX10_readOne_138 cc_iconst_2 ?_
              refine xx_goto (pc := 139) 143 dX10_readOne_139 rfl ?_
              refine xx_eqI (y := nI (tk_sg f n (tk_z f n b))) (by rw [show tk_sg f n (tk_z f n b) = 2 from by unfold tk_sg; rw [if_neg (by omega), if_neg (by omega)]]) ?_
              refine xx_istore (L' := [(4, .int (nI (tk_sg f n (tk_z f n b)))), (3, .int (nI (tk_vr f n b))), (2, .int (nI c)), (1, .int (nI o)), (0, ic_pt E 5)]) (pc := 143) dX10_readOne_143 (Nat.le_of_ble_eq_true rfl) rfl ?_
              exact xx_sub [0, 1, 2, 3, 4] rfl (c145 (by unfold tk_sb; rw [if_pos (by omega)]; decide))
          · refine xx_iconst (pc := 125) dX10_readOne_125 cc_iconst_1 ?_
            refine xx_goto (pc := 126) 143 dX10_readOne_126 rfl ?_
            refine xx_eqI (y := nI (tk_sg f n (tk_z f n b))) (by rw [show tk_sg f n (tk_z f n b) = 1 from by unfold tk_sg; rw [if_neg (by omega), if_pos (by omega)]]) ?_
            refine xx_istore (L' := [(4, .int (nI (tk_sg f n (tk_z f n b)))), (3, .int (nI (tk_vr f n b))), (2, .int (nI c)), (1, .int (nI o)), (0, ic_pt E 5)]) (pc := 143) dX10_readOne_143 (Nat.le_of_ble_eq_true rfl) rfl ?_
            exact xx_sub [0, 1, 2, 3, 4] rfl (c145 (by unfold tk_sb; rw [if_pos (by omega)]; decide))
        · refine xx_iconst (pc := 112) dX10_readOne_112 cc_iconst_0 ?_
          refine xx_goto (pc := 113) 143 dX10_readOne_113 rfl ?_
          refine xx_eqI (y := nI (tk_sg f n (tk_z f n b))) (by rw [show tk_sg f n (tk_z f n b) = 0 from by unfold tk_sg; rw [if_pos (by omega)]]) ?_
          refine xx_istore (L' := [(4, .int (nI (tk_sg f n (tk_z f n b)))), (3, .int (nI (tk_vr f n b))), (2, .int (nI c)), (1, .int (nI o)), (0, ic_pt E 5)]) (pc := 143) dX10_readOne_143 (Nat.le_of_ble_eq_true rfl) rfl ?_
          exact xx_sub [0, 1, 2, 3, 4] rfl (c145 (by unfold tk_sb; rw [if_pos (by omega)]; decide))
      · have o1_ : ¬ tk_ov f n b ≠ 0 := fun y => by have := tk_val_le y; rw [← tk_vr_v y] at this; omega
        refine xx_iconst (pc := 97) dX10_readOne_97 cc_iconst_0 ?_
        exact xx_iret (pc := 98) dX10_readOne_98 rfl (rfl) (Nat.le_refl _) (Nat.le_refl _) (ic_ri (by rw [hK, if_neg hc40_, tk_cmp_1 o1_, tk_bd_11]; exact ⟨rfl, u, rfl, x_u, fun y_ => absurd y_ Nat.one_ne_zero, fun _ => z_u.2.2.1⟩))
    · have hc40_ : tk_k f n b = 3 ∧ tk_b f n b = 40 := c301
      have hzb_ := tk_k_z (f := f) z_u.2.1 (by omega)
      refine xx_iload_n (pc := 49) dX10_readOne_49 1 rfl rfl ?_
      refine xx_iconst (pc := 50) dX10_readOne_50 cc_iconst_3 ?_
      refine xx_icmp_ltN (pc := 51) 56 dX10_readOne_51 rfl (by omega) (by omega) (fun c318 => ?_) (fun c318 => by exfalso; omega)
      refine xx_aload_nP (pc := 56) dX10_readOne_56 2 rfl rfl ?_
      refine xx_callV0 (pc := 57) (st := []) sh_5 (cC_next (w := u) z_u) kX10_advance vX10_53_10 dX10_readOne_57 rfl rfl (Nat.le_of_ble_eq_true rfl) (pl_hR (d := (3 * d + 10)) (by omega) (Nat.le_of_ble_eq_true rfl)) ⟨Nat.zero_le _, Nat.zero_le _⟩ (ic_kv (fun h_ qw319 => ?_))
      obtain ⟨w319, rfl, y_w319, z_w319⟩ := qw319
      have x_w319 := x_u.tr y_w319.d
      have g_w319 := g_u.e y_w319
      refine xx_aload_nP (pc := 60) dX10_readOne_60 2 rfl rfl ?_
      refine xx_iload_n (pc := 61) dX10_readOne_61 1 rfl rfl ?_
      refine xx_iconst (pc := 62) dX10_readOne_62 cc_iconst_1 ?_
      refine xx_iaddN (pc := 63) dX10_readOne_63 ?_
      refine xx_callV0 (pc := 64) (st := []) sh_5 (hC z_w319 (by omega) (by rw [g_w319.1]; show 2 * (w 5 5 + 0) ≤ _; omega)) kX10_readCondition vX10_76_10 dX10_readOne_64 rfl rfl (Nat.le_of_ble_eq_true rfl) (pl_hR (d := (3 * d + 10)) (by omega) (Nat.le_of_ble_eq_true rfl)) ⟨Nat.zero_le _, Nat.zero_le _⟩ (ic_ki (fun v322 h_ qw321 => ?_))
      obtain ⟨rfl, w321, rfl, y_w321, zz_w321, ff_w321⟩ := qw321
      have R_w321 := tk_cnd_1R (f := f) d (tk_z f n b) z_w319.2.1
      have x_w321 := x_w319.tr y_w321
      by_cases v_w321 : (tk_cnd f n (tk_one f n d) (tk_z f n b)).1 = 0
      · have z_w321 := (zz_w321 v_w321).1
        have g_w321 := g_w319.tr (zz_w321 v_w321).2
        refine xx_eqI (y := nI 1) (by rw [v_w321]) ?_
        refine xx_if_eqN (pc := 67) 79 dX10_readOne_67 rfl (by omega) (fun c323 => by exfalso; omega) (fun c323 => ?_)
        refine xx_aload_nP (pc := 70) dX10_readOne_70 2 rfl rfl ?_
        refine xx_bipush (pc := 71) dX10_readOne_71 cc_bipush_41 ?_
        refine xx_callV0 (pc := 73) (st := []) sh_5 (cC_isByte (w := w321) (c := 41) z_w321 (by decide)) kX10_isByte vX10_83_10 dX10_readOne_73 rfl rfl (Nat.le_of_ble_eq_true rfl) (pl_hR (d := (3 * d + 10)) (by omega) (Nat.le_of_ble_eq_true rfl)) ⟨Nat.zero_le _, Nat.zero_le _⟩ (ic_ke ?_)
        refine xx_if_neB (pc := 76) 81 dX10_readOne_76 rfl (fun c324 => ?_) (fun c324 => ?_)
        · have c41_ : tk_k f n ((tk_cnd f n (tk_one f n d) (tk_z f n b)).2.1) = 3 ∧ tk_b f n ((tk_cnd f n (tk_one f n d) (tk_z f n b)).2.1) = 41 := c324
          have hz3_ := tk_k_z (f := f) (a := (tk_cnd f n (tk_one f n d) (tk_z f n b)).2.1) R_w321.2.2.1 (by omega)
          have hH_ : tk_op f n (tk_one f n d) b = (0, tk_z f n ((tk_cnd f n (tk_one f n d) (tk_z f n b)).2.1), (tk_cnd f n (tk_one f n d) (tk_z f n b)).2.2) := by unfold tk_op; rw [tk_bd_0 v_w321]; simp only [ic_bo_t c41_]; rw [tk_nd_0 (by decide)]; simp
          refine xx_aload_nP (pc := 81) dX10_readOne_81 2 rfl rfl ?_
          refine xx_callV0 (pc := 82) (st := []) sh_5 (cC_next (w := w321) z_w321) kX10_advance vX10_53_10 dX10_readOne_82 rfl rfl (Nat.le_of_ble_eq_true rfl) (pl_hR (d := (3 * d + 10)) (by omega) (Nat.le_of_ble_eq_true rfl)) ⟨Nat.zero_le _, Nat.zero_le _⟩ (ic_kv (fun h_ qw325 => ?_))
          obtain ⟨w325, rfl, y_w325, z_w325⟩ := qw325
          have x_w325 := x_w321.tr y_w325.d
          have g_w325 := g_w321.e y_w325
          refine xx_goto (pc := 85) 193 dX10_readOne_85 rfl ?_
          exact xx_sub [0, 1, 2] rfl (c193 q c (tk_z f n ((tk_cnd f n (tk_one f n d) (tk_z f n b)).2.1)) ((tk_cnd f n (tk_one f n d) (tk_z f n b)).2.2) w325 z_w325 x_w325 (by simpa using g_w325) (by have := (R_w321.2.2.2 v_w321).1; have := R_w321.2.2.1; omega) hc (by rw [hK, if_pos hc40_, hH_]))
        · have c41_ : ¬ (tk_k f n ((tk_cnd f n (tk_one f n d) (tk_z f n b)).2.1) = 3 ∧ tk_b f n ((tk_cnd f n (tk_one f n d) (tk_z f n b)).2.1) = 41) := c324
          have hH_ : tk_op f n (tk_one f n d) b = (1, (tk_cnd f n (tk_one f n d) (tk_z f n b)).2.1, (tk_cnd f n (tk_one f n d) (tk_z f n b)).2.2 ++ []) := by unfold tk_op; rw [tk_bd_0 v_w321]; simp only [ic_bo_f c41_]; rw [tk_nd_1 rfl]
          refine xx_iconst (pc := 79) dX10_readOne_79 cc_iconst_0 ?_
          exact xx_iret (pc := 80) dX10_readOne_80 rfl (rfl) (Nat.le_refl _) (Nat.le_refl _) (ic_ri (by rw [hK, if_pos hc40_, hH_, tk_bd_11]; exact ⟨rfl, w321, rfl, x_w321, fun y_ => absurd y_ Nat.one_ne_zero, fun _ => z_w321.2.2.1⟩))
      · have v1_w321 : (tk_cnd f n (tk_one f n d) (tk_z f n b)).1 = 1 := by have := R_w321.1; omega
        have f_w321 := ff_w321 v1_w321
        refine xx_eqI (y := nI 0) (by rw [v1_w321]) ?_
        have hH_ : tk_op f n (tk_one f n d) b = (1, (tk_cnd f n (tk_one f n d) (tk_z f n b)).2.1, (tk_cnd f n (tk_one f n d) (tk_z f n b)).2.2) := by unfold tk_op; rw [tk_bd_1 v1_w321]; exact tk_P_1 v1_w321
        refine xx_if_eqN (pc := 67) 79 dX10_readOne_67 rfl (by omega) (fun c327 => ?_) (fun c327 => by exfalso; omega)
        refine xx_iconst (pc := 79) dX10_readOne_79 cc_iconst_0 ?_
        exact xx_iret (pc := 80) dX10_readOne_80 rfl (rfl) (Nat.le_refl _) (Nat.le_refl _) (ic_ri (by rw [hK, if_pos hc40_, hH_, tk_bd_11]; exact ⟨rfl, w321, rfl, x_w321, fun y_ => absurd y_ Nat.one_ne_zero, fun _ => f_w321⟩))
  have lp : ∀ (n_ : Nat) (i c b : Nat) (u : ic_w), Ty u f n b → Dw w u → Dk w u [] → tk_nt f n 200 a = ((tk_nt f n (200 - i) b).1, i + (tk_nt f n (200 - i) b).2) → i ≤ 200 → c = i % 2 → a ≤ b → 200 - i < n_ → xx l E (ic_fr E mX10_readOne (3 * d + 10) 0 0 False SHs (cs_Q w f n (tk_one f n (d + 1) a))) (0, 0) 4 [(3, .int (nI i)), (2, .int (nI c)), (1, .int (nI o)), (0, ic_pt E 5)] [] SHs (hn u) := by
    intro n_
    induction n_ with
    | zero => intro i c b u z_u x_u g_u hN hi hc hab hm_; exact absurd hm_ (Nat.not_lt_zero _)
    | succ n_ ih_ =>
      intro i c b u z_u x_u g_u hN hi hc hab hm_
      refine xx_iload_n (pc := 4) dX10_readOne_4 0 rfl rfl ?_
      refine xx_sipush (pc := 5) dX10_readOne_5 cc_sipush_200 ?_
      refine xx_icmp_geN (pc := 8) 40 dX10_readOne_8 rfl (by omega) (by omega) (fun c101 => ?_) (fun c101 => ?_)
      · have hN3_ := hN
        rw [show 200 - i = 0 by omega] at hN3_
        have hN2 : tk_nt f n 200 a = (b, i) := hN3_
        have hK : tk_one f n (d + 1) a = tk_bd (if tk_k f n b = 3 ∧ tk_b f n b = 40 then tk_op f n (tk_one f n d) b else tk_cmp f n b) (fun e => (0, e, if i % 2 = 1 then [(3, 0, 0)] else [])) := tk_on_eq hN2
        exact xx_sub [1, 2, 3] rfl (c40 i c b u z_u x_u g_u hc hab hK)
      · obtain ⟨k, hk_⟩ : ∃ k, 200 - i = k + 1 := ⟨199 - i, by omega⟩
        have hk2_ : 200 - (i + 1) = k := by omega
        refine xx_aload_nP (pc := 11) dX10_readOne_11 3 rfl rfl ?_
        refine xx_ldcS (pc := 12) 7 dX10_readOne_12 rfl rfl ?_
        refine xx_callV0 (pc := 14) (st := []) sh_5 (cC_isNamed (w := u) (i := 7) (wl := [110, 111, 116]) hP (by decide) (by decide +kernel) z_u) kX10_isNamed vX10_72_10 dX10_readOne_14 rfl rfl (Nat.le_of_ble_eq_true rfl) (pl_hR (d := (3 * d + 10)) (by omega) (Nat.le_of_ble_eq_true rfl)) ⟨Nat.zero_le _, Nat.zero_le _⟩ (ic_ke ?_)
        refine xx_if_eqB (pc := 17) 40 dX10_readOne_17 rfl (fun c102 => ?_) (fun c102 => ?_)
        · have hN2 : tk_nt f n 200 a = (b, i) := by rw [hN, tk_nt_f c102]; rfl
          have hK : tk_one f n (d + 1) a = tk_bd (if tk_k f n b = 3 ∧ tk_b f n b = 40 then tk_op f n (tk_one f n d) b else tk_cmp f n b) (fun e => (0, e, if i % 2 = 1 then [(3, 0, 0)] else [])) := tk_on_eq hN2
          exact xx_sub [1, 2, 3] rfl (c40 i c b u z_u x_u g_u hc hab hK)
        · have hi_ := c102
          have hz_ := tk_i_z z_u.2.1 hi_
          have hz2_ : b + 3 ≤ tk_z f n b := hz_.1
          refine xx_iload_n (pc := 20) dX10_readOne_20 1 rfl rfl ?_
          refine xx_if_neN (pc := 21) 28 dX10_readOne_21 rfl (by omega) (fun c103 => ?_) (fun c103 => ?_)
          · refine xx_iconst (pc := 28) dX10_readOne_28 cc_iconst_0 ?_
            refine xx_istore_n (L' := [(2, .int (nI 0)), (3, .int (nI i)), (1, .int (nI o)), (0, ic_pt E 5)]) (pc := 29) dX10_readOne_29 rfl (Nat.le_of_ble_eq_true rfl) rfl ?_
            refine xx_aload_nP (pc := 30) dX10_readOne_30 3 rfl rfl ?_
            refine xx_callV0 (pc := 31) (st := []) sh_5 (cC_next (w := u) z_u) kX10_advance vX10_53_10 dX10_readOne_31 rfl rfl (Nat.le_of_ble_eq_true rfl) (pl_hR (d := (3 * d + 10)) (by omega) (Nat.le_of_ble_eq_true rfl)) ⟨Nat.zero_le _, Nat.zero_le _⟩ (ic_kv (fun h_ qw104 => ?_))
            obtain ⟨w104, rfl, y_w104, z_w104⟩ := qw104
            have x_w104 := x_u.tr y_w104.d
            have g_w104 := g_u.e y_w104
            refine xx_iincN (L' := [(3, .int (nI (i + 1))), (2, .int (nI 0)), (1, .int (nI o)), (0, ic_pt E 5)]) (pc := 34) dX10_readOne_34 1 rfl cc_iconst_1 (Nat.le_of_ble_eq_true rfl) rfl ?_
            refine xx_goto (pc := 37) 4 dX10_readOne_37 rfl ?_
            exact xx_sub [0, 1, 2, 3] rfl (ih_ (i + 1) 0 (tk_z f n b) w104 z_w104 x_w104 g_w104 (by rw [hN, hk_, hk2_, tk_nt_t hi_]; simp only [Prod.mk.injEq, true_and]; omega) (by omega) (by omega) (by omega) (by omega))
          · refine xx_iconst (pc := 24) dX10_readOne_24 cc_iconst_1 ?_
            refine xx_goto (pc := 25) 29 dX10_readOne_25 rfl ?_
            refine xx_istore_n (L' := [(2, .int (nI 1)), (3, .int (nI i)), (1, .int (nI o)), (0, ic_pt E 5)]) (pc := 29) dX10_readOne_29 rfl (Nat.le_of_ble_eq_true rfl) rfl ?_
            refine xx_aload_nP (pc := 30) dX10_readOne_30 3 rfl rfl ?_
            refine xx_callV0 (pc := 31) (st := []) sh_5 (cC_next (w := u) z_u) kX10_advance vX10_53_10 dX10_readOne_31 rfl rfl (Nat.le_of_ble_eq_true rfl) (pl_hR (d := (3 * d + 10)) (by omega) (Nat.le_of_ble_eq_true rfl)) ⟨Nat.zero_le _, Nat.zero_le _⟩ (ic_kv (fun h_ qw106 => ?_))
            obtain ⟨w106, rfl, y_w106, z_w106⟩ := qw106
            have x_w106 := x_u.tr y_w106.d
            have g_w106 := g_u.e y_w106
            refine xx_iincN (L' := [(3, .int (nI (i + 1))), (2, .int (nI 1)), (1, .int (nI o)), (0, ic_pt E 5)]) (pc := 34) dX10_readOne_34 1 rfl cc_iconst_1 (Nat.le_of_ble_eq_true rfl) rfl ?_
            refine xx_goto (pc := 37) 4 dX10_readOne_37 rfl ?_
            exact xx_sub [0, 1, 2, 3] rfl (ih_ (i + 1) 1 (tk_z f n b) w106 z_w106 x_w106 g_w106 (by rw [hN, hk_, hk2_, tk_nt_t hi_]; simp only [Prod.mk.injEq, true_and]; omega) (by omega) (by omega) (by omega) (by omega))
  refine xx_iconst (pc := 0) dX10_readOne_0 cc_iconst_0 ?_
  refine xx_istore_n (L' := [(2, .int (nI 0)), (0, ic_pt E 5), (1, .int (nI o))]) (pc := 1) dX10_readOne_1 rfl (Nat.le_of_ble_eq_true rfl) rfl ?_
  refine xx_iconst (pc := 2) dX10_readOne_2 cc_iconst_0 ?_
  refine xx_istore_n (L' := [(3, .int (nI 0)), (2, .int (nI 0)), (0, ic_pt E 5), (1, .int (nI o))]) (pc := 3) dX10_readOne_3 rfl (Nat.le_of_ble_eq_true rfl) rfl ?_
  exact xx_sub [0, 1, 3, 2] rfl (lp 201 0 0 a w z_w x_w g_w (by rw [Nat.zero_add]) (by omega) (by omega) (by omega) (by omega))

theorem cC_conds {l : Launch} {E : ic_E} (hP : Value.category E.2.2.2.2.2.2 = 1) : ∀ d, cs_PC l E d := by
  intro d
  induction d with
  | zero =>
    have h0 : cs_PO l E 0 := by intro w f n a o z ho hb; exact cC_readOne0 hP z ho hb
    have h1 : cs_PA l E 0 := by intro w f n a o z ho hb; exact cC_readAll hP h0 z ho hb
    intro w f n a o z ho hb
    exact cC_readCond hP h1 z ho hb
  | succ d ih =>
    have h0 : cs_PO l E (d + 1) := by intro w f n a o z ho hb; exact cC_readOneS hP ih z ho hb
    have h1 : cs_PA l E (d + 1) := by intro w f n a o z ho hb; exact cC_readAll hP h0 z ho hb
    intro w f n a o z ho hb
    exact cC_readCond hP h1 z ho hb
