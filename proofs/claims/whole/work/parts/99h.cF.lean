set_option maxHeartbeats 4000000 in
set_option maxRecDepth 100000 in
theorem cC_rulD {l : Launch} {E : ic_E} {w : ic_w}  : ic_C l E mX10_become 1 0 0 False [ic_pt E 49, ic_pt E 5] SHs (hn w) SHs (ic_qv (fun h_ => ∃ w2, h_ = hn w2 ∧ (∀ a, a < 49 ∨ 53 < a → w2 a = w a) ∧ Rk w2 49 w 5)) := by
  refine ic_intro (by decide +kernel) (Nat.le_of_ble_eq_true rfl) ?_
  show xx l E _ _ 0 [(0, ic_pt E 49), (1, ic_pt E 5)] _ _ _
  refine xx_aload_nP (pc := 0) dX10_become_0 0 rfl rfl ?_
  refine xx_aload_nP (pc := 1) dX10_become_1 1 rfl rfl ?_
  refine xx_getN (pc := 2) dX10_become_2 sh_5 fX10_28_10 rfl ?_
  refine xx_putN (pc := 5) dX10_become_5 sh_49 fX10_28_10 rfl rfl ?_
  refine xx_nw (fun w1 ew1 => ?_)
  have fr_w1 : ∀ a, a ≠ 49 → w1 a = w a := fun a h => by rw [ew1, wu_row _ _ _ h]
  have fk_w1 : ∀ j, j ≠ 0 → w1 49 j = w 49 j := fun j h => by rw [ew1, wu_k _ _ _ _ h]
  have cv_w1 : w1 49 0 = w 5 0 := by rw [ew1, wu_s]
  refine xx_aload_nP (pc := 8) dX10_become_8 0 rfl rfl ?_
  refine xx_aload_nP (pc := 9) dX10_become_9 1 rfl rfl ?_
  refine xx_getN (pc := 10) dX10_become_10 sh_5 fX10_32_10 rfl ?_
  refine xx_putN (pc := 13) dX10_become_13 sh_49 fX10_32_10 rfl rfl ?_
  refine xx_nw (fun w2 ew2 => ?_)
  have fr_w2 : ∀ a, a ≠ 49 → w2 a = w1 a := fun a h => by rw [ew2, wu_row _ _ _ h]
  have fk_w2 : ∀ j, j ≠ 5 → w2 49 j = w1 49 j := fun j h => by rw [ew2, wu_k _ _ _ _ h]
  have cv_w2 : w2 49 5 = w1 5 5 := by rw [ew2, wu_s]
  refine xx_aload_nP (pc := 16) dX10_become_16 1 rfl rfl ?_
  refine xx_getR (pc := 17) 6 dX10_become_17 sh_5 fX10_11_10 rfl rfl (by decide) ?_
  refine xx_iconst (pc := 20) dX10_become_20 cc_iconst_0 ?_
  refine xx_aload_nP (pc := 21) dX10_become_21 0 rfl rfl ?_
  refine xx_getR (pc := 22) 50 dX10_become_22 sh_49 fX10_11_10 rfl rfl (by decide) ?_
  refine xx_iconst (pc := 25) dX10_become_25 cc_iconst_0 ?_
  refine xx_bipush (pc := 26) dX10_become_26 cc_bipush_8 ?_
  refine xx_copyN (pc := 28) (st := []) rfl dX10_become_28 aX10_35 sh_6 sh_50 (by omega) (by omega) (by decide) ⟨Nat.le_of_ble_eq_true rfl, Nat.le_of_ble_eq_true rfl⟩ ?_
  refine xx_nw (fun w3 ew3 => ?_)
  have fr_w3 : ∀ a, a ≠ 50 → w3 a = w2 a := fun a h => by rw [ew3, wr_n _ h]
  have cp_w3 : ∀ j, j < 8 → w3 50 j = w2 6 j := fun j hj => by rw [ew3, wr_s, cp_at hj]
  refine xx_aload_nP (pc := 31) dX10_become_31 1 rfl rfl ?_
  refine xx_getR (pc := 32) 7 dX10_become_32 sh_5 fX10_15_10 rfl rfl (by decide) ?_
  refine xx_iconst (pc := 35) dX10_become_35 cc_iconst_0 ?_
  refine xx_aload_nP (pc := 36) dX10_become_36 0 rfl rfl ?_
  refine xx_getR (pc := 37) 51 dX10_become_37 sh_49 fX10_15_10 rfl rfl (by decide) ?_
  refine xx_iconst (pc := 40) dX10_become_40 cc_iconst_0 ?_
  refine xx_bipush (pc := 41) dX10_become_41 cc_bipush_8 ?_
  refine xx_copyN (pc := 43) (st := []) rfl dX10_become_43 aX10_35 sh_7 sh_51 (by omega) (by omega) (by decide) ⟨Nat.le_of_ble_eq_true rfl, Nat.le_of_ble_eq_true rfl⟩ ?_
  refine xx_nw (fun w4 ew4 => ?_)
  have fr_w4 : ∀ a, a ≠ 51 → w4 a = w3 a := fun a h => by rw [ew4, wr_n _ h]
  have cp_w4 : ∀ j, j < 8 → w4 51 j = w3 7 j := fun j hj => by rw [ew4, wr_s, cp_at hj]
  refine xx_aload_nP (pc := 46) dX10_become_46 1 rfl rfl ?_
  refine xx_getR (pc := 47) 8 dX10_become_47 sh_5 fX10_18_10 rfl rfl (by decide) ?_
  refine xx_iconst (pc := 50) dX10_become_50 cc_iconst_0 ?_
  refine xx_aload_nP (pc := 51) dX10_become_51 0 rfl rfl ?_
  refine xx_getR (pc := 52) 52 dX10_become_52 sh_49 fX10_18_10 rfl rfl (by decide) ?_
  refine xx_iconst (pc := 55) dX10_become_55 cc_iconst_0 ?_
  refine xx_bipush (pc := 56) dX10_become_56 cc_bipush_8 ?_
  refine xx_copyN (pc := 58) (st := []) rfl dX10_become_58 aX10_35 sh_8 sh_52 (by omega) (by omega) (by decide) ⟨Nat.le_of_ble_eq_true rfl, Nat.le_of_ble_eq_true rfl⟩ ?_
  refine xx_nw (fun w5 ew5 => ?_)
  have fr_w5 : ∀ a, a ≠ 52 → w5 a = w4 a := fun a h => by rw [ew5, wr_n _ h]
  have cp_w5 : ∀ j, j < 8 → w5 52 j = w4 8 j := fun j hj => by rw [ew5, wr_s, cp_at hj]
  refine xx_aload_nP (pc := 61) dX10_become_61 1 rfl rfl ?_
  refine xx_getR (pc := 62) 9 dX10_become_62 sh_5 fX10_21_10 rfl rfl (by decide) ?_
  refine xx_iconst (pc := 65) dX10_become_65 cc_iconst_0 ?_
  refine xx_aload_nP (pc := 66) dX10_become_66 0 rfl rfl ?_
  refine xx_getR (pc := 67) 53 dX10_become_67 sh_49 fX10_21_10 rfl rfl (by decide) ?_
  refine xx_iconst (pc := 70) dX10_become_70 cc_iconst_0 ?_
  refine xx_sipush (pc := 71) dX10_become_71 cc_sipush_200 ?_
  refine xx_copyN (pc := 74) (st := []) rfl dX10_become_74 aX10_35 sh_9 sh_53 (by omega) (by omega) (by decide) ⟨Nat.le_of_ble_eq_true rfl, Nat.le_of_ble_eq_true rfl⟩ ?_
  refine xx_nw (fun w6 ew6 => ?_)
  have fr_w6 : ∀ a, a ≠ 53 → w6 a = w5 a := fun a h => by rw [ew6, wr_n _ h]
  have cp_w6 : ∀ j, j < 200 → w6 53 j = w5 9 j := fun j hj => by rw [ew6, wr_s, cp_at hj]
  exact xx_vret (pc := 77) dX10_become_77 rfl (Nat.le_refl _) (Nat.le_refl _) (ic_rv0 ⟨w6, rfl, fun a ha => by rw [fr_w6 _ (by omega), fr_w5 _ (by omega), fr_w4 _ (by omega), fr_w3 _ (by omega), fr_w2 _ (by omega), fr_w1 _ (by omega)], ⟨(show w6 49 0 = w 5 0 by rw [fr_w6 _ (by omega), fr_w5 _ (by omega), fr_w4 _ (by omega), fr_w3 _ (by omega), fk_w2 _ (by omega), cv_w1]), fun j hj => ⟨(show w6 50 j = w 6 j by rw [fr_w6 _ (by omega), fr_w5 _ (by omega), fr_w4 _ (by omega), cp_w3 _ hj, fr_w2 _ (by omega), fr_w1 _ (by omega)]), (show w6 51 j = w 7 j by rw [fr_w6 _ (by omega), fr_w5 _ (by omega), cp_w4 _ hj, fr_w3 _ (by omega), fr_w2 _ (by omega), fr_w1 _ (by omega)]), (show w6 52 j = w 8 j by rw [fr_w6 _ (by omega), cp_w5 _ hj, fr_w4 _ (by omega), fr_w3 _ (by omega), fr_w2 _ (by omega), fr_w1 _ (by omega)])⟩, fun j hj => (show w6 53 j = w 9 j by rw [cp_w6 _ hj, fr_w5 _ (by omega), fr_w4 _ (by omega), fr_w3 _ (by omega), fr_w2 _ (by omega), fr_w1 _ (by omega)])⟩⟩)

set_option maxHeartbeats 4000000 in
set_option maxRecDepth 100000 in
theorem cC_read {l : Launch} {E : ic_E} {w : ic_w} (hP : Value.category E.2.2.2.2.2.2 = 1) {f : Nat → Nat} {n : Nat} (s : Nat → Nat) (hn2 : n ≤ 200) (hT : ∀ j, j < n → w 4 j = mo_by (f j) ∧ f j ≤ 255) : ic_C l E mX10_read 21 0 0 False [ic_pt E 5, ic_pt E 4, .int (nI n)] SHs (hn w) SHs (ic_qi (fun v_ h_ => v_ = nI (if (tk_r0 f n s).1 = 0 then 4294967295 else (tk_r0 f n s).2.1) ∧ ∃ w2, h_ = hn w2 ∧ (∀ a, a < 5 ∨ 9 < a → w2 a = w a) ∧ ((tk_r0 f n s).1 = 0 → Cd w2 (tk_r0 f n s).2.2))) := by
  refine ic_intro (by decide +kernel) (Nat.le_of_ble_eq_true rfl) ?_
  show xx l E _ _ 0 [(0, ic_pt E 5), (1, ic_pt E 4), (2, .int (nI n))] _ _ _
  have lp : ∀ (n_ : Nat) (i a : Nat) (q : Nat → Nat) (u : ic_w), Ty u f n a → (∀ a, a < 5 ∨ 9 < a → u a = w a) → Cd u q → tk_r0 f n s = tk_ru f n (201 - i) q a → q 5 = i ∧ i ≤ 8 → 2 * q 7 ≤ a → 9 - i < n_ → xx l E (ic_fr E mX10_read 21 0 0 False SHs (ic_qi (fun v_ h_ => v_ = nI (if (tk_r0 f n s).1 = 0 then 4294967295 else (tk_r0 f n s).2.1) ∧ ∃ w2, h_ = hn w2 ∧ (∀ a, a < 5 ∨ 9 < a → w2 a = w a) ∧ ((tk_r0 f n s).1 = 0 → Cd w2 (tk_r0 f n s).2.2)))) (0, 0) 36 [(3, .int (nI i)), (0, ic_pt E 5)] [] SHs (hn u) := by
    intro n_
    induction n_ with
    | zero => intro i a q u z_u x_u hC hl hi hb hm_; exact absurd hm_ (Nat.not_lt_zero _)
    | succ n_ ih_ =>
      intro i a q u z_u x_u hC hl hi hb hm_
      obtain ⟨k, hk_⟩ : ∃ k, 201 - i = k + 1 := ⟨200 - i, by omega⟩
      have hk2_ : 201 - (i + 1) = k := by omega
      refine xx_iload_n (pc := 36) dX10_read_36 0 rfl rfl ?_
      refine xx_bipush (pc := 37) dX10_read_37 cc_bipush_8 ?_
      refine xx_icmp_gtN (pc := 39) 76 dX10_read_39 rfl (by omega) (by omega) (fun c201 => by exfalso; omega) (fun c201 => ?_)
      refine xx_aload_nP (pc := 42) dX10_read_42 1 rfl rfl ?_
      refine xx_getN (pc := 43) dX10_read_43 sh_5 fX10_56_10 rfl ?_
      refine xx_eqI (y := nI (tk_k f n a)) (by rw [z_u.2.2.2.2]) ?_
      refine xx_if_eqN (pc := 46) 76 dX10_read_46 rfl (by have := (tk_k_le f n a).1; omega) (fun c202 => ?_) (fun c202 => ?_)
      · have hR : tk_r0 f n s = (0, a, q) := by rw [hl, hk_, tk_ru_0 (by omega)]
        refine xx_iconst (pc := 76) dX10_read_76 cc_iconst_m1 ?_
        exact xx_iret (pc := 77) dX10_read_77 rfl (rfl) (Nat.le_refl _) (Nat.le_refl _) (ic_ri (by rw [hR]; exact ⟨rfl, u, rfl, x_u, fun _ => hC⟩))
      · have hk0_ : tk_k f n a ≠ 0 := by omega
        refine xx_aload_nP (pc := 49) dX10_read_49 1 rfl rfl ?_
        refine xx_getN (pc := 50) dX10_read_50 sh_5 fX10_28_10 rfl ?_
        refine xx_eqI (y := nI (q 5)) (by rw [hC.1.1]) ?_
        refine xx_bipush (pc := 53) dX10_read_53 cc_bipush_8 ?_
        refine xx_icmp_eqN (pc := 55) 65 dX10_read_55 rfl (by omega) (by omega) (fun c203 => ?_) (fun c203 => ?_)
        · have hno_ : tk_rh f n (q 5) a = (1, a, []) := tk_rk_no (by omega)
          have hR : tk_r0 f n s = (1, a, q) := by rw [hl, hk_, tk_ru_1 hk0_ (by rw [hno_]; exact Nat.one_ne_zero), hno_]
          refine xx_aload_nP (pc := 65) dX10_read_65 1 rfl rfl ?_
          refine xx_getN (pc := 66) dX10_read_66 sh_5 fX10_63_10 rfl ?_
          refine xx_eqI (y := nI (a)) (by rw [z_u.2.2.1]) ?_
          exact xx_iret (pc := 69) dX10_read_69 rfl (rfl) (Nat.le_refl _) (Nat.le_refl _) (ic_ri (by rw [hR]; exact ⟨rfl, u, rfl, x_u, fun y_ => absurd y_ Nat.one_ne_zero⟩))
        · refine xx_aload_nP (pc := 58) dX10_read_58 1 rfl rfl ?_
          refine xx_callV0 (pc := 59) (st := []) sh_5 (cC_readRule (w := u) hP z_u hC (by omega) hb) kX10_readRule vX10_59_10 dX10_read_59 rfl rfl (Nat.le_of_ble_eq_true rfl) (pl_hR (d := 21) (by omega) (Nat.le_of_ble_eq_true rfl)) ⟨Nat.zero_le _, Nat.zero_le _⟩ (ic_ki (fun v205 h_ qw204 => ?_))
          obtain ⟨rfl, w204, rfl, y_w204, zz_w204, ff_w204⟩ := qw204
          have x_w204 : ∀ a, a < 5 ∨ 9 < a → w204 a = w a := fun b hb_ => (y_w204.1 b hb_).trans (x_u b hb_)
          have R_ := tk_rh_R (f := f) (c := q 5) z_u.2.1
          by_cases v_ : (tk_rh f n (q 5) a).1 = 0
          · have z_w204 := (zz_w204 v_).1
            have C_w204 := (zz_w204 v_).2
            have R4_ := R_.2.2.2 v_
            refine xx_eqI (y := nI 1) (by rw [v_]) ?_
            refine xx_if_neN (pc := 62) 70 dX10_read_62 rfl (by omega) (fun c206 => ?_) (fun c206 => by exfalso; omega)
            refine xx_iincN (L' := [(3, .int (nI (i + 1))), (0, ic_pt E 5)]) (pc := 70) dX10_read_70 0 rfl cc_iconst_1 (Nat.le_of_ble_eq_true rfl) rfl ?_
            refine xx_goto (pc := 73) 36 dX10_read_73 rfl ?_
            exact xx_sub [0, 1] rfl (ih_ (i + 1) ((tk_rh f n (q 5) a).2.1) (tk_rr q (tk_kd f n (tk_k f n a) a (tk_e f n a)) (tk_dd f n (tk_k f n ((tk_rb f n a).2.1)) ((tk_rb f n a).2.1) (tk_e f n ((tk_rb f n a).2.1))) (tk_rb f n a).2.2) w204 z_w204 x_w204 C_w204 (by rw [hl, hk_, hk2_, tk_ru_s hk0_ v_]) ⟨by rw [tk_rr_5]; omega, by omega⟩ (by rw [tk_rr_7]; have := R4_.2.2.2.2.2; omega) (by omega))
          · have v1_ : (tk_rh f n (q 5) a).1 = 1 := by have := R_.1; omega
            have f_ := (ff_w204 v1_).1
            have hR : tk_r0 f n s = (1, (tk_rh f n (q 5) a).2.1, q) := by rw [hl, hk_, tk_ru_1 hk0_ v_]
            refine xx_eqI (y := nI 0) (by rw [v1_]) ?_
            refine xx_if_neN (pc := 62) 70 dX10_read_62 rfl (by omega) (fun c207 => by exfalso; omega) (fun c207 => ?_)
            refine xx_aload_nP (pc := 65) dX10_read_65 1 rfl rfl ?_
            refine xx_getN (pc := 66) dX10_read_66 sh_5 fX10_63_10 rfl ?_
            refine xx_eqI (y := nI ((tk_rh f n (q 5) a).2.1)) (by rw [f_]) ?_
            exact xx_iret (pc := 69) dX10_read_69 rfl (rfl) (Nat.le_refl _) (Nat.le_refl _) (ic_ri (by rw [hR]; exact ⟨rfl, w204, rfl, x_w204, fun y_ => absurd y_ Nat.one_ne_zero⟩))
  refine xx_aload_nP (pc := 0) dX10_read_0 0 rfl rfl ?_
  refine xx_aload_nP (pc := 1) dX10_read_1 1 rfl rfl ?_
  refine xx_putDN 5 (pc := 2) dX10_read_2 sh_5 fX10_24_10 rfl rfl rfl (rfl) (by omega) rfl rfl ?_
  refine xx_nw (fun w1 ew1 => ?_)
  have rw1 : ∀ b, b ≠ 5 → w1 b = w b := fun b h => by rw [ew1, wu_row _ _ _ h]
  refine xx_aload_nP (pc := 5) dX10_read_5 0 rfl rfl ?_
  refine xx_iload_n (pc := 6) dX10_read_6 2 rfl rfl ?_
  refine xx_aload_nP (pc := 7) dX10_read_7 1 rfl rfl ?_
  refine xx_alen (pc := 8) dX10_read_8 sh_4 (by decide) (by decide) ?_
  refine xx_callS0 (pc := 9) (st := [ic_pt E 5]) (cC_min (w := w1) (a := n) (b := 200) (by omega) (by omega)) kJ9_min_7cf53 sX10_41 dX10_read_9 rfl rfl (Nat.le_of_ble_eq_true rfl) (pl_hR (d := 21) (by omega) (Nat.le_of_ble_eq_true rfl)) ⟨Nat.zero_le _, Nat.zero_le _⟩ (ic_ke ?_)
  refine xx_eqI (y := nI (n)) (by rw [Nat.min_eq_left (by omega)]) ?_
  refine xx_putN (pc := 12) dX10_read_12 sh_5 fX10_47_10 rfl rfl ?_
  refine xx_nw (fun w2 ew2 => ?_)
  have rw2 : ∀ b, b ≠ 5 → w2 b = w1 b := fun b h => by rw [ew2, wu_row _ _ _ h]
  refine xx_aload_nP (pc := 15) dX10_read_15 0 rfl rfl ?_
  refine xx_iconst (pc := 16) dX10_read_16 cc_iconst_0 ?_
  refine xx_putN (pc := 17) dX10_read_17 sh_5 fX10_28_10 rfl rfl ?_
  refine xx_nw (fun w3 ew3 => ?_)
  have rw3 : ∀ b, b ≠ 5 → w3 b = w2 b := fun b h => by rw [ew3, wu_row _ _ _ h]
  refine xx_aload_nP (pc := 20) dX10_read_20 0 rfl rfl ?_
  refine xx_iconst (pc := 21) dX10_read_21 cc_iconst_0 ?_
  refine xx_putN (pc := 22) dX10_read_22 sh_5 fX10_32_10 rfl rfl ?_
  refine xx_nw (fun w4 ew4 => ?_)
  have rw4 : ∀ b, b ≠ 5 → w4 b = w3 b := fun b h => by rw [ew4, wu_row _ _ _ h]
  refine xx_aload_nP (pc := 25) dX10_read_25 0 rfl rfl ?_
  refine xx_iconst (pc := 26) dX10_read_26 cc_iconst_0 ?_
  refine xx_putN (pc := 27) dX10_read_27 sh_5 fX10_50_10 rfl rfl ?_
  refine xx_nw (fun w5 ew5 => ?_)
  have rw5 : ∀ b, b ≠ 5 → w5 b = w4 b := fun b h => by rw [ew5, wu_row _ _ _ h]
  refine xx_aload_nP (pc := 30) dX10_read_30 0 rfl rfl ?_
  have h9_ : w5 5 9 = 0 := by rw [ew5, wu_s]
  have hX_ : Cx w5 f n := ⟨by rw [ew5, wu_k _ _ _ _ (by decide), ew4, wu_k _ _ _ _ (by decide), ew3, wu_k _ _ _ _ (by decide), ew2, wu_k _ _ _ _ (by decide), ew1, wu_s], by rw [ew5, wu_k _ _ _ _ (by decide), ew4, wu_k _ _ _ _ (by decide), ew3, wu_k _ _ _ _ (by decide), ew2, wu_s], hn2, fun j hj => by rw [rw5 _ (by decide), rw4 _ (by decide), rw3 _ (by decide), rw2 _ (by decide), rw1 _ (by decide)]; exact hT j hj⟩
  refine xx_callV0 (pc := 31) (st := []) sh_5 (cC_advance (w := w5) hX_ (by omega)) kX10_advance vX10_53_10 dX10_read_31 rfl rfl (Nat.le_of_ble_eq_true rfl) (pl_hR (d := 21) (by omega) (Nat.le_of_ble_eq_true rfl)) ⟨Nat.zero_le _, Nat.zero_le _⟩ (ic_kv (fun h_ qw6 => ?_))
  obtain ⟨w6, rfl, ⟨r_w6, k_w6⟩, e8_, e9_, e10_⟩ := qw6
  rw [h9_] at e8_ e9_ e10_
  have z_w6 : Ty w6 f n (tk_a f n 0) := ⟨hX_.of (k_w6 6 (by decide) (by decide) (by decide)) (k_w6 7 (by decide) (by decide) (by decide)) (r_w6 4 (by decide)), by have := tk_s_le (f := f) (n - 0) 0; unfold tk_a; omega, e8_, e9_, e10_⟩
  have x_w6 : ∀ a, a < 5 ∨ 9 < a → w6 a = w a := fun b hb_ => by rw [r_w6 b (by omega), rw5 b (by omega), rw4 b (by omega), rw3 b (by omega), rw2 b (by omega), rw1 b (by omega)]
  have C_w6 : Cd w6 (fu (fu s 5 0) 7 0) := ⟨⟨by rw [k_w6 0 (by decide) (by decide) (by decide), ew5, wu_k _ _ _ _ (by decide), ew4, wu_k _ _ _ _ (by decide), ew3, wu_s]; rfl, fun i hi => absurd hi (Nat.not_lt_zero i), fun k hk => absurd hk (Nat.not_lt_zero k)⟩, by rw [k_w6 5 (by decide) (by decide) (by decide), ew5, wu_k _ _ _ _ (by decide), ew4, wu_s]; rfl, rfl⟩
  refine xx_iconst (pc := 34) dX10_read_34 cc_iconst_0 ?_
  refine xx_istore_n (L' := [(3, .int (nI 0)), (0, ic_pt E 5), (1, ic_pt E 4), (2, .int (nI n))]) (pc := 35) dX10_read_35 rfl (Nat.le_of_ble_eq_true rfl) rfl ?_
  exact xx_sub [0, 1] rfl (lp 10 0 (tk_a f n 0) (fu (fu s 5 0) 7 0) w6 z_w6 x_w6 C_w6 rfl ⟨rfl, by omega⟩ (Nat.zero_le _) (by omega))

theorem Cw.of39 {w u : ic_w} {s : Nat → Nat} (h : Cw w s) (e : ∀ a, 39 ≤ a → a ≤ 62 → u a = w a) : Cw u s := by
  have e39 := e 39 (by omega) (by omega)
  refine ⟨h.1.of (by rw [e39]) (by rw [e39]) (by rw [e 55 (by omega) (by omega)]) (fun a h1 h2 _ _ _ _ _ _ => e a (by omega) h2), ⟨by rw [e 46 (by omega) (by omega)]; exact h.2.1.1, by rw [e 46 (by omega) (by omega)]; exact h.2.1.2.1, fun k hk => ?_⟩, by rw [e39]; exact h.2.2.1, by rw [e39]; exact h.2.2.2⟩
  rw [e 47 (by omega) (by omega), e 48 (by omega) (by omega)]
  exact h.2.1.2.2 k hk
set_option maxHeartbeats 4000000 in
set_option maxRecDepth 100000 in
theorem cC_rules {l : Launch} {E : ic_E} {w : ic_w} (hP : Value.category E.2.2.2.2.2.2 = 1) {f : Nat → Nat} {n : Nat} {s : Nat → Nat} (h6 : w 0 6 = n) (hn2 : n ≤ 200) (hT : ∀ j, j < n → w 4 j = mo_by (f j) ∧ f j ≤ 255) (hW : Cw w s) (hI : In s) : ic_C l E mX11_rules 22 0 0 False [ic_pt E 0] SHs (hn w) SHs (ic_qi (fun v_ h_ => v_ = nI (tk_rv f n s) ∧ ∃ w2, h_ = hn w2 ∧ ((∀ a, a ≠ 0 → (a < 5 ∨ 9 < a) → (a < 49 ∨ 53 < a) → w2 a = w a) ∧ ∀ j, j ≠ 6 → w2 0 j = w 0 j) ∧ w2 0 6 = 0 ∧ Cw w2 (tk_rw f n s))) := by
  refine ic_intro (by decide +kernel) (Nat.le_of_ble_eq_true rfl) ?_
  show xx l E _ _ 0 [(0, ic_pt E 0)] _ _ _
  refine xx_aload_nP (pc := 0) dX11_rules_0 0 rfl rfl ?_
  refine xx_getR (pc := 1) 5 dX11_rules_1 sh_0 fX11_23_11 rfl rfl (by decide) ?_
  refine xx_aload_nP (pc := 4) dX11_rules_4 0 rfl rfl ?_
  refine xx_getR (pc := 5) 4 dX11_rules_5 sh_0 fX11_16_11 rfl rfl (by decide) ?_
  refine xx_aload_nP (pc := 8) dX11_rules_8 0 rfl rfl ?_
  refine xx_getN (pc := 9) dX11_rules_9 sh_0 fX11_199_11 rfl ?_
  refine xx_eqI (y := nI (n)) (by rw [h6]) ?_
  refine xx_callV0 (pc := 12) (st := []) sh_5 (cC_read (w := w) (f := f) hP s hn2 hT) kX10_read vX11_202_10 dX11_rules_12 rfl rfl (Nat.le_of_ble_eq_true rfl) (pl_hR (d := 22) (by omega) (Nat.le_of_ble_eq_true rfl)) ⟨Nat.zero_le _, Nat.zero_le _⟩ (ic_ki (fun v2 h_ qw1 => ?_))
  obtain ⟨rfl, w1, rfl, x_w1, C_w1⟩ := qw1
  have R_ := tk_r0_R (f := f) (n := n) hn2 hI
  by_cases v_ : (tk_r0 f n s).1 = 0
  · refine xx_eqI (y := nI 4294967295) (by rw [if_pos v_]) ?_
    have hQ_ := R_.2.2 v_
    have C0_ := C_w1 v_
    refine xx_istore_n (L' := [(1, .int (nI 4294967295)), (0, ic_pt E 0)]) (pc := 15) dX11_rules_15 rfl (Nat.le_of_ble_eq_true rfl) rfl ?_
    refine xx_aload_nP (pc := 16) dX11_rules_16 1 rfl rfl ?_
    refine xx_iconst (pc := 17) dX11_rules_17 cc_iconst_0 ?_
    refine xx_putN (pc := 18) dX11_rules_18 sh_0 fX11_199_11 rfl rfl ?_
    refine xx_nw (fun w23 ew23 => ?_)
    have y_w23 : (∀ b, b ≠ 0 → w23 b = w1 b) ∧ (∀ j, j ≠ 6 → w23 0 j = w1 0 j) ∧ w23 0 6 = 0 := ⟨fun b h => by rw [ew23, wu_row _ _ _ h], fun j h => by rw [ew23, wu_k _ _ _ _ h], by rw [ew23, wu_s]⟩
    refine xx_iload_n (pc := 21) dX11_rules_21 0 rfl rfl ?_
    refine xx_if_ltS (pc := 22) 30 dX11_rules_22 rfl (by omega) (fun c24 => ?_) (fun c24 => by exfalso; omega)
    refine xx_aload_nP (pc := 30) dX11_rules_30 1 rfl rfl ?_
    refine xx_getR (pc := 31) 39 dX11_rules_31 sh_0 fX11_74_11 rfl rfl (by decide) ?_
    refine xx_getR (pc := 34) 49 dX11_rules_34 sh_39 fX11_206_5 rfl rfl (by decide) ?_
    refine xx_aload_nP (pc := 37) dX11_rules_37 1 rfl rfl ?_
    refine xx_getR (pc := 38) 5 dX11_rules_38 sh_0 fX11_23_11 rfl rfl (by decide) ?_
    refine xx_callV0 (pc := 41) (st := []) sh_49 (cC_rulD (w := w23)) kX10_become vX11_209_10 dX11_rules_41 rfl rfl (Nat.le_of_ble_eq_true rfl) (pl_hR (d := 22) (by omega) (Nat.le_of_ble_eq_true rfl)) ⟨Nat.zero_le _, Nat.zero_le _⟩ (ic_kv (fun h_ qw25 => ?_))
    obtain ⟨w25, rfl, f_w25, k_w25⟩ := qw25
    have C1_ : Cr w25 49 (tk_r0 f n s).2.2 := by
        have hq5_ := hQ_.2.1
        have hq7_ := hQ_.2.2.1
        have C2_ : Cr w23 5 (tk_r0 f n s).2.2 := C0_.1.of (y_w23.1 5 (by decide) ▸ rfl) (fun b h1 h2 => y_w23.1 b (by omega))
        refine ⟨k_w25.1.trans C2_.1, fun i hi => ?_, fun k hk => ?_⟩
        · obtain ⟨b1, b2, b3⟩ := k_w25.2.1 i (by omega)
          rw [b1, b2, b3]
          exact C2_.2.1 i hi
        · exact (k_w25.2.2 k (by omega)).trans (C2_.2.2 k hk)
    refine xx_aload_nP (pc := 44) dX11_rules_44 1 rfl rfl ?_
    refine xx_getR (pc := 45) 39 dX11_rules_45 sh_0 fX11_74_11 rfl rfl (by decide) ?_
    refine xx_getR (pc := 48) 49 dX11_rules_48 sh_39 fX11_206_5 rfl rfl (by decide) ?_
    refine xx_getN (pc := 51) dX11_rules_51 sh_49 fX11_213_10 rfl ?_
    refine xx_eqI (y := nI ((tk_r0 f n s).2.2 5)) (by rw [C1_.1]) ?_
    exact xx_iret (pc := 54) dX11_rules_54 rfl (rfl) (Nat.le_refl _) (Nat.le_refl _) (ic_ri ⟨by rw [show tk_rv f n s = (tk_r0 f n s).2.2 5 from if_pos v_], w25, rfl, ⟨fun b h0 h1 h2 => by rw [f_w25 b (by omega), y_w23.1 b h0, x_w1 b h1], fun j hj => by rw [f_w25 0 (by omega), y_w23.2.1 j hj, x_w1 0 (by omega)]⟩, by rw [f_w25 0 (by omega), y_w23.2.2], by rw [show tk_rw f n s = (tk_r0 f n s).2.2 from if_pos v_]; exact hQ_.cw hI hW C1_ (fun b h1 h2 h3 => by rw [f_w25 b (by omega), y_w23.1 b (by omega), x_w1 b (by omega)])⟩)
  · refine xx_eqI (y := nI (tk_r0 f n s).2.1) (by rw [if_neg v_]) ?_
    refine xx_istore_n (L' := [(1, .int (nI ((tk_r0 f n s).2.1))), (0, ic_pt E 0)]) (pc := 15) dX11_rules_15 rfl (Nat.le_of_ble_eq_true rfl) rfl ?_
    refine xx_aload_nP (pc := 16) dX11_rules_16 1 rfl rfl ?_
    refine xx_iconst (pc := 17) dX11_rules_17 cc_iconst_0 ?_
    refine xx_putN (pc := 18) dX11_rules_18 sh_0 fX11_199_11 rfl rfl ?_
    refine xx_nw (fun w63 ew63 => ?_)
    have y_w63 : (∀ b, b ≠ 0 → w63 b = w1 b) ∧ (∀ j, j ≠ 6 → w63 0 j = w1 0 j) ∧ w63 0 6 = 0 := ⟨fun b h => by rw [ew63, wu_row _ _ _ h], fun j h => by rw [ew63, wu_k _ _ _ _ h], by rw [ew63, wu_s]⟩
    refine xx_iload_n (pc := 21) dX11_rules_21 0 rfl rfl ?_
    refine xx_if_ltS (pc := 22) 30 dX11_rules_22 rfl (by omega) (fun c64 => by exfalso; omega) (fun c64 => ?_)
    refine xx_bipush (pc := 25) dX11_rules_25 cc_bipush_m100 ?_
    refine xx_iload_n (pc := 27) dX11_rules_27 0 rfl rfl ?_
    refine xx_isubN (pc := 28) dX11_rules_28 (by omega) ?_
    exact xx_iret (pc := 29) dX11_rules_29 rfl (rfl) (Nat.le_refl _) (Nat.le_refl _) (ic_ri ⟨by rw [show tk_rv f n s = 4294967196 - (tk_r0 f n s).2.1 from if_neg v_], w63, rfl, ⟨fun b h0 h1 h2 => by rw [y_w63.1 b h0, x_w1 b h1], fun j hj => by rw [y_w63.2.1 j hj, x_w1 0 (by omega)]⟩, y_w63.2.2, by rw [show tk_rw f n s = s from if_neg v_]; exact hW.of39 (fun b h1 h2 => by rw [y_w63.1 b (by omega), x_w1 b (by omega)])⟩)

