/-! the reader of the rules: what compares -/
set_option maxHeartbeats 4000000 in
set_option maxRecDepth 100000 in
theorem cZ_compares {l : Launch} {E : ic_E} {w : ic_w} {f : Nat → Nat} {n a : Nat} (z_w : Tz w f n a) (p_w : w 114 10 = 0) (h7 : w 115 7 ≤ 140) : ic_C l E mX12_comparesHere 7 0 0 False [ic_pt E 114] SHs (hn w) SHs (tk_Q w f n (tk_cmp f n a)) := by
  refine ic_intro (by decide +kernel) (Nat.le_of_ble_eq_true rfl) ?_
  show xx l E _ _ 0 [(0, ic_pt E 114)] _ _ _
  have hb := z_w.b
  have x_w := Hw.rf w
  have o_w : w 114 11 = w 114 11 := rfl
  have s_w : w 115 = tk_sts (w 115) [] := rfl
  refine xx_aload_nP (pc := 0) dX12_comparesHere_0 0 rfl rfl ?_
  by_cases z1 : tk_ov f n a ≠ 0
  · refine xx_callV0 (pc := 1) (st := []) sh_114 (cZ_valT (w := w) z_w p_w z1) kX12_valueHere vX12_202_12 dX12_comparesHere_1 rfl rfl (Nat.le_of_ble_eq_true rfl) ⟨Nat.le_of_ble_eq_true rfl, Nat.le_of_ble_eq_true rfl⟩ ⟨Nat.zero_le _, Nat.zero_le _⟩ (ic_ki (fun v2 h_ qw1 => ?_))
    obtain ⟨rfl, w1, rfl, y_w1, z_w1, p_w1⟩ := qw1
    have x_w1 := x_w.tr y_w1.h
    have o_w1 : w1 114 11 = w 114 11 := (y_w1.2 11 (by omega)).trans o_w
    have s_w1 : w1 115 = tk_sts (w 115) [] := (y_w1.1 115 (by decide)).trans s_w
    have ct66 : xx l E (ic_fr E mX12_comparesHere 7 0 0 False SHs (tk_Q w f n (tk_cmp f n a))) (0, 0) 66 [(2, .int (nI (tk_sg f n (tk_z f n a)))), (1, .int (nI (tk_val f n a))), (0, ic_pt E 114)] [.int (nI (tk_sb f n (tk_z f n a))), ic_pt E 114] SHs (hn w1) := by
      by_cases z2 : tk_sb f n (tk_z f n a) ≠ 0
      · refine xx_callV0 (pc := 66) (st := []) sh_114 (cZ_needT (w := w1) (b := tk_sb f n (tk_z f n a)) z_w1 (tk_sb_le _ _ _) p_w1 z2) kX12_needs vX12_198_12 dX12_comparesHere_66 rfl rfl (Nat.le_of_ble_eq_true rfl) ⟨Nat.le_of_ble_eq_true rfl, Nat.le_of_ble_eq_true rfl⟩ ⟨Nat.zero_le _, Nat.zero_le _⟩ (ic_kv (fun h_ qw3 => ?_))
        obtain ⟨w3, rfl, y_w3, z_w3, p_w3⟩ := qw3
        have x_w3 := x_w1.tr y_w3.h
        have o_w3 : w3 114 11 = w 114 11 := (y_w3.2 11 (by omega)).trans o_w1
        have s_w3 : w3 115 = tk_sts (w 115) [] := (y_w3.1 115 (by decide)).trans s_w1
        refine xx_aload_nP (pc := 69) dX12_comparesHere_69 2 rfl rfl ?_
        by_cases z3 : tk_ov f n (tk_z f n (tk_z f n a)) ≠ 0
        · refine xx_callV0 (pc := 70) (st := []) sh_114 (cZ_valT (w := w3) z_w3 p_w3 z3) kX12_valueHere vX12_202_12 dX12_comparesHere_70 rfl rfl (Nat.le_of_ble_eq_true rfl) ⟨Nat.le_of_ble_eq_true rfl, Nat.le_of_ble_eq_true rfl⟩ ⟨Nat.zero_le _, Nat.zero_le _⟩ (ic_ki (fun v6 h_ qw5 => ?_))
          obtain ⟨rfl, w5, rfl, y_w5, z_w5, p_w5⟩ := qw5
          have x_w5 := x_w3.tr y_w5.h
          have o_w5 : w5 114 11 = w 114 11 := (y_w5.2 11 (by omega)).trans o_w3
          have s_w5 : w5 115 = tk_sts (w 115) [] := (y_w5.1 115 (by decide)).trans s_w3
          refine xx_istore_n (L' := [(3, .int (nI (tk_val f n (tk_z f n (tk_z f n a))))), (2, .int (nI (tk_sg f n (tk_z f n a)))), (1, .int (nI (tk_val f n a))), (0, ic_pt E 114)]) (pc := 73) dX12_comparesHere_73 rfl (Nat.le_of_ble_eq_true rfl) rfl ?_
          refine xx_aload_nP (pc := 74) dX12_comparesHere_74 3 rfl rfl ?_
          refine xx_iload_n (pc := 75) dX12_comparesHere_75 1 rfl rfl ?_
          refine xx_iload_n (pc := 76) dX12_comparesHere_76 2 rfl rfl ?_
          refine xx_iload_n (pc := 77) dX12_comparesHere_77 0 rfl rfl ?_
          refine xx_callV0 (pc := 78) (st := []) sh_114 (cZ_steps (w := w5) (x := tk_sg f n (tk_z f n a)) (y := tk_val f n a) (z := tk_val f n (tk_z f n (tk_z f n a))) z_w5 (by have := tk_sg_le f n (tk_z f n a); omega) (by have := tk_val_le z1; omega) (by have := tk_val_le z3; omega) p_w5 (by rw [s_w5]; have := hb.2.2.2.2.2; have : tk_sts (w 115) [] 7 = w 115 7 := rfl; omega)) kX12_steps vX12_208_12 dX12_comparesHere_78 rfl rfl (Nat.le_of_ble_eq_true rfl) ⟨Nat.le_of_ble_eq_true rfl, Nat.le_of_ble_eq_true rfl⟩ ⟨Nat.zero_le _, Nat.zero_le _⟩ (ic_kv (fun h_ qw7 => ?_))
          obtain ⟨w7, rfl, y_w7, q11_, z_w7, p_w7, q15_⟩ := qw7
          have x_w7 := x_w5.tr y_w7
          have o_w7 : w7 114 11 = w 114 11 := q11_.trans o_w5
          have s_w7 : w7 115 = tk_sts (w 115) [(tk_sg f n (tk_z f n a), tk_val f n a, tk_val f n (tk_z f n (tk_z f n a)))] := by rw [q15_, s_w5]; rfl
          exact xx_vret (pc := 81) dX12_comparesHere_81 rfl (Nat.le_refl _) (Nat.le_refl _) (ic_rv0 (by rw [tk_cmp_0 z1 z2 z3]; exact ⟨w7, rfl, x_w7, o_w7, z_w7, p_w7, fun _ => s_w7⟩))
        · refine xx_callV0 (pc := 70) (st := []) sh_114 (cZ_valF (w := w3) z_w3 (by omega) (by omega)) kX12_valueHere vX12_202_12 dX12_comparesHere_70 rfl rfl (Nat.le_of_ble_eq_true rfl) ⟨Nat.le_of_ble_eq_true rfl, Nat.le_of_ble_eq_true rfl⟩ ⟨Nat.zero_le _, Nat.zero_le _⟩ (ic_ki (fun v10 h_ qw9 => ?_))
          obtain ⟨rfl, w9, rfl, y_w9, z_w9, p_w9⟩ := qw9
          have x_w9 := x_w3.tr y_w9.h
          have o_w9 : w9 114 11 = w 114 11 := (y_w9.2 11 (by omega)).trans o_w3
          refine xx_istore_n (L' := [(3, .int (nI (tk_val f n (tk_z f n (tk_z f n a))))), (2, .int (nI (tk_sg f n (tk_z f n a)))), (1, .int (nI (tk_val f n a))), (0, ic_pt E 114)]) (pc := 73) dX12_comparesHere_73 rfl (Nat.le_of_ble_eq_true rfl) rfl ?_
          refine xx_aload_nP (pc := 74) dX12_comparesHere_74 3 rfl rfl ?_
          refine xx_iload_n (pc := 75) dX12_comparesHere_75 1 rfl rfl ?_
          refine xx_iload_n (pc := 76) dX12_comparesHere_76 2 rfl rfl ?_
          refine xx_iload_n (pc := 77) dX12_comparesHere_77 0 rfl rfl ?_
          refine xx_callV0 (pc := 78) (st := []) sh_114 (cZ_stepsW (w := w9) (x := tk_sg f n (tk_z f n a)) (y := tk_val f n a) (z := tk_val f n (tk_z f n (tk_z f n a))) p_w9) kX12_steps vX12_208_12 dX12_comparesHere_78 rfl rfl (Nat.le_of_ble_eq_true rfl) ⟨Nat.le_of_ble_eq_true rfl, Nat.le_of_ble_eq_true rfl⟩ ⟨Nat.zero_le _, Nat.zero_le _⟩ (ic_kv (fun h_ qw11 => ?_))
          obtain ⟨w11, rfl, e_w11⟩ := qw11
          have z_w11 := z_w9
          have p_w11 := p_w9
          have x_w11 := x_w9
          have o_w11 := o_w9
          rw [← e_w11] at z_w11 p_w11 x_w11 o_w11
          exact xx_vret (pc := 81) dX12_comparesHere_81 rfl (Nat.le_refl _) (Nat.le_refl _) (ic_rv0 (by rw [tk_cmp_3 z1 z2 z3]; exact ⟨w11, rfl, x_w11, o_w11, z_w11, p_w11, fun y_ => absurd y_ Nat.one_ne_zero⟩))
      · refine xx_callV0 (pc := 66) (st := []) sh_114 (cZ_needF (w := w1) (b := tk_sb f n (tk_z f n a)) z_w1 (tk_sb_le _ _ _) (by omega) (by omega)) kX12_needs vX12_198_12 dX12_comparesHere_66 rfl rfl (Nat.le_of_ble_eq_true rfl) ⟨Nat.le_of_ble_eq_true rfl, Nat.le_of_ble_eq_true rfl⟩ ⟨Nat.zero_le _, Nat.zero_le _⟩ (ic_kv (fun h_ qw13 => ?_))
        obtain ⟨w13, rfl, y_w13, z_w13, p_w13⟩ := qw13
        have x_w13 := x_w1.tr y_w13.h
        have o_w13 : w13 114 11 = w 114 11 := (y_w13.2 11 (by omega)).trans o_w1
        refine xx_aload_nP (pc := 69) dX12_comparesHere_69 2 rfl rfl ?_
        refine xx_callV0 (pc := 70) (st := []) sh_114 (cZ_valW (w := w13) z_w13 p_w13) kX12_valueHere vX12_202_12 dX12_comparesHere_70 rfl rfl (Nat.le_of_ble_eq_true rfl) ⟨Nat.le_of_ble_eq_true rfl, Nat.le_of_ble_eq_true rfl⟩ ⟨Nat.zero_le _, Nat.zero_le _⟩ (ic_ki (fun v16 h_ qw15 => ?_))
        obtain ⟨rfl, w15, rfl, y_w15, z_w15, p_w15⟩ := qw15
        have x_w15 := x_w13.tr y_w15.h
        have o_w15 : w15 114 11 = w 114 11 := (y_w15.2 11 (by omega)).trans o_w13
        refine xx_istore_n (L' := [(3, .int (nI (tk_val f n (tk_z f n a)))), (2, .int (nI (tk_sg f n (tk_z f n a)))), (1, .int (nI (tk_val f n a))), (0, ic_pt E 114)]) (pc := 73) dX12_comparesHere_73 rfl (Nat.le_of_ble_eq_true rfl) rfl ?_
        refine xx_aload_nP (pc := 74) dX12_comparesHere_74 3 rfl rfl ?_
        refine xx_iload_n (pc := 75) dX12_comparesHere_75 1 rfl rfl ?_
        refine xx_iload_n (pc := 76) dX12_comparesHere_76 2 rfl rfl ?_
        refine xx_iload_n (pc := 77) dX12_comparesHere_77 0 rfl rfl ?_
        refine xx_callV0 (pc := 78) (st := []) sh_114 (cZ_stepsW (w := w15) (x := tk_sg f n (tk_z f n a)) (y := tk_val f n a) (z := tk_val f n (tk_z f n a)) p_w15) kX12_steps vX12_208_12 dX12_comparesHere_78 rfl rfl (Nat.le_of_ble_eq_true rfl) ⟨Nat.le_of_ble_eq_true rfl, Nat.le_of_ble_eq_true rfl⟩ ⟨Nat.zero_le _, Nat.zero_le _⟩ (ic_kv (fun h_ qw17 => ?_))
        obtain ⟨w17, rfl, e_w17⟩ := qw17
        have z_w17 := z_w15
        have p_w17 := p_w15
        have x_w17 := x_w15
        have o_w17 := o_w15
        rw [← e_w17] at z_w17 p_w17 x_w17 o_w17
        exact xx_vret (pc := 81) dX12_comparesHere_81 rfl (Nat.le_refl _) (Nat.le_refl _) (ic_rv0 (by rw [tk_cmp_2 z1 z2]; exact ⟨w17, rfl, x_w17, o_w17, z_w17, p_w17, fun y_ => absurd y_ Nat.one_ne_zero⟩))
    have ct33 : ∀ (u_ : Unit), xx l E (ic_fr E mX12_comparesHere 7 0 0 False SHs (tk_Q w f n (tk_cmp f n a))) (0, 0) 33 [(2, .int (nI (tk_sg f n (tk_z f n a)))), (1, .int (nI (tk_val f n a))), (0, ic_pt E 114)] [] SHs (hn w1) := by
      intro u_ 
      refine xx_aload_nP (pc := 33) dX12_comparesHere_33 2 rfl rfl ?_
      refine xx_aload_nP (pc := 34) dX12_comparesHere_34 2 rfl rfl ?_
      refine xx_bipush (pc := 35) dX12_comparesHere_35 cc_bipush_60 ?_
      refine xx_callV0 (pc := 37) (st := [ic_pt E 114]) sh_114 (cZ_byte (w := w1) (c := 60) z_w1 (by decide)) kX12_isByte vX12_205_12 dX12_comparesHere_37 rfl rfl (Nat.le_of_ble_eq_true rfl) ⟨Nat.le_of_ble_eq_true rfl, Nat.le_of_ble_eq_true rfl⟩ ⟨Nat.zero_le _, Nat.zero_le _⟩ (ic_ke ?_)
      refine xx_if_neB (pc := 40) 61 dX12_comparesHere_40 rfl (fun c19 => ?_) (fun c19 => ?_)
      · refine xx_iconst (pc := 61) dX12_comparesHere_61 cc_iconst_1 ?_
        refine xx_goto (pc := 62) 66 dX12_comparesHere_62 rfl ?_
        refine xx_eqI (y := nI (tk_sb f n (tk_z f n a))) (by rw [show tk_sb f n (tk_z f n a) = 1 from by unfold tk_sb; rw [if_pos (by omega)]]) ?_
        exact xx_sub [0, 1, 2] rfl ct66
      · refine xx_aload_nP (pc := 43) dX12_comparesHere_43 2 rfl rfl ?_
        refine xx_bipush (pc := 44) dX12_comparesHere_44 cc_bipush_61 ?_
        refine xx_callV0 (pc := 46) (st := [ic_pt E 114]) sh_114 (cZ_byte (w := w1) (c := 61) z_w1 (by decide)) kX12_isByte vX12_205_12 dX12_comparesHere_46 rfl rfl (Nat.le_of_ble_eq_true rfl) ⟨Nat.le_of_ble_eq_true rfl, Nat.le_of_ble_eq_true rfl⟩ ⟨Nat.zero_le _, Nat.zero_le _⟩ (ic_ke ?_)
        refine xx_if_neB (pc := 49) 61 dX12_comparesHere_49 rfl (fun c20 => ?_) (fun c20 => ?_)
        · refine xx_iconst (pc := 61) dX12_comparesHere_61 cc_iconst_1 ?_
          refine xx_goto (pc := 62) 66 dX12_comparesHere_62 rfl ?_
          refine xx_eqI (y := nI (tk_sb f n (tk_z f n a))) (by rw [show tk_sb f n (tk_z f n a) = 1 from by unfold tk_sb; rw [if_pos (by omega)]]) ?_
          exact xx_sub [0, 1, 2] rfl ct66
        · refine xx_aload_nP (pc := 52) dX12_comparesHere_52 2 rfl rfl ?_
          refine xx_bipush (pc := 53) dX12_comparesHere_53 cc_bipush_62 ?_
          refine xx_callV0 (pc := 55) (st := [ic_pt E 114]) sh_114 (cZ_byte (w := w1) (c := 62) z_w1 (by decide)) kX12_isByte vX12_205_12 dX12_comparesHere_55 rfl rfl (Nat.le_of_ble_eq_true rfl) ⟨Nat.le_of_ble_eq_true rfl, Nat.le_of_ble_eq_true rfl⟩ ⟨Nat.zero_le _, Nat.zero_le _⟩ (ic_ke ?_)
          refine xx_if_eqB (pc := 58) 65 dX12_comparesHere_58 rfl (fun c21 => ?_) (fun c21 => ?_)
          · refine xx_iconst (pc := 65) dX12_comparesHere_65 cc_iconst_0 ?_
            refine xx_eqI (y := nI (tk_sb f n (tk_z f n a))) (by rw [show tk_sb f n (tk_z f n a) = 0 from by unfold tk_sb; rw [if_neg (by omega)]]) ?_
            exact xx_sub [0, 1, 2] rfl ct66
          · refine xx_iconst (pc := 61) dX12_comparesHere_61 cc_iconst_1 ?_
            refine xx_goto (pc := 62) 66 dX12_comparesHere_62 rfl ?_
            refine xx_eqI (y := nI (tk_sb f n (tk_z f n a))) (by rw [show tk_sb f n (tk_z f n a) = 1 from by unfold tk_sb; rw [if_pos (by omega)]]) ?_
            exact xx_sub [0, 1, 2] rfl ct66
    refine xx_istore_n (L' := [(1, .int (nI (tk_val f n a))), (0, ic_pt E 114)]) (pc := 4) dX12_comparesHere_4 rfl (Nat.le_of_ble_eq_true rfl) rfl ?_
    refine xx_aload_nP (pc := 5) dX12_comparesHere_5 1 rfl rfl ?_
    refine xx_bipush (pc := 6) dX12_comparesHere_6 cc_bipush_60 ?_
    refine xx_callV0 (pc := 8) (st := []) sh_114 (cZ_byte (w := w1) (c := 60) z_w1 (by decide)) kX12_isByte vX12_205_12 dX12_comparesHere_8 rfl rfl (Nat.le_of_ble_eq_true rfl) ⟨Nat.le_of_ble_eq_true rfl, Nat.le_of_ble_eq_true rfl⟩ ⟨Nat.zero_le _, Nat.zero_le _⟩ (ic_ke ?_)
    refine xx_if_eqB (pc := 11) 18 dX12_comparesHere_11 rfl (fun c22 => ?_) (fun c22 => ?_)
    · refine xx_aload_nP (pc := 18) dX12_comparesHere_18 1 rfl rfl ?_
      refine xx_bipush (pc := 19) dX12_comparesHere_19 cc_bipush_61 ?_
      refine xx_callV0 (pc := 21) (st := []) sh_114 (cZ_byte (w := w1) (c := 61) z_w1 (by decide)) kX12_isByte vX12_205_12 dX12_comparesHere_21 rfl rfl (Nat.le_of_ble_eq_true rfl) ⟨Nat.le_of_ble_eq_true rfl, Nat.le_of_ble_eq_true rfl⟩ ⟨Nat.zero_le _, Nat.zero_le _⟩ (ic_ke ?_)
      refine xx_if_eqB (pc := 24) 31 dX12_comparesHere_24 rfl (fun c23 => ?_) (fun c23 => ?_)
      · refine xx_iconst (pc := 31) dX12_comparesHere_31 cc_iconst_2 ?_
        refine xx_eqI (y := nI (tk_sg f n (tk_z f n a))) (by rw [show tk_sg f n (tk_z f n a) = 2 from by unfold tk_sg; rw [if_neg (by omega), if_neg (by omega)]]) ?_
        refine xx_istore_n (L' := [(2, .int (nI (tk_sg f n (tk_z f n a)))), (1, .int (nI (tk_val f n a))), (0, ic_pt E 114)]) (pc := 32) dX12_comparesHere_32 rfl (Nat.le_of_ble_eq_true rfl) rfl ?_
        exact xx_sub [0, 1, 2] rfl (ct33 ())
      · refine xx_iconst (pc := 27) dX12_comparesHere_27 cc_iconst_1 ?_
        refine xx_goto (pc := 28) 32 dX12_comparesHere_28 rfl ?_
        refine xx_eqI (y := nI (tk_sg f n (tk_z f n a))) (by rw [show tk_sg f n (tk_z f n a) = 1 from by unfold tk_sg; rw [if_neg (by omega), if_pos (by omega)]]) ?_
        refine xx_istore_n (L' := [(2, .int (nI (tk_sg f n (tk_z f n a)))), (1, .int (nI (tk_val f n a))), (0, ic_pt E 114)]) (pc := 32) dX12_comparesHere_32 rfl (Nat.le_of_ble_eq_true rfl) rfl ?_
        exact xx_sub [0, 1, 2] rfl (ct33 ())
    · refine xx_iconst (pc := 14) dX12_comparesHere_14 cc_iconst_0 ?_
      refine xx_goto (pc := 15) 32 dX12_comparesHere_15 rfl ?_
      refine xx_eqI (y := nI (tk_sg f n (tk_z f n a))) (by rw [show tk_sg f n (tk_z f n a) = 0 from by unfold tk_sg; rw [if_pos (by omega)]]) ?_
      refine xx_istore_n (L' := [(2, .int (nI (tk_sg f n (tk_z f n a)))), (1, .int (nI (tk_val f n a))), (0, ic_pt E 114)]) (pc := 32) dX12_comparesHere_32 rfl (Nat.le_of_ble_eq_true rfl) rfl ?_
      exact xx_sub [0, 1, 2] rfl (ct33 ())
  · refine xx_callV0 (pc := 1) (st := []) sh_114 (cZ_valF (w := w) z_w (by omega) (by omega)) kX12_valueHere vX12_202_12 dX12_comparesHere_1 rfl rfl (Nat.le_of_ble_eq_true rfl) ⟨Nat.le_of_ble_eq_true rfl, Nat.le_of_ble_eq_true rfl⟩ ⟨Nat.zero_le _, Nat.zero_le _⟩ (ic_ki (fun v25 h_ qw24 => ?_))
    obtain ⟨rfl, w24, rfl, y_w24, z_w24, p_w24⟩ := qw24
    have x_w24 := x_w.tr y_w24.h
    have o_w24 : w24 114 11 = w 114 11 := (y_w24.2 11 (by omega)).trans o_w
    have ct66 : xx l E (ic_fr E mX12_comparesHere 7 0 0 False SHs (tk_Q w f n (tk_cmp f n a))) (0, 0) 66 [(2, .int (nI (tk_sg f n a))), (1, .int (nI (tk_val f n a))), (0, ic_pt E 114)] [.int (nI (tk_sb f n a)), ic_pt E 114] SHs (hn w24) := by
      refine xx_callV0 (pc := 66) (st := []) sh_114 (cZ_needW (w := w24) (b := tk_sb f n a) z_w24 (tk_sb_le _ _ _) p_w24) kX12_needs vX12_198_12 dX12_comparesHere_66 rfl rfl (Nat.le_of_ble_eq_true rfl) ⟨Nat.le_of_ble_eq_true rfl, Nat.le_of_ble_eq_true rfl⟩ ⟨Nat.zero_le _, Nat.zero_le _⟩ (ic_kv (fun h_ qw26 => ?_))
      obtain ⟨w26, rfl, y_w26, z_w26, p_w26⟩ := qw26
      have x_w26 := x_w24.tr y_w26.h
      have o_w26 : w26 114 11 = w 114 11 := (y_w26.2 11 (by omega)).trans o_w24
      refine xx_aload_nP (pc := 69) dX12_comparesHere_69 2 rfl rfl ?_
      refine xx_callV0 (pc := 70) (st := []) sh_114 (cZ_valW (w := w26) z_w26 p_w26) kX12_valueHere vX12_202_12 dX12_comparesHere_70 rfl rfl (Nat.le_of_ble_eq_true rfl) ⟨Nat.le_of_ble_eq_true rfl, Nat.le_of_ble_eq_true rfl⟩ ⟨Nat.zero_le _, Nat.zero_le _⟩ (ic_ki (fun v29 h_ qw28 => ?_))
      obtain ⟨rfl, w28, rfl, y_w28, z_w28, p_w28⟩ := qw28
      have x_w28 := x_w26.tr y_w28.h
      have o_w28 : w28 114 11 = w 114 11 := (y_w28.2 11 (by omega)).trans o_w26
      refine xx_istore_n (L' := [(3, .int (nI (tk_val f n a))), (2, .int (nI (tk_sg f n a))), (1, .int (nI (tk_val f n a))), (0, ic_pt E 114)]) (pc := 73) dX12_comparesHere_73 rfl (Nat.le_of_ble_eq_true rfl) rfl ?_
      refine xx_aload_nP (pc := 74) dX12_comparesHere_74 3 rfl rfl ?_
      refine xx_iload_n (pc := 75) dX12_comparesHere_75 1 rfl rfl ?_
      refine xx_iload_n (pc := 76) dX12_comparesHere_76 2 rfl rfl ?_
      refine xx_iload_n (pc := 77) dX12_comparesHere_77 0 rfl rfl ?_
      refine xx_callV0 (pc := 78) (st := []) sh_114 (cZ_stepsW (w := w28) (x := tk_sg f n a) (y := tk_val f n a) (z := tk_val f n a) p_w28) kX12_steps vX12_208_12 dX12_comparesHere_78 rfl rfl (Nat.le_of_ble_eq_true rfl) ⟨Nat.le_of_ble_eq_true rfl, Nat.le_of_ble_eq_true rfl⟩ ⟨Nat.zero_le _, Nat.zero_le _⟩ (ic_kv (fun h_ qw30 => ?_))
      obtain ⟨w30, rfl, e_w30⟩ := qw30
      have z_w30 := z_w28
      have p_w30 := p_w28
      have x_w30 := x_w28
      have o_w30 := o_w28
      rw [← e_w30] at z_w30 p_w30 x_w30 o_w30
      exact xx_vret (pc := 81) dX12_comparesHere_81 rfl (Nat.le_refl _) (Nat.le_refl _) (ic_rv0 (by rw [tk_cmp_1 z1]; exact ⟨w30, rfl, x_w30, o_w30, z_w30, p_w30, fun y_ => absurd y_ Nat.one_ne_zero⟩))
    have ct33 : ∀ (u_ : Unit), xx l E (ic_fr E mX12_comparesHere 7 0 0 False SHs (tk_Q w f n (tk_cmp f n a))) (0, 0) 33 [(2, .int (nI (tk_sg f n a))), (1, .int (nI (tk_val f n a))), (0, ic_pt E 114)] [] SHs (hn w24) := by
      intro u_ 
      refine xx_aload_nP (pc := 33) dX12_comparesHere_33 2 rfl rfl ?_
      refine xx_aload_nP (pc := 34) dX12_comparesHere_34 2 rfl rfl ?_
      refine xx_bipush (pc := 35) dX12_comparesHere_35 cc_bipush_60 ?_
      refine xx_callV0 (pc := 37) (st := [ic_pt E 114]) sh_114 (cZ_byte (w := w24) (c := 60) z_w24 (by decide)) kX12_isByte vX12_205_12 dX12_comparesHere_37 rfl rfl (Nat.le_of_ble_eq_true rfl) ⟨Nat.le_of_ble_eq_true rfl, Nat.le_of_ble_eq_true rfl⟩ ⟨Nat.zero_le _, Nat.zero_le _⟩ (ic_ke ?_)
      refine xx_if_neB (pc := 40) 61 dX12_comparesHere_40 rfl (fun c32 => ?_) (fun c32 => ?_)
      · refine xx_iconst (pc := 61) dX12_comparesHere_61 cc_iconst_1 ?_
        refine xx_goto (pc := 62) 66 dX12_comparesHere_62 rfl ?_
        refine xx_eqI (y := nI (tk_sb f n a)) (by rw [show tk_sb f n a = 1 from by unfold tk_sb; rw [if_pos (by omega)]]) ?_
        exact xx_sub [0, 1, 2] rfl ct66
      · refine xx_aload_nP (pc := 43) dX12_comparesHere_43 2 rfl rfl ?_
        refine xx_bipush (pc := 44) dX12_comparesHere_44 cc_bipush_61 ?_
        refine xx_callV0 (pc := 46) (st := [ic_pt E 114]) sh_114 (cZ_byte (w := w24) (c := 61) z_w24 (by decide)) kX12_isByte vX12_205_12 dX12_comparesHere_46 rfl rfl (Nat.le_of_ble_eq_true rfl) ⟨Nat.le_of_ble_eq_true rfl, Nat.le_of_ble_eq_true rfl⟩ ⟨Nat.zero_le _, Nat.zero_le _⟩ (ic_ke ?_)
        refine xx_if_neB (pc := 49) 61 dX12_comparesHere_49 rfl (fun c33 => ?_) (fun c33 => ?_)
        · refine xx_iconst (pc := 61) dX12_comparesHere_61 cc_iconst_1 ?_
          refine xx_goto (pc := 62) 66 dX12_comparesHere_62 rfl ?_
          refine xx_eqI (y := nI (tk_sb f n a)) (by rw [show tk_sb f n a = 1 from by unfold tk_sb; rw [if_pos (by omega)]]) ?_
          exact xx_sub [0, 1, 2] rfl ct66
        · refine xx_aload_nP (pc := 52) dX12_comparesHere_52 2 rfl rfl ?_
          refine xx_bipush (pc := 53) dX12_comparesHere_53 cc_bipush_62 ?_
          refine xx_callV0 (pc := 55) (st := [ic_pt E 114]) sh_114 (cZ_byte (w := w24) (c := 62) z_w24 (by decide)) kX12_isByte vX12_205_12 dX12_comparesHere_55 rfl rfl (Nat.le_of_ble_eq_true rfl) ⟨Nat.le_of_ble_eq_true rfl, Nat.le_of_ble_eq_true rfl⟩ ⟨Nat.zero_le _, Nat.zero_le _⟩ (ic_ke ?_)
          refine xx_if_eqB (pc := 58) 65 dX12_comparesHere_58 rfl (fun c34 => ?_) (fun c34 => ?_)
          · refine xx_iconst (pc := 65) dX12_comparesHere_65 cc_iconst_0 ?_
            refine xx_eqI (y := nI (tk_sb f n a)) (by rw [show tk_sb f n a = 0 from by unfold tk_sb; rw [if_neg (by omega)]]) ?_
            exact xx_sub [0, 1, 2] rfl ct66
          · refine xx_iconst (pc := 61) dX12_comparesHere_61 cc_iconst_1 ?_
            refine xx_goto (pc := 62) 66 dX12_comparesHere_62 rfl ?_
            refine xx_eqI (y := nI (tk_sb f n a)) (by rw [show tk_sb f n a = 1 from by unfold tk_sb; rw [if_pos (by omega)]]) ?_
            exact xx_sub [0, 1, 2] rfl ct66
    refine xx_istore_n (L' := [(1, .int (nI (tk_val f n a))), (0, ic_pt E 114)]) (pc := 4) dX12_comparesHere_4 rfl (Nat.le_of_ble_eq_true rfl) rfl ?_
    refine xx_aload_nP (pc := 5) dX12_comparesHere_5 1 rfl rfl ?_
    refine xx_bipush (pc := 6) dX12_comparesHere_6 cc_bipush_60 ?_
    refine xx_callV0 (pc := 8) (st := []) sh_114 (cZ_byte (w := w24) (c := 60) z_w24 (by decide)) kX12_isByte vX12_205_12 dX12_comparesHere_8 rfl rfl (Nat.le_of_ble_eq_true rfl) ⟨Nat.le_of_ble_eq_true rfl, Nat.le_of_ble_eq_true rfl⟩ ⟨Nat.zero_le _, Nat.zero_le _⟩ (ic_ke ?_)
    refine xx_if_eqB (pc := 11) 18 dX12_comparesHere_11 rfl (fun c35 => ?_) (fun c35 => ?_)
    · refine xx_aload_nP (pc := 18) dX12_comparesHere_18 1 rfl rfl ?_
      refine xx_bipush (pc := 19) dX12_comparesHere_19 cc_bipush_61 ?_
      refine xx_callV0 (pc := 21) (st := []) sh_114 (cZ_byte (w := w24) (c := 61) z_w24 (by decide)) kX12_isByte vX12_205_12 dX12_comparesHere_21 rfl rfl (Nat.le_of_ble_eq_true rfl) ⟨Nat.le_of_ble_eq_true rfl, Nat.le_of_ble_eq_true rfl⟩ ⟨Nat.zero_le _, Nat.zero_le _⟩ (ic_ke ?_)
      refine xx_if_eqB (pc := 24) 31 dX12_comparesHere_24 rfl (fun c36 => ?_) (fun c36 => ?_)
      · refine xx_iconst (pc := 31) dX12_comparesHere_31 cc_iconst_2 ?_
        refine xx_eqI (y := nI (tk_sg f n a)) (by rw [show tk_sg f n a = 2 from by unfold tk_sg; rw [if_neg (by omega), if_neg (by omega)]]) ?_
        refine xx_istore_n (L' := [(2, .int (nI (tk_sg f n a))), (1, .int (nI (tk_val f n a))), (0, ic_pt E 114)]) (pc := 32) dX12_comparesHere_32 rfl (Nat.le_of_ble_eq_true rfl) rfl ?_
        exact xx_sub [0, 1, 2] rfl (ct33 ())
      · refine xx_iconst (pc := 27) dX12_comparesHere_27 cc_iconst_1 ?_
        refine xx_goto (pc := 28) 32 dX12_comparesHere_28 rfl ?_
        refine xx_eqI (y := nI (tk_sg f n a)) (by rw [show tk_sg f n a = 1 from by unfold tk_sg; rw [if_neg (by omega), if_pos (by omega)]]) ?_
        refine xx_istore_n (L' := [(2, .int (nI (tk_sg f n a))), (1, .int (nI (tk_val f n a))), (0, ic_pt E 114)]) (pc := 32) dX12_comparesHere_32 rfl (Nat.le_of_ble_eq_true rfl) rfl ?_
        exact xx_sub [0, 1, 2] rfl (ct33 ())
    · refine xx_iconst (pc := 14) dX12_comparesHere_14 cc_iconst_0 ?_
      refine xx_goto (pc := 15) 32 dX12_comparesHere_15 rfl ?_
      refine xx_eqI (y := nI (tk_sg f n a)) (by rw [show tk_sg f n a = 0 from by unfold tk_sg; rw [if_pos (by omega)]]) ?_
      refine xx_istore_n (L' := [(2, .int (nI (tk_sg f n a))), (1, .int (nI (tk_val f n a))), (0, ic_pt E 114)]) (pc := 32) dX12_comparesHere_32 rfl (Nat.le_of_ble_eq_true rfl) rfl ?_
      exact xx_sub [0, 1, 2] rfl (ct33 ())

