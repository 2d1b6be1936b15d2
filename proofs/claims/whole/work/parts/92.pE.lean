/-! the reader of the rules: values -/
theorem tk_ft_le (f : Nat → Nat) (n t a e : Nat) : tk_ft f n t a e ≤ 4 ∨ tk_ft f n t a e = 4294967295 := by
  unfold tk_ft
  repeat' split
  all_goals omega
def tk_F (f : Nat → Nat) (n a : Nat) : Nat := tk_ft f n (tk_k f n a) a (tk_e f n a)
def tk_val (f : Nat → Nat) (n a : Nat) : Nat := if tk_F f n a = 4294967295 then tk_n f n a else 10000 + tk_F f n a
def tk_ov (f : Nat → Nat) (n a : Nat) : Nat := if tk_F f n a ≠ 4294967295 ∨ (tk_k f n a = 2 ∧ tk_e f n a - a ≤ 4) then 1 else 0
theorem tk_F_le (f : Nat → Nat) (n a : Nat) : tk_F f n a ≤ 4 ∨ tk_F f n a = 4294967295 := tk_ft_le _ _ _ _ _
set_option maxHeartbeats 4000000 in
set_option maxRecDepth 100000 in
theorem cM_valueHere {l : Launch} {E : ic_E} {w : ic_w} (h10 : w 114 10 ≤ 1) {f : Nat → Nat} {n a : Nat} (hz : Tz w f n a) : ic_C l E mX12_valueHere 6 0 0 False [ic_pt E 114] SHs (hn w) SHs (ic_qi (fun v_ h_ => v_ = nI (tk_val f n a) ∧ ∃ w2, h_ = hn w2 ∧ Fw w w2 ∧ Tz w2 f n (if w 114 10 = 0 ∧ tk_ov f n a ≠ 0 then tk_z f n a else a) ∧ w2 114 10 = if w 114 10 = 0 ∧ tk_ov f n a ≠ 0 then 0 else 1)) := by
  refine ic_intro (by decide +kernel) (Nat.le_of_ble_eq_true rfl) ?_
  show xx l E _ _ 0 [(0, ic_pt E 114)] _ _ _
  have hF_ := tk_F_le f n a
  have he_ := tk_e_le (f := f) hz.2.1
  have hb_ := hz.b
  have hk_ := tk_k_le f n a
  refine xx_aload_nP (pc := 0) dX12_valueHere_0 0 rfl rfl ?_
  refine xx_callV0 (pc := 1) (st := []) sh_114 (cM_factHere (w := w) (f := f) (n := n) hz.b.1 hz.b.2.2.1 hz.b.2.2.2.1 hz.b.2.2.2.2.1 hz.1) kX12_factHere vX12_195_12 dX12_valueHere_1 rfl rfl (Nat.le_of_ble_eq_true rfl) ⟨Nat.le_of_ble_eq_true rfl, Nat.le_of_ble_eq_true rfl⟩ ⟨Nat.zero_le _, Nat.zero_le _⟩ (ic_ke ?_)
  refine xx_eqI (y := nI (tk_F f n a)) (by rw [hz.2.2.1, hz.2.2.2.1, hz.2.2.2.2.1]; rfl) ?_
  refine xx_istore_n (L' := [(1, .int (nI (tk_F f n a))), (0, ic_pt E 114)]) (pc := 4) dX12_valueHere_4 rfl (Nat.le_of_ble_eq_true rfl) rfl ?_
  refine xx_iload_n (pc := 5) dX12_valueHere_5 0 rfl rfl ?_
  refine xx_if_ltS (pc := 6) 17 dX12_valueHere_6 rfl (by omega) (fun c1 => ?_) (fun c1 => ?_)
  · refine xx_aload_nP (pc := 17) dX12_valueHere_17 1 rfl rfl ?_
    refine xx_getN (pc := 18) dX12_valueHere_18 sh_114 fX12_177_12 rfl ?_
    refine xx_eqI (y := nI (tk_n f n a)) (by rw [hz.2.2.2.2.2]) ?_
    refine xx_istore_n (L' := [(2, .int (nI (tk_n f n a))), (1, .int (nI (tk_F f n a))), (0, ic_pt E 114)]) (pc := 21) dX12_valueHere_21 rfl (Nat.le_of_ble_eq_true rfl) rfl ?_
    refine xx_aload_nP (pc := 22) dX12_valueHere_22 2 rfl rfl ?_
    refine xx_iload_n (pc := 23) dX12_valueHere_23 1 rfl rfl ?_
    refine xx_if_geS (pc := 24) 48 dX12_valueHere_24 rfl (by omega) (fun c2 => ?_) (fun c2 => ?_)
    · refine xx_iconst (pc := 48) dX12_valueHere_48 cc_iconst_1 ?_
      refine xx_goto (pc := 49) 53 dX12_valueHere_49 rfl ?_
      refine xx_callV0 (pc := 53) (st := []) sh_114 (cM_needs (w := w) (b := 1) (by omega) h10 hz) kX12_needs vX12_198_12 dX12_valueHere_53 rfl rfl (Nat.le_of_ble_eq_true rfl) ⟨Nat.le_of_ble_eq_true rfl, Nat.le_of_ble_eq_true rfl⟩ ⟨Nat.zero_le _, Nat.zero_le _⟩ (ic_kv (fun h_ qw3 => ?_))
      obtain ⟨w3, rfl, y_w3, z_w3, v_w3⟩ := qw3
      have p_w3 : w3 114 10 ≤ 1 := by rw [v_w3]; split <;> omega
      have x_w3 := y_w3
      refine xx_iload_n (pc := 56) dX12_valueHere_56 0 rfl rfl ?_
      exact xx_iret (pc := 57) dX12_valueHere_57 rfl (rfl) (Nat.le_refl _) (Nat.le_refl _) (ic_ri ⟨congrArg nI (show _ = tk_val f n a from (if_pos (by omega)).symm), w3, rfl, x_w3, by rw [show tk_ov f n a = 1 from if_pos (by omega)]; exact z_w3, by rw [show tk_ov f n a = 1 from if_pos (by omega)]; exact v_w3⟩)
    · refine xx_aload_nP (pc := 27) dX12_valueHere_27 2 rfl rfl ?_
      refine xx_getN (pc := 28) dX12_valueHere_28 sh_114 fX12_174_12 rfl ?_
      refine xx_eqI (y := nI (tk_k f n a)) (by rw [hz.2.2.1]) ?_
      refine xx_iconst (pc := 31) dX12_valueHere_31 cc_iconst_2 ?_
      refine xx_icmp_neN (pc := 32) 52 dX12_valueHere_32 rfl (by omega) (by omega) (fun c5 => ?_) (fun c5 => ?_)
      · refine xx_iconst (pc := 52) dX12_valueHere_52 cc_iconst_0 ?_
        refine xx_callV0 (pc := 53) (st := []) sh_114 (cM_needs (w := w) (b := 0) (by omega) h10 hz) kX12_needs vX12_198_12 dX12_valueHere_53 rfl rfl (Nat.le_of_ble_eq_true rfl) ⟨Nat.le_of_ble_eq_true rfl, Nat.le_of_ble_eq_true rfl⟩ ⟨Nat.zero_le _, Nat.zero_le _⟩ (ic_kv (fun h_ qw6 => ?_))
        obtain ⟨w6, rfl, y_w6, z_w6, v_w6⟩ := qw6
        have p_w6 : w6 114 10 ≤ 1 := by rw [v_w6]; split <;> omega
        have x_w6 := y_w6
        refine xx_iload_n (pc := 56) dX12_valueHere_56 0 rfl rfl ?_
        exact xx_iret (pc := 57) dX12_valueHere_57 rfl (rfl) (Nat.le_refl _) (Nat.le_refl _) (ic_ri ⟨congrArg nI (show _ = tk_val f n a from (if_pos (by omega)).symm), w6, rfl, x_w6, by rw [show tk_ov f n a = 0 from if_neg (by omega)]; exact z_w6, by rw [show tk_ov f n a = 0 from if_neg (by omega)]; exact v_w6⟩)
      · refine xx_aload_nP (pc := 35) dX12_valueHere_35 2 rfl rfl ?_
        refine xx_getN (pc := 36) dX12_valueHere_36 sh_114 fX12_159_12 rfl ?_
        refine xx_eqI (y := nI (tk_e f n a)) (by rw [hz.2.2.2.2.1]) ?_
        refine xx_aload_nP (pc := 39) dX12_valueHere_39 2 rfl rfl ?_
        refine xx_getN (pc := 40) dX12_valueHere_40 sh_114 fX12_162_12 rfl ?_
        refine xx_eqI (y := nI (a)) (by rw [hz.2.2.2.1]) ?_
        refine xx_isubN (pc := 43) dX12_valueHere_43 (by omega) ?_
        refine xx_iconst (pc := 44) dX12_valueHere_44 cc_iconst_4 ?_
        refine xx_icmp_gtN (pc := 45) 52 dX12_valueHere_45 rfl (by omega) (by omega) (fun c8 => ?_) (fun c8 => ?_)
        · refine xx_iconst (pc := 52) dX12_valueHere_52 cc_iconst_0 ?_
          refine xx_callV0 (pc := 53) (st := []) sh_114 (cM_needs (w := w) (b := 0) (by omega) h10 hz) kX12_needs vX12_198_12 dX12_valueHere_53 rfl rfl (Nat.le_of_ble_eq_true rfl) ⟨Nat.le_of_ble_eq_true rfl, Nat.le_of_ble_eq_true rfl⟩ ⟨Nat.zero_le _, Nat.zero_le _⟩ (ic_kv (fun h_ qw9 => ?_))
          obtain ⟨w9, rfl, y_w9, z_w9, v_w9⟩ := qw9
          have p_w9 : w9 114 10 ≤ 1 := by rw [v_w9]; split <;> omega
          have x_w9 := y_w9
          refine xx_iload_n (pc := 56) dX12_valueHere_56 0 rfl rfl ?_
          exact xx_iret (pc := 57) dX12_valueHere_57 rfl (rfl) (Nat.le_refl _) (Nat.le_refl _) (ic_ri ⟨congrArg nI (show _ = tk_val f n a from (if_pos (by omega)).symm), w9, rfl, x_w9, by rw [show tk_ov f n a = 0 from if_neg (by omega)]; exact z_w9, by rw [show tk_ov f n a = 0 from if_neg (by omega)]; exact v_w9⟩)
        · refine xx_iconst (pc := 48) dX12_valueHere_48 cc_iconst_1 ?_
          refine xx_goto (pc := 49) 53 dX12_valueHere_49 rfl ?_
          refine xx_callV0 (pc := 53) (st := []) sh_114 (cM_needs (w := w) (b := 1) (by omega) h10 hz) kX12_needs vX12_198_12 dX12_valueHere_53 rfl rfl (Nat.le_of_ble_eq_true rfl) ⟨Nat.le_of_ble_eq_true rfl, Nat.le_of_ble_eq_true rfl⟩ ⟨Nat.zero_le _, Nat.zero_le _⟩ (ic_kv (fun h_ qw11 => ?_))
          obtain ⟨w11, rfl, y_w11, z_w11, v_w11⟩ := qw11
          have p_w11 : w11 114 10 ≤ 1 := by rw [v_w11]; split <;> omega
          have x_w11 := y_w11
          refine xx_iload_n (pc := 56) dX12_valueHere_56 0 rfl rfl ?_
          exact xx_iret (pc := 57) dX12_valueHere_57 rfl (rfl) (Nat.le_refl _) (Nat.le_refl _) (ic_ri ⟨congrArg nI (show _ = tk_val f n a from (if_pos (by omega)).symm), w11, rfl, x_w11, by rw [show tk_ov f n a = 1 from if_pos (by omega)]; exact z_w11, by rw [show tk_ov f n a = 1 from if_pos (by omega)]; exact v_w11⟩)
  · refine xx_sipush (pc := 9) dX12_valueHere_9 cc_sipush_10000 ?_
    refine xx_iload_n (pc := 12) dX12_valueHere_12 0 rfl rfl ?_
    refine xx_iaddN (pc := 13) dX12_valueHere_13 ?_
    refine xx_goto (pc := 14) 21 dX12_valueHere_14 rfl ?_
    refine xx_eqI (y := nI (10000 + (tk_F f n a))) (rfl) ?_
    refine xx_istore_n (L' := [(2, .int (nI (10000 + (tk_F f n a)))), (1, .int (nI (tk_F f n a))), (0, ic_pt E 114)]) (pc := 21) dX12_valueHere_21 rfl (Nat.le_of_ble_eq_true rfl) rfl ?_
    refine xx_aload_nP (pc := 22) dX12_valueHere_22 2 rfl rfl ?_
    refine xx_iload_n (pc := 23) dX12_valueHere_23 1 rfl rfl ?_
    refine xx_if_geS (pc := 24) 48 dX12_valueHere_24 rfl (by omega) (fun c13 => ?_) (fun c13 => ?_)
    · refine xx_iconst (pc := 48) dX12_valueHere_48 cc_iconst_1 ?_
      refine xx_goto (pc := 49) 53 dX12_valueHere_49 rfl ?_
      refine xx_callV0 (pc := 53) (st := []) sh_114 (cM_needs (w := w) (b := 1) (by omega) h10 hz) kX12_needs vX12_198_12 dX12_valueHere_53 rfl rfl (Nat.le_of_ble_eq_true rfl) ⟨Nat.le_of_ble_eq_true rfl, Nat.le_of_ble_eq_true rfl⟩ ⟨Nat.zero_le _, Nat.zero_le _⟩ (ic_kv (fun h_ qw14 => ?_))
      obtain ⟨w14, rfl, y_w14, z_w14, v_w14⟩ := qw14
      have p_w14 : w14 114 10 ≤ 1 := by rw [v_w14]; split <;> omega
      have x_w14 := y_w14
      refine xx_iload_n (pc := 56) dX12_valueHere_56 0 rfl rfl ?_
      exact xx_iret (pc := 57) dX12_valueHere_57 rfl (rfl) (Nat.le_refl _) (Nat.le_refl _) (ic_ri ⟨congrArg nI (show _ = tk_val f n a from (if_neg (by omega)).symm), w14, rfl, x_w14, by rw [show tk_ov f n a = 1 from if_pos (by omega)]; exact z_w14, by rw [show tk_ov f n a = 1 from if_pos (by omega)]; exact v_w14⟩)
    · refine xx_aload_nP (pc := 27) dX12_valueHere_27 2 rfl rfl ?_
      refine xx_getN (pc := 28) dX12_valueHere_28 sh_114 fX12_174_12 rfl ?_
      refine xx_eqI (y := nI (tk_k f n a)) (by rw [hz.2.2.1]) ?_
      refine xx_iconst (pc := 31) dX12_valueHere_31 cc_iconst_2 ?_
      refine xx_icmp_neN (pc := 32) 52 dX12_valueHere_32 rfl (by omega) (by omega) (fun c16 => ?_) (fun c16 => ?_)
      · refine xx_iconst (pc := 52) dX12_valueHere_52 cc_iconst_0 ?_
        refine xx_callV0 (pc := 53) (st := []) sh_114 (cM_needs (w := w) (b := 0) (by omega) h10 hz) kX12_needs vX12_198_12 dX12_valueHere_53 rfl rfl (Nat.le_of_ble_eq_true rfl) ⟨Nat.le_of_ble_eq_true rfl, Nat.le_of_ble_eq_true rfl⟩ ⟨Nat.zero_le _, Nat.zero_le _⟩ (ic_kv (fun h_ qw17 => ?_))
        obtain ⟨w17, rfl, y_w17, z_w17, v_w17⟩ := qw17
        have p_w17 : w17 114 10 ≤ 1 := by rw [v_w17]; split <;> omega
        have x_w17 := y_w17
        refine xx_iload_n (pc := 56) dX12_valueHere_56 0 rfl rfl ?_
        exact xx_iret (pc := 57) dX12_valueHere_57 rfl (rfl) (Nat.le_refl _) (Nat.le_refl _) (ic_ri ⟨congrArg nI (show _ = tk_val f n a from (if_neg (by omega)).symm), w17, rfl, x_w17, by rw [show tk_ov f n a = 0 from if_neg (by omega)]; exact z_w17, by rw [show tk_ov f n a = 0 from if_neg (by omega)]; exact v_w17⟩)
      · refine xx_aload_nP (pc := 35) dX12_valueHere_35 2 rfl rfl ?_
        refine xx_getN (pc := 36) dX12_valueHere_36 sh_114 fX12_159_12 rfl ?_
        refine xx_eqI (y := nI (tk_e f n a)) (by rw [hz.2.2.2.2.1]) ?_
        refine xx_aload_nP (pc := 39) dX12_valueHere_39 2 rfl rfl ?_
        refine xx_getN (pc := 40) dX12_valueHere_40 sh_114 fX12_162_12 rfl ?_
        refine xx_eqI (y := nI (a)) (by rw [hz.2.2.2.1]) ?_
        refine xx_isubN (pc := 43) dX12_valueHere_43 (by omega) ?_
        refine xx_iconst (pc := 44) dX12_valueHere_44 cc_iconst_4 ?_
        refine xx_icmp_gtN (pc := 45) 52 dX12_valueHere_45 rfl (by omega) (by omega) (fun c19 => ?_) (fun c19 => ?_)
        · refine xx_iconst (pc := 52) dX12_valueHere_52 cc_iconst_0 ?_
          refine xx_callV0 (pc := 53) (st := []) sh_114 (cM_needs (w := w) (b := 0) (by omega) h10 hz) kX12_needs vX12_198_12 dX12_valueHere_53 rfl rfl (Nat.le_of_ble_eq_true rfl) ⟨Nat.le_of_ble_eq_true rfl, Nat.le_of_ble_eq_true rfl⟩ ⟨Nat.zero_le _, Nat.zero_le _⟩ (ic_kv (fun h_ qw20 => ?_))
          obtain ⟨w20, rfl, y_w20, z_w20, v_w20⟩ := qw20
          have p_w20 : w20 114 10 ≤ 1 := by rw [v_w20]; split <;> omega
          have x_w20 := y_w20
          refine xx_iload_n (pc := 56) dX12_valueHere_56 0 rfl rfl ?_
          exact xx_iret (pc := 57) dX12_valueHere_57 rfl (rfl) (Nat.le_refl _) (Nat.le_refl _) (ic_ri ⟨congrArg nI (show _ = tk_val f n a from (if_neg (by omega)).symm), w20, rfl, x_w20, by rw [show tk_ov f n a = 0 from if_neg (by omega)]; exact z_w20, by rw [show tk_ov f n a = 0 from if_neg (by omega)]; exact v_w20⟩)
        · refine xx_iconst (pc := 48) dX12_valueHere_48 cc_iconst_1 ?_
          refine xx_goto (pc := 49) 53 dX12_valueHere_49 rfl ?_
          refine xx_callV0 (pc := 53) (st := []) sh_114 (cM_needs (w := w) (b := 1) (by omega) h10 hz) kX12_needs vX12_198_12 dX12_valueHere_53 rfl rfl (Nat.le_of_ble_eq_true rfl) ⟨Nat.le_of_ble_eq_true rfl, Nat.le_of_ble_eq_true rfl⟩ ⟨Nat.zero_le _, Nat.zero_le _⟩ (ic_kv (fun h_ qw22 => ?_))
          obtain ⟨w22, rfl, y_w22, z_w22, v_w22⟩ := qw22
          have p_w22 : w22 114 10 ≤ 1 := by rw [v_w22]; split <;> omega
          have x_w22 := y_w22
          refine xx_iload_n (pc := 56) dX12_valueHere_56 0 rfl rfl ?_
          exact xx_iret (pc := 57) dX12_valueHere_57 rfl (rfl) (Nat.le_refl _) (Nat.le_refl _) (ic_ri ⟨congrArg nI (show _ = tk_val f n a from (if_neg (by omega)).symm), w22, rfl, x_w22, by rw [show tk_ov f n a = 1 from if_pos (by omega)]; exact z_w22, by rw [show tk_ov f n a = 1 from if_pos (by omega)]; exact v_w22⟩)

