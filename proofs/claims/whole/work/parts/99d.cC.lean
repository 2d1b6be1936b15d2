/-! the class's reader: values, steps -/
theorem en_or {a b c : Nat} (ha : a < 16384) (hb : b < 16384) (hc : c ≤ 2) : (a ||| b * 2 ^ 14) ||| c * 2 ^ 28 = a + b * 16384 + c * 268435456 := by
  have h1 : a ||| b * 2 ^ 14 = a + b * 16384 := by
    rw [Nat.or_comm, Nat.mul_comm b, ← Nat.two_pow_add_eq_or_of_lt (i := 14) (by omega : a < 2 ^ 14) b]
    omega
  have h2 : a + b * 16384 < 2 ^ 28 := by omega
  rw [h1, Nat.or_comm, Nat.mul_comm c, ← Nat.two_pow_add_eq_or_of_lt (i := 28) h2 c]
  omega
theorem tk_v_9 {f : Nat → Nat} {k a : Nat} (h : tk_v f k a 0 ≤ 9999) : tk_v f (k + 1) a 0 = tk_v f k a 0 * 10 + f (a + k) - 48 := by rw [tk_v_s, if_neg (by omega)]
def tk_vr (f : Nat → Nat) (n a : Nat) : Nat := if tk_ov f n a ≠ 0 then tk_val f n a else 4294967295
theorem tk_F_2 {f : Nat → Nat} {n a : Nat} (h : tk_k f n a ≠ 1) : tk_F f n a = 4294967295 := Classical.byContradiction fun y => h (tk_ft_k y)
theorem tk_vr_n {f : Nat → Nat} {n a : Nat} (h : tk_k f n a = 2) (g : tk_e f n a - a ≤ 4) : tk_vr f n a = tk_v f (tk_e f n a - a) a 0 := by
  have hF := tk_F_2 (f := f) (n := n) (a := a) (by omega)
  have ho : tk_ov f n a = 1 := if_pos (Or.inr ⟨h, g⟩)
  unfold tk_vr
  rw [if_pos (by omega)]
  unfold tk_val
  rw [if_pos hF]
  unfold tk_n
  rw [if_pos h]
theorem tk_vr_F {f : Nat → Nat} {n a k : Nat} (h : tk_F f n a = k) (hk : k ≤ 4) : tk_vr f n a = 10000 + k := by
  have ho : tk_ov f n a = 1 := if_pos (Or.inl (by omega))
  unfold tk_vr
  rw [if_pos (by omega)]
  unfold tk_val
  rw [if_neg (by omega), h]
theorem tk_vr_no {f : Nat → Nat} {n a : Nat} (h : tk_F f n a = 4294967295) (g : ¬ (tk_k f n a = 2 ∧ tk_e f n a - a ≤ 4)) : tk_vr f n a = 4294967295 := by
  have ho : tk_ov f n a = 0 := if_neg (by omega)
  unfold tk_vr
  rw [if_neg (by omega)]
set_option maxHeartbeats 4000000 in
set_option maxRecDepth 100000 in
theorem cC_valueRead {l : Launch} {E : ic_E} {w : ic_w} (hP : Value.category E.2.2.2.2.2.2 = 1) {f : Nat → Nat} {n a : Nat} (z_w : Ty w f n a) : ic_C l E mX10_valueRead 6 0 0 False [ic_pt E 5] SHs (hn w) SHs (ic_qe (nI (tk_vr f n a)) (hn w)) := by
  refine ic_intro (by decide +kernel) (Nat.le_of_ble_eq_true rfl) ?_
  show xx l E _ _ 0 [(0, ic_pt E 5)] _ _ _
  have hn2 := z_w.1.2.2.1
  have ha := z_w.2.1
  have he_ := tk_e_le (f := f) z_w.2.1
  have hk3_ := (tk_k_le f n a).1
  have c59 : ¬ (tk_k f n a = 2 ∧ tk_e f n a - a ≤ 4) → xx l E (ic_fr E mX10_valueRead 6 0 0 False SHs (ic_qe (nI (tk_vr f n a)) (hn w))) (0, 0) 59 [(0, ic_pt E 5)] [] SHs (hn w) := by
    intro hno
    refine xx_aload_nP (pc := 59) dX10_valueRead_59 0 rfl rfl ?_
    refine xx_ldcS (pc := 60) 8 dX10_valueRead_60 rfl rfl ?_
    refine xx_callV0 (pc := 62) (st := []) sh_5 (cC_isNamed (w := w) (i := 8) (wl := [116, 114, 97, 105, 110]) hP (by decide) (by decide +kernel) z_w) kX10_isNamed vX10_72_10 dX10_valueRead_62 rfl rfl (Nat.le_of_ble_eq_true rfl) ⟨Nat.le_of_ble_eq_true rfl, Nat.le_of_ble_eq_true rfl⟩ ⟨Nat.zero_le _, Nat.zero_le _⟩ (ic_ke ?_)
    refine xx_if_eqB (pc := 65) 72 dX10_valueRead_65 rfl (fun c401 => ?_) (fun c401 => ?_)
    · refine xx_aload_nP (pc := 72) dX10_valueRead_72 0 rfl rfl ?_
      refine xx_ldcS (pc := 73) 9 dX10_valueRead_73 rfl rfl ?_
      refine xx_callV0 (pc := 75) (st := []) sh_5 (cC_isNamed (w := w) (i := 9) (wl := [100, 101, 112, 116, 104]) hP (by decide) (by decide +kernel) z_w) kX10_isNamed vX10_72_10 dX10_valueRead_75 rfl rfl (Nat.le_of_ble_eq_true rfl) ⟨Nat.le_of_ble_eq_true rfl, Nat.le_of_ble_eq_true rfl⟩ ⟨Nat.zero_le _, Nat.zero_le _⟩ (ic_ke ?_)
      refine xx_if_eqB (pc := 78) 85 dX10_valueRead_78 rfl (fun c402 => ?_) (fun c402 => ?_)
      · refine xx_aload_nP (pc := 85) dX10_valueRead_85 0 rfl rfl ?_
        refine xx_ldcS (pc := 86) 10 dX10_valueRead_86 rfl rfl ?_
        refine xx_callV0 (pc := 88) (st := []) sh_5 (cC_isNamed (w := w) (i := 10) (wl := [119, 105, 115, 104]) hP (by decide) (by decide +kernel) z_w) kX10_isNamed vX10_72_10 dX10_valueRead_88 rfl rfl (Nat.le_of_ble_eq_true rfl) ⟨Nat.le_of_ble_eq_true rfl, Nat.le_of_ble_eq_true rfl⟩ ⟨Nat.zero_le _, Nat.zero_le _⟩ (ic_ke ?_)
        refine xx_if_eqB (pc := 91) 98 dX10_valueRead_91 rfl (fun c403 => ?_) (fun c403 => ?_)
        · refine xx_aload_nP (pc := 98) dX10_valueRead_98 0 rfl rfl ?_
          refine xx_ldcS (pc := 99) 11 dX10_valueRead_99 rfl rfl ?_
          refine xx_callV0 (pc := 101) (st := []) sh_5 (cC_isNamed (w := w) (i := 11) (wl := [114, 117, 115, 104]) hP (by decide) (by decide +kernel) z_w) kX10_isNamed vX10_72_10 dX10_valueRead_101 rfl rfl (Nat.le_of_ble_eq_true rfl) ⟨Nat.le_of_ble_eq_true rfl, Nat.le_of_ble_eq_true rfl⟩ ⟨Nat.zero_le _, Nat.zero_le _⟩ (ic_ke ?_)
          refine xx_if_eqB (pc := 104) 111 dX10_valueRead_104 rfl (fun c404 => ?_) (fun c404 => ?_)
          · refine xx_aload_nP (pc := 111) dX10_valueRead_111 0 rfl rfl ?_
            refine xx_ldcS (pc := 112) 12 dX10_valueRead_112 rfl rfl ?_
            refine xx_callV0 (pc := 114) (st := []) sh_5 (cC_isNamed (w := w) (i := 12) (wl := [110, 117, 109, 98, 101, 114]) hP (by decide) (by decide +kernel) z_w) kX10_isNamed vX10_72_10 dX10_valueRead_114 rfl rfl (Nat.le_of_ble_eq_true rfl) ⟨Nat.le_of_ble_eq_true rfl, Nat.le_of_ble_eq_true rfl⟩ ⟨Nat.zero_le _, Nat.zero_le _⟩ (ic_ke ?_)
            refine xx_if_eqB (pc := 117) 126 dX10_valueRead_117 rfl (fun c405 => ?_) (fun c405 => ?_)
            · refine xx_iconst (pc := 126) dX10_valueRead_126 cc_iconst_m1 ?_
              exact xx_iret (pc := 127) dX10_valueRead_127 rfl (rfl) (Nat.le_refl _) (Nat.le_refl _) (ic_re (tk_vr_no (by unfold tk_F tk_ft; rw [if_neg (show ¬ tk_w f n (tk_k f n a) a (tk_e f n a) [116, 114, 97, 105, 110] = true from c401), if_neg (show ¬ tk_w f n (tk_k f n a) a (tk_e f n a) [100, 101, 112, 116, 104] = true from c402), if_neg (show ¬ tk_w f n (tk_k f n a) a (tk_e f n a) [119, 105, 115, 104] = true from c403), if_neg (show ¬ tk_w f n (tk_k f n a) a (tk_e f n a) [114, 117, 115, 104] = true from c404), if_neg (show ¬ tk_w f n (tk_k f n a) a (tk_e f n a) [110, 117, 109, 98, 101, 114] = true from c405)]) hno).symm)
            · refine xx_sipush (pc := 120) dX10_valueRead_120 cc_sipush_10004 ?_
              refine xx_goto (pc := 123) 127 dX10_valueRead_123 rfl ?_
              exact xx_iret (pc := 127) dX10_valueRead_127 rfl (rfl) (Nat.le_refl _) (Nat.le_refl _) (ic_re (tk_vr_F (k := 4) (by unfold tk_F tk_ft; rw [if_neg (show ¬ tk_w f n (tk_k f n a) a (tk_e f n a) [116, 114, 97, 105, 110] = true from c401), if_neg (show ¬ tk_w f n (tk_k f n a) a (tk_e f n a) [100, 101, 112, 116, 104] = true from c402), if_neg (show ¬ tk_w f n (tk_k f n a) a (tk_e f n a) [119, 105, 115, 104] = true from c403), if_neg (show ¬ tk_w f n (tk_k f n a) a (tk_e f n a) [114, 117, 115, 104] = true from c404), if_pos (show tk_w f n (tk_k f n a) a (tk_e f n a) [110, 117, 109, 98, 101, 114] = true from c405)]) (by decide)).symm)
          · refine xx_sipush (pc := 107) dX10_valueRead_107 cc_sipush_10003 ?_
            exact xx_iret (pc := 110) dX10_valueRead_110 rfl (rfl) (Nat.le_refl _) (Nat.le_refl _) (ic_re (tk_vr_F (k := 3) (by unfold tk_F tk_ft; rw [if_neg (show ¬ tk_w f n (tk_k f n a) a (tk_e f n a) [116, 114, 97, 105, 110] = true from c401), if_neg (show ¬ tk_w f n (tk_k f n a) a (tk_e f n a) [100, 101, 112, 116, 104] = true from c402), if_neg (show ¬ tk_w f n (tk_k f n a) a (tk_e f n a) [119, 105, 115, 104] = true from c403), if_pos (show tk_w f n (tk_k f n a) a (tk_e f n a) [114, 117, 115, 104] = true from c404)]) (by decide)).symm)
        · refine xx_sipush (pc := 94) dX10_valueRead_94 cc_sipush_10002 ?_
          exact xx_iret (pc := 97) dX10_valueRead_97 rfl (rfl) (Nat.le_refl _) (Nat.le_refl _) (ic_re (tk_vr_F (k := 2) (by unfold tk_F tk_ft; rw [if_neg (show ¬ tk_w f n (tk_k f n a) a (tk_e f n a) [116, 114, 97, 105, 110] = true from c401), if_neg (show ¬ tk_w f n (tk_k f n a) a (tk_e f n a) [100, 101, 112, 116, 104] = true from c402), if_pos (show tk_w f n (tk_k f n a) a (tk_e f n a) [119, 105, 115, 104] = true from c403)]) (by decide)).symm)
      · refine xx_sipush (pc := 81) dX10_valueRead_81 cc_sipush_10001 ?_
        exact xx_iret (pc := 84) dX10_valueRead_84 rfl (rfl) (Nat.le_refl _) (Nat.le_refl _) (ic_re (tk_vr_F (k := 1) (by unfold tk_F tk_ft; rw [if_neg (show ¬ tk_w f n (tk_k f n a) a (tk_e f n a) [116, 114, 97, 105, 110] = true from c401), if_pos (show tk_w f n (tk_k f n a) a (tk_e f n a) [100, 101, 112, 116, 104] = true from c402)]) (by decide)).symm)
    · refine xx_sipush (pc := 68) dX10_valueRead_68 cc_sipush_10000 ?_
      exact xx_iret (pc := 71) dX10_valueRead_71 rfl (rfl) (Nat.le_refl _) (Nat.le_refl _) (ic_re (tk_vr_F (k := 0) (by unfold tk_F tk_ft; rw [if_pos (show tk_w f n (tk_k f n a) a (tk_e f n a) [116, 114, 97, 105, 110] = true from c401)]) (by decide)).symm)
  refine xx_aload_nP (pc := 0) dX10_valueRead_0 0 rfl rfl ?_
  refine xx_getN (pc := 1) dX10_valueRead_1 sh_5 fX10_56_10 rfl ?_
  refine xx_eqI (y := nI (tk_k f n a)) (by rw [z_w.2.2.2.2]) ?_
  refine xx_iconst (pc := 4) dX10_valueRead_4 cc_iconst_2 ?_
  refine xx_icmp_neN (pc := 5) 59 dX10_valueRead_5 rfl (by omega) (by omega) (fun c1 => ?_) (fun c1 => ?_)
  · exact xx_sub [0] rfl (c59 (by omega))
  · refine xx_aload_nP (pc := 8) dX10_valueRead_8 0 rfl rfl ?_
    refine xx_getN (pc := 9) dX10_valueRead_9 sh_5 fX10_50_10 rfl ?_
    refine xx_eqI (y := nI (tk_e f n a)) (by rw [z_w.2.2.2.1]) ?_
    refine xx_aload_nP (pc := 12) dX10_valueRead_12 0 rfl rfl ?_
    refine xx_getN (pc := 13) dX10_valueRead_13 sh_5 fX10_63_10 rfl ?_
    refine xx_eqI (y := nI (a)) (by rw [z_w.2.2.1]) ?_
    refine xx_isubN (pc := 16) dX10_valueRead_16 (by omega) ?_
    refine xx_iconst (pc := 17) dX10_valueRead_17 cc_iconst_4 ?_
    refine xx_icmp_gtN (pc := 18) 59 dX10_valueRead_18 rfl (by omega) (by omega) (fun c2 => ?_) (fun c2 => ?_)
    · exact xx_sub [0] rfl (c59 (by omega))
    · have hk2_ : tk_k f n a = 2 := by omega
      have hl4_ : tk_e f n a - a ≤ 4 := by omega
      refine xx_iconst (pc := 21) dX10_valueRead_21 cc_iconst_0 ?_
      refine xx_istore_n (L' := [(1, .int (nI 0)), (0, ic_pt E 5)]) (pc := 22) dX10_valueRead_22 rfl (Nat.le_of_ble_eq_true rfl) rfl ?_
      refine xx_aload_nP (pc := 23) dX10_valueRead_23 1 rfl rfl ?_
      refine xx_getN (pc := 24) dX10_valueRead_24 sh_5 fX10_63_10 rfl ?_
      refine xx_eqI (y := nI (a)) (by rw [z_w.2.2.1]) ?_
      refine xx_istore_n (L' := [(2, .int (nI a)), (1, .int (nI 0)), (0, ic_pt E 5)]) (pc := 27) dX10_valueRead_27 rfl (Nat.le_of_ble_eq_true rfl) rfl ?_
      have lp : ∀ (n_ : Nat) (i v : Nat), a ≤ i ∧ i ≤ tk_e f n a → v = tk_v f (i - a) a 0 → tk_e f n a - i < n_ → xx l E (ic_fr E mX10_valueRead 6 0 0 False SHs (ic_qe (nI (tk_vr f n a)) (hn w))) (0, 0) 28 [(2, .int (nI i)), (1, .int (nI v)), (0, ic_pt E 5)] [] SHs (hn w) := by
        intro n_
        induction n_ with
        | zero => intro i v hi hv hm_; exact absurd hm_ (Nat.not_lt_zero _)
        | succ n_ ih_ =>
          intro i v hi hv hm_
          refine xx_iload_n (pc := 28) dX10_valueRead_28 0 rfl rfl ?_
          refine xx_aload_nP (pc := 29) dX10_valueRead_29 2 rfl rfl ?_
          refine xx_getN (pc := 30) dX10_valueRead_30 sh_5 fX10_50_10 rfl ?_
          refine xx_eqI (y := nI (tk_e f n a)) (by rw [z_w.2.2.2.1]) ?_
          refine xx_icmp_geN (pc := 33) 57 dX10_valueRead_33 rfl (by omega) (by omega) (fun c201 => ?_) (fun c201 => ?_)
          · refine xx_iload_n (pc := 57) dX10_valueRead_57 1 rfl rfl ?_
            exact xx_iret (pc := 58) dX10_valueRead_58 rfl (rfl) (Nat.le_refl _) (Nat.le_refl _) (ic_re (by rw [tk_vr_n hk2_ hl4_, hv, show i = tk_e f n a by omega]))
          · have hl_ := z_w.1.2.2.2 i (by omega)
            have hb_ := by_c hl_.2
            have hd_ := tk_dg hk2_ (i - a) (by omega)
            rw [show a + (i - a) = i by omega] at hd_
            have hv9_ : v ≤ 9999 := by rw [hv]; have := tk_v_b (f := f) (i - a) a (fun j hj => tk_dg hk2_ j (by omega)) (by omega); have : 10 ^ (i - a) ≤ 10 ^ 4 := Nat.pow_le_pow_right (by omega) (by omega); omega
            refine xx_iload_n (pc := 36) dX10_valueRead_36 1 rfl rfl ?_
            refine xx_bipush (pc := 37) dX10_valueRead_37 cc_bipush_10 ?_
            refine xx_imulN (pc := 39) dX10_valueRead_39 ?_
            refine xx_aload_nP (pc := 40) dX10_valueRead_40 2 rfl rfl ?_
            refine xx_getD (pc := 41) dX10_valueRead_41 sh_5 fX10_24_10 rfl rfl ?_
            refine xx_eqT (v2 := ic_pt E 4) (rv_hn (t := 5) z_w.1.1 (by omega)) ?_
            refine xx_iload_n (pc := 44) dX10_valueRead_44 0 rfl rfl ?_
            refine xx_baldN (pc := 45) dX10_valueRead_45 sh_4 (by omega) (by decide) ?_
            refine xx_eqI (y := nI (f i)) (by rw [hl_.1]; congr 1; omega) ?_
            refine xx_iaddN (pc := 46) dX10_valueRead_46 ?_
            refine xx_bipush (pc := 47) dX10_valueRead_47 cc_bipush_48 ?_
            refine xx_isubN (pc := 49) dX10_valueRead_49 (by omega) ?_
            refine xx_istore_n (L' := [(1, .int (nI (((v * 10) + (f i)) - 48))), (2, .int (nI i)), (0, ic_pt E 5)]) (pc := 50) dX10_valueRead_50 rfl (Nat.le_of_ble_eq_true rfl) rfl ?_
            refine xx_iincN (L' := [(2, .int (nI (i + 1))), (1, .int (nI (((v * 10) + (f i)) - 48))), (0, ic_pt E 5)]) (pc := 51) dX10_valueRead_51 1 rfl cc_iconst_1 (Nat.le_of_ble_eq_true rfl) rfl ?_
            refine xx_goto (pc := 54) 28 dX10_valueRead_54 rfl ?_
            exact xx_sub [0, 1, 2] rfl (ih_ (i + 1) (((v * 10) + (f i)) - 48) (by omega) (by rw [show i + 1 - a = (i - a) + 1 by omega, tk_v_9 (by rw [← hv]; exact hv9_), ← hv, show a + (i - a) = i by omega]) (by omega))
      exact xx_sub [0, 1, 2] rfl (lp 201 a 0 (by omega) (by rw [Nat.sub_self]; rfl) (by omega))

set_option maxHeartbeats 4000000 in
set_option maxRecDepth 100000 in
theorem cC_emit0 {l : Launch} {E : ic_E} {w : ic_w} {x : Nat} (hx : x < 2 ^ 32) (h5 : w 5 5 < 200) : ic_C l E mX10_emit 1 0 0 False [ic_pt E 5, .int (nI x)] SHs (hn w) SHs (ic_qi (fun v_ h_ => v_ = nI 1 ∧ ∃ w2, h_ = hn w2 ∧ w2 = wu (wu w 9 (w 5 5) x) 5 5 (w 5 5 + 1))) := by
  refine ic_intro (by decide +kernel) (Nat.le_of_ble_eq_true rfl) ?_
  show xx l E _ _ 0 [(0, ic_pt E 5), (1, .int (nI x))] _ _ _
  refine xx_aload_nP (pc := 0) dX10_emit_0 0 rfl rfl ?_
  refine xx_getN (pc := 1) dX10_emit_1 sh_5 fX10_32_10 rfl ?_
  refine xx_aload_nP (pc := 4) dX10_emit_4 0 rfl rfl ?_
  refine xx_getR (pc := 5) 9 dX10_emit_5 sh_5 fX10_21_10 rfl rfl (by decide) ?_
  refine xx_alen (pc := 8) dX10_emit_8 sh_9 (by decide) (by decide) ?_
  refine xx_icmp_ltN (pc := 9) 14 dX10_emit_9 rfl (by omega) (by omega) (fun c1 => ?_) (fun c1 => by exfalso; omega)
  refine xx_aload_nP (pc := 14) dX10_emit_14 0 rfl rfl ?_
  refine xx_getR (pc := 15) 9 dX10_emit_15 sh_5 fX10_21_10 rfl rfl (by decide) ?_
  refine xx_aload_nP (pc := 18) dX10_emit_18 0 rfl rfl ?_
  refine xx_getN (pc := 19) dX10_emit_19 sh_5 fX10_32_10 rfl ?_
  refine xx_iload_n (pc := 22) dX10_emit_22 1 rfl rfl ?_
  refine xx_iastN (pc := 23) dX10_emit_23 sh_9 (by omega) (by decide) ?_
  refine xx_nw (fun w2 ew2 => ?_)
  have g_w2 : w2 5 5 = w 5 5 := by rw [ew2, wu_o _ _ _ _ (by decide)]
  refine xx_aload_nP (pc := 24) dX10_emit_24 0 rfl rfl ?_
  refine xx_dup (pc := 25) dX10_emit_25 rfl ?_
  refine xx_getN (pc := 26) dX10_emit_26 sh_5 fX10_32_10 rfl ?_
  refine xx_eqI (y := nI (w 5 5)) (by rw [g_w2]) ?_
  refine xx_iconst (pc := 29) dX10_emit_29 cc_iconst_1 ?_
  refine xx_iaddN (pc := 30) dX10_emit_30 ?_
  refine xx_putN (pc := 31) dX10_emit_31 sh_5 fX10_32_10 rfl rfl ?_
  refine xx_nw (fun w3 ew3 => ?_)
  refine xx_iconst (pc := 34) dX10_emit_34 cc_iconst_1 ?_
  exact xx_iret (pc := 35) dX10_emit_35 rfl (rfl) (Nat.le_refl _) (Nat.le_refl _) (ic_ri ⟨rfl, w3, rfl, by rw [ew3, ew2]⟩)

def cs_en (x : Nat × Nat × Nat) : Nat := mo_en x.1 x.2.1 x.2.2
/-- steps written from the place z on -/
def cs_cd (g : Nat → Nat) (z : Nat) : tk_L → Nat → Nat
  | [] => g
  | x :: L => cs_cd (fu g z (cs_en x)) (z + 1) L
theorem cs_cd_a (L K : tk_L) : ∀ g z, cs_cd g z (L ++ K) = cs_cd (cs_cd g z L) (z + L.length) K := by
  induction L with
  | nil => intro g z; rfl
  | cons x L ih =>
    intro g z
    show cs_cd (fu g z (cs_en x)) (z + 1) (L ++ K) = cs_cd (cs_cd (fu g z (cs_en x)) (z + 1) L) (z + (L.length + 1)) K
    rw [ih, show z + 1 + L.length = z + (L.length + 1) by omega]
/-- the draft's reader and its steps apart, nothing is changed -/
def Dw (w u : ic_w) : Prop := (∀ a, a ≠ 5 → a ≠ 9 → u a = w a) ∧ ∀ j, j < 8 → j ≠ 5 → u 5 j = w 5 j
theorem Dw.rf (w : ic_w) : Dw w w := ⟨fun _ _ _ => rfl, fun _ _ _ => rfl⟩
theorem Dw.tr {w u v : ic_w} (h : Dw w u) (g : Dw u v) : Dw w v := ⟨fun a h1 h2 => (g.1 a h1 h2).trans (h.1 a h1 h2), fun j hj h5 => (g.2 j hj h5).trans (h.2 j hj h5)⟩
theorem Ew.d {w u : ic_w} (h : Ew w u) : Dw w u := ⟨fun a h1 _ => h.1 a h1, fun j hj _ => h.2 j hj⟩
/-- behind what was read: the steps are L more -/
def Dk (w u : ic_w) (L : tk_L) : Prop := u 5 5 = w 5 5 + L.length ∧ u 9 = cs_cd (w 9) (w 5 5) L
theorem Dk.rf (w : ic_w) : Dk w w [] := ⟨rfl, rfl⟩
theorem Dk.tr {w u v : ic_w} {L K : tk_L} (h : Dk w u L) (g : Dk u v K) : Dk w v (L ++ K) := ⟨by rw [g.1, h.1, List.length_append]; omega, by rw [g.2, h.2, h.1, cs_cd_a]⟩
theorem Dk.e {w u v : ic_w} {L : tk_L} (h : Dk w u L) (g : Ew u v) : Dk w v L := ⟨(g.2 5 (by decide)).trans h.1, (g.1 9 (by decide)).trans h.2⟩
theorem cC_emit {l : Launch} {E : ic_E} {w : ic_w} {f : Nat → Nat} {n a : Nat} (z_w : Ty w f n a) (q : Nat × Nat × Nat) {x : Nat} (hq : x = cs_en q) (hx : x < 2 ^ 32) (h5 : w 5 5 < 200) : ic_C l E mX10_emit 1 0 0 False [ic_pt E 5, .int (nI x)] SHs (hn w) SHs (ic_qi (fun v_ h_ => v_ = nI 1 ∧ ∃ w2, h_ = hn w2 ∧ Dw w w2 ∧ Ty w2 f n a ∧ Dk w w2 [q])) := by
  refine ic_C.post (cC_emit0 hx h5) (fun r h' q0 => ?_)
  obtain ⟨v, e0, e1, w2, e2, e3⟩ := q0
  refine ⟨v, e0, e1, w2, e2, ⟨fun b h1 h2 => by rw [e3, wu_row _ _ _ h1, wu_row _ _ _ h2], fun j hj h => by rw [e3, wu_k _ _ _ _ h, wu_o _ _ _ _ (by decide)]⟩, z_w.of (fun j h6 _ => by rw [e3, wu_k _ _ _ _ (by omega), wu_o _ _ _ _ (by decide)]) (by rw [e3, wu_row _ _ _ (by decide), wu_row _ _ _ (by decide)]), by rw [e3, wu_s]; rfl, ?_⟩
  rw [e3, wu_row _ _ _ (by decide), wu_fu, hq]
  rfl
/-- the end of what reads: its answer, and where it then is -/
def cs_Q (w : ic_w) (f : Nat → Nat) (n : Nat) (r : tk_P) : Option Value → ic_H → Prop := ic_qi fun v_ h_ => v_ = nI (1 - r.1) ∧ ∃ w2, h_ = hn w2 ∧ Dw w w2 ∧ (r.1 = 0 → Ty w2 f n r.2.1 ∧ Dk w w2 r.2.2) ∧ (r.1 = 1 → w2 5 8 = r.2.1)
