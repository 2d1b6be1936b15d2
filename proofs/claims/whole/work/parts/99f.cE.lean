/-! the class's reader: a rule, all of them -/
/-- the draft's rules are those of the row s, and nothing lies behind them -/
def Cd (w : ic_w) (s : Nat → Nat) : Prop := Cr w 5 s ∧ w 5 5 = s 7 ∧ s 7 = if s 5 = 0 then 0 else s (75 + 4 * (s 5 - 1))
theorem cs_cd_k (L : tk_L) : ∀ (s g : Nat → Nat), (∀ k, k < s 7 → g k = mo_en (s (128 + 3 * k)) (s (129 + 3 * k)) (s (130 + 3 * k))) → ∀ k, k < s 7 + L.length → cs_cd g (s 7) L k = mo_en (tk_sts s L (128 + 3 * k)) (tk_sts s L (129 + 3 * k)) (tk_sts s L (130 + 3 * k)) := by
  induction L with
  | nil => intro s g h k hk; exact h k hk
  | cons x L ih =>
    intro s g h k hk
    have e7 := tk_s1_7 s x
    have i := ih (tk_s1 s x) (fu g (s 7) (cs_en x)) (fun q hq => by
      rw [e7] at hq
      by_cases z : q = s 7
      · rw [z, fu_s]
        unfold tk_s1
        rw [fu_n _ (by omega), fu_n _ (by omega), fu_n _ (by omega), fu_s, fu_n _ (by omega), fu_n _ (by omega), fu_s, fu_n _ (by omega), fu_s]
        rfl
      · rw [fu_n _ z, h q (by omega)]
        unfold tk_s1
        rw [fu_n _ (by omega), fu_n _ (by omega), fu_n _ (by omega), fu_n _ (by omega), fu_n _ (by omega), fu_n _ (by omega), fu_n _ (by omega), fu_n _ (by omega), fu_n _ (by omega), fu_n _ (by omega), fu_n _ (by omega), fu_n _ (by omega)]) k (by rw [e7]; rw [List.length_cons] at hk; omega)
    rw [e7] at i
    exact i
theorem tk_rr_lo {s : Nat → Nat} {kd d : Nat} {L : tk_L} (h5 : s 5 < 8) {j : Nat} (hj : j < 72 + 4 * s 5) (h : j ≠ 5) (h7 : j ≠ 7) : tk_rr s kd d L j = s j := by
  unfold tk_rr
  rw [fu_n _ h, fu_n _ (by omega), fu_n _ (by omega), fu_n _ (by omega), fu_n _ (by omega), tk_sts_j L (by omega) h7]
theorem tk_rr_at (s : Nat → Nat) (kd d : Nat) (L : tk_L) : tk_rr s kd d L (72 + 4 * s 5) = kd ∧ tk_rr s kd d L (73 + 4 * s 5) = d ∧ tk_rr s kd d L (74 + 4 * s 5) = s 7 ∧ tk_rr s kd d L (75 + 4 * s 5) = s 7 + L.length := by
  unfold tk_rr
  refine ⟨?_, ?_, ?_, ?_⟩
  · rw [fu_n _ (by omega), fu_n _ (by omega), fu_n _ (by omega), fu_n _ (by omega), fu_s]
  · rw [fu_n _ (by omega), fu_n _ (by omega), fu_n _ (by omega), fu_s]
  · rw [fu_n _ (by omega), fu_n _ (by omega), fu_s]
  · rw [fu_n _ (by omega), fu_s]
theorem tk_rr_hi {s : Nat → Nat} {kd d : Nat} {L : tk_L} (h5 : s 5 < 8) {j : Nat} (hj : 104 ≤ j) : tk_rr s kd d L j = tk_sts s L j := by
  unfold tk_rr
  rw [fu_n _ (by omega), fu_n _ (by omega), fu_n _ (by omega), fu_n _ (by omega), fu_n _ (by omega)]
theorem Cd.rule {w u : ic_w} {s : Nat → Nat} {kd d : Nat} {L : tk_L} (h : Cd w s) (h5 : s 5 < 8) (e0 : u 5 0 = s 5 + 1) (e5 : u 5 5 = s 7 + L.length) (e6 : u 6 = fu (w 6) (s 5) kd) (e7 : u 7 = fu (w 7) (s 5) d) (e8 : u 8 = fu (w 8) (s 5) (s 7 + L.length)) (e9 : u 9 = cs_cd (w 9) (s 7) L) : Cd u (tk_rr s kd d L) := by
  obtain ⟨⟨h0, hr, hc⟩, hs, hend⟩ := h
  have E5 := tk_rr_5 s kd d L
  have E7 := tk_rr_7 s kd d L
  obtain ⟨A1, A2, A3, A4⟩ := tk_rr_at s kd d L
  refine ⟨⟨e0.trans E5.symm, fun i hi => ?_, fun k hk => ?_⟩, e5.trans E7.symm, ?_⟩
  · rw [E5] at hi
    show u 6 i = _ ∧ u 7 i = _ ∧ u 8 i = _ ∧ _
    rw [e6, e7, e8]
    by_cases z : i = s 5
    · subst z
      rw [fu_s, fu_s, fu_s, A1, A2, A3, A4]
      refine ⟨rfl, rfl, rfl, ?_⟩
      rw [hend]
      by_cases y : s 5 = 0
      · rw [if_pos y, if_pos y]
      · rw [if_neg y, if_neg y, tk_rr_lo h5 (by omega) (by omega) (by omega)]
    · obtain ⟨g1, g2, g3, g4⟩ := hr i (by omega)
      rw [fu_n _ z, fu_n _ z, fu_n _ z, tk_rr_lo h5 (by omega) (by omega) (by omega), tk_rr_lo h5 (by omega) (by omega) (by omega), tk_rr_lo h5 (by omega) (by omega) (by omega), tk_rr_lo h5 (by omega) (by omega) (by omega)]
      refine ⟨g1, g2, g3, ?_⟩
      rw [g4]
      by_cases y : i = 0
      · rw [if_pos y, if_pos y]
      · rw [if_neg y, if_neg y, tk_rr_lo h5 (by omega) (by omega) (by omega)]
  · rw [E7] at hk
    show u 9 k = _
    rw [e9, tk_rr_hi h5 (by omega), tk_rr_hi h5 (by omega), tk_rr_hi h5 (by omega)]
    exact cs_cd_k L s (w 9) hc k hk
  · rw [E5, E7, if_neg (by omega), Nat.add_sub_cancel, A4]
/-- nothing but the draft differs -/
def Rw (w u : ic_w) : Prop := (∀ a, a < 5 ∨ 9 < a → u a = w a) ∧ u 5 6 = w 5 6 ∧ u 5 7 = w 5 7
theorem Rw.rf (w : ic_w) : Rw w w := ⟨fun _ _ => rfl, rfl, rfl⟩
theorem Rw.tr {w u v : ic_w} (h : Rw w u) (g : Rw u v) : Rw w v := ⟨fun a ha => (g.1 a ha).trans (h.1 a ha), g.2.1.trans h.2.1, g.2.2.trans h.2.2⟩
theorem Dw.r {w u : ic_w} (h : Dw w u) : Rw w u := ⟨fun a ha => h.1 a (by omega) (by omega), h.2 6 (by decide) (by decide), h.2 7 (by decide) (by decide)⟩
theorem tk_rk_lt {f : Nat → Nat} {n c a : Nat} (h : tk_kd f n (tk_k f n a) a (tk_e f n a) ≠ 4294967295) (hc : c < 8) : tk_rk f n c a ≠ 0 := by
  unfold tk_rk
  rw [if_pos ⟨h, hc⟩]
  decide
theorem tk_rk_no {f : Nat → Nat} {n c a : Nat} (h : ¬ (tk_kd f n (tk_k f n a) a (tk_e f n a) ≠ 4294967295 ∧ c < 8)) : tk_rh f n c a = (1, a, []) := by
  unfold tk_rh
  rw [if_neg]
  intro z
  apply z
  unfold tk_rk
  rw [if_neg h]
set_option maxHeartbeats 4000000 in
set_option maxRecDepth 100000 in
theorem cC_readRule {l : Launch} {E : ic_E} {w : ic_w} (hP : Value.category E.2.2.2.2.2.2 = 1) {f : Nat → Nat} {n a : Nat} {s : Nat → Nat} (z_w : Ty w f n a) (hC : Cd w s) (h5 : s 5 < 8) (hb : 2 * s 7 ≤ a) : ic_C l E mX10_readRule 20 0 0 False [ic_pt E 5] SHs (hn w) SHs (ic_qi (fun v_ h_ => v_ = nI (1 - (tk_rh f n (s 5) a).1) ∧ ∃ w2, h_ = hn w2 ∧ Rw w w2 ∧ ((tk_rh f n (s 5) a).1 = 0 → Ty w2 f n (tk_rh f n (s 5) a).2.1 ∧ Cd w2 (tk_rr s (tk_kd f n (tk_k f n a) a (tk_e f n a)) (tk_dd f n (tk_k f n ((tk_rb f n a).2.1)) ((tk_rb f n a).2.1) (tk_e f n ((tk_rb f n a).2.1))) (tk_rb f n a).2.2)) ∧ ((tk_rh f n (s 5) a).1 = 1 → w2 5 8 = (tk_rh f n (s 5) a).2.1 ∧ True))) := by
  refine ic_intro (by decide +kernel) (Nat.le_of_ble_eq_true rfl) ?_
  show xx l E _ _ 0 [(0, ic_pt E 5)] _ _ _
  have x_w := Dw.rf w
  have g_w := Dk.rf w
  have hn2 := z_w.1.2.2.1
  have ha := z_w.2.1
  have hkd_ := tk_kd_le f n (tk_k f n a) a (tk_e f n a)
  have c38 : ∀ (e : Nat) (K : tk_L) (u : ic_w), Ty u f n e → Dw w u → Dk w u K → tk_kd f n (tk_k f n a) a (tk_e f n a) ≠ 4294967295 → tk_rb f n a = (0, e, K) → s 7 + K.length ≤ 140 → xx l E (ic_fr E mX10_readRule 20 0 0 False SHs (ic_qi (fun v_ h_ => v_ = nI (1 - (tk_rh f n (s 5) a).1) ∧ ∃ w2, h_ = hn w2 ∧ Rw w w2 ∧ ((tk_rh f n (s 5) a).1 = 0 → Ty w2 f n (tk_rh f n (s 5) a).2.1 ∧ Cd w2 (tk_rr s (tk_kd f n (tk_k f n a) a (tk_e f n a)) (tk_dd f n (tk_k f n ((tk_rb f n a).2.1)) ((tk_rb f n a).2.1) (tk_e f n ((tk_rb f n a).2.1))) (tk_rb f n a).2.2)) ∧ ((tk_rh f n (s 5) a).1 = 1 → w2 5 8 = (tk_rh f n (s 5) a).2.1 ∧ True)))) (0, 0) 38 [(1, .int (nI (tk_kd f n (tk_k f n a) a (tk_e f n a)))), (0, ic_pt E 5)] [] SHs (hn u) := by
    intro e K u z_u x_u g_u z1 hrb h7
    have hdd_ := tk_dd_le f n (tk_k f n e) e (tk_e f n e)
    have hrh : tk_rh f n (s 5) a = tk_bd (0, e, K) (tk_rd f n) := by unfold tk_rh; rw [if_pos (tk_rk_lt z1 h5), hrb]
    rw [tk_bd_0c] at hrh
    refine xx_aload_nP (pc := 38) dX10_readRule_38 1 rfl rfl ?_
    refine xx_callV0 (pc := 39) (st := []) sh_5 (cC_deedNamed (w := u) hP z_u) kX10_deedNamed vX10_80_10 dX10_readRule_39 rfl rfl (Nat.le_of_ble_eq_true rfl) (pl_hR (d := 20) (by omega) (Nat.le_of_ble_eq_true rfl)) ⟨Nat.zero_le _, Nat.zero_le _⟩ (ic_ke ?_)
    refine xx_istore_n (L' := [(2, .int (nI (tk_dd f n (tk_k f n e) e (tk_e f n e)))), (1, .int (nI (tk_kd f n (tk_k f n a) a (tk_e f n a)))), (0, ic_pt E 5)]) (pc := 42) dX10_readRule_42 rfl (Nat.le_of_ble_eq_true rfl) rfl ?_
    refine xx_iload_n (pc := 43) dX10_readRule_43 0 rfl rfl ?_
    refine xx_if_geS (pc := 44) 49 dX10_readRule_44 rfl (by omega) (fun c301 => ?_) (fun c301 => ?_)
    · have z2 : tk_rq f n e ≠ 0 := by unfold tk_rq; rw [if_pos (by omega)]; decide
      have hzd_ := tk_k_z (f := f) z_u.2.1 (by rw [(tk_rq_k z2).2]; decide)
      refine xx_aload_nP (pc := 49) dX10_readRule_49 2 rfl rfl ?_
      refine xx_callV0 (pc := 50) (st := []) sh_5 (cC_next (w := u) z_u) kX10_advance vX10_53_10 dX10_readRule_50 rfl rfl (Nat.le_of_ble_eq_true rfl) (pl_hR (d := 20) (by omega) (Nat.le_of_ble_eq_true rfl)) ⟨Nat.zero_le _, Nat.zero_le _⟩ (ic_kv (fun h_ qw302 => ?_))
      obtain ⟨w302, rfl, y_w302, z_w302⟩ := qw302
      have x_w302 := x_u.tr y_w302.d
      have g_w302 := g_u.e y_w302
      refine xx_aload_nP (pc := 53) dX10_readRule_53 2 rfl rfl ?_
      refine xx_bipush (pc := 54) dX10_readRule_54 cc_bipush_59 ?_
      refine xx_callV0 (pc := 56) (st := []) sh_5 (cC_isByte (w := w302) (c := 59) z_w302 (by decide)) kX10_isByte vX10_83_10 dX10_readRule_56 rfl rfl (Nat.le_of_ble_eq_true rfl) (pl_hR (d := 20) (by omega) (Nat.le_of_ble_eq_true rfl)) ⟨Nat.zero_le _, Nat.zero_le _⟩ (ic_ke ?_)
      refine xx_if_neB (pc := 59) 64 dX10_readRule_59 rfl (fun c304 => ?_) (fun c304 => ?_)
      · have z3 : tk_rs9 f n (tk_z f n e) ≠ 0 := by unfold tk_rs9; rw [if_pos c304]; decide
        have hrd_ : tk_rd f n e = (0, tk_z f n (tk_z f n e), []) := by unfold tk_rd; rw [tk_nd_0 z2, tk_bd_00z, tk_nd_0 z3]
        refine xx_aload_nP (pc := 64) dX10_readRule_64 2 rfl rfl ?_
        refine xx_callV0 (pc := 65) (st := []) sh_5 (cC_next (w := w302) z_w302) kX10_advance vX10_53_10 dX10_readRule_65 rfl rfl (Nat.le_of_ble_eq_true rfl) (pl_hR (d := 20) (by omega) (Nat.le_of_ble_eq_true rfl)) ⟨Nat.zero_le _, Nat.zero_le _⟩ (ic_kv (fun h_ qw305 => ?_))
        obtain ⟨w305, rfl, y_w305, z_w305⟩ := qw305
        have x_w305 := x_w302.tr y_w305.d
        have g_w305 := g_w302.e y_w305
        refine xx_aload_nP (pc := 68) dX10_readRule_68 2 rfl rfl ?_
        refine xx_getR (pc := 69) 6 dX10_readRule_69 sh_5 fX10_11_10 rfl rfl (by decide) ?_
        refine xx_aload_nP (pc := 72) dX10_readRule_72 2 rfl rfl ?_
        refine xx_getN (pc := 73) dX10_readRule_73 sh_5 fX10_28_10 rfl ?_
        refine xx_eqI (y := nI (s 5)) (by rw [x_w305.2 0 (by decide) (by decide), hC.1.1]) ?_
        refine xx_iload_n (pc := 76) dX10_readRule_76 1 rfl rfl ?_
        refine xx_iastN (pc := 77) dX10_readRule_77 sh_6 (by omega) (by decide) ?_
        refine xx_nw (fun w307 ew307 => ?_)
        have t1_ := (congrFun ew307 6).trans (wu_fu w305 6 _ _)
        have e1_ : ∀ b, b ≠ 6 → w307 b = w305 b := fun b h => by rw [ew307, wu_row _ _ _ h]
        refine xx_aload_nP (pc := 78) dX10_readRule_78 2 rfl rfl ?_
        refine xx_getR (pc := 79) 7 dX10_readRule_79 sh_5 fX10_15_10 rfl rfl (by decide) ?_
        refine xx_aload_nP (pc := 82) dX10_readRule_82 2 rfl rfl ?_
        refine xx_getN (pc := 83) dX10_readRule_83 sh_5 fX10_28_10 rfl ?_
        refine xx_eqI (y := nI (s 5)) (by rw [e1_ 5 (by decide), x_w305.2 0 (by decide) (by decide), hC.1.1]) ?_
        refine xx_iload_n (pc := 86) dX10_readRule_86 0 rfl rfl ?_
        refine xx_iastN (pc := 87) dX10_readRule_87 sh_7 (by omega) (by decide) ?_
        refine xx_nw (fun w308 ew308 => ?_)
        have t2_ := (congrFun ew308 7).trans (wu_fu w307 7 _ _)
        have e2_ : ∀ b, b ≠ 7 → w308 b = w307 b := fun b h => by rw [ew308, wu_row _ _ _ h]
        refine xx_aload_nP (pc := 88) dX10_readRule_88 2 rfl rfl ?_
        refine xx_getR (pc := 89) 8 dX10_readRule_89 sh_5 fX10_18_10 rfl rfl (by decide) ?_
        refine xx_aload_nP (pc := 92) dX10_readRule_92 2 rfl rfl ?_
        refine xx_getN (pc := 93) dX10_readRule_93 sh_5 fX10_28_10 rfl ?_
        refine xx_eqI (y := nI (s 5)) (by rw [e2_ 5 (by decide), e1_ 5 (by decide), x_w305.2 0 (by decide) (by decide), hC.1.1]) ?_
        refine xx_aload_nP (pc := 96) dX10_readRule_96 2 rfl rfl ?_
        refine xx_getN (pc := 97) dX10_readRule_97 sh_5 fX10_32_10 rfl ?_
        refine xx_eqI (y := nI (s 7 + K.length)) (by rw [e2_ 5 (by decide), e1_ 5 (by decide), g_w305.1, hC.2.1]) ?_
        refine xx_iastN (pc := 100) dX10_readRule_100 sh_8 (by omega) (by decide) ?_
        refine xx_nw (fun w309 ew309 => ?_)
        have t3_ := (congrFun ew309 8).trans (wu_fu w308 8 _ _)
        have e3_ : ∀ b, b ≠ 8 → w309 b = w308 b := fun b h => by rw [ew309, wu_row _ _ _ h]
        refine xx_aload_nP (pc := 101) dX10_readRule_101 2 rfl rfl ?_
        refine xx_dup (pc := 102) dX10_readRule_102 rfl ?_
        refine xx_getN (pc := 103) dX10_readRule_103 sh_5 fX10_28_10 rfl ?_
        refine xx_eqI (y := nI (s 5)) (by rw [e3_ 5 (by decide), e2_ 5 (by decide), e1_ 5 (by decide), x_w305.2 0 (by decide) (by decide), hC.1.1]) ?_
        refine xx_iconst (pc := 106) dX10_readRule_106 cc_iconst_1 ?_
        refine xx_iaddN (pc := 107) dX10_readRule_107 ?_
        refine xx_putN (pc := 108) dX10_readRule_108 sh_5 fX10_28_10 rfl rfl ?_
        refine xx_nw (fun w310 ew310 => ?_)
        have y_ : (∀ b, b ≠ 5 → w310 b = w309 b) ∧ (∀ j, j ≠ 0 → w310 5 j = w309 5 j) ∧ w310 5 0 = s 5 + 1 := ⟨fun b h => by rw [ew310, wu_row _ _ _ h], fun j h => by rw [ew310, wu_k _ _ _ _ h], by rw [ew310, wu_s]⟩
        refine xx_iconst (pc := 111) dX10_readRule_111 cc_iconst_1 ?_
        exact xx_iret (pc := 112) dX10_readRule_112 rfl (rfl) (Nat.le_refl _) (Nat.le_refl _) (ic_ri (by rw [hrh, hrd_]; exact ⟨rfl, w310, rfl, x_w305.r.tr ⟨fun b h => by rw [y_.1 b (by omega), e3_ b (by omega), e2_ b (by omega), e1_ b (by omega)], by rw [y_.2.1 6 (by decide), e3_ 5 (by decide), e2_ 5 (by decide), e1_ 5 (by decide)], by rw [y_.2.1 7 (by decide), e3_ 5 (by decide), e2_ 5 (by decide), e1_ 5 (by decide)]⟩, fun _ => ⟨z_w305.of (fun j h6 h10 => by rw [y_.2.1 j (by omega), e3_ 5 (by decide), e2_ 5 (by decide), e1_ 5 (by decide)]) (by rw [y_.1 4 (by decide), e3_ 4 (by decide), e2_ 4 (by decide), e1_ 4 (by decide)]), by rw [hrb]; exact hC.rule h5 y_.2.2 (by rw [y_.2.1 5 (by decide), e3_ 5 (by decide), e2_ 5 (by decide), e1_ 5 (by decide), g_w305.1, hC.2.1]) (by rw [y_.1 6 (by decide), e3_ 6 (by decide), e2_ 6 (by decide), t1_, x_w305.1 6 (by decide) (by decide)]) (by rw [y_.1 7 (by decide), e3_ 7 (by decide), t2_, e1_ 7 (by decide), x_w305.1 7 (by decide) (by decide)]) (by rw [y_.1 8 (by decide), t3_, e2_ 8 (by decide), e1_ 8 (by decide), x_w305.1 8 (by decide) (by decide)]) (by rw [y_.1 9 (by decide), e3_ 9 (by decide), e2_ 9 (by decide), e1_ 9 (by decide), g_w305.2, hC.2.1])⟩, fun y_ => absurd y_ Nat.zero_ne_one⟩))
      · have z3 : tk_rs9 f n (tk_z f n e) = 0 := by unfold tk_rs9; rw [if_neg c304]
        have hrd_ : tk_rd f n e = (1, tk_z f n e, []) := by unfold tk_rd; rw [tk_nd_0 z2, tk_bd_00z, tk_nd_1 z3]
        refine xx_iconst (pc := 62) dX10_readRule_62 cc_iconst_0 ?_
        exact xx_iret (pc := 63) dX10_readRule_63 rfl (rfl) (Nat.le_refl _) (Nat.le_refl _) (ic_ri (by rw [hrh, hrd_]; exact ⟨rfl, w302, rfl, x_w302.r, fun y_ => absurd y_ Nat.one_ne_zero, fun _ => ⟨z_w302.2.2.1, trivial⟩⟩))
    · have z2 : tk_rq f n e = 0 := by unfold tk_rq; rw [if_neg (by omega)]
      have hrd_ : tk_rd f n e = (1, e, []) := by unfold tk_rd; rw [tk_nd_1 z2, tk_bd_11]
      refine xx_iconst (pc := 47) dX10_readRule_47 cc_iconst_0 ?_
      exact xx_iret (pc := 48) dX10_readRule_48 rfl (rfl) (Nat.le_refl _) (Nat.le_refl _) (ic_ri (by rw [hrh, hrd_]; exact ⟨rfl, u, rfl, x_u.r, fun y_ => absurd y_ Nat.one_ne_zero, fun _ => ⟨z_u.2.2.1, trivial⟩⟩))
  refine xx_aload_nP (pc := 0) dX10_readRule_0 0 rfl rfl ?_
  refine xx_callV0 (pc := 1) (st := []) sh_5 (cC_kindNamed (w := w) hP z_w) kX10_kindNamed vX10_66_10 dX10_readRule_1 rfl rfl (Nat.le_of_ble_eq_true rfl) (pl_hR (d := 20) (by omega) (Nat.le_of_ble_eq_true rfl)) ⟨Nat.zero_le _, Nat.zero_le _⟩ (ic_ke ?_)
  refine xx_istore_n (L' := [(1, .int (nI (tk_kd f n (tk_k f n a) a (tk_e f n a)))), (0, ic_pt E 5)]) (pc := 4) dX10_readRule_4 rfl (Nat.le_of_ble_eq_true rfl) rfl ?_
  refine xx_iload_n (pc := 5) dX10_readRule_5 0 rfl rfl ?_
  refine xx_if_geS (pc := 6) 11 dX10_readRule_6 rfl (by omega) (fun c1 => ?_) (fun c1 => ?_)
  · have z1 : tk_kd f n (tk_k f n a) a (tk_e f n a) ≠ 4294967295 := by omega
    have zk_ := tk_k_z (f := f) z_w.2.1 (by rw [tk_kd_k z1]; decide)
    have R2_ := tk_rb_R (f := f) z_w.2.1 (tk_kd_k z1)
    refine xx_aload_nP (pc := 11) dX10_readRule_11 1 rfl rfl ?_
    refine xx_callV0 (pc := 12) (st := []) sh_5 (cC_next (w := w) z_w) kX10_advance vX10_53_10 dX10_readRule_12 rfl rfl (Nat.le_of_ble_eq_true rfl) (pl_hR (d := 20) (by omega) (Nat.le_of_ble_eq_true rfl)) ⟨Nat.zero_le _, Nat.zero_le _⟩ (ic_kv (fun h_ qw2 => ?_))
    obtain ⟨w2, rfl, y_w2, z_w2⟩ := qw2
    have x_w2 := x_w.tr y_w2.d
    have g_w2 := g_w.e y_w2
    refine xx_aload_nP (pc := 15) dX10_readRule_15 1 rfl rfl ?_
    refine xx_ldcS (pc := 16) 6 dX10_readRule_16 rfl rfl ?_
    refine xx_callV0 (pc := 18) (st := []) sh_5 (cC_isNamed (w := w2) (i := 6) (wl := [105, 102]) hP (by decide) (by decide +kernel) z_w2) kX10_isNamed vX10_72_10 dX10_readRule_18 rfl rfl (Nat.le_of_ble_eq_true rfl) (pl_hR (d := 20) (by omega) (Nat.le_of_ble_eq_true rfl)) ⟨Nat.zero_le _, Nat.zero_le _⟩ (ic_ke ?_)
    refine xx_if_eqB (pc := 21) 38 dX10_readRule_21 rfl (fun c4 => ?_) (fun c4 => ?_)
    · have nif_ : ¬ tk_i f n [105, 102] (tk_z f n a) = true := c4
      exact xx_sub [0, 1] rfl (c38 (tk_z f n a) [] w2 z_w2 x_w2 g_w2 z1 (by unfold tk_rb; rw [if_neg nif_]) (by show s 7 + 0 ≤ 140; omega))
    · have nif_ : tk_i f n [105, 102] (tk_z f n a) = true := c4
      have zi_ := tk_i_z zk_.2 nif_
      refine xx_aload_nP (pc := 24) dX10_readRule_24 1 rfl rfl ?_
      refine xx_callV0 (pc := 25) (st := []) sh_5 (cC_next (w := w2) z_w2) kX10_advance vX10_53_10 dX10_readRule_25 rfl rfl (Nat.le_of_ble_eq_true rfl) (pl_hR (d := 20) (by omega) (Nat.le_of_ble_eq_true rfl)) ⟨Nat.zero_le _, Nat.zero_le _⟩ (ic_kv (fun h_ qw5 => ?_))
      obtain ⟨w5, rfl, y_w5, z_w5⟩ := qw5
      have x_w5 := x_w2.tr y_w5.d
      have g_w5 := g_w2.e y_w5
      refine xx_aload_nP (pc := 28) dX10_readRule_28 1 rfl rfl ?_
      refine xx_iconst (pc := 29) dX10_readRule_29 cc_iconst_0 ?_
      refine xx_callV0 (pc := 30) (st := []) sh_5 (cC_conds hP 3 z_w5 rfl (by rw [g_w5.1]; show 2 * (w 5 5 + 0) ≤ _; have := hC.2.1; have : tk_z f n a + 2 ≤ tk_z f n (tk_z f n a) := zi_.1; omega)) kX10_readCondition vX10_76_10 dX10_readRule_30 rfl rfl (Nat.le_of_ble_eq_true rfl) (pl_hR (d := 20) (by omega) (Nat.le_of_ble_eq_true rfl)) ⟨Nat.zero_le _, Nat.zero_le _⟩ (ic_ki (fun v8 h_ qw7 => ?_))
      obtain ⟨rfl, w7, rfl, y_w7, zz_w7, ff_w7⟩ := qw7
      have R_w7 := tk_cnd_1R (f := f) 3 (tk_z f n (tk_z f n a)) z_w5.2.1
      have x_w7 := x_w5.tr y_w7
      by_cases v_w7 : (tk_cnd f n (tk_one f n 3) (tk_z f n (tk_z f n a))).1 = 0
      · have z_w7 := (zz_w7 v_w7).1
        have g_w7 := g_w5.tr (zz_w7 v_w7).2
        refine xx_eqI (y := nI 1) (by rw [v_w7]) ?_
        refine xx_if_neN (pc := 33) 38 dX10_readRule_33 rfl (by omega) (fun c9 => ?_) (fun c9 => by exfalso; omega)
        exact xx_sub [0, 1] rfl (c38 ((tk_cnd f n (tk_one f n 3) (tk_z f n (tk_z f n a))).2.1) ((tk_cnd f n (tk_one f n 3) (tk_z f n (tk_z f n a))).2.2) w7 z_w7 x_w7 (by simpa using g_w7) z1 (by unfold tk_rb; rw [if_pos nif_]; exact tk_P_0 v_w7) (by have := (R_w7.2.2.2 v_w7).1; have := R_w7.2.2.1; have : tk_z f n a + 2 ≤ tk_z f n (tk_z f n a) := zi_.1; omega))
      · have v1_w7 : (tk_cnd f n (tk_one f n 3) (tk_z f n (tk_z f n a))).1 = 1 := by have := R_w7.1; omega
        have f_w7 := ff_w7 v1_w7
        refine xx_eqI (y := nI 0) (by rw [v1_w7]) ?_
        have hrh0_ : tk_rh f n (s 5) a = (1, (tk_cnd f n (tk_one f n 3) (tk_z f n (tk_z f n a))).2.1, (tk_cnd f n (tk_one f n 3) (tk_z f n (tk_z f n a))).2.2) := by unfold tk_rh; rw [if_pos (tk_rk_lt z1 h5)]; unfold tk_rb; rw [if_pos nif_, tk_bd_1 v1_w7]; exact tk_P_1 v1_w7
        refine xx_if_neN (pc := 33) 38 dX10_readRule_33 rfl (by omega) (fun c10 => by exfalso; omega) (fun c10 => ?_)
        refine xx_iconst (pc := 36) dX10_readRule_36 cc_iconst_0 ?_
        exact xx_iret (pc := 37) dX10_readRule_37 rfl (rfl) (Nat.le_refl _) (Nat.le_refl _) (ic_ri (by rw [hrh0_]; exact ⟨rfl, w7, rfl, x_w7.r, fun y_ => absurd y_ Nat.one_ne_zero, fun _ => ⟨f_w7, trivial⟩⟩))
  · have hrh0_ := tk_rk_no (f := f) (n := n) (c := s 5) (a := a) (by omega)
    refine xx_iconst (pc := 9) dX10_readRule_9 cc_iconst_0 ?_
    exact xx_iret (pc := 10) dX10_readRule_10 rfl (rfl) (Nat.le_refl _) (Nat.le_refl _) (ic_ri (by rw [hrh0_]; exact ⟨rfl, w, rfl, x_w.r, fun y_ => absurd y_ Nat.one_ne_zero, fun _ => ⟨z_w.2.2.1, trivial⟩⟩))

