/-! the reader of the rules: all of them -/
def tk_ru (f : Nat → Nat) (n : Nat) : Nat → (Nat → Nat) → Nat → Nat × Nat × (Nat → Nat)
  | 0, s, a => (1, a, s)
  | k + 1, s, a => if tk_k f n a = 0 then (0, a, s) else if (tk_rh f n (s 5) a).1 = 0 then tk_ru f n k (tk_rr s (tk_kd f n (tk_k f n a) a (tk_e f n a)) (tk_dd f n (tk_k f n ((tk_rb f n a).2.1)) ((tk_rb f n a).2.1) (tk_e f n ((tk_rb f n a).2.1))) (tk_rb f n a).2.2) (tk_rh f n (s 5) a).2.1 else (1, (tk_rh f n (s 5) a).2.1, s)
def tk_r0 (f : Nat → Nat) (n : Nat) (s : Nat → Nat) : Nat × Nat × (Nat → Nat) := tk_ru f n 201 (fu (fu s 5 0) 7 0) (tk_a f n 0)
def tk_rv (f : Nat → Nat) (n : Nat) (s : Nat → Nat) : Nat := if (tk_r0 f n s).1 = 0 then (tk_r0 f n s).2.2 5 else 4294967196 - (tk_r0 f n s).2.1
def tk_rw (f : Nat → Nat) (n : Nat) (s : Nat → Nat) : Nat → Nat := if (tk_r0 f n s).1 = 0 then (tk_r0 f n s).2.2 else s
def Kw (w u : ic_w) : Prop := (∀ a, a ≠ 114 → a ≠ 115 → a ≠ 119 → u a = w a) ∧ (∀ j, j < 5 ∨ 11 < j → u 114 j = w 114 j) ∧ ∀ j, 578 ≤ j → u 115 j = w 115 j
theorem Kw.tr {w u v : ic_w} (h : Kw w u) (g : Kw u v) : Kw w v := ⟨fun a h1 h2 h3 => (g.1 a h1 h2 h3).trans (h.1 a h1 h2 h3), fun j hj => (g.2.1 j hj).trans (h.2.1 j hj), fun j hj => (g.2.2 j hj).trans (h.2.2 j hj)⟩
theorem Hw.k {w u : ic_w} (h : Hw w u) : Kw w u := ⟨fun a h1 h2 _ => h.1 a h1 h2, fun j hj => h.2.1 j (by omega), h.2.2⟩
theorem tk_ru_0 {f : Nat → Nat} {n k a : Nat} {s : Nat → Nat} (h : tk_k f n a = 0) : tk_ru f n (k + 1) s a = (0, a, s) := by rw [tk_ru, if_pos h]
theorem tk_ru_1 {f : Nat → Nat} {n k a : Nat} {s : Nat → Nat} (h : tk_k f n a ≠ 0) (g : ¬ (tk_rh f n (s 5) a).1 = 0) : tk_ru f n (k + 1) s a = (1, (tk_rh f n (s 5) a).2.1, s) := by rw [tk_ru, if_neg h, if_neg g]
theorem tk_ru_s {f : Nat → Nat} {n k a : Nat} {s : Nat → Nat} (h : tk_k f n a ≠ 0) (g : (tk_rh f n (s 5) a).1 = 0) : tk_ru f n (k + 1) s a = tk_ru f n k (tk_rr s (tk_kd f n (tk_k f n a) a (tk_e f n a)) (tk_dd f n (tk_k f n ((tk_rb f n a).2.1)) ((tk_rb f n a).2.1) (tk_e f n ((tk_rb f n a).2.1))) (tk_rb f n a).2.2) (tk_rh f n (s 5) a).2.1 := by rw [tk_ru, if_neg h, if_pos g]
theorem tk_rr_5 (s : Nat → Nat) (k d : Nat) (L : tk_L) : tk_rr s k d L 5 = s 5 + 1 := fu_s _ _ _
theorem tk_rr_7 (s : Nat → Nat) (k d : Nat) (L : tk_L) : tk_rr s k d L 7 = s 7 + L.length := by
  unfold tk_rr
  rw [fu_n _ (by omega), fu_n _ (by omega), fu_n _ (by omega), fu_n _ (by omega), fu_n _ (by omega), tk_sts_7]
set_option maxHeartbeats 4000000 in
set_option maxRecDepth 100000 in
theorem cZ_rules {l : Launch} {E : ic_E} {w : ic_w} {f : Nat → Nat} {n : Nat} (hX : Tx w f n) : ic_C l E mX12_rules 21 0 0 False [ic_pt E 114] SHs (hn w) SHs (ic_qi (fun v_ h_ => v_ = nI (tk_rv f n (w 115)) ∧ ∃ w2, h_ = hn w2 ∧ Kw w w2 ∧ w2 114 5 = 0 ∧ w2 115 = tk_rw f n (w 115))) := by
  refine ic_intro (by decide +kernel) (Nat.le_of_ble_eq_true rfl) ?_
  show xx l E _ _ 0 [(0, ic_pt E 114)] _ _ _
  have hn2 := hX.2.1
  have ce0 : ∀ (u : ic_w), u 114 10 = 0 → Kw w u → u 114 5 = 0 → (tk_r0 f n (w 115)).1 = 0 ∧ u 115 = (tk_r0 f n (w 115)).2.2 → xx l E (ic_fr E mX12_rules 21 0 0 False SHs (ic_qi (fun v_ h_ => v_ = nI (tk_rv f n (w 115)) ∧ ∃ w2, h_ = hn w2 ∧ Kw w w2 ∧ w2 114 5 = 0 ∧ w2 115 = tk_rw f n (w 115)))) (0, 0) 116 [(0, ic_pt E 114)] [] SHs (hn u) := by
    intro u p_u x_u t_u hr
    refine xx_aload_nP (pc := 116) dX12_rules_116 0 rfl rfl ?_
    refine xx_getN (pc := 117) dX12_rules_117 sh_114 fX12_180_12 rfl ?_
    refine xx_eqI (y := nI (0)) (by rw [p_u]) ?_
    refine xx_if_eqN (pc := 120) 133 dX12_rules_120 rfl (by omega) (fun c901 => ?_) (fun c901 => by exfalso; omega)
    refine xx_aload_nP (pc := 133) dX12_rules_133 0 rfl rfl ?_
    refine xx_getR (pc := 134) 115 dX12_rules_134 sh_114 fX12_7_12 rfl rfl (by decide) ?_
    refine xx_iconst (pc := 137) dX12_rules_137 cc_iconst_5 ?_
    refine xx_ialdN (pc := 138) dX12_rules_138 sh_115 (by omega) (by decide) ?_
    exact xx_iret (pc := 139) dX12_rules_139 rfl (rfl) (Nat.le_refl _) (Nat.le_refl _) (ic_ri ⟨by unfold tk_rv; rw [if_pos hr.1, ← hr.2], u, rfl, x_u, t_u, by unfold tk_rw; rw [if_pos hr.1]; exact hr.2⟩)
  have ce1 : ∀ (u : ic_w), u 114 10 = 1 → Kw w u → u 114 5 = 0 → (tk_r0 f n (w 115)).1 = 1 ∧ u 114 7 = (tk_r0 f n (w 115)).2.1 ∧ u 115 = w 115 → (tk_r0 f n (w 115)).2.1 ≤ n → xx l E (ic_fr E mX12_rules 21 0 0 False SHs (ic_qi (fun v_ h_ => v_ = nI (tk_rv f n (w 115)) ∧ ∃ w2, h_ = hn w2 ∧ Kw w w2 ∧ w2 114 5 = 0 ∧ w2 115 = tk_rw f n (w 115)))) (0, 0) 116 [(0, ic_pt E 114)] [] SHs (hn u) := by
    intro u p_u x_u t_u hr hl2
    refine xx_aload_nP (pc := 116) dX12_rules_116 0 rfl rfl ?_
    refine xx_getN (pc := 117) dX12_rules_117 sh_114 fX12_180_12 rfl ?_
    refine xx_eqI (y := nI (1)) (by rw [p_u]) ?_
    refine xx_if_eqN (pc := 120) 133 dX12_rules_120 rfl (by omega) (fun c951 => by exfalso; omega) (fun c951 => ?_)
    refine xx_bipush (pc := 123) dX12_rules_123 cc_bipush_m100 ?_
    refine xx_aload_nP (pc := 125) dX12_rules_125 0 rfl rfl ?_
    refine xx_getN (pc := 126) dX12_rules_126 sh_114 fX12_162_12 rfl ?_
    refine xx_eqI (y := nI ((tk_r0 f n (w 115)).2.1)) (by rw [hr.2.1]) ?_
    refine xx_isubN (pc := 129) dX12_rules_129 (by omega) ?_
    refine xx_goto (pc := 130) 139 dX12_rules_130 rfl ?_
    exact xx_iret (pc := 139) dX12_rules_139 rfl (rfl) (Nat.le_refl _) (Nat.le_refl _) (ic_ri ⟨by unfold tk_rv; rw [if_neg (by omega)], u, rfl, x_u, t_u, by unfold tk_rw; rw [if_neg (by omega)]; exact hr.2.2⟩)
  have lb : ∀ (n_ : Nat) (k : Nat) (u : ic_w), u 114 10 = 1 → Kw w u → u 114 5 = 0 → (∀ j, j < 578 → u 119 j = w 115 j) → (∀ j, j < k → u 115 j = w 115 j) → (tk_r0 f n (w 115)).1 = 1 ∧ u 114 7 = (tk_r0 f n (w 115)).2.1 → (tk_r0 f n (w 115)).2.1 ≤ n → k ≤ 578 → 578 - k < n_ → xx l E (ic_fr E mX12_rules 21 0 0 False SHs (ic_qi (fun v_ h_ => v_ = nI (tk_rv f n (w 115)) ∧ ∃ w2, h_ = hn w2 ∧ Kw w w2 ∧ w2 114 5 = 0 ∧ w2 115 = tk_rw f n (w 115)))) (0, 0) 84 [(1, .int (nI k)), (0, ic_pt E 114)] [] SHs (hn u) := by
    intro n_
    induction n_ with
    | zero => intro k u p_u x_u t_u b_u q_u hr hl2 hk hm_; exact absurd hm_ (Nat.not_lt_zero _)
    | succ n_ ih_ =>
      intro k u p_u x_u t_u b_u q_u hr hl2 hk hm_
      refine xx_iload_n (pc := 84) dX12_rules_84 0 rfl rfl ?_
      refine xx_sipush (pc := 85) dX12_rules_85 cc_sipush_578 ?_
      refine xx_icmp_geN (pc := 88) 116 dX12_rules_88 rfl (by omega) (by omega) (fun c801 => ?_) (fun c801 => ?_)
      · exact xx_sub [1] rfl (ce1 u p_u x_u t_u ⟨hr.1, hr.2, funext fun j => (Nat.lt_or_ge j 578).elim (fun y => q_u j (by omega)) (fun y => x_u.2.2 j y)⟩ hl2)
      · refine xx_aload_nP (pc := 91) dX12_rules_91 1 rfl rfl ?_
        refine xx_getN (pc := 92) dX12_rules_92 sh_114 fX12_180_12 rfl ?_
        refine xx_eqI (y := nI (1)) (by rw [p_u]) ?_
        refine xx_if_eqN (pc := 95) 116 dX12_rules_95 rfl (by omega) (fun c802 => by exfalso; omega) (fun c802 => ?_)
        refine xx_aload_nP (pc := 98) dX12_rules_98 1 rfl rfl ?_
        refine xx_getR (pc := 99) 115 dX12_rules_99 sh_114 fX12_7_12 rfl rfl (by decide) ?_
        refine xx_iload_n (pc := 102) dX12_rules_102 0 rfl rfl ?_
        refine xx_aload_nP (pc := 103) dX12_rules_103 1 rfl rfl ?_
        refine xx_getR (pc := 104) 119 dX12_rules_104 sh_114 fX12_22_12 rfl rfl (by decide) ?_
        refine xx_iload_n (pc := 107) dX12_rules_107 0 rfl rfl ?_
        refine xx_ialdN (pc := 108) dX12_rules_108 sh_119 (by omega) (by decide) ?_
        refine xx_iastN (pc := 109) dX12_rules_109 sh_115 (by omega) (by decide) ?_
        refine xx_nw (fun w803 ew803 => ?_)
        have p_w803 : w803 114 10 = 1 := by rw [ew803, wu_row _ _ _ (by decide)]; exact p_u
        have x_w803 : Kw w w803 := x_u.tr ⟨fun a h1 h2 h3 => by rw [ew803, wu_row _ _ _ h2], fun j hj => by rw [ew803, wu_row _ _ _ (by decide)], fun j hj => by rw [ew803, wu_k _ _ _ _ (by omega)]⟩
        have t_w803 : w803 114 5 = 0 := by rw [ew803, wu_row _ _ _ (by decide)]; exact t_u
        have b_w803 : ∀ j, j < 578 → w803 119 j = w 115 j := fun j hj => by rw [ew803, wu_row _ _ _ (by decide)]; exact b_u j hj
        have q_w803 : ∀ j, j < k + 1 → w803 115 j = w 115 j := fun j hj => (Nat.lt_succ_iff_lt_or_eq.mp hj).elim (fun y => by rw [ew803, wu_k _ _ _ _ (by omega)]; exact q_u j y) (fun y => by rw [y, ew803, wu_s]; exact b_u k (by omega))
        have r_w803 : (tk_r0 f n (w 115)).1 = 1 ∧ w803 114 7 = (tk_r0 f n (w 115)).2.1 := ⟨hr.1, by rw [ew803, wu_row _ _ _ (by decide)]; exact hr.2⟩
        refine xx_iincN (L' := [(1, .int (nI (k + 1))), (0, ic_pt E 114)]) (pc := 110) dX12_rules_110 0 rfl cc_iconst_1 (Nat.le_of_ble_eq_true rfl) rfl ?_
        refine xx_goto (pc := 113) 84 dX12_rules_113 rfl ?_
        exact xx_sub [0, 1] rfl (ih_ (k + 1) w803 p_w803 x_w803 t_w803 b_w803 q_w803 r_w803 hl2 (by omega) (by omega))
  have c770 : ∀ (u : ic_w), u 114 10 = 0 → Kw w u → (tk_r0 f n (w 115)).1 = 0 ∧ u 115 = (tk_r0 f n (w 115)).2.2 → xx l E (ic_fr E mX12_rules 21 0 0 False SHs (ic_qi (fun v_ h_ => v_ = nI (tk_rv f n (w 115)) ∧ ∃ w2, h_ = hn w2 ∧ Kw w w2 ∧ w2 114 5 = 0 ∧ w2 115 = tk_rw f n (w 115)))) (0, 0) 77 [(0, ic_pt E 114)] [] SHs (hn u) := by
    intro u p_u x_u hr
    refine xx_aload_nP (pc := 77) dX12_rules_77 0 rfl rfl ?_
    refine xx_iconst (pc := 78) dX12_rules_78 cc_iconst_0 ?_
    refine xx_putN (pc := 79) dX12_rules_79 sh_114 fX12_153_12 rfl rfl ?_
    refine xx_nw (fun w701 ew701 => ?_)
    have p_w701 : w701 114 10 = 0 := by rw [ew701, wu_k _ _ _ _ (by omega)]; exact p_u
    have x_w701 : Kw w w701 := x_u.tr ⟨fun a h1 h2 h3 => by rw [ew701, wu_row _ _ _ h1], fun j hj => by rw [ew701, wu_k _ _ _ _ (by omega)], fun j hj => by rw [ew701, wu_row _ _ _ (by decide)]⟩
    have t_w701 : w701 114 5 = 0 := by rw [ew701, wu_s]
    have y_w701 : w701 115 = u 115 ∧ w701 119 = u 119 ∧ w701 114 7 = u 114 7 := ⟨by rw [ew701, wu_row _ _ _ (by decide)], by rw [ew701, wu_row _ _ _ (by decide)], by rw [ew701, wu_k _ _ _ _ (by omega)]⟩
    refine xx_iconst (pc := 82) dX12_rules_82 cc_iconst_0 ?_
    refine xx_istore_n (L' := [(1, .int (nI 0)), (0, ic_pt E 114)]) (pc := 83) dX12_rules_83 rfl (Nat.le_of_ble_eq_true rfl) rfl ?_
    refine xx_iload_n (pc := 84) dX12_rules_84 0 rfl rfl ?_
    refine xx_sipush (pc := 85) dX12_rules_85 cc_sipush_578 ?_
    refine xx_icmp_geN (pc := 88) 116 dX12_rules_88 rfl (by omega) (by omega) (fun c702 => by exfalso; omega) (fun c702 => ?_)
    refine xx_aload_nP (pc := 91) dX12_rules_91 1 rfl rfl ?_
    refine xx_getN (pc := 92) dX12_rules_92 sh_114 fX12_180_12 rfl ?_
    refine xx_eqI (y := nI (0)) (by rw [p_w701]) ?_
    refine xx_if_eqN (pc := 95) 116 dX12_rules_95 rfl (by omega) (fun c703 => ?_) (fun c703 => by exfalso; omega)
    exact xx_sub [1] rfl (ce0 w701 p_w701 x_w701 t_w701 ⟨hr.1, y_w701.1.trans hr.2⟩)
  have c771 : ∀ (u : ic_w), u 114 10 = 1 → Kw w u → (∀ j, j < 578 → u 119 j = w 115 j) → (tk_r0 f n (w 115)).1 = 1 ∧ u 114 7 = (tk_r0 f n (w 115)).2.1 → (tk_r0 f n (w 115)).2.1 ≤ n → xx l E (ic_fr E mX12_rules 21 0 0 False SHs (ic_qi (fun v_ h_ => v_ = nI (tk_rv f n (w 115)) ∧ ∃ w2, h_ = hn w2 ∧ Kw w w2 ∧ w2 114 5 = 0 ∧ w2 115 = tk_rw f n (w 115)))) (0, 0) 77 [(0, ic_pt E 114)] [] SHs (hn u) := by
    intro u p_u x_u b_u hr hl2
    refine xx_aload_nP (pc := 77) dX12_rules_77 0 rfl rfl ?_
    refine xx_iconst (pc := 78) dX12_rules_78 cc_iconst_0 ?_
    refine xx_putN (pc := 79) dX12_rules_79 sh_114 fX12_153_12 rfl rfl ?_
    refine xx_nw (fun w751 ew751 => ?_)
    have p_w751 : w751 114 10 = 1 := by rw [ew751, wu_k _ _ _ _ (by omega)]; exact p_u
    have x_w751 : Kw w w751 := x_u.tr ⟨fun a h1 h2 h3 => by rw [ew751, wu_row _ _ _ h1], fun j hj => by rw [ew751, wu_k _ _ _ _ (by omega)], fun j hj => by rw [ew751, wu_row _ _ _ (by decide)]⟩
    have t_w751 : w751 114 5 = 0 := by rw [ew751, wu_s]
    have y_w751 : w751 115 = u 115 ∧ w751 119 = u 119 ∧ w751 114 7 = u 114 7 := ⟨by rw [ew751, wu_row _ _ _ (by decide)], by rw [ew751, wu_row _ _ _ (by decide)], by rw [ew751, wu_k _ _ _ _ (by omega)]⟩
    refine xx_iconst (pc := 82) dX12_rules_82 cc_iconst_0 ?_
    refine xx_istore_n (L' := [(1, .int (nI 0)), (0, ic_pt E 114)]) (pc := 83) dX12_rules_83 rfl (Nat.le_of_ble_eq_true rfl) rfl ?_
    exact xx_sub [0, 1] rfl (lb 579 0 w751 p_w751 x_w751 t_w751 (fun j hj => by rw [y_w751.2.1]; exact b_u j hj) (fun j hj => absurd hj (Nat.not_lt_zero j)) ⟨hr.1, y_w751.2.2.trans hr.2⟩ hl2 (by omega) (by omega))
  have ll : ∀ (n_ : Nat) (k a : Nat) (u : ic_w), Tz u f n a → u 114 10 = 0 → Kw w u → (∀ j, j < 578 → u 119 j = w 115 j) → tk_r0 f n (w 115) = tk_ru f n k (u 115) a → u 115 5 ≤ 8 → 2 * u 115 7 ≤ a → n < a + k → k < n_ → xx l E (ic_fr E mX12_rules 21 0 0 False SHs (ic_qi (fun v_ h_ => v_ = nI (tk_rv f n (w 115)) ∧ ∃ w2, h_ = hn w2 ∧ Kw w w2 ∧ w2 114 5 = 0 ∧ w2 115 = tk_rw f n (w 115)))) (0, 0) 56 [(0, ic_pt E 114)] [] SHs (hn u) := by
    intro n_
    induction n_ with
    | zero => intro k a u z_u p_u x_u b_u hl h5 hb hk hm_; exact absurd hm_ (Nat.not_lt_zero _)
    | succ n_ ih_ =>
      intro k a u z_u p_u x_u b_u hl h5 hb hk hm_
      refine xx_aload_nP (pc := 56) dX12_rules_56 0 rfl rfl ?_
      refine xx_getN (pc := 57) dX12_rules_57 sh_114 fX12_180_12 rfl ?_
      refine xx_eqI (y := nI (0)) (by rw [p_u]) ?_
      refine xx_if_neN (pc := 60) 77 dX12_rules_60 rfl (by omega) (fun c501 => by exfalso; omega) (fun c501 => ?_)
      refine xx_aload_nP (pc := 63) dX12_rules_63 0 rfl rfl ?_
      refine xx_getN (pc := 64) dX12_rules_64 sh_114 fX12_174_12 rfl ?_
      refine xx_if_eqN (pc := 67) 77 dX12_rules_67 rfl (by have := z_u.b; omega) (fun c502 => ?_) (fun c502 => ?_)
      · have k0_ : tk_k f n a = 0 := by have := z_u.2.2.1; omega
        obtain ⟨k, rfl⟩ : ∃ q, k = q + 1 := ⟨k - 1, by have := z_u.2.1; omega⟩
        rw [tk_ru_0 k0_] at hl
        exact xx_sub [0] rfl (c770 u p_u x_u ⟨by rw [hl], by rw [hl]⟩)
      · have k0_ : tk_k f n a ≠ 0 := by have := z_u.2.2.1; omega
        obtain ⟨k, rfl⟩ : ∃ q, k = q + 1 := ⟨k - 1, by have := z_u.2.1; omega⟩
        have R_ := tk_rh_R (f := f) (c := u 115 5) z_u.2.1
        refine xx_aload_nP (pc := 70) dX12_rules_70 0 rfl rfl ?_
        refine xx_callV0 (pc := 71) (st := []) sh_114 (cZ_rule (w := u) z_u p_u h5 hb) kX12_ruleHere vX12_236_12 dX12_rules_71 rfl rfl (Nat.le_of_ble_eq_true rfl) (pl_hR (d := 21) (by omega) (Nat.le_of_ble_eq_true rfl)) ⟨Nat.zero_le _, Nat.zero_le _⟩ (ic_kv (fun h_ qw503 => ?_))
        obtain ⟨w503, rfl, y_w503, z_w503, q10_, q15_⟩ := qw503
        have x_w503 := x_u.tr y_w503.k
        have b_w503 : ∀ j, j < 578 → w503 119 j = w 115 j := fun j hj => by rw [y_w503.1 119 (by decide) (by decide)]; exact b_u j hj
        by_cases v_ : (tk_rh f n (u 115 5) a).1 = 0
        · have p_w503 : w503 114 10 = 0 := q10_.trans v_
          have s_w503 := q15_ v_
          have R4_ := R_.2.2.2 v_
          have hl_ : tk_r0 f n (w 115) = tk_ru f n k (w503 115) (tk_rh f n (u 115 5) a).2.1 := by rw [hl, tk_ru_s k0_ v_, s_w503]
          have h5_ : w503 115 5 ≤ 8 := by rw [s_w503, tk_rr_5]; have := (tk_rk_k R4_.2.1).1.2; omega
          have hb_ : 2 * w503 115 7 ≤ (tk_rh f n (u 115 5) a).2.1 := by rw [s_w503, tk_rr_7]; have := R4_.2.2.2.2.2; omega
          refine xx_goto (pc := 74) 56 dX12_rules_74 rfl ?_
          exact xx_sub [0] rfl (ih_ k _ w503 z_w503 p_w503 x_w503 b_w503 hl_ h5_ hb_ (by have := R4_.1; omega) (by omega))
        · have p_w503 : w503 114 10 = 1 := q10_.trans (by have := R_.1; omega)
          rw [tk_ru_1 k0_ v_] at hl
          refine xx_goto (pc := 74) 56 dX12_rules_74 rfl ?_
          refine xx_aload_nP (pc := 56) dX12_rules_56 0 rfl rfl ?_
          refine xx_getN (pc := 57) dX12_rules_57 sh_114 fX12_180_12 rfl ?_
          refine xx_eqI (y := nI (1)) (by rw [p_w503]) ?_
          refine xx_if_neN (pc := 60) 77 dX12_rules_60 rfl (by omega) (fun c505 => ?_) (fun c505 => by exfalso; omega)
          exact xx_sub [0] rfl (c771 w503 p_w503 x_w503 b_w503 ⟨by rw [hl], by rw [hl]; exact z_w503.2.2.2.1⟩ (by rw [hl]; exact R_.2.2.1))
  have c27 : ∀ (u : ic_w), (∀ a, a ≠ 119 → u a = w a) → (∀ j, j < 578 → u 119 j = w 115 j) → xx l E (ic_fr E mX12_rules 21 0 0 False SHs (ic_qi (fun v_ h_ => v_ = nI (tk_rv f n (w 115)) ∧ ∃ w2, h_ = hn w2 ∧ Kw w w2 ∧ w2 114 5 = 0 ∧ w2 115 = tk_rw f n (w 115)))) (0, 0) 27 [(0, ic_pt E 114)] [] SHs (hn u) := by
    intro u r_u b_u
    have x_u : Kw w u := ⟨fun a h1 h2 h3 => r_u a h3, fun j hj => by rw [r_u 114 (by decide)], fun j hj => by rw [r_u 115 (by decide)]⟩
    refine xx_aload_nP (pc := 27) dX12_rules_27 0 rfl rfl ?_
    refine xx_getR (pc := 28) 115 dX12_rules_28 sh_114 fX12_7_12 rfl rfl (by decide) ?_
    refine xx_iconst (pc := 31) dX12_rules_31 cc_iconst_5 ?_
    refine xx_iconst (pc := 32) dX12_rules_32 cc_iconst_0 ?_
    refine xx_iastN (pc := 33) dX12_rules_33 sh_115 (by omega) (by decide) ?_
    refine xx_nw (fun w301 ew301 => ?_)
    have x_w301 : Kw w w301 := x_u.tr ⟨fun a h1 h2 h3 => by rw [ew301, wu_row _ _ _ h2], fun j hj => by rw [ew301, wu_row _ _ _ (by decide)], fun j hj => by rw [ew301, wu_k _ _ _ _ (by omega)]⟩
    have b_w301 : ∀ j, j < 578 → w301 119 j = w 115 j := fun j hj => by rw [ew301, wu_row _ _ _ (by decide)]; exact b_u j hj
    have t_w301 := (congrFun ew301 115).trans (wu_fu u 115 _ _)
    have e_w301 : w301 114 = u 114 := by rw [ew301, wu_row _ _ _ (by decide)]
    refine xx_aload_nP (pc := 34) dX12_rules_34 0 rfl rfl ?_
    refine xx_getR (pc := 35) 115 dX12_rules_35 sh_114 fX12_7_12 rfl rfl (by decide) ?_
    refine xx_bipush (pc := 38) dX12_rules_38 cc_bipush_7 ?_
    refine xx_iconst (pc := 40) dX12_rules_40 cc_iconst_0 ?_
    refine xx_iastN (pc := 41) dX12_rules_41 sh_115 (by omega) (by decide) ?_
    refine xx_nw (fun w302 ew302 => ?_)
    have x_w302 : Kw w w302 := x_w301.tr ⟨fun a h1 h2 h3 => by rw [ew302, wu_row _ _ _ h2], fun j hj => by rw [ew302, wu_row _ _ _ (by decide)], fun j hj => by rw [ew302, wu_k _ _ _ _ (by omega)]⟩
    have b_w302 : ∀ j, j < 578 → w302 119 j = w 115 j := fun j hj => by rw [ew302, wu_row _ _ _ (by decide)]; exact b_w301 j hj
    have t_w302 := (congrFun ew302 115).trans (wu_fu w301 115 _ _)
    have e_w302 : w302 114 = u 114 := by rw [ew302, wu_row _ _ _ (by decide)]; exact e_w301
    refine xx_aload_nP (pc := 42) dX12_rules_42 0 rfl rfl ?_
    refine xx_iconst (pc := 43) dX12_rules_43 cc_iconst_0 ?_
    refine xx_putN (pc := 44) dX12_rules_44 sh_114 fX12_159_12 rfl rfl ?_
    refine xx_nw (fun w303 ew303 => ?_)
    have x_w303 : Kw w w303 := x_w302.tr ⟨fun a h1 h2 h3 => by rw [ew303, wu_row _ _ _ h1], fun j hj => by rw [ew303, wu_k _ _ _ _ (by omega)], fun j hj => by rw [ew303, wu_row _ _ _ (by decide)]⟩
    have b_w303 : ∀ j, j < 578 → w303 119 j = w 115 j := fun j hj => by rw [ew303, wu_row _ _ _ (by decide)]; exact b_w302 j hj
    have t_w303 : w303 115 = w302 115 := by rw [ew303, wu_row _ _ _ (by decide)]
    have k_w303 : w303 114 5 = w302 114 5 := by rw [ew303, wu_k _ _ _ _ (by omega)]
    refine xx_aload_nP (pc := 47) dX12_rules_47 0 rfl rfl ?_
    refine xx_iconst (pc := 48) dX12_rules_48 cc_iconst_0 ?_
    refine xx_putB (pc := 49) dX12_rules_49 sh_114 fX12_180_12 rfl rfl (by omega) ?_
    refine xx_nw (fun w304 ew304 => ?_)
    have x_w304 : Kw w w304 := x_w303.tr ⟨fun a h1 h2 h3 => by rw [ew304, wu_row _ _ _ h1], fun j hj => by rw [ew304, wu_k _ _ _ _ (by omega)], fun j hj => by rw [ew304, wu_row _ _ _ (by decide)]⟩
    have b_w304 : ∀ j, j < 578 → w304 119 j = w 115 j := fun j hj => by rw [ew304, wu_row _ _ _ (by decide)]; exact b_w303 j hj
    have t_w304 : w304 115 = w303 115 := by rw [ew304, wu_row _ _ _ (by decide)]
    have k_w304 : w304 114 5 = w303 114 5 := by rw [ew304, wu_k _ _ _ _ (by omega)]
    refine xx_aload_nP (pc := 52) dX12_rules_52 0 rfl rfl ?_
    have h8_ : w304 114 8 = 0 := by rw [ew304, wu_k _ _ _ _ (by omega), ew303, wu_s]
    have hX4_ : Tx w304 f n := hX.of (by rw [k_w304, k_w303, e_w302, r_u 114 (by decide)]) (x_w304.1 118 (by decide) (by decide) (by decide))
    refine xx_callV0 (pc := 53) (st := []) sh_114 (cM_nextToken (w := w304) (f := f) (n := n) hX4_ (by omega)) kX12_nextToken vX12_184_12 dX12_rules_53 rfl rfl (Nat.le_of_ble_eq_true rfl) (pl_hR (d := 21) (by omega) (Nat.le_of_ble_eq_true rfl)) ⟨Nat.zero_le _, Nat.zero_le _⟩ (ic_kv (fun h_ qw305 => ?_))
    obtain ⟨w305, rfl, ⟨g1_, g2_⟩, g6_, g7_, g8_, g9_⟩ := qw305
    rw [h8_] at g6_ g7_ g8_ g9_
    have z_w305 : Tz w305 f n (tk_a f n 0) := ⟨hX4_.of (g2_ 5 (by omega) (by omega) (by omega) (by omega)) (g1_ 118 (by decide)), by have := tk_s_le (f := f) (n - 0) 0; unfold tk_a; omega, g6_, g7_, g8_, g9_⟩
    have p_w305 : w305 114 10 = 0 := (g2_ 10 (by omega) (by omega) (by omega) (by omega)).trans (by rw [ew304, wu_s])
    have x_w305 : Kw w w305 := x_w304.tr ⟨fun a h1 h2 h3 => g1_ a h1, fun j hj => g2_ j (by omega) (by omega) (by omega) (by omega), fun j hj => by rw [g1_ 115 (by decide)]⟩
    have b_w305 : ∀ j, j < 578 → w305 119 j = w 115 j := fun j hj => by rw [g1_ 119 (by decide)]; exact b_w304 j hj
    have s_w305 : w305 115 = fu (fu (w 115) 5 0) 7 0 := by rw [g1_ 115 (by decide), t_w304, t_w303, t_w302, t_w301, r_u 115 (by decide)]
    exact xx_sub [0] rfl (ll 202 201 (tk_a f n 0) w305 z_w305 p_w305 x_w305 b_w305 (by rw [s_w305]; rfl) (by rw [s_w305]; exact Nat.zero_le _) (by rw [s_w305]; exact Nat.zero_le _) (by omega) (by omega))
  have la : ∀ (n_ : Nat) (k : Nat) (u : ic_w), (∀ a, a ≠ 119 → u a = w a) → (∀ j, j < k → u 119 j = w 115 j) → k ≤ 578 → 578 - k < n_ → xx l E (ic_fr E mX12_rules 21 0 0 False SHs (ic_qi (fun v_ h_ => v_ = nI (tk_rv f n (w 115)) ∧ ∃ w2, h_ = hn w2 ∧ Kw w w2 ∧ w2 114 5 = 0 ∧ w2 115 = tk_rw f n (w 115)))) (0, 0) 2 [(1, .int (nI k)), (0, ic_pt E 114)] [] SHs (hn u) := by
    intro n_
    induction n_ with
    | zero => intro k u r_u b_u hk hm_; exact absurd hm_ (Nat.not_lt_zero _)
    | succ n_ ih_ =>
      intro k u r_u b_u hk hm_
      refine xx_iload_n (pc := 2) dX12_rules_2 0 rfl rfl ?_
      refine xx_sipush (pc := 3) dX12_rules_3 cc_sipush_578 ?_
      refine xx_icmp_geN (pc := 6) 27 dX12_rules_6 rfl (by omega) (by omega) (fun c101 => ?_) (fun c101 => ?_)
      · exact xx_sub [1] rfl (c27 u r_u (fun j hj => b_u j (by omega)))
      · refine xx_aload_nP (pc := 9) dX12_rules_9 1 rfl rfl ?_
        refine xx_getR (pc := 10) 119 dX12_rules_10 sh_114 fX12_22_12 rfl rfl (by decide) ?_
        refine xx_iload_n (pc := 13) dX12_rules_13 0 rfl rfl ?_
        refine xx_aload_nP (pc := 14) dX12_rules_14 1 rfl rfl ?_
        refine xx_getR (pc := 15) 115 dX12_rules_15 sh_114 fX12_7_12 rfl rfl (by decide) ?_
        refine xx_iload_n (pc := 18) dX12_rules_18 0 rfl rfl ?_
        refine xx_ialdN (pc := 19) dX12_rules_19 sh_115 (by omega) (by decide) ?_
        refine xx_iastN (pc := 20) dX12_rules_20 sh_119 (by omega) (by decide) ?_
        refine xx_nw (fun w102 ew102 => ?_)
        have r_w102 : ∀ a, a ≠ 119 → w102 a = w a := fun a h => by rw [ew102, wu_row _ _ _ h]; exact r_u a h
        have b_w102 : ∀ j, j < k + 1 → w102 119 j = w 115 j := fun j hj => (Nat.lt_succ_iff_lt_or_eq.mp hj).elim (fun y => by rw [ew102, wu_k _ _ _ _ (by omega)]; exact b_u j y) (fun y => by rw [y, ew102, wu_s, r_u 115 (by decide)])
        refine xx_iincN (L' := [(1, .int (nI (k + 1))), (0, ic_pt E 114)]) (pc := 21) dX12_rules_21 0 rfl cc_iconst_1 (Nat.le_of_ble_eq_true rfl) rfl ?_
        refine xx_goto (pc := 24) 2 dX12_rules_24 rfl ?_
        exact xx_sub [0, 1] rfl (ih_ (k + 1) w102 r_w102 b_w102 (by omega) (by omega))
  refine xx_iconst (pc := 0) dX12_rules_0 cc_iconst_0 ?_
  refine xx_istore_n (L' := [(1, .int (nI 0)), (0, ic_pt E 114)]) (pc := 1) dX12_rules_1 rfl (Nat.le_of_ble_eq_true rfl) rfl ?_
  exact xx_sub [0, 1] rfl (la 579 0 w (fun _ _ => rfl) (fun j hj => absurd hj (Nat.not_lt_zero j)) (by omega) (by omega))

