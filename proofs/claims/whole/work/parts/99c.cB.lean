/-! the class's reader: words -/
theorem by_v : ∀ v, v < 256 → mo_by v = if v < 128 then v else v + 4294967040 := by decide +kernel
theorem by_c {v : Nat} (h : v ≤ 255) : (v < 128 ∧ mo_by v = v) ∨ (128 ≤ v ∧ mo_by v = v + 4294967040) := by
  have := by_v v (by omega)
  split at this <;> omega
/-- the draft of the rules reads the text f of n bytes -/
def Cx (w : ic_w) (f : Nat → Nat) (n : Nat) : Prop := w 5 6 = 5 ∧ w 5 7 = n ∧ n ≤ 200 ∧ ∀ j, j < n → w 4 j = mo_by (f j) ∧ f j ≤ 255
/-- and stands before the word that begins at a -/
def Ty (w : ic_w) (f : Nat → Nat) (n a : Nat) : Prop := Cx w f n ∧ a ≤ n ∧ w 5 8 = a ∧ w 5 9 = tk_e f n a ∧ w 5 10 = tk_k f n a
theorem Cx.of {w u : ic_w} {f : Nat → Nat} {n : Nat} (h : Cx w f n) (e6 : u 5 6 = w 5 6) (e7 : u 5 7 = w 5 7) (e : u 4 = w 4) : Cx u f n := by
  unfold Cx
  rw [e6, e7, e]
  exact h
theorem Ty.of {w u : ic_w} {f : Nat → Nat} {n a : Nat} (h : Ty w f n a) (e : ∀ j, 6 ≤ j → j ≤ 10 → u 5 j = w 5 j) (e4 : u 4 = w 4) : Ty u f n a := by
  obtain ⟨h1, h2, h3, h4, h5⟩ := h
  exact ⟨h1.of (e 6 (by omega) (by omega)) (e 7 (by omega) (by omega)) e4, h2, (e 8 (by omega) (by omega)).trans h3, (e 9 (by omega) (by omega)).trans h4, (e 10 (by omega) (by omega)).trans h5⟩
theorem tk_l_iff (f : Nat → Nat) (n : Nat) : ∀ (l : List Nat) (a : Nat), tk_l f n l a = true ↔ ∀ j, j < l.length → tk_b f n (a + j) = l.getD j 0 := by
  intro l
  induction l with
  | nil => intro a; exact ⟨fun _ j hj => absurd hj (Nat.not_lt_zero j), fun _ => rfl⟩
  | cons c l ih =>
    intro a
    cases l with
    | nil =>
      constructor
      · intro h j hj
        have hj0 : j = 0 := by
          have : j < 1 := hj
          omega
        subst hj0
        exact beq_iff_eq.mp h
      · intro h
        exact beq_iff_eq.mpr (h 0 Nat.zero_lt_one)
    | cons d l =>
      have e : tk_l f n (c :: d :: l) a = (tk_b f n a == c && tk_l f n (d :: l) (a + 1)) := rfl
      rw [e, Bool.and_eq_true, beq_iff_eq, ih]
      constructor
      · intro h j hj
        cases j with
        | zero => exact h.1
        | succ j =>
          have := h.2 j (Nat.lt_of_succ_lt_succ hj)
          rw [show a + (j + 1) = a + 1 + j by omega]
          exact this
      · intro h
        refine ⟨h 0 (Nat.succ_pos _), fun j hj => ?_⟩
        have := h (j + 1) (Nat.succ_lt_succ hj)
        rw [show a + 1 + j = a + (j + 1) by omega]
        exact this
theorem tk_i_iff {f : Nat → Nat} {n a : Nat} {l : List Nat} : tk_i f n l a = true ↔ (tk_k f n a = 1 ∧ tk_e f n a = a + l.length ∧ ∀ j, j < l.length → tk_b f n (a + j) = l.getD j 0) := by
  unfold tk_i tk_w
  rw [Bool.and_eq_true, Bool.and_eq_true, beq_iff_eq, beq_iff_eq, tk_l_iff]
theorem tk_fin3 {f : Nat → Nat} {n a e T : Nat} (hT : tk_k f n a = T) (h3 : T ≠ 3) (h : (T = 0 → e = a) ∧ (T ≠ 0 → tk_r f T (n - a) a = tk_r f T (n - e) e)) (hs : ¬ (e < n ∧ tk_c (f e) = T)) : e = tk_e f n a := by
  unfold tk_e
  rw [hT]
  by_cases z : T = 0
  · rw [if_pos z]
    exact h.1 z
  · rw [if_neg z, if_neg h3, h.2 z, tk_r_at hs]
set_option maxHeartbeats 4000000 in
set_option maxRecDepth 100000 in
theorem cC_sortAt {l : Launch} {E : ic_E} {w : ic_w} {f : Nat → Nat} {n a : Nat} (ha : a < 2 ^ 31) (hX : Cx w f n) : ic_C l E mX10_sortAt 1 0 0 False [ic_pt E 5, .int (nI a)] SHs (hn w) SHs (ic_qe (nI (tk_k f n a)) (hn w)) := by
  refine ic_intro (by decide +kernel) (Nat.le_of_ble_eq_true rfl) ?_
  show xx l E _ _ 0 [(0, ic_pt E 5), (1, .int (nI a))] _ _ _
  have hn2 := hX.2.2.1
  refine xx_iload_n (pc := 0) dX10_sortAt_0 1 rfl rfl ?_
  refine xx_aload_nP (pc := 1) dX10_sortAt_1 0 rfl rfl ?_
  refine xx_getN (pc := 2) dX10_sortAt_2 sh_5 fX10_47_10 rfl ?_
  refine xx_eqI (y := nI (n)) (by rw [hX.2.1]) ?_
  refine xx_icmp_ltN (pc := 5) 10 dX10_sortAt_5 rfl (by omega) (by omega) (fun c1 => ?_) (fun c1 => ?_)
  · have hl_ := (hX.2.2.2 a (by omega))
    refine xx_aload_nP (pc := 10) dX10_sortAt_10 0 rfl rfl ?_
    refine xx_getD (pc := 11) dX10_sortAt_11 sh_5 fX10_24_10 rfl rfl ?_
    refine xx_eqT (v2 := ic_pt E 4) (rv_hn (t := 5) hX.1 (by omega)) ?_
    refine xx_iload_n (pc := 14) dX10_sortAt_14 1 rfl rfl ?_
    refine xx_baldN (pc := 15) dX10_sortAt_15 sh_4 (by omega) (by decide) ?_
    refine xx_eqI (y := nI (mo_by (f a))) (by rw [hl_.1]) ?_
    refine xx_istore_n (L' := [(2, .int (nI (mo_by (f a)))), (0, ic_pt E 5), (1, .int (nI a))]) (pc := 16) dX10_sortAt_16 rfl (Nat.le_of_ble_eq_true rfl) rfl ?_
    have hb_ := by_c hl_.2
    refine xx_iload_n (pc := 17) dX10_sortAt_17 0 rfl rfl ?_
    refine xx_bipush (pc := 18) dX10_sortAt_18 cc_bipush_97 ?_
    refine xx_icmp_ltS (pc := 20) 31 dX10_sortAt_20 rfl (by omega) (by omega) (fun c2 => ?_) (fun c2 => ?_)
    · refine xx_iload_n (pc := 31) dX10_sortAt_31 0 rfl rfl ?_
      refine xx_bipush (pc := 32) dX10_sortAt_32 cc_bipush_48 ?_
      refine xx_icmp_ltS (pc := 34) 47 dX10_sortAt_34 rfl (by omega) (by omega) (fun c3 => ?_) (fun c3 => ?_)
      · refine xx_iconst (pc := 47) dX10_sortAt_47 cc_iconst_3 ?_
        exact xx_iret (pc := 48) dX10_sortAt_48 rfl (rfl) (Nat.le_refl _) (Nat.le_refl _) (ic_re ((if_pos (show a < n by omega)).trans (by unfold tk_c; rw [if_neg (by omega), if_neg (by omega)])).symm)
      · refine xx_iload_n (pc := 37) dX10_sortAt_37 0 rfl rfl ?_
        refine xx_bipush (pc := 38) dX10_sortAt_38 cc_bipush_57 ?_
        refine xx_icmp_gtS (pc := 40) 47 dX10_sortAt_40 rfl (by omega) (by omega) (fun c4 => ?_) (fun c4 => ?_)
        · refine xx_iconst (pc := 47) dX10_sortAt_47 cc_iconst_3 ?_
          exact xx_iret (pc := 48) dX10_sortAt_48 rfl (rfl) (Nat.le_refl _) (Nat.le_refl _) (ic_re ((if_pos (show a < n by omega)).trans (by unfold tk_c; rw [if_neg (by omega), if_neg (by omega)])).symm)
        · refine xx_iconst (pc := 43) dX10_sortAt_43 cc_iconst_2 ?_
          refine xx_goto (pc := 44) 48 dX10_sortAt_44 rfl ?_
          exact xx_iret (pc := 48) dX10_sortAt_48 rfl (rfl) (Nat.le_refl _) (Nat.le_refl _) (ic_re ((if_pos (show a < n by omega)).trans (tk_c_2.mpr (by omega))).symm)
    · refine xx_iload_n (pc := 23) dX10_sortAt_23 0 rfl rfl ?_
      refine xx_bipush (pc := 24) dX10_sortAt_24 cc_bipush_122 ?_
      refine xx_icmp_gtS (pc := 26) 31 dX10_sortAt_26 rfl (by omega) (by omega) (fun c5 => ?_) (fun c5 => ?_)
      · refine xx_iload_n (pc := 31) dX10_sortAt_31 0 rfl rfl ?_
        refine xx_bipush (pc := 32) dX10_sortAt_32 cc_bipush_48 ?_
        refine xx_icmp_ltS (pc := 34) 47 dX10_sortAt_34 rfl (by omega) (by omega) (fun c6 => ?_) (fun c6 => ?_)
        · refine xx_iconst (pc := 47) dX10_sortAt_47 cc_iconst_3 ?_
          exact xx_iret (pc := 48) dX10_sortAt_48 rfl (rfl) (Nat.le_refl _) (Nat.le_refl _) (ic_re ((if_pos (show a < n by omega)).trans (by unfold tk_c; rw [if_neg (by omega), if_neg (by omega)])).symm)
        · refine xx_iload_n (pc := 37) dX10_sortAt_37 0 rfl rfl ?_
          refine xx_bipush (pc := 38) dX10_sortAt_38 cc_bipush_57 ?_
          refine xx_icmp_gtS (pc := 40) 47 dX10_sortAt_40 rfl (by omega) (by omega) (fun c7 => ?_) (fun c7 => ?_)
          · refine xx_iconst (pc := 47) dX10_sortAt_47 cc_iconst_3 ?_
            exact xx_iret (pc := 48) dX10_sortAt_48 rfl (rfl) (Nat.le_refl _) (Nat.le_refl _) (ic_re ((if_pos (show a < n by omega)).trans (by unfold tk_c; rw [if_neg (by omega), if_neg (by omega)])).symm)
          · refine xx_iconst (pc := 43) dX10_sortAt_43 cc_iconst_2 ?_
            refine xx_goto (pc := 44) 48 dX10_sortAt_44 rfl ?_
            exact xx_iret (pc := 48) dX10_sortAt_48 rfl (rfl) (Nat.le_refl _) (Nat.le_refl _) (ic_re ((if_pos (show a < n by omega)).trans (tk_c_2.mpr (by omega))).symm)
      · refine xx_iconst (pc := 29) dX10_sortAt_29 cc_iconst_1 ?_
        exact xx_iret (pc := 30) dX10_sortAt_30 rfl (rfl) (Nat.le_refl _) (Nat.le_refl _) (ic_re ((if_pos (show a < n by omega)).trans (tk_c_1.mpr (by omega))).symm)
  · refine xx_iconst (pc := 8) dX10_sortAt_8 cc_iconst_0 ?_
    exact xx_iret (pc := 9) dX10_sortAt_9 rfl (rfl) (Nat.le_refl _) (Nat.le_refl _) (ic_re (if_neg (by omega)).symm)

set_option maxHeartbeats 4000000 in
set_option maxRecDepth 100000 in
theorem cC_advance {l : Launch} {E : ic_E} {w : ic_w} {f : Nat → Nat} {n : Nat} (hX : Cx w f n) (h9 : w 5 9 ≤ n) : ic_C l E mX10_advance 2 0 0 False [ic_pt E 5] SHs (hn w) SHs (ic_qv (fun h_ => ∃ w2, h_ = hn w2 ∧ ((∀ a, a ≠ 5 → w2 a = w a) ∧ ∀ j, j ≠ 8 → j ≠ 9 → j ≠ 10 → w2 5 j = w 5 j) ∧ w2 5 8 = tk_a f n (w 5 9) ∧ w2 5 9 = tk_e f n (tk_a f n (w 5 9)) ∧ w2 5 10 = tk_k f n (tk_a f n (w 5 9)))) := by
  refine ic_intro (by decide +kernel) (Nat.le_of_ble_eq_true rfl) ?_
  show xx l E _ _ 0 [(0, ic_pt E 5)] _ _ _
  have hn2 := hX.2.2.1
  have lp2 : ∀ (n_ : Nat) (a T e : Nat) (u : ic_w), u 5 8 = a → u 5 9 = e → u 5 10 = T → (∀ a, a ≠ 5 → u a = w a) → (∀ j, j ≠ 8 → j ≠ 9 → j ≠ 10 → u 5 j = w 5 j) → tk_a f n (w 5 9) = a → tk_k f n a = T → T ≠ 3 → a ≤ e ∧ e ≤ n → (T = 0 → e = a) ∧ (T ≠ 0 → tk_r f T (n - a) a = tk_r f T (n - e) e) → n - e < n_ → xx l E (ic_fr E mX10_advance 2 0 0 False SHs (ic_qv (fun h_ => ∃ w2, h_ = hn w2 ∧ ((∀ a, a ≠ 5 → w2 a = w a) ∧ ∀ j, j ≠ 8 → j ≠ 9 → j ≠ 10 → w2 5 j = w 5 j) ∧ w2 5 8 = tk_a f n (w 5 9) ∧ w2 5 9 = tk_e f n (tk_a f n (w 5 9)) ∧ w2 5 10 = tk_k f n (tk_a f n (w 5 9))))) (0, 0) 87 [(0, ic_pt E 5)] [] SHs (hn u) := by
    intro n_
    induction n_ with
    | zero => intro a T e u f8_u f9_u f10_u r_u k_u hA hT h3 he h2 hm_; exact absurd hm_ (Nat.not_lt_zero _)
    | succ n_ ih_ =>
      intro a T e u f8_u f9_u f10_u r_u k_u hA hT h3 he h2 hm_
      have hX_u : Cx u f n := hX.of (k_u 6 (by omega) (by omega) (by omega)) (k_u 7 (by omega) (by omega) (by omega)) (r_u 4 (by omega))
      have t3_ := (tk_k_le f n a).1
      refine xx_aload_nP (pc := 87) dX10_advance_87 0 rfl rfl ?_
      refine xx_getN (pc := 88) dX10_advance_88 sh_5 fX10_50_10 rfl ?_
      refine xx_eqI (y := nI (e)) (by rw [f9_u]) ?_
      refine xx_aload_nP (pc := 91) dX10_advance_91 0 rfl rfl ?_
      refine xx_getN (pc := 92) dX10_advance_92 sh_5 fX10_47_10 rfl ?_
      refine xx_eqI (y := nI (n)) (by rw [hX_u.2.1]) ?_
      refine xx_icmp_geN (pc := 95) 126 dX10_advance_95 rfl (by omega) (by omega) (fun c301 => ?_) (fun c301 => ?_)
      · have hs_ : ¬ (e < n ∧ tk_c (f e) = T) := fun y => absurd y.1 (by omega)
        exact xx_vret (pc := 126) dX10_advance_126 rfl (Nat.le_refl _) (Nat.le_refl _) (ic_rv0 ⟨u, rfl, ⟨r_u, k_u⟩, by rw [f8_u, hA], by rw [f9_u, hA]; exact tk_fin3 hT h3 h2 hs_, by rw [f10_u, hA, hT]⟩)
      · have hke_ : tk_k f n e = tk_c (f e) := if_pos (by omega)
        have hcl_ := tk_c_le (f e)
        refine xx_aload_nP (pc := 98) dX10_advance_98 0 rfl rfl ?_
        refine xx_aload_nP (pc := 99) dX10_advance_99 0 rfl rfl ?_
        refine xx_getN (pc := 100) dX10_advance_100 sh_5 fX10_50_10 rfl ?_
        refine xx_eqI (y := nI (e)) (by rw [f9_u]) ?_
        refine xx_callV0 (pc := 103) (st := []) sh_5 (cC_sortAt (w := u) (a := e) (by omega) hX_u) kX10_sortAt vX10_141_10 dX10_advance_103 rfl rfl (Nat.le_of_ble_eq_true rfl) ⟨Nat.le_of_ble_eq_true rfl, Nat.le_of_ble_eq_true rfl⟩ ⟨Nat.zero_le _, Nat.zero_le _⟩ (ic_ke ?_)
        refine xx_aload_nP (pc := 106) dX10_advance_106 0 rfl rfl ?_
        refine xx_getN (pc := 107) dX10_advance_107 sh_5 fX10_56_10 rfl ?_
        refine xx_eqI (y := nI (T)) (by rw [f10_u]) ?_
        refine xx_icmp_neN (pc := 110) 126 dX10_advance_110 rfl (by omega) (by omega) (fun c302 => ?_) (fun c302 => ?_)
        · have hs_ : ¬ (e < n ∧ tk_c (f e) = T) := fun y => by omega
          exact xx_vret (pc := 126) dX10_advance_126 rfl (Nat.le_refl _) (Nat.le_refl _) (ic_rv0 ⟨u, rfl, ⟨r_u, k_u⟩, by rw [f8_u, hA], by rw [f9_u, hA]; exact tk_fin3 hT h3 h2 hs_, by rw [f10_u, hA, hT]⟩)
        · have hg_ := tk_r_go (f := f) (n := n) (a := e) (t := T) (by omega) (by omega)
          refine xx_aload_nP (pc := 113) dX10_advance_113 0 rfl rfl ?_
          refine xx_dup (pc := 114) dX10_advance_114 rfl ?_
          refine xx_getN (pc := 115) dX10_advance_115 sh_5 fX10_50_10 rfl ?_
          refine xx_eqI (y := nI (e)) (by rw [f9_u]) ?_
          refine xx_iconst (pc := 118) dX10_advance_118 cc_iconst_1 ?_
          refine xx_iaddN (pc := 119) dX10_advance_119 ?_
          refine xx_putN (pc := 120) dX10_advance_120 sh_5 fX10_50_10 rfl rfl ?_
          refine xx_nw (fun w303 ew303 => ?_)
          have f9_w303 : w303 5 9 = e + 1 := by rw [ew303, wu_s]
          have f8_w303 : w303 5 8 = a := by rw [ew303, wu_k _ _ _ _ (by omega)]; exact f8_u
          have f10_w303 : w303 5 10 = T := by rw [ew303, wu_k _ _ _ _ (by omega)]; exact f10_u
          have r_w303 : ∀ a, a ≠ 5 → w303 a = w a := fun a h => by rw [ew303, wu_row _ _ _ h]; exact r_u a h
          have k_w303 : ∀ j, j ≠ 8 → j ≠ 9 → j ≠ 10 → w303 5 j = w 5 j := fun j h8 h9 h10 => by rw [ew303, wu_k _ _ _ _ h9]; exact k_u j h8 h9 h10
          have hX_w303 : Cx w303 f n := hX.of (k_w303 6 (by omega) (by omega) (by omega)) (k_w303 7 (by omega) (by omega) (by omega)) (r_w303 4 (by omega))
          refine xx_goto (pc := 123) 87 dX10_advance_123 rfl ?_
          exact xx_sub [0] rfl (ih_ a T (e + 1) w303 f8_w303 f9_w303 f10_w303 r_w303 k_w303 hA hT h3 (by omega) ⟨fun h => absurd h (by omega), fun h => (h2.2 h).trans hg_⟩ (by omega))
  have lp1 : ∀ (n_ : Nat) (a : Nat) (u : ic_w), u 5 8 = a → u 5 9 = w 5 9 → u 5 10 = w 5 10 → (∀ a, a ≠ 5 → u a = w a) → (∀ j, j ≠ 8 → j ≠ 9 → j ≠ 10 → u 5 j = w 5 j) → tk_s f (n - w 5 9) (w 5 9) = tk_s f (n - a) a → a ≤ n → n - a < n_ → xx l E (ic_fr E mX10_advance 2 0 0 False SHs (ic_qv (fun h_ => ∃ w2, h_ = hn w2 ∧ ((∀ a, a ≠ 5 → w2 a = w a) ∧ ∀ j, j ≠ 8 → j ≠ 9 → j ≠ 10 → w2 5 j = w 5 j) ∧ w2 5 8 = tk_a f n (w 5 9) ∧ w2 5 9 = tk_e f n (tk_a f n (w 5 9)) ∧ w2 5 10 = tk_k f n (tk_a f n (w 5 9))))) (0, 0) 8 [(0, ic_pt E 5)] [] SHs (hn u) := by
    intro n_
    induction n_ with
    | zero => intro a u f8_u f9_u f10_u r_u k_u hq ha hm_; exact absurd hm_ (Nat.not_lt_zero _)
    | succ n_ ih_ =>
      intro a u f8_u f9_u f10_u r_u k_u hq ha hm_
      have hX_u : Cx u f n := hX.of (k_u 6 (by omega) (by omega) (by omega)) (k_u 7 (by omega) (by omega) (by omega)) (r_u 4 (by omega))
      refine xx_aload_nP (pc := 8) dX10_advance_8 0 rfl rfl ?_
      refine xx_getN (pc := 9) dX10_advance_9 sh_5 fX10_63_10 rfl ?_
      refine xx_eqI (y := nI (a)) (by rw [f8_u]) ?_
      refine xx_aload_nP (pc := 12) dX10_advance_12 0 rfl rfl ?_
      refine xx_getN (pc := 13) dX10_advance_13 sh_5 fX10_47_10 rfl ?_
      refine xx_eqI (y := nI (n)) (by rw [hX_u.2.1]) ?_
      refine xx_icmp_geN (pc := 16) 46 dX10_advance_16 rfl (by omega) (by omega) (fun c101 => ?_) (fun c101 => ?_)
      · have hA : tk_a f n (w 5 9) = a := by unfold tk_a; rw [hq]; exact tk_s_at (fun y => absurd y.1 (by omega))
        refine xx_aload_nP (pc := 46) dX10_advance_46 0 rfl rfl ?_
        refine xx_aload_nP (pc := 47) dX10_advance_47 0 rfl rfl ?_
        refine xx_getN (pc := 48) dX10_advance_48 sh_5 fX10_63_10 rfl ?_
        refine xx_eqI (y := nI (a)) (by rw [f8_u]) ?_
        refine xx_putN (pc := 51) dX10_advance_51 sh_5 fX10_50_10 rfl rfl ?_
        refine xx_nw (fun w102 ew102 => ?_)
        have f9_w102 : w102 5 9 = a := by rw [ew102, wu_s]
        have f8_w102 : w102 5 8 = a := by rw [ew102, wu_k _ _ _ _ (by omega)]; exact f8_u
        have f10_w102 : w102 5 10 = w 5 10 := by rw [ew102, wu_k _ _ _ _ (by omega)]; exact f10_u
        have r_w102 : ∀ a, a ≠ 5 → w102 a = w a := fun a h => by rw [ew102, wu_row _ _ _ h]; exact r_u a h
        have k_w102 : ∀ j, j ≠ 8 → j ≠ 9 → j ≠ 10 → w102 5 j = w 5 j := fun j h8 h9 h10 => by rw [ew102, wu_k _ _ _ _ h9]; exact k_u j h8 h9 h10
        have hX_w102 : Cx w102 f n := hX.of (k_w102 6 (by omega) (by omega) (by omega)) (k_w102 7 (by omega) (by omega) (by omega)) (r_w102 4 (by omega))
        refine xx_aload_nP (pc := 54) dX10_advance_54 0 rfl rfl ?_
        refine xx_aload_nP (pc := 55) dX10_advance_55 0 rfl rfl ?_
        refine xx_aload_nP (pc := 56) dX10_advance_56 0 rfl rfl ?_
        refine xx_getN (pc := 57) dX10_advance_57 sh_5 fX10_63_10 rfl ?_
        refine xx_eqI (y := nI (a)) (by rw [f8_w102]) ?_
        refine xx_callV0 (pc := 60) (st := [ic_pt E 5]) sh_5 (cC_sortAt (w := w102) (a := a) (by omega) hX_w102) kX10_sortAt vX10_141_10 dX10_advance_60 rfl rfl (Nat.le_of_ble_eq_true rfl) ⟨Nat.le_of_ble_eq_true rfl, Nat.le_of_ble_eq_true rfl⟩ ⟨Nat.zero_le _, Nat.zero_le _⟩ (ic_ke ?_)
        refine xx_putN (pc := 63) dX10_advance_63 sh_5 fX10_56_10 rfl rfl ?_
        refine xx_nw (fun w103 ew103 => ?_)
        have f10_w103 : w103 5 10 = tk_k f n a := by rw [ew103, wu_s]
        have f8_w103 : w103 5 8 = a := by rw [ew103, wu_k _ _ _ _ (by omega)]; exact f8_w102
        have f9_w103 : w103 5 9 = a := by rw [ew103, wu_k _ _ _ _ (by omega)]; exact f9_w102
        have r_w103 : ∀ a, a ≠ 5 → w103 a = w a := fun a h => by rw [ew103, wu_row _ _ _ h]; exact r_w102 a h
        have k_w103 : ∀ j, j ≠ 8 → j ≠ 9 → j ≠ 10 → w103 5 j = w 5 j := fun j h8 h9 h10 => by rw [ew103, wu_k _ _ _ _ h10]; exact k_w102 j h8 h9 h10
        have hX_w103 : Cx w103 f n := hX.of (k_w103 6 (by omega) (by omega) (by omega)) (k_w103 7 (by omega) (by omega) (by omega)) (r_w103 4 (by omega))
        refine xx_aload_nP (pc := 66) dX10_advance_66 0 rfl rfl ?_
        refine xx_getN (pc := 67) dX10_advance_67 sh_5 fX10_56_10 rfl ?_
        refine xx_eqI (y := nI (tk_k f n a)) (by rw [f10_w103]) ?_
        refine xx_iconst (pc := 70) dX10_advance_70 cc_iconst_3 ?_
        refine xx_icmp_neN (pc := 71) 87 dX10_advance_71 rfl (by have := (tk_k_le f n a).1; omega) (by omega) (fun c104 => ?_) (fun c104 => ?_)
        · exact xx_sub [0] rfl (lp2 (n + 1) a (tk_k f n a) a w103 f8_w103 f9_w103 f10_w103 r_w103 k_w103 hA rfl (by omega) (by omega) ⟨fun _ => rfl, fun _ => rfl⟩ (by omega))
        · have hT : tk_k f n a = 3 := by omega
          refine xx_aload_nP (pc := 74) dX10_advance_74 0 rfl rfl ?_
          refine xx_dup (pc := 75) dX10_advance_75 rfl ?_
          refine xx_getN (pc := 76) dX10_advance_76 sh_5 fX10_50_10 rfl ?_
          refine xx_eqI (y := nI (a)) (by rw [f9_w103]) ?_
          refine xx_iconst (pc := 79) dX10_advance_79 cc_iconst_1 ?_
          refine xx_iaddN (pc := 80) dX10_advance_80 ?_
          refine xx_putN (pc := 81) dX10_advance_81 sh_5 fX10_50_10 rfl rfl ?_
          refine xx_nw (fun w105 ew105 => ?_)
          have f9_w105 : w105 5 9 = a + 1 := by rw [ew105, wu_s]
          have f8_w105 : w105 5 8 = a := by rw [ew105, wu_k _ _ _ _ (by omega)]; exact f8_w103
          have f10_w105 : w105 5 10 = tk_k f n a := by rw [ew105, wu_k _ _ _ _ (by omega)]; exact f10_w103
          have r_w105 : ∀ a, a ≠ 5 → w105 a = w a := fun a h => by rw [ew105, wu_row _ _ _ h]; exact r_w103 a h
          have k_w105 : ∀ j, j ≠ 8 → j ≠ 9 → j ≠ 10 → w105 5 j = w 5 j := fun j h8 h9 h10 => by rw [ew105, wu_k _ _ _ _ h9]; exact k_w103 j h8 h9 h10
          have hX_w105 : Cx w105 f n := hX.of (k_w105 6 (by omega) (by omega) (by omega)) (k_w105 7 (by omega) (by omega) (by omega)) (r_w105 4 (by omega))
          refine xx_goto (pc := 84) 126 dX10_advance_84 rfl ?_
          exact xx_vret (pc := 126) dX10_advance_126 rfl (Nat.le_refl _) (Nat.le_refl _) (ic_rv0 ⟨w105, rfl, ⟨r_w105, k_w105⟩, by rw [f8_w105, hA], by rw [f9_w105, hA]; exact by unfold tk_e; rw [if_neg (by omega), if_pos hT], by rw [f10_w105, hA]⟩)
      · have hl_ := hX.2.2.2 a (by omega)
        have hb_ := by_c hl_.2
        refine xx_aload_nP (pc := 19) dX10_advance_19 0 rfl rfl ?_
        refine xx_getD (pc := 20) dX10_advance_20 sh_5 fX10_24_10 rfl rfl ?_
        refine xx_eqT (v2 := ic_pt E 4) (rv_hn (t := 5) hX_u.1 (by omega)) ?_
        refine xx_aload_nP (pc := 23) dX10_advance_23 0 rfl rfl ?_
        refine xx_getN (pc := 24) dX10_advance_24 sh_5 fX10_63_10 rfl ?_
        refine xx_eqI (y := nI (a)) (by rw [f8_u]) ?_
        refine xx_baldN (pc := 27) dX10_advance_27 sh_4 (by omega) (by decide) ?_
        refine xx_eqI (y := nI (mo_by (f a))) (by rw [r_u 4 (by omega), hl_.1]) ?_
        refine xx_bipush (pc := 28) dX10_advance_28 cc_bipush_32 ?_
        refine xx_icmp_neN (pc := 30) 46 dX10_advance_30 rfl (by omega) (by omega) (fun c106 => ?_) (fun c106 => ?_)
        · have hA : tk_a f n (w 5 9) = a := by unfold tk_a; rw [hq]; exact tk_s_at (fun y => by omega)
          refine xx_aload_nP (pc := 46) dX10_advance_46 0 rfl rfl ?_
          refine xx_aload_nP (pc := 47) dX10_advance_47 0 rfl rfl ?_
          refine xx_getN (pc := 48) dX10_advance_48 sh_5 fX10_63_10 rfl ?_
          refine xx_eqI (y := nI (a)) (by rw [f8_u]) ?_
          refine xx_putN (pc := 51) dX10_advance_51 sh_5 fX10_50_10 rfl rfl ?_
          refine xx_nw (fun w107 ew107 => ?_)
          have f9_w107 : w107 5 9 = a := by rw [ew107, wu_s]
          have f8_w107 : w107 5 8 = a := by rw [ew107, wu_k _ _ _ _ (by omega)]; exact f8_u
          have f10_w107 : w107 5 10 = w 5 10 := by rw [ew107, wu_k _ _ _ _ (by omega)]; exact f10_u
          have r_w107 : ∀ a, a ≠ 5 → w107 a = w a := fun a h => by rw [ew107, wu_row _ _ _ h]; exact r_u a h
          have k_w107 : ∀ j, j ≠ 8 → j ≠ 9 → j ≠ 10 → w107 5 j = w 5 j := fun j h8 h9 h10 => by rw [ew107, wu_k _ _ _ _ h9]; exact k_u j h8 h9 h10
          have hX_w107 : Cx w107 f n := hX.of (k_w107 6 (by omega) (by omega) (by omega)) (k_w107 7 (by omega) (by omega) (by omega)) (r_w107 4 (by omega))
          refine xx_aload_nP (pc := 54) dX10_advance_54 0 rfl rfl ?_
          refine xx_aload_nP (pc := 55) dX10_advance_55 0 rfl rfl ?_
          refine xx_aload_nP (pc := 56) dX10_advance_56 0 rfl rfl ?_
          refine xx_getN (pc := 57) dX10_advance_57 sh_5 fX10_63_10 rfl ?_
          refine xx_eqI (y := nI (a)) (by rw [f8_w107]) ?_
          refine xx_callV0 (pc := 60) (st := [ic_pt E 5]) sh_5 (cC_sortAt (w := w107) (a := a) (by omega) hX_w107) kX10_sortAt vX10_141_10 dX10_advance_60 rfl rfl (Nat.le_of_ble_eq_true rfl) ⟨Nat.le_of_ble_eq_true rfl, Nat.le_of_ble_eq_true rfl⟩ ⟨Nat.zero_le _, Nat.zero_le _⟩ (ic_ke ?_)
          refine xx_putN (pc := 63) dX10_advance_63 sh_5 fX10_56_10 rfl rfl ?_
          refine xx_nw (fun w108 ew108 => ?_)
          have f10_w108 : w108 5 10 = tk_k f n a := by rw [ew108, wu_s]
          have f8_w108 : w108 5 8 = a := by rw [ew108, wu_k _ _ _ _ (by omega)]; exact f8_w107
          have f9_w108 : w108 5 9 = a := by rw [ew108, wu_k _ _ _ _ (by omega)]; exact f9_w107
          have r_w108 : ∀ a, a ≠ 5 → w108 a = w a := fun a h => by rw [ew108, wu_row _ _ _ h]; exact r_w107 a h
          have k_w108 : ∀ j, j ≠ 8 → j ≠ 9 → j ≠ 10 → w108 5 j = w 5 j := fun j h8 h9 h10 => by rw [ew108, wu_k _ _ _ _ h10]; exact k_w107 j h8 h9 h10
          have hX_w108 : Cx w108 f n := hX.of (k_w108 6 (by omega) (by omega) (by omega)) (k_w108 7 (by omega) (by omega) (by omega)) (r_w108 4 (by omega))
          refine xx_aload_nP (pc := 66) dX10_advance_66 0 rfl rfl ?_
          refine xx_getN (pc := 67) dX10_advance_67 sh_5 fX10_56_10 rfl ?_
          refine xx_eqI (y := nI (tk_k f n a)) (by rw [f10_w108]) ?_
          refine xx_iconst (pc := 70) dX10_advance_70 cc_iconst_3 ?_
          refine xx_icmp_neN (pc := 71) 87 dX10_advance_71 rfl (by have := (tk_k_le f n a).1; omega) (by omega) (fun c109 => ?_) (fun c109 => ?_)
          · exact xx_sub [0] rfl (lp2 (n + 1) a (tk_k f n a) a w108 f8_w108 f9_w108 f10_w108 r_w108 k_w108 hA rfl (by omega) (by omega) ⟨fun _ => rfl, fun _ => rfl⟩ (by omega))
          · have hT : tk_k f n a = 3 := by omega
            refine xx_aload_nP (pc := 74) dX10_advance_74 0 rfl rfl ?_
            refine xx_dup (pc := 75) dX10_advance_75 rfl ?_
            refine xx_getN (pc := 76) dX10_advance_76 sh_5 fX10_50_10 rfl ?_
            refine xx_eqI (y := nI (a)) (by rw [f9_w108]) ?_
            refine xx_iconst (pc := 79) dX10_advance_79 cc_iconst_1 ?_
            refine xx_iaddN (pc := 80) dX10_advance_80 ?_
            refine xx_putN (pc := 81) dX10_advance_81 sh_5 fX10_50_10 rfl rfl ?_
            refine xx_nw (fun w110 ew110 => ?_)
            have f9_w110 : w110 5 9 = a + 1 := by rw [ew110, wu_s]
            have f8_w110 : w110 5 8 = a := by rw [ew110, wu_k _ _ _ _ (by omega)]; exact f8_w108
            have f10_w110 : w110 5 10 = tk_k f n a := by rw [ew110, wu_k _ _ _ _ (by omega)]; exact f10_w108
            have r_w110 : ∀ a, a ≠ 5 → w110 a = w a := fun a h => by rw [ew110, wu_row _ _ _ h]; exact r_w108 a h
            have k_w110 : ∀ j, j ≠ 8 → j ≠ 9 → j ≠ 10 → w110 5 j = w 5 j := fun j h8 h9 h10 => by rw [ew110, wu_k _ _ _ _ h9]; exact k_w108 j h8 h9 h10
            have hX_w110 : Cx w110 f n := hX.of (k_w110 6 (by omega) (by omega) (by omega)) (k_w110 7 (by omega) (by omega) (by omega)) (r_w110 4 (by omega))
            refine xx_goto (pc := 84) 126 dX10_advance_84 rfl ?_
            exact xx_vret (pc := 126) dX10_advance_126 rfl (Nat.le_refl _) (Nat.le_refl _) (ic_rv0 ⟨w110, rfl, ⟨r_w110, k_w110⟩, by rw [f8_w110, hA], by rw [f9_w110, hA]; exact by unfold tk_e; rw [if_neg (by omega), if_pos hT], by rw [f10_w110, hA]⟩)
        · refine xx_aload_nP (pc := 33) dX10_advance_33 0 rfl rfl ?_
          refine xx_dup (pc := 34) dX10_advance_34 rfl ?_
          refine xx_getN (pc := 35) dX10_advance_35 sh_5 fX10_63_10 rfl ?_
          refine xx_eqI (y := nI (a)) (by rw [f8_u]) ?_
          refine xx_iconst (pc := 38) dX10_advance_38 cc_iconst_1 ?_
          refine xx_iaddN (pc := 39) dX10_advance_39 ?_
          refine xx_putN (pc := 40) dX10_advance_40 sh_5 fX10_63_10 rfl rfl ?_
          refine xx_nw (fun w111 ew111 => ?_)
          have f8_w111 : w111 5 8 = a + 1 := by rw [ew111, wu_s]
          have f9_w111 : w111 5 9 = w 5 9 := by rw [ew111, wu_k _ _ _ _ (by omega)]; exact f9_u
          have f10_w111 : w111 5 10 = w 5 10 := by rw [ew111, wu_k _ _ _ _ (by omega)]; exact f10_u
          have r_w111 : ∀ a, a ≠ 5 → w111 a = w a := fun a h => by rw [ew111, wu_row _ _ _ h]; exact r_u a h
          have k_w111 : ∀ j, j ≠ 8 → j ≠ 9 → j ≠ 10 → w111 5 j = w 5 j := fun j h8 h9 h10 => by rw [ew111, wu_k _ _ _ _ h8]; exact k_u j h8 h9 h10
          have hX_w111 : Cx w111 f n := hX.of (k_w111 6 (by omega) (by omega) (by omega)) (k_w111 7 (by omega) (by omega) (by omega)) (r_w111 4 (by omega))
          refine xx_goto (pc := 43) 8 dX10_advance_43 rfl ?_
          exact xx_sub [0] rfl (ih_ (a + 1) w111 f8_w111 f9_w111 f10_w111 r_w111 k_w111 (hq.trans (tk_s_go (by omega) (by omega))) (by omega) (by omega))
  refine xx_aload_nP (pc := 0) dX10_advance_0 0 rfl rfl ?_
  refine xx_aload_nP (pc := 1) dX10_advance_1 0 rfl rfl ?_
  refine xx_getN (pc := 2) dX10_advance_2 sh_5 fX10_50_10 rfl ?_
  refine xx_eqI (y := nI (w 5 9)) (rfl) ?_
  refine xx_putN (pc := 5) dX10_advance_5 sh_5 fX10_63_10 rfl rfl ?_
  refine xx_nw (fun w1 ew1 => ?_)
  have f8_w1 : w1 5 8 = w 5 9 := by rw [ew1, wu_s]
  have f9_w1 : w1 5 9 = w 5 9 := by rw [ew1, wu_k _ _ _ _ (by omega)]
  have f10_w1 : w1 5 10 = w 5 10 := by rw [ew1, wu_k _ _ _ _ (by omega)]
  have r_w1 : ∀ a, a ≠ 5 → w1 a = w a := fun a h => by rw [ew1, wu_row _ _ _ h]
  have k_w1 : ∀ j, j ≠ 8 → j ≠ 9 → j ≠ 10 → w1 5 j = w 5 j := fun j h8 h9 h10 => by rw [ew1, wu_k _ _ _ _ h8]
  have hX_w1 : Cx w1 f n := hX.of (k_w1 6 (by omega) (by omega) (by omega)) (k_w1 7 (by omega) (by omega) (by omega)) (r_w1 4 (by omega))
  exact xx_sub [0] rfl (lp1 (n + 1) (w 5 9) w1 f8_w1 f9_w1 f10_w1 r_w1 k_w1 rfl h9 (by omega))

def Ew (w u : ic_w) : Prop := (∀ a, a ≠ 5 → u a = w a) ∧ ∀ j, j < 8 → u 5 j = w 5 j
theorem cC_next {l : Launch} {E : ic_E} {w : ic_w} {f : Nat → Nat} {n a : Nat} (z_w : Ty w f n a) : ic_C l E mX10_advance 2 0 0 False [ic_pt E 5] SHs (hn w) SHs (ic_qv (fun h_ => ∃ w2, h_ = hn w2 ∧ Ew w w2 ∧ Ty w2 f n (tk_z f n a))) := by
  have he := tk_e_le (f := f) z_w.2.1
  refine ic_C.post (cC_advance z_w.1 (by rw [z_w.2.2.2.1]; exact he.2.1)) (fun r h' q => ?_)
  obtain ⟨q0, w2, e, ⟨h1, h2⟩, e8, e9, e10⟩ := q
  rw [z_w.2.2.2.1] at e8 e9 e10
  exact ⟨q0, w2, e, ⟨h1, fun j hj => h2 j (by omega) (by omega) (by omega)⟩, z_w.1.of (h2 6 (by omega) (by omega) (by omega)) (h2 7 (by omega) (by omega) (by omega)) (h1 4 (by decide)), (tk_z_le z_w.2.1).2.1, e8, e9, e10⟩
set_option maxHeartbeats 4000000 in
set_option maxRecDepth 100000 in
theorem cC_isByte {l : Launch} {E : ic_E} {w : ic_w} {f : Nat → Nat} {n a : Nat} (z_w : Ty w f n a) {c : Nat} (hc : c ≤ 127) : ic_C l E mX10_isByte 1 0 0 False [ic_pt E 5, .int (nI c)] SHs (hn w) SHs (ic_qe (nI (ic_bo (tk_k f n a = 3 ∧ tk_b f n a = c))) (hn w)) := by
  refine ic_intro (by decide +kernel) (Nat.le_of_ble_eq_true rfl) ?_
  show xx l E _ _ 0 [(0, ic_pt E 5), (1, .int (nI c))] _ _ _
  have hn2 := z_w.1.2.2.1
  have ha := z_w.2.1
  refine xx_aload_nP (pc := 0) dX10_isByte_0 0 rfl rfl ?_
  refine xx_getN (pc := 1) dX10_isByte_1 sh_5 fX10_56_10 rfl ?_
  refine xx_eqI (y := nI (tk_k f n a)) (by rw [z_w.2.2.2.2]) ?_
  refine xx_iconst (pc := 4) dX10_isByte_4 cc_iconst_3 ?_
  refine xx_icmp_neN (pc := 5) 25 dX10_isByte_5 rfl (by have := (tk_k_le f n a).1; omega) (by omega) (fun c1 => ?_) (fun c1 => ?_)
  · refine xx_iconst (pc := 25) dX10_isByte_25 cc_iconst_0 ?_
    exact xx_iret (pc := 26) dX10_isByte_26 rfl (rfl) (Nat.le_refl _) (Nat.le_refl _) (ic_re (ic_bo_f (by omega)).symm)
  · have hl_ := z_w.1.2.2.2 a (by have := tk_k_le f n a; omega)
    have hlt_ : a < n := by have := tk_k_le f n a; omega
    have hb_ := by_c hl_.2
    have hk_ : tk_b f n a = f a := if_pos hlt_
    refine xx_aload_nP (pc := 8) dX10_isByte_8 0 rfl rfl ?_
    refine xx_getD (pc := 9) dX10_isByte_9 sh_5 fX10_24_10 rfl rfl ?_
    refine xx_eqT (v2 := ic_pt E 4) (rv_hn (t := 5) z_w.1.1 (by omega)) ?_
    refine xx_aload_nP (pc := 12) dX10_isByte_12 0 rfl rfl ?_
    refine xx_getN (pc := 13) dX10_isByte_13 sh_5 fX10_63_10 rfl ?_
    refine xx_eqI (y := nI (a)) (by rw [z_w.2.2.1]) ?_
    refine xx_baldN (pc := 16) dX10_isByte_16 sh_4 (by omega) (by decide) ?_
    refine xx_eqI (y := nI (mo_by (f a))) (by rw [hl_.1]) ?_
    refine xx_iload_n (pc := 17) dX10_isByte_17 1 rfl rfl ?_
    refine xx_icmp_neN (pc := 18) 25 dX10_isByte_18 rfl (by omega) (by omega) (fun c2 => ?_) (fun c2 => ?_)
    · refine xx_iconst (pc := 25) dX10_isByte_25 cc_iconst_0 ?_
      exact xx_iret (pc := 26) dX10_isByte_26 rfl (rfl) (Nat.le_refl _) (Nat.le_refl _) (ic_re (ic_bo_f (by omega)).symm)
    · refine xx_iconst (pc := 21) dX10_isByte_21 cc_iconst_1 ?_
      refine xx_goto (pc := 22) 26 dX10_isByte_22 rfl ?_
      exact xx_iret (pc := 26) dX10_isByte_26 rfl (rfl) (Nat.le_refl _) (Nat.le_refl _) (ic_re (ic_bo_t (by omega)).symm)

set_option maxHeartbeats 4000000 in
set_option maxRecDepth 100000 in
theorem cC_isNamed {l : Launch} {E : ic_E} {w : ic_w} (hP : Value.category E.2.2.2.2.2.2 = 1) {i : Nat} (hi : i < 18) {wl : List Nat} (hl : ic_wd i = wl) {f : Nat → Nat} {n a : Nat} (z_w : Ty w f n a) : ic_C l E mX10_isNamed 5 0 0 False [ic_pt E 5, ic_sp E i] SHs (hn w) SHs (ic_qe (nI (ic_bo (tk_i f n wl a = true))) (hn w)) := by
  refine ic_intro (by decide +kernel) (Nat.le_of_ble_eq_true rfl) ?_
  show xx l E _ _ 0 [(0, ic_pt E 5), (1, ic_sp E i)] _ _ _
  have hn2 := z_w.1.2.2.1
  have ha := z_w.2.1
  have hlen_ := ic_len8 i hi
  have hwl_ : wl.length = ic_len.getD i 0 := by rw [← hl]; exact ic_wd_len i hi
  have he_ := tk_e_le (f := f) z_w.2.1
  refine xx_aload_nP (pc := 0) dX10_isNamed_0 0 rfl rfl ?_
  refine xx_getN (pc := 1) dX10_isNamed_1 sh_5 fX10_56_10 rfl ?_
  refine xx_eqI (y := nI (tk_k f n a)) (by rw [z_w.2.2.2.2]) ?_
  refine xx_iconst (pc := 4) dX10_isNamed_4 cc_iconst_1 ?_
  refine xx_icmp_neN (pc := 5) 24 dX10_isNamed_5 rfl (by have := (tk_k_le f n a).1; omega) (by omega) (fun c1 => ?_) (fun c1 => ?_)
  · refine xx_iconst (pc := 24) dX10_isNamed_24 cc_iconst_0 ?_
    exact xx_iret (pc := 25) dX10_isNamed_25 rfl (rfl) (Nat.le_refl _) (Nat.le_refl _) (ic_re (ic_bo_f (fun y => by have y2 := tk_i_iff.mp y; omega)).symm)
  · refine xx_aload_nP (pc := 8) dX10_isNamed_8 0 rfl rfl ?_
    refine xx_getN (pc := 9) dX10_isNamed_9 sh_5 fX10_50_10 rfl ?_
    refine xx_eqI (y := nI (tk_e f n a)) (by rw [z_w.2.2.2.1]) ?_
    refine xx_aload_nP (pc := 12) dX10_isNamed_12 0 rfl rfl ?_
    refine xx_getN (pc := 13) dX10_isNamed_13 sh_5 fX10_63_10 rfl ?_
    refine xx_eqI (y := nI (a)) (by rw [z_w.2.2.1]) ?_
    refine xx_isubN (pc := 16) dX10_isNamed_16 (by omega) ?_
    refine xx_aload_nG (v := ic_sp E i) (pc := 17) dX10_isNamed_17 1 rfl rfl rfl ?_
    refine xx_callStr0 (pc := 18) (st := [.int (nI ((tk_e f n a) - a))]) hi (cJ_length (w := w) (i := i) hi) kJ0_length_8abf5 tX10_133 dX10_isNamed_18 rfl rfl (Nat.le_of_ble_eq_true rfl) ⟨Nat.le_of_ble_eq_true rfl, Nat.le_of_ble_eq_true rfl⟩ ⟨Nat.zero_le _, Nat.zero_le _⟩ (ic_ke ?_)
    refine xx_icmp_eqN (pc := 21) 26 dX10_isNamed_21 rfl (by omega) (by omega) (fun c2 => ?_) (fun c2 => ?_)
    · refine xx_iconst (pc := 26) dX10_isNamed_26 cc_iconst_0 ?_
      refine xx_istore_n (L' := [(2, .int (nI 0)), (0, ic_pt E 5), (1, ic_sp E i)]) (pc := 27) dX10_isNamed_27 rfl (Nat.le_of_ble_eq_true rfl) rfl ?_
      have lp : ∀ (n_ : Nat) (j : Nat), j ≤ ic_len.getD i 0 → (∀ q, q < j → tk_b f n (a + q) = ic_cy i q) → ic_len.getD i 0 - j < n_ → xx l E (ic_fr E mX10_isNamed 5 0 0 False SHs (ic_qe (nI (ic_bo (tk_i f n wl a = true))) (hn w))) (0, 0) 28 [(2, .int (nI j)), (0, ic_pt E 5), (1, ic_sp E i)] [] SHs (hn w) := by
        intro n_
        induction n_ with
        | zero => intro j hj hall hm_; exact absurd hm_ (Nat.not_lt_zero _)
        | succ n_ ih_ =>
          intro j hj hall hm_
          refine xx_iload_n (pc := 28) dX10_isNamed_28 0 rfl rfl ?_
          refine xx_aload_nG (v := ic_sp E i) (pc := 29) dX10_isNamed_29 2 rfl rfl rfl ?_
          refine xx_callStr0 (pc := 30) (st := [.int (nI j)]) hi (cJ_length (w := w) (i := i) hi) kJ0_length_8abf5 tX10_133 dX10_isNamed_30 rfl rfl (Nat.le_of_ble_eq_true rfl) ⟨Nat.le_of_ble_eq_true rfl, Nat.le_of_ble_eq_true rfl⟩ ⟨Nat.zero_le _, Nat.zero_le _⟩ (ic_ke ?_)
          refine xx_icmp_geN (pc := 33) 63 dX10_isNamed_33 rfl (by omega) (by omega) (fun c101 => ?_) (fun c101 => ?_)
          · refine xx_iconst (pc := 63) dX10_isNamed_63 cc_iconst_1 ?_
            exact xx_iret (pc := 64) dX10_isNamed_64 rfl (rfl) (Nat.le_refl _) (Nat.le_refl _) (ic_re (ic_bo_t (tk_i_iff.mpr ⟨by omega, by omega, fun q hq => by rw [← hl, ic_wd_at i hi q (by omega)]; exact hall q (by omega)⟩)).symm)
          · have hl_ := z_w.1.2.2.2 (a + j) (by omega)
            have hb_ := by_c hl_.2
            have hk_ : tk_b f n (a + j) = f (a + j) := if_pos (by omega)
            have hcy_ := ic_cy_le i hi j (by omega)
            refine xx_aload_nP (pc := 36) dX10_isNamed_36 1 rfl rfl ?_
            refine xx_getD (pc := 37) dX10_isNamed_37 sh_5 fX10_24_10 rfl rfl ?_
            refine xx_eqT (v2 := ic_pt E 4) (rv_hn (t := 5) z_w.1.1 (by omega)) ?_
            refine xx_aload_nP (pc := 40) dX10_isNamed_40 1 rfl rfl ?_
            refine xx_getN (pc := 41) dX10_isNamed_41 sh_5 fX10_63_10 rfl ?_
            refine xx_eqI (y := nI (a)) (by rw [z_w.2.2.1]) ?_
            refine xx_iload_n (pc := 44) dX10_isNamed_44 0 rfl rfl ?_
            refine xx_iaddN (pc := 45) dX10_isNamed_45 ?_
            refine xx_baldN (pc := 46) dX10_isNamed_46 sh_4 (by omega) (by decide) ?_
            refine xx_eqI (y := nI (mo_by (f (a + j)))) (by rw [hl_.1]) ?_
            refine xx_aload_nG (v := ic_sp E i) (pc := 47) dX10_isNamed_47 2 rfl rfl rfl ?_
            refine xx_iload_n (pc := 48) dX10_isNamed_48 0 rfl rfl ?_
            refine xx_callStr0 (pc := 49) (st := [.int (nI (mo_by (f (a + j))))]) hi (cJ_charAt (w := w) (i := i) (j := j) hP hi (by omega)) kJ0_charAt_5068e tX10_137 dX10_isNamed_49 rfl rfl (Nat.le_of_ble_eq_true rfl) ⟨Nat.le_of_ble_eq_true rfl, Nat.le_of_ble_eq_true rfl⟩ ⟨Nat.zero_le _, Nat.zero_le _⟩ (ic_ke ?_)
            refine xx_icmp_eqN (pc := 52) 57 dX10_isNamed_52 rfl (by omega) (by omega) (fun c102 => ?_) (fun c102 => ?_)
            · refine xx_iincN (L' := [(2, .int (nI (j + 1))), (0, ic_pt E 5), (1, ic_sp E i)]) (pc := 57) dX10_isNamed_57 0 rfl cc_iconst_1 (Nat.le_of_ble_eq_true rfl) rfl ?_
              refine xx_goto (pc := 60) 28 dX10_isNamed_60 rfl ?_
              exact xx_sub [0, 1, 2] rfl (ih_ (j + 1) (by omega) (fun q hq => (Nat.lt_succ_iff_lt_or_eq.mp hq).elim (fun y => hall q y) (fun y => by rw [y]; omega)) (by omega))
            · refine xx_iconst (pc := 55) dX10_isNamed_55 cc_iconst_0 ?_
              exact xx_iret (pc := 56) dX10_isNamed_56 rfl (rfl) (Nat.le_refl _) (Nat.le_refl _) (ic_re (ic_bo_f (fun y => by have y2 := tk_i_iff.mp y; have y3 := y2.2.2 j (by omega); rw [← hl, ic_wd_at i hi j (by omega)] at y3; omega)).symm)
      exact xx_sub [0, 1, 2] rfl (lp 9 0 (by omega) (fun q hq => absurd hq (Nat.not_lt_zero q)) (by omega))
    · refine xx_iconst (pc := 24) dX10_isNamed_24 cc_iconst_0 ?_
      exact xx_iret (pc := 25) dX10_isNamed_25 rfl (rfl) (Nat.le_refl _) (Nat.le_refl _) (ic_re (ic_bo_f (fun y => by have y2 := tk_i_iff.mp y; omega)).symm)

set_option maxHeartbeats 4000000 in
set_option maxRecDepth 100000 in
theorem cC_kindNamed {l : Launch} {E : ic_E} {w : ic_w} (hP : Value.category E.2.2.2.2.2.2 = 1) {f : Nat → Nat} {n a : Nat} (z_w : Ty w f n a) : ic_C l E mX10_kindNamed 6 0 0 False [ic_pt E 5] SHs (hn w) SHs (ic_qe (nI (tk_kd f n (tk_k f n a) a (tk_e f n a))) (hn w)) := by
  refine ic_intro (by decide +kernel) (Nat.le_of_ble_eq_true rfl) ?_
  show xx l E _ _ 0 [(0, ic_pt E 5)] _ _ _
  refine xx_aload_nP (pc := 0) dX10_kindNamed_0 0 rfl rfl ?_
  refine xx_ldcS (pc := 1) 0 dX10_kindNamed_1 rfl rfl ?_
  refine xx_callV0 (pc := 3) (st := []) sh_5 (cC_isNamed (w := w) (i := 0) (wl := [114, 105, 100, 101, 114]) hP (by decide) (by decide +kernel) z_w) kX10_isNamed vX10_72_10 dX10_kindNamed_3 rfl rfl (Nat.le_of_ble_eq_true rfl) ⟨Nat.le_of_ble_eq_true rfl, Nat.le_of_ble_eq_true rfl⟩ ⟨Nat.zero_le _, Nat.zero_le _⟩ (ic_ke ?_)
  refine xx_if_eqB (pc := 6) 11 dX10_kindNamed_6 rfl (fun c1 => ?_) (fun c1 => ?_)
  · refine xx_aload_nP (pc := 11) dX10_kindNamed_11 0 rfl rfl ?_
    refine xx_ldcS (pc := 12) 1 dX10_kindNamed_12 rfl rfl ?_
    refine xx_callV0 (pc := 14) (st := []) sh_5 (cC_isNamed (w := w) (i := 1) (wl := [114, 101, 103, 117, 108, 97, 114]) hP (by decide) (by decide +kernel) z_w) kX10_isNamed vX10_72_10 dX10_kindNamed_14 rfl rfl (Nat.le_of_ble_eq_true rfl) ⟨Nat.le_of_ble_eq_true rfl, Nat.le_of_ble_eq_true rfl⟩ ⟨Nat.zero_le _, Nat.zero_le _⟩ (ic_ke ?_)
    refine xx_if_eqB (pc := 17) 22 dX10_kindNamed_17 rfl (fun c2 => ?_) (fun c2 => ?_)
    · refine xx_aload_nP (pc := 22) dX10_kindNamed_22 0 rfl rfl ?_
      refine xx_ldcS (pc := 23) 2 dX10_kindNamed_23 rfl rfl ?_
      refine xx_callV0 (pc := 25) (st := []) sh_5 (cC_isNamed (w := w) (i := 2) (wl := [108, 97, 100, 121]) hP (by decide) (by decide +kernel) z_w) kX10_isNamed vX10_72_10 dX10_kindNamed_25 rfl rfl (Nat.le_of_ble_eq_true rfl) ⟨Nat.le_of_ble_eq_true rfl, Nat.le_of_ble_eq_true rfl⟩ ⟨Nat.zero_le _, Nat.zero_le _⟩ (ic_ke ?_)
      refine xx_if_eqB (pc := 28) 33 dX10_kindNamed_28 rfl (fun c3 => ?_) (fun c3 => ?_)
      · refine xx_aload_nP (pc := 33) dX10_kindNamed_33 0 rfl rfl ?_
        refine xx_ldcS (pc := 34) 3 dX10_kindNamed_34 rfl rfl ?_
        refine xx_callV0 (pc := 36) (st := []) sh_5 (cC_isNamed (w := w) (i := 3) (wl := [102, 97, 116, 104, 101, 114]) hP (by decide) (by decide +kernel) z_w) kX10_isNamed vX10_72_10 dX10_kindNamed_36 rfl rfl (Nat.le_of_ble_eq_true rfl) ⟨Nat.le_of_ble_eq_true rfl, Nat.le_of_ble_eq_true rfl⟩ ⟨Nat.zero_le _, Nat.zero_le _⟩ (ic_ke ?_)
        refine xx_if_eqB (pc := 39) 44 dX10_kindNamed_39 rfl (fun c4 => ?_) (fun c4 => ?_)
        · refine xx_aload_nP (pc := 44) dX10_kindNamed_44 0 rfl rfl ?_
          refine xx_ldcS (pc := 45) 4 dX10_kindNamed_45 rfl rfl ?_
          refine xx_callV0 (pc := 47) (st := []) sh_5 (cC_isNamed (w := w) (i := 4) (wl := [99, 108, 101, 114, 107]) hP (by decide) (by decide +kernel) z_w) kX10_isNamed vX10_72_10 dX10_kindNamed_47 rfl rfl (Nat.le_of_ble_eq_true rfl) ⟨Nat.le_of_ble_eq_true rfl, Nat.le_of_ble_eq_true rfl⟩ ⟨Nat.zero_le _, Nat.zero_le _⟩ (ic_ke ?_)
          refine xx_if_eqB (pc := 50) 55 dX10_kindNamed_50 rfl (fun c5 => ?_) (fun c5 => ?_)
          · refine xx_aload_nP (pc := 55) dX10_kindNamed_55 0 rfl rfl ?_
            refine xx_ldcS (pc := 56) 5 dX10_kindNamed_56 rfl rfl ?_
            refine xx_callV0 (pc := 58) (st := []) sh_5 (cC_isNamed (w := w) (i := 5) (wl := [98, 97, 114, 114, 105, 101, 114]) hP (by decide) (by decide +kernel) z_w) kX10_isNamed vX10_72_10 dX10_kindNamed_58 rfl rfl (Nat.le_of_ble_eq_true rfl) ⟨Nat.le_of_ble_eq_true rfl, Nat.le_of_ble_eq_true rfl⟩ ⟨Nat.zero_le _, Nat.zero_le _⟩ (ic_ke ?_)
            refine xx_if_eqB (pc := 61) 68 dX10_kindNamed_61 rfl (fun c6 => ?_) (fun c6 => ?_)
            · refine xx_iconst (pc := 68) dX10_kindNamed_68 cc_iconst_m1 ?_
              exact xx_iret (pc := 69) dX10_kindNamed_69 rfl (rfl) (Nat.le_refl _) (Nat.le_refl _) (ic_re (by unfold tk_kd; rw [if_neg (show ¬ tk_w f n (tk_k f n a) a (tk_e f n a) [114, 105, 100, 101, 114] = true from c1), if_neg (show ¬ tk_w f n (tk_k f n a) a (tk_e f n a) [114, 101, 103, 117, 108, 97, 114] = true from c2), if_neg (show ¬ tk_w f n (tk_k f n a) a (tk_e f n a) [108, 97, 100, 121] = true from c3), if_neg (show ¬ tk_w f n (tk_k f n a) a (tk_e f n a) [102, 97, 116, 104, 101, 114] = true from c4), if_neg (show ¬ tk_w f n (tk_k f n a) a (tk_e f n a) [99, 108, 101, 114, 107] = true from c5), if_neg (show ¬ tk_w f n (tk_k f n a) a (tk_e f n a) [98, 97, 114, 114, 105, 101, 114] = true from c6)]))
            · refine xx_iconst (pc := 64) dX10_kindNamed_64 cc_iconst_5 ?_
              refine xx_goto (pc := 65) 69 dX10_kindNamed_65 rfl ?_
              exact xx_iret (pc := 69) dX10_kindNamed_69 rfl (rfl) (Nat.le_refl _) (Nat.le_refl _) (ic_re (by unfold tk_kd; rw [if_neg (show ¬ tk_w f n (tk_k f n a) a (tk_e f n a) [114, 105, 100, 101, 114] = true from c1), if_neg (show ¬ tk_w f n (tk_k f n a) a (tk_e f n a) [114, 101, 103, 117, 108, 97, 114] = true from c2), if_neg (show ¬ tk_w f n (tk_k f n a) a (tk_e f n a) [108, 97, 100, 121] = true from c3), if_neg (show ¬ tk_w f n (tk_k f n a) a (tk_e f n a) [102, 97, 116, 104, 101, 114] = true from c4), if_neg (show ¬ tk_w f n (tk_k f n a) a (tk_e f n a) [99, 108, 101, 114, 107] = true from c5), if_pos (show tk_w f n (tk_k f n a) a (tk_e f n a) [98, 97, 114, 114, 105, 101, 114] = true from c6)]))
          · refine xx_iconst (pc := 53) dX10_kindNamed_53 cc_iconst_4 ?_
            exact xx_iret (pc := 54) dX10_kindNamed_54 rfl (rfl) (Nat.le_refl _) (Nat.le_refl _) (ic_re (by unfold tk_kd; rw [if_neg (show ¬ tk_w f n (tk_k f n a) a (tk_e f n a) [114, 105, 100, 101, 114] = true from c1), if_neg (show ¬ tk_w f n (tk_k f n a) a (tk_e f n a) [114, 101, 103, 117, 108, 97, 114] = true from c2), if_neg (show ¬ tk_w f n (tk_k f n a) a (tk_e f n a) [108, 97, 100, 121] = true from c3), if_neg (show ¬ tk_w f n (tk_k f n a) a (tk_e f n a) [102, 97, 116, 104, 101, 114] = true from c4), if_pos (show tk_w f n (tk_k f n a) a (tk_e f n a) [99, 108, 101, 114, 107] = true from c5)]))
        · refine xx_iconst (pc := 42) dX10_kindNamed_42 cc_iconst_3 ?_
          exact xx_iret (pc := 43) dX10_kindNamed_43 rfl (rfl) (Nat.le_refl _) (Nat.le_refl _) (ic_re (by unfold tk_kd; rw [if_neg (show ¬ tk_w f n (tk_k f n a) a (tk_e f n a) [114, 105, 100, 101, 114] = true from c1), if_neg (show ¬ tk_w f n (tk_k f n a) a (tk_e f n a) [114, 101, 103, 117, 108, 97, 114] = true from c2), if_neg (show ¬ tk_w f n (tk_k f n a) a (tk_e f n a) [108, 97, 100, 121] = true from c3), if_pos (show tk_w f n (tk_k f n a) a (tk_e f n a) [102, 97, 116, 104, 101, 114] = true from c4)]))
      · refine xx_iconst (pc := 31) dX10_kindNamed_31 cc_iconst_2 ?_
        exact xx_iret (pc := 32) dX10_kindNamed_32 rfl (rfl) (Nat.le_refl _) (Nat.le_refl _) (ic_re (by unfold tk_kd; rw [if_neg (show ¬ tk_w f n (tk_k f n a) a (tk_e f n a) [114, 105, 100, 101, 114] = true from c1), if_neg (show ¬ tk_w f n (tk_k f n a) a (tk_e f n a) [114, 101, 103, 117, 108, 97, 114] = true from c2), if_pos (show tk_w f n (tk_k f n a) a (tk_e f n a) [108, 97, 100, 121] = true from c3)]))
    · refine xx_iconst (pc := 20) dX10_kindNamed_20 cc_iconst_1 ?_
      exact xx_iret (pc := 21) dX10_kindNamed_21 rfl (rfl) (Nat.le_refl _) (Nat.le_refl _) (ic_re (by unfold tk_kd; rw [if_neg (show ¬ tk_w f n (tk_k f n a) a (tk_e f n a) [114, 105, 100, 101, 114] = true from c1), if_pos (show tk_w f n (tk_k f n a) a (tk_e f n a) [114, 101, 103, 117, 108, 97, 114] = true from c2)]))
  · refine xx_iconst (pc := 9) dX10_kindNamed_9 cc_iconst_0 ?_
    exact xx_iret (pc := 10) dX10_kindNamed_10 rfl (rfl) (Nat.le_refl _) (Nat.le_refl _) (ic_re (by unfold tk_kd; rw [if_pos (show tk_w f n (tk_k f n a) a (tk_e f n a) [114, 105, 100, 101, 114] = true from c1)]))

set_option maxHeartbeats 4000000 in
set_option maxRecDepth 100000 in
theorem cC_deedNamed {l : Launch} {E : ic_E} {w : ic_w} (hP : Value.category E.2.2.2.2.2.2 = 1) {f : Nat → Nat} {n a : Nat} (z_w : Ty w f n a) : ic_C l E mX10_deedNamed 6 0 0 False [ic_pt E 5] SHs (hn w) SHs (ic_qe (nI (tk_dd f n (tk_k f n a) a (tk_e f n a))) (hn w)) := by
  refine ic_intro (by decide +kernel) (Nat.le_of_ble_eq_true rfl) ?_
  show xx l E _ _ 0 [(0, ic_pt E 5)] _ _ _
  refine xx_aload_nP (pc := 0) dX10_deedNamed_0 0 rfl rfl ?_
  refine xx_ldcS (pc := 1) 15 dX10_deedNamed_1 rfl rfl ?_
  refine xx_callV0 (pc := 3) (st := []) sh_5 (cC_isNamed (w := w) (i := 15) (wl := [101, 120, 105, 116]) hP (by decide) (by decide +kernel) z_w) kX10_isNamed vX10_72_10 dX10_deedNamed_3 rfl rfl (Nat.le_of_ble_eq_true rfl) ⟨Nat.le_of_ble_eq_true rfl, Nat.le_of_ble_eq_true rfl⟩ ⟨Nat.zero_le _, Nat.zero_le _⟩ (ic_ke ?_)
  refine xx_if_eqB (pc := 6) 11 dX10_deedNamed_6 rfl (fun c1 => ?_) (fun c1 => ?_)
  · refine xx_aload_nP (pc := 11) dX10_deedNamed_11 0 rfl rfl ?_
    refine xx_ldcS (pc := 12) 16 dX10_deedNamed_12 rfl rfl ?_
    refine xx_callV0 (pc := 14) (st := []) sh_5 (cC_isNamed (w := w) (i := 16) (wl := [114, 105, 100, 101]) hP (by decide) (by decide +kernel) z_w) kX10_isNamed vX10_72_10 dX10_deedNamed_14 rfl rfl (Nat.le_of_ble_eq_true rfl) ⟨Nat.le_of_ble_eq_true rfl, Nat.le_of_ble_eq_true rfl⟩ ⟨Nat.zero_le _, Nat.zero_le _⟩ (ic_ke ?_)
    refine xx_if_eqB (pc := 17) 22 dX10_deedNamed_17 rfl (fun c2 => ?_) (fun c2 => ?_)
    · refine xx_aload_nP (pc := 22) dX10_deedNamed_22 0 rfl rfl ?_
      refine xx_ldcS (pc := 23) 17 dX10_deedNamed_23 rfl rfl ?_
      refine xx_callV0 (pc := 25) (st := []) sh_5 (cC_isNamed (w := w) (i := 17) (wl := [115, 116, 97, 121]) hP (by decide) (by decide +kernel) z_w) kX10_isNamed vX10_72_10 dX10_deedNamed_25 rfl rfl (Nat.le_of_ble_eq_true rfl) ⟨Nat.le_of_ble_eq_true rfl, Nat.le_of_ble_eq_true rfl⟩ ⟨Nat.zero_le _, Nat.zero_le _⟩ (ic_ke ?_)
      refine xx_if_eqB (pc := 28) 35 dX10_deedNamed_28 rfl (fun c3 => ?_) (fun c3 => ?_)
      · refine xx_iconst (pc := 35) dX10_deedNamed_35 cc_iconst_m1 ?_
        exact xx_iret (pc := 36) dX10_deedNamed_36 rfl (rfl) (Nat.le_refl _) (Nat.le_refl _) (ic_re (by unfold tk_dd; rw [if_neg (show ¬ tk_w f n (tk_k f n a) a (tk_e f n a) [101, 120, 105, 116] = true from c1), if_neg (show ¬ tk_w f n (tk_k f n a) a (tk_e f n a) [114, 105, 100, 101] = true from c2), if_neg (show ¬ tk_w f n (tk_k f n a) a (tk_e f n a) [115, 116, 97, 121] = true from c3)]))
      · refine xx_iconst (pc := 31) dX10_deedNamed_31 cc_iconst_2 ?_
        refine xx_goto (pc := 32) 36 dX10_deedNamed_32 rfl ?_
        exact xx_iret (pc := 36) dX10_deedNamed_36 rfl (rfl) (Nat.le_refl _) (Nat.le_refl _) (ic_re (by unfold tk_dd; rw [if_neg (show ¬ tk_w f n (tk_k f n a) a (tk_e f n a) [101, 120, 105, 116] = true from c1), if_neg (show ¬ tk_w f n (tk_k f n a) a (tk_e f n a) [114, 105, 100, 101] = true from c2), if_pos (show tk_w f n (tk_k f n a) a (tk_e f n a) [115, 116, 97, 121] = true from c3)]))
    · refine xx_iconst (pc := 20) dX10_deedNamed_20 cc_iconst_1 ?_
      exact xx_iret (pc := 21) dX10_deedNamed_21 rfl (rfl) (Nat.le_refl _) (Nat.le_refl _) (ic_re (by unfold tk_dd; rw [if_neg (show ¬ tk_w f n (tk_k f n a) a (tk_e f n a) [101, 120, 105, 116] = true from c1), if_pos (show tk_w f n (tk_k f n a) a (tk_e f n a) [114, 105, 100, 101] = true from c2)]))
  · refine xx_iconst (pc := 9) dX10_deedNamed_9 cc_iconst_0 ?_
    exact xx_iret (pc := 10) dX10_deedNamed_10 rfl (rfl) (Nat.le_refl _) (Nat.le_refl _) (ic_re (by unfold tk_dd; rw [if_pos (show tk_w f n (tk_k f n a) a (tk_e f n a) [101, 120, 105, 116] = true from c1)]))

