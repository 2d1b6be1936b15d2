theorem tk_sts_hi (L : tk_L) : ∀ (s : Nat → Nat), s 7 + L.length ≤ 140 → ∀ {j : Nat}, 578 ≤ j → tk_sts s L j = s j := by
  induction L with
  | nil => intro s _ j _; rfl
  | cons x L ih =>
    intro s h j hj
    rw [List.length_cons] at h
    show tk_sts (tk_s1 s x) L j = s j
    rw [ih (tk_s1 s x) (by rw [tk_s1_7]; omega) hj]
    unfold tk_s1
    rw [fu_n _ (by omega), fu_n _ (by omega), fu_n _ (by omega), fu_n _ (by omega)]
/-! the rules that were read keep to what rules keep to -/
theorem tk_sts_lo (L : tk_L) : ∀ (s : Nat → Nat) {i : Nat}, i < 128 + 3 * s 7 → i ≠ 7 → tk_sts s L i = s i := by
  induction L with
  | nil => intro s i _ _; rfl
  | cons x L ih =>
    intro s i h h7
    show tk_sts (tk_s1 s x) L i = s i
    rw [ih (tk_s1 s x) (by rw [tk_s1_7]; omega) h7]
    unfold tk_s1
    rw [fu_n _ h7, fu_n _ (by omega), fu_n _ (by omega), fu_n _ (by omega)]
theorem tk_sts_at (L : tk_L) : ∀ (s : Nat → Nat) (j : Nat), j < L.length → tk_sts s L (128 + 3 * (s 7 + j)) = (L.getD j (0, 0, 0)).1 ∧ tk_sts s L (129 + 3 * (s 7 + j)) = (L.getD j (0, 0, 0)).2.1 ∧ tk_sts s L (130 + 3 * (s 7 + j)) = (L.getD j (0, 0, 0)).2.2 := by
  induction L with
  | nil => intro s j h; exact absurd h (Nat.not_lt_zero j)
  | cons x L ih =>
    intro s j h
    show tk_sts (tk_s1 s x) L _ = _ ∧ tk_sts (tk_s1 s x) L _ = _ ∧ tk_sts (tk_s1 s x) L _ = _
    have e7 := tk_s1_7 s x
    cases j with
    | zero =>
      rw [tk_sts_lo L _ (by rw [e7]; omega) (by omega), tk_sts_lo L _ (by rw [e7]; omega) (by omega), tk_sts_lo L _ (by rw [e7]; omega) (by omega), Nat.add_zero]
      unfold tk_s1
      refine ⟨?_, ?_, ?_⟩
      · rw [fu_n _ (by omega), fu_n _ (by omega), fu_n _ (by omega), fu_s]
        rfl
      · rw [fu_n _ (by omega), fu_n _ (by omega), fu_s]
        rfl
      · rw [fu_n _ (by omega), fu_s]
        rfl
    | succ j =>
      have i := ih (tk_s1 s x) j (Nat.lt_of_succ_lt_succ h)
      rw [e7, show s 7 + 1 + j = s 7 + (j + 1) by omega] at i
      exact i
theorem tk_sts_32 (L : tk_L) : ∀ (s : Nat → Nat), tk_vs L → s 7 + L.length < 2 ^ 32 → (∀ k, k < 578 → s k < 2 ^ 32) → ∀ k, k < 578 → tk_sts s L k < 2 ^ 32 := by
  induction L with
  | nil => intro s _ _ h; exact h
  | cons x L ih =>
    intro s hv h7 h
    have hx := hv x List.mem_cons_self
    rw [List.length_cons] at h7
    refine ih (tk_s1 s x) (fun y hy => hv y (List.mem_cons_of_mem _ hy)) (by rw [tk_s1_7]; omega) (fun k hk => ?_)
    unfold tk_s1 fu
    have := h k hk
    repeat' split
    all_goals omega
theorem tk_mx_t (L : tk_L) : ∀ (n t : Nat), tk_ds (L.take n) t ≤ tk_mx L t := by
  induction L with
  | nil =>
    intro n t
    rw [List.take_nil]
    exact Nat.le_refl _
  | cons x L ih =>
    intro n t
    cases n with
    | zero => exact Nat.le_max_left _ _
    | succ n => exact Nat.le_trans (ih n _) (Nat.le_max_right _ _)
theorem tk_dp_L {s : Nat → Nat} {b : Nat} {L : tk_L} (h : ∀ j, j < L.length → s (128 + 3 * (b + j)) = (L.getD j (0, 0, 0)).1) : ∀ n, n ≤ L.length → mo_dp s b n = tk_ds (L.take n) 0 := by
  intro n
  induction n with
  | zero => intro _; rfl
  | succ n ih =>
    intro hn
    have hl : n < L.length := hn
    have e := h n hl
    rw [List.take_add_one, List.getElem?_eq_getElem hl, tk_ds_a, ← ih (by omega), mo_dp]
    have e2 : (L.getD n (0, 0, 0)) = L[n] := by
      rw [List.getD_eq_getElem?_getD, List.getElem?_eq_getElem hl]
      rfl
    rw [e2] at e
    rw [e]
    rfl
theorem mo_dp_c {s t : Nat → Nat} {b : Nat} : ∀ n, (∀ j, j < n → s (128 + 3 * (b + j)) = t (128 + 3 * (b + j))) → mo_dp s b n = mo_dp t b n := by
  intro n
  induction n with
  | zero => intro _; rfl
  | succ n ih =>
    intro h
    rw [mo_dp, mo_dp, h n (by omega), ih (fun j hj => h j (by omega))]
/-- what the reader's row keeps to, against the row s at first -/
def Qi (s q : Nat → Nat) (a : Nat) : Prop := (∀ j, (j < 72 ∧ j ≠ 5 ∧ j ≠ 7) ∨ (104 ≤ j ∧ j < 128) ∨ 578 ≤ j → q j = s j) ∧ q 5 ≤ 8 ∧ 2 * q 7 ≤ a ∧ Ru q ∧ ∀ k, k < 578 → q k < 2 ^ 32
theorem tk_rr_ru {s : Nat → Nat} {kd d : Nat} {L : tk_L} (h : Ru s) (h5 : s 5 < 8) (hk : kd ≤ 5) (hd : d ≤ 2) (hv : tk_vs L) (hm : ∀ t, tk_mx L t ≤ t + 17) : Ru (tk_rr s kd d L) := by
  obtain ⟨A1, A2, A3, A4⟩ := tk_rr_at s kd d L
  have E5 := tk_rr_5 s kd d L
  have E7 := tk_rr_7 s kd d L
  have at_ := tk_sts_at L s
  refine ⟨fun r hr => ?_, fun k hk2 => ?_⟩
  · rw [E5] at hr
    by_cases z : r = s 5
    · subst z
      rw [A1, A2, A3, A4, E7]
      refine ⟨hk, hd, by omega, Nat.le_refl _, fun n hn => ?_⟩
      rw [tk_dp_L (L := L) (fun j hj => by rw [tk_rr_hi h5 (by omega)]; exact (at_ j hj).1) n (by omega)]
      exact Nat.le_trans (Nat.le_trans (tk_mx_t L n 0) (hm 0)) (by omega)
    · obtain ⟨g1, g2, g3, g4, g5⟩ := h.1 r (by omega)
      rw [tk_rr_lo h5 (by omega) (by omega) (by omega), tk_rr_lo h5 (by omega) (by omega) (by omega), tk_rr_lo h5 (by omega) (by omega) (by omega), tk_rr_lo h5 (by omega) (by omega) (by omega), E7]
      refine ⟨g1, g2, g3, by omega, fun n hn => ?_⟩
      rw [mo_dp_c (t := s) n (fun j hj => by rw [tk_rr_hi h5 (by omega), tk_sts_lo L s (by omega) (by omega)])]
      exact g5 n hn
  · rw [E7] at hk2
    rw [tk_rr_hi h5 (by omega), tk_rr_hi h5 (by omega), tk_rr_hi h5 (by omega)]
    by_cases z : k < s 7
    · rw [tk_sts_lo L s (by omega) (by omega), tk_sts_lo L s (by omega) (by omega), tk_sts_lo L s (by omega) (by omega)]
      exact h.2 k z
    · obtain ⟨j, rfl⟩ : ∃ j, k = s 7 + j := ⟨k - s 7, by omega⟩
      have hj : j < L.length := by omega
      obtain ⟨b1, b2, b3⟩ := at_ j hj
      rw [b1, b2, b3]
      refine hv _ ?_
      rw [List.getD_eq_getElem?_getD, List.getElem?_eq_getElem hj]
      exact List.getElem_mem hj
theorem Qi.rule {f : Nat → Nat} {n a : Nat} {s q : Nat → Nat} (h : Qi s q a) (ha : a ≤ n) (hn : n ≤ 200) (h0 : (tk_rh f n (q 5) a).1 = 0) : Qi s (tk_rr q (tk_kd f n (tk_k f n a) a (tk_e f n a)) (tk_dd f n (tk_k f n ((tk_rb f n a).2.1)) ((tk_rb f n a).2.1) (tk_e f n ((tk_rb f n a).2.1))) (tk_rb f n a).2.2) (tk_rh f n (q 5) a).2.1 := by
  obtain ⟨q1, q2, q3, q4, q5⟩ := h
  obtain ⟨r1, r2, r3, r4⟩ := tk_rh_R (f := f) (c := q 5) ha
  obtain ⟨g1, g2, g3, g4, g5, g6⟩ := r4 h0
  have z1 := tk_rk_k g2
  have z2 := tk_rq_k g4
  obtain ⟨b1, b2, b3, b4⟩ := tk_rb_R (f := f) ha z1.2
  obtain ⟨c1, c2, c3⟩ := b4 g3
  have hkd := tk_kd_le f n (tk_k f n a) a (tk_e f n a)
  have hdd := tk_dd_le f n (tk_k f n (tk_rb f n a).2.1) (tk_rb f n a).2.1 (tk_e f n (tk_rb f n a).2.1)
  have h5 := z1.1.2
  have hk5 : tk_kd f n (tk_k f n a) a (tk_e f n a) ≤ 5 := by omega
  have hd2 : tk_dd f n (tk_k f n ((tk_rb f n a).2.1)) ((tk_rb f n a).2.1) (tk_e f n ((tk_rb f n a).2.1)) ≤ 2 := by omega
  have h7 : q 7 + (tk_rb f n a).2.2.length ≤ 100 := by omega
  refine ⟨fun j hj => ?_, by rw [tk_rr_5]; omega, by rw [tk_rr_7]; omega, tk_rr_ru q4 h5 hk5 hd2 c2 c3, fun k hk => ?_⟩
  · rw [← q1 j hj]
    rcases hj with hj | hj | hj
    · exact tk_rr_lo h5 (by omega) hj.2.1 hj.2.2
    · rw [tk_rr_hi h5 (by omega)]
      exact tk_sts_j _ hj.2 (by omega) q
    · rw [tk_rr_hi h5 (by omega)]
      exact tk_sts_hi _ q (by omega) hj
  · have e := tk_sts_32 (tk_rb f n a).2.2 q c2 (by omega) q5 k hk
    have e7 := q5 7 (by decide)
    unfold tk_rr fu
    repeat' split
    all_goals omega
theorem tk_ru_R {f : Nat → Nat} {n : Nat} {s : Nat → Nat} (hn : n ≤ 200) : ∀ (k : Nat) (q : Nat → Nat) (a : Nat), Qi s q a → a ≤ n → (tk_ru f n k q a).1 ≤ 1 ∧ (tk_ru f n k q a).2.1 ≤ n ∧ ((tk_ru f n k q a).1 = 0 → Qi s (tk_ru f n k q a).2.2 n) := by
  intro k
  induction k with
  | zero => intro q a h ha; exact ⟨Nat.le_refl _, ha, fun y => absurd y Nat.one_ne_zero⟩
  | succ k ih =>
    intro q a h ha
    by_cases z : tk_k f n a = 0
    · rw [tk_ru_0 z]
      exact ⟨Nat.zero_le _, ha, fun _ => ⟨h.1, h.2.1, Nat.le_trans h.2.2.1 ha, h.2.2.2⟩⟩
    · have r := tk_rh_R (f := f) (c := q 5) ha
      by_cases y : (tk_rh f n (q 5) a).1 = 0
      · rw [tk_ru_s z y]
        exact ih _ _ (h.rule ha hn y) r.2.2.1
      · rw [tk_ru_1 z y]
        exact ⟨Nat.le_refl _, r.2.2.1, fun x => absurd x Nat.one_ne_zero⟩
theorem tk_r0_R {f : Nat → Nat} {n : Nat} {s : Nat → Nat} (hn : n ≤ 200) (hI : In s) : (tk_r0 f n s).1 ≤ 1 ∧ (tk_r0 f n s).2.1 ≤ n ∧ ((tk_r0 f n s).1 = 0 → Qi s (tk_r0 f n s).2.2 n) := by
  refine tk_ru_R hn 201 _ _ ⟨fun j hj => ?_, ?_, ?_, ⟨fun r hr => ?_, fun k hk => ?_⟩, fun k hk => ?_⟩ ?_
  · rw [fu_n _ (by omega), fu_n _ (by omega)]
  · rw [fu_n _ (by decide), fu_s]
    exact Nat.zero_le _
  · rw [fu_s]
    exact Nat.zero_le _
  · rw [fu_n _ (by decide), fu_s] at hr
    exact absurd hr (Nat.not_lt_zero _)
  · rw [fu_s] at hk
    exact absurd hk (Nat.not_lt_zero _)
  · have := hI.2.2.2.2.2.2 k hk
    unfold fu
    repeat' split
    all_goals omega
  · have := tk_s_le (f := f) (n - 0) 0
    unfold tk_a
    omega
theorem Qi.in {s q : Nat → Nat} {n : Nat} (h : Qi s q n) (hn : n ≤ 200) (hI : In s) : In q := by
  obtain ⟨q1, q2, q3, q4, q5⟩ := h
  obtain ⟨i1, i2, i3, i4, i5, i6, i7⟩ := hI
  have e : ∀ j, j < 72 → j ≠ 5 → j ≠ 7 → q j = s j := fun j h1 h2 h3 => q1 j (Or.inl ⟨h1, h2, h3⟩)
  refine ⟨by rw [e 0 (by decide) (by decide) (by decide)]; exact i1, by rw [e 1 (by decide) (by decide) (by decide), e 2 (by decide) (by decide) (by decide)]; exact i2, ⟨q2, by rw [e 6 (by decide) (by decide) (by decide)]; exact i3.2.1, by omega⟩, fun o ho => ?_, fun g hg => ?_, fun t ht => ?_, q5⟩
  · have := i4 o ho
    unfold it at this ⊢
    rw [e _ (by omega) (by omega) (by omega), e _ (by omega) (by omega) (by omega), e _ (by omega) (by omega) (by omega), e _ (by omega) (by omega) (by omega), e _ (by omega) (by omega) (by omega), e _ (by omega) (by omega) (by omega)]
    exact this
  · rw [e _ (by omega) (by omega) (by omega), e _ (by omega) (by omega) (by omega)]
    exact i5 g hg
  · rw [e _ (by omega) (by omega) (by omega)]
    exact i6 t ht
theorem Qi.rp {s q : Nat → Nat} {n : Nat} (h : Qi s q n) (hI : In s) (hR : Rp s) : Rp q := by
  have h6 := hI.2.2.1.2.1
  intro i hi
  have e6 : q 6 = s 6 := h.1 6 (by omega)
  rw [e6] at hi
  rw [h.1 _ (by omega), h.1 _ (by omega), h.1 _ (by omega), h.1 _ (by omega)]
  exact hR i hi
theorem Qi.outs {s q : Nat → Nat} {n : Nat} (h : Qi s q n) (hI : In s) : mo_outs q = mo_outs s := by
  have e0 : q 0 = s 0 := h.1 0 (by omega)
  unfold mo_outs
  rw [e0]
  refine mo_set_congr _ (fun k hk => ?_)
  have h0 := hI.n
  show decide (it q k 4 = 1) = decide (it s k 4 = 1)
  unfold it
  rw [h.1 _ (by omega)]
/-- the net, with the rules that were read -/
theorem Qi.cw {s q : Nat → Nat} {n : Nat} {w u : ic_w} (h : Qi s q n) (hI : In s) (hW : Cw w s) (hr : Cr u 49 q) (e : ∀ a, 39 ≤ a → a ≤ 62 → (a < 49 ∨ 53 < a) → u a = w a) : Cw u q := by
  have e0 : q 0 = s 0 := h.1 0 (by omega)
  have h0 := hI.n
  have h6 := hI.2.2.1.2.1
  have e6 : q 6 = s 6 := h.1 6 (by omega)
  refine Cw.mk (fun j a k hl => ?_) ?_ (fun k hk => ?_) hr ⟨?_, fun i h6 hi j hj => ?_⟩
  · rw [e0] at hl
    have e1 := hW.l hl
    refine hl.by (P := fun j a k => w a k = s j → u a k = q j) ?_ ?_ ?_ ?_ ?_ ?_ ?_ ?_ ?_ ?_ ?_ ?_ ?_ e1 <;> (try intro k hk) <;> intro e1 <;> rw [e _ (by omega) (by omega) (by omega), e1, h.1 _ (by omega)]
  · rw [e 46 (by omega) (by omega) (by omega), h.outs hI]
    exact hW.2.1.o
  · rw [e0] at hk
    have := hW.1.k1 hk
    unfold it at this ⊢
    rw [h.1 _ (by omega)]
    exact this
  · rw [e 55 (by omega) (by omega) (by omega), e6]
    exact hW.1.q.1
  · rw [e6] at hi
    rw [e _ (by omega) (by omega) (by omega), h.1 _ (by omega)]
    exact hW.1.q.2 i h6 hi j hj
