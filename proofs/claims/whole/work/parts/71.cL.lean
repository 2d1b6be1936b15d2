/-! the class: strangers told by reports -/
theorem bc_eq : ∀ n, n < 64 → (fun x4 => (x4 + x4 / 2 ^ 16) &&& 63) ((fun x3 => x3 + x3 / 2 ^ 8) ((fun x2 => (x2 + x2 / 2 ^ 4) &&& 252645135) ((fun x1 => (x1 &&& 858993459) + ((x1 / 2 ^ 2) &&& 858993459)) (n - ((n / 2 ^ 1) &&& 1431655765))))) = mo_size n := by decide +kernel
theorem size_le : ∀ n, n < 64 → mo_size n ≤ 6 := by decide +kernel
theorem size_1 : ∀ n, n < 64 → mo_size n = 1 → n = 1 ∨ n = 2 ∨ n = 4 ∨ n = 8 ∨ n = 16 ∨ n = 32 := by decide +kernel
theorem size_p : ∀ i, i < 6 → mo_size (2 ^ i) = 1 := by decide +kernel
theorem rp_at {i : Nat} (h : i < 6) : [58, 59, 60, 61, 62, 63].getD i 0 = 57 + i + 1 := by
  rcases (show i = 0 ∨ i = 1 ∨ i = 2 ∨ i = 3 ∨ i = 4 ∨ i = 5 by omega) with rfl | rfl | rfl | rfl | rfl | rfl <;> rfl
theorem rp_sh {i : Nat} (h : i < 6) : SHs[57 + i]? = some (100, 4, []) := by
  rcases (show i = 0 ∨ i = 1 ∨ i = 2 ∨ i = 3 ∨ i = 4 ∨ i = 5 by omega) with rfl | rfl | rfl | rfl | rfl | rfl <;> rfl
def cl_sk (s : Nat → Nat) (kd : Nat) : Nat → Nat
  | 0 => 0
  | n + 1 => cl_sk s kd n + mo_sinks kd (mo_crowd s n) 0
def cl_dr (kd : Nat) : Nat → Nat
  | 0 => 0
  | n + 1 => cl_dr kd n + mo_drifts kd n
theorem cl_sk_le {s : Nat → Nat} (h : In s) (kd : Nat) : ∀ n, cl_sk s kd n ≤ 21 * n
  | 0 => Nat.le_refl _
  | n + 1 => by
    have := cl_sk_le h kd n
    have := mo_sinks_le (k := kd) (h.cr n) (show 0 ≤ 6 by omega)
    rw [cl_sk]
    omega
theorem cl_dr_le (kd : Nat) : ∀ n, cl_dr kd n ≤ 3 * n
  | 0 => Nat.le_refl _
  | n + 1 => by
    have := cl_dr_le kd n
    have := mo_drifts_le kd n
    rw [cl_dr]
    omega
theorem mo_lp_c (kd : Nat) {p : Nat} (hp : p < 6) : ∀ n, mo_lp kd p n = (p + cl_dr kd n) % 6
  | 0 => by rw [mo_lp, cl_dr, Nat.add_zero, Nat.mod_eq_of_lt hp]
  | n + 1 => by
    rw [mo_lp, cl_dr, mo_lp_c kd hp n]
    omega
theorem mo_ld_c (s : Nat → Nat) (kd : Nat) {d : Nat} (hd : d ≤ 99) : ∀ n, n ≤ 16 → mo_ld s kd d n = min 99 (d + cl_sk s kd n)
  | 0, _ => by rw [mo_ld, cl_sk]; omega
  | n + 1, h => by
    have e : mo_crowd s n = s (56 + n) := if_pos (by omega)
    rw [mo_ld, cl_sk, mo_ld_c s kd hd n (by omega), e]
    omega
def mo_ir (s : Nat → Nat) (kd p d i : Nat) : Bool := decide (s (106 + 4 * i) ≤ mo_rv s kd p d i ∧ mo_rv s kd p d i ≤ s (107 + 4 * i))
def mo_wr (s : Nat → Nat) (kd p d : Nat) : Nat := mo_set (fun i => !mo_ir s kd p d i) (s 6)
def mo_wn (s : Nat → Nat) (n : Nat) : Nat := mo_wr s ((100 + n) / 100) ((100 + n) / 10 % 10) ((100 + n) % 10 * 9)
def mo_su (s : Nat → Nat) : Nat → Nat
  | 0 => 0
  | n + 1 => if (100 + n) / 10 % 10 < 6 ∧ mo_size (mo_wn s n) = 1 then mo_su s n ||| mo_wn s n else mo_su s n
theorem mo_wr_lt {s : Nat → Nat} (h : In s) (kd p d : Nat) : mo_wr s kd p d < 64 := Nat.lt_of_lt_of_le (mo_set_lt _ _) (mo_p2 h.2.2.1.2.1)
theorem mo_su_lt {s : Nat → Nat} (h : In s) : ∀ n, mo_su s n < 64
  | 0 => by show 0 < 64; omega
  | n + 1 => by
    rw [mo_su]
    split
    · exact Nat.or_lt_two_pow (n := 6) (mo_su_lt h n) (mo_wr_lt h _ _ _)
    · exact mo_su_lt h n
theorem mo_set_z (P : Nat → Bool) : ∀ n, mo_set P n = 0 ↔ ∀ i, i < n → P i = false
  | 0 => ⟨fun _ i h => absurd h (by omega), fun _ => rfl⟩
  | n + 1 => by
    rw [mo_set]
    have p := Nat.two_pow_pos n
    constructor
    · intro h i hi
      by_cases z : P n = true
      · rw [if_pos z] at h
        omega
      · rw [if_neg z, Nat.add_zero] at h
        by_cases y : i = n
        · subst y
          simpa using z
        · exact (mo_set_z P n).mp h i (by omega)
    · intro h
      rw [(mo_set_z P n).mpr (fun i hi => h i (by omega)), h n (by omega)]
      rfl
theorem mo_ft_i (s : Nat → Nat) (kd p d but : Nat) : ∀ n, mo_ft s kd p d but n = true ↔ ∀ i, i < n → i = but ∨ mo_ir s kd p d i = true
  | 0 => ⟨fun _ i h => absurd h (by omega), fun _ => rfl⟩
  | n + 1 => by
    rw [mo_ft, Bool.and_eq_true, mo_ft_i s kd p d but n, decide_eq_true_iff]
    constructor
    · rintro ⟨a, b⟩ i hi
      by_cases y : i = n
      · subst y
        rcases b with b | b
        · exact Or.inl b
        · exact Or.inr (decide_eq_true b)
      · exact a i (by omega)
    · intro h
      refine ⟨fun i hi => h i (by omega), ?_⟩
      rcases h n (by omega) with b | b
      · exact Or.inl b
      · exact Or.inr (of_decide_eq_true b)
theorem mo_lf_n {s : Nat → Nat} (h : In s) (n : Nat) : mo_lf s 4294967295 (100 + n) = true ↔ ((100 + n) / 10 % 10 < 6 ∧ mo_wn s n = 0) := by
  have h6 := h.2.2.1
  unfold mo_lf mo_wn mo_wr
  rw [Bool.and_eq_true, decide_eq_true_iff, mo_ft_i, mo_set_z]
  constructor
  · rintro ⟨a, b⟩
    refine ⟨a, fun i hi => ?_⟩
    rcases b i hi with z | z
    · omega
    · rw [z]; rfl
  · rintro ⟨a, b⟩
    refine ⟨a, fun i hi => Or.inr ?_⟩
    have := b i hi
    simpa using this
/-- what is known of the reports' search behind n lone riders -/
def Hs (w : ic_w) (s : Nat → Nat) (n : Nat) : Prop := w 55 4 = mo_cnt (fun i => mo_lf s 4294967295 (100 + i)) n ∧ w 55 8 = mo_su s n ∧ (mo_cnt (fun i => mo_lf s 4294967295 (100 + i)) n ≠ 0 → w 55 5 = mo_fst (fun i => mo_lf s 4294967295 (100 + i)) n / 100 ∧ w 55 6 = mo_fst (fun i => mo_lf s 4294967295 (100 + i)) n / 10 % 10 ∧ w 55 7 = mo_fst (fun i => mo_lf s 4294967295 (100 + i)) n % 10 * 9)
theorem Hs.of {w u : ic_w} {s : Nat → Nat} {n : Nat} (h : Hs w s n) (e : u 55 = w 55) : Hs u s n := by
  unfold Hs
  rw [e]
  exact h
theorem Hs.skip {w : ic_w} {s : Nat → Nat} (hI : In s) {n : Nat} (h : Hs w s n) (h6 : ¬ (100 + n) / 10 % 10 < 6) : Hs w s (n + 1) := by
  have hf : mo_lf s 4294967295 (100 + n) = false := by
    cases z : mo_lf s 4294967295 (100 + n)
    · rfl
    · exact absurd ((mo_lf_n hI n).mp z).1 h6
  unfold Hs
  rw [mo_cnt_f (by rw [hf]), mo_su, if_neg (fun z => h6 z.1), mo_fst, if_neg (fun z => by rw [hf] at z; exact absurd z.2 (by decide))]
  exact h
theorem Hs.skips {w : ic_w} {s : Nat → Nat} (hI : In s) {n : Nat} (h : Hs w s n) : ∀ j, (∀ i, i < j → ¬ (100 + (n + i)) / 10 % 10 < 6) → Hs w s (n + j)
  | 0, _ => h
  | j + 1, g => Hs.skip hI (Hs.skips hI h j (fun i hi => g i (by omega))) (g j (by omega))
set_option maxHeartbeats 4000000 in
set_option maxRecDepth 100000 in
theorem cC_bitCount {l : Launch} {E : ic_E} {w : ic_w} {n : Nat} (hn64 : n < 64) : ic_C l E mJ6_bitCount_0f7a4 1 0 0 False [.int (nI n)] SHs (hn w) SHs (ic_qe (nI (mo_size n)) (hn w)) := by
  refine ic_intro (by decide +kernel) (Nat.le_of_ble_eq_true rfl) ?_
  show xx l E _ _ 0 [(0, .int (nI n))] _ _ _
  have a1 := Nat.and_le_left (n := n / 2 ^ 1) (m := 1431655765)
  obtain ⟨x1, e1⟩ : ∃ x1, x1 = n - ((n / 2 ^ 1) &&& 1431655765) := ⟨_, rfl⟩
  have a2 := Nat.and_le_right (n := x1) (m := 858993459)
  have a3 := Nat.and_le_right (n := x1 / 2 ^ 2) (m := 858993459)
  obtain ⟨x2, e2⟩ : ∃ x2, x2 = (x1 &&& 858993459) + ((x1 / 2 ^ 2) &&& 858993459) := ⟨_, rfl⟩
  obtain ⟨x3, e3⟩ : ∃ x3, x3 = (x2 + x2 / 2 ^ 4) &&& 252645135 := ⟨_, rfl⟩
  have a4 := Nat.and_le_right (n := x2 + x2 / 2 ^ 4) (m := 252645135)
  rw [← e3] at a4
  obtain ⟨x4, e4⟩ : ∃ x4, x4 = x3 + x3 / 2 ^ 8 := ⟨_, rfl⟩
  refine xx_iload_n (pc := 0) dJ6_bitCount_0f7a4_0 0 rfl rfl ?_
  refine xx_iload_n (pc := 1) dJ6_bitCount_0f7a4_1 0 rfl rfl ?_
  refine xx_iconst (pc := 2) dJ6_bitCount_0f7a4_2 cc_iconst_1 ?_
  refine xx_iushrN (pc := 3) dJ6_bitCount_0f7a4_3 (by omega) (by omega) ?_
  refine xx_ldcw (v := nI 1431655765) (pc := 4) dJ6_bitCount_0f7a4_4 oJ6_265 ?_
  refine xx_iandN (pc := 7) dJ6_bitCount_0f7a4_7 ?_
  refine xx_isubN (pc := 8) dJ6_bitCount_0f7a4_8 (by omega) ?_
  refine xx_eqI (y := nI (x1)) (by rw [e1]) ?_
  refine xx_istore_n (L' := [(0, .int (nI x1))]) (pc := 9) dJ6_bitCount_0f7a4_9 rfl (Nat.le_of_ble_eq_true rfl) rfl ?_
  refine xx_iload_n (pc := 10) dJ6_bitCount_0f7a4_10 0 rfl rfl ?_
  refine xx_ldcw (v := nI 858993459) (pc := 11) dJ6_bitCount_0f7a4_11 oJ6_266 ?_
  refine xx_iandN (pc := 14) dJ6_bitCount_0f7a4_14 ?_
  refine xx_iload_n (pc := 15) dJ6_bitCount_0f7a4_15 0 rfl rfl ?_
  refine xx_iconst (pc := 16) dJ6_bitCount_0f7a4_16 cc_iconst_2 ?_
  refine xx_iushrN (pc := 17) dJ6_bitCount_0f7a4_17 (by omega) (by omega) ?_
  refine xx_ldcw (v := nI 858993459) (pc := 18) dJ6_bitCount_0f7a4_18 oJ6_266 ?_
  refine xx_iandN (pc := 21) dJ6_bitCount_0f7a4_21 ?_
  refine xx_iaddN (pc := 22) dJ6_bitCount_0f7a4_22 ?_
  refine xx_eqI (y := nI (x2)) (by rw [e2]) ?_
  refine xx_istore_n (L' := [(0, .int (nI x2))]) (pc := 23) dJ6_bitCount_0f7a4_23 rfl (Nat.le_of_ble_eq_true rfl) rfl ?_
  refine xx_iload_n (pc := 24) dJ6_bitCount_0f7a4_24 0 rfl rfl ?_
  refine xx_iload_n (pc := 25) dJ6_bitCount_0f7a4_25 0 rfl rfl ?_
  refine xx_iconst (pc := 26) dJ6_bitCount_0f7a4_26 cc_iconst_4 ?_
  refine xx_iushrN (pc := 27) dJ6_bitCount_0f7a4_27 (by omega) (by omega) ?_
  refine xx_iaddN (pc := 28) dJ6_bitCount_0f7a4_28 ?_
  refine xx_ldcw (v := nI 252645135) (pc := 29) dJ6_bitCount_0f7a4_29 oJ6_267 ?_
  refine xx_iandN (pc := 32) dJ6_bitCount_0f7a4_32 ?_
  refine xx_eqI (y := nI (x3)) (by rw [e3]) ?_
  refine xx_istore_n (L' := [(0, .int (nI x3))]) (pc := 33) dJ6_bitCount_0f7a4_33 rfl (Nat.le_of_ble_eq_true rfl) rfl ?_
  refine xx_iload_n (pc := 34) dJ6_bitCount_0f7a4_34 0 rfl rfl ?_
  refine xx_iload_n (pc := 35) dJ6_bitCount_0f7a4_35 0 rfl rfl ?_
  refine xx_bipush (pc := 36) dJ6_bitCount_0f7a4_36 cc_bipush_8 ?_
  refine xx_iushrN (pc := 38) dJ6_bitCount_0f7a4_38 (by omega) (by omega) ?_
  refine xx_iaddN (pc := 39) dJ6_bitCount_0f7a4_39 ?_
  refine xx_eqI (y := nI (x4)) (by rw [e4]) ?_
  refine xx_istore_n (L' := [(0, .int (nI x4))]) (pc := 40) dJ6_bitCount_0f7a4_40 rfl (Nat.le_of_ble_eq_true rfl) rfl ?_
  refine xx_iload_n (pc := 41) dJ6_bitCount_0f7a4_41 0 rfl rfl ?_
  refine xx_iload_n (pc := 42) dJ6_bitCount_0f7a4_42 0 rfl rfl ?_
  refine xx_bipush (pc := 43) dJ6_bitCount_0f7a4_43 cc_bipush_16 ?_
  refine xx_iushrN (pc := 45) dJ6_bitCount_0f7a4_45 (by omega) (by omega) ?_
  refine xx_iaddN (pc := 46) dJ6_bitCount_0f7a4_46 ?_
  refine xx_istore_n (L' := [(0, .int (nI (x4 + (x4 / 2 ^ 16))))]) (pc := 47) dJ6_bitCount_0f7a4_47 rfl (Nat.le_of_ble_eq_true rfl) rfl ?_
  refine xx_iload_n (pc := 48) dJ6_bitCount_0f7a4_48 0 rfl rfl ?_
  refine xx_bipush (pc := 49) dJ6_bitCount_0f7a4_49 cc_bipush_63 ?_
  refine xx_iandN (pc := 51) dJ6_bitCount_0f7a4_51 ?_
  exact xx_iret (pc := 52) dJ6_bitCount_0f7a4_52 rfl (rfl) (Nat.le_refl _) (Nat.le_refl _) (ic_re (by have := bc_eq n hn64; rw [← this]; subst e4 e3 e2 e1; rfl))

theorem Cw.rep {w : ic_w} {s : Nat → Nat} {k a lo hi : Nat} (h : Cw w s) (hI : In s) (h6 : s 6 < 6) : Cw (wu (wu (wu (wu (wu w (57 + s 6) 0 k) (57 + s 6) 1 a) (57 + s 6) 2 lo) (57 + s 6) 3 hi) 55 0 (s 6 + 1)) (mo_rep s k a lo hi) := by
  have h5 := hI.2.2.1
  have e : ∀ j, j ≠ 6 → (j < 104 + 4 * s 6 ∨ 108 + 4 * s 6 ≤ j) → mo_rep s k a lo hi j = s j := fun j h1 h2 => by
    unfold mo_rep
    rw [fu_n _ h1, fu_n _ (by omega), fu_n _ (by omega), fu_n _ (by omega), fu_n _ (by omega)]
  have f : ∀ b, b ≠ 55 → b ≠ 57 + s 6 → (wu (wu (wu (wu (wu w (57 + s 6) 0 k) (57 + s 6) 1 a) (57 + s 6) 2 lo) (57 + s 6) 3 hi) 55 0 (s 6 + 1)) b = w b := fun b h1 h2 => by
    rw [wu_row _ _ _ h1, wu_row _ _ _ h2, wu_row _ _ _ h2, wu_row _ _ _ h2, wu_row _ _ _ h2]
  refine Cw.mk (fun j b q hl => ?_) ?_ (fun q hq => ?_) ((h.1.r.of (by rw [f _ (by omega) (by omega)]) (fun b h1 h2 => f _ (by omega) (by omega))).to (fun q hq => e _ (by omega) (by omega)) h5.1) ⟨by rw [wu_s]; exact (fu_s _ _ _).symm, fun i hi6 hx q hq => ?_⟩
  · rw [e 0 (by omega) (by omega)] at hl
    have hj : j < 72 ∧ j ≠ 6 ∧ b ≠ 55 ∧ b < 57 := by
      have hn0 := hI.n
      refine hl.by (P := fun j b q => j < 72 ∧ j ≠ 6 ∧ b ≠ 55 ∧ b < 57) ?_ ?_ ?_ ?_ ?_ ?_ ?_ ?_ ?_ ?_ ?_ ?_ ?_ <;> (try intro r hr) <;> omega
    rw [f b hj.2.2.1 (by omega), e j hj.2.1 (by omega)]
    exact h.l hl
  · rw [f 46 (by omega) (by omega), mo_outs_congr (e 0 (by omega) (by omega)) (fun q hq => e _ (by have := hI.n; omega) (by have := hI.n; omega))]
    exact h.2.1.o
  · rw [e 0 (by omega) (by omega)] at hq
    have hn0 := hI.n
    have : it (mo_rep s k a lo hi) q 0 = it s q 0 := e _ (by omega) (by omega)
    rw [this]
    exact h.1.k1 hq
  · have e6 : mo_rep s k a lo hi 6 = s 6 + 1 := fu_s _ _ _
    rw [e6] at hx
    by_cases z : i = s 6
    · subst z
      rw [wu_o _ _ _ _ (by omega)]
      rcases (show q = 0 ∨ q = 1 ∨ q = 2 ∨ q = 3 by omega) with rfl | rfl | rfl | rfl
      · rw [wu_k _ _ _ _ (by omega), wu_k _ _ _ _ (by omega), wu_k _ _ _ _ (by omega), wu_s]
        unfold mo_rep
        rw [fu_n _ (by omega), fu_n _ (by omega), fu_n _ (by omega), fu_n _ (by omega), Nat.add_zero, fu_s]
      · rw [wu_k _ _ _ _ (by omega), wu_k _ _ _ _ (by omega), wu_s]
        unfold mo_rep
        rw [fu_n _ (by omega), fu_n _ (by omega), fu_n _ (by omega), show 104 + 4 * s 6 + 1 = 105 + 4 * s 6 by omega, fu_s]
      · rw [wu_k _ _ _ _ (by omega), wu_s]
        unfold mo_rep
        rw [fu_n _ (by omega), fu_n _ (by omega), show 104 + 4 * s 6 + 2 = 106 + 4 * s 6 by omega, fu_s]
      · rw [wu_s]
        unfold mo_rep
        rw [fu_n _ (by omega), show 104 + 4 * s 6 + 3 = 107 + 4 * s 6 by omega, fu_s]
    · rw [f _ (by omega) (by omega), e _ (by omega) (by omega)]
      exact h.1.q.2 i hi6 (by omega) q hq
theorem Cw.forget {w : ic_w} {s : Nat → Nat} (h : Cw w s) (hI : In s) : Cw (wu w 55 0 0) (fu s 6 0) := by
  have h5 := hI.2.2.1
  have hn0 := hI.n
  have e : ∀ j, j ≠ 6 → fu s 6 0 j = s j := fun j hj => fu_n _ hj
  refine ⟨⟨⟨by rw [wu_row _ _ _ (by omega), e 0 (by omega)]; exact h.1.n, by rw [wu_row _ _ _ (by omega), e 2 (by omega)]; exact h.1.e⟩, fun k hk => ?_, fun f hf => ?_, fun t ht => ?_, (h.1.r.of (by rw [wu_row _ _ _ (by omega)]) (fun b h1 h2 => wu_row _ _ _ (by omega))).to (fun q hq => e _ (by omega)) h5.1, wu_s _ _ _ _, fun i h6 hi => absurd hi (by rw [fu_s]; omega)⟩, ⟨by rw [wu_row _ _ _ (by omega), e 1 (by omega)]; exact h.2.1.t, by rw [wu_row _ _ _ (by omega), mo_outs_congr (e 0 (by omega)) (fun q _ => e _ (by omega))]; exact h.2.1.o, fun k hk => ?_⟩, by rw [wu_row _ _ _ (by omega), e 3 (by omega)]; exact h.2.2.1, by rw [wu_row _ _ _ (by omega), e 4 (by omega)]; exact h.2.2.2⟩
  · rw [e 0 (by omega)] at hk
    rw [wu_row _ _ _ (by omega), wu_row _ _ _ (by omega), wu_row _ _ _ (by omega), it_fu (by omega), it_fu (by omega), it_fu (by omega)]
    exact h.1.2.1 k hk
  · rw [wu_row _ _ _ (by omega), wu_row _ _ _ (by omega), e _ (by omega), e _ (by omega)]
    exact h.1.2.2.1 f hf
  · rw [wu_row _ _ _ (by omega), e _ (by omega)]
    exact h.1.c ht
  · rw [e 0 (by omega)] at hk
    rw [wu_row _ _ _ (by omega), wu_row _ _ _ (by omega), it_fu (by omega), it_fu (by omega)]
    exact h.2.1.2.2 k hk
set_option maxHeartbeats 4000000 in
set_option maxRecDepth 100000 in
theorem cC_radd {l : Launch} {E : ic_E} {w : ic_w} {k a lo hi : Nat} {s : Nat → Nat} (hC : Cw w s) (hIn : In s) (h6 : s 6 < 6) : ic_C l E mX8_add 1 0 0 False [ic_pt E 55, .int (nI k), .int (nI a), .int (nI lo), .int (nI hi)] SHs (hn w) SHs (ic_qi (fun v_ h_ => v_ = nI (s 6) ∧ ∃ w2, h_ = hn w2 ∧ Fn w w2 ∧ Cw w2 (mo_rep s k a lo hi))) := by
  refine ic_intro (by decide +kernel) (Nat.le_of_ble_eq_true rfl) ?_
  show xx l E _ _ 0 [(0, ic_pt E 55), (1, .int (nI k)), (2, .int (nI a)), (3, .int (nI lo)), (4, .int (nI hi))] _ _ _
  have hN := hC.1
  have hm := hC.2.1
  have n5_w := hC.2.2.1
  have n6_w := hC.2.2.2
  have hn0 := hIn.n
  have htt := hIn.t
  have hcr := hIn.cr (s 1)
  have n1_w : w 39 10 = s 0 := hN.n
  have n2_w : w 39 11 = s 2 := hN.e
  have n3_w : w 46 0 = s 1 := hm.t
  have n4_w : w 46 1 = mo_outs s := hm.o
  have h55 : w 55 0 = s 6 := hN.q.1
  have hc6 := hIn.2.2.1
  refine xx_aload_nP (pc := 0) dX8_add_0 0 rfl rfl ?_
  refine xx_getN (pc := 1) dX8_add_1 sh_55 fX8_23_8 rfl ?_
  refine xx_eqI (y := nI (s 6)) (by rw [h55]) ?_
  refine xx_istore (L' := [(5, .int (nI (s 6))), (0, ic_pt E 55), (1, .int (nI k)), (2, .int (nI a)), (3, .int (nI lo)), (4, .int (nI hi))]) (pc := 4) dX8_add_4 (Nat.le_of_ble_eq_true rfl) rfl ?_
  refine xx_aload_nP (pc := 6) dX8_add_6 1 rfl rfl ?_
  refine xx_getR (pc := 7) 56 dX8_add_7 sh_55 fX8_11_8 rfl rfl (by decide) ?_
  refine xx_iload (pc := 10) dX8_add_10 0 rfl ?_
  refine xx_aald (pc := 12) (s 6) (57 + (s 6)) dX8_add_12 sh_56 (by decide) rfl (by omega) (by decide) (rp_at (by omega)) ?_
  refine xx_iconst (pc := 13) dX8_add_13 cc_iconst_0 ?_
  refine xx_iload_n (pc := 14) dX8_add_14 2 rfl rfl ?_
  refine xx_iastN (pc := 15) dX8_add_15 (rp_sh (by omega)) (by omega) (by decide) ?_
  refine xx_nw (fun w1 ew1 => ?_)
  have k_w1 : w1 55 0 = s 6 := by rw [ew1, wu_o _ _ _ _ (by omega)]; exact h55
  refine xx_aload_nP (pc := 16) dX8_add_16 1 rfl rfl ?_
  refine xx_getR (pc := 17) 56 dX8_add_17 sh_55 fX8_11_8 rfl rfl (by decide) ?_
  refine xx_iload (pc := 20) dX8_add_20 0 rfl ?_
  refine xx_aald (pc := 22) (s 6) (57 + (s 6)) dX8_add_22 sh_56 (by decide) rfl (by omega) (by decide) (rp_at (by omega)) ?_
  refine xx_iconst (pc := 23) dX8_add_23 cc_iconst_1 ?_
  refine xx_iload_n (pc := 24) dX8_add_24 3 rfl rfl ?_
  refine xx_iastN (pc := 25) dX8_add_25 (rp_sh (by omega)) (by omega) (by decide) ?_
  refine xx_nw (fun w2 ew2 => ?_)
  have k_w2 : w2 55 0 = s 6 := by rw [ew2, wu_o _ _ _ _ (by omega)]; exact k_w1
  refine xx_aload_nP (pc := 26) dX8_add_26 1 rfl rfl ?_
  refine xx_getR (pc := 27) 56 dX8_add_27 sh_55 fX8_11_8 rfl rfl (by decide) ?_
  refine xx_iload (pc := 30) dX8_add_30 0 rfl ?_
  refine xx_aald (pc := 32) (s 6) (57 + (s 6)) dX8_add_32 sh_56 (by decide) rfl (by omega) (by decide) (rp_at (by omega)) ?_
  refine xx_iconst (pc := 33) dX8_add_33 cc_iconst_2 ?_
  refine xx_iload_n (pc := 34) dX8_add_34 4 rfl rfl ?_
  refine xx_iastN (pc := 35) dX8_add_35 (rp_sh (by omega)) (by omega) (by decide) ?_
  refine xx_nw (fun w3 ew3 => ?_)
  have k_w3 : w3 55 0 = s 6 := by rw [ew3, wu_o _ _ _ _ (by omega)]; exact k_w2
  refine xx_aload_nP (pc := 36) dX8_add_36 1 rfl rfl ?_
  refine xx_getR (pc := 37) 56 dX8_add_37 sh_55 fX8_11_8 rfl rfl (by decide) ?_
  refine xx_iload (pc := 40) dX8_add_40 0 rfl ?_
  refine xx_aald (pc := 42) (s 6) (57 + (s 6)) dX8_add_42 sh_56 (by decide) rfl (by omega) (by decide) (rp_at (by omega)) ?_
  refine xx_iconst (pc := 43) dX8_add_43 cc_iconst_3 ?_
  refine xx_iload (pc := 44) dX8_add_44 5 rfl ?_
  refine xx_iastN (pc := 46) dX8_add_46 (rp_sh (by omega)) (by omega) (by decide) ?_
  refine xx_nw (fun w4 ew4 => ?_)
  have k_w4 : w4 55 0 = s 6 := by rw [ew4, wu_o _ _ _ _ (by omega)]; exact k_w3
  refine xx_aload_nP (pc := 47) dX8_add_47 1 rfl rfl ?_
  refine xx_dup (pc := 48) dX8_add_48 rfl ?_
  refine xx_getN (pc := 49) dX8_add_49 sh_55 fX8_23_8 rfl ?_
  refine xx_iconst (pc := 52) dX8_add_52 cc_iconst_1 ?_
  refine xx_iaddN (pc := 53) dX8_add_53 ?_
  refine xx_eqI (y := nI (s 6 + 1)) (by rw [k_w4]) ?_
  refine xx_putN (pc := 54) dX8_add_54 sh_55 fX8_23_8 rfl rfl ?_
  refine xx_nw (fun w5 ew5 => ?_)
  refine xx_iload (pc := 57) dX8_add_57 0 rfl ?_
  exact xx_iret (pc := 59) dX8_add_59 rfl (rfl) (Nat.le_refl _) (Nat.le_refl _) (ic_ri ⟨rfl, w5, rfl, fun a ha => by rw [ew5, ew4, ew3, ew2, ew1, wu_row _ _ _ (by omega), wu_row _ _ _ (by omega), wu_row _ _ _ (by omega), wu_row _ _ _ (by omega), wu_row _ _ _ (by omega)], by rw [ew5, ew4, ew3, ew2, ew1]; exact hC.rep hIn h6⟩)

set_option maxHeartbeats 4000000 in
set_option maxRecDepth 100000 in
theorem cC_report {l : Launch} {E : ic_E} {w : ic_w} {k a lo hi : Nat} (h1 : k < 2 ^ 32) (h2 : a < 2 ^ 32) (h3 : lo < 2 ^ 32) (h4 : hi < 2 ^ 32) {s : Nat → Nat} (hC : Cw w s) (hIn : In s) : ic_C l E mX11_report 3 0 0 False [ic_pt E 0, .int (nI k), .int (nI a), .int (nI lo), .int (nI hi)] SHs (hn w) SHs (ic_qi (fun v_ h_ => v_ = nI (if (k ≤ 15 ∧ a ≤ 1 ∧ lo ≤ hi ∧ hi ≤ mo_rt a) then (if s 6 = 6 then 4294967294 else s 6) else 4294967295) ∧ ∃ w2, h_ = hn w2 ∧ Fn w w2 ∧ Cw w2 (if (k ≤ 15 ∧ a ≤ 1 ∧ lo ≤ hi ∧ hi ≤ mo_rt a) ∧ s 6 < 6 then mo_rep s k a lo hi else s))) := by
  refine ic_intro (by decide +kernel) (Nat.le_of_ble_eq_true rfl) ?_
  show xx l E _ _ 0 [(0, ic_pt E 0), (1, .int (nI k)), (2, .int (nI a)), (3, .int (nI lo)), (4, .int (nI hi))] _ _ _
  have hN := hC.1
  have hm := hC.2.1
  have n5_w := hC.2.2.1
  have n6_w := hC.2.2.2
  have hn0 := hIn.n
  have htt := hIn.t
  have hcr := hIn.cr (s 1)
  have n1_w : w 39 10 = s 0 := hN.n
  have n2_w : w 39 11 = s 2 := hN.e
  have n3_w : w 46 0 = s 1 := hm.t
  have n4_w : w 46 1 = mo_outs s := hm.o
  have h55 : w 55 0 = s 6 := hN.q.1
  have hc6 := hIn.2.2.1
  have hrt : (a = 0 → mo_rt a = 5) ∧ (¬ a = 0 → mo_rt a = 99) := ⟨fun z => if_pos z, fun z => if_neg z⟩
  have hr99 : mo_rt a ≤ 99 := by unfold mo_rt; split <;> omega
  refine xx_iload_n (pc := 0) dX11_report_0 1 rfl rfl ?_
  refine xx_iconst (pc := 1) dX11_report_1 cc_iconst_0 ?_
  refine xx_bipush (pc := 2) dX11_report_2 cc_bipush_15 ?_
  refine xx_callS0 (pc := 4) (st := []) (cC_within (w := w) (v := k) (lo := 0) (hi := 15) (by omega) (by omega) (by omega)) kX11_within sX11_94 dX11_report_4 rfl rfl (Nat.le_of_ble_eq_true rfl) ⟨Nat.le_of_ble_eq_true rfl, Nat.le_of_ble_eq_true rfl⟩ ⟨Nat.zero_le _, Nat.zero_le _⟩ (ic_ke ?_)
  refine xx_if_eqB (pc := 7) 48 dX11_report_7 rfl (fun c1 => ?_) (fun c1 => ?_)
  · refine xx_iconst (pc := 48) dX11_report_48 cc_iconst_0 ?_
    refine xx_istore (L' := [(5, .int (nI 0)), (0, ic_pt E 0), (1, .int (nI k)), (2, .int (nI a)), (3, .int (nI lo)), (4, .int (nI hi))]) (pc := 49) dX11_report_49 (Nat.le_of_ble_eq_true rfl) rfl ?_
    refine xx_iload (pc := 51) dX11_report_51 0 rfl ?_
    refine xx_if_neN (pc := 53) 58 dX11_report_53 rfl (by omega) (fun c2 => by exfalso; omega) (fun c2 => ?_)
    refine xx_iconst (pc := 56) dX11_report_56 cc_iconst_m1 ?_
    exact xx_iret (pc := 57) dX11_report_57 rfl (rfl) (Nat.le_refl _) (Nat.le_refl _) (ic_ri ⟨by rw [if_neg (by omega)], w, rfl, Fn.rf w, by rw [if_neg (by omega)]; exact hC⟩)
  · refine xx_iload_n (pc := 10) dX11_report_10 2 rfl rfl ?_
    refine xx_iconst (pc := 11) dX11_report_11 cc_iconst_0 ?_
    refine xx_iconst (pc := 12) dX11_report_12 cc_iconst_1 ?_
    refine xx_callS0 (pc := 13) (st := []) (cC_within (w := w) (v := a) (lo := 0) (hi := 1) (by omega) (by omega) (by omega)) kX11_within sX11_94 dX11_report_13 rfl rfl (Nat.le_of_ble_eq_true rfl) ⟨Nat.le_of_ble_eq_true rfl, Nat.le_of_ble_eq_true rfl⟩ ⟨Nat.zero_le _, Nat.zero_le _⟩ (ic_ke ?_)
    refine xx_if_eqB (pc := 16) 48 dX11_report_16 rfl (fun c3 => ?_) (fun c3 => ?_)
    · refine xx_iconst (pc := 48) dX11_report_48 cc_iconst_0 ?_
      refine xx_istore (L' := [(5, .int (nI 0)), (0, ic_pt E 0), (1, .int (nI k)), (2, .int (nI a)), (3, .int (nI lo)), (4, .int (nI hi))]) (pc := 49) dX11_report_49 (Nat.le_of_ble_eq_true rfl) rfl ?_
      refine xx_iload (pc := 51) dX11_report_51 0 rfl ?_
      refine xx_if_neN (pc := 53) 58 dX11_report_53 rfl (by omega) (fun c4 => by exfalso; omega) (fun c4 => ?_)
      refine xx_iconst (pc := 56) dX11_report_56 cc_iconst_m1 ?_
      exact xx_iret (pc := 57) dX11_report_57 rfl (rfl) (Nat.le_refl _) (Nat.le_refl _) (ic_ri ⟨by rw [if_neg (by omega)], w, rfl, Fn.rf w, by rw [if_neg (by omega)]; exact hC⟩)
    · refine xx_iload_n (pc := 19) dX11_report_19 3 rfl rfl ?_
      refine xx_if_ltS (pc := 20) 48 dX11_report_20 rfl (by omega) (fun c5 => ?_) (fun c5 => ?_)
      · refine xx_iconst (pc := 48) dX11_report_48 cc_iconst_0 ?_
        refine xx_istore (L' := [(5, .int (nI 0)), (0, ic_pt E 0), (1, .int (nI k)), (2, .int (nI a)), (3, .int (nI lo)), (4, .int (nI hi))]) (pc := 49) dX11_report_49 (Nat.le_of_ble_eq_true rfl) rfl ?_
        refine xx_iload (pc := 51) dX11_report_51 0 rfl ?_
        refine xx_if_neN (pc := 53) 58 dX11_report_53 rfl (by omega) (fun c6 => by exfalso; omega) (fun c6 => ?_)
        refine xx_iconst (pc := 56) dX11_report_56 cc_iconst_m1 ?_
        exact xx_iret (pc := 57) dX11_report_57 rfl (rfl) (Nat.le_refl _) (Nat.le_refl _) (ic_ri ⟨by rw [if_neg (by omega)], w, rfl, Fn.rf w, by rw [if_neg (by omega)]; exact hC⟩)
      · refine xx_iload (pc := 23) dX11_report_23 4 rfl ?_
        refine xx_iload_n (pc := 25) dX11_report_25 3 rfl rfl ?_
        refine xx_icmp_ltS (pc := 26) 48 dX11_report_26 rfl (by omega) (by omega) (fun c7 => ?_) (fun c7 => ?_)
        · refine xx_iconst (pc := 48) dX11_report_48 cc_iconst_0 ?_
          refine xx_istore (L' := [(5, .int (nI 0)), (0, ic_pt E 0), (1, .int (nI k)), (2, .int (nI a)), (3, .int (nI lo)), (4, .int (nI hi))]) (pc := 49) dX11_report_49 (Nat.le_of_ble_eq_true rfl) rfl ?_
          refine xx_iload (pc := 51) dX11_report_51 0 rfl ?_
          refine xx_if_neN (pc := 53) 58 dX11_report_53 rfl (by omega) (fun c8 => by exfalso; omega) (fun c8 => ?_)
          refine xx_iconst (pc := 56) dX11_report_56 cc_iconst_m1 ?_
          exact xx_iret (pc := 57) dX11_report_57 rfl (rfl) (Nat.le_refl _) (Nat.le_refl _) (ic_ri ⟨by rw [if_neg (by omega)], w, rfl, Fn.rf w, by rw [if_neg (by omega)]; exact hC⟩)
        · refine xx_iload (pc := 29) dX11_report_29 4 rfl ?_
          refine xx_iload_n (pc := 31) dX11_report_31 2 rfl rfl ?_
          refine xx_if_neN (pc := 32) 39 dX11_report_32 rfl (by omega) (fun c9 => ?_) (fun c9 => ?_)
          · refine xx_bipush (pc := 39) dX11_report_39 cc_bipush_99 ?_
            refine xx_icmp_gtN (pc := 41) 48 dX11_report_41 rfl (by omega) (by omega) (fun c10 => ?_) (fun c10 => ?_)
            · refine xx_iconst (pc := 48) dX11_report_48 cc_iconst_0 ?_
              refine xx_istore (L' := [(5, .int (nI 0)), (0, ic_pt E 0), (1, .int (nI k)), (2, .int (nI a)), (3, .int (nI lo)), (4, .int (nI hi))]) (pc := 49) dX11_report_49 (Nat.le_of_ble_eq_true rfl) rfl ?_
              refine xx_iload (pc := 51) dX11_report_51 0 rfl ?_
              refine xx_if_neN (pc := 53) 58 dX11_report_53 rfl (by omega) (fun c11 => by exfalso; omega) (fun c11 => ?_)
              refine xx_iconst (pc := 56) dX11_report_56 cc_iconst_m1 ?_
              exact xx_iret (pc := 57) dX11_report_57 rfl (rfl) (Nat.le_refl _) (Nat.le_refl _) (ic_ri ⟨by rw [if_neg (by omega)], w, rfl, Fn.rf w, by rw [if_neg (by omega)]; exact hC⟩)
            · refine xx_iconst (pc := 44) dX11_report_44 cc_iconst_1 ?_
              refine xx_goto (pc := 45) 49 dX11_report_45 rfl ?_
              refine xx_istore (L' := [(5, .int (nI 1)), (0, ic_pt E 0), (1, .int (nI k)), (2, .int (nI a)), (3, .int (nI lo)), (4, .int (nI hi))]) (pc := 49) dX11_report_49 (Nat.le_of_ble_eq_true rfl) rfl ?_
              refine xx_iload (pc := 51) dX11_report_51 0 rfl ?_
              refine xx_if_neN (pc := 53) 58 dX11_report_53 rfl (by omega) (fun c12 => ?_) (fun c12 => by exfalso; omega)
              refine xx_aload_nP (pc := 58) dX11_report_58 1 rfl rfl ?_
              refine xx_getR (pc := 59) 39 dX11_report_59 sh_0 fX11_74_11 rfl rfl (by decide) ?_
              refine xx_getR (pc := 62) 55 dX11_report_62 sh_39 fX11_286_5 rfl rfl (by decide) ?_
              refine xx_getN (pc := 65) dX11_report_65 sh_55 fX11_290_8 rfl ?_
              refine xx_bipush (pc := 68) dX11_report_68 cc_bipush_6 ?_
              refine xx_icmp_ltN (pc := 70) 76 dX11_report_70 rfl (by omega) (by omega) (fun c13 => ?_) (fun c13 => ?_)
              · refine xx_aload_nP (pc := 76) dX11_report_76 1 rfl rfl ?_
                refine xx_getR (pc := 77) 39 dX11_report_77 sh_0 fX11_74_11 rfl rfl (by decide) ?_
                refine xx_getR (pc := 80) 55 dX11_report_80 sh_39 fX11_286_5 rfl rfl (by decide) ?_
                refine xx_iload_n (pc := 83) dX11_report_83 2 rfl rfl ?_
                refine xx_iload_n (pc := 84) dX11_report_84 3 rfl rfl ?_
                refine xx_iload_n (pc := 85) dX11_report_85 4 rfl rfl ?_
                refine xx_iload (pc := 86) dX11_report_86 5 rfl ?_
                refine xx_callV0 (pc := 88) (st := []) sh_55 (cC_radd (w := w) (k := k) (a := a) (lo := lo) (hi := hi) (s := s) hC hIn (by omega)) kX8_add vX11_293_8 dX11_report_88 rfl rfl (Nat.le_of_ble_eq_true rfl) ⟨Nat.le_of_ble_eq_true rfl, Nat.le_of_ble_eq_true rfl⟩ ⟨Nat.zero_le _, Nat.zero_le _⟩ (ic_ki (fun v15 h_ qw14 => ?_))
                obtain ⟨rfl, w14, rfl, fw14, hC_w14⟩ := qw14
                exact xx_iret (pc := 91) dX11_report_91 rfl (rfl) (Nat.le_refl _) (Nat.le_refl _) (ic_ri ⟨by rw [if_pos (by omega), if_neg (by omega)], w14, rfl, fw14, by rw [if_pos (by omega)]; exact hC_w14⟩)
              · refine xx_bipush (pc := 73) dX11_report_73 cc_bipush_m2 ?_
                exact xx_iret (pc := 75) dX11_report_75 rfl (rfl) (Nat.le_refl _) (Nat.le_refl _) (ic_ri ⟨by rw [if_pos (by omega), if_pos (by omega)], w, rfl, Fn.rf w, by rw [if_neg (by omega)]; exact hC⟩)
          · refine xx_iconst (pc := 35) dX11_report_35 cc_iconst_5 ?_
            refine xx_goto (pc := 36) 41 dX11_report_36 rfl ?_
            refine xx_icmp_gtN (pc := 41) 48 dX11_report_41 rfl (by omega) (by omega) (fun c16 => ?_) (fun c16 => ?_)
            · refine xx_iconst (pc := 48) dX11_report_48 cc_iconst_0 ?_
              refine xx_istore (L' := [(5, .int (nI 0)), (0, ic_pt E 0), (1, .int (nI k)), (2, .int (nI a)), (3, .int (nI lo)), (4, .int (nI hi))]) (pc := 49) dX11_report_49 (Nat.le_of_ble_eq_true rfl) rfl ?_
              refine xx_iload (pc := 51) dX11_report_51 0 rfl ?_
              refine xx_if_neN (pc := 53) 58 dX11_report_53 rfl (by omega) (fun c17 => by exfalso; omega) (fun c17 => ?_)
              refine xx_iconst (pc := 56) dX11_report_56 cc_iconst_m1 ?_
              exact xx_iret (pc := 57) dX11_report_57 rfl (rfl) (Nat.le_refl _) (Nat.le_refl _) (ic_ri ⟨by rw [if_neg (by omega)], w, rfl, Fn.rf w, by rw [if_neg (by omega)]; exact hC⟩)
            · refine xx_iconst (pc := 44) dX11_report_44 cc_iconst_1 ?_
              refine xx_goto (pc := 45) 49 dX11_report_45 rfl ?_
              refine xx_istore (L' := [(5, .int (nI 1)), (0, ic_pt E 0), (1, .int (nI k)), (2, .int (nI a)), (3, .int (nI lo)), (4, .int (nI hi))]) (pc := 49) dX11_report_49 (Nat.le_of_ble_eq_true rfl) rfl ?_
              refine xx_iload (pc := 51) dX11_report_51 0 rfl ?_
              refine xx_if_neN (pc := 53) 58 dX11_report_53 rfl (by omega) (fun c18 => ?_) (fun c18 => by exfalso; omega)
              refine xx_aload_nP (pc := 58) dX11_report_58 1 rfl rfl ?_
              refine xx_getR (pc := 59) 39 dX11_report_59 sh_0 fX11_74_11 rfl rfl (by decide) ?_
              refine xx_getR (pc := 62) 55 dX11_report_62 sh_39 fX11_286_5 rfl rfl (by decide) ?_
              refine xx_getN (pc := 65) dX11_report_65 sh_55 fX11_290_8 rfl ?_
              refine xx_bipush (pc := 68) dX11_report_68 cc_bipush_6 ?_
              refine xx_icmp_ltN (pc := 70) 76 dX11_report_70 rfl (by omega) (by omega) (fun c19 => ?_) (fun c19 => ?_)
              · refine xx_aload_nP (pc := 76) dX11_report_76 1 rfl rfl ?_
                refine xx_getR (pc := 77) 39 dX11_report_77 sh_0 fX11_74_11 rfl rfl (by decide) ?_
                refine xx_getR (pc := 80) 55 dX11_report_80 sh_39 fX11_286_5 rfl rfl (by decide) ?_
                refine xx_iload_n (pc := 83) dX11_report_83 2 rfl rfl ?_
                refine xx_iload_n (pc := 84) dX11_report_84 3 rfl rfl ?_
                refine xx_iload_n (pc := 85) dX11_report_85 4 rfl rfl ?_
                refine xx_iload (pc := 86) dX11_report_86 5 rfl ?_
                refine xx_callV0 (pc := 88) (st := []) sh_55 (cC_radd (w := w) (k := k) (a := a) (lo := lo) (hi := hi) (s := s) hC hIn (by omega)) kX8_add vX11_293_8 dX11_report_88 rfl rfl (Nat.le_of_ble_eq_true rfl) ⟨Nat.le_of_ble_eq_true rfl, Nat.le_of_ble_eq_true rfl⟩ ⟨Nat.zero_le _, Nat.zero_le _⟩ (ic_ki (fun v21 h_ qw20 => ?_))
                obtain ⟨rfl, w20, rfl, fw20, hC_w20⟩ := qw20
                exact xx_iret (pc := 91) dX11_report_91 rfl (rfl) (Nat.le_refl _) (Nat.le_refl _) (ic_ri ⟨by rw [if_pos (by omega), if_neg (by omega)], w20, rfl, fw20, by rw [if_pos (by omega)]; exact hC_w20⟩)
              · refine xx_bipush (pc := 73) dX11_report_73 cc_bipush_m2 ?_
                exact xx_iret (pc := 75) dX11_report_75 rfl (rfl) (Nat.le_refl _) (Nat.le_refl _) (ic_ri ⟨by rw [if_pos (by omega), if_pos (by omega)], w, rfl, Fn.rf w, by rw [if_neg (by omega)]; exact hC⟩)

set_option maxHeartbeats 4000000 in
set_option maxRecDepth 100000 in
theorem cC_forget {l : Launch} {E : ic_E} {w : ic_w} {s : Nat → Nat} (hC : Cw w s) (hIn : In s) : ic_C l E mX11_forget 1 0 0 False [ic_pt E 0] SHs (hn w) SHs (ic_qi (fun v_ h_ => v_ = nI (s 6) ∧ ∃ w2, h_ = hn w2 ∧ Fn w w2 ∧ Cw w2 (fu s 6 0))) := by
  refine ic_intro (by decide +kernel) (Nat.le_of_ble_eq_true rfl) ?_
  show xx l E _ _ 0 [(0, ic_pt E 0)] _ _ _
  have hN := hC.1
  have hm := hC.2.1
  have n5_w := hC.2.2.1
  have n6_w := hC.2.2.2
  have hn0 := hIn.n
  have htt := hIn.t
  have hcr := hIn.cr (s 1)
  have n1_w : w 39 10 = s 0 := hN.n
  have n2_w : w 39 11 = s 2 := hN.e
  have n3_w : w 46 0 = s 1 := hm.t
  have n4_w : w 46 1 = mo_outs s := hm.o
  have h55 : w 55 0 = s 6 := hN.q.1
  have hc6 := hIn.2.2.1
  refine xx_aload_nP (pc := 0) dX11_forget_0 0 rfl rfl ?_
  refine xx_getR (pc := 1) 39 dX11_forget_1 sh_0 fX11_74_11 rfl rfl (by decide) ?_
  refine xx_getR (pc := 4) 55 dX11_forget_4 sh_39 fX11_286_5 rfl rfl (by decide) ?_
  refine xx_getN (pc := 7) dX11_forget_7 sh_55 fX11_290_8 rfl ?_
  refine xx_istore_n (L' := [(1, .int (nI (w 55 0))), (0, ic_pt E 0)]) (pc := 10) dX11_forget_10 rfl (Nat.le_of_ble_eq_true rfl) rfl ?_
  refine xx_aload_nP (pc := 11) dX11_forget_11 1 rfl rfl ?_
  refine xx_getR (pc := 12) 39 dX11_forget_12 sh_0 fX11_74_11 rfl rfl (by decide) ?_
  refine xx_getR (pc := 15) 55 dX11_forget_15 sh_39 fX11_286_5 rfl rfl (by decide) ?_
  refine xx_iconst (pc := 18) dX11_forget_18 cc_iconst_0 ?_
  refine xx_putN (pc := 19) dX11_forget_19 sh_55 fX11_290_8 rfl rfl ?_
  refine xx_nw (fun w1 ew1 => ?_)
  refine xx_iload_n (pc := 22) dX11_forget_22 0 rfl rfl ?_
  exact xx_iret (pc := 23) dX11_forget_23 rfl (rfl) (Nat.le_refl _) (Nat.le_refl _) (ic_ri ⟨by rw [h55], w1, rfl, fun a ha => by rw [ew1, wu_row _ _ _ (by omega)], by rw [ew1]; exact hC.forget hIn⟩)

set_option maxHeartbeats 4000000 in
set_option maxRecDepth 100000 in
theorem cC_follow {l : Launch} {E : ic_E} {w : ic_w} {kd : Nat} {s : Nat → Nat} (hN : Cn w s) (hIn : In s) (hkd : 1 ≤ kd ∧ kd ≤ 5) (h63 : w 63 0 = 0) (h64 : w 64 0 = 0) : ic_C l E mX8_follow 4 0 0 False [ic_pt E 55, ic_pt E 39, .int (nI kd)] SHs (hn w) SHs (ic_qv (fun h_ => ∃ w2, h_ = hn w2 ∧ (∀ a, a ≠ 63 → a ≠ 64 → w2 a = w a) ∧ w2 63 0 = 0 ∧ w2 64 0 = 0 ∧ ∀ j, j ≤ 15 → w2 63 j = cl_sk s kd j ∧ w2 64 j = cl_dr kd j)) := by
  refine ic_intro (by decide +kernel) (Nat.le_of_ble_eq_true rfl) ?_
  show xx l E _ _ 0 [(0, ic_pt E 55), (1, ic_pt E 39), (2, .int (nI kd))] _ _ _
  have lp : ∀ (n_ : Nat) (k : Nat) (u : ic_w), k ≤ 15 → (∀ a, a ≠ 63 → a ≠ 64 → u a = w a) → (∀ j, j ≤ k → u 63 j = cl_sk s kd j ∧ u 64 j = cl_dr kd j) → 15 - k < n_ → xx l E (ic_fr E mX8_follow 4 0 0 False SHs (ic_qv (fun h_ => ∃ w2, h_ = hn w2 ∧ (∀ a, a ≠ 63 → a ≠ 64 → w2 a = w a) ∧ w2 63 0 = 0 ∧ w2 64 0 = 0 ∧ ∀ j, j ≤ 15 → w2 63 j = cl_sk s kd j ∧ w2 64 j = cl_dr kd j))) (0, 0) 2 [(3, .int (nI k)), (0, ic_pt E 55), (1, ic_pt E 39), (2, .int (nI kd))] [] SHs (hn u) := by
    intro n_
    induction n_ with
    | zero => intro k u hk hf hd hm_; exact absurd hm_ (Nat.not_lt_zero _)
    | succ n_ ih_ =>
      intro k u hk hf hd hm_
      have hN_u : Cn u s := hN.of (by rw [hf _ (by omega) (by omega)]) (by rw [hf _ (by omega) (by omega)]) (by rw [hf _ (by omega) (by omega)]) (fun a _ _ _ _ _ _ _ _ => hf a (by omega) (by omega))
      have hcrk := hIn.cr k
      have hdk := hd k (by omega)
      refine xx_iload_n (pc := 2) dX8_follow_2 0 rfl rfl ?_
      refine xx_bipush (pc := 3) dX8_follow_3 cc_bipush_15 ?_
      refine xx_icmp_geN (pc := 5) 79 dX8_follow_5 rfl (by omega) (by omega) (fun c1 => ?_) (fun c1 => ?_)
      · exact xx_vret (pc := 79) dX8_follow_79 rfl (Nat.le_refl _) (Nat.le_refl _) (ic_rv0 ⟨u, rfl, hf, (hd 0 (by omega)).1, (hd 0 (by omega)).2, fun j hj => hd j (by omega)⟩)
      · refine xx_aload_nP (pc := 8) dX8_follow_8 2 rfl rfl ?_
        refine xx_iload_n (pc := 9) dX8_follow_9 0 rfl rfl ?_
        refine xx_callV0 (pc := 10) (st := []) sh_39 (cC_crowdOf (w := u) (t := k) (s := s) (by omega) hN_u) kX5_crowdOf vX8_47_5 dX8_follow_10 rfl rfl (Nat.le_of_ble_eq_true rfl) ⟨Nat.le_of_ble_eq_true rfl, Nat.le_of_ble_eq_true rfl⟩ ⟨Nat.zero_le _, Nat.zero_le _⟩ (ic_ke ?_)
        refine xx_istore (L' := [(4, .int (nI (mo_crowd s k))), (3, .int (nI k)), (0, ic_pt E 55), (1, ic_pt E 39), (2, .int (nI kd))]) (pc := 13) dX8_follow_13 (Nat.le_of_ble_eq_true rfl) rfl ?_
        refine xx_aload_nP (pc := 15) dX8_follow_15 2 rfl rfl ?_
        refine xx_getR (pc := 16) 63 dX8_follow_16 sh_55 fX8_16_8 rfl rfl (by decide) ?_
        refine xx_iload_n (pc := 19) dX8_follow_19 1 rfl rfl ?_
        refine xx_iconst (pc := 20) dX8_follow_20 cc_iconst_1 ?_
        refine xx_iaddN (pc := 21) dX8_follow_21 ?_
        refine xx_aload_nP (pc := 22) dX8_follow_22 2 rfl rfl ?_
        refine xx_getR (pc := 23) 63 dX8_follow_23 sh_55 fX8_16_8 rfl rfl (by decide) ?_
        refine xx_iload_n (pc := 26) dX8_follow_26 1 rfl rfl ?_
        refine xx_ialdN (pc := 27) dX8_follow_27 sh_63 (by omega) (by decide) ?_
        refine xx_aload_nP (pc := 28) dX8_follow_28 3 rfl rfl ?_
        refine xx_getR (pc := 29) 26 dX8_follow_29 sh_39 fX8_53_5 rfl rfl (by decide) ?_
        refine xx_iload_n (pc := 32) dX8_follow_32 4 rfl rfl ?_
        refine xx_aald (pc := 33) kd (27 + 2 * (kd)) dX8_follow_33 sh_26 (by decide) rfl (by omega) (by decide) (kn_at hkd.2) ?_
        refine xx_iload (pc := 34) dX8_follow_34 0 rfl ?_
        refine xx_iconst (pc := 36) dX8_follow_36 cc_iconst_2 ?_
        refine xx_ishrN (pc := 37) dX8_follow_37 (by omega) (by omega) ?_
        refine xx_iload (pc := 38) dX8_follow_38 0 rfl ?_
        refine xx_iconst (pc := 40) dX8_follow_40 cc_iconst_3 ?_
        refine xx_iandN (pc := 41) dX8_follow_41 ?_
        refine xx_iconst (pc := 42) dX8_follow_42 cc_iconst_0 ?_
        refine xx_sinks8 (pc := 43) (st := [.int (nI (u 63 k)), .int (nI (k + 1)), ic_pt E 63]) (kd := (kd)) (r := (mo_crowd s k) / 2 ^ 2) (lm := (mo_crowd s k) &&& 3) (q := 0) (by omega) (by have := Nat.and_le_right (n := mo_crowd s k) (m := 3); omega) (by omega) rfl rfl hkd dX8_follow_43 (Nat.le_of_ble_eq_true rfl) ⟨Nat.le_of_ble_eq_true rfl, Nat.le_of_ble_eq_true rfl⟩ ⟨Nat.zero_le _, Nat.zero_le _⟩ ?_
        refine xx_eqI (y := nI (mo_sinks (kd) (mo_crowd s k) 0)) (by rw [mo_cr4]) ?_
        refine xx_iaddN (pc := 46) dX8_follow_46 ?_
        refine xx_iastE (j2 := 1 + k) (pc := 47) dX8_follow_47 sh_63 (by omega) (by omega) (by decide) ?_
        refine xx_nw (fun w2 ew2 => ?_)
        have x64 : w2 64 k = cl_dr kd k := by rw [ew2, wu_o _ _ _ _ (by omega)]; exact (hd k (by omega)).2
        refine xx_aload_nP (pc := 48) dX8_follow_48 2 rfl rfl ?_
        refine xx_getR (pc := 49) 64 dX8_follow_49 sh_55 fX8_20_8 rfl rfl (by decide) ?_
        refine xx_iload_n (pc := 52) dX8_follow_52 1 rfl rfl ?_
        refine xx_iconst (pc := 53) dX8_follow_53 cc_iconst_1 ?_
        refine xx_iaddN (pc := 54) dX8_follow_54 ?_
        refine xx_aload_nP (pc := 55) dX8_follow_55 2 rfl rfl ?_
        refine xx_getR (pc := 56) 64 dX8_follow_56 sh_55 fX8_20_8 rfl rfl (by decide) ?_
        refine xx_iload_n (pc := 59) dX8_follow_59 1 rfl rfl ?_
        refine xx_ialdN (pc := 60) dX8_follow_60 sh_64 (by omega) (by decide) ?_
        refine xx_aload_nP (pc := 61) dX8_follow_61 3 rfl rfl ?_
        refine xx_getR (pc := 62) 26 dX8_follow_62 sh_39 fX8_53_5 rfl rfl (by decide) ?_
        refine xx_iload_n (pc := 65) dX8_follow_65 4 rfl rfl ?_
        refine xx_aald (pc := 66) kd (27 + 2 * (kd)) dX8_follow_66 sh_26 (by decide) rfl (by omega) (by decide) (kn_at hkd.2) ?_
        refine xx_iload_n (pc := 67) dX8_follow_67 1 rfl rfl ?_
        refine xx_drifts8 (pc := 68) (st := [.int (nI (w2 64 k)), .int (nI (k + 1)), ic_pt E 64]) (kd := (kd)) (t := k) (by omega) rfl rfl hkd dX8_follow_68 (Nat.le_of_ble_eq_true rfl) ⟨Nat.le_of_ble_eq_true rfl, Nat.le_of_ble_eq_true rfl⟩ ⟨Nat.zero_le _, Nat.zero_le _⟩ ?_
        refine xx_iaddN (pc := 71) dX8_follow_71 ?_
        refine xx_iastE (j2 := 1 + k) (pc := 72) dX8_follow_72 sh_64 (by omega) (by omega) (by decide) ?_
        refine xx_nw (fun w3 ew3 => ?_)
        refine xx_iincN (L' := [(3, .int (nI (k + 1))), (4, .int (nI (mo_crowd s k))), (0, ic_pt E 55), (1, ic_pt E 39), (2, .int (nI kd))]) (pc := 73) dX8_follow_73 1 rfl cc_iconst_1 (Nat.le_of_ble_eq_true rfl) rfl ?_
        refine xx_goto (pc := 76) 2 dX8_follow_76 rfl ?_
        exact xx_sub [0, 2, 3, 4] rfl (ih_ (k + 1) w3 (by omega) (fun a h1 h2 => by rw [ew3, wu_row _ _ _ h2, ew2, wu_row _ _ _ h1]; exact hf a h1 h2) (fun j hj => by rw [ew3, ew2, show 1 + k = k + 1 by omega]; rcases (show j = k + 1 ∨ j ≤ k by omega) with z | z; exact ⟨by rw [z, wu_o _ _ _ _ (by omega), wu_s, hdk.1]; rfl, by rw [z, wu_s, wu_o _ _ _ _ (by omega), hdk.2]; rfl⟩; exact ⟨by rw [wu_o _ _ _ _ (by omega), wu_k _ _ _ _ (by omega)]; exact (hd j (by omega)).1, by rw [wu_k _ _ _ _ (by omega), wu_o _ _ _ _ (by omega)]; exact (hd j (by omega)).2⟩) (by omega))
  refine xx_iconst (pc := 0) dX8_follow_0 cc_iconst_0 ?_
  refine xx_istore_n (L' := [(3, .int (nI 0)), (0, ic_pt E 55), (1, ic_pt E 39), (2, .int (nI kd))]) (pc := 1) dX8_follow_1 rfl (Nat.le_of_ble_eq_true rfl) rfl ?_
  exact xx_sub [0, 1, 2, 3] rfl (lp 16 0 w (by omega) (fun _ _ _ => rfl) (fun j hj => by rw [show j = 0 by omega]; exact ⟨h63, h64⟩) (by omega))

