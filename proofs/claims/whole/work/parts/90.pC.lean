/-! the reader of the rules: on, if it is so -/
/-- 114 stands before the word that begins at a in the text f of n bytes -/
def Tz (w : ic_w) (f : Nat → Nat) (n a : Nat) : Prop := Tx w f n ∧ a ≤ n ∧ w 114 6 = tk_k f n a ∧ w 114 7 = a ∧ w 114 8 = tk_e f n a ∧ w 114 9 = tk_n f n a
theorem tk_s_le {f : Nat → Nat} : ∀ (k a : Nat), a ≤ tk_s f k a ∧ tk_s f k a ≤ a + k := by
  intro k
  induction k with
  | zero => intro a; exact ⟨Nat.le_refl _, Nat.le_refl _⟩
  | succ k ih =>
    intro a
    unfold tk_s
    have := ih (a + 1)
    split <;> omega
theorem tk_r_le {f : Nat → Nat} {t : Nat} : ∀ (k a : Nat), a ≤ tk_r f t k a ∧ tk_r f t k a ≤ a + k := by
  intro k
  induction k with
  | zero => intro a; exact ⟨Nat.le_refl _, Nat.le_refl _⟩
  | succ k ih =>
    intro a
    unfold tk_r
    have := ih (a + 1)
    split <;> omega
theorem tk_k_le (f : Nat → Nat) (n a : Nat) : tk_k f n a ≤ 3 ∧ (a < n ↔ tk_k f n a ≠ 0) := by
  unfold tk_k
  have := tk_c_le (f a)
  split
  · exact ⟨this.2, by omega⟩
  · omega
theorem tk_e_le {f : Nat → Nat} {n a : Nat} (h : a ≤ n) : a ≤ tk_e f n a ∧ tk_e f n a ≤ n ∧ (tk_k f n a ≠ 0 → a < tk_e f n a) := by
  have k := tk_k_le f n a
  unfold tk_e
  have r := tk_r_le (f := f) (t := tk_k f n a) (n - a) a
  split
  · omega
  · split
    · omega
    · have hl : a < n := by omega
      have ha : tk_c (f a) = tk_k f n a := by
        unfold tk_k
        rw [if_pos hl]
      have g := tk_r_go hl ha
      have r2 := tk_r_le (f := f) (t := tk_k f n a) (n - (a + 1)) (a + 1)
      omega
def tk_z (f : Nat → Nat) (n a : Nat) : Nat := tk_a f n (tk_e f n a)
theorem tk_z_le {f : Nat → Nat} {n a : Nat} (h : a ≤ n) : a ≤ tk_z f n a ∧ tk_z f n a ≤ n ∧ (tk_k f n a ≠ 0 → a < tk_z f n a) := by
  have e := tk_e_le (f := f) h
  have s := tk_s_le (f := f) (n - tk_e f n a) (tk_e f n a)
  unfold tk_z tk_a
  omega
theorem Tz.next {w u : ic_w} {f : Nat → Nat} {n a : Nat} (h : Tz w f n a) (r : ∀ a, a ≠ 114 → u a = w a) (k : ∀ j, j ≠ 6 → j ≠ 7 → j ≠ 8 → j ≠ 9 → u 114 j = w 114 j) (e6 : u 114 6 = tk_k f n (tk_a f n (w 114 8))) (e7 : u 114 7 = tk_a f n (w 114 8)) (e8 : u 114 8 = tk_e f n (tk_a f n (w 114 8))) (e9 : u 114 9 = tk_n f n (tk_a f n (w 114 8))) : Tz u f n (tk_z f n a) := by
  rw [h.2.2.2.2.1] at e6 e7 e8 e9
  exact ⟨h.1.of (k 5 (by omega) (by omega) (by omega) (by omega)) (r 118 (by omega)), (tk_z_le h.2.1).2.1, e6, e7, e8, e9⟩
theorem Tz.of {w u : ic_w} {f : Nat → Nat} {n a : Nat} (h : Tz w f n a) (e : ∀ j, 5 ≤ j → j ≤ 9 → u 114 j = w 114 j) (r : u 118 = w 118) : Tz u f n a := by
  obtain ⟨h1, h2, h3, h4, h5, h6⟩ := h
  exact ⟨h1.of (e 5 (by omega) (by omega)) r, h2, (e 6 (by omega) (by omega)).trans h3, (e 7 (by omega) (by omega)).trans h4, (e 8 (by omega) (by omega)).trans h5, (e 9 (by omega) (by omega)).trans h6⟩
theorem Tz.b {w : ic_w} {f : Nat → Nat} {n a : Nat} (h : Tz w f n a) : w 114 7 ≤ 200 ∧ w 114 8 ≤ n ∧ w 114 8 ≤ 201 ∧ w 114 6 ≤ 3 ∧ w 114 7 ≤ w 114 8 ∧ n ≤ 200 := by
  obtain ⟨h1, h2, h3, h4, h5, h6⟩ := h
  have e := tk_e_le (f := f) h2
  have k := tk_k_le f n a
  have n2 := h1.2.1
  omega
/-- only the reader's fields 6 to 10 differ -/
def Fw (w u : ic_w) : Prop := (∀ a, a ≠ 114 → u a = w a) ∧ ∀ j, j < 6 ∨ 10 < j → u 114 j = w 114 j
theorem Fw.tr {w u v : ic_w} (h : Fw w u) (g : Fw u v) : Fw w v := ⟨fun a ha => (g.1 a ha).trans (h.1 a ha), fun j hj => (g.2 j hj).trans (h.2 j hj)⟩
set_option maxHeartbeats 4000000 in
set_option maxRecDepth 100000 in
theorem cM_needs {l : Launch} {E : ic_E} {w : ic_w} {b : Nat} (hb : b ≤ 1) (h10 : w 114 10 ≤ 1) {f : Nat → Nat} {n a : Nat} (hz : Tz w f n a) : ic_C l E mX12_needs 4 0 0 False [ic_pt E 114, .int (nI b)] SHs (hn w) SHs (ic_qv (fun h_ => ∃ w2, h_ = hn w2 ∧ Fw w w2 ∧ Tz w2 f n (if w 114 10 = 0 ∧ b ≠ 0 then tk_z f n a else a) ∧ w2 114 10 = if w 114 10 = 0 ∧ b ≠ 0 then 0 else 1)) := by
  refine ic_intro (by decide +kernel) (Nat.le_of_ble_eq_true rfl) ?_
  show xx l E _ _ 0 [(0, ic_pt E 114), (1, .int (nI b))] _ _ _
  refine xx_aload_nP (pc := 0) dX12_needs_0 0 rfl rfl ?_
  refine xx_aload_nP (pc := 1) dX12_needs_1 0 rfl rfl ?_
  refine xx_getN (pc := 2) dX12_needs_2 sh_114 fX12_180_12 rfl ?_
  refine xx_if_neN (pc := 5) 12 dX12_needs_5 rfl (by omega) (fun c1 => ?_) (fun c1 => ?_)
  · refine xx_iconst (pc := 12) dX12_needs_12 cc_iconst_1 ?_
    refine xx_goto (pc := 13) 17 dX12_needs_13 rfl ?_
    refine xx_putB (pc := 17) dX12_needs_17 sh_114 fX12_180_12 rfl rfl (by omega) ?_
    refine xx_nw (fun w2 ew2 => ?_)
    have v_w2 : w2 114 10 = 1 := by rw [ew2, wu_s]
    have z_w2 : Tz w2 f n a := hz.of (fun j h1 h2 => by rw [ew2, wu_k _ _ _ _ (by omega)]) (by rw [ew2, wu_row _ _ _ (by omega)])
    have x_w2 : Fw w w2 := ⟨fun a h => by rw [ew2, wu_row _ _ _ h], fun j h => by rw [ew2, wu_k _ _ _ _ (by omega)]⟩
    refine xx_aload_nP (pc := 20) dX12_needs_20 0 rfl rfl ?_
    refine xx_getN (pc := 21) dX12_needs_21 sh_114 fX12_180_12 rfl ?_
    refine xx_eqI (y := nI (1)) (by rw [v_w2]) ?_
    refine xx_if_neN (pc := 24) 31 dX12_needs_24 rfl (by omega) (fun c3 => ?_) (fun c3 => by exfalso; omega)
    exact xx_vret (pc := 31) dX12_needs_31 rfl (Nat.le_refl _) (Nat.le_refl _) (ic_rv0 ⟨w2, rfl, x_w2, by rw [if_neg (by omega)]; exact z_w2, by rw [if_neg (by omega)]; exact v_w2⟩)
  · refine xx_iload_n (pc := 8) dX12_needs_8 1 rfl rfl ?_
    refine xx_if_neN (pc := 9) 16 dX12_needs_9 rfl (by omega) (fun c4 => ?_) (fun c4 => ?_)
    · refine xx_iconst (pc := 16) dX12_needs_16 cc_iconst_0 ?_
      refine xx_putB (pc := 17) dX12_needs_17 sh_114 fX12_180_12 rfl rfl (by omega) ?_
      refine xx_nw (fun w5 ew5 => ?_)
      have v_w5 : w5 114 10 = 0 := by rw [ew5, wu_s]
      have z_w5 : Tz w5 f n a := hz.of (fun j h1 h2 => by rw [ew5, wu_k _ _ _ _ (by omega)]) (by rw [ew5, wu_row _ _ _ (by omega)])
      have x_w5 : Fw w w5 := ⟨fun a h => by rw [ew5, wu_row _ _ _ h], fun j h => by rw [ew5, wu_k _ _ _ _ (by omega)]⟩
      refine xx_aload_nP (pc := 20) dX12_needs_20 0 rfl rfl ?_
      refine xx_getN (pc := 21) dX12_needs_21 sh_114 fX12_180_12 rfl ?_
      refine xx_eqI (y := nI (0)) (by rw [v_w5]) ?_
      refine xx_if_neN (pc := 24) 31 dX12_needs_24 rfl (by omega) (fun c6 => by exfalso; omega) (fun c6 => ?_)
      refine xx_aload_nP (pc := 27) dX12_needs_27 0 rfl rfl ?_
      refine xx_callV0 (pc := 28) (st := []) sh_114 (cM_nextToken (w := w5) (f := f) (n := n) z_w5.1 z_w5.b.2.1) kX12_nextToken vX12_184_12 dX12_needs_28 rfl rfl (Nat.le_of_ble_eq_true rfl) ⟨Nat.le_of_ble_eq_true rfl, Nat.le_of_ble_eq_true rfl⟩ ⟨Nat.zero_le _, Nat.zero_le _⟩ (ic_kv (fun h_ qw7 => ?_))
      obtain ⟨w7, rfl, ⟨r_w7, k_w7⟩, e6_, e7_, e8_, e9_⟩ := qw7
      have z_w7 := z_w5.next r_w7 k_w7 e6_ e7_ e8_ e9_
      have y_w7 : Fw w5 w7 := ⟨r_w7, fun j hj => k_w7 j (by omega) (by omega) (by omega) (by omega)⟩
      have x_w7 := x_w5.tr y_w7
      exact xx_vret (pc := 31) dX12_needs_31 rfl (Nat.le_refl _) (Nat.le_refl _) (ic_rv0 ⟨w7, rfl, x_w7, by rw [if_pos (show w 114 10 = 0 ∧ b ≠ 0 by omega)]; exact z_w7, by rw [if_pos (show w 114 10 = 0 ∧ b ≠ 0 by omega)]; exact (k_w7 10 (by omega) (by omega) (by omega) (by omega)).trans v_w5⟩)
    · refine xx_iconst (pc := 12) dX12_needs_12 cc_iconst_1 ?_
      refine xx_goto (pc := 13) 17 dX12_needs_13 rfl ?_
      refine xx_putB (pc := 17) dX12_needs_17 sh_114 fX12_180_12 rfl rfl (by omega) ?_
      refine xx_nw (fun w9 ew9 => ?_)
      have v_w9 : w9 114 10 = 1 := by rw [ew9, wu_s]
      have z_w9 : Tz w9 f n a := hz.of (fun j h1 h2 => by rw [ew9, wu_k _ _ _ _ (by omega)]) (by rw [ew9, wu_row _ _ _ (by omega)])
      have x_w9 : Fw w w9 := ⟨fun a h => by rw [ew9, wu_row _ _ _ h], fun j h => by rw [ew9, wu_k _ _ _ _ (by omega)]⟩
      refine xx_aload_nP (pc := 20) dX12_needs_20 0 rfl rfl ?_
      refine xx_getN (pc := 21) dX12_needs_21 sh_114 fX12_180_12 rfl ?_
      refine xx_eqI (y := nI (1)) (by rw [v_w9]) ?_
      refine xx_if_neN (pc := 24) 31 dX12_needs_24 rfl (by omega) (fun c10 => ?_) (fun c10 => by exfalso; omega)
      exact xx_vret (pc := 31) dX12_needs_31 rfl (Nat.le_refl _) (Nat.le_refl _) (ic_rv0 ⟨w9, rfl, x_w9, by rw [if_neg (by omega)]; exact z_w9, by rw [if_neg (by omega)]; exact v_w9⟩)

