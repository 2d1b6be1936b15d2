/-! the reader of the rules: on, if it is so -/
/-- 114 stands before the word that begins at a in the text f of n bytes -/
def Tz (w : ic_w) (f : Nat → Nat) (n a : Nat) : Prop := Tx w f n ∧ a ≤ n ∧ w 114 6 = tk_k f n a ∧ w 114 7 = a ∧ w 114 8 = tk_e f n a ∧ w 114 9 = tk_n f n a
theorem tk_s_le {f : Nat → Nat} : ∀ (k a : Nat), a ≤ tk_s f k a ∧ tk_s f k a ≤ a + k := by
  intro k
  induction k with
  | zero => intro a; exact ⟨Nat.le_refl _, Nat.le_refl _⟩
  | succ k ih =>
    intro a
    unfold tk_s
    have := ih (a + 1)
    split <;> omega
theorem tk_r_le {f : Nat → Nat} {t : Nat} : ∀ (k a : Nat), a ≤ tk_r f t k a ∧ tk_r f t k a ≤ a + k := by
  intro k
  induction k with
  | zero => intro a; exact ⟨Nat.le_refl _, Nat.le_refl _⟩
  | succ k ih =>
    intro a
    unfold tk_r
    have := ih (a + 1)
    split <;> omega
theorem tk_k_le (f : Nat → Nat) (n a : Nat) : tk_k f n a ≤ 3 ∧ (a < n ↔ tk_k f n a ≠ 0) := by
  unfold tk_k
  have := tk_c_le (f a)
  split
  · exact ⟨this.2, by omega⟩
  · omega
theorem tk_e_le {f : Nat → Nat} {n a : Nat} (h : a ≤ n) : a ≤ tk_e f n a ∧ tk_e f n a ≤ n ∧ (tk_k f n a ≠ 0 → a < tk_e f n a) := by
  have k := tk_k_le f n a
  unfold tk_e
  have r := tk_r_le (f := f) (t := tk_k f n a) (n - a) a
  split
  · omega
  · split
    · omega
    · have hl : a < n := by omega
      have ha : tk_c (f a) = tk_k f n a := by
        unfold tk_k
        rw [if_pos hl]
      have g := tk_r_go hl ha
      have r2 := tk_r_le (f := f) (t := tk_k f n a) (n - (a + 1)) (a + 1)
      omega
def tk_z (f : Nat → Nat) (n a : Nat) : Nat := tk_a f n (tk_e f n a)
theorem tk_z_le {f : Nat → Nat} {n a : Nat} (h : a ≤ n) : a ≤ tk_z f n a ∧ tk_z f n a ≤ n ∧ (tk_k f n a ≠ 0 → a < tk_z f n a) := by
  have e := tk_e_le (f := f) h
  have s := tk_s_le (f := f) (n - tk_e f n a) (tk_e f n a)
  unfold tk_z tk_a
  omega
theorem Tz.next {w u : ic_w} {f : Nat → Nat} {n a : Nat} (h : Tz w f n a) (r : ∀ a, a ≠ 114 → u a = w a) (k : ∀ j, j ≠ 6 → j ≠ 7 → j ≠ 8 → j ≠ 9 → u 114 j = w 114 j) (e6 : u 114 6 = tk_k f n (tk_a f n (w 114 8))) (e7 : u 114 7 = tk_a f n (w 114 8)) (e8 : u 114 8 = tk_e f n (tk_a f n (w 114 8))) (e9 : u 114 9 = tk_n f n (tk_a f n (w 114 8))) : Tz u f n (tk_z f n a) := by
  rw [h.2.2.2.2.1] at e6 e7 e8 e9
  exact ⟨h.1.of (k 5 (by omega) (by omega) (by omega) (by omega)) (r 118 (by omega)), (tk_z_le h.2.1).2.1, e6, e7, e8, e9⟩
