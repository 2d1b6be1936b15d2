/-! the reader of the rules: the word that comes -/
/-- the number read in k bytes from a -/
def tk_v (f : Nat → Nat) : Nat → Nat → Nat → Nat
  | 0, _, v => v
  | k + 1, a, v => tk_v f k (a + 1) (if 9999 < v then v else v * 10 + f a - 48)
def tk_a (f : Nat → Nat) (n a : Nat) : Nat := tk_s f (n - a) a
def tk_e (f : Nat → Nat) (n a : Nat) : Nat := if tk_k f n a = 0 then a else if tk_k f n a = 3 then a + 1 else tk_r f (tk_k f n a) (n - a) a
def tk_n (f : Nat → Nat) (n a : Nat) : Nat := if tk_k f n a = 2 then tk_v f (tk_e f n a - a) a 0 else 0
theorem tk_v_s (f : Nat → Nat) : ∀ (k a v : Nat), tk_v f (k + 1) a v = if 9999 < tk_v f k a v then tk_v f k a v else tk_v f k a v * 10 + f (a + k) - 48 := by
  intro k
  induction k with
  | zero => intro a v; rfl
  | succ k ih =>
    intro a v
    have h := ih (a + 1) (if 9999 < v then v else v * 10 + f a - 48)
    rw [show a + 1 + k = a + (k + 1) by omega] at h
    exact h
theorem tk_s_go {f : Nat → Nat} {n a : Nat} (h : a < n) (z : f a = 32) : tk_s f (n - a) a = tk_s f (n - (a + 1)) (a + 1) := by
  rw [show n - a = (n - (a + 1)) + 1 by omega, tk_s, if_pos z]
theorem tk_s_at {f : Nat → Nat} {n a : Nat} (z : ¬ (a < n ∧ f a = 32)) : tk_s f (n - a) a = a := by
  by_cases h : a < n
  · rw [show n - a = (n - (a + 1)) + 1 by omega, tk_s, if_neg (by omega)]
  · rw [show n - a = 0 by omega]
    rfl
theorem tk_r_go {f : Nat → Nat} {n a t : Nat} (h : a < n) (z : tk_c (f a) = t) : tk_r f t (n - a) a = tk_r f t (n - (a + 1)) (a + 1) := by
  rw [show n - a = (n - (a + 1)) + 1 by omega, tk_r, if_pos z]
theorem tk_r_at {f : Nat → Nat} {n a t : Nat} (z : ¬ (a < n ∧ tk_c (f a) = t)) : tk_r f t (n - a) a = a := by
  by_cases h : a < n
  · rw [show n - a = (n - (a + 1)) + 1 by omega, tk_r, if_neg (fun y => z ⟨h, y⟩)]
  · rw [show n - a = 0 by omega]
    rfl
theorem tk_b_at {f : Nat → Nat} {n a : Nat} (h : tk_b f n a ≠ 4294967295) : a < n ∧ tk_b f n a = f a := by
  unfold tk_b at h ⊢
  by_cases z : a < n
  · rw [if_pos z]
    exact ⟨z, rfl⟩
  · rw [if_neg z] at h
    exact absurd rfl h
theorem tk_c_1 {v : Nat} : tk_c v = 1 ↔ (97 ≤ v ∧ v ≤ 122) := by
  unfold tk_c
  split
  · simp [*]
  · split <;> simp [*]
theorem tk_c_2 {v : Nat} : tk_c v = 2 ↔ (48 ≤ v ∧ v ≤ 57) := by
  unfold tk_c
  split
  · constructor
    · intro h; omega
    · intro h; omega
  · split <;> simp [*]
theorem tk_c_le (v : Nat) : 1 ≤ tk_c v ∧ tk_c v ≤ 3 := by
  unfold tk_c
  split
  · omega
  · split <;> omega
