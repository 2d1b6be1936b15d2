/-! the grammar of the rules: what is read from a place on: 0 right, 1 wrong; the place behind it, or of the fault; the steps -/
abbrev tk_L : Type := List (Nat × Nat × Nat)
abbrev tk_P : Type := Nat × Nat × tk_L
def tk_bd (r : tk_P) (g : Nat → tk_P) : tk_P := if r.1 = 0 then ((g r.2.1).1, (g r.2.1).2.1, r.2.2 ++ (g r.2.1).2.2) else r
def tk_nd (f : Nat → Nat) (n b a : Nat) : tk_P := if b ≠ 0 then (0, tk_z f n a, []) else (1, a, [])
def tk_i (f : Nat → Nat) (n : Nat) (l : List Nat) (a : Nat) : Bool := tk_w f n (tk_k f n a) a (tk_e f n a) l
def tk_sg (f : Nat → Nat) (n a : Nat) : Nat := if tk_k f n a = 3 ∧ tk_b f n a = 60 then 0 else if tk_k f n a = 3 ∧ tk_b f n a = 61 then 1 else 2
def tk_sb (f : Nat → Nat) (n a : Nat) : Nat := if tk_k f n a = 3 ∧ (tk_b f n a = 60 ∨ tk_b f n a = 61 ∨ tk_b f n a = 62) then 1 else 0
def tk_cmp (f : Nat → Nat) (n a : Nat) : tk_P := tk_bd (tk_nd f n (tk_ov f n a) a) fun b => tk_bd (tk_nd f n (tk_sb f n b) b) fun c => tk_bd (tk_nd f n (tk_ov f n c) c) fun d => (0, d, [(tk_sg f n b, tk_val f n a, tk_val f n c)])
/-- behind the word not, so often as it stands; how often -/
def tk_nt (f : Nat → Nat) (n : Nat) : Nat → Nat → Nat × Nat
  | 0, a => (a, 0)
  | k + 1, a => if tk_i f n [110, 111, 116] a = true then ((tk_nt f n k (tk_z f n a)).1, (tk_nt f n k (tk_z f n a)).2 + 1) else (a, 0)
def tk_lp (f : Nat → Nat) (n : Nat) (l : List Nat) (g : Nat → tk_P) (x : Nat) : Nat → Nat → tk_P
  | 0, a => (0, a, [])
  | k + 1, a => if tk_i f n l a = true then tk_bd (g (tk_z f n a)) (fun b => ((tk_lp f n l g x k b).1, (tk_lp f n l g x k b).2.1, (x, 0, 0) :: (tk_lp f n l g x k b).2.2)) else (0, a, [])
def tk_all (f : Nat → Nat) (n : Nat) (g : Nat → tk_P) (a : Nat) : tk_P := tk_bd (g a) (tk_lp f n [97, 110, 100] g 4 200)
def tk_cnd (f : Nat → Nat) (n : Nat) (g : Nat → tk_P) (a : Nat) : tk_P := tk_bd (tk_all f n g a) (tk_lp f n [111, 114] (tk_all f n g) 5 200)
def tk_on (f : Nat → Nat) (n : Nat) (h : Nat → tk_P) (a : Nat) : tk_P :=
  tk_bd (if tk_k f n (tk_nt f n 200 a).1 = 3 ∧ tk_b f n (tk_nt f n 200 a).1 = 40 then h (tk_nt f n 200 a).1 else tk_cmp f n (tk_nt f n 200 a).1) (fun c => (0, c, if (tk_nt f n 200 a).2 % 2 = 1 then [(3, 0, 0)] else []))
def tk_op (f : Nat → Nat) (n : Nat) (g : Nat → tk_P) (b : Nat) : tk_P := tk_bd (tk_cnd f n g (tk_z f n b)) (fun c => tk_nd f n (ic_bo (tk_k f n c = 3 ∧ tk_b f n c = 41)) c)
/-- ONE, where d more signs of opening may stand within -/
def tk_one (f : Nat → Nat) (n : Nat) : Nat → Nat → tk_P
  | 0 => tk_on f n (fun b => (1, b, []))
  | d + 1 => tk_on f n (tk_op f n (tk_one f n d))
theorem tk_bd_0 {r : tk_P} {g : Nat → tk_P} (h : r.1 = 0) : tk_bd r g = ((g r.2.1).1, (g r.2.1).2.1, r.2.2 ++ (g r.2.1).2.2) := if_pos h
theorem tk_bd_1 {r : tk_P} {g : Nat → tk_P} (h : r.1 = 1) : tk_bd r g = r := if_neg (by omega)
theorem tk_bd_00 (c : Nat) (L K : tk_L) : tk_bd (0, c, L) (fun c => (0, c, K)) = (0, c, L ++ K) := rfl
theorem tk_bd_0c (c : Nat) (L : tk_L) (g : Nat → tk_P) : tk_bd (0, c, L) g = ((g c).1, (g c).2.1, L ++ (g c).2.2) := rfl
theorem tk_bd_00z (c : Nat) (g : Nat → tk_P) : tk_bd (0, c, []) g = g c := rfl
theorem tk_bd_11 (c : Nat) (L : tk_L) (g : Nat → tk_P) : tk_bd (1, c, L) g = (1, c, L) := rfl
theorem tk_P_0 {r : tk_P} (h : r.1 = 0) : r = (0, r.2.1, r.2.2) := Prod.ext h rfl
theorem tk_P_1 {r : tk_P} (h : r.1 = 1) : r = (1, r.2.1, r.2.2) := Prod.ext h rfl
theorem tk_nd_0 {f : Nat → Nat} {n b a : Nat} (h : b ≠ 0) : tk_nd f n b a = (0, tk_z f n a, []) := if_pos h
theorem tk_nd_1 {f : Nat → Nat} {n b a : Nat} (h : b = 0) : tk_nd f n b a = (1, a, []) := if_neg (by omega)
theorem tk_nt_t {f : Nat → Nat} {n k a : Nat} (h : tk_i f n [110, 111, 116] a = true) : tk_nt f n (k + 1) a = ((tk_nt f n k (tk_z f n a)).1, (tk_nt f n k (tk_z f n a)).2 + 1) := by rw [tk_nt, if_pos h]
theorem tk_nt_f {f : Nat → Nat} {n k a : Nat} (h : ¬ tk_i f n [110, 111, 116] a = true) : tk_nt f n k a = (a, 0) := by
  cases k with
  | zero => rfl
  | succ k => rw [tk_nt, if_neg h]
theorem tk_lp_t {f : Nat → Nat} {n k a x : Nat} {l : List Nat} {g : Nat → tk_P} (h : tk_i f n l a = true) : tk_lp f n l g x (k + 1) a = tk_bd (g (tk_z f n a)) (fun b => ((tk_lp f n l g x k b).1, (tk_lp f n l g x k b).2.1, (x, 0, 0) :: (tk_lp f n l g x k b).2.2)) := by rw [tk_lp, if_pos h]
theorem tk_lp_f {f : Nat → Nat} {n k a x : Nat} {l : List Nat} {g : Nat → tk_P} (h : ¬ tk_i f n l a = true) : tk_lp f n l g x k a = (0, a, []) := by
  cases k with
  | zero => rfl
  | succ k => rw [tk_lp, if_neg h]
theorem tk_i_k {f : Nat → Nat} {n a : Nat} {l : List Nat} (h : tk_i f n l a = true) : tk_k f n a = 1 ∧ tk_e f n a = a + l.length := by
  unfold tk_i tk_w at h
  rw [Bool.and_eq_true, Bool.and_eq_true, beq_iff_eq, beq_iff_eq] at h
  exact ⟨h.1, h.2.1⟩
/-- the next word begins so much farther on -/
theorem tk_i_z {f : Nat → Nat} {n a : Nat} {l : List Nat} (ha : a ≤ n) (h : tk_i f n l a = true) : a + l.length ≤ tk_z f n a ∧ tk_z f n a ≤ n := by
  have s := tk_s_le (f := f) (n - tk_e f n a) (tk_e f n a)
  have e := (tk_i_k h).2
  exact ⟨by unfold tk_z tk_a; omega, (tk_z_le ha).2.1⟩
theorem tk_k_z {f : Nat → Nat} {n a : Nat} (ha : a ≤ n) (h : tk_k f n a ≠ 0) : a + 1 ≤ tk_z f n a ∧ tk_z f n a ≤ n := ⟨(tk_z_le ha).2.2 h, (tk_z_le ha).2.1⟩
theorem tk_ft_k {f : Nat → Nat} {n t a e : Nat} (h : tk_ft f n t a e ≠ 4294967295) : t = 1 := by
  unfold tk_ft at h
  by_cases z : t = 1
  · exact z
  · rw [if_neg (fun y => z (wd_train.mp y).1), if_neg (fun y => z (wd_depth.mp y).1), if_neg (fun y => z (wd_wish.mp y).1), if_neg (fun y => z (wd_rush.mp y).1), if_neg (fun y => z (wd_number.mp y).1)] at h
    exact absurd rfl h
theorem tk_ov_le (f : Nat → Nat) (n a : Nat) : tk_ov f n a ≤ 1 := by
  unfold tk_ov
  split <;> omega
theorem tk_sb_le (f : Nat → Nat) (n a : Nat) : tk_sb f n a ≤ 1 := by
  unfold tk_sb
  split <;> omega
theorem tk_sg_le (f : Nat → Nat) (n a : Nat) : tk_sg f n a ≤ 2 := by
  unfold tk_sg
  repeat' split
  all_goals omega
theorem tk_ov_k {f : Nat → Nat} {n a : Nat} (h : tk_ov f n a ≠ 0) : tk_k f n a ≠ 0 := by
  intro z
  apply h
  unfold tk_ov
  rw [if_neg]
  intro y
  rcases y with y | y
  · have := tk_ft_k y
    omega
  · omega
theorem tk_sb_k {f : Nat → Nat} {n a : Nat} (h : tk_sb f n a ≠ 0) : tk_k f n a = 3 := by
  unfold tk_sb at h
  split at h
  · rename_i z
    exact z.1
  · exact absurd rfl h
/-! numbers of at most four digits -/
theorem tk_v_b {f : Nat → Nat} : ∀ (k a : Nat), (∀ j, j < k → 48 ≤ f (a + j) ∧ f (a + j) ≤ 57) → k ≤ 4 → tk_v f k a 0 + 1 ≤ 10 ^ k := by
  intro k
  induction k with
  | zero => intro a _ _; exact Nat.le_refl _
  | succ k ih =>
    intro a h hk
    have i := ih a (fun j hj => h j (by omega)) (by omega)
    have g := h k (by omega)
    have hp : 10 ^ k ≤ 10 ^ 3 := Nat.pow_le_pow_right (by omega) (by omega)
    rw [tk_v_s, if_neg (by omega), Nat.pow_succ]
    omega
theorem tk_r_in {f : Nat → Nat} {t : Nat} : ∀ (k a j : Nat), a ≤ j → j < tk_r f t k a → tk_c (f j) = t := by
  intro k
  induction k with
  | zero =>
    intro a j h1 h2
    have : tk_r f t 0 a = a := rfl
    omega
  | succ k ih =>
    intro a j h1 h2
    rw [tk_r] at h2
    by_cases z : tk_c (f a) = t
    · rw [if_pos z] at h2
      by_cases y : j = a
      · rw [y]; exact z
      · exact ih (a + 1) j (by omega) h2
    · rw [if_neg z] at h2
      omega
/-- a number's bytes are digits -/
theorem tk_dg {f : Nat → Nat} {n a : Nat} (hk : tk_k f n a = 2) : ∀ j, j < tk_e f n a - a → 48 ≤ f (a + j) ∧ f (a + j) ≤ 57 := by
  intro j hj
  unfold tk_e at hj
  rw [if_neg (by omega), if_neg (by omega), hk] at hj
  exact tk_c_2.mp (tk_r_in (n - a) a (a + j) (by omega) (by omega))
theorem tk_val_le {f : Nat → Nat} {n a : Nat} (h : tk_ov f n a ≠ 0) : tk_val f n a ≤ 10004 := by
  have hF := tk_F_le f n a
  unfold tk_val
  by_cases z : tk_F f n a = 4294967295
  · rw [if_pos z]
    unfold tk_ov at h
    by_cases y : tk_F f n a ≠ 4294967295 ∨ (tk_k f n a = 2 ∧ tk_e f n a - a ≤ 4)
    · rcases y with y | y
      · exact absurd z y
      · have b := tk_v_b (f := f) (tk_e f n a - a) a (tk_dg y.1) y.2
        have hp : 10 ^ (tk_e f n a - a) ≤ 10 ^ 4 := Nat.pow_le_pow_right (by omega) y.2
        unfold tk_n
        rw [if_pos y.1]
        omega
    · rw [if_neg y] at h
      exact absurd rfl h
  · rw [if_neg z]
    omega
/-! what such a reading keeps to -/
def tk_dp (x : Nat × Nat × Nat) (t : Nat) : Nat := if x.1 < 3 then t + 1 else if x.1 = 3 then t else t - 1
def tk_ds : tk_L → Nat → Nat
  | [], t => t
  | x :: L, t => tk_ds L (tk_dp x t)
def tk_mx : tk_L → Nat → Nat
  | [], t => t
  | x :: L, t => max t (tk_mx L (tk_dp x t))
theorem tk_ds_a (L M : tk_L) : ∀ t, tk_ds (L ++ M) t = tk_ds M (tk_ds L t) := by
  induction L with
  | nil => intro t; rfl
  | cons x L ih => intro t; exact ih _
theorem tk_mx_ge (L : tk_L) (t : Nat) : t ≤ tk_mx L t := by
  cases L with
  | nil => exact Nat.le_refl _
  | cons x L => exact Nat.le_max_left _ _
theorem tk_mx_a (L M : tk_L) : ∀ t, tk_mx (L ++ M) t = max (tk_mx L t) (tk_mx M (tk_ds L t)) := by
  induction L with
  | nil =>
    intro t
    have := tk_mx_ge M t
    show tk_mx M t = max t (tk_mx M t)
    omega
  | cons x L ih =>
    intro t
    show max t (tk_mx (L ++ M) (tk_dp x t)) = max (max t (tk_mx L (tk_dp x t))) (tk_mx M (tk_ds L (tk_dp x t)))
    rw [ih]
    omega
def tk_vs (L : tk_L) : Prop := ∀ x, x ∈ L → x.1 ≤ 5 ∧ x.2.1 ≤ 10004 ∧ x.2.2 ≤ 10004
/-- steps that leave c more (none, or one), at most B deep -/
def tk_G (B c : Nat) (L : tk_L) : Prop := tk_vs L ∧ ∀ t, tk_mx L t ≤ t + B ∧ tk_ds L t + 1 = t + c
theorem tk_G.app {B C c d : Nat} {L M : tk_L} (h : tk_G B (c + 1) L) (g : tk_G C (d + 1) M) : tk_G (max B (C + c)) (c + d + 1) (L ++ M) := by
  refine ⟨fun x hx => ?_, fun t => ?_⟩
  · rcases List.mem_append.mp hx with y | y
    · exact h.1 x y
    · exact g.1 x y
  · have h1 := h.2 t
    have g1 := g.2 (tk_ds L t)
    rw [tk_mx_a, tk_ds_a]
    omega
theorem tk_G.nil : tk_G 0 1 [] := ⟨fun x hx => absurd hx List.not_mem_nil, fun t => ⟨Nat.le_refl _, rfl⟩⟩
theorem tk_G.le {B C c : Nat} {L : tk_L} (h : tk_G B c L) (hb : B ≤ C) : tk_G C c L := ⟨h.1, fun t => ⟨Nat.le_trans (h.2 t).1 (by omega), (h.2 t).2⟩⟩
/-- what comes of a reading from a: where it may end, how long it may be, how deep -/
def tk_R (n B c a : Nat) (r : tk_P) : Prop := r.1 ≤ 1 ∧ a ≤ r.2.1 ∧ r.2.1 ≤ n ∧ (r.1 = 0 → 2 * r.2.2.length + a ≤ r.2.1 ∧ tk_G B (c + 1) r.2.2)
theorem tk_R.bd {n B C c d a : Nat} {r : tk_P} {g : Nat → tk_P} (h : tk_R n B c a r) (hg : r.1 = 0 → r.2.1 ≤ n → a ≤ r.2.1 → tk_R n C d r.2.1 (g r.2.1)) : tk_R n (max B (C + c)) (c + d) a (tk_bd r g) := by
  obtain ⟨h1, h2, h3, h4⟩ := h
  by_cases z : r.1 = 0
  · obtain ⟨g1, g2, g3, g4⟩ := hg z h3 h2
    obtain ⟨h5, h6⟩ := h4 z
    rw [tk_bd_0 z]
    refine ⟨g1, Nat.le_trans h2 g2, g3, fun y => ?_⟩
    obtain ⟨g5, g6⟩ := g4 y
    refine ⟨?_, h6.app g6⟩
    show 2 * (r.2.2 ++ (g r.2.1).2.2).length + a ≤ (g r.2.1).2.1
    rw [List.length_append]
    omega
  · rw [tk_bd_1 (by omega)]
    exact ⟨h1, h2, h3, fun y => absurd y z⟩
theorem tk_R.le {n B C c a : Nat} {r : tk_P} (h : tk_R n B c a r) (hb : B ≤ C) : tk_R n C c a r := ⟨h.1, h.2.1, h.2.2.1, fun z => ⟨(h.2.2.2 z).1, (h.2.2.2 z).2.le hb⟩⟩
theorem tk_R.nd {f : Nat → Nat} {n b a : Nat} (ha : a ≤ n) (h : b ≠ 0 → tk_k f n a ≠ 0) : tk_R n 0 0 a (tk_nd f n b a) := by
  by_cases z : b ≠ 0
  · rw [tk_nd_0 z]
    have := tk_k_z ha (h z)
    exact ⟨Nat.zero_le _, by show a ≤ tk_z f n a; omega, this.2, fun _ => ⟨by show 2 * 0 + a ≤ tk_z f n a; omega, tk_G.nil⟩⟩
  · rw [tk_nd_1 (by omega)]
    exact ⟨Nat.le_refl _, Nat.le_refl _, ha, fun y => absurd y Nat.one_ne_zero⟩
theorem tk_G.one {x y z : Nat} (h1 : x < 3) (h2 : y ≤ 10004) (h3 : z ≤ 10004) : tk_G 1 2 [(x, y, z)] := by
  refine ⟨fun p hp => ?_, fun t => ?_⟩
  · rw [List.mem_singleton.mp hp]
    exact ⟨by show x ≤ 5; omega, h2, h3⟩
  · have e : tk_dp (x, y, z) t = t + 1 := if_pos h1
    show max t (tk_dp (x, y, z) t) ≤ t + 1 ∧ tk_dp (x, y, z) t + 1 = t + 2
    rw [e]
    omega
theorem tk_G.not : tk_G 0 1 [(3, 0, 0)] := by
  refine ⟨fun p hp => ?_, fun t => ?_⟩
  · rw [List.mem_singleton.mp hp]
    exact ⟨by decide, by decide, by decide⟩
  · show max t t ≤ t + 0 ∧ t + 1 = t + 1
    omega
theorem tk_cmp_1 {f : Nat → Nat} {n a : Nat} (h : ¬ tk_ov f n a ≠ 0) : tk_cmp f n a = (1, a, []) := by
  unfold tk_cmp
  rw [tk_nd_1 (show tk_ov f n a = 0 by omega), tk_bd_11]
theorem tk_cmp_2 {f : Nat → Nat} {n a : Nat} (h : tk_ov f n a ≠ 0) (h2 : ¬ tk_sb f n (tk_z f n a) ≠ 0) : tk_cmp f n a = (1, tk_z f n a, []) := by
  unfold tk_cmp
  rw [tk_nd_0 h, tk_bd_00z, tk_nd_1 (show tk_sb f n (tk_z f n a) = 0 by omega), tk_bd_11]
theorem tk_cmp_3 {f : Nat → Nat} {n a : Nat} (h : tk_ov f n a ≠ 0) (h2 : tk_sb f n (tk_z f n a) ≠ 0) (h3 : ¬ tk_ov f n (tk_z f n (tk_z f n a)) ≠ 0) : tk_cmp f n a = (1, tk_z f n (tk_z f n a), []) := by
  unfold tk_cmp
  rw [tk_nd_0 h, tk_bd_00z, tk_nd_0 h2, tk_bd_00z, tk_nd_1 (show tk_ov f n (tk_z f n (tk_z f n a)) = 0 by omega), tk_bd_11]
theorem tk_cmp_0 {f : Nat → Nat} {n a : Nat} (h : tk_ov f n a ≠ 0) (h2 : tk_sb f n (tk_z f n a) ≠ 0) (h3 : tk_ov f n (tk_z f n (tk_z f n a)) ≠ 0) : tk_cmp f n a = (0, tk_z f n (tk_z f n (tk_z f n a)), [(tk_sg f n (tk_z f n a), tk_val f n a, tk_val f n (tk_z f n (tk_z f n a)))]) := by
  unfold tk_cmp
  rw [tk_nd_0 h, tk_bd_00z, tk_nd_0 h2, tk_bd_00z, tk_nd_0 h3, tk_bd_00z]
theorem tk_cmp_R {f : Nat → Nat} {n a : Nat} (ha : a ≤ n) : tk_R n 1 1 a (tk_cmp f n a) := by
  by_cases z1 : tk_ov f n a ≠ 0
  · have k1 := tk_k_z (f := f) ha (tk_ov_k z1)
    by_cases z2 : tk_sb f n (tk_z f n a) ≠ 0
    · have k2 := tk_k_z (f := f) (a := tk_z f n a) k1.2 (by rw [tk_sb_k z2]; decide)
      by_cases z3 : tk_ov f n (tk_z f n (tk_z f n a)) ≠ 0
      · have k3 := tk_k_z (f := f) k2.2 (tk_ov_k z3)
        rw [tk_cmp_0 z1 z2 z3]
        have e : a ≤ tk_z f n (tk_z f n (tk_z f n a)) := by omega
        refine ⟨Nat.zero_le _, e, k3.2, fun _ => ⟨?_, tk_G.one (by have := tk_sg_le f n (tk_z f n a); omega) (tk_val_le z1) (tk_val_le z3)⟩⟩
        show 2 * 1 + a ≤ tk_z f n (tk_z f n (tk_z f n a))
        omega
      · rw [tk_cmp_3 z1 z2 z3]
        exact ⟨Nat.le_refl _, by show a ≤ tk_z f n (tk_z f n a); omega, k2.2, fun y => absurd y Nat.one_ne_zero⟩
    · rw [tk_cmp_2 z1 z2]
      exact ⟨Nat.le_refl _, by show a ≤ tk_z f n a; omega, k1.2, fun y => absurd y Nat.one_ne_zero⟩
  · rw [tk_cmp_1 z1]
    exact ⟨Nat.le_refl _, Nat.le_refl _, ha, fun y => absurd y Nat.one_ne_zero⟩
theorem tk_nt_le {f : Nat → Nat} {n : Nat} : ∀ (k a : Nat), a ≤ n → a + 3 * (tk_nt f n k a).2 ≤ (tk_nt f n k a).1 ∧ (tk_nt f n k a).1 ≤ n := by
  intro k
  induction k with
  | zero => intro a ha; exact ⟨Nat.le_refl _, ha⟩
  | succ k ih =>
    intro a ha
    by_cases z : tk_i f n [110, 111, 116] a = true
    · rw [tk_nt_t z]
      have h := tk_i_z ha z
      have h3 : a + 3 ≤ tk_z f n a := h.1
      have i := ih (tk_z f n a) h.2
      show a + 3 * ((tk_nt f n k (tk_z f n a)).2 + 1) ≤ (tk_nt f n k (tk_z f n a)).1 ∧ (tk_nt f n k (tk_z f n a)).1 ≤ n
      omega
    · rw [tk_nt_f z]
      exact ⟨Nat.le_refl _, ha⟩
theorem tk_lp_R {f : Nat → Nat} {n B x : Nat} {l : List Nat} {g : Nat → tk_P} (hx : x = 4 ∨ x = 5) (hl : 2 ≤ l.length) (hg : ∀ a, a ≤ n → tk_R n B 1 a (g a)) : ∀ (k a : Nat), a ≤ n → tk_R n (B + 1) 0 a (tk_lp f n l g x k a) := by
  intro k
  induction k with
  | zero => intro a ha; exact ⟨Nat.zero_le _, Nat.le_refl _, ha, fun _ => ⟨by show 2 * 0 + a ≤ a; omega, tk_G.nil.le (Nat.zero_le _)⟩⟩
  | succ k ih =>
    intro a ha
    by_cases z : tk_i f n l a = true
    · rw [tk_lp_t z]
      have h := tk_i_z ha z
      obtain ⟨g1, g2, g3, g4⟩ := hg (tk_z f n a) h.2
      by_cases y : (g (tk_z f n a)).1 = 0
      · obtain ⟨g5, g6⟩ := g4 y
        obtain ⟨i1, i2, i3, i4⟩ := ih (g (tk_z f n a)).2.1 g3
        rw [tk_bd_0 y]
        refine ⟨i1, by show a ≤ (tk_lp f n l g x k _).2.1; omega, i3, fun v => ?_⟩
        obtain ⟨i5, i6⟩ := i4 v
        refine ⟨?_, ?_⟩
        · show 2 * ((g (tk_z f n a)).2.2 ++ (x, 0, 0) :: (tk_lp f n l g x k (g (tk_z f n a)).2.1).2.2).length + a ≤ (tk_lp f n l g x k (g (tk_z f n a)).2.1).2.1
          rw [List.length_append, List.length_cons]
          omega
        · refine ⟨fun p hp => ?_, fun t => ?_⟩
          · rcases List.mem_append.mp hp with q | q
            · exact g6.1 p q
            · rcases List.mem_cons.mp q with q | q
              · rw [q]
                exact ⟨by show x ≤ 5; omega, Nat.zero_le _, Nat.zero_le _⟩
              · exact i6.1 p q
          · have e1 := g6.2 t
            show tk_mx ((g (tk_z f n a)).2.2 ++ (x, 0, 0) :: (tk_lp f n l g x k (g (tk_z f n a)).2.1).2.2) t ≤ t + (B + 1) ∧ tk_ds ((g (tk_z f n a)).2.2 ++ (x, 0, 0) :: (tk_lp f n l g x k (g (tk_z f n a)).2.1).2.2) t + 1 = t + (0 + 1)
            rw [tk_mx_a, tk_ds_a, show tk_ds (g (tk_z f n a)).2.2 t = t + 1 by omega]
            have e2 : tk_dp (x, 0, 0) (t + 1) = t := by
              unfold tk_dp
              rw [if_neg (by show ¬ x < 3; omega), if_neg (by show ¬ x = 3; omega)]
              rfl
            rw [tk_mx, tk_ds, e2]
            have e3 := i6.2 t
            omega
      · rw [tk_bd_1 (by omega)]
        exact ⟨g1, by omega, g3, fun v => absurd v y⟩
    · rw [tk_lp_f z]
      exact ⟨Nat.zero_le _, Nat.le_refl _, ha, fun _ => ⟨by show 2 * 0 + a ≤ a; omega, tk_G.nil.le (Nat.zero_le _)⟩⟩
theorem tk_all_R {f : Nat → Nat} {n B : Nat} {g : Nat → tk_P} (hg : ∀ a, a ≤ n → tk_R n B 1 a (g a)) {a : Nat} (ha : a ≤ n) : tk_R n (B + 2) 1 a (tk_all f n g a) := by
  have h := (hg a ha).bd (g := tk_lp f n [97, 110, 100] g 4 200) (C := B + 1) (d := 0) (fun _ h2 _ => tk_lp_R (Or.inl rfl) (by decide) hg 200 _ h2)
  exact h.le (by omega)
theorem tk_cnd_R {f : Nat → Nat} {n B : Nat} {g : Nat → tk_P} (hg : ∀ a, a ≤ n → tk_R n B 1 a (g a)) {a : Nat} (ha : a ≤ n) : tk_R n (B + 4) 1 a (tk_cnd f n g a) := by
  have h := (tk_all_R (f := f) hg ha).bd (g := tk_lp f n [111, 114] (tk_all f n g) 5 200) (C := B + 2 + 1) (d := 0) (fun _ h2 _ => tk_lp_R (Or.inr rfl) (by decide) (fun a ha => tk_all_R hg ha) 200 _ h2)
  exact h.le (by omega)
theorem tk_on_R {f : Nat → Nat} {n B : Nat} {h : Nat → tk_P} (hB : 1 ≤ B) (hh : ∀ b, b ≤ n → tk_k f n b = 3 → tk_R n B 1 b (h b)) {a : Nat} (ha : a ≤ n) : tk_R n B 1 a (tk_on f n h a) := by
  unfold tk_on
  have nt := tk_nt_le (f := f) 200 a ha
  have key : tk_R n B 1 (tk_nt f n 200 a).1 (if tk_k f n (tk_nt f n 200 a).1 = 3 ∧ tk_b f n (tk_nt f n 200 a).1 = 40 then h (tk_nt f n 200 a).1 else tk_cmp f n (tk_nt f n 200 a).1) := by
    split
    · rename_i z
      exact hh _ nt.2 z.1
    · exact (tk_cmp_R nt.2).le hB
  generalize (if tk_k f n (tk_nt f n 200 a).1 = 3 ∧ tk_b f n (tk_nt f n 200 a).1 = 40 then h (tk_nt f n 200 a).1 else tk_cmp f n (tk_nt f n 200 a).1) = r at key ⊢
  obtain ⟨k1, k2, k3, k4⟩ := key
  by_cases z : r.1 = 0
  · obtain ⟨k5, k6⟩ := k4 z
    rw [tk_bd_0 z]
    have hl : (if (tk_nt f n 200 a).2 % 2 = 1 then [((3 : Nat), (0 : Nat), (0 : Nat))] else []).length ≤ (tk_nt f n 200 a).2 := by
      split
      · show 1 ≤ _
        omega
      · exact Nat.zero_le _
    have g2 : tk_G 0 (0 + 1) (if (tk_nt f n 200 a).2 % 2 = 1 then [((3 : Nat), (0 : Nat), (0 : Nat))] else []) := by
      split
      · exact tk_G.not
      · exact tk_G.nil
    generalize (if (tk_nt f n 200 a).2 % 2 = 1 then [((3 : Nat), (0 : Nat), (0 : Nat))] else []) = K at hl g2 ⊢
    refine ⟨Nat.zero_le _, by show a ≤ r.2.1; omega, k3, fun _ => ⟨?_, (k6.app g2).le (by omega)⟩⟩
    show 2 * (r.2.2 ++ K).length + a ≤ r.2.1
    rw [List.length_append]
    omega
  · rw [tk_bd_1 (by omega)]
    exact ⟨k1, by omega, k3, fun y => absurd y z⟩
theorem tk_op_R {f : Nat → Nat} {n B : Nat} {g : Nat → tk_P} (hg : ∀ a, a ≤ n → tk_R n B 1 a (g a)) {b : Nat} (hb : b ≤ n) (hk : tk_k f n b = 3) : tk_R n (B + 4) 1 b (tk_op f n g b) := by
  have z := tk_k_z (f := f) hb (by rw [hk]; decide)
  have h := (tk_cnd_R (f := f) hg z.2).bd (g := fun c => tk_nd f n (ic_bo (tk_k f n c = 3 ∧ tk_b f n c = 41)) c) (C := 0) (d := 0) (fun _ h2 _ => tk_R.nd h2 (fun y => by
    intro k0
    apply y
    unfold ic_bo
    rw [if_neg (by omega)]))
  obtain ⟨h1, h2, h3, h4⟩ := h
  exact ⟨h1, by unfold tk_op; omega, h3, fun y => ⟨by have := (h4 y).1; unfold tk_op; omega, (h4 y).2.le (by omega)⟩⟩
theorem tk_one_R {f : Nat → Nat} {n : Nat} : ∀ (d a : Nat), a ≤ n → tk_R n (1 + 4 * d) 1 a (tk_one f n d a) := by
  intro d
  induction d with
  | zero => intro a ha; exact tk_on_R (Nat.le_refl _) (fun b hb _ => ⟨Nat.le_refl _, Nat.le_refl _, hb, fun y => absurd y Nat.one_ne_zero⟩) ha
  | succ d ih => intro a ha; exact tk_on_R (by omega) (fun b hb hk => (tk_op_R ih hb hk).le (by omega)) ha
