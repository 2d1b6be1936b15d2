/-! the relation that the law keeps between the class's things and the reference's -/
def Z9 (s : Nat → Nat) : Prop := ∀ k, 578 ≤ k → s k = 0
def Is (s : Nat → Nat) : Prop := In s ∧ Ru s ∧ Rp s ∧ Z9 s
def Lk (w : ic_w) : Prop := w 114 2 ≤ 1 ∧ w 0 2 = w 114 2 ∧ Z9 (w 116) ∧ (w 114 2 = 1 → Is (w 116) ∧ ∃ v, Nk w 67 v 39 ∧ Cw v (w 116))
def Lt (w : ic_w) : Prop := Tp w (w 118) (w 114 5) ∧ ∀ j, j < w 114 5 → w 118 j ≤ 255
def Lr (w : ic_w) : Prop := Cz w (w 125) (w 114 28) ∧ ∀ j, j < 12 → w 125 j < 2 ^ 32
def Lv (w : ic_w) : Prop := Cv w (w 129) (w 130) (w 131) ∧ mo_Sv w
def La (w : ic_w) : Prop := w 114 36 ≤ 30 ∧ ∃ W : ic_w, Act w W ∧ W 114 36 = w 114 36 ∧ W 132 = w 132
def Rel (w : ic_w) : Prop := Cw w (w 115) ∧ Is (w 115) ∧ (w 63 0 = 0 ∧ w 64 0 = 0) ∧ Lk w ∧ Lt w ∧ Lr w ∧ Ct w (w 126) (w 127) (w 128) ∧ Lv w ∧ La w
theorem Nk.ofB {w u v : ic_w} (h : Nk w 67 v 39) (e : ∀ a, 67 ≤ a → a ≤ 94 → u a = w a) : Nk u 67 v 39 := by
  obtain ⟨a1, a2, a3, a4, a5, a6⟩ := h
  refine ⟨by rw [e 67 (by omega) (by omega)]; exact a1, fun t ht => by rw [e (67 + 1) (by omega) (by omega)]; exact a2 t ht, fun j hj => by rw [e (67 + 2) (by omega) (by omega), e (67 + 3) (by omega) (by omega), e (67 + 4) (by omega) (by omega), e (67 + 5) (by omega) (by omega), e (67 + 6) (by omega) (by omega)]; exact a3 j hj, a4.re (fun r _ => e _ (by omega) (by omega)) (fun _ _ => rfl), a5.re (fun r _ => e _ (by omega) (by omega)) (fun _ _ => rfl), a6.re (fun r _ => e _ (by omega) (by omega)) (fun _ _ => rfl)⟩
theorem Lk.of {w u : ic_w} (h : Lk w) (e0 : u 0 2 = w 0 2) (e : ∀ a, 67 ≤ a → a ≤ 94 → u a = w a) (e2 : u 114 2 = w 114 2) (e6 : u 116 = w 116) : Lk u := by
  obtain ⟨a, b, z, c⟩ := h
  unfold Lk
  rw [e0, e2, e6]
  exact ⟨a, b, z, fun q => ⟨(c q).1, by obtain ⟨v, n, d⟩ := (c q).2; exact ⟨v, n.ofB e, d⟩⟩⟩
theorem Lt.of {w u : ic_w} (h : Lt w) (e0 : u 0 6 = w 0 6) (e4 : u 4 = w 4) (e5 : u 114 5 = w 114 5) (e8 : u 118 = w 118) : Lt u := by
  unfold Lt Tp
  rw [e0, e4, e5, e8]
  exact h
theorem Lr.of {w u : ic_w} (h : Lr w) (e0 : u 0 9 = w 0 9) (e : ∀ a, 12 ≤ a → a ≤ 15 → u a = w a) (e5 : u 114 28 = w 114 28) (e8 : u 125 = w 125) : Lr u := by
  unfold Lr
  rw [e5, e8]
  exact ⟨h.1.of e0 e, h.2⟩
theorem Lv.of {w u : ic_w} (h : Lv w) (e : ∀ a, 23 ≤ a → a ≤ 25 → u a = w a) (e1 : u 129 = w 129) (e2 : u 130 = w 130) (e3 : u 131 = w 131) : Lv u := by
  unfold Lv mo_Sv
  rw [e1, e2, e3]
  exact ⟨h.1.of e, h.2⟩
theorem Act.ofB {w u W : ic_w} (h : Act w W) (e0 : u 0 16 = w 0 16) (e : ∀ a, 27 ≤ a → a ≤ 38 → u a = w a) : Act u W := by
  unfold Act
  rw [e0]
  rcases h with h | ⟨k, h1, h2, h3, h4⟩
  · exact Or.inl h
  · refine Or.inr ⟨k, h1, h2, h3, ?_⟩
    unfold Ca
    rw [e _ (by omega) (by omega), e _ (by omega) (by omega)]
    exact h4
theorem La.of {w u : ic_w} (h : La w) (e0 : u 0 16 = w 0 16) (e : ∀ a, 27 ≤ a → a ≤ 38 → u a = w a) (e1 : u 114 36 = w 114 36) (e2 : u 132 = w 132) : La u := by
  unfold La
  rw [e1, e2]
  obtain ⟨a, W, b, c⟩ := h
  exact ⟨a, W, b.ofB e0 e, c⟩
theorem Ct.St {w : ic_w} (h : Ct w (w 126) (w 127) (w 128)) : mo_St w := by
  refine ⟨fun i hi => ⟨(h i hi).2.2.1, (h i hi).2.2.2.1⟩, fun j hj => ?_⟩
  have := ((h (j / 40) (by omega)).2.2.2.2 (j % 40) (by omega)).2
  rwa [show 40 * (j / 40) + j % 40 = j by omega] at this
/-- what the class's call leaves alone; what the reference's call leaves alone -/
def Gc (w u : ic_w) : Prop := (∀ a, (a = 0 ∨ (4 ≤ a ∧ a ≤ 38) ∨ (67 ≤ a ∧ a ≤ 94) ∨ 114 ≤ a) → u a = w a) ∧ u 63 0 = 0 ∧ u 64 0 = 0
def Gm (w u : ic_w) : Prop := (∀ a, (a < 114 ∨ a = 116 ∨ a = 118 ∨ 125 ≤ a) → u a = w a) ∧ ∀ k, (k = 2 ∨ k = 5 ∨ k = 28 ∨ k = 36) → u 114 k = w 114 k
theorem Gc.rf {w : ic_w} (h : Rel w) : Gc w w := ⟨fun _ _ => rfl, h.2.2.1.1, h.2.2.1.2⟩
theorem Gc.fp {w u : ic_w} (h : Rel w) (g : Fp w u) : Gc w u := ⟨fun a ha => g.1 a (by omega), by rw [g.1 63 (by omega)]; exact h.2.2.1.1, by rw [g.1 64 (by omega)]; exact h.2.2.1.2⟩
theorem Gc.fn {w u : ic_w} (h : Rel w) (g : Fn w u) : Gc w u := ⟨fun a ha => g a (by omega), by rw [g 63 (by omega)]; exact h.2.2.1.1, by rw [g 64 (by omega)]; exact h.2.2.1.2⟩
theorem Gc.fr {w u : ic_w} (g : Fr w u) : Gc w u := ⟨fun a ha => g.1 a (by omega), g.2.2.1, g.2.2.2⟩
theorem Gm.rf (w : ic_w) : Gm w w := ⟨fun _ _ => rfl, fun _ _ => rfl⟩
theorem mo_kr_of {a : Nat} (h : a < 114 ∨ a = 115 ∨ a = 116 ∨ a = 118 ∨ 125 ≤ a) : mo_kr a = true := by
  unfold mo_kr
  exact decide_eq_true (by omega)
theorem mo_kf_of {k : Nat} (h : k = 2 ∨ k = 5 ∨ k = 28 ∨ k = 36) : mo_kf k = true := by
  unfold mo_kf
  exact decide_eq_true (by omega)
theorem Gm.s2 {w u : ic_w} (g : mo_s2 w u) : Gm w u := ⟨fun a ha => g.1 a (mo_kr_of (by omega)), fun k hk => g.2 k (mo_kf_of hk)⟩
theorem Gm.sc {w u : ic_w} (g : mo_sc w u) : Gm w u := ⟨fun a ha => g a (by omega) (by omega), fun k hk => by rw [g 114 (by omega) (by omega)]⟩
theorem Gm.rr (w : ic_w) (s : Nat → Nat) : Gm w (wr w 115 s) := ⟨fun a ha => wr_n _ (by omega), fun k hk => by rw [wr_n _ (by omega)]⟩
theorem Gm.go {w u : ic_w} (g : ∀ a, a ≠ 115 → a ≠ 120 → u a = w a) : Gm w u := ⟨fun a ha => g a (by omega) (by omega), fun k hk => by rw [g 114 (by omega) (by omega)]⟩
theorem s2_115 {w u : ic_w} (g : mo_s2 w u) : u 115 = w 115 := g.1 115 (mo_kr_of (by omega))
theorem Rel.go {w u v : ic_w} {s : Nat → Nat} (h : Rel w) (g : Gc w u) (hc : Cw u s) (k : Gm u v) (e : v 115 = s) (hs : Is s) : Rel v := by
  obtain ⟨-, -, -, h4, h5, h6, h7, h8, h9⟩ := h
  have E : ∀ a, (a = 0 ∨ (4 ≤ a ∧ a ≤ 38) ∨ (67 ≤ a ∧ a ≤ 94) ∨ a = 116 ∨ a = 118 ∨ 125 ≤ a) → v a = w a := fun a ha => (k.1 a (by omega)).trans (g.1 a (by omega))
  have F : ∀ j, (j = 2 ∨ j = 5 ∨ j = 28 ∨ j = 36) → v 114 j = w 114 j := fun j hj => (k.2 j hj).trans (by rw [g.1 114 (by omega)])
  have E0 : v 0 = w 0 := E 0 (by omega)
  refine ⟨?_, by rw [e]; exact hs, ⟨by rw [k.1 63 (by omega)]; exact g.2.1, by rw [k.1 64 (by omega)]; exact g.2.2⟩, ?_, ?_, ?_, ?_, ?_, ?_⟩
  · rw [e]
    exact hc.of39 (fun a h1 h2 => k.1 a (by omega))
  · exact h4.of (by rw [E0]) (fun a h1 h2 => E a (by omega)) (F 2 (by omega)) (E 116 (by omega))
  · exact h5.of (by rw [E0]) (E 4 (by omega)) (F 5 (by omega)) (E 118 (by omega))
  · exact h6.of (by rw [E0]) (fun a h1 h2 => E a (by omega)) (F 28 (by omega)) (E 125 (by omega))
  · rw [E 126 (by omega), E 127 (by omega), E 128 (by omega)]
    exact h7.of (fun a h1 h2 => E a (by omega))
  · exact h8.of (fun a h1 h2 => E a (by omega)) (E 129 (by omega)) (E 130 (by omega)) (E 131 (by omega))
  · exact h9.of (by rw [E0]) (fun a h1 h2 => E a (by omega)) (F 36 (by omega)) (E 132 (by omega))
theorem Rel.pure {w u v : ic_w} (h : Rel w) (g : Gc w u) (hc : Cw u (w 115)) (k : Gm u v) (e : v 115 = u 115) : Rel v :=
  h.go g hc k (e.trans (g.1 115 (by omega))) h.2.1
/-- the row's invariants under the calls that set it -/
theorem Ru.of2 {s t : Nat → Nat} (h : Ru s) (h8 : ∀ k, k = 5 ∨ k = 7 ∨ (72 ≤ k ∧ k < 104) ∨ 128 ≤ k → t k = s k) (h58 : s 5 ≤ 8) : Ru t := by
  have hd : ∀ b n, mo_dp t b n = mo_dp s b n := by
    intro b n
    induction n with
    | zero => rfl
    | succ n ih => rw [mo_dp, mo_dp, ih, h8 _ (by omega)]
  refine ⟨fun r hr => ?_, fun k hk => ?_⟩
  · rw [h8 5 (by omega)] at hr
    rw [h8 _ (by omega), h8 _ (by omega), h8 _ (by omega), h8 _ (by omega), h8 7 (by omega)]
    have := h.1 r hr
    refine ⟨this.1, this.2.1, this.2.2.1, this.2.2.2.1, fun n hn => by rw [hd]; exact this.2.2.2.2 n hn⟩
  · rw [h8 7 (by omega)] at hk
    rw [h8 _ (by omega), h8 _ (by omega), h8 _ (by omega)]
    exact h.2 k hk
theorem Rp.of2 {s t : Nat → Nat} (h : Rp s) (h6 : s 6 ≤ 6) (e : ∀ k, k = 6 ∨ (104 ≤ k ∧ k < 128) → t k = s k) : Rp t := by
  intro i hi
  rw [e 6 (by omega)] at hi
  rw [e _ (by omega), e _ (by omega), e _ (by omega), e _ (by omega)]
  exact h i hi
theorem In.set9 {s : Nat → Nat} {j v : Nat} (h : In s) (hv : v < 2 ^ 32) (c0 : j = 0 → v ≤ 6) (c1 : j = 1 → v ≤ s 2) (c2 : j = 2 → s 1 ≤ v ∧ 1 ≤ v ∧ v ≤ 16) (c5 : j = 5 → v ≤ 8) (c6 : j = 6 → v ≤ 6) (c7 : j = 7 → v ≤ 100)
    (ci : ∀ o, o < 6 → (j = 8 + 6 * o → v ≤ 5) ∧ (j = 9 + 6 * o → v ≤ 99) ∧ (j = 10 + 6 * o → v ≤ 9) ∧ (j = 11 + 6 * o → v ≤ 5) ∧ (j = 12 + 6 * o → v ≤ 1) ∧ (j = 13 + 6 * o → v ≤ 5)) (cf : 44 ≤ j → j < 56 → v ≤ 9) (cc : 56 ≤ j → j < 72 → v ≤ 15) : In (fu s j v) := by
  obtain ⟨a, ⟨b1, b2, b3⟩, ⟨d1, d2, d3⟩, e, f, g, k⟩ := h
  refine ⟨?_, ⟨?_, ?_, ?_⟩, ⟨?_, ?_, ?_⟩, fun o ho => ?_, fun q hq => ?_, fun q hq => ?_, fun q hq => ?_⟩
  · unfold fu; split <;> omega
  · unfold fu; split <;> split <;> omega
  · unfold fu; split <;> omega
  · unfold fu; split <;> omega
  · unfold fu; split <;> omega
  · unfold fu; split <;> omega
  · unfold fu; split <;> omega
  · have e := e o ho
    have c := ci o ho
    unfold it at e
    simp only [show 8 + 6 * o + 0 = 8 + 6 * o by omega, show 8 + 6 * o + 1 = 9 + 6 * o by omega, show 8 + 6 * o + 2 = 10 + 6 * o by omega, show 8 + 6 * o + 3 = 11 + 6 * o by omega, show 8 + 6 * o + 4 = 12 + 6 * o by omega, show 8 + 6 * o + 5 = 13 + 6 * o by omega] at e
    unfold it
    simp only [show 8 + 6 * o + 0 = 8 + 6 * o by omega, show 8 + 6 * o + 1 = 9 + 6 * o by omega, show 8 + 6 * o + 2 = 10 + 6 * o by omega, show 8 + 6 * o + 3 = 11 + 6 * o by omega, show 8 + 6 * o + 4 = 12 + 6 * o by omega, show 8 + 6 * o + 5 = 13 + 6 * o by omega]
    obtain ⟨e0, e1, e2, e3, e4, e5⟩ := e
    obtain ⟨q0, q1, q2, q3, q4, q5⟩ := c
    refine ⟨?_, ?_, ?_, ?_, ?_, ?_⟩
    · unfold fu; split <;> omega
    · unfold fu; split <;> omega
    · unfold fu; split <;> omega
    · unfold fu; split <;> omega
    · unfold fu; split <;> omega
    · unfold fu; split <;> omega
  · have := f q hq
    constructor
    · unfold fu; split <;> omega
    · unfold fu; split <;> omega
  · have := g q hq
    unfold fu; split <;> omega
  · have := k q hq
    unfold fu; split <;> omega
theorem Z9.set9 {s : Nat → Nat} {j v : Nat} (h : Z9 s) (hj : j < 578) : Z9 (fu s j v) := fun k hk => by rw [fu_n _ (by omega)]; exact h k hk
/-- one number set: not of the rules, not of the reports -/
theorem Is.set9 {s : Nat → Nat} {j v : Nat} (h : Is s) (hI : In (fu s j v)) (hj : j ≠ 5 ∧ j ≠ 6 ∧ j ≠ 7 ∧ j < 72) : Is (fu s j v) :=
  ⟨hI, h.2.1.of2 (fun k hk => fu_n _ (by omega)) h.1.2.2.1.1, h.2.2.1.of2 h.1.2.2.1.2.1 (fun k hk => fu_n _ (by omega)), h.2.2.2.set9 (by omega)⟩
theorem Is.item {s : Nat → Nat} {o k v : Nat} (h : Is s) (ho : o < 6) (hk : k < 6) (hv : v ≤ if k = 1 then 99 else if k = 2 then 9 else if k = 4 then 1 else 5) : Is (fu s (8 + 6 * o + k) v) := by
  refine h.set9 (h.1.set9 ?_ ?_ ?_ ?_ ?_ ?_ ?_ (fun q hq => ?_) ?_ ?_) (by omega)
  · have : v ≤ 99 := by
      repeat' split at hv
      all_goals omega
    omega
  · omega
  · omega
  · omega
  · omega
  · omega
  · omega
  · refine ⟨fun z => ?_, fun z => ?_, fun z => ?_, fun z => ?_, fun z => ?_, fun z => ?_⟩
    · rw [if_neg (by omega), if_neg (by omega), if_neg (by omega)] at hv; exact hv
    · rw [if_pos (by omega)] at hv; exact hv
    · rw [if_neg (by omega), if_pos (by omega)] at hv; exact hv
    · rw [if_neg (by omega), if_neg (by omega), if_neg (by omega)] at hv; exact hv
    · rw [if_neg (by omega), if_neg (by omega), if_pos (by omega)] at hv; exact hv
    · rw [if_neg (by omega), if_neg (by omega), if_neg (by omega)] at hv; exact hv
  · omega
  · omega
theorem Is.new {s : Nat → Nat} {kind d ws hm : Nat} (h : Is s) (c : (1 ≤ kind ∧ kind ≤ 5) ∧ d ≤ 99 ∧ ws ≤ 9 ∧ hm < 6) (h6 : s 0 < 6) : Is (mo_new s kind d ws hm) := by
  unfold mo_new
  have g : ∀ {t : Nat → Nat} (k v : Nat), Is t → k < 6 → (v ≤ if k = 1 then 99 else if k = 2 then 9 else if k = 4 then 1 else 5) → Is (fu t (8 + 6 * s 0 + k) v) := fun k v a b c => a.item h6 b c
  have g0 := g 0 kind h (by omega) (by rw [if_neg (by omega), if_neg (by omega), if_neg (by omega)]; omega)
  have g1 := g 1 d g0 (by omega) (by rw [if_pos rfl]; omega)
  have g2 := g 2 ws g1 (by omega) (by rw [if_neg (by omega), if_pos rfl]; omega)
  have g3 := g 3 hm g2 (by omega) (by rw [if_neg (by omega), if_neg (by omega), if_neg (by omega)]; omega)
  have g4 := g 4 0 g3 (by omega) (Nat.zero_le _)
  have g5 := g 5 hm g4 (by omega) (by rw [if_neg (by omega), if_neg (by omega), if_neg (by omega)]; omega)
  simp only [show 8 + 6 * s 0 + 0 = 8 + 6 * s 0 by omega, show 8 + 6 * s 0 + 1 = 9 + 6 * s 0 by omega, show 8 + 6 * s 0 + 2 = 10 + 6 * s 0 by omega, show 8 + 6 * s 0 + 3 = 11 + 6 * s 0 by omega, show 8 + 6 * s 0 + 4 = 12 + 6 * s 0 by omega, show 8 + 6 * s 0 + 5 = 13 + 6 * s 0 by omega] at g5
  exact g5.set9 (g5.1.set9 (by omega) (by omega) (by omega) (by omega) (by omega) (by omega) (by omega) (fun o ho => by omega) (by omega) (by omega)) (by omega)
theorem Is.chg {s : Nat → Nat} {o k v : Nat} (h : Is s) (c : o < s 0 ∧ (1 ≤ k ∧ k ≤ 5) ∧ v ≤ mo_top k) : Is (fu s (8 + 6 * o + k) v) := by
  have := h.1.n
  exact h.item (by omega) (by omega) c.2.2
theorem Is.rem {s : Nat → Nat} {o k : Nat} (h : Is s) (c : o < s 0 ∧ 1 ≤ k ∧ k ≤ 5) : Is (fu s (8 + 6 * o) k) := by
  have := h.1.n
  exact h.item (o := o) (k := 0) (by omega) (by omega) (by rw [if_neg (by omega), if_neg (by omega), if_neg (by omega)]; omega)
theorem Is.crd {s : Nat → Nat} {t v : Nat} (h : Is s) (c : t < 16 ∧ v ≤ 15) : Is (fu s (56 + t) v) :=
  h.set9 (h.1.set9 (by omega) (by omega) (by omega) (by omega) (by omega) (by omega) (by omega) (fun o ho => by omega) (by omega) (by omega)) (by omega)
theorem Is.hom {s : Nat → Nat} {f k v : Nat} (h : Is s) (c : f < 6 ∧ k ≤ 1 ∧ v ≤ 9) : Is (fu s ((if k = 0 then 44 else 50) + f) v) := by
  have e : (if k = 0 then 44 else 50) = 44 ∨ (if k = 0 then 44 else 50) = 50 := by split <;> omega
  generalize (if k = 0 then 44 else 50) = b at e
  exact h.set9 (h.1.set9 (by omega) (by omega) (by omega) (by omega) (by omega) (by omega) (by omega) (fun o ho => by omega) (by omega) (by omega)) (by omega)
theorem Is.end {s : Nat → Nat} {v : Nat} (h : Is s) (c : (1 ≤ v ∧ v ≤ 16) ∧ s 1 ≤ v) : Is (fu s 2 v) :=
  h.set9 (h.1.set9 (by omega) (by omega) (by omega) (by omega) (by omega) (by omega) (by omega) (fun o ho => by omega) (by omega) (by omega)) (by omega)
theorem Is.see {s : Nat → Nat} {v : Nat} (h : Is s) (c : v < 2 ^ 32) : Is (fu s 4 v) := h.set9 (In_z h.1 c) (by omega)
theorem Is.anw {s : Nat → Nat} (h : Is s) : Is (mo_anew s) := by
  have h0 := h.1.n
  have g : ∀ n, n ≤ 6 → Is (mo_an s n) := by
    intro n
    induction n with
    | zero =>
      intro _
      have e : mo_an s 0 = s := by
        funext k
        unfold mo_an
        rw [if_neg (by omega), if_neg (by omega)]
      rw [e]
      exact h
    | succ n ih =>
      intro hn
      rw [mo_an_s]
      have a := (ih (by omega)).item (o := n) (k := 4) (v := 0) (by omega) (by omega) (Nat.zero_le _)
      have i3 := (h.1.i (o := n) (by omega)).2.2.2.1
      have b := a.item (o := n) (k := 5) (v := it s n 3) (by omega) (by omega) (by rw [if_neg (by omega), if_neg (by omega), if_neg (by omega)]; exact i3)
      simp only [show 8 + 6 * n + 4 = 12 + 6 * n by omega, show 8 + 6 * n + 5 = 13 + 6 * n by omega] at b
      exact b
  have g1 := g _ h0
  unfold mo_anew
  have g2 : Is (fu (mo_an s (s 0)) 3 0) := g1.set9 (g1.1.set9 (by omega) (by omega) (by omega) (by omega) (by omega) (by omega) (by omega) (fun o ho => by omega) (by omega) (by omega)) (by omega)
  exact g2.set9 (g2.1.set9 (by omega) (by omega) (by omega) (by omega) (by omega) (by omega) (by omega) (fun o ho => by omega) (by omega) (by omega)) (by omega)
theorem Is.go {s : Nat → Nat} {act : Nat} (h : Is s) (ha : act ≤ 6) (ht : s 1 < s 2) : Is (mo_go s act) :=
  ⟨In_go h.1 ha ht, Ru_go h.2.1 h.1 ha, h.2.2.1.of2 h.1.2.2.1.2.1 (fun k hk => mo_go_r s ha h.1.n (by omega)), fun k hk => by rw [mo_go_r s ha h.1.n (by omega)]; exact h.2.2.2 k hk⟩
theorem Is.lgo {s : Nat → Nat} (h : Is s) (ht : s 1 < s 2) : Is (mo_lgo s) :=
  ⟨In_lgo h.1 ht, Ru_lgo h.2.1 h.1, h.2.2.1.of2 h.1.2.2.1.2.1 (fun k hk => mo_lgo_r h.1 (by omega)), fun k hk => by rw [mo_lgo_r h.1 (by omega)]; exact h.2.2.2 k hk⟩
theorem Is.gx {f : Nat → Nat} {i a sz : Nat} : ∀ (n k t : Nat) {s : Nat → Nat}, Is s → Is (mo_gx f i a sz n k s t).2 := by
  intro n
  induction n with
  | zero => intro k t s h; exact h
  | succ n ih =>
    intro k t s h
    unfold mo_gx
    have := h.1.n
    split
    · split
      · rename_i c
        exact ih _ _ (h.go (by omega) c.2)
      · exact ih _ _ h
    · exact h
theorem Is.rep {s : Nat → Nat} {k a lo hi : Nat} (h : Is s) (c : (k ≤ 15 ∧ a ≤ 1 ∧ lo ≤ hi ∧ hi ≤ mo_rt a) ∧ s 6 < 6) : Is (mo_rep s k a lo hi) := by
  obtain ⟨⟨c1, c2, c3, c4⟩, c6⟩ := c
  have c5 : hi ≤ 99 := by
    unfold mo_rt at c4
    split at c4 <;> omega
  have hi2 : ∀ {t : Nat → Nat} {j v : Nat}, In t → 104 ≤ j → v ≤ 99 → In (fu t j v) := fun {t j v} h hj hv => h.set9 (by omega) (by omega) (by omega) (by omega) (by omega) (by omega) (by omega) (fun o ho => by omega) (by omega) (by omega)
  have e : ∀ j, j ≠ 6 → (j < 104 + 4 * s 6 ∨ 107 + 4 * s 6 < j) → mo_rep s k a lo hi j = s j := fun j h1 h2 => by
    unfold mo_rep
    rw [fu_n _ (by omega), fu_n _ (by omega), fu_n _ (by omega), fu_n _ (by omega), fu_n _ (by omega)]
  have e6 : mo_rep s k a lo hi 6 = s 6 + 1 := fu_s _ _ _
  refine ⟨?_, h.2.1.of2 (fun j hj => e j (by omega) (by omega)) h.1.2.2.1.1, fun i hi9 => ?_, fun j hj => by rw [e j (by omega) (by omega)]; exact h.2.2.2 j hj⟩
  · unfold mo_rep
    exact (hi2 (hi2 (hi2 (hi2 h.1 (by omega) (by omega)) (by omega) (by omega)) (by omega) (by omega)) (by omega) (by omega)).set9 (by omega) (by omega) (by omega) (by omega) (by omega) (by omega) (by omega) (fun o ho => by omega) (by omega) (by omega)
  · rw [e6] at hi9
    by_cases z : i = s 6
    · subst z
      have r0 : mo_rep s k a lo hi (104 + 4 * s 6) = k := by
        unfold mo_rep
        rw [fu_n _ (by omega), fu_n _ (by omega), fu_n _ (by omega), fu_n _ (by omega), fu_s]
      have r1 : mo_rep s k a lo hi (105 + 4 * s 6) = a := by
        unfold mo_rep
        rw [fu_n _ (by omega), fu_n _ (by omega), fu_n _ (by omega), fu_s]
      have r2 : mo_rep s k a lo hi (106 + 4 * s 6) = lo := by
        unfold mo_rep
        rw [fu_n _ (by omega), fu_n _ (by omega), fu_s]
      have r3 : mo_rep s k a lo hi (107 + 4 * s 6) = hi := by
        unfold mo_rep
        rw [fu_n _ (by omega), fu_s]
      rw [r0, r1, r2, r3]
      exact ⟨c1, c2, c3, c5⟩
    · rw [e _ (by omega) (by omega), e _ (by omega) (by omega), e _ (by omega) (by omega), e _ (by omega) (by omega)]
      exact h.2.2.1 i (by omega)
theorem Is.fgt {s : Nat → Nat} (h : Is s) : Is (fu s 6 0) :=
  ⟨h.1.set9 (by omega) (by omega) (by omega) (by omega) (by omega) (by omega) (by omega) (fun o ho => by omega) (by omega) (by omega), h.2.1.of2 (fun k hk => fu_n _ (by omega)) h.1.2.2.1.1, fun i hi => by rw [fu_s] at hi; omega, h.2.2.2.set9 (by omega)⟩
theorem Is.rul {f : Nat → Nat} {n : Nat} {s : Nat → Nat} (h : Is s) (hn : n ≤ 200) : Is (tk_rw f n s) := by
  unfold tk_rw
  split
  · rename_i c
    have q := (tk_r0_R (f := f) hn h.1).2.2 c
    exact ⟨q.in hn h.1, q.2.2.2.1, q.rp h.1 h.2.2.1, fun k hk => by rw [q.1 k (by omega)]; exact h.2.2.2 k hk⟩
  · exact h
