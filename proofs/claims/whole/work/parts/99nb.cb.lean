/-! the law's other calls: what each leaves alone, part by part -/
theorem fd_le {f : Nat → Nat} {x : Int64} {t : Nat} : ∀ (m : Nat), (∀ j, j < t → f j ≤ 255) → ∀ j, j < t + m → mo_fd f x t m j ≤ 255 := by
  intro m
  induction m with
  | zero => intro h j hj; exact h j hj
  | succ m ih =>
    intro h j hj
    unfold mo_fd
    by_cases q : j = t + m
    · subst q
      rw [fu_s]
      exact mo_bt8_le _ _
    · rw [fu_n _ q]
      exact ih h j (by omega)
theorem Rel.tape {w u v : ic_w} {f s : Nat → Nat} {n : Nat} (h : Rel w) (g1 : ∀ a, (10 ≤ a ∧ a ≤ 38) ∨ 63 ≤ a → u a = w a) (g0 : ∀ j, j ≠ 6 → u 0 j = w 0 j) (hc : Cw u s) (ht : Tp u f n) (hb : ∀ j, j < n → f j ≤ 255) (k1 : ∀ a, a ≠ 114 → a ≠ 115 → a ≠ 118 → a ≠ 119 → v a = u a) (k4 : ∀ j, j = 2 ∨ j = 28 ∨ j = 36 → v 114 j = u 114 j) (k5 : v 118 = f) (k6 : v 114 5 = n) (e : v 115 = s) (hs : Is s) : Rel v := by
  obtain ⟨-, -, h3, h4, h5, h6, h7, h8, h9⟩ := h
  have E : ∀ a, ((10 ≤ a ∧ a ≤ 38) ∨ 63 ≤ a) → a ≠ 114 → a ≠ 115 → a ≠ 118 → a ≠ 119 → v a = w a := fun a ha q1 q2 q3 q4 => (k1 a q1 q2 q3 q4).trans (g1 a ha)
  have F : ∀ j, j = 2 ∨ j = 28 ∨ j = 36 → v 114 j = w 114 j := fun j hj => (k4 j hj).trans (by rw [g1 114 (by omega)])
  have E0 : ∀ j, j ≠ 6 → v 0 j = w 0 j := fun j hj => by rw [k1 0 (by omega) (by omega) (by omega) (by omega)]; exact g0 j hj
  refine ⟨?_, by rw [e]; exact hs, ⟨?_, ?_⟩, ?_, ?_, ?_, ?_, ?_, ?_⟩
  · rw [e]
    exact hc.of39 (fun a h1 h2 => k1 a (by omega) (by omega) (by omega) (by omega))
  · rw [E 63 (by omega) (by omega) (by omega) (by omega) (by omega)]
    exact h3.1
  · rw [E 64 (by omega) (by omega) (by omega) (by omega) (by omega)]
    exact h3.2
  · exact h4.of (E0 2 (by omega)) (fun a h1 h2 => E a (by omega) (by omega) (by omega) (by omega) (by omega)) (F 2 (by omega)) (E 116 (by omega) (by omega) (by omega) (by omega) (by omega))
  · unfold Lt Tp
    rw [k5, k6, k1 0 (by omega) (by omega) (by omega) (by omega), k1 4 (by omega) (by omega) (by omega) (by omega)]
    exact ⟨ht, hb⟩
  · exact h6.of (E0 9 (by omega)) (fun a h1 h2 => E a (by omega) (by omega) (by omega) (by omega) (by omega)) (F 28 (by omega)) (E 125 (by omega) (by omega) (by omega) (by omega) (by omega))
  · rw [E 126 (by omega) (by omega) (by omega) (by omega) (by omega), E 127 (by omega) (by omega) (by omega) (by omega) (by omega), E 128 (by omega) (by omega) (by omega) (by omega) (by omega)]
    exact h7.of (fun a h1 h2 => E a (by omega) (by omega) (by omega) (by omega) (by omega))
  · exact h8.of (fun a h1 h2 => E a (by omega) (by omega) (by omega) (by omega) (by omega)) (E 129 (by omega) (by omega) (by omega) (by omega) (by omega)) (E 130 (by omega) (by omega) (by omega) (by omega) (by omega)) (E 131 (by omega) (by omega) (by omega) (by omega) (by omega))
  · exact h9.of (E0 16 (by omega)) (fun a h1 h2 => E a (by omega) (by omega) (by omega) (by omega) (by omega)) (F 36 (by omega)) (E 132 (by omega) (by omega) (by omega) (by omega) (by omega))
theorem Rel.rows {w u v : ic_w} {R : Nat → Nat} {n : Nat} (h : Rel w) (g : ∀ a, ((4 ≤ a ∧ a ≤ 11) ∨ (16 ≤ a ∧ a ≤ 54) ∨ (56 ≤ a ∧ a ≤ 64) ∨ (67 ≤ a ∧ a ≤ 94) ∨ 114 ≤ a) → u a = w a) (g55 : u 55 0 = w 55 0) (g0 : ∀ j, j ≠ 9 → u 0 j = w 0 j) (hz : Cz u R n) (hR : ∀ j, j < 12 → R j < 2 ^ 32) (k : ∀ a, (a < 114 ∨ a = 115 ∨ a = 116 ∨ a = 118 ∨ 126 ≤ a) → v a = u a) (kf : ∀ j, j = 2 ∨ j = 5 ∨ j = 36 → v 114 j = u 114 j) (k125 : v 125 = R) (k28 : v 114 28 = n) : Rel v := by
  obtain ⟨h1, h2, h3, h4, h5, h6, h7, h8, h9⟩ := h
  have E : ∀ a, ((4 ≤ a ∧ a ≤ 11) ∨ (16 ≤ a ∧ a ≤ 54) ∨ (56 ≤ a ∧ a ≤ 64) ∨ (67 ≤ a ∧ a ≤ 94) ∨ a = 115 ∨ a = 116 ∨ a = 118 ∨ 126 ≤ a) → v a = w a := fun a ha => (k a (by omega)).trans (g a (by omega))
  have F : ∀ j, j = 2 ∨ j = 5 ∨ j = 36 → v 114 j = w 114 j := fun j hj => (kf j hj).trans (by rw [g 114 (by omega)])
  have E0 : ∀ j, j ≠ 9 → v 0 j = w 0 j := fun j hj => by rw [k 0 (by omega)]; exact g0 j hj
  have E55 : v 55 0 = w 55 0 := by rw [k 55 (by omega)]; exact g55
  refine ⟨?_, by rw [E 115 (by omega)]; exact h2, ⟨?_, ?_⟩, ?_, ?_, ?_, ?_, ?_, ?_⟩
  · rw [E 115 (by omega)]
    exact ⟨h1.1.of (by rw [E 39 (by omega)]) (by rw [E 39 (by omega)]) E55 (fun a _ _ _ _ _ _ _ _ => E a (by omega)), h1.2.1.of (E _ (by omega)) (E _ (by omega)) (E _ (by omega)), by rw [E 39 (by omega)]; exact h1.2.2.1, by rw [E 39 (by omega)]; exact h1.2.2.2⟩
  · rw [E 63 (by omega)]
    exact h3.1
  · rw [E 64 (by omega)]
    exact h3.2
  · exact h4.of (E0 2 (by omega)) (fun a h1 h2 => E a (by omega)) (F 2 (by omega)) (E 116 (by omega))
  · exact h5.of (E0 6 (by omega)) (E 4 (by omega)) (F 5 (by omega)) (E 118 (by omega))
  · unfold Lr
    rw [k125, k28]
    exact ⟨hz.of (by rw [k 0 (by omega)]) (fun a q1 q2 => k a (by omega)), hR⟩
  · rw [E 126 (by omega), E 127 (by omega), E 128 (by omega)]
    exact h7.of (fun a h1 h2 => E a (by omega))
  · exact h8.of (fun a h1 h2 => E a (by omega)) (E 129 (by omega)) (E 130 (by omega)) (E 131 (by omega))
  · exact h9.of (E0 16 (by omega)) (fun a h1 h2 => E a (by omega)) (F 36 (by omega)) (E 132 (by omega))
theorem Rel.shts {w u v : ic_w} {T U V : Nat → Nat} (h : Rel w) (g : ∀ a, a < 16 ∨ 22 < a → u a = w a) (ht : Ct u T U V) (k : ∀ a, a < 126 ∨ 128 < a → v a = u a) (k1 : v 126 = T) (k2 : v 127 = U) (k3 : v 128 = V) : Rel v := by
  obtain ⟨h1, h2, h3, h4, h5, h6, h7, h8, h9⟩ := h
  have E : ∀ a, a < 16 ∨ (22 < a ∧ a < 126) ∨ 128 < a → v a = w a := fun a ha => (k a (by omega)).trans (g a (by omega))
  have e0 := E 0 (by omega)
  have e4 := E 114 (by omega)
  refine ⟨?_, by rw [E 115 (by omega)]; exact h2, by rw [E 63 (by omega), E 64 (by omega)]; exact h3, ?_, ?_, ?_, ?_, ?_, ?_⟩
  · rw [E 115 (by omega)]
    exact h1.of39 (fun a _ _ => E a (by omega))
  · exact h4.of (by rw [e0]) (fun a h1 h2 => E a (by omega)) (by rw [e4]) (E 116 (by omega))
  · exact h5.of (by rw [e0]) (E 4 (by omega)) (by rw [e4]) (E 118 (by omega))
  · exact h6.of (by rw [e0]) (fun a h1 h2 => E a (by omega)) (by rw [e4]) (E 125 (by omega))
  · rw [k1, k2, k3]
    exact ht.of (fun a q1 q2 => k a (by omega))
  · exact h8.of (fun a h1 h2 => E a (by omega)) (E 129 (by omega)) (E 130 (by omega)) (E 131 (by omega))
  · exact h9.of (by rw [e0]) (fun a h1 h2 => E a (by omega)) (by rw [e4]) (E 132 (by omega))
theorem Rel.shlv {w u v : ic_w} {A B C : Nat → Nat} (h : Rel w) (g : ∀ a, a < 23 ∨ 25 < a → u a = w a) (hv : Cv u A B C) (hS : ∀ i, i < 4 → A i ≤ 2 ∧ B i < 2 ^ 32 ∧ C i ≤ 40) (k : ∀ a, a < 129 ∨ 131 < a → v a = u a) (k1 : v 129 = A) (k2 : v 130 = B) (k3 : v 131 = C) : Rel v := by
  obtain ⟨h1, h2, h3, h4, h5, h6, h7, h8, h9⟩ := h
  have E : ∀ a, a < 23 ∨ (25 < a ∧ a < 129) ∨ 131 < a → v a = w a := fun a ha => (k a (by omega)).trans (g a (by omega))
  have e0 := E 0 (by omega)
  have e4 := E 114 (by omega)
  refine ⟨?_, by rw [E 115 (by omega)]; exact h2, by rw [E 63 (by omega), E 64 (by omega)]; exact h3, ?_, ?_, ?_, ?_, ?_, ?_⟩
  · rw [E 115 (by omega)]
    exact h1.of39 (fun a _ _ => E a (by omega))
  · exact h4.of (by rw [e0]) (fun a h1 h2 => E a (by omega)) (by rw [e4]) (E 116 (by omega))
  · exact h5.of (by rw [e0]) (E 4 (by omega)) (by rw [e4]) (E 118 (by omega))
  · exact h6.of (by rw [e0]) (fun a h1 h2 => E a (by omega)) (by rw [e4]) (E 125 (by omega))
  · rw [E 126 (by omega), E 127 (by omega), E 128 (by omega)]
    exact h7.of (fun a h1 h2 => E a (by omega))
  · unfold Lv mo_Sv
    rw [k1, k2, k3]
    exact ⟨hv.of (fun a q1 q2 => k a (by omega)), hS⟩
  · exact h9.of (by rw [e0]) (fun a h1 h2 => E a (by omega)) (by rw [e4]) (E 132 (by omega))
theorem Rel.acts {w u v W : ic_w} (h : Rel w) (g : ∀ a, a ≠ 0 → (a < 27 ∨ 38 < a) → u a = w a) (g0 : ∀ j, j ≠ 16 → u 0 j = w 0 j) (ha : Act u W) (h36 : W 114 36 ≤ 30) (k : ∀ a, a ≠ 114 → a ≠ 132 → v a = u a) (kf : ∀ j, j = 2 ∨ j = 5 ∨ j = 28 → v 114 j = u 114 j) (k1 : W 114 36 = v 114 36) (k2 : W 132 = v 132) : Rel v := by
  obtain ⟨h1, h2, h3, h4, h5, h6, h7, h8, h9⟩ := h
  have E : ∀ a, a ≠ 0 → (a < 27 ∨ 38 < a) → a ≠ 114 → a ≠ 132 → v a = w a := fun a q1 q2 q3 q4 => (k a q3 q4).trans (g a q1 q2)
  have E0 : ∀ j, j ≠ 16 → v 0 j = w 0 j := fun j hj => by rw [k 0 (by omega) (by omega)]; exact g0 j hj
  have F : ∀ j, j = 2 ∨ j = 5 ∨ j = 28 → v 114 j = w 114 j := fun j hj => (kf j hj).trans (by rw [g 114 (by omega) (by omega)])
  have D : ∀ a, a ≠ 0 → (a < 27 ∨ (38 < a ∧ a < 114) ∨ (114 < a ∧ a < 132)) → v a = w a := fun a q1 q2 => E a q1 (by omega) (by omega) (by omega)
  refine ⟨?_, by rw [D 115 (by omega) (by omega)]; exact h2, by rw [D 63 (by omega) (by omega), D 64 (by omega) (by omega)]; exact h3, ?_, ?_, ?_, ?_, ?_, ?_⟩
  · rw [D 115 (by omega) (by omega)]
    exact h1.of39 (fun a _ _ => D a (by omega) (by omega))
  · exact h4.of (E0 2 (by omega)) (fun a h1 h2 => D a (by omega) (by omega)) (F 2 (by omega)) (D 116 (by omega) (by omega))
  · exact h5.of (E0 6 (by omega)) (D 4 (by omega) (by omega)) (F 5 (by omega)) (D 118 (by omega) (by omega))
  · exact h6.of (E0 9 (by omega)) (fun a h1 h2 => D a (by omega) (by omega)) (F 28 (by omega)) (D 125 (by omega) (by omega))
  · rw [D 126 (by omega) (by omega), D 127 (by omega) (by omega), D 128 (by omega) (by omega)]
    exact h7.of (fun a h1 h2 => D a (by omega) (by omega))
  · exact h8.of (fun a h1 h2 => D a (by omega) (by omega)) (D 129 (by omega) (by omega)) (D 130 (by omega) (by omega)) (D 131 (by omega) (by omega))
  · refine ⟨by rw [← k1]; exact h36, W, ha.ofB (by rw [k 0 (by omega) (by omega)]) (fun a q1 q2 => k a (by omega) (by omega)), k1, k2⟩
/-- rows that prove puts down are small -/
theorem prw_R {q s R : Nat → Nat} (hI : In s) (hR : ∀ j, j < 12 → R j < 2 ^ 32) : ∀ (n : Nat), n ≤ 4 → (∀ j, j < n → q j ≤ 6) → s 1 + n ≤ s 2 → (In (mo_prw q s R n).1 ∧ (mo_prw q s R n).1 1 = s 1 + n ∧ (mo_prw q s R n).1 2 = s 2) ∧ ∀ j, j < 12 → (mo_prw q s R n).2 j < 2 ^ 32 := by
  intro n
  induction n with
  | zero => intro _ _ _; exact ⟨⟨hI, rfl, rfl⟩, hR⟩
  | succ n ih =>
    intro hn hq ht
    obtain ⟨⟨a, b, c⟩, d⟩ := ih (by omega) (fun j hj => hq j (by omega)) (by omega)
    have q6 := hq n (by omega)
    have g := In_go a q6 (by omega)
    unfold mo_prw
    dsimp only
    refine ⟨⟨g, ?_, ?_⟩, fun j hj => ?_⟩
    · rw [mo_go_1]
      omega
    · rw [mo_go_r (k := 2) _ q6 a.n (by omega)]
      exact c
    · have w1 := mo_worth_le a q6
      have o1 := mo_outs_lt g.n
      have d := d j hj
      unfold fu
      split
      · omega
      · split
        · omega
        · split
          · omega
          · exact d
/-- the actor's log reads nothing of the class's things -/
def ov (v W : ic_w) : ic_w := fun a => if a < 114 then v a else W a
theorem ov_id {v W : ic_w} (h : ∀ a, 114 ≤ a → v a = W a) : v = ov v W := by
  funext a
  unfold ov
  split
  · rfl
  · exact h a (by omega)
theorem ov_f (v W : ic_w) {a : Nat} (j : Nat) (h : 114 ≤ a) : ov v W a j = W a j := by
  unfold ov
  rw [if_neg (by omega)]
theorem ov_wu (v W : ic_w) {o : Nat} (k x : Nat) (h : 114 ≤ o) : wu (ov v W) o k x = ov v (wu W o k x) := by
  funext a j
  by_cases z : a < 114
  · rw [wu_o _ _ _ _ (by omega)]
    unfold ov
    rw [if_pos z, if_pos z]
  · rw [ov_f _ _ _ (by omega)]
    unfold wu
    split
    · rfl
    · exact ov_f _ _ _ (by omega)
theorem ov_rn (v W : ic_w) (c : Nat) : mo_rn (ov v W) c = ov v (mo_rn W c) := by
  unfold mo_rn
  rw [ov_f _ _ _ (by omega)]
  split
  · rw [ov_wu _ _ _ _ (by omega), ov_wu _ _ _ _ (by omega)]
  · rfl
theorem ov_lgs (v : ic_w) : ∀ (cs : List Nat) (W : ic_w), mo_lgs (ov v W) cs = ov v (mo_lgs W cs) := by
  intro cs
  induction cs with
  | nil => intro W; rfl
  | cons c cs ih =>
    intro W
    show mo_lgs (mo_rn (ov v W) c) cs = ov v (mo_lgs (mo_rn W c) cs)
    rw [ov_rn, ih]
theorem ov_D (v W : ic_w) : mo_D (ov v W) = mo_D W := mo_D_e (fun j _ _ => ov_f _ _ _ (by omega))
theorem ov_P (v W : ic_w) : mo_P (ov v W) = mo_P W := mo_P_e (fun j _ _ => ov_f _ _ _ (by omega))
theorem ov_wA (v W : ic_w) : mo_wA (ov v W) = ov v (mo_wA W) := by
  unfold mo_wA
  rw [ov_P, ov_rn, ov_rn, ov_wu _ _ _ _ (by omega)]
theorem ov_row (v W : ic_w) : mo_row (ov v W) = ov v (mo_row W) := by
  unfold mo_row
  rw [ov_P, ov_f _ _ 37 (by omega), ov_rn, ov_rn, ov_wA, ov_wA, ov_rn, ov_wu _ _ _ _ (by omega)]
  split
  · rfl
  · split
    · split <;> rfl
    · rfl
theorem ov_rpw (v W : ic_w) : mo_rpw (ov v W) = ov v (mo_rpw W) := by
  unfold mo_rpw
  rw [ov_f _ _ 37 (by omega), ov_rn, ov_lgs]
theorem ov_rw3 (v W : ic_w) : mo_rw3 (ov v W) = ov v (mo_rw3 W) := by
  unfold mo_rw3
  rw [ov_rn, ov_rpw, ov_row]
theorem ov_riw (v W : ic_w) : mo_riw (ov v W) = ov v (mo_riw W) := by
  unfold mo_riw
  rw [ov_f _ _ 37 (by omega), ov_P, ov_rw3, ov_lgs, ov_rpw, ov_row]
  split
  · split <;> rfl
  · rfl
theorem ov_aw (v W : ic_w) (a : Nat) : mo_aw (ov v W) a = ov v (mo_aw W a) := by
  unfold mo_aw
  rw [ov_f _ _ 37 (by omega), ov_lgs, ov_lgs, ov_row, ov_riw]
  split
  · rfl
  · split
    · rfl
    · split <;> rfl
theorem ov_rov (v W : ic_w) (x : Nat) : mo_rov (ov v W) x = mo_rov W x := by
  unfold mo_rov
  rw [ov_f _ _ 37 (by omega), ov_f _ _ 38 (by omega), ov_f _ _ 40 (by omega), ov_D, ov_P]
theorem ov_rsp (v W : ic_w) (x : Nat) : mo_rsp (ov v W) x = mo_rsp W x := by
  unfold mo_rsp
  rw [ov_f _ _ 37 (by omega), ov_f _ _ 38 (by omega), ov_f _ _ 39 (by omega), ov_rpw, ov_rov]
theorem ov_ris (v W : ic_w) (x : Nat) : mo_ris (ov v W) x = mo_ris W x := by
  unfold mo_ris
  rw [ov_f _ _ 37 (by omega), ov_f _ _ 38 (by omega), ov_f _ _ 39 (by omega), ov_P, ov_rn, ov_rsp, ov_rsp]
theorem ov_av (v W : ic_w) (a x : Nat) : mo_av (ov v W) a x = mo_av W a x := by
  unfold mo_av
  rw [ov_f _ _ 37 (by omega), ov_f _ _ 38 (by omega), ov_f _ _ 39 (by omega), ov_rov, ov_ris]
theorem ov_acc (v W : ic_w) (s B : Nat → Nat) (i : Nat) : mo_acc (ov v W) s B i = ov v (mo_acc W s B i) := by
  unfold mo_acc
  rw [ov_wu _ _ _ _ (by omega), ov_wu _ _ _ _ (by omega), ov_wu _ _ _ _ (by omega), ov_wu _ _ _ _ (by omega), ov_wu _ _ _ _ (by omega)]
/-- the actor's log sets nothing but itself and the sign of parting -/
def Aw (w u : ic_w) : Prop := (∀ a, a ≠ 114 → a ≠ 132 → u a = w a) ∧ ∀ j, j < 36 → u 114 j = w 114 j
theorem Aw.rf (w : ic_w) : Aw w w := ⟨fun _ _ _ => rfl, fun _ _ => rfl⟩
theorem Aw.tr {u v w : ic_w} (h : Aw w u) (g : Aw u v) : Aw w v := ⟨fun a q1 q2 => (g.1 a q1 q2).trans (h.1 a q1 q2), fun j q => (g.2 j q).trans (h.2 j q)⟩
theorem Aw_wu (w : ic_w) {o k : Nat} (x : Nat) (h : o = 132 ∨ (o = 114 ∧ 36 ≤ k)) : Aw w (wu w o k x) := by
  refine ⟨fun a q1 q2 => wu_row _ _ _ (by omega), fun j q => ?_⟩
  rcases h with h | h
  · exact wu_o _ _ _ _ (by omega)
  · exact wu_k _ _ _ _ (by omega)
theorem Aw_rn (w : ic_w) (c : Nat) : Aw w (mo_rn w c) := by
  unfold mo_rn
  split
  · exact (Aw_wu w c (Or.inl rfl)).tr (Aw_wu _ _ (Or.inr ⟨rfl, by omega⟩))
  · exact Aw.rf w
theorem Aw_lgs : ∀ (cs : List Nat) (w : ic_w), Aw w (mo_lgs w cs) := by
  intro cs
  induction cs with
  | nil => intro w; exact Aw.rf w
  | cons c cs ih => intro w; exact (Aw_rn w c).tr (ih _)
theorem Aw_wA (w : ic_w) : Aw w (mo_wA w) := ((Aw_rn w 40).tr (Aw_rn _ 12)).tr (Aw_wu _ _ (Or.inr ⟨rfl, by omega⟩))
theorem Aw_row (w : ic_w) : Aw w (mo_row w) := by
  unfold mo_row
  split
  · exact Aw_wA w
  · split
    · split
      · exact ((Aw_rn w 61).tr (Aw_wA _)).tr (Aw_rn _ 10)
      · exact (Aw_rn w 61).tr (Aw_wA _)
    · exact (Aw_rn w 12).tr (Aw_wu _ _ (Or.inr ⟨rfl, by omega⟩))
theorem Aw_rpw (w : ic_w) : Aw w (mo_rpw w) := (Aw_rn w 13).tr (Aw_lgs _ _)
theorem Aw_rw3 (w : ic_w) : Aw w (mo_rw3 w) := ((Aw_rn w 51).tr (Aw_rpw _)).tr (Aw_row _)
theorem Aw_riw (w : ic_w) : Aw w (mo_riw w) := by
  unfold mo_riw
  split
  · split
    · exact (Aw_rw3 w).tr (Aw_lgs _ _)
    · exact Aw_rw3 w
  · exact (Aw_rpw w).tr (Aw_row _)
theorem Aw_aw (w : ic_w) (a : Nat) : Aw w (mo_aw w a) := by
  unfold mo_aw
  split
  · exact Aw_lgs _ _
  · split
    · exact Aw_lgs _ _
    · split
      · exact Aw_row w
      · exact Aw_riw w
theorem Aw_acc (w : ic_w) (s B : Nat → Nat) (i : Nat) : Aw w (mo_acc w s B i) :=
  ((((Aw_wu w _ (Or.inr ⟨rfl, by omega⟩)).tr (Aw_wu _ _ (Or.inr ⟨rfl, by omega⟩))).tr (Aw_wu _ _ (Or.inr ⟨rfl, by omega⟩))).tr (Aw_wu _ _ (Or.inr ⟨rfl, by omega⟩))).tr (Aw_wu _ _ (Or.inr ⟨rfl, by omega⟩))
theorem Act.le {w W : ic_w} (h : Act w W) : W 114 36 ≤ 30 := by
  rcases h with h | ⟨k, _, _, _, h⟩
  · omega
  · exact h.2.1.2.1
theorem cp_all {f g : Nat → Nat} (hf : Z9 f) (hg : Z9 g) : mo_cp g 0 f 0 578 = f := by
  funext j
  unfold mo_cp
  split
  · congr 1
    omega
  · rw [hf j (by omega), hg j (by omega)]
