/-! the class: a net becomes another -/
theorem cp_at {g f : Nat → Nat} {n j : Nat} (h : j < n) : mo_cp g 0 f 0 n j = f j := by
  unfold mo_cp
  rw [if_pos (by omega)]
  congr 1
  omega
def Mk (u : ic_w) (d : Nat) (w : ic_w) (s : Nat) : Prop := u d 0 = w s 0 ∧ u d 1 = w s 1 ∧ ∀ j, j < 6 → u (d + 1) j = w (s + 1) j ∧ u (d + 2) j = w (s + 2) j
def Rk (u : ic_w) (d : Nat) (w : ic_w) (s : Nat) : Prop := u d 0 = w s 0 ∧ (∀ j, j < 8 → u (d + 1) j = w (s + 1) j ∧ u (d + 2) j = w (s + 2) j ∧ u (d + 3) j = w (s + 3) j) ∧ ∀ j, j < 200 → u (d + 4) j = w (s + 4) j
def Qk (u : ic_w) (d : Nat) (w : ic_w) (s : Nat) : Prop := u d 0 = w s 0 ∧ ∀ i, i < 6 → ∀ j, j < 4 → u (d + 2 + i) j = w (s + 2 + i) j
/-- the net at b in u is that at a in w -/
def Nk (u : ic_w) (b : Nat) (w : ic_w) (a : Nat) : Prop := (u b 10 = w a 10 ∧ u b 11 = w a 11 ∧ u b 12 = w a 12 ∧ u b 13 = w a 13) ∧ (∀ t, t < 16 → u (b + 1) t = w (a + 1) t) ∧ (∀ j, j < 6 → u (b + 2) j = w (a + 2) j ∧ u (b + 3) j = w (a + 3) j ∧ u (b + 4) j = w (a + 4) j ∧ u (b + 5) j = w (a + 5) j ∧ u (b + 6) j = w (a + 6) j) ∧ Mk u (b + 7) w (a + 7) ∧ Rk u (b + 10) w (a + 10) ∧ Qk u (b + 16) w (a + 16)
theorem Mk.re {u v w x : ic_w} {d s : Nat} (h : Mk u d w s) (e : ∀ r, r ≤ 2 → v (d + r) = u (d + r)) (f : ∀ r, r ≤ 2 → w (s + r) = x (s + r)) : Mk v d x s := by
  have e0 := e 0 (by omega)
  have f0 := f 0 (by omega)
  simp only [Nat.add_zero] at e0 f0
  refine ⟨by rw [e0, ← f0]; exact h.1, by rw [e0, ← f0]; exact h.2.1, fun j hj => ?_⟩
  rw [e 1 (by omega), e 2 (by omega), ← f 1 (by omega), ← f 2 (by omega)]
  exact h.2.2 j hj
theorem Rk.re {u v w x : ic_w} {d s : Nat} (h : Rk u d w s) (e : ∀ r, r ≤ 4 → v (d + r) = u (d + r)) (f : ∀ r, r ≤ 4 → w (s + r) = x (s + r)) : Rk v d x s := by
  have e0 := e 0 (by omega)
  have f0 := f 0 (by omega)
  simp only [Nat.add_zero] at e0 f0
  refine ⟨by rw [e0, ← f0]; exact h.1, fun j hj => ?_, fun j hj => ?_⟩
  · rw [e 1 (by omega), e 2 (by omega), e 3 (by omega), ← f 1 (by omega), ← f 2 (by omega), ← f 3 (by omega)]
    exact h.2.1 j hj
  · rw [e 4 (by omega), ← f 4 (by omega)]
    exact h.2.2 j hj
theorem Qk.re {u v w x : ic_w} {d s : Nat} (h : Qk u d w s) (e : ∀ r, r ≤ 7 → v (d + r) = u (d + r)) (f : ∀ r, r ≤ 7 → w (s + r) = x (s + r)) : Qk v d x s := by
  have e0 := e 0 (by omega)
  have f0 := f 0 (by omega)
  simp only [Nat.add_zero] at e0 f0
  refine ⟨by rw [e0, ← f0]; exact h.1, fun i hi j hj => ?_⟩
  have e2 := e (2 + i) (by omega)
  have f2 := f (2 + i) (by omega)
  rw [← Nat.add_assoc] at e2 f2
  rw [e2, ← f2]
  exact h.2 i hi j hj
theorem Nk.tr {u v w : ic_w} {a b c : Nat} (h : Nk u a v b) (g : Nk v b w c) : Nk u a w c := by
  obtain ⟨⟨a1, a2, a3, a4⟩, a5, a6, ⟨a7, a8, a9⟩, ⟨a10, a11, a12⟩, a13, a14⟩ := h
  obtain ⟨⟨b1, b2, b3, b4⟩, b5, b6, ⟨b7, b8, b9⟩, ⟨b10, b11, b12⟩, b13, b14⟩ := g
  refine ⟨⟨a1.trans b1, a2.trans b2, a3.trans b3, a4.trans b4⟩, fun t h => (a5 t h).trans (b5 t h), fun j h => ⟨(a6 j h).1.trans (b6 j h).1, (a6 j h).2.1.trans (b6 j h).2.1, (a6 j h).2.2.1.trans (b6 j h).2.2.1, (a6 j h).2.2.2.1.trans (b6 j h).2.2.2.1, (a6 j h).2.2.2.2.trans (b6 j h).2.2.2.2⟩, ⟨a7.trans b7, a8.trans b8, fun j h => ⟨(a9 j h).1.trans (b9 j h).1, (a9 j h).2.trans (b9 j h).2⟩⟩,
    ⟨a10.trans b10, fun j h => ⟨(a11 j h).1.trans (b11 j h).1, (a11 j h).2.1.trans (b11 j h).2.1, (a11 j h).2.2.trans (b11 j h).2.2⟩, fun j h => (a12 j h).trans (b12 j h)⟩, a13.trans b13, fun i hi j hj => (a14 i hi j hj).trans (b14 i hi j hj)⟩
theorem Cw.nk {u w : ic_w} {s : Nat → Nat} (h : Cw w s) (hI : In s) (h5 : s 5 ≤ 8) (h7 : s 7 ≤ 200) (g : Nk u 39 w 39) : Cw u s := by
  obtain ⟨⟨⟨n1, n2⟩, n3, n4, n5, ⟨r1, r2, r3⟩, q1, q2⟩, ⟨m1, m2, m3⟩, z1, z2⟩ := h
  obtain ⟨⟨a1, a2, a3, a4⟩, a5, a6, ⟨a7, a8, a9⟩, ⟨a10, a11, a12⟩, a13, a14⟩ := g
  have n0 := hI.n
  refine ⟨⟨⟨a1.trans n1, a2.trans n2⟩, fun k hk => ?_, fun f hf => ?_, fun t ht => (a5 t ht).trans (n5 t ht), ⟨a10.trans r1, fun i hi => ?_, fun k hk => (a12 k (by omega)).trans (r3 k hk)⟩, a13.trans q1, fun i h1 h2 j hj => (a14 i h1 j hj).trans (q2 i h1 h2 j hj)⟩, ⟨a7.trans m1, a8.trans m2, fun k hk => ?_⟩, a3.trans z1, a4.trans z2⟩
  · have a := a6 k (by omega)
    have b := n3 k hk
    exact ⟨a.2.2.1.trans b.1, b.2.1, a.2.2.2.1.trans b.2.2.1, a.2.2.2.2.trans b.2.2.2⟩
  · have a := a6 f hf
    have b := n4 f hf
    exact ⟨a.1.trans b.1, a.2.1.trans b.2⟩
  · have a := a11 i (by omega)
    have b := r2 i hi
    exact ⟨a.1.trans b.1, a.2.1.trans b.2.1, a.2.2.trans b.2.2.1, b.2.2.2⟩
  · have a := a9 k (by omega)
    have b := m3 k hk
    exact ⟨a.1.trans b.1, a.2.trans b.2⟩
set_option maxHeartbeats 4000000 in
set_option maxRecDepth 100000 in
theorem cC_momB_74 {l : Launch} {E : ic_E} {w : ic_w}  : ic_C l E mX4_become 1 0 0 False [ic_pt E 74, ic_pt E 46] SHs (hn w) SHs (ic_qv (fun h_ => ∃ w2, h_ = hn w2 ∧ (∀ a, a < 74 ∨ 76 < a → w2 a = w a) ∧ Mk w2 74 w 46)) := by
  refine ic_intro (by decide +kernel) (Nat.le_of_ble_eq_true rfl) ?_
  show xx l E _ _ 0 [(0, ic_pt E 74), (1, ic_pt E 46)] _ _ _
  refine xx_aload_nP (pc := 0) dX4_become_0 0 rfl rfl ?_
  refine xx_aload_nP (pc := 1) dX4_become_1 1 rfl rfl ?_
  refine xx_getN (pc := 2) dX4_become_2 sh_46 fX4_18_4 rfl ?_
  refine xx_putN (pc := 5) dX4_become_5 sh_74 fX4_18_4 rfl rfl ?_
  refine xx_nw (fun w1 ew1 => ?_)
  have fr_w1 : ∀ a, a ≠ 74 → w1 a = w a := fun a h => by rw [ew1, wu_row _ _ _ h]
  have fk_w1 : ∀ j, j ≠ 0 → w1 74 j = w 74 j := fun j h => by rw [ew1, wu_k _ _ _ _ h]
  have cv_w1 : w1 74 0 = w 46 0 := by rw [ew1, wu_s]
  refine xx_aload_nP (pc := 8) dX4_become_8 0 rfl rfl ?_
  refine xx_aload_nP (pc := 9) dX4_become_9 1 rfl rfl ?_
  refine xx_getN (pc := 10) dX4_become_10 sh_46 fX4_22_4 rfl ?_
  refine xx_putN (pc := 13) dX4_become_13 sh_74 fX4_22_4 rfl rfl ?_
  refine xx_nw (fun w2 ew2 => ?_)
  have fr_w2 : ∀ a, a ≠ 74 → w2 a = w1 a := fun a h => by rw [ew2, wu_row _ _ _ h]
  have fk_w2 : ∀ j, j ≠ 1 → w2 74 j = w1 74 j := fun j h => by rw [ew2, wu_k _ _ _ _ h]
  have cv_w2 : w2 74 1 = w1 46 1 := by rw [ew2, wu_s]
  refine xx_aload_nP (pc := 16) dX4_become_16 1 rfl rfl ?_
  refine xx_getR (pc := 17) 47 dX4_become_17 sh_46 fX4_9_4 rfl rfl (by decide) ?_
  refine xx_iconst (pc := 20) dX4_become_20 cc_iconst_0 ?_
  refine xx_aload_nP (pc := 21) dX4_become_21 0 rfl rfl ?_
  refine xx_getR (pc := 22) 75 dX4_become_22 sh_74 fX4_9_4 rfl rfl (by decide) ?_
  refine xx_iconst (pc := 25) dX4_become_25 cc_iconst_0 ?_
  refine xx_bipush (pc := 26) dX4_become_26 cc_bipush_6 ?_
  refine xx_copyN (pc := 28) (st := []) rfl dX4_become_28 aX4_25 sh_47 sh_75 (by omega) (by omega) (by decide) ⟨Nat.le_of_ble_eq_true rfl, Nat.le_of_ble_eq_true rfl⟩ ?_
  refine xx_nw (fun w3 ew3 => ?_)
  have fr_w3 : ∀ a, a ≠ 75 → w3 a = w2 a := fun a h => by rw [ew3, wr_n _ h]
  have cp_w3 : ∀ j, j < 6 → w3 75 j = w2 47 j := fun j hj => by rw [ew3, wr_s, cp_at hj]
  refine xx_aload_nP (pc := 31) dX4_become_31 1 rfl rfl ?_
  refine xx_getR (pc := 32) 48 dX4_become_32 sh_46 fX4_15_4 rfl rfl (by decide) ?_
  refine xx_iconst (pc := 35) dX4_become_35 cc_iconst_0 ?_
  refine xx_aload_nP (pc := 36) dX4_become_36 0 rfl rfl ?_
  refine xx_getR (pc := 37) 76 dX4_become_37 sh_74 fX4_15_4 rfl rfl (by decide) ?_
  refine xx_iconst (pc := 40) dX4_become_40 cc_iconst_0 ?_
  refine xx_bipush (pc := 41) dX4_become_41 cc_bipush_6 ?_
  refine xx_copyN (pc := 43) (st := []) rfl dX4_become_43 aX4_25 sh_48 sh_76 (by omega) (by omega) (by decide) ⟨Nat.le_of_ble_eq_true rfl, Nat.le_of_ble_eq_true rfl⟩ ?_
  refine xx_nw (fun w4 ew4 => ?_)
  have fr_w4 : ∀ a, a ≠ 76 → w4 a = w3 a := fun a h => by rw [ew4, wr_n _ h]
  have cp_w4 : ∀ j, j < 6 → w4 76 j = w3 48 j := fun j hj => by rw [ew4, wr_s, cp_at hj]
  exact xx_vret (pc := 46) dX4_become_46 rfl (Nat.le_refl _) (Nat.le_refl _) (ic_rv0 ⟨w4, rfl, fun a ha => by rw [fr_w4 _ (by omega), fr_w3 _ (by omega), fr_w2 _ (by omega), fr_w1 _ (by omega)], ⟨(show w4 74 0 = w 46 0 by rw [fr_w4 _ (by omega), fr_w3 _ (by omega), fk_w2 _ (by omega), cv_w1]), (show w4 74 1 = w 46 1 by rw [fr_w4 _ (by omega), fr_w3 _ (by omega), cv_w2, fr_w1 _ (by omega)]), fun j hj => ⟨(show w4 75 j = w 47 j by rw [fr_w4 _ (by omega), cp_w3 _ hj, fr_w2 _ (by omega), fr_w1 _ (by omega)]), (show w4 76 j = w 48 j by rw [cp_w4 _ hj, fr_w3 _ (by omega), fr_w2 _ (by omega), fr_w1 _ (by omega)])⟩⟩⟩)

set_option maxHeartbeats 4000000 in
set_option maxRecDepth 100000 in
theorem cC_momB_46 {l : Launch} {E : ic_E} {w : ic_w}  : ic_C l E mX4_become 1 0 0 False [ic_pt E 46, ic_pt E 74] SHs (hn w) SHs (ic_qv (fun h_ => ∃ w2, h_ = hn w2 ∧ (∀ a, a < 46 ∨ 48 < a → w2 a = w a) ∧ Mk w2 46 w 74)) := by
  refine ic_intro (by decide +kernel) (Nat.le_of_ble_eq_true rfl) ?_
  show xx l E _ _ 0 [(0, ic_pt E 46), (1, ic_pt E 74)] _ _ _
  refine xx_aload_nP (pc := 0) dX4_become_0 0 rfl rfl ?_
  refine xx_aload_nP (pc := 1) dX4_become_1 1 rfl rfl ?_
  refine xx_getN (pc := 2) dX4_become_2 sh_74 fX4_18_4 rfl ?_
  refine xx_putN (pc := 5) dX4_become_5 sh_46 fX4_18_4 rfl rfl ?_
  refine xx_nw (fun w1 ew1 => ?_)
  have fr_w1 : ∀ a, a ≠ 46 → w1 a = w a := fun a h => by rw [ew1, wu_row _ _ _ h]
  have fk_w1 : ∀ j, j ≠ 0 → w1 46 j = w 46 j := fun j h => by rw [ew1, wu_k _ _ _ _ h]
  have cv_w1 : w1 46 0 = w 74 0 := by rw [ew1, wu_s]
  refine xx_aload_nP (pc := 8) dX4_become_8 0 rfl rfl ?_
  refine xx_aload_nP (pc := 9) dX4_become_9 1 rfl rfl ?_
  refine xx_getN (pc := 10) dX4_become_10 sh_74 fX4_22_4 rfl ?_
  refine xx_putN (pc := 13) dX4_become_13 sh_46 fX4_22_4 rfl rfl ?_
  refine xx_nw (fun w2 ew2 => ?_)
  have fr_w2 : ∀ a, a ≠ 46 → w2 a = w1 a := fun a h => by rw [ew2, wu_row _ _ _ h]
  have fk_w2 : ∀ j, j ≠ 1 → w2 46 j = w1 46 j := fun j h => by rw [ew2, wu_k _ _ _ _ h]
  have cv_w2 : w2 46 1 = w1 74 1 := by rw [ew2, wu_s]
  refine xx_aload_nP (pc := 16) dX4_become_16 1 rfl rfl ?_
  refine xx_getR (pc := 17) 75 dX4_become_17 sh_74 fX4_9_4 rfl rfl (by decide) ?_
  refine xx_iconst (pc := 20) dX4_become_20 cc_iconst_0 ?_
  refine xx_aload_nP (pc := 21) dX4_become_21 0 rfl rfl ?_
  refine xx_getR (pc := 22) 47 dX4_become_22 sh_46 fX4_9_4 rfl rfl (by decide) ?_
  refine xx_iconst (pc := 25) dX4_become_25 cc_iconst_0 ?_
  refine xx_bipush (pc := 26) dX4_become_26 cc_bipush_6 ?_
  refine xx_copyN (pc := 28) (st := []) rfl dX4_become_28 aX4_25 sh_75 sh_47 (by omega) (by omega) (by decide) ⟨Nat.le_of_ble_eq_true rfl, Nat.le_of_ble_eq_true rfl⟩ ?_
  refine xx_nw (fun w3 ew3 => ?_)
  have fr_w3 : ∀ a, a ≠ 47 → w3 a = w2 a := fun a h => by rw [ew3, wr_n _ h]
  have cp_w3 : ∀ j, j < 6 → w3 47 j = w2 75 j := fun j hj => by rw [ew3, wr_s, cp_at hj]
  refine xx_aload_nP (pc := 31) dX4_become_31 1 rfl rfl ?_
  refine xx_getR (pc := 32) 76 dX4_become_32 sh_74 fX4_15_4 rfl rfl (by decide) ?_
  refine xx_iconst (pc := 35) dX4_become_35 cc_iconst_0 ?_
  refine xx_aload_nP (pc := 36) dX4_become_36 0 rfl rfl ?_
  refine xx_getR (pc := 37) 48 dX4_become_37 sh_46 fX4_15_4 rfl rfl (by decide) ?_
  refine xx_iconst (pc := 40) dX4_become_40 cc_iconst_0 ?_
  refine xx_bipush (pc := 41) dX4_become_41 cc_bipush_6 ?_
  refine xx_copyN (pc := 43) (st := []) rfl dX4_become_43 aX4_25 sh_76 sh_48 (by omega) (by omega) (by decide) ⟨Nat.le_of_ble_eq_true rfl, Nat.le_of_ble_eq_true rfl⟩ ?_
  refine xx_nw (fun w4 ew4 => ?_)
  have fr_w4 : ∀ a, a ≠ 48 → w4 a = w3 a := fun a h => by rw [ew4, wr_n _ h]
  have cp_w4 : ∀ j, j < 6 → w4 48 j = w3 76 j := fun j hj => by rw [ew4, wr_s, cp_at hj]
  exact xx_vret (pc := 46) dX4_become_46 rfl (Nat.le_refl _) (Nat.le_refl _) (ic_rv0 ⟨w4, rfl, fun a ha => by rw [fr_w4 _ (by omega), fr_w3 _ (by omega), fr_w2 _ (by omega), fr_w1 _ (by omega)], ⟨(show w4 46 0 = w 74 0 by rw [fr_w4 _ (by omega), fr_w3 _ (by omega), fk_w2 _ (by omega), cv_w1]), (show w4 46 1 = w 74 1 by rw [fr_w4 _ (by omega), fr_w3 _ (by omega), cv_w2, fr_w1 _ (by omega)]), fun j hj => ⟨(show w4 47 j = w 75 j by rw [fr_w4 _ (by omega), cp_w3 _ hj, fr_w2 _ (by omega), fr_w1 _ (by omega)]), (show w4 48 j = w 76 j by rw [cp_w4 _ hj, fr_w3 _ (by omega), fr_w2 _ (by omega), fr_w1 _ (by omega)])⟩⟩⟩)

set_option maxHeartbeats 4000000 in
set_option maxRecDepth 100000 in
theorem cC_rulB_77 {l : Launch} {E : ic_E} {w : ic_w}  : ic_C l E mX10_become 1 0 0 False [ic_pt E 77, ic_pt E 49] SHs (hn w) SHs (ic_qv (fun h_ => ∃ w2, h_ = hn w2 ∧ (∀ a, a < 77 ∨ 81 < a → w2 a = w a) ∧ Rk w2 77 w 49)) := by
  refine ic_intro (by decide +kernel) (Nat.le_of_ble_eq_true rfl) ?_
  show xx l E _ _ 0 [(0, ic_pt E 77), (1, ic_pt E 49)] _ _ _
  refine xx_aload_nP (pc := 0) dX10_become_0 0 rfl rfl ?_
  refine xx_aload_nP (pc := 1) dX10_become_1 1 rfl rfl ?_
  refine xx_getN (pc := 2) dX10_become_2 sh_49 fX10_28_10 rfl ?_
  refine xx_putN (pc := 5) dX10_become_5 sh_77 fX10_28_10 rfl rfl ?_
  refine xx_nw (fun w1 ew1 => ?_)
  have fr_w1 : ∀ a, a ≠ 77 → w1 a = w a := fun a h => by rw [ew1, wu_row _ _ _ h]
  have fk_w1 : ∀ j, j ≠ 0 → w1 77 j = w 77 j := fun j h => by rw [ew1, wu_k _ _ _ _ h]
  have cv_w1 : w1 77 0 = w 49 0 := by rw [ew1, wu_s]
  refine xx_aload_nP (pc := 8) dX10_become_8 0 rfl rfl ?_
  refine xx_aload_nP (pc := 9) dX10_become_9 1 rfl rfl ?_
  refine xx_getN (pc := 10) dX10_become_10 sh_49 fX10_32_10 rfl ?_
  refine xx_putN (pc := 13) dX10_become_13 sh_77 fX10_32_10 rfl rfl ?_
  refine xx_nw (fun w2 ew2 => ?_)
  have fr_w2 : ∀ a, a ≠ 77 → w2 a = w1 a := fun a h => by rw [ew2, wu_row _ _ _ h]
  have fk_w2 : ∀ j, j ≠ 5 → w2 77 j = w1 77 j := fun j h => by rw [ew2, wu_k _ _ _ _ h]
  have cv_w2 : w2 77 5 = w1 49 5 := by rw [ew2, wu_s]
  refine xx_aload_nP (pc := 16) dX10_become_16 1 rfl rfl ?_
  refine xx_getR (pc := 17) 50 dX10_become_17 sh_49 fX10_11_10 rfl rfl (by decide) ?_
  refine xx_iconst (pc := 20) dX10_become_20 cc_iconst_0 ?_
  refine xx_aload_nP (pc := 21) dX10_become_21 0 rfl rfl ?_
  refine xx_getR (pc := 22) 78 dX10_become_22 sh_77 fX10_11_10 rfl rfl (by decide) ?_
  refine xx_iconst (pc := 25) dX10_become_25 cc_iconst_0 ?_
  refine xx_bipush (pc := 26) dX10_become_26 cc_bipush_8 ?_
  refine xx_copyN (pc := 28) (st := []) rfl dX10_become_28 aX10_35 sh_50 sh_78 (by omega) (by omega) (by decide) ⟨Nat.le_of_ble_eq_true rfl, Nat.le_of_ble_eq_true rfl⟩ ?_
  refine xx_nw (fun w3 ew3 => ?_)
  have fr_w3 : ∀ a, a ≠ 78 → w3 a = w2 a := fun a h => by rw [ew3, wr_n _ h]
  have cp_w3 : ∀ j, j < 8 → w3 78 j = w2 50 j := fun j hj => by rw [ew3, wr_s, cp_at hj]
  refine xx_aload_nP (pc := 31) dX10_become_31 1 rfl rfl ?_
  refine xx_getR (pc := 32) 51 dX10_become_32 sh_49 fX10_15_10 rfl rfl (by decide) ?_
  refine xx_iconst (pc := 35) dX10_become_35 cc_iconst_0 ?_
  refine xx_aload_nP (pc := 36) dX10_become_36 0 rfl rfl ?_
  refine xx_getR (pc := 37) 79 dX10_become_37 sh_77 fX10_15_10 rfl rfl (by decide) ?_
  refine xx_iconst (pc := 40) dX10_become_40 cc_iconst_0 ?_
  refine xx_bipush (pc := 41) dX10_become_41 cc_bipush_8 ?_
  refine xx_copyN (pc := 43) (st := []) rfl dX10_become_43 aX10_35 sh_51 sh_79 (by omega) (by omega) (by decide) ⟨Nat.le_of_ble_eq_true rfl, Nat.le_of_ble_eq_true rfl⟩ ?_
  refine xx_nw (fun w4 ew4 => ?_)
  have fr_w4 : ∀ a, a ≠ 79 → w4 a = w3 a := fun a h => by rw [ew4, wr_n _ h]
  have cp_w4 : ∀ j, j < 8 → w4 79 j = w3 51 j := fun j hj => by rw [ew4, wr_s, cp_at hj]
  refine xx_aload_nP (pc := 46) dX10_become_46 1 rfl rfl ?_
  refine xx_getR (pc := 47) 52 dX10_become_47 sh_49 fX10_18_10 rfl rfl (by decide) ?_
  refine xx_iconst (pc := 50) dX10_become_50 cc_iconst_0 ?_
  refine xx_aload_nP (pc := 51) dX10_become_51 0 rfl rfl ?_
  refine xx_getR (pc := 52) 80 dX10_become_52 sh_77 fX10_18_10 rfl rfl (by decide) ?_
  refine xx_iconst (pc := 55) dX10_become_55 cc_iconst_0 ?_
  refine xx_bipush (pc := 56) dX10_become_56 cc_bipush_8 ?_
  refine xx_copyN (pc := 58) (st := []) rfl dX10_become_58 aX10_35 sh_52 sh_80 (by omega) (by omega) (by decide) ⟨Nat.le_of_ble_eq_true rfl, Nat.le_of_ble_eq_true rfl⟩ ?_
  refine xx_nw (fun w5 ew5 => ?_)
  have fr_w5 : ∀ a, a ≠ 80 → w5 a = w4 a := fun a h => by rw [ew5, wr_n _ h]
  have cp_w5 : ∀ j, j < 8 → w5 80 j = w4 52 j := fun j hj => by rw [ew5, wr_s, cp_at hj]
  refine xx_aload_nP (pc := 61) dX10_become_61 1 rfl rfl ?_
  refine xx_getR (pc := 62) 53 dX10_become_62 sh_49 fX10_21_10 rfl rfl (by decide) ?_
  refine xx_iconst (pc := 65) dX10_become_65 cc_iconst_0 ?_
  refine xx_aload_nP (pc := 66) dX10_become_66 0 rfl rfl ?_
  refine xx_getR (pc := 67) 81 dX10_become_67 sh_77 fX10_21_10 rfl rfl (by decide) ?_
  refine xx_iconst (pc := 70) dX10_become_70 cc_iconst_0 ?_
  refine xx_sipush (pc := 71) dX10_become_71 cc_sipush_200 ?_
  refine xx_copyN (pc := 74) (st := []) rfl dX10_become_74 aX10_35 sh_53 sh_81 (by omega) (by omega) (by decide) ⟨Nat.le_of_ble_eq_true rfl, Nat.le_of_ble_eq_true rfl⟩ ?_
  refine xx_nw (fun w6 ew6 => ?_)
  have fr_w6 : ∀ a, a ≠ 81 → w6 a = w5 a := fun a h => by rw [ew6, wr_n _ h]
  have cp_w6 : ∀ j, j < 200 → w6 81 j = w5 53 j := fun j hj => by rw [ew6, wr_s, cp_at hj]
  exact xx_vret (pc := 77) dX10_become_77 rfl (Nat.le_refl _) (Nat.le_refl _) (ic_rv0 ⟨w6, rfl, fun a ha => by rw [fr_w6 _ (by omega), fr_w5 _ (by omega), fr_w4 _ (by omega), fr_w3 _ (by omega), fr_w2 _ (by omega), fr_w1 _ (by omega)], ⟨(show w6 77 0 = w 49 0 by rw [fr_w6 _ (by omega), fr_w5 _ (by omega), fr_w4 _ (by omega), fr_w3 _ (by omega), fk_w2 _ (by omega), cv_w1]), fun j hj => ⟨(show w6 78 j = w 50 j by rw [fr_w6 _ (by omega), fr_w5 _ (by omega), fr_w4 _ (by omega), cp_w3 _ hj, fr_w2 _ (by omega), fr_w1 _ (by omega)]), (show w6 79 j = w 51 j by rw [fr_w6 _ (by omega), fr_w5 _ (by omega), cp_w4 _ hj, fr_w3 _ (by omega), fr_w2 _ (by omega), fr_w1 _ (by omega)]), (show w6 80 j = w 52 j by rw [fr_w6 _ (by omega), cp_w5 _ hj, fr_w4 _ (by omega), fr_w3 _ (by omega), fr_w2 _ (by omega), fr_w1 _ (by omega)])⟩, fun j hj => (show w6 81 j = w 53 j by rw [cp_w6 _ hj, fr_w5 _ (by omega), fr_w4 _ (by omega), fr_w3 _ (by omega), fr_w2 _ (by omega), fr_w1 _ (by omega)])⟩⟩)

set_option maxHeartbeats 4000000 in
set_option maxRecDepth 100000 in
theorem cC_rulB_49 {l : Launch} {E : ic_E} {w : ic_w}  : ic_C l E mX10_become 1 0 0 False [ic_pt E 49, ic_pt E 77] SHs (hn w) SHs (ic_qv (fun h_ => ∃ w2, h_ = hn w2 ∧ (∀ a, a < 49 ∨ 53 < a → w2 a = w a) ∧ Rk w2 49 w 77)) := by
  refine ic_intro (by decide +kernel) (Nat.le_of_ble_eq_true rfl) ?_
  show xx l E _ _ 0 [(0, ic_pt E 49), (1, ic_pt E 77)] _ _ _
  refine xx_aload_nP (pc := 0) dX10_become_0 0 rfl rfl ?_
  refine xx_aload_nP (pc := 1) dX10_become_1 1 rfl rfl ?_
  refine xx_getN (pc := 2) dX10_become_2 sh_77 fX10_28_10 rfl ?_
  refine xx_putN (pc := 5) dX10_become_5 sh_49 fX10_28_10 rfl rfl ?_
  refine xx_nw (fun w1 ew1 => ?_)
  have fr_w1 : ∀ a, a ≠ 49 → w1 a = w a := fun a h => by rw [ew1, wu_row _ _ _ h]
  have fk_w1 : ∀ j, j ≠ 0 → w1 49 j = w 49 j := fun j h => by rw [ew1, wu_k _ _ _ _ h]
  have cv_w1 : w1 49 0 = w 77 0 := by rw [ew1, wu_s]
  refine xx_aload_nP (pc := 8) dX10_become_8 0 rfl rfl ?_
  refine xx_aload_nP (pc := 9) dX10_become_9 1 rfl rfl ?_
  refine xx_getN (pc := 10) dX10_become_10 sh_77 fX10_32_10 rfl ?_
  refine xx_putN (pc := 13) dX10_become_13 sh_49 fX10_32_10 rfl rfl ?_
  refine xx_nw (fun w2 ew2 => ?_)
  have fr_w2 : ∀ a, a ≠ 49 → w2 a = w1 a := fun a h => by rw [ew2, wu_row _ _ _ h]
  have fk_w2 : ∀ j, j ≠ 5 → w2 49 j = w1 49 j := fun j h => by rw [ew2, wu_k _ _ _ _ h]
  have cv_w2 : w2 49 5 = w1 77 5 := by rw [ew2, wu_s]
  refine xx_aload_nP (pc := 16) dX10_become_16 1 rfl rfl ?_
  refine xx_getR (pc := 17) 78 dX10_become_17 sh_77 fX10_11_10 rfl rfl (by decide) ?_
  refine xx_iconst (pc := 20) dX10_become_20 cc_iconst_0 ?_
  refine xx_aload_nP (pc := 21) dX10_become_21 0 rfl rfl ?_
  refine xx_getR (pc := 22) 50 dX10_become_22 sh_49 fX10_11_10 rfl rfl (by decide) ?_
  refine xx_iconst (pc := 25) dX10_become_25 cc_iconst_0 ?_
  refine xx_bipush (pc := 26) dX10_become_26 cc_bipush_8 ?_
  refine xx_copyN (pc := 28) (st := []) rfl dX10_become_28 aX10_35 sh_78 sh_50 (by omega) (by omega) (by decide) ⟨Nat.le_of_ble_eq_true rfl, Nat.le_of_ble_eq_true rfl⟩ ?_
  refine xx_nw (fun w3 ew3 => ?_)
  have fr_w3 : ∀ a, a ≠ 50 → w3 a = w2 a := fun a h => by rw [ew3, wr_n _ h]
  have cp_w3 : ∀ j, j < 8 → w3 50 j = w2 78 j := fun j hj => by rw [ew3, wr_s, cp_at hj]
  refine xx_aload_nP (pc := 31) dX10_become_31 1 rfl rfl ?_
  refine xx_getR (pc := 32) 79 dX10_become_32 sh_77 fX10_15_10 rfl rfl (by decide) ?_
  refine xx_iconst (pc := 35) dX10_become_35 cc_iconst_0 ?_
  refine xx_aload_nP (pc := 36) dX10_become_36 0 rfl rfl ?_
  refine xx_getR (pc := 37) 51 dX10_become_37 sh_49 fX10_15_10 rfl rfl (by decide) ?_
  refine xx_iconst (pc := 40) dX10_become_40 cc_iconst_0 ?_
  refine xx_bipush (pc := 41) dX10_become_41 cc_bipush_8 ?_
  refine xx_copyN (pc := 43) (st := []) rfl dX10_become_43 aX10_35 sh_79 sh_51 (by omega) (by omega) (by decide) ⟨Nat.le_of_ble_eq_true rfl, Nat.le_of_ble_eq_true rfl⟩ ?_
  refine xx_nw (fun w4 ew4 => ?_)
  have fr_w4 : ∀ a, a ≠ 51 → w4 a = w3 a := fun a h => by rw [ew4, wr_n _ h]
  have cp_w4 : ∀ j, j < 8 → w4 51 j = w3 79 j := fun j hj => by rw [ew4, wr_s, cp_at hj]
  refine xx_aload_nP (pc := 46) dX10_become_46 1 rfl rfl ?_
  refine xx_getR (pc := 47) 80 dX10_become_47 sh_77 fX10_18_10 rfl rfl (by decide) ?_
  refine xx_iconst (pc := 50) dX10_become_50 cc_iconst_0 ?_
  refine xx_aload_nP (pc := 51) dX10_become_51 0 rfl rfl ?_
  refine xx_getR (pc := 52) 52 dX10_become_52 sh_49 fX10_18_10 rfl rfl (by decide) ?_
  refine xx_iconst (pc := 55) dX10_become_55 cc_iconst_0 ?_
  refine xx_bipush (pc := 56) dX10_become_56 cc_bipush_8 ?_
  refine xx_copyN (pc := 58) (st := []) rfl dX10_become_58 aX10_35 sh_80 sh_52 (by omega) (by omega) (by decide) ⟨Nat.le_of_ble_eq_true rfl, Nat.le_of_ble_eq_true rfl⟩ ?_
  refine xx_nw (fun w5 ew5 => ?_)
  have fr_w5 : ∀ a, a ≠ 52 → w5 a = w4 a := fun a h => by rw [ew5, wr_n _ h]
  have cp_w5 : ∀ j, j < 8 → w5 52 j = w4 80 j := fun j hj => by rw [ew5, wr_s, cp_at hj]
  refine xx_aload_nP (pc := 61) dX10_become_61 1 rfl rfl ?_
  refine xx_getR (pc := 62) 81 dX10_become_62 sh_77 fX10_21_10 rfl rfl (by decide) ?_
  refine xx_iconst (pc := 65) dX10_become_65 cc_iconst_0 ?_
  refine xx_aload_nP (pc := 66) dX10_become_66 0 rfl rfl ?_
  refine xx_getR (pc := 67) 53 dX10_become_67 sh_49 fX10_21_10 rfl rfl (by decide) ?_
  refine xx_iconst (pc := 70) dX10_become_70 cc_iconst_0 ?_
  refine xx_sipush (pc := 71) dX10_become_71 cc_sipush_200 ?_
  refine xx_copyN (pc := 74) (st := []) rfl dX10_become_74 aX10_35 sh_81 sh_53 (by omega) (by omega) (by decide) ⟨Nat.le_of_ble_eq_true rfl, Nat.le_of_ble_eq_true rfl⟩ ?_
  refine xx_nw (fun w6 ew6 => ?_)
  have fr_w6 : ∀ a, a ≠ 53 → w6 a = w5 a := fun a h => by rw [ew6, wr_n _ h]
  have cp_w6 : ∀ j, j < 200 → w6 53 j = w5 81 j := fun j hj => by rw [ew6, wr_s, cp_at hj]
  exact xx_vret (pc := 77) dX10_become_77 rfl (Nat.le_refl _) (Nat.le_refl _) (ic_rv0 ⟨w6, rfl, fun a ha => by rw [fr_w6 _ (by omega), fr_w5 _ (by omega), fr_w4 _ (by omega), fr_w3 _ (by omega), fr_w2 _ (by omega), fr_w1 _ (by omega)], ⟨(show w6 49 0 = w 77 0 by rw [fr_w6 _ (by omega), fr_w5 _ (by omega), fr_w4 _ (by omega), fr_w3 _ (by omega), fk_w2 _ (by omega), cv_w1]), fun j hj => ⟨(show w6 50 j = w 78 j by rw [fr_w6 _ (by omega), fr_w5 _ (by omega), fr_w4 _ (by omega), cp_w3 _ hj, fr_w2 _ (by omega), fr_w1 _ (by omega)]), (show w6 51 j = w 79 j by rw [fr_w6 _ (by omega), fr_w5 _ (by omega), cp_w4 _ hj, fr_w3 _ (by omega), fr_w2 _ (by omega), fr_w1 _ (by omega)]), (show w6 52 j = w 80 j by rw [fr_w6 _ (by omega), cp_w5 _ hj, fr_w4 _ (by omega), fr_w3 _ (by omega), fr_w2 _ (by omega), fr_w1 _ (by omega)])⟩, fun j hj => (show w6 53 j = w 81 j by rw [cp_w6 _ hj, fr_w5 _ (by omega), fr_w4 _ (by omega), fr_w3 _ (by omega), fr_w2 _ (by omega), fr_w1 _ (by omega)])⟩⟩)

set_option maxHeartbeats 4000000 in
set_option maxRecDepth 100000 in
theorem cC_repB_83 {l : Launch} {E : ic_E} {w : ic_w}  : ic_C l E mX8_become 1 0 0 False [ic_pt E 83, ic_pt E 55] SHs (hn w) SHs (ic_qv (fun h_ => ∃ w2, h_ = hn w2 ∧ (∀ a, a < 83 ∨ 90 < a → w2 a = w a) ∧ Qk w2 83 w 55)) := by
  refine ic_intro (by decide +kernel) (Nat.le_of_ble_eq_true rfl) ?_
  show xx l E _ _ 0 [(0, ic_pt E 83), (1, ic_pt E 55)] _ _ _
  refine xx_aload_nP (pc := 0) dX8_become_0 0 rfl rfl ?_
  refine xx_aload_nP (pc := 1) dX8_become_1 1 rfl rfl ?_
  refine xx_getN (pc := 2) dX8_become_2 sh_55 fX8_23_8 rfl ?_
  refine xx_putN (pc := 5) dX8_become_5 sh_83 fX8_23_8 rfl rfl ?_
  refine xx_nw (fun w1 ew1 => ?_)
  have fr_w1 : ∀ a, a ≠ 83 → w1 a = w a := fun a h => by rw [ew1, wu_row _ _ _ h]
  have fk_w1 : ∀ j, j ≠ 0 → w1 83 j = w 83 j := fun j h => by rw [ew1, wu_k _ _ _ _ h]
  have cv_w1 : w1 83 0 = w 55 0 := by rw [ew1, wu_s]
  refine xx_iconst (pc := 8) dX8_become_8 cc_iconst_0 ?_
  refine xx_istore_n (L' := [(2, .int (nI 0)), (0, ic_pt E 83), (1, ic_pt E 55)]) (pc := 9) dX8_become_9 rfl (Nat.le_of_ble_eq_true rfl) rfl ?_
  refine xx_iload_n (pc := 10) dX8_become_10 0 rfl rfl ?_
  refine xx_bipush (pc := 11) dX8_become_11 cc_bipush_6 ?_
  refine xx_icmp_geN (pc := 13) 40 dX8_become_13 rfl (by omega) (by omega) (fun c2 => by exfalso; omega) (fun c2 => ?_)
  refine xx_aload_nP (pc := 16) dX8_become_16 2 rfl rfl ?_
  refine xx_getR (pc := 17) 56 dX8_become_17 sh_55 fX8_11_8 rfl rfl (by decide) ?_
  refine xx_iload_n (pc := 20) dX8_become_20 0 rfl rfl ?_
  refine xx_aald (pc := 21) 0 57 dX8_become_21 sh_56 (by decide) rfl (by omega) (by decide) (rfl) ?_
  refine xx_iconst (pc := 22) dX8_become_22 cc_iconst_0 ?_
  refine xx_aload_nP (pc := 23) dX8_become_23 1 rfl rfl ?_
  refine xx_getR (pc := 24) 84 dX8_become_24 sh_83 fX8_11_8 rfl rfl (by decide) ?_
  refine xx_iload_n (pc := 27) dX8_become_27 0 rfl rfl ?_
  refine xx_aald (pc := 28) 0 85 dX8_become_28 sh_84 (by decide) rfl (by omega) (by decide) (rfl) ?_
  refine xx_iconst (pc := 29) dX8_become_29 cc_iconst_0 ?_
  refine xx_iconst (pc := 30) dX8_become_30 cc_iconst_4 ?_
  refine xx_copyN (pc := 31) (st := []) rfl dX8_become_31 aX8_27 sh_57 sh_85 (by omega) (by omega) (by decide) ⟨Nat.le_of_ble_eq_true rfl, Nat.le_of_ble_eq_true rfl⟩ ?_
  refine xx_nw (fun w3 ew3 => ?_)
  have fr_w3 : ∀ a, a ≠ 85 → w3 a = w1 a := fun a h => by rw [ew3, wr_n _ h]
  have cp_w3 : ∀ j, j < 4 → w3 85 j = w1 57 j := fun j hj => by rw [ew3, wr_s, cp_at hj]
  refine xx_iincN (L' := [(2, .int (nI 1)), (0, ic_pt E 83), (1, ic_pt E 55)]) (pc := 34) dX8_become_34 0 rfl cc_iconst_1 (Nat.le_of_ble_eq_true rfl) rfl ?_
  refine xx_goto (pc := 37) 10 dX8_become_37 rfl ?_
  refine xx_iload_n (pc := 10) dX8_become_10 0 rfl rfl ?_
  refine xx_bipush (pc := 11) dX8_become_11 cc_bipush_6 ?_
  refine xx_icmp_geN (pc := 13) 40 dX8_become_13 rfl (by omega) (by omega) (fun c4 => by exfalso; omega) (fun c4 => ?_)
  refine xx_aload_nP (pc := 16) dX8_become_16 2 rfl rfl ?_
  refine xx_getR (pc := 17) 56 dX8_become_17 sh_55 fX8_11_8 rfl rfl (by decide) ?_
  refine xx_iload_n (pc := 20) dX8_become_20 0 rfl rfl ?_
  refine xx_aald (pc := 21) 1 58 dX8_become_21 sh_56 (by decide) rfl (by omega) (by decide) (rfl) ?_
  refine xx_iconst (pc := 22) dX8_become_22 cc_iconst_0 ?_
  refine xx_aload_nP (pc := 23) dX8_become_23 1 rfl rfl ?_
  refine xx_getR (pc := 24) 84 dX8_become_24 sh_83 fX8_11_8 rfl rfl (by decide) ?_
  refine xx_iload_n (pc := 27) dX8_become_27 0 rfl rfl ?_
  refine xx_aald (pc := 28) 1 86 dX8_become_28 sh_84 (by decide) rfl (by omega) (by decide) (rfl) ?_
  refine xx_iconst (pc := 29) dX8_become_29 cc_iconst_0 ?_
  refine xx_iconst (pc := 30) dX8_become_30 cc_iconst_4 ?_
  refine xx_copyN (pc := 31) (st := []) rfl dX8_become_31 aX8_27 sh_58 sh_86 (by omega) (by omega) (by decide) ⟨Nat.le_of_ble_eq_true rfl, Nat.le_of_ble_eq_true rfl⟩ ?_
  refine xx_nw (fun w5 ew5 => ?_)
  have fr_w5 : ∀ a, a ≠ 86 → w5 a = w3 a := fun a h => by rw [ew5, wr_n _ h]
  have cp_w5 : ∀ j, j < 4 → w5 86 j = w3 58 j := fun j hj => by rw [ew5, wr_s, cp_at hj]
  refine xx_iincN (L' := [(2, .int (nI 2)), (0, ic_pt E 83), (1, ic_pt E 55)]) (pc := 34) dX8_become_34 0 rfl cc_iconst_1 (Nat.le_of_ble_eq_true rfl) rfl ?_
  refine xx_goto (pc := 37) 10 dX8_become_37 rfl ?_
  refine xx_iload_n (pc := 10) dX8_become_10 0 rfl rfl ?_
  refine xx_bipush (pc := 11) dX8_become_11 cc_bipush_6 ?_
  refine xx_icmp_geN (pc := 13) 40 dX8_become_13 rfl (by omega) (by omega) (fun c6 => by exfalso; omega) (fun c6 => ?_)
  refine xx_aload_nP (pc := 16) dX8_become_16 2 rfl rfl ?_
  refine xx_getR (pc := 17) 56 dX8_become_17 sh_55 fX8_11_8 rfl rfl (by decide) ?_
  refine xx_iload_n (pc := 20) dX8_become_20 0 rfl rfl ?_
  refine xx_aald (pc := 21) 2 59 dX8_become_21 sh_56 (by decide) rfl (by omega) (by decide) (rfl) ?_
  refine xx_iconst (pc := 22) dX8_become_22 cc_iconst_0 ?_
  refine xx_aload_nP (pc := 23) dX8_become_23 1 rfl rfl ?_
  refine xx_getR (pc := 24) 84 dX8_become_24 sh_83 fX8_11_8 rfl rfl (by decide) ?_
  refine xx_iload_n (pc := 27) dX8_become_27 0 rfl rfl ?_
  refine xx_aald (pc := 28) 2 87 dX8_become_28 sh_84 (by decide) rfl (by omega) (by decide) (rfl) ?_
  refine xx_iconst (pc := 29) dX8_become_29 cc_iconst_0 ?_
  refine xx_iconst (pc := 30) dX8_become_30 cc_iconst_4 ?_
  refine xx_copyN (pc := 31) (st := []) rfl dX8_become_31 aX8_27 sh_59 sh_87 (by omega) (by omega) (by decide) ⟨Nat.le_of_ble_eq_true rfl, Nat.le_of_ble_eq_true rfl⟩ ?_
  refine xx_nw (fun w7 ew7 => ?_)
  have fr_w7 : ∀ a, a ≠ 87 → w7 a = w5 a := fun a h => by rw [ew7, wr_n _ h]
  have cp_w7 : ∀ j, j < 4 → w7 87 j = w5 59 j := fun j hj => by rw [ew7, wr_s, cp_at hj]
  refine xx_iincN (L' := [(2, .int (nI 3)), (0, ic_pt E 83), (1, ic_pt E 55)]) (pc := 34) dX8_become_34 0 rfl cc_iconst_1 (Nat.le_of_ble_eq_true rfl) rfl ?_
  refine xx_goto (pc := 37) 10 dX8_become_37 rfl ?_
  refine xx_iload_n (pc := 10) dX8_become_10 0 rfl rfl ?_
  refine xx_bipush (pc := 11) dX8_become_11 cc_bipush_6 ?_
  refine xx_icmp_geN (pc := 13) 40 dX8_become_13 rfl (by omega) (by omega) (fun c8 => by exfalso; omega) (fun c8 => ?_)
  refine xx_aload_nP (pc := 16) dX8_become_16 2 rfl rfl ?_
  refine xx_getR (pc := 17) 56 dX8_become_17 sh_55 fX8_11_8 rfl rfl (by decide) ?_
  refine xx_iload_n (pc := 20) dX8_become_20 0 rfl rfl ?_
  refine xx_aald (pc := 21) 3 60 dX8_become_21 sh_56 (by decide) rfl (by omega) (by decide) (rfl) ?_
  refine xx_iconst (pc := 22) dX8_become_22 cc_iconst_0 ?_
  refine xx_aload_nP (pc := 23) dX8_become_23 1 rfl rfl ?_
  refine xx_getR (pc := 24) 84 dX8_become_24 sh_83 fX8_11_8 rfl rfl (by decide) ?_
  refine xx_iload_n (pc := 27) dX8_become_27 0 rfl rfl ?_
  refine xx_aald (pc := 28) 3 88 dX8_become_28 sh_84 (by decide) rfl (by omega) (by decide) (rfl) ?_
  refine xx_iconst (pc := 29) dX8_become_29 cc_iconst_0 ?_
  refine xx_iconst (pc := 30) dX8_become_30 cc_iconst_4 ?_
  refine xx_copyN (pc := 31) (st := []) rfl dX8_become_31 aX8_27 sh_60 sh_88 (by omega) (by omega) (by decide) ⟨Nat.le_of_ble_eq_true rfl, Nat.le_of_ble_eq_true rfl⟩ ?_
  refine xx_nw (fun w9 ew9 => ?_)
  have fr_w9 : ∀ a, a ≠ 88 → w9 a = w7 a := fun a h => by rw [ew9, wr_n _ h]
  have cp_w9 : ∀ j, j < 4 → w9 88 j = w7 60 j := fun j hj => by rw [ew9, wr_s, cp_at hj]
  refine xx_iincN (L' := [(2, .int (nI 4)), (0, ic_pt E 83), (1, ic_pt E 55)]) (pc := 34) dX8_become_34 0 rfl cc_iconst_1 (Nat.le_of_ble_eq_true rfl) rfl ?_
  refine xx_goto (pc := 37) 10 dX8_become_37 rfl ?_
  refine xx_iload_n (pc := 10) dX8_become_10 0 rfl rfl ?_
  refine xx_bipush (pc := 11) dX8_become_11 cc_bipush_6 ?_
  refine xx_icmp_geN (pc := 13) 40 dX8_become_13 rfl (by omega) (by omega) (fun c10 => by exfalso; omega) (fun c10 => ?_)
  refine xx_aload_nP (pc := 16) dX8_become_16 2 rfl rfl ?_
  refine xx_getR (pc := 17) 56 dX8_become_17 sh_55 fX8_11_8 rfl rfl (by decide) ?_
  refine xx_iload_n (pc := 20) dX8_become_20 0 rfl rfl ?_
  refine xx_aald (pc := 21) 4 61 dX8_become_21 sh_56 (by decide) rfl (by omega) (by decide) (rfl) ?_
  refine xx_iconst (pc := 22) dX8_become_22 cc_iconst_0 ?_
  refine xx_aload_nP (pc := 23) dX8_become_23 1 rfl rfl ?_
  refine xx_getR (pc := 24) 84 dX8_become_24 sh_83 fX8_11_8 rfl rfl (by decide) ?_
  refine xx_iload_n (pc := 27) dX8_become_27 0 rfl rfl ?_
  refine xx_aald (pc := 28) 4 89 dX8_become_28 sh_84 (by decide) rfl (by omega) (by decide) (rfl) ?_
  refine xx_iconst (pc := 29) dX8_become_29 cc_iconst_0 ?_
  refine xx_iconst (pc := 30) dX8_become_30 cc_iconst_4 ?_
  refine xx_copyN (pc := 31) (st := []) rfl dX8_become_31 aX8_27 sh_61 sh_89 (by omega) (by omega) (by decide) ⟨Nat.le_of_ble_eq_true rfl, Nat.le_of_ble_eq_true rfl⟩ ?_
  refine xx_nw (fun w11 ew11 => ?_)
  have fr_w11 : ∀ a, a ≠ 89 → w11 a = w9 a := fun a h => by rw [ew11, wr_n _ h]
  have cp_w11 : ∀ j, j < 4 → w11 89 j = w9 61 j := fun j hj => by rw [ew11, wr_s, cp_at hj]
  refine xx_iincN (L' := [(2, .int (nI 5)), (0, ic_pt E 83), (1, ic_pt E 55)]) (pc := 34) dX8_become_34 0 rfl cc_iconst_1 (Nat.le_of_ble_eq_true rfl) rfl ?_
  refine xx_goto (pc := 37) 10 dX8_become_37 rfl ?_
  refine xx_iload_n (pc := 10) dX8_become_10 0 rfl rfl ?_
  refine xx_bipush (pc := 11) dX8_become_11 cc_bipush_6 ?_
  refine xx_icmp_geN (pc := 13) 40 dX8_become_13 rfl (by omega) (by omega) (fun c12 => by exfalso; omega) (fun c12 => ?_)
  refine xx_aload_nP (pc := 16) dX8_become_16 2 rfl rfl ?_
  refine xx_getR (pc := 17) 56 dX8_become_17 sh_55 fX8_11_8 rfl rfl (by decide) ?_
  refine xx_iload_n (pc := 20) dX8_become_20 0 rfl rfl ?_
  refine xx_aald (pc := 21) 5 62 dX8_become_21 sh_56 (by decide) rfl (by omega) (by decide) (rfl) ?_
  refine xx_iconst (pc := 22) dX8_become_22 cc_iconst_0 ?_
  refine xx_aload_nP (pc := 23) dX8_become_23 1 rfl rfl ?_
  refine xx_getR (pc := 24) 84 dX8_become_24 sh_83 fX8_11_8 rfl rfl (by decide) ?_
  refine xx_iload_n (pc := 27) dX8_become_27 0 rfl rfl ?_
  refine xx_aald (pc := 28) 5 90 dX8_become_28 sh_84 (by decide) rfl (by omega) (by decide) (rfl) ?_
  refine xx_iconst (pc := 29) dX8_become_29 cc_iconst_0 ?_
  refine xx_iconst (pc := 30) dX8_become_30 cc_iconst_4 ?_
  refine xx_copyN (pc := 31) (st := []) rfl dX8_become_31 aX8_27 sh_62 sh_90 (by omega) (by omega) (by decide) ⟨Nat.le_of_ble_eq_true rfl, Nat.le_of_ble_eq_true rfl⟩ ?_
  refine xx_nw (fun w13 ew13 => ?_)
  have fr_w13 : ∀ a, a ≠ 90 → w13 a = w11 a := fun a h => by rw [ew13, wr_n _ h]
  have cp_w13 : ∀ j, j < 4 → w13 90 j = w11 62 j := fun j hj => by rw [ew13, wr_s, cp_at hj]
  refine xx_iincN (L' := [(2, .int (nI 6)), (0, ic_pt E 83), (1, ic_pt E 55)]) (pc := 34) dX8_become_34 0 rfl cc_iconst_1 (Nat.le_of_ble_eq_true rfl) rfl ?_
  refine xx_goto (pc := 37) 10 dX8_become_37 rfl ?_
  refine xx_iload_n (pc := 10) dX8_become_10 0 rfl rfl ?_
  refine xx_bipush (pc := 11) dX8_become_11 cc_bipush_6 ?_
  refine xx_icmp_geN (pc := 13) 40 dX8_become_13 rfl (by omega) (by omega) (fun c14 => ?_) (fun c14 => by exfalso; omega)
  exact xx_vret (pc := 40) dX8_become_40 rfl (Nat.le_refl _) (Nat.le_refl _) (ic_rv0 ⟨w13, rfl, fun a ha => by rw [fr_w13 _ (by omega), fr_w11 _ (by omega), fr_w9 _ (by omega), fr_w7 _ (by omega), fr_w5 _ (by omega), fr_w3 _ (by omega), fr_w1 _ (by omega)], ⟨(show w13 83 0 = w 55 0 by rw [fr_w13 _ (by omega), fr_w11 _ (by omega), fr_w9 _ (by omega), fr_w7 _ (by omega), fr_w5 _ (by omega), fr_w3 _ (by omega), cv_w1]), fun i hi j hj => by rcases (show i = 0 ∨ i = 1 ∨ i = 2 ∨ i = 3 ∨ i = 4 ∨ i = 5 by omega) with rfl | rfl | rfl | rfl | rfl | rfl; exact (show w13 85 j = w 57 j by rw [fr_w13 _ (by omega), fr_w11 _ (by omega), fr_w9 _ (by omega), fr_w7 _ (by omega), fr_w5 _ (by omega), cp_w3 _ hj, fr_w1 _ (by omega)]); exact (show w13 86 j = w 58 j by rw [fr_w13 _ (by omega), fr_w11 _ (by omega), fr_w9 _ (by omega), fr_w7 _ (by omega), cp_w5 _ hj, fr_w3 _ (by omega), fr_w1 _ (by omega)]); exact (show w13 87 j = w 59 j by rw [fr_w13 _ (by omega), fr_w11 _ (by omega), fr_w9 _ (by omega), cp_w7 _ hj, fr_w5 _ (by omega), fr_w3 _ (by omega), fr_w1 _ (by omega)]); exact (show w13 88 j = w 60 j by rw [fr_w13 _ (by omega), fr_w11 _ (by omega), cp_w9 _ hj, fr_w7 _ (by omega), fr_w5 _ (by omega), fr_w3 _ (by omega), fr_w1 _ (by omega)]); exact (show w13 89 j = w 61 j by rw [fr_w13 _ (by omega), cp_w11 _ hj, fr_w9 _ (by omega), fr_w7 _ (by omega), fr_w5 _ (by omega), fr_w3 _ (by omega), fr_w1 _ (by omega)]); exact (show w13 90 j = w 62 j by rw [cp_w13 _ hj, fr_w11 _ (by omega), fr_w9 _ (by omega), fr_w7 _ (by omega), fr_w5 _ (by omega), fr_w3 _ (by omega), fr_w1 _ (by omega)])⟩⟩)

set_option maxHeartbeats 4000000 in
set_option maxRecDepth 100000 in
theorem cC_repB_55 {l : Launch} {E : ic_E} {w : ic_w}  : ic_C l E mX8_become 1 0 0 False [ic_pt E 55, ic_pt E 83] SHs (hn w) SHs (ic_qv (fun h_ => ∃ w2, h_ = hn w2 ∧ (∀ a, a < 55 ∨ 62 < a → w2 a = w a) ∧ Qk w2 55 w 83)) := by
  refine ic_intro (by decide +kernel) (Nat.le_of_ble_eq_true rfl) ?_
  show xx l E _ _ 0 [(0, ic_pt E 55), (1, ic_pt E 83)] _ _ _
  refine xx_aload_nP (pc := 0) dX8_become_0 0 rfl rfl ?_
  refine xx_aload_nP (pc := 1) dX8_become_1 1 rfl rfl ?_
  refine xx_getN (pc := 2) dX8_become_2 sh_83 fX8_23_8 rfl ?_
  refine xx_putN (pc := 5) dX8_become_5 sh_55 fX8_23_8 rfl rfl ?_
  refine xx_nw (fun w1 ew1 => ?_)
  have fr_w1 : ∀ a, a ≠ 55 → w1 a = w a := fun a h => by rw [ew1, wu_row _ _ _ h]
  have fk_w1 : ∀ j, j ≠ 0 → w1 55 j = w 55 j := fun j h => by rw [ew1, wu_k _ _ _ _ h]
  have cv_w1 : w1 55 0 = w 83 0 := by rw [ew1, wu_s]
  refine xx_iconst (pc := 8) dX8_become_8 cc_iconst_0 ?_
  refine xx_istore_n (L' := [(2, .int (nI 0)), (0, ic_pt E 55), (1, ic_pt E 83)]) (pc := 9) dX8_become_9 rfl (Nat.le_of_ble_eq_true rfl) rfl ?_
  refine xx_iload_n (pc := 10) dX8_become_10 0 rfl rfl ?_
  refine xx_bipush (pc := 11) dX8_become_11 cc_bipush_6 ?_
  refine xx_icmp_geN (pc := 13) 40 dX8_become_13 rfl (by omega) (by omega) (fun c2 => by exfalso; omega) (fun c2 => ?_)
  refine xx_aload_nP (pc := 16) dX8_become_16 2 rfl rfl ?_
  refine xx_getR (pc := 17) 84 dX8_become_17 sh_83 fX8_11_8 rfl rfl (by decide) ?_
  refine xx_iload_n (pc := 20) dX8_become_20 0 rfl rfl ?_
  refine xx_aald (pc := 21) 0 85 dX8_become_21 sh_84 (by decide) rfl (by omega) (by decide) (rfl) ?_
  refine xx_iconst (pc := 22) dX8_become_22 cc_iconst_0 ?_
  refine xx_aload_nP (pc := 23) dX8_become_23 1 rfl rfl ?_
  refine xx_getR (pc := 24) 56 dX8_become_24 sh_55 fX8_11_8 rfl rfl (by decide) ?_
  refine xx_iload_n (pc := 27) dX8_become_27 0 rfl rfl ?_
  refine xx_aald (pc := 28) 0 57 dX8_become_28 sh_56 (by decide) rfl (by omega) (by decide) (rfl) ?_
  refine xx_iconst (pc := 29) dX8_become_29 cc_iconst_0 ?_
  refine xx_iconst (pc := 30) dX8_become_30 cc_iconst_4 ?_
  refine xx_copyN (pc := 31) (st := []) rfl dX8_become_31 aX8_27 sh_85 sh_57 (by omega) (by omega) (by decide) ⟨Nat.le_of_ble_eq_true rfl, Nat.le_of_ble_eq_true rfl⟩ ?_
  refine xx_nw (fun w3 ew3 => ?_)
  have fr_w3 : ∀ a, a ≠ 57 → w3 a = w1 a := fun a h => by rw [ew3, wr_n _ h]
  have cp_w3 : ∀ j, j < 4 → w3 57 j = w1 85 j := fun j hj => by rw [ew3, wr_s, cp_at hj]
  refine xx_iincN (L' := [(2, .int (nI 1)), (0, ic_pt E 55), (1, ic_pt E 83)]) (pc := 34) dX8_become_34 0 rfl cc_iconst_1 (Nat.le_of_ble_eq_true rfl) rfl ?_
  refine xx_goto (pc := 37) 10 dX8_become_37 rfl ?_
  refine xx_iload_n (pc := 10) dX8_become_10 0 rfl rfl ?_
  refine xx_bipush (pc := 11) dX8_become_11 cc_bipush_6 ?_
  refine xx_icmp_geN (pc := 13) 40 dX8_become_13 rfl (by omega) (by omega) (fun c4 => by exfalso; omega) (fun c4 => ?_)
  refine xx_aload_nP (pc := 16) dX8_become_16 2 rfl rfl ?_
  refine xx_getR (pc := 17) 84 dX8_become_17 sh_83 fX8_11_8 rfl rfl (by decide) ?_
  refine xx_iload_n (pc := 20) dX8_become_20 0 rfl rfl ?_
  refine xx_aald (pc := 21) 1 86 dX8_become_21 sh_84 (by decide) rfl (by omega) (by decide) (rfl) ?_
  refine xx_iconst (pc := 22) dX8_become_22 cc_iconst_0 ?_
  refine xx_aload_nP (pc := 23) dX8_become_23 1 rfl rfl ?_
  refine xx_getR (pc := 24) 56 dX8_become_24 sh_55 fX8_11_8 rfl rfl (by decide) ?_
  refine xx_iload_n (pc := 27) dX8_become_27 0 rfl rfl ?_
  refine xx_aald (pc := 28) 1 58 dX8_become_28 sh_56 (by decide) rfl (by omega) (by decide) (rfl) ?_
  refine xx_iconst (pc := 29) dX8_become_29 cc_iconst_0 ?_
  refine xx_iconst (pc := 30) dX8_become_30 cc_iconst_4 ?_
  refine xx_copyN (pc := 31) (st := []) rfl dX8_become_31 aX8_27 sh_86 sh_58 (by omega) (by omega) (by decide) ⟨Nat.le_of_ble_eq_true rfl, Nat.le_of_ble_eq_true rfl⟩ ?_
  refine xx_nw (fun w5 ew5 => ?_)
  have fr_w5 : ∀ a, a ≠ 58 → w5 a = w3 a := fun a h => by rw [ew5, wr_n _ h]
  have cp_w5 : ∀ j, j < 4 → w5 58 j = w3 86 j := fun j hj => by rw [ew5, wr_s, cp_at hj]
  refine xx_iincN (L' := [(2, .int (nI 2)), (0, ic_pt E 55), (1, ic_pt E 83)]) (pc := 34) dX8_become_34 0 rfl cc_iconst_1 (Nat.le_of_ble_eq_true rfl) rfl ?_
  refine xx_goto (pc := 37) 10 dX8_become_37 rfl ?_
  refine xx_iload_n (pc := 10) dX8_become_10 0 rfl rfl ?_
  refine xx_bipush (pc := 11) dX8_become_11 cc_bipush_6 ?_
  refine xx_icmp_geN (pc := 13) 40 dX8_become_13 rfl (by omega) (by omega) (fun c6 => by exfalso; omega) (fun c6 => ?_)
  refine xx_aload_nP (pc := 16) dX8_become_16 2 rfl rfl ?_
  refine xx_getR (pc := 17) 84 dX8_become_17 sh_83 fX8_11_8 rfl rfl (by decide) ?_
  refine xx_iload_n (pc := 20) dX8_become_20 0 rfl rfl ?_
  refine xx_aald (pc := 21) 2 87 dX8_become_21 sh_84 (by decide) rfl (by omega) (by decide) (rfl) ?_
  refine xx_iconst (pc := 22) dX8_become_22 cc_iconst_0 ?_
  refine xx_aload_nP (pc := 23) dX8_become_23 1 rfl rfl ?_
  refine xx_getR (pc := 24) 56 dX8_become_24 sh_55 fX8_11_8 rfl rfl (by decide) ?_
  refine xx_iload_n (pc := 27) dX8_become_27 0 rfl rfl ?_
  refine xx_aald (pc := 28) 2 59 dX8_become_28 sh_56 (by decide) rfl (by omega) (by decide) (rfl) ?_
  refine xx_iconst (pc := 29) dX8_become_29 cc_iconst_0 ?_
  refine xx_iconst (pc := 30) dX8_become_30 cc_iconst_4 ?_
  refine xx_copyN (pc := 31) (st := []) rfl dX8_become_31 aX8_27 sh_87 sh_59 (by omega) (by omega) (by decide) ⟨Nat.le_of_ble_eq_true rfl, Nat.le_of_ble_eq_true rfl⟩ ?_
  refine xx_nw (fun w7 ew7 => ?_)
  have fr_w7 : ∀ a, a ≠ 59 → w7 a = w5 a := fun a h => by rw [ew7, wr_n _ h]
  have cp_w7 : ∀ j, j < 4 → w7 59 j = w5 87 j := fun j hj => by rw [ew7, wr_s, cp_at hj]
  refine xx_iincN (L' := [(2, .int (nI 3)), (0, ic_pt E 55), (1, ic_pt E 83)]) (pc := 34) dX8_become_34 0 rfl cc_iconst_1 (Nat.le_of_ble_eq_true rfl) rfl ?_
  refine xx_goto (pc := 37) 10 dX8_become_37 rfl ?_
  refine xx_iload_n (pc := 10) dX8_become_10 0 rfl rfl ?_
  refine xx_bipush (pc := 11) dX8_become_11 cc_bipush_6 ?_
  refine xx_icmp_geN (pc := 13) 40 dX8_become_13 rfl (by omega) (by omega) (fun c8 => by exfalso; omega) (fun c8 => ?_)
  refine xx_aload_nP (pc := 16) dX8_become_16 2 rfl rfl ?_
  refine xx_getR (pc := 17) 84 dX8_become_17 sh_83 fX8_11_8 rfl rfl (by decide) ?_
  refine xx_iload_n (pc := 20) dX8_become_20 0 rfl rfl ?_
  refine xx_aald (pc := 21) 3 88 dX8_become_21 sh_84 (by decide) rfl (by omega) (by decide) (rfl) ?_
  refine xx_iconst (pc := 22) dX8_become_22 cc_iconst_0 ?_
  refine xx_aload_nP (pc := 23) dX8_become_23 1 rfl rfl ?_
  refine xx_getR (pc := 24) 56 dX8_become_24 sh_55 fX8_11_8 rfl rfl (by decide) ?_
  refine xx_iload_n (pc := 27) dX8_become_27 0 rfl rfl ?_
  refine xx_aald (pc := 28) 3 60 dX8_become_28 sh_56 (by decide) rfl (by omega) (by decide) (rfl) ?_
  refine xx_iconst (pc := 29) dX8_become_29 cc_iconst_0 ?_
  refine xx_iconst (pc := 30) dX8_become_30 cc_iconst_4 ?_
  refine xx_copyN (pc := 31) (st := []) rfl dX8_become_31 aX8_27 sh_88 sh_60 (by omega) (by omega) (by decide) ⟨Nat.le_of_ble_eq_true rfl, Nat.le_of_ble_eq_true rfl⟩ ?_
  refine xx_nw (fun w9 ew9 => ?_)
  have fr_w9 : ∀ a, a ≠ 60 → w9 a = w7 a := fun a h => by rw [ew9, wr_n _ h]
  have cp_w9 : ∀ j, j < 4 → w9 60 j = w7 88 j := fun j hj => by rw [ew9, wr_s, cp_at hj]
  refine xx_iincN (L' := [(2, .int (nI 4)), (0, ic_pt E 55), (1, ic_pt E 83)]) (pc := 34) dX8_become_34 0 rfl cc_iconst_1 (Nat.le_of_ble_eq_true rfl) rfl ?_
  refine xx_goto (pc := 37) 10 dX8_become_37 rfl ?_
  refine xx_iload_n (pc := 10) dX8_become_10 0 rfl rfl ?_
  refine xx_bipush (pc := 11) dX8_become_11 cc_bipush_6 ?_
  refine xx_icmp_geN (pc := 13) 40 dX8_become_13 rfl (by omega) (by omega) (fun c10 => by exfalso; omega) (fun c10 => ?_)
  refine xx_aload_nP (pc := 16) dX8_become_16 2 rfl rfl ?_
  refine xx_getR (pc := 17) 84 dX8_become_17 sh_83 fX8_11_8 rfl rfl (by decide) ?_
  refine xx_iload_n (pc := 20) dX8_become_20 0 rfl rfl ?_
  refine xx_aald (pc := 21) 4 89 dX8_become_21 sh_84 (by decide) rfl (by omega) (by decide) (rfl) ?_
  refine xx_iconst (pc := 22) dX8_become_22 cc_iconst_0 ?_
  refine xx_aload_nP (pc := 23) dX8_become_23 1 rfl rfl ?_
  refine xx_getR (pc := 24) 56 dX8_become_24 sh_55 fX8_11_8 rfl rfl (by decide) ?_
  refine xx_iload_n (pc := 27) dX8_become_27 0 rfl rfl ?_
  refine xx_aald (pc := 28) 4 61 dX8_become_28 sh_56 (by decide) rfl (by omega) (by decide) (rfl) ?_
  refine xx_iconst (pc := 29) dX8_become_29 cc_iconst_0 ?_
  refine xx_iconst (pc := 30) dX8_become_30 cc_iconst_4 ?_
  refine xx_copyN (pc := 31) (st := []) rfl dX8_become_31 aX8_27 sh_89 sh_61 (by omega) (by omega) (by decide) ⟨Nat.le_of_ble_eq_true rfl, Nat.le_of_ble_eq_true rfl⟩ ?_
  refine xx_nw (fun w11 ew11 => ?_)
  have fr_w11 : ∀ a, a ≠ 61 → w11 a = w9 a := fun a h => by rw [ew11, wr_n _ h]
  have cp_w11 : ∀ j, j < 4 → w11 61 j = w9 89 j := fun j hj => by rw [ew11, wr_s, cp_at hj]
  refine xx_iincN (L' := [(2, .int (nI 5)), (0, ic_pt E 55), (1, ic_pt E 83)]) (pc := 34) dX8_become_34 0 rfl cc_iconst_1 (Nat.le_of_ble_eq_true rfl) rfl ?_
  refine xx_goto (pc := 37) 10 dX8_become_37 rfl ?_
  refine xx_iload_n (pc := 10) dX8_become_10 0 rfl rfl ?_
  refine xx_bipush (pc := 11) dX8_become_11 cc_bipush_6 ?_
  refine xx_icmp_geN (pc := 13) 40 dX8_become_13 rfl (by omega) (by omega) (fun c12 => by exfalso; omega) (fun c12 => ?_)
  refine xx_aload_nP (pc := 16) dX8_become_16 2 rfl rfl ?_
  refine xx_getR (pc := 17) 84 dX8_become_17 sh_83 fX8_11_8 rfl rfl (by decide) ?_
  refine xx_iload_n (pc := 20) dX8_become_20 0 rfl rfl ?_
  refine xx_aald (pc := 21) 5 90 dX8_become_21 sh_84 (by decide) rfl (by omega) (by decide) (rfl) ?_
  refine xx_iconst (pc := 22) dX8_become_22 cc_iconst_0 ?_
  refine xx_aload_nP (pc := 23) dX8_become_23 1 rfl rfl ?_
  refine xx_getR (pc := 24) 56 dX8_become_24 sh_55 fX8_11_8 rfl rfl (by decide) ?_
  refine xx_iload_n (pc := 27) dX8_become_27 0 rfl rfl ?_
  refine xx_aald (pc := 28) 5 62 dX8_become_28 sh_56 (by decide) rfl (by omega) (by decide) (rfl) ?_
  refine xx_iconst (pc := 29) dX8_become_29 cc_iconst_0 ?_
  refine xx_iconst (pc := 30) dX8_become_30 cc_iconst_4 ?_
  refine xx_copyN (pc := 31) (st := []) rfl dX8_become_31 aX8_27 sh_90 sh_62 (by omega) (by omega) (by decide) ⟨Nat.le_of_ble_eq_true rfl, Nat.le_of_ble_eq_true rfl⟩ ?_
  refine xx_nw (fun w13 ew13 => ?_)
  have fr_w13 : ∀ a, a ≠ 62 → w13 a = w11 a := fun a h => by rw [ew13, wr_n _ h]
  have cp_w13 : ∀ j, j < 4 → w13 62 j = w11 90 j := fun j hj => by rw [ew13, wr_s, cp_at hj]
  refine xx_iincN (L' := [(2, .int (nI 6)), (0, ic_pt E 55), (1, ic_pt E 83)]) (pc := 34) dX8_become_34 0 rfl cc_iconst_1 (Nat.le_of_ble_eq_true rfl) rfl ?_
  refine xx_goto (pc := 37) 10 dX8_become_37 rfl ?_
  refine xx_iload_n (pc := 10) dX8_become_10 0 rfl rfl ?_
  refine xx_bipush (pc := 11) dX8_become_11 cc_bipush_6 ?_
  refine xx_icmp_geN (pc := 13) 40 dX8_become_13 rfl (by omega) (by omega) (fun c14 => ?_) (fun c14 => by exfalso; omega)
  exact xx_vret (pc := 40) dX8_become_40 rfl (Nat.le_refl _) (Nat.le_refl _) (ic_rv0 ⟨w13, rfl, fun a ha => by rw [fr_w13 _ (by omega), fr_w11 _ (by omega), fr_w9 _ (by omega), fr_w7 _ (by omega), fr_w5 _ (by omega), fr_w3 _ (by omega), fr_w1 _ (by omega)], ⟨(show w13 55 0 = w 83 0 by rw [fr_w13 _ (by omega), fr_w11 _ (by omega), fr_w9 _ (by omega), fr_w7 _ (by omega), fr_w5 _ (by omega), fr_w3 _ (by omega), cv_w1]), fun i hi j hj => by rcases (show i = 0 ∨ i = 1 ∨ i = 2 ∨ i = 3 ∨ i = 4 ∨ i = 5 by omega) with rfl | rfl | rfl | rfl | rfl | rfl; exact (show w13 57 j = w 85 j by rw [fr_w13 _ (by omega), fr_w11 _ (by omega), fr_w9 _ (by omega), fr_w7 _ (by omega), fr_w5 _ (by omega), cp_w3 _ hj, fr_w1 _ (by omega)]); exact (show w13 58 j = w 86 j by rw [fr_w13 _ (by omega), fr_w11 _ (by omega), fr_w9 _ (by omega), fr_w7 _ (by omega), cp_w5 _ hj, fr_w3 _ (by omega), fr_w1 _ (by omega)]); exact (show w13 59 j = w 87 j by rw [fr_w13 _ (by omega), fr_w11 _ (by omega), fr_w9 _ (by omega), cp_w7 _ hj, fr_w5 _ (by omega), fr_w3 _ (by omega), fr_w1 _ (by omega)]); exact (show w13 60 j = w 88 j by rw [fr_w13 _ (by omega), fr_w11 _ (by omega), cp_w9 _ hj, fr_w7 _ (by omega), fr_w5 _ (by omega), fr_w3 _ (by omega), fr_w1 _ (by omega)]); exact (show w13 61 j = w 89 j by rw [fr_w13 _ (by omega), cp_w11 _ hj, fr_w9 _ (by omega), fr_w7 _ (by omega), fr_w5 _ (by omega), fr_w3 _ (by omega), fr_w1 _ (by omega)]); exact (show w13 62 j = w 90 j by rw [cp_w13 _ hj, fr_w11 _ (by omega), fr_w9 _ (by omega), fr_w7 _ (by omega), fr_w5 _ (by omega), fr_w3 _ (by omega), fr_w1 _ (by omega)])⟩⟩)

set_option maxHeartbeats 4000000 in
set_option maxRecDepth 100000 in
theorem cC_netB_67 {l : Launch} {E : ic_E} {w : ic_w}  : ic_C l E mX5_become 3 0 0 False [ic_pt E 67, ic_pt E 39] SHs (hn w) SHs (ic_qv (fun h_ => ∃ w2, h_ = hn w2 ∧ (∀ a, a < 67 ∨ 94 < a → w2 a = w a) ∧ Nk w2 67 w 39)) := by
  refine ic_intro (by decide +kernel) (Nat.le_of_ble_eq_true rfl) ?_
  show xx l E _ _ 0 [(0, ic_pt E 67), (1, ic_pt E 39)] _ _ _
  refine xx_aload_nP (pc := 0) dX5_become_0 1 rfl rfl ?_
  refine xx_getR (pc := 1) 40 dX5_become_1 sh_39 fX5_9_5 rfl rfl (by decide) ?_
  refine xx_iconst (pc := 4) dX5_become_4 cc_iconst_0 ?_
  refine xx_aload_nP (pc := 5) dX5_become_5 0 rfl rfl ?_
  refine xx_getR (pc := 6) 68 dX5_become_6 sh_67 fX5_9_5 rfl rfl (by decide) ?_
  refine xx_iconst (pc := 9) dX5_become_9 cc_iconst_0 ?_
  refine xx_bipush (pc := 10) dX5_become_10 cc_bipush_16 ?_
  refine xx_copyN (pc := 12) (st := []) rfl dX5_become_12 aX5_68 sh_40 sh_68 (by omega) (by omega) (by decide) ⟨Nat.le_of_ble_eq_true rfl, Nat.le_of_ble_eq_true rfl⟩ ?_
  refine xx_nw (fun w1 ew1 => ?_)
  have fr_w1 : ∀ a, a ≠ 68 → w1 a = w a := fun a h => by rw [ew1, wr_n _ h]
  have cp_w1 : ∀ j, j < 16 → w1 68 j = w 40 j := fun j hj => by rw [ew1, wr_s, cp_at hj]
  refine xx_aload_nP (pc := 15) dX5_become_15 1 rfl rfl ?_
  refine xx_getR (pc := 16) 41 dX5_become_16 sh_39 fX5_15_5 rfl rfl (by decide) ?_
  refine xx_iconst (pc := 19) dX5_become_19 cc_iconst_0 ?_
  refine xx_aload_nP (pc := 20) dX5_become_20 0 rfl rfl ?_
  refine xx_getR (pc := 21) 69 dX5_become_21 sh_67 fX5_15_5 rfl rfl (by decide) ?_
  refine xx_iconst (pc := 24) dX5_become_24 cc_iconst_0 ?_
  refine xx_bipush (pc := 25) dX5_become_25 cc_bipush_6 ?_
  refine xx_copyN (pc := 27) (st := []) rfl dX5_become_27 aX5_68 sh_41 sh_69 (by omega) (by omega) (by decide) ⟨Nat.le_of_ble_eq_true rfl, Nat.le_of_ble_eq_true rfl⟩ ?_
  refine xx_nw (fun w2 ew2 => ?_)
  have fr_w2 : ∀ a, a ≠ 69 → w2 a = w1 a := fun a h => by rw [ew2, wr_n _ h]
  have cp_w2 : ∀ j, j < 6 → w2 69 j = w1 41 j := fun j hj => by rw [ew2, wr_s, cp_at hj]
  refine xx_aload_nP (pc := 30) dX5_become_30 1 rfl rfl ?_
  refine xx_getR (pc := 31) 42 dX5_become_31 sh_39 fX5_18_5 rfl rfl (by decide) ?_
  refine xx_iconst (pc := 34) dX5_become_34 cc_iconst_0 ?_
  refine xx_aload_nP (pc := 35) dX5_become_35 0 rfl rfl ?_
  refine xx_getR (pc := 36) 70 dX5_become_36 sh_67 fX5_18_5 rfl rfl (by decide) ?_
  refine xx_iconst (pc := 39) dX5_become_39 cc_iconst_0 ?_
  refine xx_bipush (pc := 40) dX5_become_40 cc_bipush_6 ?_
  refine xx_copyN (pc := 42) (st := []) rfl dX5_become_42 aX5_68 sh_42 sh_70 (by omega) (by omega) (by decide) ⟨Nat.le_of_ble_eq_true rfl, Nat.le_of_ble_eq_true rfl⟩ ?_
  refine xx_nw (fun w3 ew3 => ?_)
  have fr_w3 : ∀ a, a ≠ 70 → w3 a = w2 a := fun a h => by rw [ew3, wr_n _ h]
  have cp_w3 : ∀ j, j < 6 → w3 70 j = w2 42 j := fun j hj => by rw [ew3, wr_s, cp_at hj]
  refine xx_aload_nP (pc := 45) dX5_become_45 1 rfl rfl ?_
  refine xx_getR (pc := 46) 43 dX5_become_46 sh_39 fX5_21_5 rfl rfl (by decide) ?_
  refine xx_iconst (pc := 49) dX5_become_49 cc_iconst_0 ?_
  refine xx_aload_nP (pc := 50) dX5_become_50 0 rfl rfl ?_
  refine xx_getR (pc := 51) 71 dX5_become_51 sh_67 fX5_21_5 rfl rfl (by decide) ?_
  refine xx_iconst (pc := 54) dX5_become_54 cc_iconst_0 ?_
  refine xx_bipush (pc := 55) dX5_become_55 cc_bipush_6 ?_
  refine xx_copyN (pc := 57) (st := []) rfl dX5_become_57 aX5_68 sh_43 sh_71 (by omega) (by omega) (by decide) ⟨Nat.le_of_ble_eq_true rfl, Nat.le_of_ble_eq_true rfl⟩ ?_
  refine xx_nw (fun w4 ew4 => ?_)
  have fr_w4 : ∀ a, a ≠ 71 → w4 a = w3 a := fun a h => by rw [ew4, wr_n _ h]
  have cp_w4 : ∀ j, j < 6 → w4 71 j = w3 43 j := fun j hj => by rw [ew4, wr_s, cp_at hj]
  refine xx_aload_nP (pc := 60) dX5_become_60 1 rfl rfl ?_
  refine xx_getR (pc := 61) 44 dX5_become_61 sh_39 fX5_24_5 rfl rfl (by decide) ?_
  refine xx_iconst (pc := 64) dX5_become_64 cc_iconst_0 ?_
  refine xx_aload_nP (pc := 65) dX5_become_65 0 rfl rfl ?_
  refine xx_getR (pc := 66) 72 dX5_become_66 sh_67 fX5_24_5 rfl rfl (by decide) ?_
  refine xx_iconst (pc := 69) dX5_become_69 cc_iconst_0 ?_
  refine xx_bipush (pc := 70) dX5_become_70 cc_bipush_6 ?_
  refine xx_copyN (pc := 72) (st := []) rfl dX5_become_72 aX5_68 sh_44 sh_72 (by omega) (by omega) (by decide) ⟨Nat.le_of_ble_eq_true rfl, Nat.le_of_ble_eq_true rfl⟩ ?_
  refine xx_nw (fun w5 ew5 => ?_)
  have fr_w5 : ∀ a, a ≠ 72 → w5 a = w4 a := fun a h => by rw [ew5, wr_n _ h]
  have cp_w5 : ∀ j, j < 6 → w5 72 j = w4 44 j := fun j hj => by rw [ew5, wr_s, cp_at hj]
  refine xx_aload_nP (pc := 75) dX5_become_75 1 rfl rfl ?_
  refine xx_getR (pc := 76) 45 dX5_become_76 sh_39 fX5_27_5 rfl rfl (by decide) ?_
  refine xx_iconst (pc := 79) dX5_become_79 cc_iconst_0 ?_
  refine xx_aload_nP (pc := 80) dX5_become_80 0 rfl rfl ?_
  refine xx_getR (pc := 81) 73 dX5_become_81 sh_67 fX5_27_5 rfl rfl (by decide) ?_
  refine xx_iconst (pc := 84) dX5_become_84 cc_iconst_0 ?_
  refine xx_bipush (pc := 85) dX5_become_85 cc_bipush_6 ?_
  refine xx_copyN (pc := 87) (st := []) rfl dX5_become_87 aX5_68 sh_45 sh_73 (by omega) (by omega) (by decide) ⟨Nat.le_of_ble_eq_true rfl, Nat.le_of_ble_eq_true rfl⟩ ?_
  refine xx_nw (fun w6 ew6 => ?_)
  have fr_w6 : ∀ a, a ≠ 73 → w6 a = w5 a := fun a h => by rw [ew6, wr_n _ h]
  have cp_w6 : ∀ j, j < 6 → w6 73 j = w5 45 j := fun j hj => by rw [ew6, wr_s, cp_at hj]
  refine xx_aload_nP (pc := 90) dX5_become_90 0 rfl rfl ?_
  refine xx_getR (pc := 91) 74 dX5_become_91 sh_67 fX5_33_5 rfl rfl (by decide) ?_
  refine xx_aload_nP (pc := 94) dX5_become_94 1 rfl rfl ?_
  refine xx_getR (pc := 95) 46 dX5_become_95 sh_39 fX5_33_5 rfl rfl (by decide) ?_
  refine xx_callV0 (pc := 98) (st := []) sh_74 (cC_momB_74 (w := w6)) kX4_become vX5_74_4 dX5_become_98 rfl rfl (Nat.le_of_ble_eq_true rfl) ⟨Nat.le_of_ble_eq_true rfl, Nat.le_of_ble_eq_true rfl⟩ ⟨Nat.zero_le _, Nat.zero_le _⟩ (ic_kv (fun h_ qw7 => ?_))
  obtain ⟨w7, rfl, f_w7, k_m⟩ := qw7
  refine xx_aload_nP (pc := 101) dX5_become_101 0 rfl rfl ?_
  refine xx_getR (pc := 102) 77 dX5_become_102 sh_67 fX5_40_5 rfl rfl (by decide) ?_
  refine xx_aload_nP (pc := 105) dX5_become_105 1 rfl rfl ?_
  refine xx_getR (pc := 106) 49 dX5_become_106 sh_39 fX5_40_5 rfl rfl (by decide) ?_
  refine xx_callV0 (pc := 109) (st := []) sh_77 (cC_rulB_77 (w := w7)) kX10_become vX5_78_10 dX5_become_109 rfl rfl (Nat.le_of_ble_eq_true rfl) ⟨Nat.le_of_ble_eq_true rfl, Nat.le_of_ble_eq_true rfl⟩ ⟨Nat.zero_le _, Nat.zero_le _⟩ (ic_kv (fun h_ qw9 => ?_))
  obtain ⟨w9, rfl, f_w9, k_r⟩ := qw9
  refine xx_aload_nP (pc := 112) dX5_become_112 0 rfl rfl ?_
  refine xx_getR (pc := 113) 83 dX5_become_113 sh_67 fX5_47_5 rfl rfl (by decide) ?_
  refine xx_aload_nP (pc := 116) dX5_become_116 1 rfl rfl ?_
  refine xx_getR (pc := 117) 55 dX5_become_117 sh_39 fX5_47_5 rfl rfl (by decide) ?_
  refine xx_callV0 (pc := 120) (st := []) sh_83 (cC_repB_83 (w := w9)) kX8_become vX5_81_8 dX5_become_120 rfl rfl (Nat.le_of_ble_eq_true rfl) ⟨Nat.le_of_ble_eq_true rfl, Nat.le_of_ble_eq_true rfl⟩ ⟨Nat.zero_le _, Nat.zero_le _⟩ (ic_kv (fun h_ qw11 => ?_))
  obtain ⟨w11, rfl, f_w11, k_p⟩ := qw11
  refine xx_aload_nP (pc := 123) dX5_become_123 0 rfl rfl ?_
  refine xx_aload_nP (pc := 124) dX5_become_124 1 rfl rfl ?_
  refine xx_getN (pc := 125) dX5_become_125 sh_39 fX5_84_5 rfl ?_
  refine xx_putN (pc := 128) dX5_become_128 sh_67 fX5_84_5 rfl rfl ?_
  refine xx_nw (fun w13 ew13 => ?_)
  have fr_w13 : ∀ a, a ≠ 67 → w13 a = w11 a := fun a h => by rw [ew13, wu_row _ _ _ h]
  have fk_w13 : ∀ j, j ≠ 10 → w13 67 j = w11 67 j := fun j h => by rw [ew13, wu_k _ _ _ _ h]
  have cv_w13 : w13 67 10 = w11 39 10 := by rw [ew13, wu_s]
  refine xx_aload_nP (pc := 131) dX5_become_131 0 rfl rfl ?_
  refine xx_aload_nP (pc := 132) dX5_become_132 1 rfl rfl ?_
  refine xx_getN (pc := 133) dX5_become_133 sh_39 fX5_51_5 rfl ?_
  refine xx_putN (pc := 136) dX5_become_136 sh_67 fX5_51_5 rfl rfl ?_
  refine xx_nw (fun w14 ew14 => ?_)
  have fr_w14 : ∀ a, a ≠ 67 → w14 a = w13 a := fun a h => by rw [ew14, wu_row _ _ _ h]
  have fk_w14 : ∀ j, j ≠ 11 → w14 67 j = w13 67 j := fun j h => by rw [ew14, wu_k _ _ _ _ h]
  have cv_w14 : w14 67 11 = w13 39 11 := by rw [ew14, wu_s]
  refine xx_aload_nP (pc := 139) dX5_become_139 0 rfl rfl ?_
  refine xx_aload_nP (pc := 140) dX5_become_140 1 rfl rfl ?_
  refine xx_getN (pc := 141) dX5_become_141 sh_39 fX5_87_5 rfl ?_
  refine xx_putN (pc := 144) dX5_become_144 sh_67 fX5_87_5 rfl rfl ?_
  refine xx_nw (fun w15 ew15 => ?_)
  have fr_w15 : ∀ a, a ≠ 67 → w15 a = w14 a := fun a h => by rw [ew15, wu_row _ _ _ h]
  have fk_w15 : ∀ j, j ≠ 12 → w15 67 j = w14 67 j := fun j h => by rw [ew15, wu_k _ _ _ _ h]
  have cv_w15 : w15 67 12 = w14 39 12 := by rw [ew15, wu_s]
  refine xx_aload_nP (pc := 147) dX5_become_147 0 rfl rfl ?_
  refine xx_aload_nP (pc := 148) dX5_become_148 1 rfl rfl ?_
  refine xx_getN (pc := 149) dX5_become_149 sh_39 fX5_55_5 rfl ?_
  refine xx_putN (pc := 152) dX5_become_152 sh_67 fX5_55_5 rfl rfl ?_
  refine xx_nw (fun w16 ew16 => ?_)
  have fr_w16 : ∀ a, a ≠ 67 → w16 a = w15 a := fun a h => by rw [ew16, wu_row _ _ _ h]
  have fk_w16 : ∀ j, j ≠ 13 → w16 67 j = w15 67 j := fun j h => by rw [ew16, wu_k _ _ _ _ h]
  have cv_w16 : w16 67 13 = w15 39 13 := by rw [ew16, wu_s]
  exact xx_vret (pc := 155) dX5_become_155 rfl (Nat.le_refl _) (Nat.le_refl _) (ic_rv0 ⟨w16, rfl, fun a ha => by rw [fr_w16 _ (by omega), fr_w15 _ (by omega), fr_w14 _ (by omega), fr_w13 _ (by omega), f_w11 _ (by omega), f_w9 _ (by omega), f_w7 _ (by omega), fr_w6 _ (by omega), fr_w5 _ (by omega), fr_w4 _ (by omega), fr_w3 _ (by omega), fr_w2 _ (by omega), fr_w1 _ (by omega)], ⟨⟨(show w16 67 10 = w 39 10 by rw [fk_w16 _ (by omega), fk_w15 _ (by omega), fk_w14 _ (by omega), cv_w13, f_w11 _ (by omega), f_w9 _ (by omega), f_w7 _ (by omega), fr_w6 _ (by omega), fr_w5 _ (by omega), fr_w4 _ (by omega), fr_w3 _ (by omega), fr_w2 _ (by omega), fr_w1 _ (by omega)]), (show w16 67 11 = w 39 11 by rw [fk_w16 _ (by omega), fk_w15 _ (by omega), cv_w14, fr_w13 _ (by omega), f_w11 _ (by omega), f_w9 _ (by omega), f_w7 _ (by omega), fr_w6 _ (by omega), fr_w5 _ (by omega), fr_w4 _ (by omega), fr_w3 _ (by omega), fr_w2 _ (by omega), fr_w1 _ (by omega)]), (show w16 67 12 = w 39 12 by rw [fk_w16 _ (by omega), cv_w15, fr_w14 _ (by omega), fr_w13 _ (by omega), f_w11 _ (by omega), f_w9 _ (by omega), f_w7 _ (by omega), fr_w6 _ (by omega), fr_w5 _ (by omega), fr_w4 _ (by omega), fr_w3 _ (by omega), fr_w2 _ (by omega), fr_w1 _ (by omega)]), (show w16 67 13 = w 39 13 by rw [cv_w16, fr_w15 _ (by omega), fr_w14 _ (by omega), fr_w13 _ (by omega), f_w11 _ (by omega), f_w9 _ (by omega), f_w7 _ (by omega), fr_w6 _ (by omega), fr_w5 _ (by omega), fr_w4 _ (by omega), fr_w3 _ (by omega), fr_w2 _ (by omega), fr_w1 _ (by omega)])⟩, fun j hj => (show w16 68 j = w 40 j by rw [fr_w16 _ (by omega), fr_w15 _ (by omega), fr_w14 _ (by omega), fr_w13 _ (by omega), f_w11 _ (by omega), f_w9 _ (by omega), f_w7 _ (by omega), fr_w6 _ (by omega), fr_w5 _ (by omega), fr_w4 _ (by omega), fr_w3 _ (by omega), fr_w2 _ (by omega), cp_w1 _ hj]), fun j hj => ⟨(show w16 69 j = w 41 j by rw [fr_w16 _ (by omega), fr_w15 _ (by omega), fr_w14 _ (by omega), fr_w13 _ (by omega), f_w11 _ (by omega), f_w9 _ (by omega), f_w7 _ (by omega), fr_w6 _ (by omega), fr_w5 _ (by omega), fr_w4 _ (by omega), fr_w3 _ (by omega), cp_w2 _ hj, fr_w1 _ (by omega)]), (show w16 70 j = w 42 j by rw [fr_w16 _ (by omega), fr_w15 _ (by omega), fr_w14 _ (by omega), fr_w13 _ (by omega), f_w11 _ (by omega), f_w9 _ (by omega), f_w7 _ (by omega), fr_w6 _ (by omega), fr_w5 _ (by omega), fr_w4 _ (by omega), cp_w3 _ hj, fr_w2 _ (by omega), fr_w1 _ (by omega)]), (show w16 71 j = w 43 j by rw [fr_w16 _ (by omega), fr_w15 _ (by omega), fr_w14 _ (by omega), fr_w13 _ (by omega), f_w11 _ (by omega), f_w9 _ (by omega), f_w7 _ (by omega), fr_w6 _ (by omega), fr_w5 _ (by omega), cp_w4 _ hj, fr_w3 _ (by omega), fr_w2 _ (by omega), fr_w1 _ (by omega)]), (show w16 72 j = w 44 j by rw [fr_w16 _ (by omega), fr_w15 _ (by omega), fr_w14 _ (by omega), fr_w13 _ (by omega), f_w11 _ (by omega), f_w9 _ (by omega), f_w7 _ (by omega), fr_w6 _ (by omega), cp_w5 _ hj, fr_w4 _ (by omega), fr_w3 _ (by omega), fr_w2 _ (by omega), fr_w1 _ (by omega)]), (show w16 73 j = w 45 j by rw [fr_w16 _ (by omega), fr_w15 _ (by omega), fr_w14 _ (by omega), fr_w13 _ (by omega), f_w11 _ (by omega), f_w9 _ (by omega), f_w7 _ (by omega), cp_w6 _ hj, fr_w5 _ (by omega), fr_w4 _ (by omega), fr_w3 _ (by omega), fr_w2 _ (by omega), fr_w1 _ (by omega)])⟩, k_m.re (fun r hr => by rw [fr_w16 _ (by omega), fr_w15 _ (by omega), fr_w14 _ (by omega), fr_w13 _ (by omega), f_w11 _ (by omega), f_w9 _ (by omega)]) (fun r hr => by rw [fr_w6 _ (by omega), fr_w5 _ (by omega), fr_w4 _ (by omega), fr_w3 _ (by omega), fr_w2 _ (by omega), fr_w1 _ (by omega)]), k_r.re (fun r hr => by rw [fr_w16 _ (by omega), fr_w15 _ (by omega), fr_w14 _ (by omega), fr_w13 _ (by omega), f_w11 _ (by omega)]) (fun r hr => by rw [f_w7 _ (by omega), fr_w6 _ (by omega), fr_w5 _ (by omega), fr_w4 _ (by omega), fr_w3 _ (by omega), fr_w2 _ (by omega), fr_w1 _ (by omega)]), k_p.re (fun r hr => by rw [fr_w16 _ (by omega), fr_w15 _ (by omega), fr_w14 _ (by omega), fr_w13 _ (by omega)]) (fun r hr => by rw [f_w9 _ (by omega), f_w7 _ (by omega), fr_w6 _ (by omega), fr_w5 _ (by omega), fr_w4 _ (by omega), fr_w3 _ (by omega), fr_w2 _ (by omega), fr_w1 _ (by omega)])⟩⟩)

set_option maxHeartbeats 4000000 in
set_option maxRecDepth 100000 in
theorem cC_netB_39 {l : Launch} {E : ic_E} {w : ic_w}  : ic_C l E mX5_become 3 0 0 False [ic_pt E 39, ic_pt E 67] SHs (hn w) SHs (ic_qv (fun h_ => ∃ w2, h_ = hn w2 ∧ (∀ a, a < 39 ∨ 66 < a → w2 a = w a) ∧ Nk w2 39 w 67)) := by
  refine ic_intro (by decide +kernel) (Nat.le_of_ble_eq_true rfl) ?_
  show xx l E _ _ 0 [(0, ic_pt E 39), (1, ic_pt E 67)] _ _ _
  refine xx_aload_nP (pc := 0) dX5_become_0 1 rfl rfl ?_
  refine xx_getR (pc := 1) 68 dX5_become_1 sh_67 fX5_9_5 rfl rfl (by decide) ?_
  refine xx_iconst (pc := 4) dX5_become_4 cc_iconst_0 ?_
  refine xx_aload_nP (pc := 5) dX5_become_5 0 rfl rfl ?_
  refine xx_getR (pc := 6) 40 dX5_become_6 sh_39 fX5_9_5 rfl rfl (by decide) ?_
  refine xx_iconst (pc := 9) dX5_become_9 cc_iconst_0 ?_
  refine xx_bipush (pc := 10) dX5_become_10 cc_bipush_16 ?_
  refine xx_copyN (pc := 12) (st := []) rfl dX5_become_12 aX5_68 sh_68 sh_40 (by omega) (by omega) (by decide) ⟨Nat.le_of_ble_eq_true rfl, Nat.le_of_ble_eq_true rfl⟩ ?_
  refine xx_nw (fun w1 ew1 => ?_)
  have fr_w1 : ∀ a, a ≠ 40 → w1 a = w a := fun a h => by rw [ew1, wr_n _ h]
  have cp_w1 : ∀ j, j < 16 → w1 40 j = w 68 j := fun j hj => by rw [ew1, wr_s, cp_at hj]
  refine xx_aload_nP (pc := 15) dX5_become_15 1 rfl rfl ?_
  refine xx_getR (pc := 16) 69 dX5_become_16 sh_67 fX5_15_5 rfl rfl (by decide) ?_
  refine xx_iconst (pc := 19) dX5_become_19 cc_iconst_0 ?_
  refine xx_aload_nP (pc := 20) dX5_become_20 0 rfl rfl ?_
  refine xx_getR (pc := 21) 41 dX5_become_21 sh_39 fX5_15_5 rfl rfl (by decide) ?_
  refine xx_iconst (pc := 24) dX5_become_24 cc_iconst_0 ?_
  refine xx_bipush (pc := 25) dX5_become_25 cc_bipush_6 ?_
  refine xx_copyN (pc := 27) (st := []) rfl dX5_become_27 aX5_68 sh_69 sh_41 (by omega) (by omega) (by decide) ⟨Nat.le_of_ble_eq_true rfl, Nat.le_of_ble_eq_true rfl⟩ ?_
  refine xx_nw (fun w2 ew2 => ?_)
  have fr_w2 : ∀ a, a ≠ 41 → w2 a = w1 a := fun a h => by rw [ew2, wr_n _ h]
  have cp_w2 : ∀ j, j < 6 → w2 41 j = w1 69 j := fun j hj => by rw [ew2, wr_s, cp_at hj]
  refine xx_aload_nP (pc := 30) dX5_become_30 1 rfl rfl ?_
  refine xx_getR (pc := 31) 70 dX5_become_31 sh_67 fX5_18_5 rfl rfl (by decide) ?_
  refine xx_iconst (pc := 34) dX5_become_34 cc_iconst_0 ?_
  refine xx_aload_nP (pc := 35) dX5_become_35 0 rfl rfl ?_
  refine xx_getR (pc := 36) 42 dX5_become_36 sh_39 fX5_18_5 rfl rfl (by decide) ?_
  refine xx_iconst (pc := 39) dX5_become_39 cc_iconst_0 ?_
  refine xx_bipush (pc := 40) dX5_become_40 cc_bipush_6 ?_
  refine xx_copyN (pc := 42) (st := []) rfl dX5_become_42 aX5_68 sh_70 sh_42 (by omega) (by omega) (by decide) ⟨Nat.le_of_ble_eq_true rfl, Nat.le_of_ble_eq_true rfl⟩ ?_
  refine xx_nw (fun w3 ew3 => ?_)
  have fr_w3 : ∀ a, a ≠ 42 → w3 a = w2 a := fun a h => by rw [ew3, wr_n _ h]
  have cp_w3 : ∀ j, j < 6 → w3 42 j = w2 70 j := fun j hj => by rw [ew3, wr_s, cp_at hj]
  refine xx_aload_nP (pc := 45) dX5_become_45 1 rfl rfl ?_
  refine xx_getR (pc := 46) 71 dX5_become_46 sh_67 fX5_21_5 rfl rfl (by decide) ?_
  refine xx_iconst (pc := 49) dX5_become_49 cc_iconst_0 ?_
  refine xx_aload_nP (pc := 50) dX5_become_50 0 rfl rfl ?_
  refine xx_getR (pc := 51) 43 dX5_become_51 sh_39 fX5_21_5 rfl rfl (by decide) ?_
  refine xx_iconst (pc := 54) dX5_become_54 cc_iconst_0 ?_
  refine xx_bipush (pc := 55) dX5_become_55 cc_bipush_6 ?_
  refine xx_copyN (pc := 57) (st := []) rfl dX5_become_57 aX5_68 sh_71 sh_43 (by omega) (by omega) (by decide) ⟨Nat.le_of_ble_eq_true rfl, Nat.le_of_ble_eq_true rfl⟩ ?_
  refine xx_nw (fun w4 ew4 => ?_)
  have fr_w4 : ∀ a, a ≠ 43 → w4 a = w3 a := fun a h => by rw [ew4, wr_n _ h]
  have cp_w4 : ∀ j, j < 6 → w4 43 j = w3 71 j := fun j hj => by rw [ew4, wr_s, cp_at hj]
  refine xx_aload_nP (pc := 60) dX5_become_60 1 rfl rfl ?_
  refine xx_getR (pc := 61) 72 dX5_become_61 sh_67 fX5_24_5 rfl rfl (by decide) ?_
  refine xx_iconst (pc := 64) dX5_become_64 cc_iconst_0 ?_
  refine xx_aload_nP (pc := 65) dX5_become_65 0 rfl rfl ?_
  refine xx_getR (pc := 66) 44 dX5_become_66 sh_39 fX5_24_5 rfl rfl (by decide) ?_
  refine xx_iconst (pc := 69) dX5_become_69 cc_iconst_0 ?_
  refine xx_bipush (pc := 70) dX5_become_70 cc_bipush_6 ?_
  refine xx_copyN (pc := 72) (st := []) rfl dX5_become_72 aX5_68 sh_72 sh_44 (by omega) (by omega) (by decide) ⟨Nat.le_of_ble_eq_true rfl, Nat.le_of_ble_eq_true rfl⟩ ?_
  refine xx_nw (fun w5 ew5 => ?_)
  have fr_w5 : ∀ a, a ≠ 44 → w5 a = w4 a := fun a h => by rw [ew5, wr_n _ h]
  have cp_w5 : ∀ j, j < 6 → w5 44 j = w4 72 j := fun j hj => by rw [ew5, wr_s, cp_at hj]
  refine xx_aload_nP (pc := 75) dX5_become_75 1 rfl rfl ?_
  refine xx_getR (pc := 76) 73 dX5_become_76 sh_67 fX5_27_5 rfl rfl (by decide) ?_
  refine xx_iconst (pc := 79) dX5_become_79 cc_iconst_0 ?_
  refine xx_aload_nP (pc := 80) dX5_become_80 0 rfl rfl ?_
  refine xx_getR (pc := 81) 45 dX5_become_81 sh_39 fX5_27_5 rfl rfl (by decide) ?_
  refine xx_iconst (pc := 84) dX5_become_84 cc_iconst_0 ?_
  refine xx_bipush (pc := 85) dX5_become_85 cc_bipush_6 ?_
  refine xx_copyN (pc := 87) (st := []) rfl dX5_become_87 aX5_68 sh_73 sh_45 (by omega) (by omega) (by decide) ⟨Nat.le_of_ble_eq_true rfl, Nat.le_of_ble_eq_true rfl⟩ ?_
  refine xx_nw (fun w6 ew6 => ?_)
  have fr_w6 : ∀ a, a ≠ 45 → w6 a = w5 a := fun a h => by rw [ew6, wr_n _ h]
  have cp_w6 : ∀ j, j < 6 → w6 45 j = w5 73 j := fun j hj => by rw [ew6, wr_s, cp_at hj]
  refine xx_aload_nP (pc := 90) dX5_become_90 0 rfl rfl ?_
  refine xx_getR (pc := 91) 46 dX5_become_91 sh_39 fX5_33_5 rfl rfl (by decide) ?_
  refine xx_aload_nP (pc := 94) dX5_become_94 1 rfl rfl ?_
  refine xx_getR (pc := 95) 74 dX5_become_95 sh_67 fX5_33_5 rfl rfl (by decide) ?_
  refine xx_callV0 (pc := 98) (st := []) sh_46 (cC_momB_46 (w := w6)) kX4_become vX5_74_4 dX5_become_98 rfl rfl (Nat.le_of_ble_eq_true rfl) ⟨Nat.le_of_ble_eq_true rfl, Nat.le_of_ble_eq_true rfl⟩ ⟨Nat.zero_le _, Nat.zero_le _⟩ (ic_kv (fun h_ qw7 => ?_))
  obtain ⟨w7, rfl, f_w7, k_m⟩ := qw7
  refine xx_aload_nP (pc := 101) dX5_become_101 0 rfl rfl ?_
  refine xx_getR (pc := 102) 49 dX5_become_102 sh_39 fX5_40_5 rfl rfl (by decide) ?_
  refine xx_aload_nP (pc := 105) dX5_become_105 1 rfl rfl ?_
  refine xx_getR (pc := 106) 77 dX5_become_106 sh_67 fX5_40_5 rfl rfl (by decide) ?_
  refine xx_callV0 (pc := 109) (st := []) sh_49 (cC_rulB_49 (w := w7)) kX10_become vX5_78_10 dX5_become_109 rfl rfl (Nat.le_of_ble_eq_true rfl) ⟨Nat.le_of_ble_eq_true rfl, Nat.le_of_ble_eq_true rfl⟩ ⟨Nat.zero_le _, Nat.zero_le _⟩ (ic_kv (fun h_ qw9 => ?_))
  obtain ⟨w9, rfl, f_w9, k_r⟩ := qw9
  refine xx_aload_nP (pc := 112) dX5_become_112 0 rfl rfl ?_
  refine xx_getR (pc := 113) 55 dX5_become_113 sh_39 fX5_47_5 rfl rfl (by decide) ?_
  refine xx_aload_nP (pc := 116) dX5_become_116 1 rfl rfl ?_
  refine xx_getR (pc := 117) 83 dX5_become_117 sh_67 fX5_47_5 rfl rfl (by decide) ?_
  refine xx_callV0 (pc := 120) (st := []) sh_55 (cC_repB_55 (w := w9)) kX8_become vX5_81_8 dX5_become_120 rfl rfl (Nat.le_of_ble_eq_true rfl) ⟨Nat.le_of_ble_eq_true rfl, Nat.le_of_ble_eq_true rfl⟩ ⟨Nat.zero_le _, Nat.zero_le _⟩ (ic_kv (fun h_ qw11 => ?_))
  obtain ⟨w11, rfl, f_w11, k_p⟩ := qw11
  refine xx_aload_nP (pc := 123) dX5_become_123 0 rfl rfl ?_
  refine xx_aload_nP (pc := 124) dX5_become_124 1 rfl rfl ?_
  refine xx_getN (pc := 125) dX5_become_125 sh_67 fX5_84_5 rfl ?_
  refine xx_putN (pc := 128) dX5_become_128 sh_39 fX5_84_5 rfl rfl ?_
  refine xx_nw (fun w13 ew13 => ?_)
  have fr_w13 : ∀ a, a ≠ 39 → w13 a = w11 a := fun a h => by rw [ew13, wu_row _ _ _ h]
  have fk_w13 : ∀ j, j ≠ 10 → w13 39 j = w11 39 j := fun j h => by rw [ew13, wu_k _ _ _ _ h]
  have cv_w13 : w13 39 10 = w11 67 10 := by rw [ew13, wu_s]
  refine xx_aload_nP (pc := 131) dX5_become_131 0 rfl rfl ?_
  refine xx_aload_nP (pc := 132) dX5_become_132 1 rfl rfl ?_
  refine xx_getN (pc := 133) dX5_become_133 sh_67 fX5_51_5 rfl ?_
  refine xx_putN (pc := 136) dX5_become_136 sh_39 fX5_51_5 rfl rfl ?_
  refine xx_nw (fun w14 ew14 => ?_)
  have fr_w14 : ∀ a, a ≠ 39 → w14 a = w13 a := fun a h => by rw [ew14, wu_row _ _ _ h]
  have fk_w14 : ∀ j, j ≠ 11 → w14 39 j = w13 39 j := fun j h => by rw [ew14, wu_k _ _ _ _ h]
  have cv_w14 : w14 39 11 = w13 67 11 := by rw [ew14, wu_s]
  refine xx_aload_nP (pc := 139) dX5_become_139 0 rfl rfl ?_
  refine xx_aload_nP (pc := 140) dX5_become_140 1 rfl rfl ?_
  refine xx_getN (pc := 141) dX5_become_141 sh_67 fX5_87_5 rfl ?_
  refine xx_putN (pc := 144) dX5_become_144 sh_39 fX5_87_5 rfl rfl ?_
  refine xx_nw (fun w15 ew15 => ?_)
  have fr_w15 : ∀ a, a ≠ 39 → w15 a = w14 a := fun a h => by rw [ew15, wu_row _ _ _ h]
  have fk_w15 : ∀ j, j ≠ 12 → w15 39 j = w14 39 j := fun j h => by rw [ew15, wu_k _ _ _ _ h]
  have cv_w15 : w15 39 12 = w14 67 12 := by rw [ew15, wu_s]
  refine xx_aload_nP (pc := 147) dX5_become_147 0 rfl rfl ?_
  refine xx_aload_nP (pc := 148) dX5_become_148 1 rfl rfl ?_
  refine xx_getN (pc := 149) dX5_become_149 sh_67 fX5_55_5 rfl ?_
  refine xx_putN (pc := 152) dX5_become_152 sh_39 fX5_55_5 rfl rfl ?_
  refine xx_nw (fun w16 ew16 => ?_)
  have fr_w16 : ∀ a, a ≠ 39 → w16 a = w15 a := fun a h => by rw [ew16, wu_row _ _ _ h]
  have fk_w16 : ∀ j, j ≠ 13 → w16 39 j = w15 39 j := fun j h => by rw [ew16, wu_k _ _ _ _ h]
  have cv_w16 : w16 39 13 = w15 67 13 := by rw [ew16, wu_s]
  exact xx_vret (pc := 155) dX5_become_155 rfl (Nat.le_refl _) (Nat.le_refl _) (ic_rv0 ⟨w16, rfl, fun a ha => by rw [fr_w16 _ (by omega), fr_w15 _ (by omega), fr_w14 _ (by omega), fr_w13 _ (by omega), f_w11 _ (by omega), f_w9 _ (by omega), f_w7 _ (by omega), fr_w6 _ (by omega), fr_w5 _ (by omega), fr_w4 _ (by omega), fr_w3 _ (by omega), fr_w2 _ (by omega), fr_w1 _ (by omega)], ⟨⟨(show w16 39 10 = w 67 10 by rw [fk_w16 _ (by omega), fk_w15 _ (by omega), fk_w14 _ (by omega), cv_w13, f_w11 _ (by omega), f_w9 _ (by omega), f_w7 _ (by omega), fr_w6 _ (by omega), fr_w5 _ (by omega), fr_w4 _ (by omega), fr_w3 _ (by omega), fr_w2 _ (by omega), fr_w1 _ (by omega)]), (show w16 39 11 = w 67 11 by rw [fk_w16 _ (by omega), fk_w15 _ (by omega), cv_w14, fr_w13 _ (by omega), f_w11 _ (by omega), f_w9 _ (by omega), f_w7 _ (by omega), fr_w6 _ (by omega), fr_w5 _ (by omega), fr_w4 _ (by omega), fr_w3 _ (by omega), fr_w2 _ (by omega), fr_w1 _ (by omega)]), (show w16 39 12 = w 67 12 by rw [fk_w16 _ (by omega), cv_w15, fr_w14 _ (by omega), fr_w13 _ (by omega), f_w11 _ (by omega), f_w9 _ (by omega), f_w7 _ (by omega), fr_w6 _ (by omega), fr_w5 _ (by omega), fr_w4 _ (by omega), fr_w3 _ (by omega), fr_w2 _ (by omega), fr_w1 _ (by omega)]), (show w16 39 13 = w 67 13 by rw [cv_w16, fr_w15 _ (by omega), fr_w14 _ (by omega), fr_w13 _ (by omega), f_w11 _ (by omega), f_w9 _ (by omega), f_w7 _ (by omega), fr_w6 _ (by omega), fr_w5 _ (by omega), fr_w4 _ (by omega), fr_w3 _ (by omega), fr_w2 _ (by omega), fr_w1 _ (by omega)])⟩, fun j hj => (show w16 40 j = w 68 j by rw [fr_w16 _ (by omega), fr_w15 _ (by omega), fr_w14 _ (by omega), fr_w13 _ (by omega), f_w11 _ (by omega), f_w9 _ (by omega), f_w7 _ (by omega), fr_w6 _ (by omega), fr_w5 _ (by omega), fr_w4 _ (by omega), fr_w3 _ (by omega), fr_w2 _ (by omega), cp_w1 _ hj]), fun j hj => ⟨(show w16 41 j = w 69 j by rw [fr_w16 _ (by omega), fr_w15 _ (by omega), fr_w14 _ (by omega), fr_w13 _ (by omega), f_w11 _ (by omega), f_w9 _ (by omega), f_w7 _ (by omega), fr_w6 _ (by omega), fr_w5 _ (by omega), fr_w4 _ (by omega), fr_w3 _ (by omega), cp_w2 _ hj, fr_w1 _ (by omega)]), (show w16 42 j = w 70 j by rw [fr_w16 _ (by omega), fr_w15 _ (by omega), fr_w14 _ (by omega), fr_w13 _ (by omega), f_w11 _ (by omega), f_w9 _ (by omega), f_w7 _ (by omega), fr_w6 _ (by omega), fr_w5 _ (by omega), fr_w4 _ (by omega), cp_w3 _ hj, fr_w2 _ (by omega), fr_w1 _ (by omega)]), (show w16 43 j = w 71 j by rw [fr_w16 _ (by omega), fr_w15 _ (by omega), fr_w14 _ (by omega), fr_w13 _ (by omega), f_w11 _ (by omega), f_w9 _ (by omega), f_w7 _ (by omega), fr_w6 _ (by omega), fr_w5 _ (by omega), cp_w4 _ hj, fr_w3 _ (by omega), fr_w2 _ (by omega), fr_w1 _ (by omega)]), (show w16 44 j = w 72 j by rw [fr_w16 _ (by omega), fr_w15 _ (by omega), fr_w14 _ (by omega), fr_w13 _ (by omega), f_w11 _ (by omega), f_w9 _ (by omega), f_w7 _ (by omega), fr_w6 _ (by omega), cp_w5 _ hj, fr_w4 _ (by omega), fr_w3 _ (by omega), fr_w2 _ (by omega), fr_w1 _ (by omega)]), (show w16 45 j = w 73 j by rw [fr_w16 _ (by omega), fr_w15 _ (by omega), fr_w14 _ (by omega), fr_w13 _ (by omega), f_w11 _ (by omega), f_w9 _ (by omega), f_w7 _ (by omega), cp_w6 _ hj, fr_w5 _ (by omega), fr_w4 _ (by omega), fr_w3 _ (by omega), fr_w2 _ (by omega), fr_w1 _ (by omega)])⟩, k_m.re (fun r hr => by rw [fr_w16 _ (by omega), fr_w15 _ (by omega), fr_w14 _ (by omega), fr_w13 _ (by omega), f_w11 _ (by omega), f_w9 _ (by omega)]) (fun r hr => by rw [fr_w6 _ (by omega), fr_w5 _ (by omega), fr_w4 _ (by omega), fr_w3 _ (by omega), fr_w2 _ (by omega), fr_w1 _ (by omega)]), k_r.re (fun r hr => by rw [fr_w16 _ (by omega), fr_w15 _ (by omega), fr_w14 _ (by omega), fr_w13 _ (by omega), f_w11 _ (by omega)]) (fun r hr => by rw [f_w7 _ (by omega), fr_w6 _ (by omega), fr_w5 _ (by omega), fr_w4 _ (by omega), fr_w3 _ (by omega), fr_w2 _ (by omega), fr_w1 _ (by omega)]), k_p.re (fun r hr => by rw [fr_w16 _ (by omega), fr_w15 _ (by omega), fr_w14 _ (by omega), fr_w13 _ (by omega)]) (fun r hr => by rw [f_w9 _ (by omega), f_w7 _ (by omega), fr_w6 _ (by omega), fr_w5 _ (by omega), fr_w4 _ (by omega), fr_w3 _ (by omega), fr_w2 _ (by omega), fr_w1 _ (by omega)])⟩⟩)

