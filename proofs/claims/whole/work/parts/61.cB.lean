/-! the class: what its things say of a row s of the reference's numbers -/
/-- a Moment lies at m -/
def Mo (m : Nat) : Prop := SHs[m]? = some (4, 0, [0, 0, m + 1 + 1, m + 2 + 1]) ∧ SHs[m + 1]? = some (100, 6, []) ∧ SHs[m + 2]? = some (100, 6, []) ∧ m < 114 ∧ (m = 1 ∨ m = 46 ∨ 99 ≤ m)
theorem Mo_1 : Mo 1 := ⟨rfl, rfl, rfl, by omega, by omega⟩
theorem Mo_46 : Mo 46 := ⟨rfl, rfl, rfl, by omega, by omega⟩
theorem Mo_99 : Mo 99 := ⟨rfl, rfl, rfl, by omega, by omega⟩
theorem Mo_102 : Mo 102 := ⟨rfl, rfl, rfl, by omega, by omega⟩
theorem Mo_105 : Mo 105 := ⟨rfl, rfl, rfl, by omega, by omega⟩
theorem Mo_108 : Mo 108 := ⟨rfl, rfl, rfl, by omega, by omega⟩
theorem Mo_111 : Mo 111 := ⟨rfl, rfl, rfl, by omega, by omega⟩
/-- the moment at m is that of the row s -/
def Cs (w : ic_w) (m : Nat) (s : Nat → Nat) : Prop := w m 0 = s 1 ∧ w m 1 = mo_outs s ∧ ∀ k, k < s 0 → w (m + 1) k = it s k 1 ∧ w (m + 2) k = it s k 5
def mo_en (sort a b : Nat) : Nat := if sort = 3 then 4294967295 else if sort = 4 then 4294967294 else if sort = 5 then 4294967293 else a + b * 16384 + sort * 268435456
/-- the rules at r are those of the row s -/
def Cr (w : ic_w) (r : Nat) (s : Nat → Nat) : Prop := w r 0 = s 5 ∧ (∀ i, i < s 5 → w (r + 1) i = s (72 + 4 * i) ∧ w (r + 2) i = s (73 + 4 * i) ∧ w (r + 3) i = s (75 + 4 * i) ∧ s (74 + 4 * i) = if i = 0 then 0 else s (75 + 4 * (i - 1))) ∧ ∀ k, k < s 7 → w (r + 4) k = mo_en (s (128 + 3 * k)) (s (129 + 3 * k)) (s (130 + 3 * k))
/-- all of the net but its moment, score, z -/
def Cn (w : ic_w) (s : Nat → Nat) : Prop := (w 39 10 = s 0 ∧ w 39 11 = s 2) ∧ (∀ k, k < s 0 → w 43 k = it s k 0 ∧ 1 ≤ it s k 0 ∧ w 44 k = it s k 2 ∧ w 45 k = it s k 3) ∧ (∀ f, f < 6 → w 41 f = s (44 + f) ∧ w 42 f = s (50 + f)) ∧ (∀ t, t < 16 → w 40 t = s (56 + t)) ∧ Cr w 49 s ∧
  (w 55 0 = s 6 ∧ ∀ i, i < 6 → i < s 6 → ∀ j, j < 4 → w (57 + i) j = s (104 + 4 * i + j))
theorem Cs.t {w : ic_w} {m : Nat} {s : Nat → Nat} (h : Cs w m s) : w m 0 = s 1 := h.1
theorem Cs.o {w : ic_w} {m : Nat} {s : Nat → Nat} (h : Cs w m s) : w m 1 = mo_outs s := h.2.1
theorem Cs.d {w : ic_w} {m k : Nat} {s : Nat → Nat} (h : Cs w m s) (hk : k < s 0) : w (m + 1) k = it s k 1 := (h.2.2 k hk).1
theorem Cs.a {w : ic_w} {m k : Nat} {s : Nat → Nat} (h : Cs w m s) (hk : k < s 0) : w (m + 2) k = it s k 5 := (h.2.2 k hk).2
theorem Cn.n {w : ic_w} {s : Nat → Nat} (h : Cn w s) : w 39 10 = s 0 := h.1.1
theorem Cn.e {w : ic_w} {s : Nat → Nat} (h : Cn w s) : w 39 11 = s 2 := h.1.2
theorem Cn.kd {w : ic_w} {s : Nat → Nat} (h : Cn w s) {k : Nat} (hk : k < s 0) : w 43 k = it s k 0 := (h.2.1 k hk).1
theorem Cn.k1 {w : ic_w} {s : Nat → Nat} (h : Cn w s) {k : Nat} (hk : k < s 0) : 1 ≤ it s k 0 := (h.2.1 k hk).2.1
theorem Cn.ws {w : ic_w} {s : Nat → Nat} (h : Cn w s) {k : Nat} (hk : k < s 0) : w 44 k = it s k 2 := (h.2.1 k hk).2.2.1
theorem Cn.hm {w : ic_w} {s : Nat → Nat} (h : Cn w s) {k : Nat} (hk : k < s 0) : w 45 k = it s k 3 := (h.2.1 k hk).2.2.2
theorem Cn.g {w : ic_w} {s : Nat → Nat} (h : Cn w s) {f : Nat} (hf : f < 6) : w 41 f = s (44 + f) := (h.2.2.1 f hf).1
theorem Cn.p {w : ic_w} {s : Nat → Nat} (h : Cn w s) {f : Nat} (hf : f < 6) : w 42 f = s (50 + f) := (h.2.2.1 f hf).2
theorem Cn.c {w : ic_w} {s : Nat → Nat} (h : Cn w s) {t : Nat} (ht : t < 16) : w 40 t = s (56 + t) := h.2.2.2.1 t ht
theorem Cn.r {w : ic_w} {s : Nat → Nat} (h : Cn w s) : Cr w 49 s := h.2.2.2.2.1
theorem Cn.rk {w : ic_w} {s : Nat → Nat} (h : Cn w s) {i : Nat} (hi : i < s 5) : w 50 i = s (72 + 4 * i) ∧ w 51 i = s (73 + 4 * i) ∧ w 52 i = s (75 + 4 * i) ∧ s (74 + 4 * i) = if i = 0 then 0 else s (75 + 4 * (i - 1)) := h.r.2.1 i hi
theorem Cn.rc {w : ic_w} {s : Nat → Nat} (h : Cn w s) {k : Nat} (hk : k < s 7) : w 53 k = mo_en (s (128 + 3 * k)) (s (129 + 3 * k)) (s (130 + 3 * k)) := h.r.2.2 k hk
theorem Cn.r0 {w : ic_w} {s : Nat → Nat} (h : Cn w s) : w 49 0 = s 5 := h.r.1
theorem Cn.q {w : ic_w} {s : Nat → Nat} (h : Cn w s) : w 55 0 = s 6 ∧ ∀ i, i < 6 → i < s 6 → ∀ j, j < 4 → w (57 + i) j = s (104 + 4 * i + j) := h.2.2.2.2.2
/-- scratch of the net apart, nothing is changed -/
def Fs (w w2 : ic_w) : Prop := ∀ a, a ≠ 65 → a ≠ 66 → w2 a = w a
theorem Fs.rf (w : ic_w) : Fs w w := fun _ _ _ => rfl
theorem Fs.tr {w a b : ic_w} (h : Fs w a) (g : Fs a b) : Fs w b := fun q h1 h2 => (g q h1 h2).trans (h q h1 h2)
/-- scratch of the net and the moment at m apart -/
def Fm (m : Nat) (w w2 : ic_w) : Prop := ∀ a, a ≠ 65 → a ≠ 66 → a ≠ m → a ≠ m + 1 → a ≠ m + 2 → w2 a = w a
theorem Fm.tr {m : Nat} {w a b : ic_w} (h : Fm m w a) (g : Fm m a b) : Fm m w b := fun q h1 h2 h3 h4 h5 => (g q h1 h2 h3 h4 h5).trans (h q h1 h2 h3 h4 h5)
theorem Fs.m {m : Nat} {w a : ic_w} (h : Fs w a) : Fm m w a := fun q h1 h2 _ _ _ => h q h1 h2
theorem Cr.of {w w2 : ic_w} {r : Nat} {s : Nat → Nat} (h : Cr w r s) (e0 : w2 r 0 = w r 0) (e : ∀ a, r < a → a ≤ r + 4 → w2 a = w a) : Cr w2 r s := by
  refine ⟨e0.trans h.1, fun i hi => ?_, fun k hk => ?_⟩
  · rw [e _ (by omega) (by omega), e _ (by omega) (by omega), e _ (by omega) (by omega)]
    exact h.2.1 i hi
  · rw [e _ (by omega) (by omega)]
    exact h.2.2 k hk
/-- what the net rests on is kept -/
theorem Cn.of {w w2 : ic_w} {s : Nat → Nat} (h : Cn w s) (e1 : w2 39 10 = w 39 10) (e2 : w2 39 11 = w 39 11) (e3 : w2 55 0 = w 55 0) (e : ∀ a, 40 ≤ a → a ≤ 62 → a ≠ 46 → a ≠ 47 → a ≠ 48 → a ≠ 54 → a ≠ 55 → a ≠ 56 → w2 a = w a) : Cn w2 s := by
  refine ⟨⟨e1.trans h.n, e2.trans h.e⟩, fun k hk => ?_, fun f hf => ?_, fun t ht => ?_, h.r.of (by rw [e _ (by omega) (by omega) (by omega) (by omega) (by omega) (by omega) (by omega) (by omega)]) (fun a h1 h2 => e a (by omega) (by omega) (by omega) (by omega) (by omega) (by omega) (by omega) (by omega)), e3.trans h.q.1, fun i h6 hi j hj => ?_⟩
  · rw [e 43 (by omega) (by omega) (by omega) (by omega) (by omega) (by omega) (by omega) (by omega), e 44 (by omega) (by omega) (by omega) (by omega) (by omega) (by omega) (by omega) (by omega), e 45 (by omega) (by omega) (by omega) (by omega) (by omega) (by omega) (by omega) (by omega)]
    exact h.2.1 k hk
  · rw [e 41 (by omega) (by omega) (by omega) (by omega) (by omega) (by omega) (by omega) (by omega), e 42 (by omega) (by omega) (by omega) (by omega) (by omega) (by omega) (by omega) (by omega)]
    exact h.2.2.1 f hf
  · rw [e 40 (by omega) (by omega) (by omega) (by omega) (by omega) (by omega) (by omega) (by omega)]
    exact h.c ht
  · rw [e (57 + i) (by omega) (by omega) (by omega) (by omega) (by omega) (by omega) (by omega) (by omega)]
    exact h.q.2 i h6 hi j hj
theorem Cs.of {w w2 : ic_w} {m : Nat} {s : Nat → Nat} (h : Cs w m s) (e0 : w2 m = w m) (e1 : w2 (m + 1) = w (m + 1)) (e2 : w2 (m + 2) = w (m + 2)) : Cs w2 m s := by
  refine ⟨by rw [e0]; exact h.1, by rw [e0]; exact h.2.1, fun k hk => ?_⟩
  rw [e1, e2]
  exact h.2.2 k hk
theorem Cn.fs {w w2 : ic_w} {s : Nat → Nat} (h : Cn w s) (g : Fs w w2) : Cn w2 s := h.of (by rw [g _ (by omega) (by omega)]) (by rw [g _ (by omega) (by omega)]) (by rw [g _ (by omega) (by omega)]) (fun a _ _ _ _ _ _ _ _ => g a (by omega) (by omega))
theorem Cs.fs {w w2 : ic_w} {m : Nat} {s : Nat → Nat} (h : Cs w m s) (hM : Mo m) (g : Fs w w2) : Cs w2 m s := by
  have := hM.2.2.2
  exact h.of (g _ (by omega) (by omega)) (g _ (by omega) (by omega)) (g _ (by omega) (by omega))
theorem Cn.fm {w w2 : ic_w} {m : Nat} {s : Nat → Nat} (h : Cn w s) (hM : Mo m) (g : Fm m w w2) : Cn w2 s := by
  have hx := hM.2.2.2
  exact h.of (by rw [g _ (by omega) (by omega) (by omega) (by omega) (by omega)]) (by rw [g _ (by omega) (by omega) (by omega) (by omega) (by omega)]) (by rw [g _ (by omega) (by omega) (by omega) (by omega) (by omega)]) (fun a _ _ _ _ _ _ _ _ => g a (by omega) (by omega) (by omega) (by omega) (by omega))
/-- rows that differ in what the net doesn't look at -/
theorem Cr.to {w : ic_w} {r : Nat} {s t : Nat → Nat} (h : Cr w r s) (e : ∀ k, k = 5 ∨ k = 7 ∨ (72 ≤ k ∧ k < 104) ∨ 128 ≤ k → t k = s k) (h5 : s 5 ≤ 8) : Cr w r t := by
  refine ⟨by rw [e 5 (by omega)]; exact h.1, fun i hi => ?_, fun k hk => ?_⟩
  · rw [e 5 (by omega)] at hi
    have := h.2.1 i hi
    rw [e _ (by omega), e _ (by omega), e (75 + 4 * i) (by omega), e (74 + 4 * i) (by omega)]
    refine ⟨this.1, this.2.1, this.2.2.1, ?_⟩
    rw [this.2.2.2]
    split
    · rfl
    · rw [e _ (by omega)]
  · rw [e 7 (by omega)] at hk
    rw [e _ (by omega), e _ (by omega), e _ (by omega)]
    exact h.2.2 k hk
theorem Cn.to {w : ic_w} {s t : Nat → Nat} (h : Cn w s) (hI : In s) (e : ∀ k, k = 0 ∨ k = 2 ∨ k = 5 ∨ k = 6 ∨ k = 7 ∨ 44 ≤ k → t k = s k) (ei : ∀ k, k < s 0 → it t k 0 = it s k 0 ∧ it t k 2 = it s k 2 ∧ it t k 3 = it s k 3) : Cn w t := by
  have h5 := hI.2.2.1
  refine ⟨⟨by rw [e 0 (by omega)]; exact h.n, by rw [e 2 (by omega)]; exact h.e⟩, fun k hk => ?_, fun f hf => ?_, fun q hq => ?_, h.r.to (fun k hk => e k (by omega)) h5.1, by rw [e 6 (by omega)]; exact h.q.1, fun i h6 hi j hj => ?_⟩
  · rw [e 0 (by omega)] at hk
    rw [(ei k hk).1, (ei k hk).2.1, (ei k hk).2.2]
    exact h.2.1 k hk
  · rw [e _ (by omega), e _ (by omega)]
    exact h.2.2.1 f hf
  · rw [e _ (by omega)]
    exact h.c hq
  · rw [e 6 (by omega)] at hi
    rw [e _ (by omega)]
    exact h.q.2 i h6 hi j hj

set_option maxHeartbeats 4000000 in
set_option maxRecDepth 100000 in
theorem cC_isOut {l : Launch} {E : ic_E} {w : ic_w} {m k : Nat} {s : Nat → Nat} (hM : Mo m) (hc : Cs w m s) (hk : k < s 0) (hI : In s) : ic_C l E mX4_isOut 1 0 0 False [ic_pt E m, .int (nI k)] SHs (hn w) SHs (ic_qe (nI (ic_bo (it s k 4 = 1))) (hn w)) := by
  refine ic_intro (by decide +kernel) (Nat.le_of_ble_eq_true rfl) ?_
  show xx l E _ _ 0 [(0, ic_pt E m), (1, .int (nI k))] _ _ _
  have hMb := hM.2.2.2
  have hn0 := hI.n
  have hO : w m 1 < 2 ^ 6 := by rw [hc.o]; exact Nat.lt_of_lt_of_le (mo_set_lt _ _) (Nat.pow_le_pow_right (by omega) hn0)
  have hB : w m 1 / 2 ^ k % 2 = if k < s 0 ∧ decide (it s k 4 = 1) = true then 1 else 0 := by rw [hc.o]; exact mo_set_bit _ _ _
  have hx_ := mo_and1 (w m 1 / 2 ^ k)
  refine xx_aload_nP (pc := 0) dX4_isOut_0 0 rfl rfl ?_
  refine xx_getN (pc := 1) dX4_isOut_1 hM.1 fX4_22_4 rfl ?_
  refine xx_iload_n (pc := 4) dX4_isOut_4 1 rfl rfl ?_
  refine xx_ishrN (pc := 5) dX4_isOut_5 (by omega) (by omega) ?_
  refine xx_iconst (pc := 6) dX4_isOut_6 cc_iconst_1 ?_
  refine xx_iandN (pc := 7) dX4_isOut_7 ?_
  refine xx_if_eqN (pc := 8) 15 dX4_isOut_8 rfl (by omega) (fun c1 => ?_) (fun c1 => ?_)
  · refine xx_iconst (pc := 15) dX4_isOut_15 cc_iconst_0 ?_
    exact xx_iret (pc := 16) dX4_isOut_16 rfl (rfl) (Nat.le_refl _) (Nat.le_refl _) (ic_re (ic_bo_f (fun z => by rw [if_pos ⟨hk, by simp [z]⟩] at hB; omega)).symm)
  · refine xx_iconst (pc := 11) dX4_isOut_11 cc_iconst_1 ?_
    refine xx_goto (pc := 12) 16 dX4_isOut_12 rfl ?_
    exact xx_iret (pc := 16) dX4_isOut_16 rfl (rfl) (Nat.le_refl _) (Nat.le_refl _) (ic_re (ic_bo_t (by by_cases z : it s k 4 = 1; exact z; rw [if_neg (by simp [z])] at hB; omega)).symm)

set_option maxHeartbeats 4000000 in
set_option maxRecDepth 100000 in
theorem cC_mbecome {l : Launch} {E : ic_E} {w : ic_w} {m p : Nat} (hM : Mo m) (hP : Mo p) (hmp : m + 2 < p ∨ p + 2 < m) : ic_C l E mX4_become 2 0 0 False [ic_pt E m, ic_pt E p] SHs (hn w) SHs (ic_qv (fun h_ => ∃ w2, h_ = hn w2 ∧ w2 m 0 = w p 0 ∧ w2 m 1 = w p 1 ∧ (∀ j, j < 6 → w2 (m + 1) j = w (p + 1) j ∧ w2 (m + 2) j = w (p + 2) j) ∧ ∀ a, a ≠ m → a ≠ m + 1 → a ≠ m + 2 → w2 a = w a)) := by
  refine ic_intro (by decide +kernel) (Nat.le_of_ble_eq_true rfl) ?_
  show xx l E _ _ 0 [(0, ic_pt E m), (1, ic_pt E p)] _ _ _
  have hMb := hM.2.2.2
  have hPb := hP.2.2.2
  refine xx_aload_nP (pc := 0) dX4_become_0 0 rfl rfl ?_
  refine xx_aload_nP (pc := 1) dX4_become_1 1 rfl rfl ?_
  refine xx_getN (pc := 2) dX4_become_2 hP.1 fX4_18_4 rfl ?_
  refine xx_putN (pc := 5) dX4_become_5 hM.1 fX4_18_4 rfl rfl ?_
  refine xx_nw (fun w1 ew1 => ?_)
  have f1 : w1 p = w p := by rw [ew1, wu_row _ _ _ (by omega)]
  refine xx_aload_nP (pc := 8) dX4_become_8 0 rfl rfl ?_
  refine xx_aload_nP (pc := 9) dX4_become_9 1 rfl rfl ?_
  refine xx_getN (pc := 10) dX4_become_10 hP.1 fX4_22_4 rfl ?_
  refine xx_putN (pc := 13) dX4_become_13 hM.1 fX4_22_4 rfl rfl ?_
  refine xx_nw (fun w2 ew2 => ?_)
  have g0 : w2 m 0 = w p 0 := by rw [ew2, wu_k _ _ _ _ (by omega), ew1, wu_s]
  have g1 : w2 m 1 = w p 1 := by rw [ew2, wu_s, f1]
  have gf : ∀ a, a ≠ m → w2 a = w a := fun a h => by rw [ew2, wu_row _ _ _ h, ew1, wu_row _ _ _ h]
  refine xx_aload_nP (pc := 16) dX4_become_16 1 rfl rfl ?_
  refine xx_getR (pc := 17) (p + 1) dX4_become_17 hP.1 fX4_9_4 rfl (by rfl) (by omega) ?_
  refine xx_iconst (pc := 20) dX4_become_20 cc_iconst_0 ?_
  refine xx_aload_nP (pc := 21) dX4_become_21 0 rfl rfl ?_
  refine xx_getR (pc := 22) (m + 1) dX4_become_22 hM.1 fX4_9_4 rfl (by rfl) (by omega) ?_
  refine xx_iconst (pc := 25) dX4_become_25 cc_iconst_0 ?_
  refine xx_bipush (pc := 26) dX4_become_26 cc_bipush_6 ?_
  refine xx_copyN (pc := 28) (st := []) rfl dX4_become_28 aX4_25 hP.2.1 hM.2.1 (by omega) (by omega) (by decide) ⟨Nat.le_of_ble_eq_true rfl, Nat.le_of_ble_eq_true rfl⟩ ?_
  refine xx_nw (fun w3 ew3 => ?_)
  refine xx_aload_nP (pc := 31) dX4_become_31 1 rfl rfl ?_
  refine xx_getR (pc := 32) (p + 2) dX4_become_32 hP.1 fX4_15_4 rfl (by rfl) (by omega) ?_
  refine xx_iconst (pc := 35) dX4_become_35 cc_iconst_0 ?_
  refine xx_aload_nP (pc := 36) dX4_become_36 0 rfl rfl ?_
  refine xx_getR (pc := 37) (m + 2) dX4_become_37 hM.1 fX4_15_4 rfl (by rfl) (by omega) ?_
  refine xx_iconst (pc := 40) dX4_become_40 cc_iconst_0 ?_
  refine xx_bipush (pc := 41) dX4_become_41 cc_bipush_6 ?_
  refine xx_copyN (pc := 43) (st := []) rfl dX4_become_43 aX4_25 hP.2.2.1 hM.2.2.1 (by omega) (by omega) (by decide) ⟨Nat.le_of_ble_eq_true rfl, Nat.le_of_ble_eq_true rfl⟩ ?_
  refine xx_nw (fun w4 ew4 => ?_)
  exact xx_vret (pc := 46) dX4_become_46 rfl (Nat.le_refl _) (Nat.le_refl _) (ic_rv0 ⟨w4, rfl, by rw [ew4, wr_n _ (by omega), ew3, wr_n _ (by omega), g0], by rw [ew4, wr_n _ (by omega), ew3, wr_n _ (by omega), g1], fun j hj => ⟨by rw [ew4, wr_n _ (by omega), ew3, wr_s, gf (p + 1) (by omega)]; unfold mo_cp; rw [if_pos (by omega)]; congr 1; omega, by rw [ew4, wr_s, ew3, wr_n _ (show p + 2 ≠ m + 1 by omega), gf (p + 2) (by omega)]; unfold mo_cp; rw [if_pos (by omega)]; congr 1; omega⟩, fun a h1 h2 h3 => by rw [ew4, wr_n _ h3, ew3, wr_n _ h2, gf _ h1]⟩)

theorem Cs.bc {w w2 : ic_w} {m p : Nat} {s : Nat → Nat} (h : Cs w p s) (hI : In s) (h0 : w2 m 0 = w p 0) (h1 : w2 m 1 = w p 1) (hj : ∀ j, j < 6 → w2 (m + 1) j = w (p + 1) j ∧ w2 (m + 2) j = w (p + 2) j) : Cs w2 m s := by
  have hn0 := hI.n
  refine ⟨h0.trans h.t, h1.trans h.o, fun k hk => ?_⟩
  rw [(hj k (by omega)).1, (hj k (by omega)).2]
  exact h.2.2 k hk
theorem cC_sinksR {l : Launch} {E : ic_E} {w : ic_w} {ob r lm q : Nat} : ic_C l E mX9_sinks 1 0 0 False [ic_pt E ob, .int (nI r), .int (nI lm), .int (nI q)] SHs (hn w) SHs (ic_qe (nI (r + q)) (hn w)) := by
  refine ic_intro (by decide +kernel) (Nat.le_of_ble_eq_true rfl) ?_
  show xx l E _ _ 0 [(0, ic_pt E ob), (1, .int (nI r)), (2, .int (nI lm)), (3, .int (nI q))] _ _ _
  refine xx_iload_n (pc := 0) dX9_sinks_0 1 rfl rfl ?_
  refine xx_iload_n (pc := 1) dX9_sinks_1 3 rfl rfl ?_
  refine xx_iaddN (pc := 2) dX9_sinks_2 ?_
  exact xx_iret (pc := 3) dX9_sinks_3 rfl (rfl) (Nat.le_refl _) (Nat.le_refl _) (ic_re rfl)
set_option maxHeartbeats 4000000 in
set_option maxRecDepth 100000 in
theorem cC_sinks1 {l : Launch} {E : ic_E} {w : ic_w} {r lm q : Nat} (hr : r ≤ 3) (hl : lm ≤ 3) (hq : q ≤ 6) : ic_C l E mX7_sinks 1 0 0 False [ic_pt E 29, .int (nI r), .int (nI lm), .int (nI q)] SHs (hn w) SHs (ic_qe (nI (mo_sinks 1 (4 * r + lm) q)) (hn w)) := by
  refine ic_intro (by decide +kernel) (Nat.le_of_ble_eq_true rfl) ?_
  show xx l E _ _ 0 [(0, ic_pt E 29), (1, .int (nI r)), (2, .int (nI lm)), (3, .int (nI q))] _ _ _
  have e4 : (4 * r + lm) / 4 = r ∧ (4 * r + lm) % 4 = lm := by omega
  refine xx_iload_n (pc := 0) dX7_sinks_0 2 rfl rfl ?_
  refine xx_if_leN (pc := 1) 8 dX7_sinks_1 rfl (by omega) (fun c1 => ?_) (fun c1 => ?_)
  · refine xx_iconst (pc := 8) dX7_sinks_8 cc_iconst_1 ?_
    exact xx_iret (pc := 9) dX7_sinks_9 rfl (rfl) (Nat.le_refl _) (Nat.le_refl _) (ic_re (by unfold mo_sinks; rw [e4.1, e4.2]; first | rfl | (simp only [if_true, if_false]; first | rfl | (simp; omega))))
  · refine xx_iconst (pc := 4) dX7_sinks_4 cc_iconst_0 ?_
    refine xx_goto (pc := 5) 9 dX7_sinks_5 rfl ?_
    exact xx_iret (pc := 9) dX7_sinks_9 rfl (rfl) (Nat.le_refl _) (Nat.le_refl _) (ic_re (by unfold mo_sinks; rw [e4.1, e4.2]; first | rfl | (simp only [if_true, if_false]; first | rfl | (simp; omega))))

set_option maxHeartbeats 4000000 in
set_option maxRecDepth 100000 in
theorem cC_sinks2_31 {l : Launch} {E : ic_E} {w : ic_w} {r lm q : Nat} (hr : r ≤ 3) (hl : lm ≤ 3) (hq : q ≤ 6) : ic_C l E mX3_sinks 2 0 0 False [ic_pt E 31, .int (nI r), .int (nI lm), .int (nI q)] SHs (hn w) SHs (ic_qe (nI (mo_sinks 2 (4 * r + lm) q)) (hn w)) := by
  refine ic_intro (by decide +kernel) (Nat.le_of_ble_eq_true rfl) ?_
  show xx l E _ _ 0 [(0, ic_pt E 31), (1, .int (nI r)), (2, .int (nI lm)), (3, .int (nI q))] _ _ _
  have e4 : (4 * r + lm) / 4 = r ∧ (4 * r + lm) % 4 = lm := by omega
  refine xx_iconst (pc := 0) dX3_sinks_0 cc_iconst_2 ?_
  refine xx_aload_nP (pc := 1) dX3_sinks_1 0 rfl rfl ?_
  refine xx_iload_n (pc := 2) dX3_sinks_2 1 rfl rfl ?_
  refine xx_iload_n (pc := 3) dX3_sinks_3 2 rfl rfl ?_
  refine xx_iload_n (pc := 4) dX3_sinks_4 3 rfl rfl ?_
  refine xx_callP0 (pc := 5) (st := [.int (nI 2)]) sh_31 (by decide) (cC_sinksR (w := w) (ob := 31) (r := r) (lm := lm) (q := q)) kX9_sinks pX3_7 dX3_sinks_5 rfl rfl (Nat.le_of_ble_eq_true rfl) ⟨Nat.le_of_ble_eq_true rfl, Nat.le_of_ble_eq_true rfl⟩ ⟨Nat.zero_le _, Nat.zero_le _⟩ (ic_ke ?_)
  refine xx_imulN (pc := 8) dX3_sinks_8 ?_
  exact xx_iret (pc := 9) dX3_sinks_9 rfl (rfl) (Nat.le_refl _) (Nat.le_refl _) (ic_re (by unfold mo_sinks; rw [e4.1, e4.2]; first | rfl | (simp only [if_true, if_false]; first | rfl | (simp; omega))))

set_option maxHeartbeats 4000000 in
set_option maxRecDepth 100000 in
theorem cC_sinks2_33 {l : Launch} {E : ic_E} {w : ic_w} {r lm q : Nat} (hr : r ≤ 3) (hl : lm ≤ 3) (hq : q ≤ 6) : ic_C l E mX3_sinks 2 0 0 False [ic_pt E 33, .int (nI r), .int (nI lm), .int (nI q)] SHs (hn w) SHs (ic_qe (nI (mo_sinks 2 (4 * r + lm) q)) (hn w)) := by
  refine ic_intro (by decide +kernel) (Nat.le_of_ble_eq_true rfl) ?_
  show xx l E _ _ 0 [(0, ic_pt E 33), (1, .int (nI r)), (2, .int (nI lm)), (3, .int (nI q))] _ _ _
  have e4 : (4 * r + lm) / 4 = r ∧ (4 * r + lm) % 4 = lm := by omega
  refine xx_iconst (pc := 0) dX3_sinks_0 cc_iconst_2 ?_
  refine xx_aload_nP (pc := 1) dX3_sinks_1 0 rfl rfl ?_
  refine xx_iload_n (pc := 2) dX3_sinks_2 1 rfl rfl ?_
  refine xx_iload_n (pc := 3) dX3_sinks_3 2 rfl rfl ?_
  refine xx_iload_n (pc := 4) dX3_sinks_4 3 rfl rfl ?_
  refine xx_callP0 (pc := 5) (st := [.int (nI 2)]) sh_33 (by decide) (cC_sinksR (w := w) (ob := 33) (r := r) (lm := lm) (q := q)) kX9_sinks pX3_7 dX3_sinks_5 rfl rfl (Nat.le_of_ble_eq_true rfl) ⟨Nat.le_of_ble_eq_true rfl, Nat.le_of_ble_eq_true rfl⟩ ⟨Nat.zero_le _, Nat.zero_le _⟩ (ic_ke ?_)
  refine xx_imulN (pc := 8) dX3_sinks_8 ?_
  exact xx_iret (pc := 9) dX3_sinks_9 rfl (rfl) (Nat.le_refl _) (Nat.le_refl _) (ic_re (by unfold mo_sinks; rw [e4.1, e4.2]; first | rfl | (simp only [if_true, if_false]; first | rfl | (simp; omega))))

set_option maxHeartbeats 4000000 in
set_option maxRecDepth 100000 in
theorem cC_sinks3 {l : Launch} {E : ic_E} {w : ic_w} {r lm q : Nat} (hr : r ≤ 3) (hl : lm ≤ 3) (hq : q ≤ 6) : ic_C l E mX2_sinks 3 0 0 False [ic_pt E 33, .int (nI r), .int (nI lm), .int (nI q)] SHs (hn w) SHs (ic_qe (nI (mo_sinks 3 (4 * r + lm) q)) (hn w)) := by
  refine ic_intro (by decide +kernel) (Nat.le_of_ble_eq_true rfl) ?_
  show xx l E _ _ 0 [(0, ic_pt E 33), (1, .int (nI r)), (2, .int (nI lm)), (3, .int (nI q))] _ _ _
  have e4 : (4 * r + lm) / 4 = r ∧ (4 * r + lm) % 4 = lm := by omega
  refine xx_aload_nP (pc := 0) dX2_sinks_0 0 rfl rfl ?_
  refine xx_iload_n (pc := 1) dX2_sinks_1 1 rfl rfl ?_
  refine xx_iload_n (pc := 2) dX2_sinks_2 2 rfl rfl ?_
  refine xx_iload_n (pc := 3) dX2_sinks_3 3 rfl rfl ?_
  refine xx_callP0 (pc := 4) (st := []) sh_33 (by decide) (cC_sinks2_33 (w := w) (r := r) (lm := lm) (q := q) (by omega) (by omega) (by omega)) kX3_sinks pX2_7 dX2_sinks_4 rfl rfl (Nat.le_of_ble_eq_true rfl) ⟨Nat.le_of_ble_eq_true rfl, Nat.le_of_ble_eq_true rfl⟩ ⟨Nat.zero_le _, Nat.zero_le _⟩ (ic_ke ?_)
  refine xx_iconst (pc := 7) dX2_sinks_7 cc_iconst_3 ?_
  refine xx_iaddN (pc := 8) dX2_sinks_8 ?_
  exact xx_iret (pc := 9) dX2_sinks_9 rfl (rfl) (Nat.le_refl _) (Nat.le_refl _) (ic_re (by unfold mo_sinks; rw [e4.1, e4.2]; first | rfl | (simp only [if_true, if_false]; first | rfl | (simp; omega))))

set_option maxHeartbeats 4000000 in
set_option maxRecDepth 100000 in
theorem cC_sinks4_35 {l : Launch} {E : ic_E} {w : ic_w} {r lm q : Nat} (hr : r ≤ 3) (hl : lm ≤ 3) (hq : q ≤ 6) : ic_C l E mX1_sinks 2 0 0 False [ic_pt E 35, .int (nI r), .int (nI lm), .int (nI q)] SHs (hn w) SHs (ic_qe (nI (mo_sinks 4 (4 * r + lm) q)) (hn w)) := by
  refine ic_intro (by decide +kernel) (Nat.le_of_ble_eq_true rfl) ?_
  show xx l E _ _ 0 [(0, ic_pt E 35), (1, .int (nI r)), (2, .int (nI lm)), (3, .int (nI q))] _ _ _
  have e4 : (4 * r + lm) / 4 = r ∧ (4 * r + lm) % 4 = lm := by omega
  refine xx_iconst (pc := 0) dX1_sinks_0 cc_iconst_0 ?_
  refine xx_aload_nP (pc := 1) dX1_sinks_1 0 rfl rfl ?_
  refine xx_iload_n (pc := 2) dX1_sinks_2 1 rfl rfl ?_
  refine xx_iload_n (pc := 3) dX1_sinks_3 2 rfl rfl ?_
  refine xx_iload_n (pc := 4) dX1_sinks_4 3 rfl rfl ?_
  refine xx_callP0 (pc := 5) (st := [.int (nI 0)]) sh_35 (by decide) (cC_sinksR (w := w) (ob := 35) (r := r) (lm := lm) (q := q)) kX9_sinks pX1_7 dX1_sinks_5 rfl rfl (Nat.le_of_ble_eq_true rfl) ⟨Nat.le_of_ble_eq_true rfl, Nat.le_of_ble_eq_true rfl⟩ ⟨Nat.zero_le _, Nat.zero_le _⟩ (ic_ke ?_)
  refine xx_iload_n (pc := 8) dX1_sinks_8 2 rfl rfl ?_
  refine xx_isubW (pc := 9) dX1_sinks_9 (by omega) ?_
  refine xx_callS0 (pc := 10) (st := []) (cC_max0 (w := w) (a := (r + q)) (b := lm) (by omega) (by omega)) kJ9_max_7cf53 sX1_11 dX1_sinks_10 rfl rfl (Nat.le_of_ble_eq_true rfl) ⟨Nat.le_of_ble_eq_true rfl, Nat.le_of_ble_eq_true rfl⟩ ⟨Nat.zero_le _, Nat.zero_le _⟩ (ic_ke ?_)
  exact xx_iret (pc := 13) dX1_sinks_13 rfl (rfl) (Nat.le_refl _) (Nat.le_refl _) (ic_re (by unfold mo_sinks; rw [e4.1, e4.2]; first | rfl | (simp only [if_true, if_false]; first | rfl | (simp; omega))))

set_option maxHeartbeats 4000000 in
set_option maxRecDepth 100000 in
theorem cC_sinks4_37 {l : Launch} {E : ic_E} {w : ic_w} {r lm q : Nat} (hr : r ≤ 3) (hl : lm ≤ 3) (hq : q ≤ 6) : ic_C l E mX1_sinks 2 0 0 False [ic_pt E 37, .int (nI r), .int (nI lm), .int (nI q)] SHs (hn w) SHs (ic_qe (nI (mo_sinks 4 (4 * r + lm) q)) (hn w)) := by
  refine ic_intro (by decide +kernel) (Nat.le_of_ble_eq_true rfl) ?_
  show xx l E _ _ 0 [(0, ic_pt E 37), (1, .int (nI r)), (2, .int (nI lm)), (3, .int (nI q))] _ _ _
  have e4 : (4 * r + lm) / 4 = r ∧ (4 * r + lm) % 4 = lm := by omega
  refine xx_iconst (pc := 0) dX1_sinks_0 cc_iconst_0 ?_
  refine xx_aload_nP (pc := 1) dX1_sinks_1 0 rfl rfl ?_
  refine xx_iload_n (pc := 2) dX1_sinks_2 1 rfl rfl ?_
  refine xx_iload_n (pc := 3) dX1_sinks_3 2 rfl rfl ?_
  refine xx_iload_n (pc := 4) dX1_sinks_4 3 rfl rfl ?_
  refine xx_callP0 (pc := 5) (st := [.int (nI 0)]) sh_37 (by decide) (cC_sinksR (w := w) (ob := 37) (r := r) (lm := lm) (q := q)) kX9_sinks pX1_7 dX1_sinks_5 rfl rfl (Nat.le_of_ble_eq_true rfl) ⟨Nat.le_of_ble_eq_true rfl, Nat.le_of_ble_eq_true rfl⟩ ⟨Nat.zero_le _, Nat.zero_le _⟩ (ic_ke ?_)
  refine xx_iload_n (pc := 8) dX1_sinks_8 2 rfl rfl ?_
  refine xx_isubW (pc := 9) dX1_sinks_9 (by omega) ?_
  refine xx_callS0 (pc := 10) (st := []) (cC_max0 (w := w) (a := (r + q)) (b := lm) (by omega) (by omega)) kJ9_max_7cf53 sX1_11 dX1_sinks_10 rfl rfl (Nat.le_of_ble_eq_true rfl) ⟨Nat.le_of_ble_eq_true rfl, Nat.le_of_ble_eq_true rfl⟩ ⟨Nat.zero_le _, Nat.zero_le _⟩ (ic_ke ?_)
  exact xx_iret (pc := 13) dX1_sinks_13 rfl (rfl) (Nat.le_refl _) (Nat.le_refl _) (ic_re (by unfold mo_sinks; rw [e4.1, e4.2]; first | rfl | (simp only [if_true, if_false]; first | rfl | (simp; omega))))

set_option maxHeartbeats 4000000 in
set_option maxRecDepth 100000 in
theorem cC_sinks5 {l : Launch} {E : ic_E} {w : ic_w} {r lm q : Nat} (hr : r ≤ 3) (hl : lm ≤ 3) (hq : q ≤ 6) : ic_C l E mX0_sinks 3 0 0 False [ic_pt E 37, .int (nI r), .int (nI lm), .int (nI q)] SHs (hn w) SHs (ic_qe (nI (mo_sinks 5 (4 * r + lm) q)) (hn w)) := by
  refine ic_intro (by decide +kernel) (Nat.le_of_ble_eq_true rfl) ?_
  show xx l E _ _ 0 [(0, ic_pt E 37), (1, .int (nI r)), (2, .int (nI lm)), (3, .int (nI q))] _ _ _
  have e4 : (4 * r + lm) / 4 = r ∧ (4 * r + lm) % 4 = lm := by omega
  refine xx_aload_nP (pc := 0) dX0_sinks_0 0 rfl rfl ?_
  refine xx_iload_n (pc := 1) dX0_sinks_1 1 rfl rfl ?_
  refine xx_iload_n (pc := 2) dX0_sinks_2 2 rfl rfl ?_
  refine xx_iload_n (pc := 3) dX0_sinks_3 3 rfl rfl ?_
  have hsl := mo_sinks_le (k := 4) (c := 4 * r + lm) (q := q) (by omega) (by omega)
  refine xx_callP0 (pc := 4) (st := []) sh_37 (by decide) (cC_sinks4_37 (w := w) (r := r) (lm := lm) (q := q) (by omega) (by omega) (by omega)) kX1_sinks pX0_7 dX0_sinks_4 rfl rfl (Nat.le_of_ble_eq_true rfl) ⟨Nat.le_of_ble_eq_true rfl, Nat.le_of_ble_eq_true rfl⟩ ⟨Nat.zero_le _, Nat.zero_le _⟩ (ic_ke ?_)
  refine xx_iconst (pc := 7) dX0_sinks_7 cc_iconst_2 ?_
  refine xx_idivN (pc := 8) dX0_sinks_8 (by omega) (by omega) (by omega) ?_
  exact xx_iret (pc := 9) dX0_sinks_9 rfl (rfl) (Nat.le_refl _) (Nat.le_refl _) (ic_re (by unfold mo_sinks; rw [e4.1, e4.2]; first | rfl | (simp only [if_true, if_false]; first | rfl | (simp; omega))))

set_option maxHeartbeats 4000000 in
set_option maxRecDepth 100000 in
theorem cC_drifts1 {l : Launch} {E : ic_E} {w : ic_w} {t : Nat} (ht : t < 2 ^ 20) : ic_C l E mX7_drifts 1 0 0 False [ic_pt E 29, .int (nI t)] SHs (hn w) SHs (ic_qe (nI (mo_drifts 1 t)) (hn w)) := by
  refine ic_intro (by decide +kernel) (Nat.le_of_ble_eq_true rfl) ?_
  show xx l E _ _ 0 [(0, ic_pt E 29), (1, .int (nI t))] _ _ _
  refine xx_iconst (pc := 0) dX7_drifts_0 cc_iconst_1 ?_
  exact xx_iret (pc := 1) dX7_drifts_1 rfl (rfl) (Nat.le_refl _) (Nat.le_refl _) (ic_re (by unfold mo_drifts; simp; try omega))

set_option maxHeartbeats 4000000 in
set_option maxRecDepth 100000 in
theorem cC_drifts2_31 {l : Launch} {E : ic_E} {w : ic_w} {t : Nat} (ht : t < 2 ^ 20) : ic_C l E mX3_drifts 1 0 0 False [ic_pt E 31, .int (nI t)] SHs (hn w) SHs (ic_qe (nI (mo_drifts 2 t)) (hn w)) := by
  refine ic_intro (by decide +kernel) (Nat.le_of_ble_eq_true rfl) ?_
  show xx l E _ _ 0 [(0, ic_pt E 31), (1, .int (nI t))] _ _ _
  refine xx_iload_n (pc := 0) dX3_drifts_0 1 rfl rfl ?_
  refine xx_iconst (pc := 1) dX3_drifts_1 cc_iconst_2 ?_
  refine xx_iremN (pc := 2) dX3_drifts_2 (by omega) (by omega) (by omega) ?_
  refine xx_if_neN (pc := 3) 10 dX3_drifts_3 rfl (by omega) (fun c1 => ?_) (fun c1 => ?_)
  · refine xx_iconst (pc := 10) dX3_drifts_10 cc_iconst_1 ?_
    exact xx_iret (pc := 11) dX3_drifts_11 rfl (rfl) (Nat.le_refl _) (Nat.le_refl _) (ic_re (by unfold mo_drifts; simp; try omega))
  · refine xx_iconst (pc := 6) dX3_drifts_6 cc_iconst_0 ?_
    refine xx_goto (pc := 7) 11 dX3_drifts_7 rfl ?_
    exact xx_iret (pc := 11) dX3_drifts_11 rfl (rfl) (Nat.le_refl _) (Nat.le_refl _) (ic_re (by unfold mo_drifts; simp; try omega))

set_option maxHeartbeats 4000000 in
set_option maxRecDepth 100000 in
theorem cC_drifts2_33 {l : Launch} {E : ic_E} {w : ic_w} {t : Nat} (ht : t < 2 ^ 20) : ic_C l E mX3_drifts 1 0 0 False [ic_pt E 33, .int (nI t)] SHs (hn w) SHs (ic_qe (nI (mo_drifts 2 t)) (hn w)) := by
  refine ic_intro (by decide +kernel) (Nat.le_of_ble_eq_true rfl) ?_
  show xx l E _ _ 0 [(0, ic_pt E 33), (1, .int (nI t))] _ _ _
  refine xx_iload_n (pc := 0) dX3_drifts_0 1 rfl rfl ?_
  refine xx_iconst (pc := 1) dX3_drifts_1 cc_iconst_2 ?_
  refine xx_iremN (pc := 2) dX3_drifts_2 (by omega) (by omega) (by omega) ?_
  refine xx_if_neN (pc := 3) 10 dX3_drifts_3 rfl (by omega) (fun c1 => ?_) (fun c1 => ?_)
  · refine xx_iconst (pc := 10) dX3_drifts_10 cc_iconst_1 ?_
    exact xx_iret (pc := 11) dX3_drifts_11 rfl (rfl) (Nat.le_refl _) (Nat.le_refl _) (ic_re (by unfold mo_drifts; simp; try omega))
  · refine xx_iconst (pc := 6) dX3_drifts_6 cc_iconst_0 ?_
    refine xx_goto (pc := 7) 11 dX3_drifts_7 rfl ?_
    exact xx_iret (pc := 11) dX3_drifts_11 rfl (rfl) (Nat.le_refl _) (Nat.le_refl _) (ic_re (by unfold mo_drifts; simp; try omega))

set_option maxHeartbeats 4000000 in
set_option maxRecDepth 100000 in
theorem cC_drifts3 {l : Launch} {E : ic_E} {w : ic_w} {t : Nat} (ht : t < 2 ^ 20) : ic_C l E mX2_drifts 2 0 0 False [ic_pt E 33, .int (nI t)] SHs (hn w) SHs (ic_qe (nI (mo_drifts 3 t)) (hn w)) := by
  refine ic_intro (by decide +kernel) (Nat.le_of_ble_eq_true rfl) ?_
  show xx l E _ _ 0 [(0, ic_pt E 33), (1, .int (nI t))] _ _ _
  refine xx_iconst (pc := 0) dX2_drifts_0 cc_iconst_2 ?_
  refine xx_aload_nP (pc := 1) dX2_drifts_1 0 rfl rfl ?_
  refine xx_iload_n (pc := 2) dX2_drifts_2 1 rfl rfl ?_
  refine xx_callP0 (pc := 3) (st := [.int (nI 2)]) sh_33 (by decide) (cC_drifts2_33 (w := w) (t := t) (by omega)) kX3_drifts pX2_11 dX2_drifts_3 rfl rfl (Nat.le_of_ble_eq_true rfl) ⟨Nat.le_of_ble_eq_true rfl, Nat.le_of_ble_eq_true rfl⟩ ⟨Nat.zero_le _, Nat.zero_le _⟩ (ic_ke ?_)
  refine xx_imulN (pc := 6) dX2_drifts_6 ?_
  exact xx_iret (pc := 7) dX2_drifts_7 rfl (rfl) (Nat.le_refl _) (Nat.le_refl _) (ic_re (by unfold mo_drifts; simp; try omega))

set_option maxHeartbeats 4000000 in
set_option maxRecDepth 100000 in
theorem cC_drifts4_35 {l : Launch} {E : ic_E} {w : ic_w} {t : Nat} (ht : t < 2 ^ 20) : ic_C l E mX1_drifts 1 0 0 False [ic_pt E 35, .int (nI t)] SHs (hn w) SHs (ic_qe (nI (mo_drifts 4 t)) (hn w)) := by
  refine ic_intro (by decide +kernel) (Nat.le_of_ble_eq_true rfl) ?_
  show xx l E _ _ 0 [(0, ic_pt E 35), (1, .int (nI t))] _ _ _
  refine xx_iload_n (pc := 0) dX1_drifts_0 1 rfl rfl ?_
  refine xx_iconst (pc := 1) dX1_drifts_1 cc_iconst_2 ?_
  refine xx_iremN (pc := 2) dX1_drifts_2 (by omega) (by omega) (by omega) ?_
  refine xx_if_neN (pc := 3) 10 dX1_drifts_3 rfl (by omega) (fun c1 => ?_) (fun c1 => ?_)
  · refine xx_iconst (pc := 10) dX1_drifts_10 cc_iconst_0 ?_
    exact xx_iret (pc := 11) dX1_drifts_11 rfl (rfl) (Nat.le_refl _) (Nat.le_refl _) (ic_re (by unfold mo_drifts; simp; try omega))
  · refine xx_iconst (pc := 6) dX1_drifts_6 cc_iconst_1 ?_
    refine xx_goto (pc := 7) 11 dX1_drifts_7 rfl ?_
    exact xx_iret (pc := 11) dX1_drifts_11 rfl (rfl) (Nat.le_refl _) (Nat.le_refl _) (ic_re (by unfold mo_drifts; simp; try omega))

set_option maxHeartbeats 4000000 in
set_option maxRecDepth 100000 in
theorem cC_drifts4_37 {l : Launch} {E : ic_E} {w : ic_w} {t : Nat} (ht : t < 2 ^ 20) : ic_C l E mX1_drifts 1 0 0 False [ic_pt E 37, .int (nI t)] SHs (hn w) SHs (ic_qe (nI (mo_drifts 4 t)) (hn w)) := by
  refine ic_intro (by decide +kernel) (Nat.le_of_ble_eq_true rfl) ?_
  show xx l E _ _ 0 [(0, ic_pt E 37), (1, .int (nI t))] _ _ _
  refine xx_iload_n (pc := 0) dX1_drifts_0 1 rfl rfl ?_
  refine xx_iconst (pc := 1) dX1_drifts_1 cc_iconst_2 ?_
  refine xx_iremN (pc := 2) dX1_drifts_2 (by omega) (by omega) (by omega) ?_
  refine xx_if_neN (pc := 3) 10 dX1_drifts_3 rfl (by omega) (fun c1 => ?_) (fun c1 => ?_)
  · refine xx_iconst (pc := 10) dX1_drifts_10 cc_iconst_0 ?_
    exact xx_iret (pc := 11) dX1_drifts_11 rfl (rfl) (Nat.le_refl _) (Nat.le_refl _) (ic_re (by unfold mo_drifts; simp; try omega))
  · refine xx_iconst (pc := 6) dX1_drifts_6 cc_iconst_1 ?_
    refine xx_goto (pc := 7) 11 dX1_drifts_7 rfl ?_
    exact xx_iret (pc := 11) dX1_drifts_11 rfl (rfl) (Nat.le_refl _) (Nat.le_refl _) (ic_re (by unfold mo_drifts; simp; try omega))

set_option maxHeartbeats 4000000 in
set_option maxRecDepth 100000 in
theorem cC_drifts5 {l : Launch} {E : ic_E} {w : ic_w} {t : Nat} (ht : t < 2 ^ 20) : ic_C l E mX0_drifts 2 0 0 False [ic_pt E 37, .int (nI t)] SHs (hn w) SHs (ic_qe (nI (mo_drifts 5 t)) (hn w)) := by
  refine ic_intro (by decide +kernel) (Nat.le_of_ble_eq_true rfl) ?_
  show xx l E _ _ 0 [(0, ic_pt E 37), (1, .int (nI t))] _ _ _
  refine xx_aload_nP (pc := 0) dX0_drifts_0 0 rfl rfl ?_
  refine xx_iload_n (pc := 1) dX0_drifts_1 1 rfl rfl ?_
  refine xx_callP0 (pc := 2) (st := []) sh_37 (by decide) (cC_drifts4_37 (w := w) (t := t) (by omega)) kX1_drifts pX0_11 dX0_drifts_2 rfl rfl (Nat.le_of_ble_eq_true rfl) ⟨Nat.le_of_ble_eq_true rfl, Nat.le_of_ble_eq_true rfl⟩ ⟨Nat.zero_le _, Nat.zero_le _⟩ (ic_ke ?_)
  refine xx_iload_n (pc := 5) dX0_drifts_5 1 rfl rfl ?_
  refine xx_bipush (pc := 6) dX0_drifts_6 cc_bipush_7 ?_
  refine xx_icmp_leN (pc := 8) 15 dX0_drifts_8 rfl (by omega) (by omega) (fun c1 => ?_) (fun c1 => ?_)
  · refine xx_iconst (pc := 15) dX0_drifts_15 cc_iconst_0 ?_
    refine xx_iaddN (pc := 16) dX0_drifts_16 ?_
    exact xx_iret (pc := 17) dX0_drifts_17 rfl (rfl) (Nat.le_refl _) (Nat.le_refl _) (ic_re (by unfold mo_drifts; simp; try omega))
  · refine xx_iconst (pc := 11) dX0_drifts_11 cc_iconst_2 ?_
    refine xx_goto (pc := 12) 16 dX0_drifts_12 rfl ?_
    refine xx_iaddN (pc := 16) dX0_drifts_16 ?_
    exact xx_iret (pc := 17) dX0_drifts_17 rfl (rfl) (Nat.le_refl _) (Nat.le_refl _) (ic_re (by unfold mo_drifts; simp; try omega))

theorem xx_sinks5 {l : Launch} {E : ic_E} {F : ic_F} {kc : Nat × Nat} {pc : Nat} {L : List (Nat × Value)} {st : List Value} {w : ic_w} {kd : Nat} {r lm q : Nat} (hr : r ≤ 3) (hl : lm ≤ 3) (hq : q ≤ 6) (hF : F.1 = RX5) (hz : F.2.2.2.2.2.2.1 = False) (hk : 1 ≤ kd ∧ kd ≤ 5) (hd : decode F.2.2.1 pc = .ok (.invokevirtual 118, 3)) (hW : (st.map fun v => v.category).sum ≤ 8) (hR : 4 ≤ F.2.2.2.2.2.1.frames ∧ 8 + (6 + 11) + 48 * 3 ≤ F.2.2.2.2.2.1.locals) (hf : kc.1 ≤ F.2.2.2.2.2.1.cells ∧ kc.2 ≤ F.2.2.2.2.2.1.slots) (kk : xx l E F kc (pc + 3) L (.int (nI (mo_sinks kd (4 * r + lm) q)) :: st) SHs (hn w)) : xx l E F kc pc L (.int (nI q) :: .int (nI lm) :: .int (nI r) :: ic_pt E (27 + 2 * kd) :: st) SHs (hn w) := by
  rcases (show kd = 1 ∨ kd = 2 ∨ kd = 3 ∨ kd = 4 ∨ kd = 5 by omega) with rfl | rfl | rfl | rfl | rfl
  · exact xx_callU0 (st := st) sh_29 (by rw [hz]; exact cC_sinks1 (w := w) (r := r) (lm := lm) (q := q) hr hl hq) kX7_sinks (by rw [hF]; exact uX5_118_7) hd rfl rfl hW ⟨by omega, by have := hR.2; show 8 + (4 + 11) + 48 * 1 ≤ _; omega⟩ hf (ic_ke kk)
  · exact xx_callU0 (st := st) sh_31 (by rw [hz]; exact cC_sinks2_31 (w := w) (r := r) (lm := lm) (q := q) hr hl hq) kX3_sinks (by rw [hF]; exact uX5_118_3) hd rfl rfl hW ⟨by omega, by have := hR.2; show 8 + (4 + 11) + 48 * 2 ≤ _; omega⟩ hf (ic_ke kk)
  · exact xx_callU0 (st := st) sh_33 (by rw [hz]; exact cC_sinks3 (w := w) (r := r) (lm := lm) (q := q) hr hl hq) kX2_sinks (by rw [hF]; exact uX5_118_2) hd rfl rfl hW ⟨by omega, by have := hR.2; show 8 + (4 + 11) + 48 * 3 ≤ _; omega⟩ hf (ic_ke kk)
  · exact xx_callU0 (st := st) sh_35 (by rw [hz]; exact cC_sinks4_35 (w := w) (r := r) (lm := lm) (q := q) hr hl hq) kX1_sinks (by rw [hF]; exact uX5_118_1) hd rfl rfl hW ⟨by omega, by have := hR.2; show 8 + (4 + 11) + 48 * 2 ≤ _; omega⟩ hf (ic_ke kk)
  · exact xx_callU0 (st := st) sh_37 (by rw [hz]; exact cC_sinks5 (w := w) (r := r) (lm := lm) (q := q) hr hl hq) kX0_sinks (by rw [hF]; exact uX5_118_0) hd rfl rfl hW ⟨by omega, by have := hR.2; show 8 + (4 + 11) + 48 * 3 ≤ _; omega⟩ hf (ic_ke kk)

theorem xx_drifts5 {l : Launch} {E : ic_E} {F : ic_F} {kc : Nat × Nat} {pc : Nat} {L : List (Nat × Value)} {st : List Value} {w : ic_w} {kd : Nat} {t : Nat} (ht : t < 2 ^ 20) (hF : F.1 = RX5) (hz : F.2.2.2.2.2.2.1 = False) (hk : 1 ≤ kd ∧ kd ≤ 5) (hd : decode F.2.2.1 pc = .ok (.invokevirtual 124, 3)) (hW : (st.map fun v => v.category).sum ≤ 8) (hR : 4 ≤ F.2.2.2.2.2.1.frames ∧ 8 + (6 + 11) + 48 * 3 ≤ F.2.2.2.2.2.1.locals) (hf : kc.1 ≤ F.2.2.2.2.2.1.cells ∧ kc.2 ≤ F.2.2.2.2.2.1.slots) (kk : xx l E F kc (pc + 3) L (.int (nI (mo_drifts kd t)) :: st) SHs (hn w)) : xx l E F kc pc L (.int (nI t) :: ic_pt E (27 + 2 * kd) :: st) SHs (hn w) := by
  rcases (show kd = 1 ∨ kd = 2 ∨ kd = 3 ∨ kd = 4 ∨ kd = 5 by omega) with rfl | rfl | rfl | rfl | rfl
  · exact xx_callU0 (st := st) sh_29 (by rw [hz]; exact cC_drifts1 (w := w) (t := t) ht) kX7_drifts (by rw [hF]; exact uX5_124_7) hd rfl rfl hW ⟨by omega, by have := hR.2; show 8 + (2 + 11) + 48 * 1 ≤ _; omega⟩ hf (ic_ke kk)
  · exact xx_callU0 (st := st) sh_31 (by rw [hz]; exact cC_drifts2_31 (w := w) (t := t) ht) kX3_drifts (by rw [hF]; exact uX5_124_3) hd rfl rfl hW ⟨by omega, by have := hR.2; show 8 + (2 + 11) + 48 * 1 ≤ _; omega⟩ hf (ic_ke kk)
  · exact xx_callU0 (st := st) sh_33 (by rw [hz]; exact cC_drifts3 (w := w) (t := t) ht) kX2_drifts (by rw [hF]; exact uX5_124_2) hd rfl rfl hW ⟨by omega, by have := hR.2; show 8 + (2 + 11) + 48 * 2 ≤ _; omega⟩ hf (ic_ke kk)
  · exact xx_callU0 (st := st) sh_35 (by rw [hz]; exact cC_drifts4_35 (w := w) (t := t) ht) kX1_drifts (by rw [hF]; exact uX5_124_1) hd rfl rfl hW ⟨by omega, by have := hR.2; show 8 + (2 + 11) + 48 * 1 ≤ _; omega⟩ hf (ic_ke kk)
  · exact xx_callU0 (st := st) sh_37 (by rw [hz]; exact cC_drifts5 (w := w) (t := t) ht) kX0_drifts (by rw [hF]; exact uX5_124_0) hd rfl rfl hW ⟨by omega, by have := hR.2; show 8 + (2 + 11) + 48 * 2 ≤ _; omega⟩ hf (ic_ke kk)

theorem xx_sinks8 {l : Launch} {E : ic_E} {F : ic_F} {kc : Nat × Nat} {pc : Nat} {L : List (Nat × Value)} {st : List Value} {w : ic_w} {kd : Nat} {r lm q : Nat} (hr : r ≤ 3) (hl : lm ≤ 3) (hq : q ≤ 6) (hF : F.1 = RX8) (hz : F.2.2.2.2.2.2.1 = False) (hk : 1 ≤ kd ∧ kd ≤ 5) (hd : decode F.2.2.1 pc = .ok (.invokevirtual 57, 3)) (hW : (st.map fun v => v.category).sum ≤ 8) (hR : 4 ≤ F.2.2.2.2.2.1.frames ∧ 8 + (6 + 11) + 48 * 3 ≤ F.2.2.2.2.2.1.locals) (hf : kc.1 ≤ F.2.2.2.2.2.1.cells ∧ kc.2 ≤ F.2.2.2.2.2.1.slots) (kk : xx l E F kc (pc + 3) L (.int (nI (mo_sinks kd (4 * r + lm) q)) :: st) SHs (hn w)) : xx l E F kc pc L (.int (nI q) :: .int (nI lm) :: .int (nI r) :: ic_pt E (27 + 2 * kd) :: st) SHs (hn w) := by
  rcases (show kd = 1 ∨ kd = 2 ∨ kd = 3 ∨ kd = 4 ∨ kd = 5 by omega) with rfl | rfl | rfl | rfl | rfl
  · exact xx_callU0 (st := st) sh_29 (by rw [hz]; exact cC_sinks1 (w := w) (r := r) (lm := lm) (q := q) hr hl hq) kX7_sinks (by rw [hF]; exact uX8_57_7) hd rfl rfl hW ⟨by omega, by have := hR.2; show 8 + (4 + 11) + 48 * 1 ≤ _; omega⟩ hf (ic_ke kk)
  · exact xx_callU0 (st := st) sh_31 (by rw [hz]; exact cC_sinks2_31 (w := w) (r := r) (lm := lm) (q := q) hr hl hq) kX3_sinks (by rw [hF]; exact uX8_57_3) hd rfl rfl hW ⟨by omega, by have := hR.2; show 8 + (4 + 11) + 48 * 2 ≤ _; omega⟩ hf (ic_ke kk)
  · exact xx_callU0 (st := st) sh_33 (by rw [hz]; exact cC_sinks3 (w := w) (r := r) (lm := lm) (q := q) hr hl hq) kX2_sinks (by rw [hF]; exact uX8_57_2) hd rfl rfl hW ⟨by omega, by have := hR.2; show 8 + (4 + 11) + 48 * 3 ≤ _; omega⟩ hf (ic_ke kk)
  · exact xx_callU0 (st := st) sh_35 (by rw [hz]; exact cC_sinks4_35 (w := w) (r := r) (lm := lm) (q := q) hr hl hq) kX1_sinks (by rw [hF]; exact uX8_57_1) hd rfl rfl hW ⟨by omega, by have := hR.2; show 8 + (4 + 11) + 48 * 2 ≤ _; omega⟩ hf (ic_ke kk)
  · exact xx_callU0 (st := st) sh_37 (by rw [hz]; exact cC_sinks5 (w := w) (r := r) (lm := lm) (q := q) hr hl hq) kX0_sinks (by rw [hF]; exact uX8_57_0) hd rfl rfl hW ⟨by omega, by have := hR.2; show 8 + (4 + 11) + 48 * 3 ≤ _; omega⟩ hf (ic_ke kk)

theorem xx_drifts8 {l : Launch} {E : ic_E} {F : ic_F} {kc : Nat × Nat} {pc : Nat} {L : List (Nat × Value)} {st : List Value} {w : ic_w} {kd : Nat} {t : Nat} (ht : t < 2 ^ 20) (hF : F.1 = RX8) (hz : F.2.2.2.2.2.2.1 = False) (hk : 1 ≤ kd ∧ kd ≤ 5) (hd : decode F.2.2.1 pc = .ok (.invokevirtual 63, 3)) (hW : (st.map fun v => v.category).sum ≤ 8) (hR : 4 ≤ F.2.2.2.2.2.1.frames ∧ 8 + (6 + 11) + 48 * 3 ≤ F.2.2.2.2.2.1.locals) (hf : kc.1 ≤ F.2.2.2.2.2.1.cells ∧ kc.2 ≤ F.2.2.2.2.2.1.slots) (kk : xx l E F kc (pc + 3) L (.int (nI (mo_drifts kd t)) :: st) SHs (hn w)) : xx l E F kc pc L (.int (nI t) :: ic_pt E (27 + 2 * kd) :: st) SHs (hn w) := by
  rcases (show kd = 1 ∨ kd = 2 ∨ kd = 3 ∨ kd = 4 ∨ kd = 5 by omega) with rfl | rfl | rfl | rfl | rfl
  · exact xx_callU0 (st := st) sh_29 (by rw [hz]; exact cC_drifts1 (w := w) (t := t) ht) kX7_drifts (by rw [hF]; exact uX8_63_7) hd rfl rfl hW ⟨by omega, by have := hR.2; show 8 + (2 + 11) + 48 * 1 ≤ _; omega⟩ hf (ic_ke kk)
  · exact xx_callU0 (st := st) sh_31 (by rw [hz]; exact cC_drifts2_31 (w := w) (t := t) ht) kX3_drifts (by rw [hF]; exact uX8_63_3) hd rfl rfl hW ⟨by omega, by have := hR.2; show 8 + (2 + 11) + 48 * 1 ≤ _; omega⟩ hf (ic_ke kk)
  · exact xx_callU0 (st := st) sh_33 (by rw [hz]; exact cC_drifts3 (w := w) (t := t) ht) kX2_drifts (by rw [hF]; exact uX8_63_2) hd rfl rfl hW ⟨by omega, by have := hR.2; show 8 + (2 + 11) + 48 * 2 ≤ _; omega⟩ hf (ic_ke kk)
  · exact xx_callU0 (st := st) sh_35 (by rw [hz]; exact cC_drifts4_35 (w := w) (t := t) ht) kX1_drifts (by rw [hF]; exact uX8_63_1) hd rfl rfl hW ⟨by omega, by have := hR.2; show 8 + (2 + 11) + 48 * 1 ≤ _; omega⟩ hf (ic_ke kk)
  · exact xx_callU0 (st := st) sh_37 (by rw [hz]; exact cC_drifts5 (w := w) (t := t) ht) kX0_drifts (by rw [hF]; exact uX8_63_0) hd rfl rfl hW ⟨by omega, by have := hR.2; show 8 + (2 + 11) + 48 * 2 ≤ _; omega⟩ hf (ic_ke kk)

theorem kn_at {kd : Nat} (h : kd ≤ 5) : [28, 30, 32, 34, 36, 38].getD kd 0 = 27 + 2 * kd + 1 := by
  rcases (show kd = 0 ∨ kd = 1 ∨ kd = 2 ∨ kd = 3 ∨ kd = 4 ∨ kd = 5 by omega) with rfl | rfl | rfl | rfl | rfl | rfl <;> rfl
theorem mo_cr4 (c : Nat) : 4 * (c / 2 ^ 2) + (c &&& 3) = c := by rw [mo_and3]; omega
set_option maxHeartbeats 4000000 in
set_option maxRecDepth 100000 in
theorem cC_isOver {l : Launch} {E : ic_E} {w : ic_w} {m : Nat} {s : Nat → Nat} (hM : Mo m) (hc : Cs w m s) (hn_ : Cn w s) (hI : In s) : ic_C l E mX5_isOver 1 0 0 False [ic_pt E 39, ic_pt E m] SHs (hn w) SHs (ic_qe (nI (ic_bo (s 2 ≤ s 1))) (hn w)) := by
  refine ic_intro (by decide +kernel) (Nat.le_of_ble_eq_true rfl) ?_
  show xx l E _ _ 0 [(0, ic_pt E 39), (1, ic_pt E m)] _ _ _
  have hMb := hM.2.2.2
  have ht := hI.t
  have h1 := hc.t
  have h2 := hn_.e
  refine xx_aload_nP (pc := 0) dX5_isOver_0 1 rfl rfl ?_
  refine xx_getN (pc := 1) dX5_isOver_1 hM.1 fX5_99_4 rfl ?_
  refine xx_aload_nP (pc := 4) dX5_isOver_4 0 rfl rfl ?_
  refine xx_getN (pc := 5) dX5_isOver_5 sh_39 fX5_51_5 rfl ?_
  refine xx_icmp_ltN (pc := 8) 15 dX5_isOver_8 rfl (by omega) (by omega) (fun c1 => ?_) (fun c1 => ?_)
  · refine xx_iconst (pc := 15) dX5_isOver_15 cc_iconst_0 ?_
    exact xx_iret (pc := 16) dX5_isOver_16 rfl (rfl) (Nat.le_refl _) (Nat.le_refl _) (ic_re (ic_bo_f (by omega)).symm)
  · refine xx_iconst (pc := 11) dX5_isOver_11 cc_iconst_1 ?_
    refine xx_goto (pc := 12) 16 dX5_isOver_12 rfl ?_
    exact xx_iret (pc := 16) dX5_isOver_16 rfl (rfl) (Nat.le_refl _) (Nat.le_refl _) (ic_re (ic_bo_t (by omega)).symm)

set_option maxHeartbeats 4000000 in
set_option maxRecDepth 100000 in
theorem cC_crowdOf {l : Launch} {E : ic_E} {w : ic_w} {t : Nat} {s : Nat → Nat} (ht : t < 2 ^ 31) (hn_ : Cn w s) : ic_C l E mX5_crowdOf 1 0 0 False [ic_pt E 39, .int (nI t)] SHs (hn w) SHs (ic_qe (nI (mo_crowd s t)) (hn w)) := by
  refine ic_intro (by decide +kernel) (Nat.le_of_ble_eq_true rfl) ?_
  show xx l E _ _ 0 [(0, ic_pt E 39), (1, .int (nI t))] _ _ _
  refine xx_iload_n (pc := 0) dX5_crowdOf_0 1 rfl rfl ?_
  refine xx_if_ltN (pc := 1) 19 dX5_crowdOf_1 rfl (by omega) (fun c1 => ?_) (fun c1 => ?_)
  · refine xx_iconst (pc := 19) dX5_crowdOf_19 cc_iconst_0 ?_
    exact xx_iret (pc := 20) dX5_crowdOf_20 rfl (rfl) (Nat.le_refl _) (Nat.le_refl _) (ic_re (by unfold mo_crowd; rw [if_neg (by first | omega | (intro _; contradiction))]))
  · refine xx_iload_n (pc := 4) dX5_crowdOf_4 1 rfl rfl ?_
    refine xx_bipush (pc := 5) dX5_crowdOf_5 cc_bipush_16 ?_
    refine xx_icmp_geN (pc := 7) 19 dX5_crowdOf_7 rfl (by omega) (by omega) (fun c2 => ?_) (fun c2 => ?_)
    · refine xx_iconst (pc := 19) dX5_crowdOf_19 cc_iconst_0 ?_
      exact xx_iret (pc := 20) dX5_crowdOf_20 rfl (rfl) (Nat.le_refl _) (Nat.le_refl _) (ic_re (by unfold mo_crowd; rw [if_neg (by first | omega | (intro _; contradiction))]))
    · refine xx_aload_nP (pc := 10) dX5_crowdOf_10 0 rfl rfl ?_
      refine xx_getR (pc := 11) 40 dX5_crowdOf_11 sh_39 fX5_9_5 rfl rfl (by decide) ?_
      refine xx_iload_n (pc := 14) dX5_crowdOf_14 1 rfl rfl ?_
      refine xx_ialdN (pc := 15) dX5_crowdOf_15 sh_40 (by omega) (by decide) ?_
      refine xx_goto (pc := 16) 20 dX5_crowdOf_16 rfl ?_
      exact xx_iret (pc := 20) dX5_crowdOf_20 rfl (rfl) (Nat.le_refl _) (Nat.le_refl _) (ic_re (by unfold mo_crowd; rw [if_pos (by omega), hn_.c (by omega)]))

