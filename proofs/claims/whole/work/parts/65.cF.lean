/-! the class: the net as a whole -/
/-- which of the reference's numbers lies where -/
def Lc (n j a k : Nat) : Prop :=
  (j = 0 ∧ a = 39 ∧ k = 10) ∨ (j = 2 ∧ a = 39 ∧ k = 11) ∨ (j = 3 ∧ a = 39 ∧ k = 12) ∨ (j = 4 ∧ a = 39 ∧ k = 13) ∨ (j = 1 ∧ a = 46 ∧ k = 0) ∨
  (k < n ∧ (j = 8 + 6 * k ∧ a = 43 ∨ j = 9 + 6 * k ∧ a = 47 ∨ j = 10 + 6 * k ∧ a = 44 ∨ j = 11 + 6 * k ∧ a = 45 ∨ j = 13 + 6 * k ∧ a = 48)) ∨
  (k < 6 ∧ (j = 44 + k ∧ a = 41 ∨ j = 50 + k ∧ a = 42)) ∨ (k < 16 ∧ j = 56 + k ∧ a = 40)
theorem Lc_n {n : Nat} : Lc n 0 39 10 := Or.inl ⟨rfl, rfl, rfl⟩
theorem Lc_e {n : Nat} : Lc n 2 39 11 := Or.inr (Or.inl ⟨rfl, rfl, rfl⟩)
theorem Lc_s {n : Nat} : Lc n 3 39 12 := Or.inr (Or.inr (Or.inl ⟨rfl, rfl, rfl⟩))
theorem Lc_z {n : Nat} : Lc n 4 39 13 := Or.inr (Or.inr (Or.inr (Or.inl ⟨rfl, rfl, rfl⟩)))
theorem Lc_t {n : Nat} : Lc n 1 46 0 := Or.inr (Or.inr (Or.inr (Or.inr (Or.inl ⟨rfl, rfl, rfl⟩))))
theorem Lc_0 {n k : Nat} (h : k < n) : Lc n (8 + 6 * k) 43 k := Or.inr (Or.inr (Or.inr (Or.inr (Or.inr (Or.inl ⟨h, Or.inl ⟨rfl, rfl⟩⟩)))))
theorem Lc_1 {n k : Nat} (h : k < n) : Lc n (9 + 6 * k) 47 k := Or.inr (Or.inr (Or.inr (Or.inr (Or.inr (Or.inl ⟨h, Or.inr (Or.inl ⟨rfl, rfl⟩)⟩)))))
theorem Lc_2 {n k : Nat} (h : k < n) : Lc n (10 + 6 * k) 44 k := Or.inr (Or.inr (Or.inr (Or.inr (Or.inr (Or.inl ⟨h, Or.inr (Or.inr (Or.inl ⟨rfl, rfl⟩))⟩)))))
theorem Lc_3 {n k : Nat} (h : k < n) : Lc n (11 + 6 * k) 45 k := Or.inr (Or.inr (Or.inr (Or.inr (Or.inr (Or.inl ⟨h, Or.inr (Or.inr (Or.inr (Or.inl ⟨rfl, rfl⟩)))⟩)))))
theorem Lc_5 {n k : Nat} (h : k < n) : Lc n (13 + 6 * k) 48 k := Or.inr (Or.inr (Or.inr (Or.inr (Or.inr (Or.inl ⟨h, Or.inr (Or.inr (Or.inr (Or.inr ⟨rfl, rfl⟩)))⟩)))))
theorem Lc_g {n k : Nat} (h : k < 6) : Lc n (44 + k) 41 k := Or.inr (Or.inr (Or.inr (Or.inr (Or.inr (Or.inr (Or.inl ⟨h, Or.inl ⟨rfl, rfl⟩⟩))))))
theorem Lc_p {n k : Nat} (h : k < 6) : Lc n (50 + k) 42 k := Or.inr (Or.inr (Or.inr (Or.inr (Or.inr (Or.inr (Or.inl ⟨h, Or.inr ⟨rfl, rfl⟩⟩))))))
theorem Lc_c {n k : Nat} (h : k < 16) : Lc n (56 + k) 40 k := Or.inr (Or.inr (Or.inr (Or.inr (Or.inr (Or.inr (Or.inr ⟨h, rfl, rfl⟩))))))
/-- each case of where one lies -/
theorem Lc.by {n j a k : Nat} {P : Nat → Nat → Nat → Prop} (h : Lc n j a k) (p0 : P 0 39 10) (p2 : P 2 39 11) (p3 : P 3 39 12) (p4 : P 4 39 13) (p1 : P 1 46 0) (q0 : ∀ k, k < n → P (8 + 6 * k) 43 k) (q1 : ∀ k, k < n → P (9 + 6 * k) 47 k) (q2 : ∀ k, k < n → P (10 + 6 * k) 44 k) (q3 : ∀ k, k < n → P (11 + 6 * k) 45 k) (q5 : ∀ k, k < n → P (13 + 6 * k) 48 k) (g : ∀ k, k < 6 → P (44 + k) 41 k) (p : ∀ k, k < 6 → P (50 + k) 42 k) (c : ∀ k, k < 16 → P (56 + k) 40 k) : P j a k := by
  rcases h with ⟨rfl, rfl, rfl⟩ | ⟨rfl, rfl, rfl⟩ | ⟨rfl, rfl, rfl⟩ | ⟨rfl, rfl, rfl⟩ | ⟨rfl, rfl, rfl⟩ | ⟨hk, ⟨rfl, rfl⟩ | ⟨rfl, rfl⟩ | ⟨rfl, rfl⟩ | ⟨rfl, rfl⟩ | ⟨rfl, rfl⟩⟩ | ⟨hk, ⟨rfl, rfl⟩ | ⟨rfl, rfl⟩⟩ | ⟨hk, rfl, rfl⟩
  · exact p0
  · exact p2
  · exact p3
  · exact p4
  · exact p1
  · exact q0 _ hk
  · exact q1 _ hk
  · exact q2 _ hk
  · exact q3 _ hk
  · exact q5 _ hk
  · exact g _ hk
  · exact p _ hk
  · exact c _ hk
/-- one of them, whichever: then the row of the other says whether it is the same -/
theorem Lc.eq {n j a k j2 a2 k2 : Nat} (hn : n ≤ 6) (h : Lc n j a k) (h2 : Lc n j2 a2 k2) : j2 = j ↔ (a2 = a ∧ k2 = k) := by
  refine h.by (P := fun j a k => j2 = j ↔ (a2 = a ∧ k2 = k)) ?_ ?_ ?_ ?_ ?_ ?_ ?_ ?_ ?_ ?_ ?_ ?_ ?_ <;> (try intro q hq) <;> refine h2.by (P := fun j2 a2 k2 => j2 = _ ↔ (a2 = _ ∧ k2 = _)) ?_ ?_ ?_ ?_ ?_ ?_ ?_ ?_ ?_ ?_ ?_ ?_ ?_ <;> (try intro r hr) <;> omega
def Cq (w : ic_w) (s : Nat → Nat) : Prop := w 55 0 = s 6 ∧ ∀ i, i < 6 → i < s 6 → ∀ j, j < 4 → w (57 + i) j = s (104 + 4 * i + j)
def Cw (w : ic_w) (s : Nat → Nat) : Prop := Cn w s ∧ Cs w 46 s ∧ w 39 12 = s 3 ∧ w 39 13 = s 4
theorem Cw.l {w : ic_w} {s : Nat → Nat} (h : Cw w s) {j a k : Nat} (hl : Lc (s 0) j a k) : w a k = s j := by
  obtain ⟨hn_, hm, h3, h4⟩ := h
  refine hl.by (P := fun j a k => w a k = s j) hn_.n hn_.e h3 h4 hm.t (fun k hk => ?_) (fun k hk => ?_) (fun k hk => ?_) (fun k hk => ?_) (fun k hk => ?_) (fun k hk => hn_.g hk) (fun k hk => hn_.p hk) (fun k hk => hn_.c hk)
  · rw [hn_.kd hk]; rfl
  · exact (hm.d hk).trans (congrArg s (by omega))
  · rw [hn_.ws hk]; exact congrArg s (by omega)
  · rw [hn_.hm hk]; exact congrArg s (by omega)
  · exact (hm.a hk).trans (congrArg s (by omega))
theorem Cw.mk {w : ic_w} {s : Nat → Nat} (hl : ∀ j a k, Lc (s 0) j a k → w a k = s j) (ho : w 46 1 = mo_outs s) (hk : ∀ k, k < s 0 → 1 ≤ it s k 0) (hr : Cr w 49 s) (hq : Cq w s) : Cw w s := by
  refine ⟨⟨⟨hl _ _ _ Lc_n, hl _ _ _ Lc_e⟩, fun k hk2 => ⟨?_, hk k hk2, ?_, ?_⟩, fun f hf => ⟨hl _ _ _ (Lc_g hf), hl _ _ _ (Lc_p hf)⟩, fun t ht => hl _ _ _ (Lc_c ht), hr, hq⟩, ⟨hl _ _ _ Lc_t, ho, fun k hk2 => ⟨?_, ?_⟩⟩, hl _ _ _ Lc_s, hl _ _ _ Lc_z⟩
  · exact (hl _ _ _ (Lc_0 hk2)).trans (congrArg s (by omega))
  · exact (hl _ _ _ (Lc_2 hk2)).trans (congrArg s (by omega))
  · exact (hl _ _ _ (Lc_3 hk2)).trans (congrArg s (by omega))
  · exact (hl _ _ _ (Lc_1 hk2)).trans (congrArg s (by omega))
  · exact (hl _ _ _ (Lc_5 hk2)).trans (congrArg s (by omega))
/-- one number set anew, in both -/
theorem Cw.up {w : ic_w} {s : Nat → Nat} {j a k v : Nat} (h : Cw w s) (hI : In s) (hl : Lc (s 0) j a k) (hj : j ≠ 0) (hv : a = 43 → 1 ≤ v) : Cw (wu w a k v) (fu s j v) := by
  have hn0 := hI.n
  have h5 := hI.2.2.1
  have e0 : fu s j v 0 = s 0 := fu_n _ (fun z => hj z.symm)
  have ha : 39 ≤ a ∧ a ≤ 48 ∧ j < 72 ∧ j ≠ 5 ∧ j ≠ 6 ∧ j ≠ 7 ∧ (∀ q, q < 6 → j ≠ 12 + 6 * q) ∧ (a = 46 → k = 0) ∧ (∀ q, q < 6 → j = 8 + 6 * q → a = 43) := by
    refine hl.by (P := fun j a k => 39 ≤ a ∧ a ≤ 48 ∧ j < 72 ∧ j ≠ 5 ∧ j ≠ 6 ∧ j ≠ 7 ∧ (∀ q, q < 6 → j ≠ 12 + 6 * q) ∧ (a = 46 → k = 0) ∧ (∀ q, q < 6 → j = 8 + 6 * q → a = 43)) ?_ ?_ ?_ ?_ ?_ ?_ ?_ ?_ ?_ ?_ ?_ ?_ ?_ <;> (try intro r hr) <;> refine ⟨by omega, by omega, by omega, by omega, by omega, by omega, fun q hq => by omega, by omega, fun q hq => by omega⟩
  refine Cw.mk (fun j2 a2 k2 h2 => ?_) ?_ (fun q hq => ?_) ?_ ?_
  · rw [e0] at h2
    by_cases z : j2 = j
    · have e := (Lc.eq hn0 hl h2).mp z
      rw [e.1, e.2, z, wu_s, fu_s]
    · have e : ¬ (a2 = a ∧ k2 = k) := fun y => z ((Lc.eq hn0 hl h2).mpr y)
      rw [fu_n _ z, ← h.l h2]
      exact if_neg e
  · rw [mo_outs_congr e0 (fun q hq => it_fu (fun z => ha.2.2.2.2.2.2.1 q (by omega) (by omega)))]
    refine Eq.trans ?_ h.2.1.o
    exact if_neg (fun z => by have := ha.2.2.2.2.2.2.2.1 z.1.symm; omega)
  · rw [e0] at hq
    by_cases z : j = 8 + 6 * q
    · have e : a = 43 := ha.2.2.2.2.2.2.2.2 q (by omega) z
      have : it (fu s j v) q 0 = v := by rw [z]; exact fu_s _ _ _
      rw [this]
      exact hv e
    · rw [it_fu (fun y => z y.symm)]
      exact h.1.k1 hq
  · exact (h.1.r.of (by rw [wu_o _ _ _ _ (by omega)]) (fun b h1 h2 => wu_row _ _ _ (by omega))).to (fun q hq => fu_n _ (by omega)) h5.1
  · refine ⟨by rw [wu_o _ _ _ _ (by omega), fu_n _ (by omega)]; exact h.1.q.1, fun i h6 hi q hq => ?_⟩
    rw [fu_n _ (by omega)] at hi
    rw [wu_o _ _ _ _ (by omega), fu_n _ (by omega)]
    exact h.1.q.2 i h6 hi q hq
/-- what is no part of the net is kept -/
def Fn (w w2 : ic_w) : Prop := ∀ a, (a = 0 ∨ (4 ≤ a ∧ a ≤ 38) ∨ (63 ≤ a ∧ a ≤ 64) ∨ (67 ≤ a ∧ a ≤ 94) ∨ 114 ≤ a) → w2 a = w a
/-- scratch apart, nothing is changed -/
def Fp (w w2 : ic_w) : Prop := (∀ a, (a = 0 ∨ (4 ≤ a ∧ a ≤ 54) ∨ (56 ≤ a ∧ a ≤ 64) ∨ (67 ≤ a ∧ a ≤ 94) ∨ 114 ≤ a) → w2 a = w a) ∧ w2 55 0 = w 55 0
theorem Fp.rf (w : ic_w) : Fp w w := ⟨fun _ _ => rfl, rfl⟩
theorem Fn.rf (w : ic_w) : Fn w w := fun _ _ => rfl
theorem Fp.tr {w a b : ic_w} (h : Fp w a) (g : Fp a b) : Fp w b := ⟨fun q hq => (g.1 q hq).trans (h.1 q hq), g.2.trans h.2⟩
theorem Fn.tr {w a b : ic_w} (h : Fn w a) (g : Fn a b) : Fn w b := fun q hq => (g q hq).trans (h q hq)
theorem Fp.n {w a : ic_w} (h : Fp w a) : Fn w a := fun q hq => h.1 q (by omega)
theorem Fs.p {w a : ic_w} (h : Fs w a) : Fp w a := ⟨fun q hq => h q (by omega) (by omega), by rw [h 55 (by omega) (by omega)]⟩
theorem Fm.p {w a : ic_w} {m : Nat} (h : Fm m w a) (hm : m = 1 ∨ 99 ≤ m ∧ m < 112) : Fp w a := ⟨fun q hq => h q (by omega) (by omega) (by omega) (by omega) (by omega), by rw [h 55 (by omega) (by omega) (by omega) (by omega) (by omega)]⟩
theorem Cn.fp {w w2 : ic_w} {s : Nat → Nat} (h : Cn w s) (g : Fp w w2) : Cn w2 s := h.of (by rw [g.1 39 (by omega)]) (by rw [g.1 39 (by omega)]) g.2 (fun a _ _ _ _ _ _ _ _ => g.1 a (by omega))
theorem Cw.fp {w w2 : ic_w} {s : Nat → Nat} (h : Cw w s) (g : Fp w w2) : Cw w2 s :=
  ⟨h.1.fp g, h.2.1.of (g.1 _ (by omega)) (g.1 _ (by omega)) (g.1 _ (by omega)), by rw [g.1 39 (by omega)]; exact h.2.2.1, by rw [g.1 39 (by omega)]; exact h.2.2.2⟩

set_option maxHeartbeats 4000000 in
set_option maxRecDepth 100000 in
theorem cC_remake {l : Launch} {E : ic_E} {w : ic_w} {o : Nat} (ho_ : o < 2 ^ 32) {k : Nat} (hk_ : k < 2 ^ 32) {s : Nat → Nat} (hC : Cw w s) (hIn : In s) : ic_C l E mX11_remake 3 0 0 False [ic_pt E 0, .int (nI o), .int (nI k)] SHs (hn w) SHs (ic_qi (fun v_ h_ => v_ = nI (if o < s 0 ∧ 1 ≤ k ∧ k ≤ 5 then it s o 0 else 4294967295) ∧ ∃ w2, h_ = hn w2 ∧ Fn w w2 ∧ Cw w2 (if o < s 0 ∧ 1 ≤ k ∧ k ≤ 5 then fu s (8 + 6 * o) k else s))) := by
  refine ic_intro (by decide +kernel) (Nat.le_of_ble_eq_true rfl) ?_
  show xx l E _ _ 0 [(0, ic_pt E 0), (1, .int (nI o)), (2, .int (nI k))] _ _ _
  have hN := hC.1
  have hm := hC.2.1
  have n5_w := hC.2.2.1
  have n6_w := hC.2.2.2
  have hn0 := hIn.n
  have htt := hIn.t
  have hcr := hIn.cr (s 1)
  have n1_w : w 39 10 = s 0 := hN.n
  have n2_w : w 39 11 = s 2 := hN.e
  have n3_w : w 46 0 = s 1 := hm.t
  have n4_w : w 46 1 = mo_outs s := hm.o
  refine xx_aload_nP (pc := 0) dX11_remake_0 0 rfl rfl ?_
  refine xx_iload_n (pc := 1) dX11_remake_1 1 rfl rfl ?_
  refine xx_callV0 (pc := 2) (st := []) sh_0 (cC_isRider (w := w) (k := o) (by omega) (by omega)) kX11_isRider vX11_109_11 dX11_remake_2 rfl rfl (Nat.le_of_ble_eq_true rfl) ⟨Nat.le_of_ble_eq_true rfl, Nat.le_of_ble_eq_true rfl⟩ ⟨Nat.zero_le _, Nat.zero_le _⟩ (ic_ke ?_)
  refine xx_if_eqB (pc := 5) 15 dX11_remake_5 rfl (fun c1 => ?_) (fun c1 => ?_)
  · refine xx_iconst (pc := 15) dX11_remake_15 cc_iconst_m1 ?_
    exact xx_iret (pc := 16) dX11_remake_16 rfl (rfl) (Nat.le_refl _) (Nat.le_refl _) (ic_ri ⟨by rw [if_neg (by omega)], w, rfl, Fn.rf w, by rw [if_neg (by omega)]; exact hC⟩)
  · refine xx_iload_n (pc := 8) dX11_remake_8 2 rfl rfl ?_
    refine xx_callS0 (pc := 9) (st := []) (cC_isMadeKind (w := w) (v := k) (by omega)) kX11_isMadeKind sX11_90 dX11_remake_9 rfl rfl (Nat.le_of_ble_eq_true rfl) ⟨Nat.le_of_ble_eq_true rfl, Nat.le_of_ble_eq_true rfl⟩ ⟨Nat.zero_le _, Nat.zero_le _⟩ (ic_ke ?_)
    refine xx_if_neB (pc := 12) 17 dX11_remake_12 rfl (fun c2 => ?_) (fun c2 => ?_)
    · refine xx_aload_nP (pc := 17) dX11_remake_17 0 rfl rfl ?_
      refine xx_getR (pc := 18) 39 dX11_remake_18 sh_0 fX11_74_11 rfl rfl (by decide) ?_
      refine xx_getR (pc := 21) 43 dX11_remake_21 sh_39 fX11_115_5 rfl rfl (by decide) ?_
      refine xx_iload_n (pc := 24) dX11_remake_24 1 rfl rfl ?_
      refine xx_ialdN (pc := 25) dX11_remake_25 sh_43 (by omega) (by decide) ?_
      refine xx_istore_n (L' := [(3, .int (nI (w 43 o))), (0, ic_pt E 0), (1, .int (nI o)), (2, .int (nI k))]) (pc := 26) dX11_remake_26 rfl (Nat.le_of_ble_eq_true rfl) rfl ?_
      refine xx_aload_nP (pc := 27) dX11_remake_27 1 rfl rfl ?_
      refine xx_getR (pc := 28) 39 dX11_remake_28 sh_0 fX11_74_11 rfl rfl (by decide) ?_
      refine xx_getR (pc := 31) 43 dX11_remake_31 sh_39 fX11_115_5 rfl rfl (by decide) ?_
      refine xx_iload_n (pc := 34) dX11_remake_34 2 rfl rfl ?_
      refine xx_iload_n (pc := 35) dX11_remake_35 3 rfl rfl ?_
      refine xx_iastN (pc := 36) dX11_remake_36 sh_43 (by omega) (by decide) ?_
      refine xx_nw (fun w3 ew3 => ?_)
      refine xx_iload_n (pc := 37) dX11_remake_37 0 rfl rfl ?_
      exact xx_iret (pc := 38) dX11_remake_38 rfl (rfl) (Nat.le_refl _) (Nat.le_refl _) (ic_ri ⟨by rw [if_pos (by omega)]; exact congrArg nI (hN.kd (by omega)), w3, rfl, fun a ha => by rw [ew3, wu_row _ _ _ (by omega)], by rw [if_pos (by omega), ew3]; exact hC.up hIn (Lc_0 (by omega)) (by omega) (by omega)⟩)
    · refine xx_iconst (pc := 15) dX11_remake_15 cc_iconst_m1 ?_
      exact xx_iret (pc := 16) dX11_remake_16 rfl (rfl) (Nat.le_refl _) (Nat.le_refl _) (ic_ri ⟨by rw [if_neg (by omega)], w, rfl, Fn.rf w, by rw [if_neg (by omega)]; exact hC⟩)

set_option maxHeartbeats 4000000 in
set_option maxRecDepth 100000 in
theorem cC_crowd {l : Launch} {E : ic_E} {w : ic_w} {t : Nat} (ht_ : t < 2 ^ 32) {v : Nat} (hv_ : v < 2 ^ 32) {s : Nat → Nat} (hC : Cw w s) (hIn : In s) : ic_C l E mX11_crowd 3 0 0 False [ic_pt E 0, .int (nI t), .int (nI v)] SHs (hn w) SHs (ic_qi (fun v_ h_ => v_ = nI (if t < 16 ∧ v ≤ 15 then s (56 + t) else 4294967295) ∧ ∃ w2, h_ = hn w2 ∧ Fn w w2 ∧ Cw w2 (if t < 16 ∧ v ≤ 15 then fu s (56 + t) v else s))) := by
  refine ic_intro (by decide +kernel) (Nat.le_of_ble_eq_true rfl) ?_
  show xx l E _ _ 0 [(0, ic_pt E 0), (1, .int (nI t)), (2, .int (nI v))] _ _ _
  have hN := hC.1
  have hm := hC.2.1
  have n5_w := hC.2.2.1
  have n6_w := hC.2.2.2
  have hn0 := hIn.n
  have htt := hIn.t
  have hcr := hIn.cr (s 1)
  have n1_w : w 39 10 = s 0 := hN.n
  have n2_w : w 39 11 = s 2 := hN.e
  have n3_w : w 46 0 = s 1 := hm.t
  have n4_w : w 46 1 = mo_outs s := hm.o
  refine xx_iload_n (pc := 0) dX11_crowd_0 1 rfl rfl ?_
  refine xx_iconst (pc := 1) dX11_crowd_1 cc_iconst_0 ?_
  refine xx_bipush (pc := 2) dX11_crowd_2 cc_bipush_15 ?_
  refine xx_callS0 (pc := 4) (st := []) (cC_within (w := w) (v := t) (lo := 0) (hi := 15) (by omega) (by omega) (by omega)) kX11_within sX11_94 dX11_crowd_4 rfl rfl (Nat.le_of_ble_eq_true rfl) ⟨Nat.le_of_ble_eq_true rfl, Nat.le_of_ble_eq_true rfl⟩ ⟨Nat.zero_le _, Nat.zero_le _⟩ (ic_ke ?_)
  refine xx_if_eqB (pc := 7) 20 dX11_crowd_7 rfl (fun c1 => ?_) (fun c1 => ?_)
  · refine xx_iconst (pc := 20) dX11_crowd_20 cc_iconst_m1 ?_
    exact xx_iret (pc := 21) dX11_crowd_21 rfl (rfl) (Nat.le_refl _) (Nat.le_refl _) (ic_ri ⟨by rw [if_neg (by omega)], w, rfl, Fn.rf w, by rw [if_neg (by omega)]; exact hC⟩)
  · refine xx_iload_n (pc := 10) dX11_crowd_10 2 rfl rfl ?_
    refine xx_iconst (pc := 11) dX11_crowd_11 cc_iconst_0 ?_
    refine xx_bipush (pc := 12) dX11_crowd_12 cc_bipush_15 ?_
    refine xx_callS0 (pc := 14) (st := []) (cC_within (w := w) (v := v) (lo := 0) (hi := 15) (by omega) (by omega) (by omega)) kX11_within sX11_94 dX11_crowd_14 rfl rfl (Nat.le_of_ble_eq_true rfl) ⟨Nat.le_of_ble_eq_true rfl, Nat.le_of_ble_eq_true rfl⟩ ⟨Nat.zero_le _, Nat.zero_le _⟩ (ic_ke ?_)
    refine xx_if_neB (pc := 17) 22 dX11_crowd_17 rfl (fun c2 => ?_) (fun c2 => ?_)
    · refine xx_aload_nP (pc := 22) dX11_crowd_22 0 rfl rfl ?_
      refine xx_getR (pc := 23) 39 dX11_crowd_23 sh_0 fX11_74_11 rfl rfl (by decide) ?_
      refine xx_getR (pc := 26) 40 dX11_crowd_26 sh_39 fX11_164_5 rfl rfl (by decide) ?_
      refine xx_iload_n (pc := 29) dX11_crowd_29 1 rfl rfl ?_
      refine xx_ialdN (pc := 30) dX11_crowd_30 sh_40 (by omega) (by decide) ?_
      refine xx_istore_n (L' := [(3, .int (nI (w 40 t))), (0, ic_pt E 0), (1, .int (nI t)), (2, .int (nI v))]) (pc := 31) dX11_crowd_31 rfl (Nat.le_of_ble_eq_true rfl) rfl ?_
      refine xx_aload_nP (pc := 32) dX11_crowd_32 1 rfl rfl ?_
      refine xx_getR (pc := 33) 39 dX11_crowd_33 sh_0 fX11_74_11 rfl rfl (by decide) ?_
      refine xx_getR (pc := 36) 40 dX11_crowd_36 sh_39 fX11_164_5 rfl rfl (by decide) ?_
      refine xx_iload_n (pc := 39) dX11_crowd_39 2 rfl rfl ?_
      refine xx_iload_n (pc := 40) dX11_crowd_40 3 rfl rfl ?_
      refine xx_iastN (pc := 41) dX11_crowd_41 sh_40 (by omega) (by decide) ?_
      refine xx_nw (fun w3 ew3 => ?_)
      refine xx_iload_n (pc := 42) dX11_crowd_42 0 rfl rfl ?_
      exact xx_iret (pc := 43) dX11_crowd_43 rfl (rfl) (Nat.le_refl _) (Nat.le_refl _) (ic_ri ⟨by rw [if_pos (by omega)]; exact congrArg nI (hN.c (by omega)), w3, rfl, fun a ha => by rw [ew3, wu_row _ _ _ (by omega)], by rw [if_pos (by omega), ew3]; exact hC.up hIn (Lc_c (by omega)) (by omega) (by omega)⟩)
    · refine xx_iconst (pc := 20) dX11_crowd_20 cc_iconst_m1 ?_
      exact xx_iret (pc := 21) dX11_crowd_21 rfl (rfl) (Nat.le_refl _) (Nat.le_refl _) (ic_ri ⟨by rw [if_neg (by omega)], w, rfl, Fn.rf w, by rw [if_neg (by omega)]; exact hC⟩)

set_option maxHeartbeats 4000000 in
set_option maxRecDepth 100000 in
theorem cC_homeOf {l : Launch} {E : ic_E} {w : ic_w} {f : Nat} (hf_ : f < 2 ^ 32) {k : Nat} (hk_ : k < 2 ^ 32) {s : Nat → Nat} (hC : Cw w s) (hIn : In s) : ic_C l E mX11_homeOf 3 0 0 False [ic_pt E 0, .int (nI f), .int (nI k)] SHs (hn w) SHs (ic_qe (nI (if f < 6 ∧ k ≤ 1 then s ((if k = 0 then 44 else 50) + f) else 4294967295)) (hn w)) := by
  refine ic_intro (by decide +kernel) (Nat.le_of_ble_eq_true rfl) ?_
  show xx l E _ _ 0 [(0, ic_pt E 0), (1, .int (nI f)), (2, .int (nI k))] _ _ _
  have hN := hC.1
  have hm := hC.2.1
  have n5_w := hC.2.2.1
  have n6_w := hC.2.2.2
  have hn0 := hIn.n
  have htt := hIn.t
  have hcr := hIn.cr (s 1)
  have n1_w : w 39 10 = s 0 := hN.n
  have n2_w : w 39 11 = s 2 := hN.e
  have n3_w : w 46 0 = s 1 := hm.t
  have n4_w : w 46 1 = mo_outs s := hm.o
  refine xx_iload_n (pc := 0) dX11_homeOf_0 1 rfl rfl ?_
  refine xx_callS0 (pc := 1) (st := []) (cC_isStop (w := w) (v := f) (by omega)) kX11_isStop sX11_98 dX11_homeOf_1 rfl rfl (Nat.le_of_ble_eq_true rfl) ⟨Nat.le_of_ble_eq_true rfl, Nat.le_of_ble_eq_true rfl⟩ ⟨Nat.zero_le _, Nat.zero_le _⟩ (ic_ke ?_)
  refine xx_if_eqB (pc := 4) 16 dX11_homeOf_4 rfl (fun c1 => ?_) (fun c1 => ?_)
  · refine xx_iconst (pc := 16) dX11_homeOf_16 cc_iconst_m1 ?_
    exact xx_iret (pc := 17) dX11_homeOf_17 rfl (rfl) (Nat.le_refl _) (Nat.le_refl _) (ic_re (by first | exact (if_neg (by omega)).symm | (rw [if_pos (by omega)]; first | (rw [if_pos (by omega)]; exact hN.g (by omega)) | (rw [if_neg (by omega)]; exact hN.p (by omega)))))
  · refine xx_iload_n (pc := 7) dX11_homeOf_7 2 rfl rfl ?_
    refine xx_iconst (pc := 8) dX11_homeOf_8 cc_iconst_0 ?_
    refine xx_iconst (pc := 9) dX11_homeOf_9 cc_iconst_1 ?_
    refine xx_callS0 (pc := 10) (st := []) (cC_within (w := w) (v := k) (lo := 0) (hi := 1) (by omega) (by omega) (by omega)) kX11_within sX11_94 dX11_homeOf_10 rfl rfl (Nat.le_of_ble_eq_true rfl) ⟨Nat.le_of_ble_eq_true rfl, Nat.le_of_ble_eq_true rfl⟩ ⟨Nat.zero_le _, Nat.zero_le _⟩ (ic_ke ?_)
    refine xx_if_neB (pc := 13) 18 dX11_homeOf_13 rfl (fun c2 => ?_) (fun c2 => ?_)
    · refine xx_iload_n (pc := 18) dX11_homeOf_18 2 rfl rfl ?_
      refine xx_if_neN (pc := 19) 34 dX11_homeOf_19 rfl (by omega) (fun c3 => ?_) (fun c3 => ?_)
      · refine xx_aload_nP (pc := 34) dX11_homeOf_34 0 rfl rfl ?_
        refine xx_getR (pc := 35) 39 dX11_homeOf_35 sh_0 fX11_74_11 rfl rfl (by decide) ?_
        refine xx_getR (pc := 38) 42 dX11_homeOf_38 sh_39 fX11_173_5 rfl rfl (by decide) ?_
        refine xx_iload_n (pc := 41) dX11_homeOf_41 1 rfl rfl ?_
        refine xx_ialdN (pc := 42) dX11_homeOf_42 sh_42 (by omega) (by decide) ?_
        exact xx_iret (pc := 43) dX11_homeOf_43 rfl (rfl) (Nat.le_refl _) (Nat.le_refl _) (ic_re (by first | exact (if_neg (by omega)).symm | (rw [if_pos (by omega)]; first | (rw [if_pos (by omega)]; exact hN.g (by omega)) | (rw [if_neg (by omega)]; exact hN.p (by omega)))))
      · refine xx_aload_nP (pc := 22) dX11_homeOf_22 0 rfl rfl ?_
        refine xx_getR (pc := 23) 39 dX11_homeOf_23 sh_0 fX11_74_11 rfl rfl (by decide) ?_
        refine xx_getR (pc := 26) 41 dX11_homeOf_26 sh_39 fX11_170_5 rfl rfl (by decide) ?_
        refine xx_iload_n (pc := 29) dX11_homeOf_29 1 rfl rfl ?_
        refine xx_ialdN (pc := 30) dX11_homeOf_30 sh_41 (by omega) (by decide) ?_
        refine xx_goto (pc := 31) 43 dX11_homeOf_31 rfl ?_
        exact xx_iret (pc := 43) dX11_homeOf_43 rfl (rfl) (Nat.le_refl _) (Nat.le_refl _) (ic_re (by first | exact (if_neg (by omega)).symm | (rw [if_pos (by omega)]; first | (rw [if_pos (by omega)]; exact hN.g (by omega)) | (rw [if_neg (by omega)]; exact hN.p (by omega)))))
    · refine xx_iconst (pc := 16) dX11_homeOf_16 cc_iconst_m1 ?_
      exact xx_iret (pc := 17) dX11_homeOf_17 rfl (rfl) (Nat.le_refl _) (Nat.le_refl _) (ic_re (by first | exact (if_neg (by omega)).symm | (rw [if_pos (by omega)]; first | (rw [if_pos (by omega)]; exact hN.g (by omega)) | (rw [if_neg (by omega)]; exact hN.p (by omega)))))

set_option maxHeartbeats 4000000 in
set_option maxRecDepth 100000 in
theorem cC_home {l : Launch} {E : ic_E} {w : ic_w} {f : Nat} (hf_ : f < 2 ^ 32) {k : Nat} (hk_ : k < 2 ^ 32) {v : Nat} (hv_ : v < 2 ^ 32) {s : Nat → Nat} (hC : Cw w s) (hIn : In s) : ic_C l E mX11_home 4 0 0 False [ic_pt E 0, .int (nI f), .int (nI k), .int (nI v)] SHs (hn w) SHs (ic_qi (fun v_ h_ => v_ = nI (if f < 6 ∧ k ≤ 1 ∧ v ≤ 9 then s ((if k = 0 then 44 else 50) + f) else 4294967295) ∧ ∃ w2, h_ = hn w2 ∧ Fn w w2 ∧ Cw w2 (if f < 6 ∧ k ≤ 1 ∧ v ≤ 9 then fu s ((if k = 0 then 44 else 50) + f) v else s))) := by
  refine ic_intro (by decide +kernel) (Nat.le_of_ble_eq_true rfl) ?_
  show xx l E _ _ 0 [(0, ic_pt E 0), (1, .int (nI f)), (2, .int (nI k)), (3, .int (nI v))] _ _ _
  have hN := hC.1
  have hm := hC.2.1
  have n5_w := hC.2.2.1
  have n6_w := hC.2.2.2
  have hn0 := hIn.n
  have htt := hIn.t
  have hcr := hIn.cr (s 1)
  have n1_w : w 39 10 = s 0 := hN.n
  have n2_w : w 39 11 = s 2 := hN.e
  have n3_w : w 46 0 = s 1 := hm.t
  have n4_w : w 46 1 = mo_outs s := hm.o
  refine xx_aload_nP (pc := 0) dX11_home_0 0 rfl rfl ?_
  refine xx_iload_n (pc := 1) dX11_home_1 1 rfl rfl ?_
  refine xx_iload_n (pc := 2) dX11_home_2 2 rfl rfl ?_
  have hhb : (f < 6 ∧ k ≤ 1 ∧ (if f < 6 ∧ k ≤ 1 then s ((if k = 0 then 44 else 50) + f) else 4294967295) ≤ 9) ∨ (¬ (f < 6 ∧ k ≤ 1) ∧ (if f < 6 ∧ k ≤ 1 then s ((if k = 0 then 44 else 50) + f) else 4294967295) = 4294967295) := by
    by_cases z : f < 6 ∧ k ≤ 1
    · rw [if_pos z]
      have := hIn.f z.1
      split <;> omega
    · rw [if_neg z]
      omega
  refine xx_callV0 (pc := 3) (st := []) sh_0 (cC_homeOf (w := w) (f := f) (k := k) (s := s) (by omega) (by omega) hC hIn) kX11_homeOf vX11_167_11 dX11_home_3 rfl rfl (Nat.le_of_ble_eq_true rfl) ⟨Nat.le_of_ble_eq_true rfl, Nat.le_of_ble_eq_true rfl⟩ ⟨Nat.zero_le _, Nat.zero_le _⟩ (ic_ke ?_)
  refine xx_istore (L' := [(4, .int (nI ((if f < 6 ∧ k ≤ 1 then s ((if k = 0 then 44 else 50) + f) else 4294967295)))), (0, ic_pt E 0), (1, .int (nI f)), (2, .int (nI k)), (3, .int (nI v))]) (pc := 6) dX11_home_6 (Nat.le_of_ble_eq_true rfl) rfl ?_
  refine xx_iload (pc := 8) dX11_home_8 0 rfl ?_
  refine xx_if_ltS (pc := 10) 23 dX11_home_10 rfl (by omega) (fun c1 => ?_) (fun c1 => ?_)
  · refine xx_iconst (pc := 23) dX11_home_23 cc_iconst_m1 ?_
    exact xx_iret (pc := 24) dX11_home_24 rfl (rfl) (Nat.le_refl _) (Nat.le_refl _) (ic_ri ⟨by rw [if_neg (by omega)], w, rfl, Fn.rf w, by rw [if_neg (by omega)]; exact hC⟩)
  · refine xx_iload_n (pc := 13) dX11_home_13 4 rfl rfl ?_
    refine xx_iconst (pc := 14) dX11_home_14 cc_iconst_0 ?_
    refine xx_bipush (pc := 15) dX11_home_15 cc_bipush_9 ?_
    refine xx_callS0 (pc := 17) (st := []) (cC_within (w := w) (v := v) (lo := 0) (hi := 9) (by omega) (by omega) (by omega)) kX11_within sX11_94 dX11_home_17 rfl rfl (Nat.le_of_ble_eq_true rfl) ⟨Nat.le_of_ble_eq_true rfl, Nat.le_of_ble_eq_true rfl⟩ ⟨Nat.zero_le _, Nat.zero_le _⟩ (ic_ke ?_)
    refine xx_if_neB (pc := 20) 25 dX11_home_20 rfl (fun c2 => ?_) (fun c2 => ?_)
    · refine xx_iload_n (pc := 25) dX11_home_25 3 rfl rfl ?_
      refine xx_if_neN (pc := 26) 42 dX11_home_26 rfl (by omega) (fun c3 => ?_) (fun c3 => ?_)
      · refine xx_aload_nP (pc := 42) dX11_home_42 1 rfl rfl ?_
        refine xx_getR (pc := 43) 39 dX11_home_43 sh_0 fX11_74_11 rfl rfl (by decide) ?_
        refine xx_getR (pc := 46) 42 dX11_home_46 sh_39 fX11_173_5 rfl rfl (by decide) ?_
        refine xx_iload_n (pc := 49) dX11_home_49 2 rfl rfl ?_
        refine xx_iload_n (pc := 50) dX11_home_50 4 rfl rfl ?_
        refine xx_iastN (pc := 51) dX11_home_51 sh_42 (by omega) (by decide) ?_
        refine xx_nw (fun w4 ew4 => ?_)
        refine xx_iload (pc := 52) dX11_home_52 0 rfl ?_
        exact xx_iret (pc := 54) dX11_home_54 rfl (rfl) (Nat.le_refl _) (Nat.le_refl _) (ic_ri ⟨by rw [if_pos (show f < 6 ∧ k ≤ 1 ∧ v ≤ 9 by omega), if_pos (show f < 6 ∧ k ≤ 1 by omega)], w4, rfl, fun a ha => by rw [ew4, wu_row _ _ _ (by omega)], by rw [if_pos (by omega), ew4]; first | (rw [if_pos (by omega)]; exact hC.up hIn (Lc_g (by omega)) (by omega) (by omega)) | (rw [if_neg (by omega)]; exact hC.up hIn (Lc_p (by omega)) (by omega) (by omega))⟩)
      · refine xx_aload_nP (pc := 29) dX11_home_29 1 rfl rfl ?_
        refine xx_getR (pc := 30) 39 dX11_home_30 sh_0 fX11_74_11 rfl rfl (by decide) ?_
        refine xx_getR (pc := 33) 41 dX11_home_33 sh_39 fX11_170_5 rfl rfl (by decide) ?_
        refine xx_iload_n (pc := 36) dX11_home_36 2 rfl rfl ?_
        refine xx_iload_n (pc := 37) dX11_home_37 4 rfl rfl ?_
        refine xx_iastN (pc := 38) dX11_home_38 sh_41 (by omega) (by decide) ?_
        refine xx_nw (fun w5 ew5 => ?_)
        refine xx_goto (pc := 39) 52 dX11_home_39 rfl ?_
        refine xx_iload (pc := 52) dX11_home_52 0 rfl ?_
        exact xx_iret (pc := 54) dX11_home_54 rfl (rfl) (Nat.le_refl _) (Nat.le_refl _) (ic_ri ⟨by rw [if_pos (show f < 6 ∧ k ≤ 1 ∧ v ≤ 9 by omega), if_pos (show f < 6 ∧ k ≤ 1 by omega)], w5, rfl, fun a ha => by rw [ew5, wu_row _ _ _ (by omega)], by rw [if_pos (by omega), ew5]; first | (rw [if_pos (by omega)]; exact hC.up hIn (Lc_g (by omega)) (by omega) (by omega)) | (rw [if_neg (by omega)]; exact hC.up hIn (Lc_p (by omega)) (by omega) (by omega))⟩)
    · refine xx_iconst (pc := 23) dX11_home_23 cc_iconst_m1 ?_
      exact xx_iret (pc := 24) dX11_home_24 rfl (rfl) (Nat.le_refl _) (Nat.le_refl _) (ic_ri ⟨by rw [if_neg (by omega)], w, rfl, Fn.rf w, by rw [if_neg (by omega)]; exact hC⟩)

set_option maxHeartbeats 4000000 in
set_option maxRecDepth 100000 in
theorem cC_ends {l : Launch} {E : ic_E} {w : ic_w} {v : Nat} (hv_ : v < 2 ^ 32) {s : Nat → Nat} (hC : Cw w s) (hIn : In s) : ic_C l E mX11_ends 3 0 0 False [ic_pt E 0, .int (nI v)] SHs (hn w) SHs (ic_qi (fun v_ h_ => v_ = nI (if 1 ≤ v ∧ v ≤ 16 then (if v < s 1 then 4294967292 else s 2) else 4294967295) ∧ ∃ w2, h_ = hn w2 ∧ Fn w w2 ∧ Cw w2 (if (1 ≤ v ∧ v ≤ 16) ∧ s 1 ≤ v then fu s 2 v else s))) := by
  refine ic_intro (by decide +kernel) (Nat.le_of_ble_eq_true rfl) ?_
  show xx l E _ _ 0 [(0, ic_pt E 0), (1, .int (nI v))] _ _ _
  have hN := hC.1
  have hm := hC.2.1
  have n5_w := hC.2.2.1
  have n6_w := hC.2.2.2
  have hn0 := hIn.n
  have htt := hIn.t
  have hcr := hIn.cr (s 1)
  have n1_w : w 39 10 = s 0 := hN.n
  have n2_w : w 39 11 = s 2 := hN.e
  have n3_w : w 46 0 = s 1 := hm.t
  have n4_w : w 46 1 = mo_outs s := hm.o
  refine xx_iload_n (pc := 0) dX11_ends_0 1 rfl rfl ?_
  refine xx_iconst (pc := 1) dX11_ends_1 cc_iconst_1 ?_
  refine xx_bipush (pc := 2) dX11_ends_2 cc_bipush_16 ?_
  refine xx_callS0 (pc := 4) (st := []) (cC_within (w := w) (v := v) (lo := 1) (hi := 16) (by omega) (by omega) (by omega)) kX11_within sX11_94 dX11_ends_4 rfl rfl (Nat.le_of_ble_eq_true rfl) ⟨Nat.le_of_ble_eq_true rfl, Nat.le_of_ble_eq_true rfl⟩ ⟨Nat.zero_le _, Nat.zero_le _⟩ (ic_ke ?_)
  refine xx_if_neB (pc := 7) 12 dX11_ends_7 rfl (fun c1 => ?_) (fun c1 => ?_)
  · refine xx_iload_n (pc := 12) dX11_ends_12 1 rfl rfl ?_
    refine xx_aload_nP (pc := 13) dX11_ends_13 0 rfl rfl ?_
    refine xx_getR (pc := 14) 39 dX11_ends_14 sh_0 fX11_74_11 rfl rfl (by decide) ?_
    refine xx_getR (pc := 17) 46 dX11_ends_17 sh_39 fX11_112_5 rfl rfl (by decide) ?_
    refine xx_getN (pc := 20) dX11_ends_20 sh_46 fX11_137_4 rfl ?_
    refine xx_icmp_geN (pc := 23) 29 dX11_ends_23 rfl (by omega) (by omega) (fun c2 => ?_) (fun c2 => ?_)
    · refine xx_aload_nP (pc := 29) dX11_ends_29 0 rfl rfl ?_
      refine xx_getR (pc := 30) 39 dX11_ends_30 sh_0 fX11_74_11 rfl rfl (by decide) ?_
      refine xx_getN (pc := 33) dX11_ends_33 sh_39 fX11_176_5 rfl ?_
      refine xx_istore_n (L' := [(2, .int (nI (w 39 11))), (0, ic_pt E 0), (1, .int (nI v))]) (pc := 36) dX11_ends_36 rfl (Nat.le_of_ble_eq_true rfl) rfl ?_
      refine xx_aload_nP (pc := 37) dX11_ends_37 1 rfl rfl ?_
      refine xx_getR (pc := 38) 39 dX11_ends_38 sh_0 fX11_74_11 rfl rfl (by decide) ?_
      refine xx_iload_n (pc := 41) dX11_ends_41 2 rfl rfl ?_
      refine xx_putN (pc := 42) dX11_ends_42 sh_39 fX11_176_5 rfl rfl ?_
      refine xx_nw (fun w3 ew3 => ?_)
      refine xx_iload_n (pc := 45) dX11_ends_45 0 rfl rfl ?_
      exact xx_iret (pc := 46) dX11_ends_46 rfl (rfl) (Nat.le_refl _) (Nat.le_refl _) (ic_ri ⟨by rw [if_pos (by omega), if_neg (by omega), n2_w], w3, rfl, fun a ha => by rw [ew3, wu_row _ _ _ (by omega)], by rw [if_pos (by omega), ew3]; exact hC.up hIn Lc_e (by omega) (by omega)⟩)
    · refine xx_bipush (pc := 26) dX11_ends_26 cc_bipush_m4 ?_
      exact xx_iret (pc := 28) dX11_ends_28 rfl (rfl) (Nat.le_refl _) (Nat.le_refl _) (ic_ri ⟨by rw [if_pos (by omega), if_pos (by omega)], w, rfl, Fn.rf w, by rw [if_neg (by omega)]; exact hC⟩)
  · refine xx_iconst (pc := 10) dX11_ends_10 cc_iconst_m1 ?_
    exact xx_iret (pc := 11) dX11_ends_11 rfl (rfl) (Nat.le_refl _) (Nat.le_refl _) (ic_ri ⟨by rw [if_neg (by omega)], w, rfl, Fn.rf w, by rw [if_neg (by omega)]; exact hC⟩)

set_option maxHeartbeats 4000000 in
set_option maxRecDepth 100000 in
theorem cC_seed {l : Launch} {E : ic_E} {w : ic_w} {v : Nat} (hv_ : v < 2 ^ 32) {s : Nat → Nat} (hC : Cw w s) (hIn : In s) : ic_C l E mX11_seed 1 0 0 False [ic_pt E 0, .int (nI v)] SHs (hn w) SHs (ic_qi (fun v_ h_ => v_ = nI (s 4) ∧ ∃ w2, h_ = hn w2 ∧ Fn w w2 ∧ Cw w2 (fu s 4 v))) := by
  refine ic_intro (by decide +kernel) (Nat.le_of_ble_eq_true rfl) ?_
  show xx l E _ _ 0 [(0, ic_pt E 0), (1, .int (nI v))] _ _ _
  have hN := hC.1
  have hm := hC.2.1
  have n5_w := hC.2.2.1
  have n6_w := hC.2.2.2
  have hn0 := hIn.n
  have htt := hIn.t
  have hcr := hIn.cr (s 1)
  have n1_w : w 39 10 = s 0 := hN.n
  have n2_w : w 39 11 = s 2 := hN.e
  have n3_w : w 46 0 = s 1 := hm.t
  have n4_w : w 46 1 = mo_outs s := hm.o
  refine xx_aload_nP (pc := 0) dX11_seed_0 0 rfl rfl ?_
  refine xx_getR (pc := 1) 39 dX11_seed_1 sh_0 fX11_74_11 rfl rfl (by decide) ?_
  refine xx_getN (pc := 4) dX11_seed_4 sh_39 fX11_312_5 rfl ?_
  refine xx_istore_n (L' := [(2, .int (nI (w 39 13))), (0, ic_pt E 0), (1, .int (nI v))]) (pc := 7) dX11_seed_7 rfl (Nat.le_of_ble_eq_true rfl) rfl ?_
  refine xx_aload_nP (pc := 8) dX11_seed_8 1 rfl rfl ?_
  refine xx_getR (pc := 9) 39 dX11_seed_9 sh_0 fX11_74_11 rfl rfl (by decide) ?_
  refine xx_iload_n (pc := 12) dX11_seed_12 2 rfl rfl ?_
  refine xx_putN (pc := 13) dX11_seed_13 sh_39 fX11_312_5 rfl rfl ?_
  refine xx_nw (fun w1 ew1 => ?_)
  refine xx_iload_n (pc := 16) dX11_seed_16 0 rfl rfl ?_
  exact xx_iret (pc := 17) dX11_seed_17 rfl (rfl) (Nat.le_refl _) (Nat.le_refl _) (ic_ri ⟨by rw [n6_w], w1, rfl, fun a ha => by rw [ew1, wu_row _ _ _ (by omega)], by rw [ew1]; exact hC.up hIn Lc_z (by omega) (by omega)⟩)

