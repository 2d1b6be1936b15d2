/-! the reader of the rules: its words again, by the place; steps as a list -/
theorem ic_C.post {l : Launch} {E : ic_E} {Y : ic_Y} {d mc ms : Nat} {z : Prop} {As : List Value} {sh : List ic_S} {h : ic_H} {sh' : List ic_S} {Q Q' : Option Value → ic_H → Prop} (hC : ic_C l E Y d mc ms z As sh h sh' Q) (hq : ∀ r h', Q r h' → Q' r h') : ic_C l E Y d mc ms z As sh h sh' Q' := by
  unfold ic_C Met at hC ⊢
  refine MetFree.mono hC (fun _ _ q => q) (fun _ _ _ _ _ q => q) (fun a s o t _ q => ?_)
  obtain ⟨⟨⟨r, h', e, q1, m⟩, f⟩, g⟩ := q
  exact ⟨⟨⟨r, h', e, hq r h' q1, m⟩, f⟩, g⟩
def Hw (w u : ic_w) : Prop := (∀ a, a ≠ 114 → a ≠ 115 → u a = w a) ∧ (∀ j, j < 6 ∨ 11 < j → u 114 j = w 114 j) ∧ ∀ j, 578 ≤ j → u 115 j = w 115 j
theorem Hw.rf (w : ic_w) : Hw w w := ⟨fun _ _ _ => rfl, fun _ _ => rfl, fun _ _ => rfl⟩
theorem Hw.tr {w u v : ic_w} (h : Hw w u) (g : Hw u v) : Hw w v := ⟨fun a h1 h2 => (g.1 a h1 h2).trans (h.1 a h1 h2), fun j hj => (g.2.1 j hj).trans (h.2.1 j hj), fun j hj => (g.2.2 j hj).trans (h.2.2 j hj)⟩
theorem Fw.h {w u : ic_w} (h : Fw w u) : Hw w u := ⟨fun a h1 _ => h.1 a h1, fun j hj => h.2 j (by omega), fun j _ => by rw [h.1 115 (by decide)]⟩
def tk_s1 (s : Nat → Nat) (x : Nat × Nat × Nat) : Nat → Nat := fu (fu (fu (fu s (128 + 3 * s 7) x.1) (129 + 3 * s 7) x.2.1) (130 + 3 * s 7) x.2.2) 7 (s 7 + 1)
def tk_sts (s : Nat → Nat) (L : tk_L) : Nat → Nat := L.foldl tk_s1 s
theorem tk_sts_a (s : Nat → Nat) (L K : tk_L) : tk_sts s (L ++ K) = tk_sts (tk_sts s L) K := List.foldl_append
theorem tk_s1_7 (s : Nat → Nat) (x : Nat × Nat × Nat) : tk_s1 s x 7 = s 7 + 1 := fu_s _ _ _
theorem tk_sts_7 (L : tk_L) : ∀ s, tk_sts s L 7 = s 7 + L.length := by
  induction L with
  | nil => intro s; rfl
  | cons x L ih =>
    intro s
    show tk_sts (tk_s1 s x) L 7 = _
    rw [ih, tk_s1_7, List.length_cons]
    omega
theorem tk_st_115 (w : ic_w) (x y z : Nat) : tk_st w x y z 115 = tk_s1 (w 115) (x, y, z) := by
  funext j
  unfold tk_st tk_s1 wu fu
  simp
/-- what comes of a reading: where the machine then is -/
def tk_Q (w : ic_w) (f : Nat → Nat) (n : Nat) (r : tk_P) : Option Value → ic_H → Prop := ic_qv fun h_ => ∃ w2, h_ = hn w2 ∧ Hw w w2 ∧ w2 114 11 = w 114 11 ∧ Tz w2 f n r.2.1 ∧ w2 114 10 = r.1 ∧ (r.1 = 0 → w2 115 = tk_sts (w 115) r.2.2)

theorem cZ_byte {l : Launch} {E : ic_E} {w : ic_w} {f : Nat → Nat} {n a : Nat} (hz : Tz w f n a) {c : Nat} (hc : c ≤ 255) : ic_C l E mX12_isByte 2 0 0 False [ic_pt E 114, .int (nI c)] SHs (hn w) SHs (ic_qe (nI (ic_bo (tk_k f n a = 3 ∧ tk_b f n a = c))) (hn w)) := by
  have e : (w 114 6 = 3 ∧ tk_b f n (w 114 7) = c) ↔ (tk_k f n a = 3 ∧ tk_b f n a = c) := by rw [hz.2.2.1, hz.2.2.2.1]
  rw [← ic_bo_iff e]
  exact cM_isByte hc hz.b.1 hz.b.2.2.1 hz.b.2.2.2.1 hz.1
theorem cZ_or {l : Launch} {E : ic_E} {w : ic_w} {f : Nat → Nat} {n a : Nat} (hz : Tz w f n a) : ic_C l E mX12_isTwo 2 0 0 False [ic_pt E 114, .int (nI 111), .int (nI 114)] SHs (hn w) SHs (ic_qe (nI (ic_bo (tk_i f n [111, 114] a = true))) (hn w)) := by
  have e : (w 114 6 = 1 ∧ w 114 8 = w 114 7 + 2 ∧ tk_b f n (w 114 7) = 111 ∧ tk_b f n (w 114 7 + 1) = 114) ↔ (tk_i f n [111, 114] a = true) := by
    rw [hz.2.2.1, hz.2.2.2.1, hz.2.2.2.2.1]
    have e2 : tk_i f n [111, 114] a = true ↔ (tk_k f n a = 1 ∧ tk_e f n a = a + 2 ∧ tk_b f n a = 111 ∧ tk_b f n (a + 1) = 114) := wd_or
    exact e2.symm
  rw [← ic_bo_iff e]
  exact cM_isTwo (by decide) (by decide) hz.b.1 hz.b.2.2.1 hz.b.2.2.2.1 hz.b.2.2.2.2.1 hz.1
theorem cZ_if {l : Launch} {E : ic_E} {w : ic_w} {f : Nat → Nat} {n a : Nat} (hz : Tz w f n a) : ic_C l E mX12_isTwo 2 0 0 False [ic_pt E 114, .int (nI 105), .int (nI 102)] SHs (hn w) SHs (ic_qe (nI (ic_bo (tk_i f n [105, 102] a = true))) (hn w)) := by
  have e : (w 114 6 = 1 ∧ w 114 8 = w 114 7 + 2 ∧ tk_b f n (w 114 7) = 105 ∧ tk_b f n (w 114 7 + 1) = 102) ↔ (tk_i f n [105, 102] a = true) := by
    rw [hz.2.2.1, hz.2.2.2.1, hz.2.2.2.2.1]
    have e2 : tk_i f n [105, 102] a = true ↔ (tk_k f n a = 1 ∧ tk_e f n a = a + 2 ∧ tk_b f n a = 105 ∧ tk_b f n (a + 1) = 102) := wd_if
    exact e2.symm
  rw [← ic_bo_iff e]
  exact cM_isTwo (by decide) (by decide) hz.b.1 hz.b.2.2.1 hz.b.2.2.2.1 hz.b.2.2.2.2.1 hz.1
theorem cZ_not {l : Launch} {E : ic_E} {w : ic_w} {f : Nat → Nat} {n a : Nat} (hz : Tz w f n a) : ic_C l E mX12_isName 2 0 0 False [ic_pt E 114, .int (nI 3), .int (nI 110), .int (nI 111), .int (nI 116), .int (nI 116)] SHs (hn w) SHs (ic_qe (nI (ic_bo (tk_i f n [110, 111, 116] a = true))) (hn w)) := by
  have e : (w 114 6 = 1 ∧ w 114 8 = w 114 7 + 3 ∧ tk_b f n (w 114 7) = 110 ∧ tk_b f n (w 114 7 + 1) = 111 ∧ tk_b f n (w 114 7 + 2) = 116 ∧ tk_b f n (w 114 7 + 2) = 116) ↔ (tk_i f n [110, 111, 116] a = true) := by
    rw [hz.2.2.1, hz.2.2.2.1, hz.2.2.2.2.1]
    have e2 : tk_i f n [110, 111, 116] a = true ↔ (tk_k f n a = 1 ∧ tk_e f n a = a + 3 ∧ tk_b f n a = 110 ∧ tk_b f n (a + 1) = 111 ∧ tk_b f n (a + 2) = 116) := wd_not
    rw [e2]
    constructor
    · intro h; exact ⟨h.1, h.2.1, h.2.2.1, h.2.2.2.1, h.2.2.2.2.1⟩
    · intro h; exact ⟨h.1, h.2.1, h.2.2.1, h.2.2.2.1, h.2.2.2.2, h.2.2.2.2⟩
  rw [← ic_bo_iff e]
  exact cM_isName (m := 3) (m1 := 2) rfl (by decide) (by decide) (by decide) (by decide) (by decide) hz.b.1 hz.b.2.2.1 hz.b.2.2.2.1 hz.b.2.2.2.2.1 hz.1
theorem cZ_and {l : Launch} {E : ic_E} {w : ic_w} {f : Nat → Nat} {n a : Nat} (hz : Tz w f n a) : ic_C l E mX12_isName 2 0 0 False [ic_pt E 114, .int (nI 3), .int (nI 97), .int (nI 110), .int (nI 100), .int (nI 100)] SHs (hn w) SHs (ic_qe (nI (ic_bo (tk_i f n [97, 110, 100] a = true))) (hn w)) := by
  have e : (w 114 6 = 1 ∧ w 114 8 = w 114 7 + 3 ∧ tk_b f n (w 114 7) = 97 ∧ tk_b f n (w 114 7 + 1) = 110 ∧ tk_b f n (w 114 7 + 2) = 100 ∧ tk_b f n (w 114 7 + 2) = 100) ↔ (tk_i f n [97, 110, 100] a = true) := by
    rw [hz.2.2.1, hz.2.2.2.1, hz.2.2.2.2.1]
    have e2 : tk_i f n [97, 110, 100] a = true ↔ (tk_k f n a = 1 ∧ tk_e f n a = a + 3 ∧ tk_b f n a = 97 ∧ tk_b f n (a + 1) = 110 ∧ tk_b f n (a + 2) = 100) := wd_and
    rw [e2]
    constructor
    · intro h; exact ⟨h.1, h.2.1, h.2.2.1, h.2.2.2.1, h.2.2.2.2.1⟩
    · intro h; exact ⟨h.1, h.2.1, h.2.2.1, h.2.2.2.1, h.2.2.2.2, h.2.2.2.2⟩
  rw [← ic_bo_iff e]
  exact cM_isName (m := 3) (m1 := 2) rfl (by decide) (by decide) (by decide) (by decide) (by decide) hz.b.1 hz.b.2.2.1 hz.b.2.2.2.1 hz.b.2.2.2.2.1 hz.1
theorem cZ_kind {l : Launch} {E : ic_E} {w : ic_w} {f : Nat → Nat} {n a : Nat} (hz : Tz w f n a) : ic_C l E mX12_kindHere 4 0 0 False [ic_pt E 114] SHs (hn w) SHs (ic_qe (nI (tk_kd f n (tk_k f n a) a (tk_e f n a))) (hn w)) := by
  have z := cM_kindHere (l := l) (E := E) (w := w) (f := f) (n := n) hz.b.1 hz.b.2.2.1 hz.b.2.2.2.1 hz.b.2.2.2.2.1 hz.1
  rw [hz.2.2.1, hz.2.2.2.1, hz.2.2.2.2.1] at z
  exact z
theorem cZ_do {l : Launch} {E : ic_E} {w : ic_w} {f : Nat → Nat} {n a : Nat} (hz : Tz w f n a) : ic_C l E mX12_doHere 4 0 0 False [ic_pt E 114] SHs (hn w) SHs (ic_qe (nI (tk_dd f n (tk_k f n a) a (tk_e f n a))) (hn w)) := by
  have z := cM_doHere (l := l) (E := E) (w := w) (f := f) (n := n) hz.b.1 hz.b.2.2.1 hz.b.2.2.2.1 hz.b.2.2.2.2.1 hz.1
  rw [hz.2.2.1, hz.2.2.2.1, hz.2.2.2.2.1] at z
  exact z
theorem cZ_needT {l : Launch} {E : ic_E} {w : ic_w} {f : Nat → Nat} {n a : Nat} (hz : Tz w f n a) {b : Nat} (hb : b ≤ 1) (h10 : w 114 10 = 0) (h : b ≠ 0) : ic_C l E mX12_needs 4 0 0 False [ic_pt E 114, .int (nI b)] SHs (hn w) SHs (ic_qv (fun h_ => ∃ w2, h_ = hn w2 ∧ Fw w w2 ∧ Tz w2 f n (tk_z f n a) ∧ w2 114 10 = 0)) := by
  have z := cM_needs (l := l) (E := E) hb (by omega) hz
  rw [if_pos ⟨h10, h⟩, if_pos ⟨h10, h⟩] at z
  exact z
theorem cZ_needF {l : Launch} {E : ic_E} {w : ic_w} {f : Nat → Nat} {n a : Nat} (hz : Tz w f n a) {b : Nat} (hb : b ≤ 1) (h10 : w 114 10 ≤ 1) (h : b = 0) : ic_C l E mX12_needs 4 0 0 False [ic_pt E 114, .int (nI b)] SHs (hn w) SHs (ic_qv (fun h_ => ∃ w2, h_ = hn w2 ∧ Fw w w2 ∧ Tz w2 f n a ∧ w2 114 10 = 1)) := by
  have z := cM_needs (l := l) (E := E) hb (by omega) hz
  rw [if_neg (fun y => y.2 h), if_neg (fun y => y.2 h)] at z
  exact z
theorem cZ_needW {l : Launch} {E : ic_E} {w : ic_w} {f : Nat → Nat} {n a : Nat} (hz : Tz w f n a) {b : Nat} (hb : b ≤ 1) (h10 : w 114 10 = 1) : ic_C l E mX12_needs 4 0 0 False [ic_pt E 114, .int (nI b)] SHs (hn w) SHs (ic_qv (fun h_ => ∃ w2, h_ = hn w2 ∧ Fw w w2 ∧ Tz w2 f n a ∧ w2 114 10 = 1)) := by
  have z := cM_needs (l := l) (E := E) hb (by omega) hz
  rw [if_neg (fun y => absurd y.1 (by omega)), if_neg (fun y => absurd y.1 (by omega))] at z
  exact z
theorem cZ_valT {l : Launch} {E : ic_E} {w : ic_w} {f : Nat → Nat} {n a : Nat} (hz : Tz w f n a) (h10 : w 114 10 = 0) (h : tk_ov f n a ≠ 0) : ic_C l E mX12_valueHere 6 0 0 False [ic_pt E 114] SHs (hn w) SHs (ic_qi (fun v_ h_ => v_ = nI (tk_val f n a) ∧ ∃ w2, h_ = hn w2 ∧ Fw w w2 ∧ Tz w2 f n (tk_z f n a) ∧ w2 114 10 = 0)) := by
  have z := cM_valueHere (l := l) (E := E) (by omega) hz
  rw [if_pos ⟨h10, h⟩, if_pos ⟨h10, h⟩] at z
  exact z
theorem cZ_valF {l : Launch} {E : ic_E} {w : ic_w} {f : Nat → Nat} {n a : Nat} (hz : Tz w f n a) (h10 : w 114 10 ≤ 1) (h : tk_ov f n a = 0) : ic_C l E mX12_valueHere 6 0 0 False [ic_pt E 114] SHs (hn w) SHs (ic_qi (fun v_ h_ => v_ = nI (tk_val f n a) ∧ ∃ w2, h_ = hn w2 ∧ Fw w w2 ∧ Tz w2 f n a ∧ w2 114 10 = 1)) := by
  have z := cM_valueHere (l := l) (E := E) (by omega) hz
  rw [if_neg (fun y => y.2 h), if_neg (fun y => y.2 h)] at z
  exact z
theorem cZ_valW {l : Launch} {E : ic_E} {w : ic_w} {f : Nat → Nat} {n a : Nat} (hz : Tz w f n a) (h10 : w 114 10 = 1) : ic_C l E mX12_valueHere 6 0 0 False [ic_pt E 114] SHs (hn w) SHs (ic_qi (fun v_ h_ => v_ = nI (tk_val f n a) ∧ ∃ w2, h_ = hn w2 ∧ Fw w w2 ∧ Tz w2 f n a ∧ w2 114 10 = 1)) := by
  have z := cM_valueHere (l := l) (E := E) (by omega) hz
  rw [if_neg (fun y => absurd y.1 (by omega)), if_neg (fun y => absurd y.1 (by omega))] at z
  exact z
theorem cZ_next {l : Launch} {E : ic_E} {w : ic_w} {f : Nat → Nat} {n a : Nat} (hz : Tz w f n a) : ic_C l E mX12_nextToken 3 0 0 False [ic_pt E 114] SHs (hn w) SHs (ic_qv (fun h_ => ∃ w2, h_ = hn w2 ∧ Fw w w2 ∧ Tz w2 f n (tk_z f n a) ∧ w2 114 10 = w 114 10)) := by
  refine ic_C.post (cM_nextToken hz.1 hz.b.2.1) (fun r h' q => ?_)
  obtain ⟨q0, w2, e, ⟨h1, h2⟩, e6, e7, e8, e9⟩ := q
  exact ⟨q0, w2, e, ⟨h1, fun j hj => h2 j (by omega) (by omega) (by omega) (by omega)⟩, hz.next h1 h2 e6 e7 e8 e9, h2 10 (by omega) (by omega) (by omega) (by omega)⟩
theorem cZ_steps {l : Launch} {E : ic_E} {w : ic_w} {f : Nat → Nat} {n a : Nat} (hz : Tz w f n a) {x y z : Nat} (hx : x < 2 ^ 32) (hy : y < 2 ^ 32) (hz_ : z < 2 ^ 32) (h10 : w 114 10 = 0) (h7 : w 115 7 ≤ 140) : ic_C l E mX12_steps 1 0 0 False [ic_pt E 114, .int (nI x), .int (nI y), .int (nI z)] SHs (hn w) SHs (ic_qv (fun h_ => ∃ w2, h_ = hn w2 ∧ Hw w w2 ∧ w2 114 11 = w 114 11 ∧ Tz w2 f n a ∧ w2 114 10 = 0 ∧ w2 115 = tk_s1 (w 115) (x, y, z))) := by
  refine ic_C.post (cM_steps hx hy hz_ (by omega) h7) (fun r h' q => ?_)
  obtain ⟨q0, q1⟩ := q
  rw [if_pos h10] at q1
  refine ⟨q0, tk_st w x y z, q1, ⟨fun b h1 h2 => tk_st_f w x y z h2, fun j _ => by rw [tk_st_f w x y z (by decide)], fun j hj => by rw [tk_st_115]; unfold tk_s1 fu; rw [if_neg (by omega), if_neg (by omega), if_neg (by omega), if_neg (by omega)]⟩, by rw [tk_st_f w x y z (by decide)], hz.of (fun j _ _ => by rw [tk_st_f w x y z (by decide)]) (tk_st_f w x y z (by decide)), by rw [tk_st_f w x y z (by decide)]; exact h10, tk_st_115 w x y z⟩
set_option maxHeartbeats 4000000 in
set_option maxRecDepth 100000 in
theorem cZ_stepsW {l : Launch} {E : ic_E} {w : ic_w} {x y z : Nat} (h10 : w 114 10 = 1) : ic_C l E mX12_steps 1 0 0 False [ic_pt E 114, .int (nI x), .int (nI y), .int (nI z)] SHs (hn w) SHs (ic_qv (fun h_ => ∃ w2, h_ = hn w2 ∧ w2 = w)) := by
  refine ic_intro (by decide +kernel) (Nat.le_of_ble_eq_true rfl) ?_
  show xx l E _ _ 0 [(0, ic_pt E 114), (1, .int (nI x)), (2, .int (nI y)), (3, .int (nI z))] _ _ _
  refine xx_aload_nP (pc := 0) dX12_steps_0 0 rfl rfl ?_
  refine xx_getN (pc := 1) dX12_steps_1 sh_114 fX12_180_12 rfl ?_
  refine xx_if_neN (pc := 4) 79 dX12_steps_4 rfl (by omega) (fun c1 => ?_) (fun c1 => by exfalso; omega)
  exact xx_vret (pc := 79) dX12_steps_79 rfl (Nat.le_refl _) (Nat.le_refl _) (ic_rv0 ⟨w, rfl, rfl⟩)

