/-! the class: change, rider, anew, state, riderOf, train, lot -/
theorem mo_set_tb (P : Nat → Bool) (n i : Nat) : (mo_set P n).testBit i = (decide (i < n) && P i) := by
  rw [Nat.testBit_eq_decide_div_mod_eq, mo_set_bit]
  by_cases h : i < n ∧ P i = true
  · rw [if_pos h]
    simp [h.1, h.2]
  · rw [if_neg h]
    by_cases z : i < n
    · have : P i = false := by
        cases y : P i
        · rfl
        · exact absurd ⟨z, y⟩ h
      simp [this]
    · simp [z]
theorem mo_outs_v {s : Nat → Nat} {k v : Nat} (hk : k < s 0) (h6 : s 0 ≤ 6) (hv : v ≤ 1) : mo_outs (fu s (12 + 6 * k) v) = (mo_outs s &&& ((1 * 2 ^ k) ^^^ 4294967295)) ||| (v * 2 ^ k) := by
  have e4 : ∀ q, it (fu s (12 + 6 * k) v) q 4 = if q = k then v else it s q 4 := by
    intro q
    by_cases z : q = k
    · rw [if_pos z, z]
      unfold it
      rw [show 8 + 6 * k + 4 = 12 + 6 * k by omega, fu_s]
    · rw [if_neg z]
      exact it_fu (by omega)
  apply Nat.eq_of_testBit_eq
  intro i
  unfold mo_outs
  rw [fu_n _ (by omega), mo_set_tb, Nat.testBit_or, Nat.testBit_and, Nat.testBit_xor, mo_set_tb, Nat.one_mul, Nat.testBit_two_pow, show (4294967295 : Nat) = 2 ^ 32 - 1 from rfl, Nat.testBit_two_pow_sub_one, e4]
  rcases (show v = 0 ∨ v = 1 by omega) with rfl | rfl
  · rw [Nat.zero_mul, Nat.zero_testBit]
    by_cases z : i = k
    · subst z
      simp [show i < 32 by omega]
    · by_cases y : i < s 0
      · simp [z, y, show i < 32 by omega, show ¬ k = i by omega]
      · simp [y]
  · rw [Nat.one_mul, Nat.testBit_two_pow]
    by_cases z : i = k
    · subst z
      simp [hk]
    · by_cases y : i < s 0
      · simp [z, y, show i < 32 by omega, show ¬ k = i by omega]
      · simp [y, show ¬ k = i by omega]
theorem Cw.outs {w : ic_w} {s : Nat → Nat} {k v b : Nat} (h : Cw w s) (hI : In s) (hk : k < s 0) (hb : b = mo_outs (fu s (12 + 6 * k) v)) : Cw (wu w 46 1 b) (fu s (12 + 6 * k) v) := by
  have hn0 := hI.n
  have h5 := hI.2.2.1
  have e : ∀ j, j ≠ 12 + 6 * k → fu s (12 + 6 * k) v j = s j := fun j hj => fu_n _ hj
  have e0 := e 0 (by omega)
  refine Cw.mk (fun j a q hl => ?_) (by rw [wu_s, hb]) (fun q hq => ?_) ((h.1.r.of (by rw [wu_o _ _ _ _ (by omega)]) (fun b h1 h2 => wu_row _ _ _ (by omega))).to (fun q hq => e _ (by omega)) h5.1) ⟨by rw [wu_o _ _ _ _ (by omega), e 6 (by omega)]; exact h.1.q.1, fun i h6 hi q hq => ?_⟩
  · rw [e0] at hl
    refine Eq.trans ?_ (Eq.trans (h.l hl) ?_)
    · refine hl.by (P := fun j a q => wu w 46 1 b a q = w a q) ?_ ?_ ?_ ?_ ?_ ?_ ?_ ?_ ?_ ?_ ?_ ?_ ?_ <;> (try intro r hr) <;> exact if_neg (by omega)
    · refine hl.by (P := fun j a q => s j = fu s (12 + 6 * k) v j) ?_ ?_ ?_ ?_ ?_ ?_ ?_ ?_ ?_ ?_ ?_ ?_ ?_ <;> (try intro r hr) <;> exact (e _ (by omega)).symm
  · rw [e0] at hq
    rw [it_fu (by omega)]
    exact h.1.k1 hq
  · rw [e 6 (by omega)] at hi
    rw [wu_o _ _ _ _ (by omega), e _ (by omega)]
    exact h.1.q.2 i h6 hi q hq
theorem Cw.add {w : ic_w} {s : Nat → Nat} {kind d ws hm : Nat} (h : Cw w s) (hI : In s) (h6 : s 0 < 6) (hk : 1 ≤ kind) : Cw (wu (wu (wu (wu (wu (wu w 43 (s 0) kind) 44 (s 0) ws) 45 (s 0) hm) 47 (s 0) d) 48 (s 0) hm) 39 10 (s 0 + 1)) (mo_new s kind d ws hm) := by
  have h5 := hI.2.2.1
  have e : ∀ j, j ≠ 0 → (j < 8 + 6 * s 0 ∨ 14 + 6 * s 0 ≤ j) → mo_new s kind d ws hm j = s j := fun j h1 h2 => by
    unfold mo_new
    rw [fu_n _ h1, fu_n _ (by omega), fu_n _ (by omega), fu_n _ (by omega), fu_n _ (by omega), fu_n _ (by omega), fu_n _ (by omega)]
  have e0 : mo_new s kind d ws hm 0 = s 0 + 1 := fu_s _ _ _
  have en : ∀ j, 8 + 6 * s 0 ≤ j → j < 14 + 6 * s 0 → mo_new s kind d ws hm j = if j = 8 + 6 * s 0 then kind else if j = 9 + 6 * s 0 then d else if j = 10 + 6 * s 0 then ws else if j = 12 + 6 * s 0 then 0 else hm := fun j h1 h2 => by
    unfold mo_new fu
    repeat' split
    all_goals first | rfl | omega
  have f : ∀ a q, (a = 39 ∧ q ≠ 10) ∨ (a ≠ 39 ∧ a ≠ 43 ∧ a ≠ 44 ∧ a ≠ 45 ∧ a ≠ 47 ∧ a ≠ 48) ∨ (a ≠ 39 ∧ q ≠ s 0) → (wu (wu (wu (wu (wu (wu w 43 (s 0) kind) 44 (s 0) ws) 45 (s 0) hm) 47 (s 0) d) 48 (s 0) hm) 39 10 (s 0 + 1)) a q = w a q := fun a q hq => by
    unfold wu
    rw [if_neg (by omega), if_neg (by omega), if_neg (by omega), if_neg (by omega), if_neg (by omega), if_neg (by omega)]
  have fr : ∀ a, (a ≠ 39 ∧ a ≠ 43 ∧ a ≠ 44 ∧ a ≠ 45 ∧ a ≠ 47 ∧ a ≠ 48) → (wu (wu (wu (wu (wu (wu w 43 (s 0) kind) 44 (s 0) ws) 45 (s 0) hm) 47 (s 0) d) 48 (s 0) hm) 39 10 (s 0 + 1)) a = w a := fun a ha => funext fun q => f a q (by omega)
  refine Cw.mk (fun j a q hl => ?_) ?_ (fun q hq => ?_) ((h.1.r.of (by rw [fr _ (by omega)]) (fun b h1 h2 => fr _ (by omega))).to (fun q hq => e _ (by omega) (by omega)) h5.1) ⟨by rw [fr _ (by omega), e 6 (by omega) (by omega)]; exact h.1.q.1, fun i h6 hi q hq => ?_⟩
  · rw [e0] at hl
    have nw : ∀ j a, (8 + 6 * s 0 ≤ j ∧ j < 14 + 6 * s 0) → (a = 43 ∧ j = 8 + 6 * s 0 ∨ a = 47 ∧ j = 9 + 6 * s 0 ∨ a = 44 ∧ j = 10 + 6 * s 0 ∨ a = 45 ∧ j = 11 + 6 * s 0 ∨ a = 48 ∧ j = 13 + 6 * s 0) → (wu (wu (wu (wu (wu (wu w 43 (s 0) kind) 44 (s 0) ws) 45 (s 0) hm) 47 (s 0) d) 48 (s 0) hm) 39 10 (s 0 + 1)) a (s 0) = mo_new s kind d ws hm j := fun j a hj ha => by
      rw [en j hj.1 hj.2]
      unfold wu
      rcases ha with ⟨rfl, rfl⟩ | ⟨rfl, rfl⟩ | ⟨rfl, rfl⟩ | ⟨rfl, rfl⟩ | ⟨rfl, rfl⟩ <;> repeat' split
      all_goals first | rfl | omega
    have old : ∀ j a q, Lc (s 0) j a q → ((a = 39 ∧ q ≠ 10) ∨ (a ≠ 39 ∧ a ≠ 43 ∧ a ≠ 44 ∧ a ≠ 45 ∧ a ≠ 47 ∧ a ≠ 48) ∨ (a ≠ 39 ∧ q ≠ s 0)) → (j ≠ 0 ∧ (j < 8 + 6 * s 0 ∨ 14 + 6 * s 0 ≤ j)) → (wu (wu (wu (wu (wu (wu w 43 (s 0) kind) 44 (s 0) ws) 45 (s 0) hm) 47 (s 0) d) 48 (s 0) hm) 39 10 (s 0 + 1)) a q = mo_new s kind d ws hm j := fun j a q h1 h2 h3 => by
      rw [f a q h2, h.l h1, e j h3.1 h3.2]
    have it_ : ∀ q, q < s 0 + 1 → ∀ j a, (∀ k, k < s 0 → k = q → Lc (s 0) j a k) → (8 + 6 * q ≤ j ∧ j < 14 + 6 * q) → (a = 43 ∧ j = 8 + 6 * q ∨ a = 47 ∧ j = 9 + 6 * q ∨ a = 44 ∧ j = 10 + 6 * q ∨ a = 45 ∧ j = 11 + 6 * q ∨ a = 48 ∧ j = 13 + 6 * q) → (wu (wu (wu (wu (wu (wu w 43 (s 0) kind) 44 (s 0) ws) 45 (s 0) hm) 47 (s 0) d) 48 (s 0) hm) 39 10 (s 0 + 1)) a q = mo_new s kind d ws hm j := fun q hq j a h1 h2 h3 => by
      by_cases z : q = s 0
      · subst z
        exact nw j a h2 h3
      · exact old j a q (h1 q (by omega) rfl) (by omega) (by omega)
    refine hl.by (P := fun j a q => (wu (wu (wu (wu (wu (wu w 43 (s 0) kind) 44 (s 0) ws) 45 (s 0) hm) 47 (s 0) d) 48 (s 0) hm) 39 10 (s 0 + 1)) a q = mo_new s kind d ws hm j) (by rw [wu_s, e0]) (old _ _ _ Lc_e (by omega) (by omega)) (old _ _ _ Lc_s (by omega) (by omega)) (old _ _ _ Lc_z (by omega) (by omega)) (old _ _ _ Lc_t (by omega) (by omega)) (fun k hk => it_ k hk _ _ (fun k2 h2 e2 => e2 ▸ Lc_0 h2) (by omega) (by omega)) (fun k hk => it_ k hk _ _ (fun k2 h2 e2 => e2 ▸ Lc_1 h2) (by omega) (by omega)) (fun k hk => it_ k hk _ _ (fun k2 h2 e2 => e2 ▸ Lc_2 h2) (by omega) (by omega)) (fun k hk => it_ k hk _ _ (fun k2 h2 e2 => e2 ▸ Lc_3 h2) (by omega) (by omega)) (fun k hk => it_ k hk _ _ (fun k2 h2 e2 => e2 ▸ Lc_5 h2) (by omega) (by omega)) (fun k hk => old _ _ _ (Lc_g hk) (by omega) (by omega)) (fun k hk => old _ _ _ (Lc_p hk) (by omega) (by omega)) (fun k hk => old _ _ _ (Lc_c hk) (by omega) (by omega))
  · rw [f 46 1 (by omega), h.2.1.o]
    unfold mo_outs
    rw [e0]
    have : it (mo_new s kind d ws hm) (s 0) 4 = 0 := by
      unfold it
      rw [en _ (by omega) (by omega), if_neg (by omega), if_neg (by omega), if_neg (by omega), if_pos (by omega)]
    rw [mo_set_f (by simp [this])]
    refine mo_set_congr _ (fun q hq => ?_)
    have : it (mo_new s kind d ws hm) q 4 = it s q 4 := e _ (by omega) (by omega)
    rw [this]
  · rw [e0] at hq
    by_cases z : q = s 0
    · have : it (mo_new s kind d ws hm) q 0 = kind := by
        unfold it
        rw [en _ (by omega) (by omega), if_pos (by omega)]
      omega
    · have : it (mo_new s kind d ws hm) q 0 = it s q 0 := e _ (by omega) (by omega)
      rw [this]
      exact h.1.k1 (by omega)
  · rw [e 6 (by omega) (by omega)] at hi
    rw [fr _ (by omega), e _ (by omega) (by omega)]
    exact h.1.q.2 i h6 hi q hq
theorem Cw.anew {w u : ic_w} {s : Nat → Nat} (h : Cw w s) (hI : In s) (h0 : u 46 0 = 0) (h1 : u 46 1 = 0) (h2 : ∀ q, q ≠ 12 → u 39 q = w 39 q) (h3 : u 39 12 = 0) (h4 : ∀ k, k < s 0 → u 48 k = w 45 k) (hf : ∀ a, a ≠ 39 → a ≠ 46 → a ≠ 48 → u a = w a) : Cw u (mo_anew s) := by
  have hn0 := hI.n
  have h5 := hI.2.2.1
  have e : ∀ j, j ≠ 1 → j ≠ 3 → (∀ q, q < s 0 → j ≠ 12 + 6 * q ∧ j ≠ 13 + 6 * q) → mo_anew s j = s j := fun j z1 z3 z4 => by
    unfold mo_anew
    rw [fu_n _ z1, fu_n _ z3]
    unfold mo_an
    by_cases z : 8 ≤ j ∧ j < 8 + 6 * s 0
    · have := z4 ((j - 8) / 6) (by omega)
      rw [if_neg (by omega), if_neg (by omega)]
    · rw [if_neg (by omega), if_neg (by omega)]
  have e0 : mo_anew s 0 = s 0 := e 0 (by omega) (by omega) (fun q _ => by omega)
  have e5 : ∀ q, q < s 0 → mo_anew s (13 + 6 * q) = it s q 3 := fun q hq => by
    unfold mo_anew
    rw [fu_n _ (by omega), fu_n _ (by omega)]
    unfold mo_an it
    rw [if_neg (by omega), if_pos (by omega)]
    congr 1
    omega
  have e4 : ∀ q, q < s 0 → it (mo_anew s) q 4 = 0 := fun q hq => by
    unfold it mo_anew
    rw [fu_n _ (by omega), fu_n _ (by omega)]
    unfold mo_an
    rw [if_pos (by omega)]
  refine Cw.mk (fun j a q hl => ?_) ?_ (fun q hq => ?_) ((h.1.r.of (by rw [hf _ (by omega) (by omega) (by omega)]) (fun b h1 h2 => hf _ (by omega) (by omega) (by omega))).to (fun q hq => e _ (by omega) (by omega) (fun r hr => by omega)) h5.1) ⟨by rw [hf _ (by omega) (by omega) (by omega), e 6 (by omega) (by omega) (fun r hr => by omega)]; exact h.1.q.1, fun i h6 hi q hq => ?_⟩
  · rw [e0] at hl
    have ok : ∀ j a q, Lc (s 0) j a q → (a ≠ 39 ∧ a ≠ 46 ∧ a ≠ 48 ∨ a = 39 ∧ q ≠ 12) → (j ≠ 1 ∧ j ≠ 3) → (∀ q, q < s 0 → j ≠ 12 + 6 * q ∧ j ≠ 13 + 6 * q) → u a q = mo_anew s j := fun j a q hl z1 z2 z3 => by
      rw [e j z2.1 z2.2 z3, ← h.l hl]
      rcases z1 with z1 | ⟨rfl, z1⟩
      · rw [hf a z1.1 z1.2.1 z1.2.2]
      · exact h2 q z1
    refine hl.by (P := fun j a q => u a q = mo_anew s j) (ok _ _ _ Lc_n (by omega) (by omega) (fun _ _ => by omega)) (ok _ _ _ Lc_e (by omega) (by omega) (fun _ _ => by omega)) (by rw [h3]; rfl) (ok _ _ _ Lc_z (by omega) (by omega) (fun _ _ => by omega)) (by rw [h0]; rfl) (fun k hk => ok _ _ _ (Lc_0 hk) (by omega) (by omega) (fun _ _ => by omega)) (fun k hk => ok _ _ _ (Lc_1 hk) (by omega) (by omega) (fun _ _ => by omega)) (fun k hk => ok _ _ _ (Lc_2 hk) (by omega) (by omega) (fun _ _ => by omega)) (fun k hk => ok _ _ _ (Lc_3 hk) (by omega) (by omega) (fun _ _ => by omega)) (fun k hk => by rw [h4 k hk, e5 k hk]; exact h.1.hm hk) (fun k hk => ok _ _ _ (Lc_g hk) (by omega) (by omega) (fun _ _ => by omega)) (fun k hk => ok _ _ _ (Lc_p hk) (by omega) (by omega) (fun _ _ => by omega)) (fun k hk => ok _ _ _ (Lc_c hk) (by omega) (by omega) (fun _ _ => by omega))
  · rw [h1]
    unfold mo_outs
    rw [e0]
    have : ∀ n, n ≤ s 0 → mo_set (fun q => decide (it (mo_anew s) q 4 = 1)) n = 0 := by
      intro n
      induction n with
      | zero => intro _; rfl
      | succ n ih => intro hn; rw [mo_set_f (by simp [e4 n (by omega)])]; exact ih (by omega)
    exact (this _ (Nat.le_refl _)).symm
  · rw [e0] at hq
    have : it (mo_anew s) q 0 = it s q 0 := e _ (by omega) (by omega) (fun _ _ => by omega)
    rw [this]
    exact h.1.k1 hq
  · rw [e 6 (by omega) (by omega) (fun _ _ => by omega)] at hi
    rw [hf _ (by omega) (by omega) (by omega), e _ (by omega) (by omega) (fun _ _ => by omega)]
    exact h.1.q.2 i h6 hi q hq

set_option maxHeartbeats 4000000 in
set_option maxRecDepth 100000 in
theorem cC_put {l : Launch} {E : ic_E} {w : ic_w} {k a v : Nat} {s : Nat → Nat} (hC : Cw w s) (hIn : In s) (hk : k < s 0) (ha : 1 ≤ a ∧ a ≤ 5) (hv : v ≤ mo_top a) : ic_C l E mX5_put 1 0 0 False [ic_pt E 39, .int (nI k), .int (nI a), .int (nI v)] SHs (hn w) SHs (ic_qv (fun h_ => ∃ w2, h_ = hn w2 ∧ Fn w w2 ∧ Cw w2 (fu s (8 + 6 * k + a) v))) := by
  refine ic_intro (by decide +kernel) (Nat.le_of_ble_eq_true rfl) ?_
  show xx l E _ _ 0 [(0, ic_pt E 39), (1, .int (nI k)), (2, .int (nI a)), (3, .int (nI v))] _ _ _
  have hN := hC.1
  have hm := hC.2.1
  have n5_w := hC.2.2.1
  have n6_w := hC.2.2.2
  have hn0 := hIn.n
  have htt := hIn.t
  have hcr := hIn.cr (s 1)
  have n1_w : w 39 10 = s 0 := hN.n
  have n2_w : w 39 11 = s 2 := hN.e
  have n3_w : w 46 0 = s 1 := hm.t
  have n4_w : w 46 1 = mo_outs s := hm.o
  have hp2 := mo_p2 (n := k) (by omega)
  have hv1 : a = 4 → v ≤ 1 := fun z => by rw [z] at hv; exact hv
  rcases (show a = 1 ∨ a = 2 ∨ a = 3 ∨ a = 4 ∨ a = 5 by omega) with rfl | rfl | rfl | rfl | rfl
  · refine xx_iload_n (pc := 0) dX5_put_0 2 rfl rfl ?_
    refine xx_tin (pc := 1) 36 dX5_put_1 (by decide) (by decide) rfl rfl ?_
    refine xx_aload_nP (pc := 36) dX5_put_36 0 rfl rfl ?_
    refine xx_getR (pc := 37) 46 dX5_put_37 sh_39 fX5_33_5 rfl rfl (by decide) ?_
    refine xx_getR (pc := 40) 47 dX5_put_40 sh_46 fX5_90_4 rfl rfl (by decide) ?_
    refine xx_iload_n (pc := 43) dX5_put_43 1 rfl rfl ?_
    refine xx_iload_n (pc := 44) dX5_put_44 3 rfl rfl ?_
    refine xx_iastN (pc := 45) dX5_put_45 sh_47 (by omega) (by decide) ?_
    refine xx_nw (fun w1 ew1 => ?_)
    refine xx_goto (pc := 46) 109 dX5_put_46 rfl ?_
    exact xx_vret (pc := 109) dX5_put_109 rfl (Nat.le_refl _) (Nat.le_refl _) (ic_rv0 ⟨w1, rfl, fun a ha => by rw [ew1, wu_row _ _ _ (by omega)], by rw [ew1, show 8 + 6 * k + 1 = 9 + 6 * k by omega]; exact hC.up hIn (Lc_1 hk) (by omega) (by omega)⟩)
  · refine xx_iload_n (pc := 0) dX5_put_0 2 rfl rfl ?_
    refine xx_tin (pc := 1) 49 dX5_put_1 (by decide) (by decide) rfl rfl ?_
    refine xx_aload_nP (pc := 49) dX5_put_49 0 rfl rfl ?_
    refine xx_getR (pc := 50) 44 dX5_put_50 sh_39 fX5_24_5 rfl rfl (by decide) ?_
    refine xx_iload_n (pc := 53) dX5_put_53 1 rfl rfl ?_
    refine xx_iload_n (pc := 54) dX5_put_54 3 rfl rfl ?_
    refine xx_iastN (pc := 55) dX5_put_55 sh_44 (by omega) (by decide) ?_
    refine xx_nw (fun w1 ew1 => ?_)
    refine xx_goto (pc := 56) 109 dX5_put_56 rfl ?_
    exact xx_vret (pc := 109) dX5_put_109 rfl (Nat.le_refl _) (Nat.le_refl _) (ic_rv0 ⟨w1, rfl, fun a ha => by rw [ew1, wu_row _ _ _ (by omega)], by rw [ew1, show 8 + 6 * k + 2 = 10 + 6 * k by omega]; exact hC.up hIn (Lc_2 hk) (by omega) (by omega)⟩)
  · refine xx_iload_n (pc := 0) dX5_put_0 2 rfl rfl ?_
    refine xx_tin (pc := 1) 59 dX5_put_1 (by decide) (by decide) rfl rfl ?_
    refine xx_aload_nP (pc := 59) dX5_put_59 0 rfl rfl ?_
    refine xx_getR (pc := 60) 45 dX5_put_60 sh_39 fX5_27_5 rfl rfl (by decide) ?_
    refine xx_iload_n (pc := 63) dX5_put_63 1 rfl rfl ?_
    refine xx_iload_n (pc := 64) dX5_put_64 3 rfl rfl ?_
    refine xx_iastN (pc := 65) dX5_put_65 sh_45 (by omega) (by decide) ?_
    refine xx_nw (fun w1 ew1 => ?_)
    refine xx_goto (pc := 66) 109 dX5_put_66 rfl ?_
    exact xx_vret (pc := 109) dX5_put_109 rfl (Nat.le_refl _) (Nat.le_refl _) (ic_rv0 ⟨w1, rfl, fun a ha => by rw [ew1, wu_row _ _ _ (by omega)], by rw [ew1, show 8 + 6 * k + 3 = 11 + 6 * k by omega]; exact hC.up hIn (Lc_3 hk) (by omega) (by omega)⟩)
  · refine xx_iload_n (pc := 0) dX5_put_0 2 rfl rfl ?_
    refine xx_tin (pc := 1) 69 dX5_put_1 (by decide) (by decide) rfl rfl ?_
    refine xx_aload_nP (pc := 69) dX5_put_69 0 rfl rfl ?_
    refine xx_getR (pc := 70) 46 dX5_put_70 sh_39 fX5_33_5 rfl rfl (by decide) ?_
    refine xx_aload_nP (pc := 73) dX5_put_73 0 rfl rfl ?_
    refine xx_getR (pc := 74) 46 dX5_put_74 sh_39 fX5_33_5 rfl rfl (by decide) ?_
    refine xx_getN (pc := 77) dX5_put_77 sh_46 fX5_96_4 rfl ?_
    refine xx_iconst (pc := 80) dX5_put_80 cc_iconst_1 ?_
    refine xx_iload_n (pc := 81) dX5_put_81 1 rfl rfl ?_
    refine xx_ishlN (pc := 82) dX5_put_82 (by omega) (by omega) ?_
    refine xx_iconst (pc := 83) dX5_put_83 cc_iconst_m1 ?_
    refine xx_ixorN (pc := 84) dX5_put_84 ?_
    refine xx_iandN (pc := 85) dX5_put_85 ?_
    refine xx_iload_n (pc := 86) dX5_put_86 3 rfl rfl ?_
    refine xx_iload_n (pc := 87) dX5_put_87 1 rfl rfl ?_
    refine xx_ishlN (pc := 88) dX5_put_88 (by omega) (by have hv1 := hv1 rfl; rcases (show v = 0 ∨ v = 1 by omega) with z | z <;> rw [z] <;> omega) ?_
    refine xx_iorN (pc := 89) dX5_put_89 ?_
    refine xx_putN (pc := 90) dX5_put_90 sh_46 fX5_96_4 rfl rfl ?_
    refine xx_nw (fun w1 ew1 => ?_)
    have hv1 := hv1 rfl
    refine xx_goto (pc := 93) 109 dX5_put_93 rfl ?_
    exact xx_vret (pc := 109) dX5_put_109 rfl (Nat.le_refl _) (Nat.le_refl _) (ic_rv0 ⟨w1, rfl, fun a ha => by rw [ew1, wu_row _ _ _ (by omega)], by rw [ew1, show 8 + 6 * k + 4 = 12 + 6 * k by omega]; exact hC.outs hIn hk (by rw [mo_outs_v hk hn0 hv1, n4_w])⟩)
  · refine xx_iload_n (pc := 0) dX5_put_0 2 rfl rfl ?_
    refine xx_tin (pc := 1) 96 dX5_put_1 (by decide) (by decide) rfl rfl ?_
    refine xx_aload_nP (pc := 96) dX5_put_96 0 rfl rfl ?_
    refine xx_getR (pc := 97) 46 dX5_put_97 sh_39 fX5_33_5 rfl rfl (by decide) ?_
    refine xx_getR (pc := 100) 48 dX5_put_100 sh_46 fX5_93_4 rfl rfl (by decide) ?_
    refine xx_iload_n (pc := 103) dX5_put_103 1 rfl rfl ?_
    refine xx_iload_n (pc := 104) dX5_put_104 3 rfl rfl ?_
    refine xx_iastN (pc := 105) dX5_put_105 sh_48 (by omega) (by decide) ?_
    refine xx_nw (fun w1 ew1 => ?_)
    refine xx_goto (pc := 106) 109 dX5_put_106 rfl ?_
    exact xx_vret (pc := 109) dX5_put_109 rfl (Nat.le_refl _) (Nat.le_refl _) (ic_rv0 ⟨w1, rfl, fun a ha => by rw [ew1, wu_row _ _ _ (by omega)], by rw [ew1, show 8 + 6 * k + 5 = 13 + 6 * k by omega]; exact hC.up hIn (Lc_5 hk) (by omega) (by omega)⟩)

set_option maxHeartbeats 4000000 in
set_option maxRecDepth 100000 in
theorem cC_riderOf {l : Launch} {E : ic_E} {w : ic_w} {o : Nat} (ho_ : o < 2 ^ 32) {k : Nat} (hk_ : k < 2 ^ 32) {s : Nat → Nat} (hC : Cw w s) (hIn : In s) (hRu : Ru s) : ic_C l E mX11_riderOf 6 0 0 False [ic_pt E 0, .int (nI o), .int (nI k)] SHs (hn w) SHs (ic_qi (fun v_ h_ => v_ = nI (if o < s 0 ∧ k ≤ 10 then mo_ask s o k else 4294967295) ∧ ∃ w2, h_ = hn w2 ∧ Fp w w2)) := by
  refine ic_intro (by decide +kernel) (Nat.le_of_ble_eq_true rfl) ?_
  show xx l E _ _ 0 [(0, ic_pt E 0), (1, .int (nI o)), (2, .int (nI k))] _ _ _
  have hN := hC.1
  have hm := hC.2.1
  have n5_w := hC.2.2.1
  have n6_w := hC.2.2.2
  have hn0 := hIn.n
  have htt := hIn.t
  have hcr := hIn.cr (s 1)
  have n1_w : w 39 10 = s 0 := hN.n
  have n2_w : w 39 11 = s 2 := hN.e
  have n3_w : w 46 0 = s 1 := hm.t
  have n4_w : w 46 1 = mo_outs s := hm.o
  refine xx_aload_nP (pc := 0) dX11_riderOf_0 0 rfl rfl ?_
  refine xx_iload_n (pc := 1) dX11_riderOf_1 1 rfl rfl ?_
  refine xx_callV0 (pc := 2) (st := []) sh_0 (cC_isRider (w := w) (k := o) (by omega) (by omega)) kX11_isRider vX11_109_11 dX11_riderOf_2 rfl rfl (Nat.le_of_ble_eq_true rfl) ⟨Nat.le_of_ble_eq_true rfl, Nat.le_of_ble_eq_true rfl⟩ ⟨Nat.zero_le _, Nat.zero_le _⟩ (ic_ke ?_)
  refine xx_if_neB (pc := 5) 10 dX11_riderOf_5 rfl (fun c1 => ?_) (fun c1 => ?_)
  · have ho : o < s 0 := by omega
    have ho5 := hIn.i (o := o) (by omega)
    refine xx_aload_nP (pc := 10) dX11_riderOf_10 0 rfl rfl ?_
    refine xx_getR (pc := 11) 39 dX11_riderOf_11 sh_0 fX11_74_11 rfl rfl (by decide) ?_
    refine xx_getR (pc := 14) 46 dX11_riderOf_14 sh_39 fX11_112_5 rfl rfl (by decide) ?_
    refine xx_astore_n (L' := [(3, ic_pt E 46), (0, ic_pt E 0), (1, .int (nI o)), (2, .int (nI k))]) (pc := 17) dX11_riderOf_17 rfl (Nat.le_of_ble_eq_true rfl) rfl ?_
    refine xx_iload_n (pc := 18) dX11_riderOf_18 3 rfl rfl ?_
    rcases (show k = 0 ∨ k = 1 ∨ k = 2 ∨ k = 3 ∨ k = 4 ∨ k = 5 ∨ k = 6 ∨ k = 7 ∨ k = 8 ∨ k = 9 ∨ k = 10 ∨ 11 ≤ k by omega) with rfl | rfl | rfl | rfl | rfl | rfl | rfl | rfl | rfl | rfl | rfl | hbig
    · refine xx_tin (pc := 19) 76 dX11_riderOf_19 (by decide) (by decide) rfl rfl ?_
      refine xx_aload_nP (pc := 76) dX11_riderOf_76 1 rfl rfl ?_
      refine xx_getR (pc := 77) 39 dX11_riderOf_77 sh_0 fX11_74_11 rfl rfl (by decide) ?_
      refine xx_getR (pc := 80) 43 dX11_riderOf_80 sh_39 fX11_115_5 rfl rfl (by decide) ?_
      refine xx_iload_n (pc := 83) dX11_riderOf_83 2 rfl rfl ?_
      refine xx_ialdN (pc := 84) dX11_riderOf_84 sh_43 (by omega) (by decide) ?_
      exact xx_iret (pc := 85) dX11_riderOf_85 rfl (rfl) (Nat.le_refl _) (Nat.le_refl _) (ic_ri ⟨by rw [if_pos (by omega)]; exact congrArg nI (hN.kd ho), w, rfl, Fp.rf w⟩)
    · refine xx_tin (pc := 19) 86 dX11_riderOf_19 (by decide) (by decide) rfl rfl ?_
      refine xx_aload_nP (pc := 86) dX11_riderOf_86 0 rfl rfl ?_
      refine xx_getR (pc := 87) 47 dX11_riderOf_87 sh_46 fX11_118_4 rfl rfl (by decide) ?_
      refine xx_iload_n (pc := 90) dX11_riderOf_90 2 rfl rfl ?_
      refine xx_ialdN (pc := 91) dX11_riderOf_91 sh_47 (by omega) (by decide) ?_
      exact xx_iret (pc := 92) dX11_riderOf_92 rfl (rfl) (Nat.le_refl _) (Nat.le_refl _) (ic_ri ⟨by rw [if_pos (by omega)]; exact congrArg nI (hm.d ho), w, rfl, Fp.rf w⟩)
    · refine xx_tin (pc := 19) 93 dX11_riderOf_19 (by decide) (by decide) rfl rfl ?_
      refine xx_aload_nP (pc := 93) dX11_riderOf_93 1 rfl rfl ?_
      refine xx_getR (pc := 94) 39 dX11_riderOf_94 sh_0 fX11_74_11 rfl rfl (by decide) ?_
      refine xx_getR (pc := 97) 44 dX11_riderOf_97 sh_39 fX11_121_5 rfl rfl (by decide) ?_
      refine xx_iload_n (pc := 100) dX11_riderOf_100 2 rfl rfl ?_
      refine xx_ialdN (pc := 101) dX11_riderOf_101 sh_44 (by omega) (by decide) ?_
      exact xx_iret (pc := 102) dX11_riderOf_102 rfl (rfl) (Nat.le_refl _) (Nat.le_refl _) (ic_ri ⟨by rw [if_pos (by omega)]; exact congrArg nI (hN.ws ho), w, rfl, Fp.rf w⟩)
    · refine xx_tin (pc := 19) 103 dX11_riderOf_19 (by decide) (by decide) rfl rfl ?_
      refine xx_aload_nP (pc := 103) dX11_riderOf_103 1 rfl rfl ?_
      refine xx_getR (pc := 104) 39 dX11_riderOf_104 sh_0 fX11_74_11 rfl rfl (by decide) ?_
      refine xx_getR (pc := 107) 45 dX11_riderOf_107 sh_39 fX11_124_5 rfl rfl (by decide) ?_
      refine xx_iload_n (pc := 110) dX11_riderOf_110 2 rfl rfl ?_
      refine xx_ialdN (pc := 111) dX11_riderOf_111 sh_45 (by omega) (by decide) ?_
      exact xx_iret (pc := 112) dX11_riderOf_112 rfl (rfl) (Nat.le_refl _) (Nat.le_refl _) (ic_ri ⟨by rw [if_pos (by omega)]; exact congrArg nI (hN.hm ho), w, rfl, Fp.rf w⟩)
    · refine xx_tin (pc := 19) 113 dX11_riderOf_19 (by decide) (by decide) rfl rfl ?_
      refine xx_aload_nP (pc := 113) dX11_riderOf_113 0 rfl rfl ?_
      refine xx_iload_n (pc := 114) dX11_riderOf_114 2 rfl rfl ?_
      refine xx_callV0 (pc := 115) (st := []) sh_46 (cC_isOut (w := w) (m := 46) (s := s) (k := o) Mo_46 hm (by omega) hIn) kX4_isOut vX11_127_4 dX11_riderOf_115 rfl rfl (Nat.le_of_ble_eq_true rfl) ⟨Nat.le_of_ble_eq_true rfl, Nat.le_of_ble_eq_true rfl⟩ ⟨Nat.zero_le _, Nat.zero_le _⟩ (ic_ke ?_)
      refine xx_if_eqB (pc := 118) 125 dX11_riderOf_118 rfl (fun c2 => ?_) (fun c2 => ?_)
      · refine xx_iconst (pc := 125) dX11_riderOf_125 cc_iconst_0 ?_
        exact xx_iret (pc := 126) dX11_riderOf_126 rfl (rfl) (Nat.le_refl _) (Nat.le_refl _) (ic_ri ⟨by rw [if_pos (by omega)]; refine congrArg nI ?_; show _ = it s o 4; omega, w, rfl, Fp.rf w⟩)
      · refine xx_iconst (pc := 121) dX11_riderOf_121 cc_iconst_1 ?_
        refine xx_goto (pc := 122) 126 dX11_riderOf_122 rfl ?_
        exact xx_iret (pc := 126) dX11_riderOf_126 rfl (rfl) (Nat.le_refl _) (Nat.le_refl _) (ic_ri ⟨by rw [if_pos (by omega)]; refine congrArg nI ?_; show _ = it s o 4; omega, w, rfl, Fp.rf w⟩)
    · refine xx_tin (pc := 19) 127 dX11_riderOf_19 (by decide) (by decide) rfl rfl ?_
      refine xx_aload_nP (pc := 127) dX11_riderOf_127 0 rfl rfl ?_
      refine xx_getR (pc := 128) 48 dX11_riderOf_128 sh_46 fX11_130_4 rfl rfl (by decide) ?_
      refine xx_iload_n (pc := 131) dX11_riderOf_131 2 rfl rfl ?_
      refine xx_ialdN (pc := 132) dX11_riderOf_132 sh_48 (by omega) (by decide) ?_
      exact xx_iret (pc := 133) dX11_riderOf_133 rfl (rfl) (Nat.le_refl _) (Nat.le_refl _) (ic_ri ⟨by rw [if_pos (by omega)]; exact congrArg nI (hm.a ho), w, rfl, Fp.rf w⟩)
    · refine xx_tin (pc := 19) 134 dX11_riderOf_19 (by decide) (by decide) rfl rfl ?_
      refine xx_aload_nP (pc := 134) dX11_riderOf_134 1 rfl rfl ?_
      refine xx_getR (pc := 135) 39 dX11_riderOf_135 sh_0 fX11_74_11 rfl rfl (by decide) ?_
      refine xx_aload_nP (pc := 138) dX11_riderOf_138 0 rfl rfl ?_
      refine xx_iload_n (pc := 139) dX11_riderOf_139 2 rfl rfl ?_
      have hsu_x3 := mo_sunk_le hIn o
      refine xx_callV0 (pc := 140) (st := []) sh_39 (cC_sinking (w := w) (m := 46) (s := s) (k := o) Mo_46 hm hN hIn (by omega)) kX5_sinking vX11_133_5 dX11_riderOf_140 rfl rfl (Nat.le_of_ble_eq_true rfl) ⟨Nat.le_of_ble_eq_true rfl, Nat.le_of_ble_eq_true rfl⟩ ⟨Nat.zero_le _, Nat.zero_le _⟩ (ic_ki (fun v5 h_ qw4 => ?_))
      obtain ⟨rfl, w4, rfl, gw4⟩ := qw4
      have hN_w4 : Cn w4 s := hN.fs gw4
      have hm_w4 : Cs w4 46 s := hm.fs Mo_46 gw4
      have n1_w4 : w4 39 10 = s 0 := hN_w4.n
      have n2_w4 : w4 39 11 = s 2 := hN_w4.e
      have n3_w4 : w4 46 0 = s 1 := hm_w4.t
      exact xx_iret (pc := 143) dX11_riderOf_143 rfl (rfl) (Nat.le_refl _) (Nat.le_refl _) (ic_ri ⟨by rw [if_pos (by omega)]; rfl, w4, rfl, gw4.p⟩)
    · refine xx_tin (pc := 19) 144 dX11_riderOf_19 (by decide) (by decide) rfl rfl ?_
      refine xx_aload_nP (pc := 144) dX11_riderOf_144 1 rfl rfl ?_
      refine xx_getR (pc := 145) 39 dX11_riderOf_145 sh_0 fX11_74_11 rfl rfl (by decide) ?_
      refine xx_iload_n (pc := 148) dX11_riderOf_148 2 rfl rfl ?_
      refine xx_aload_nP (pc := 149) dX11_riderOf_149 0 rfl rfl ?_
      refine xx_getN (pc := 150) dX11_riderOf_150 sh_46 fX11_137_4 rfl ?_
      refine xx_eqI (y := nI (s 1)) (by rw [n3_w]) ?_
      refine xx_callV0 (pc := 153) (st := []) sh_39 (cC_drifting (w := w) (k := o) (t := s 1) (s := s) hN hIn (by omega) (by omega)) kX5_drifting vX11_140_5 dX11_riderOf_153 rfl rfl (Nat.le_of_ble_eq_true rfl) ⟨Nat.le_of_ble_eq_true rfl, Nat.le_of_ble_eq_true rfl⟩ ⟨Nat.zero_le _, Nat.zero_le _⟩ (ic_ke ?_)
      exact xx_iret (pc := 156) dX11_riderOf_156 rfl (rfl) (Nat.le_refl _) (Nat.le_refl _) (ic_ri ⟨by rw [if_pos (by omega)]; rfl, w, rfl, Fp.rf w⟩)
    · refine xx_tin (pc := 19) 157 dX11_riderOf_19 (by decide) (by decide) rfl rfl ?_
      refine xx_aload_nP (pc := 157) dX11_riderOf_157 1 rfl rfl ?_
      refine xx_getR (pc := 158) 39 dX11_riderOf_158 sh_0 fX11_74_11 rfl rfl (by decide) ?_
      refine xx_aload_nP (pc := 161) dX11_riderOf_161 0 rfl rfl ?_
      refine xx_iload_n (pc := 162) dX11_riderOf_162 2 rfl rfl ?_
      have hpl_x6 := mo_pays_le hIn (o := o) (by omega)
      refine xx_callV0 (pc := 163) (st := []) sh_39 (cC_pays (w := w) (m := 46) (s := s) (k := o) Mo_46 hm hN hIn (by omega)) kX5_pays vX11_144_5 dX11_riderOf_163 rfl rfl (Nat.le_of_ble_eq_true rfl) ⟨Nat.le_of_ble_eq_true rfl, Nat.le_of_ble_eq_true rfl⟩ ⟨Nat.zero_le _, Nat.zero_le _⟩ (ic_ke ?_)
      exact xx_iret (pc := 166) dX11_riderOf_166 rfl (rfl) (Nat.le_refl _) (Nat.le_refl _) (ic_ri ⟨by rw [if_pos (by omega)]; rfl, w, rfl, Fp.rf w⟩)
    · refine xx_tin (pc := 19) 167 dX11_riderOf_19 (by decide) (by decide) rfl rfl ?_
      refine xx_aload_nP (pc := 167) dX11_riderOf_167 1 rfl rfl ?_
      refine xx_getR (pc := 168) 39 dX11_riderOf_168 sh_0 fX11_74_11 rfl rfl (by decide) ?_
      refine xx_aload_nP (pc := 171) dX11_riderOf_171 0 rfl rfl ?_
      refine xx_iload_n (pc := 172) dX11_riderOf_172 2 rfl rfl ?_
      have x7 := mo_deed_le hRu o
      refine xx_callV0 (pc := 173) (st := []) sh_39 (cC_deed (w := w) (m := 46) (s := s) (k := o) Mo_46 hm hN hIn hRu (by omega)) kX5_deed vX11_147_5 dX11_riderOf_173 rfl rfl (Nat.le_of_ble_eq_true rfl) ⟨Nat.le_of_ble_eq_true rfl, Nat.le_of_ble_eq_true rfl⟩ ⟨Nat.zero_le _, Nat.zero_le _⟩ (ic_ki (fun v9 h_ qw8 => ?_))
      obtain ⟨rfl, w8, rfl, gw8⟩ := qw8
      have hN_w8 : Cn w8 s := hN.fs gw8
      have hm_w8 : Cs w8 46 s := hm.fs Mo_46 gw8
      have n1_w8 : w8 39 10 = s 0 := hN_w8.n
      have n2_w8 : w8 39 11 = s 2 := hN_w8.e
      have n3_w8 : w8 46 0 = s 1 := hm_w8.t
      refine xx_if_neN (pc := 176) 183 dX11_riderOf_176 rfl (by omega) (fun c10 => ?_) (fun c10 => ?_)
      · refine xx_iconst (pc := 183) dX11_riderOf_183 cc_iconst_0 ?_
        exact xx_iret (pc := 184) dX11_riderOf_184 rfl (rfl) (Nat.le_refl _) (Nat.le_refl _) (ic_ri ⟨by rw [if_pos (by omega)]; refine congrArg nI ?_; show _ = ic_bo _; first | exact (ic_bo_t ((mo_deed_0 ho5.2.2.2.2.1).mp (by omega))).symm | exact (ic_bo_f (fun z => absurd ((mo_deed_0 ho5.2.2.2.2.1).mpr z) (by omega))).symm, w8, rfl, gw8.p⟩)
      · refine xx_iconst (pc := 179) dX11_riderOf_179 cc_iconst_1 ?_
        refine xx_goto (pc := 180) 184 dX11_riderOf_180 rfl ?_
        exact xx_iret (pc := 184) dX11_riderOf_184 rfl (rfl) (Nat.le_refl _) (Nat.le_refl _) (ic_ri ⟨by rw [if_pos (by omega)]; refine congrArg nI ?_; show _ = ic_bo _; first | exact (ic_bo_t ((mo_deed_0 ho5.2.2.2.2.1).mp (by omega))).symm | exact (ic_bo_f (fun z => absurd ((mo_deed_0 ho5.2.2.2.2.1).mpr z) (by omega))).symm, w8, rfl, gw8.p⟩)
    · refine xx_tin (pc := 19) 185 dX11_riderOf_19 (by decide) (by decide) rfl rfl ?_
      refine xx_aload_nP (pc := 185) dX11_riderOf_185 1 rfl rfl ?_
      refine xx_getR (pc := 186) 39 dX11_riderOf_186 sh_0 fX11_74_11 rfl rfl (by decide) ?_
      refine xx_aload_nP (pc := 189) dX11_riderOf_189 0 rfl rfl ?_
      refine xx_iload_n (pc := 190) dX11_riderOf_190 2 rfl rfl ?_
      have x11 := mo_will_le hRu o
      refine xx_callV0 (pc := 191) (st := []) sh_39 (cC_will (w := w) (m := 46) (s := s) (k := o) Mo_46 hm hN hIn hRu (by omega)) kX5_will vX11_150_5 dX11_riderOf_191 rfl rfl (Nat.le_of_ble_eq_true rfl) ⟨Nat.le_of_ble_eq_true rfl, Nat.le_of_ble_eq_true rfl⟩ ⟨Nat.zero_le _, Nat.zero_le _⟩ (ic_ki (fun v13 h_ qw12 => ?_))
      obtain ⟨rfl, w12, rfl, gw12⟩ := qw12
      have hN_w12 : Cn w12 s := hN.fs gw12
      have hm_w12 : Cs w12 46 s := hm.fs Mo_46 gw12
      have n1_w12 : w12 39 10 = s 0 := hN_w12.n
      have n2_w12 : w12 39 11 = s 2 := hN_w12.e
      have n3_w12 : w12 46 0 = s 1 := hm_w12.t
      exact xx_iret (pc := 194) dX11_riderOf_194 rfl (rfl) (Nat.le_refl _) (Nat.le_refl _) (ic_ri ⟨by rw [if_pos (by omega)]; rfl, w12, rfl, gw12.p⟩)
    · refine xx_tout (pc := 19) 195 dX11_riderOf_19 (by rw [nI_sgn (by omega)]; split <;> omega) rfl ?_
      refine xx_iconst (pc := 195) dX11_riderOf_195 cc_iconst_m1 ?_
      exact xx_iret (pc := 196) dX11_riderOf_196 rfl (rfl) (Nat.le_refl _) (Nat.le_refl _) (ic_ri ⟨by rw [if_neg (by omega)], w, rfl, Fp.rf w⟩)
  · refine xx_iconst (pc := 8) dX11_riderOf_8 cc_iconst_m1 ?_
    exact xx_iret (pc := 9) dX11_riderOf_9 rfl (rfl) (Nat.le_refl _) (Nat.le_refl _) (ic_ri ⟨by rw [if_neg (by omega)], w, rfl, Fp.rf w⟩)

set_option maxHeartbeats 4000000 in
set_option maxRecDepth 100000 in
theorem cC_change {l : Launch} {E : ic_E} {w : ic_w} {o : Nat} (ho_ : o < 2 ^ 32) {k : Nat} (hk_ : k < 2 ^ 32) {v : Nat} (hv_ : v < 2 ^ 32) {s : Nat → Nat} (hC : Cw w s) (hIn : In s) (hRu : Ru s) : ic_C l E mX11_change 7 0 0 False [ic_pt E 0, .int (nI o), .int (nI k), .int (nI v)] SHs (hn w) SHs (ic_qi (fun v_ h_ => v_ = nI (if o < s 0 ∧ (1 ≤ k ∧ k ≤ 5) ∧ v ≤ mo_top k then it s o k else 4294967295) ∧ ∃ w2, h_ = hn w2 ∧ Fn w w2 ∧ Cw w2 (if o < s 0 ∧ (1 ≤ k ∧ k ≤ 5) ∧ v ≤ mo_top k then fu s (8 + 6 * o + k) v else s))) := by
  refine ic_intro (by decide +kernel) (Nat.le_of_ble_eq_true rfl) ?_
  show xx l E _ _ 0 [(0, ic_pt E 0), (1, .int (nI o)), (2, .int (nI k)), (3, .int (nI v))] _ _ _
  have hN := hC.1
  have hm := hC.2.1
  have n5_w := hC.2.2.1
  have n6_w := hC.2.2.2
  have hn0 := hIn.n
  have htt := hIn.t
  have hcr := hIn.cr (s 1)
  have n1_w : w 39 10 = s 0 := hN.n
  have n2_w : w 39 11 = s 2 := hN.e
  have n3_w : w 46 0 = s 1 := hm.t
  have n4_w : w 46 1 = mo_outs s := hm.o
  have hg := mo_top_le k
  refine xx_aload_nP (pc := 0) dX11_change_0 0 rfl rfl ?_
  refine xx_iload_n (pc := 1) dX11_change_1 1 rfl rfl ?_
  refine xx_callV0 (pc := 2) (st := []) sh_0 (cC_isRider (w := w) (k := o) (by omega) (by omega)) kX11_isRider vX11_109_11 dX11_change_2 rfl rfl (Nat.le_of_ble_eq_true rfl) ⟨Nat.le_of_ble_eq_true rfl, Nat.le_of_ble_eq_true rfl⟩ ⟨Nat.zero_le _, Nat.zero_le _⟩ (ic_ke ?_)
  refine xx_if_eqB (pc := 5) 29 dX11_change_5 rfl (fun c1 => ?_) (fun c1 => ?_)
  · refine xx_iconst (pc := 29) dX11_change_29 cc_iconst_m1 ?_
    exact xx_iret (pc := 30) dX11_change_30 rfl (rfl) (Nat.le_refl _) (Nat.le_refl _) (ic_ri ⟨by rw [if_neg (by omega)], w, rfl, Fn.rf w, by rw [if_neg (by omega)]; exact hC⟩)
  · refine xx_iload_n (pc := 8) dX11_change_8 2 rfl rfl ?_
    refine xx_iconst (pc := 9) dX11_change_9 cc_iconst_1 ?_
    refine xx_iconst (pc := 10) dX11_change_10 cc_iconst_5 ?_
    refine xx_callS0 (pc := 11) (st := []) (cC_within (w := w) (v := k) (lo := 1) (hi := 5) (by omega) (by omega) (by omega)) kX11_within sX11_94 dX11_change_11 rfl rfl (Nat.le_of_ble_eq_true rfl) ⟨Nat.le_of_ble_eq_true rfl, Nat.le_of_ble_eq_true rfl⟩ ⟨Nat.zero_le _, Nat.zero_le _⟩ (ic_ke ?_)
    refine xx_if_eqB (pc := 14) 29 dX11_change_14 rfl (fun c2 => ?_) (fun c2 => ?_)
    · refine xx_iconst (pc := 29) dX11_change_29 cc_iconst_m1 ?_
      exact xx_iret (pc := 30) dX11_change_30 rfl (rfl) (Nat.le_refl _) (Nat.le_refl _) (ic_ri ⟨by rw [if_neg (by omega)], w, rfl, Fn.rf w, by rw [if_neg (by omega)]; exact hC⟩)
    · refine xx_iload_n (pc := 17) dX11_change_17 3 rfl rfl ?_
      refine xx_iconst (pc := 18) dX11_change_18 cc_iconst_0 ?_
      refine xx_iload_n (pc := 19) dX11_change_19 2 rfl rfl ?_
      refine xx_callS0 (pc := 20) (st := [.int (nI 0), .int (nI v)]) (cC_mostOf (w := w) (k := k) (by omega)) kX11_mostOf sX11_153 dX11_change_20 rfl rfl (Nat.le_of_ble_eq_true rfl) ⟨Nat.le_of_ble_eq_true rfl, Nat.le_of_ble_eq_true rfl⟩ ⟨Nat.zero_le _, Nat.zero_le _⟩ (ic_ke ?_)
      refine xx_callS0 (pc := 23) (st := []) (cC_within (w := w) (v := v) (lo := 0) (hi := mo_top k) (by omega) (by omega) (by omega)) kX11_within sX11_94 dX11_change_23 rfl rfl (Nat.le_of_ble_eq_true rfl) ⟨Nat.le_of_ble_eq_true rfl, Nat.le_of_ble_eq_true rfl⟩ ⟨Nat.zero_le _, Nat.zero_le _⟩ (ic_ke ?_)
      refine xx_if_neB (pc := 26) 31 dX11_change_26 rfl (fun c3 => ?_) (fun c3 => ?_)
      · refine xx_aload_nP (pc := 31) dX11_change_31 0 rfl rfl ?_
        refine xx_iload_n (pc := 32) dX11_change_32 1 rfl rfl ?_
        refine xx_iload_n (pc := 33) dX11_change_33 2 rfl rfl ?_
        have hrb : mo_ask s o k = it s o k := by unfold mo_ask; rw [if_neg (by omega), if_neg (by omega), if_neg (by omega), if_neg (by omega), if_neg (by omega)]
        refine xx_callV0 (pc := 34) (st := []) sh_0 (cC_riderOf (w := w) (o := o) (k := k) (s := s) (by omega) (by omega) hC hIn hRu) kX11_riderOf vX11_157_11 dX11_change_34 rfl rfl (Nat.le_of_ble_eq_true rfl) ⟨Nat.le_of_ble_eq_true rfl, Nat.le_of_ble_eq_true rfl⟩ ⟨Nat.zero_le _, Nat.zero_le _⟩ (ic_ki (fun v5 h_ qw4 => ?_))
        obtain ⟨rfl, w4, rfl, fw4⟩ := qw4
        rw [if_pos (show o < s 0 ∧ k ≤ 10 by omega), hrb]
        have hC_w4 := hC.fp fw4
        refine xx_istore (L' := [(4, .int (nI (it s o k))), (0, ic_pt E 0), (1, .int (nI o)), (2, .int (nI k)), (3, .int (nI v))]) (pc := 37) dX11_change_37 (Nat.le_of_ble_eq_true rfl) rfl ?_
        refine xx_aload_nP (pc := 39) dX11_change_39 1 rfl rfl ?_
        refine xx_getR (pc := 40) 39 dX11_change_40 sh_0 fX11_74_11 rfl rfl (by decide) ?_
        refine xx_iload_n (pc := 43) dX11_change_43 2 rfl rfl ?_
        refine xx_iload_n (pc := 44) dX11_change_44 3 rfl rfl ?_
        refine xx_iload_n (pc := 45) dX11_change_45 4 rfl rfl ?_
        refine xx_callV0 (pc := 46) (st := []) sh_39 (cC_put (w := w4) (k := o) (a := k) (v := v) (s := s) hC_w4 hIn (by omega) (by omega) (by omega)) kX5_put vX11_160_5 dX11_change_46 rfl rfl (Nat.le_of_ble_eq_true rfl) ⟨Nat.le_of_ble_eq_true rfl, Nat.le_of_ble_eq_true rfl⟩ ⟨Nat.zero_le _, Nat.zero_le _⟩ (ic_kv (fun h_ qw6 => ?_))
        obtain ⟨w6, rfl, fw6, hC_w6⟩ := qw6
        refine xx_iload (pc := 49) dX11_change_49 0 rfl ?_
        exact xx_iret (pc := 51) dX11_change_51 rfl (rfl) (Nat.le_refl _) (Nat.le_refl _) (ic_ri ⟨by rw [if_pos (by omega)], w6, rfl, (fw4.n).tr fw6, by rw [if_pos (by omega)]; exact hC_w6⟩)
      · refine xx_iconst (pc := 29) dX11_change_29 cc_iconst_m1 ?_
        exact xx_iret (pc := 30) dX11_change_30 rfl (rfl) (Nat.le_refl _) (Nat.le_refl _) (ic_ri ⟨by rw [if_neg (by omega)], w, rfl, Fn.rf w, by rw [if_neg (by omega)]; exact hC⟩)

set_option maxHeartbeats 4000000 in
set_option maxRecDepth 100000 in
theorem cC_add {l : Launch} {E : ic_E} {w : ic_w} {kind d ws hm : Nat} {s : Nat → Nat} (hC : Cw w s) (hIn : In s) (h6 : s 0 < 6) (hk1 : 1 ≤ kind) : ic_C l E mX5_add 1 0 0 False [ic_pt E 39, .int (nI kind), .int (nI d), .int (nI ws), .int (nI hm)] SHs (hn w) SHs (ic_qi (fun v_ h_ => v_ = nI (s 0) ∧ ∃ w2, h_ = hn w2 ∧ Fn w w2 ∧ Cw w2 (mo_new s kind d ws hm))) := by
  refine ic_intro (by decide +kernel) (Nat.le_of_ble_eq_true rfl) ?_
  show xx l E _ _ 0 [(0, ic_pt E 39), (1, .int (nI kind)), (2, .int (nI d)), (3, .int (nI ws)), (4, .int (nI hm))] _ _ _
  have hN := hC.1
  have n1_w : w 39 10 = s 0 := hN.n
  refine xx_aload_nP (pc := 0) dX5_add_0 0 rfl rfl ?_
  refine xx_getN (pc := 1) dX5_add_1 sh_39 fX5_84_5 rfl ?_
  refine xx_eqI (y := nI (s 0)) (by rw [n1_w]) ?_
  refine xx_istore (L' := [(5, .int (nI (s 0))), (0, ic_pt E 39), (1, .int (nI kind)), (2, .int (nI d)), (3, .int (nI ws)), (4, .int (nI hm))]) (pc := 4) dX5_add_4 (Nat.le_of_ble_eq_true rfl) rfl ?_
  refine xx_aload_nP (pc := 6) dX5_add_6 1 rfl rfl ?_
  refine xx_getR (pc := 7) 43 dX5_add_7 sh_39 fX5_21_5 rfl rfl (by decide) ?_
  refine xx_iload (pc := 10) dX5_add_10 0 rfl ?_
  refine xx_iload_n (pc := 12) dX5_add_12 2 rfl rfl ?_
  refine xx_iastN (pc := 13) dX5_add_13 sh_43 (by omega) (by decide) ?_
  refine xx_nw (fun w1 ew1 => ?_)
  have m1_w1 : w1 39 10 = s 0 := by rw [ew1, wu_o _ _ _ _ (by omega)]; exact n1_w
  refine xx_aload_nP (pc := 14) dX5_add_14 1 rfl rfl ?_
  refine xx_getR (pc := 15) 44 dX5_add_15 sh_39 fX5_24_5 rfl rfl (by decide) ?_
  refine xx_iload (pc := 18) dX5_add_18 0 rfl ?_
  refine xx_iload_n (pc := 20) dX5_add_20 4 rfl rfl ?_
  refine xx_iastN (pc := 21) dX5_add_21 sh_44 (by omega) (by decide) ?_
  refine xx_nw (fun w2 ew2 => ?_)
  have m1_w2 : w2 39 10 = s 0 := by rw [ew2, wu_o _ _ _ _ (by omega)]; exact m1_w1
  refine xx_aload_nP (pc := 22) dX5_add_22 1 rfl rfl ?_
  refine xx_getR (pc := 23) 45 dX5_add_23 sh_39 fX5_27_5 rfl rfl (by decide) ?_
  refine xx_iload (pc := 26) dX5_add_26 0 rfl ?_
  refine xx_iload (pc := 28) dX5_add_28 5 rfl ?_
  refine xx_iastN (pc := 30) dX5_add_30 sh_45 (by omega) (by decide) ?_
  refine xx_nw (fun w3 ew3 => ?_)
  have m1_w3 : w3 39 10 = s 0 := by rw [ew3, wu_o _ _ _ _ (by omega)]; exact m1_w2
  refine xx_aload_nP (pc := 31) dX5_add_31 1 rfl rfl ?_
  refine xx_getR (pc := 32) 46 dX5_add_32 sh_39 fX5_33_5 rfl rfl (by decide) ?_
  refine xx_getR (pc := 35) 47 dX5_add_35 sh_46 fX5_90_4 rfl rfl (by decide) ?_
  refine xx_iload (pc := 38) dX5_add_38 0 rfl ?_
  refine xx_iload_n (pc := 40) dX5_add_40 3 rfl rfl ?_
  refine xx_iastN (pc := 41) dX5_add_41 sh_47 (by omega) (by decide) ?_
  refine xx_nw (fun w4 ew4 => ?_)
  have m1_w4 : w4 39 10 = s 0 := by rw [ew4, wu_o _ _ _ _ (by omega)]; exact m1_w3
  refine xx_aload_nP (pc := 42) dX5_add_42 1 rfl rfl ?_
  refine xx_getR (pc := 43) 46 dX5_add_43 sh_39 fX5_33_5 rfl rfl (by decide) ?_
  refine xx_getR (pc := 46) 48 dX5_add_46 sh_46 fX5_93_4 rfl rfl (by decide) ?_
  refine xx_iload (pc := 49) dX5_add_49 0 rfl ?_
  refine xx_iload (pc := 51) dX5_add_51 5 rfl ?_
  refine xx_iastN (pc := 53) dX5_add_53 sh_48 (by omega) (by decide) ?_
  refine xx_nw (fun w5 ew5 => ?_)
  have m1_w5 : w5 39 10 = s 0 := by rw [ew5, wu_o _ _ _ _ (by omega)]; exact m1_w4
  refine xx_aload_nP (pc := 54) dX5_add_54 1 rfl rfl ?_
  refine xx_dup (pc := 55) dX5_add_55 rfl ?_
  refine xx_getN (pc := 56) dX5_add_56 sh_39 fX5_84_5 rfl ?_
  refine xx_iconst (pc := 59) dX5_add_59 cc_iconst_1 ?_
  refine xx_iaddN (pc := 60) dX5_add_60 ?_
  refine xx_eqI (y := nI (s 0 + 1)) (by rw [m1_w5]) ?_
  refine xx_putN (pc := 61) dX5_add_61 sh_39 fX5_84_5 rfl rfl ?_
  refine xx_nw (fun w6 ew6 => ?_)
  refine xx_iload (pc := 64) dX5_add_64 0 rfl ?_
  exact xx_iret (pc := 66) dX5_add_66 rfl (rfl) (Nat.le_refl _) (Nat.le_refl _) (ic_ri ⟨rfl, w6, rfl, fun a ha => by rw [ew6, ew5, ew4, ew3, ew2, ew1, wu_row _ _ _ (by omega), wu_row _ _ _ (by omega), wu_row _ _ _ (by omega), wu_row _ _ _ (by omega), wu_row _ _ _ (by omega), wu_row _ _ _ (by omega)], by rw [ew6, ew5, ew4, ew3, ew2, ew1]; exact hC.add hIn h6 hk1⟩)

set_option maxHeartbeats 4000000 in
set_option maxRecDepth 100000 in
theorem cC_rider {l : Launch} {E : ic_E} {w : ic_w} {kind d ws hm_ : Nat} (h1 : kind < 2 ^ 32) (h2 : d < 2 ^ 32) (h3 : ws < 2 ^ 32) (h4 : hm_ < 2 ^ 32) {s : Nat → Nat} (hC : Cw w s) (hIn : In s) : ic_C l E mX11_rider 3 0 0 False [ic_pt E 0, .int (nI kind), .int (nI d), .int (nI ws), .int (nI hm_)] SHs (hn w) SHs (ic_qi (fun v_ h_ => v_ = nI (if (1 ≤ kind ∧ kind ≤ 5) ∧ d ≤ 99 ∧ ws ≤ 9 ∧ hm_ < 6 then (if s 0 = 6 then 4294967294 else s 0) else 4294967295) ∧ ∃ w2, h_ = hn w2 ∧ Fn w w2 ∧ Cw w2 (if ((1 ≤ kind ∧ kind ≤ 5) ∧ d ≤ 99 ∧ ws ≤ 9 ∧ hm_ < 6) ∧ s 0 < 6 then mo_new s kind d ws hm_ else s))) := by
  refine ic_intro (by decide +kernel) (Nat.le_of_ble_eq_true rfl) ?_
  show xx l E _ _ 0 [(0, ic_pt E 0), (1, .int (nI kind)), (2, .int (nI d)), (3, .int (nI ws)), (4, .int (nI hm_))] _ _ _
  have hN := hC.1
  have hm := hC.2.1
  have n5_w := hC.2.2.1
  have n6_w := hC.2.2.2
  have hn0 := hIn.n
  have htt := hIn.t
  have hcr := hIn.cr (s 1)
  have n1_w : w 39 10 = s 0 := hN.n
  have n2_w : w 39 11 = s 2 := hN.e
  have n3_w : w 46 0 = s 1 := hm.t
  have n4_w : w 46 1 = mo_outs s := hm.o
  refine xx_iload_n (pc := 0) dX11_rider_0 1 rfl rfl ?_
  refine xx_callS0 (pc := 1) (st := []) (cC_isMadeKind (w := w) (v := kind) (by omega)) kX11_isMadeKind sX11_90 dX11_rider_1 rfl rfl (Nat.le_of_ble_eq_true rfl) ⟨Nat.le_of_ble_eq_true rfl, Nat.le_of_ble_eq_true rfl⟩ ⟨Nat.zero_le _, Nat.zero_le _⟩ (ic_ke ?_)
  refine xx_if_eqB (pc := 4) 39 dX11_rider_4 rfl (fun c1 => ?_) (fun c1 => ?_)
  · refine xx_iconst (pc := 39) dX11_rider_39 cc_iconst_0 ?_
    refine xx_istore (L' := [(5, .int (nI 0)), (0, ic_pt E 0), (1, .int (nI kind)), (2, .int (nI d)), (3, .int (nI ws)), (4, .int (nI hm_))]) (pc := 40) dX11_rider_40 (Nat.le_of_ble_eq_true rfl) rfl ?_
    refine xx_iload (pc := 42) dX11_rider_42 0 rfl ?_
    refine xx_if_neN (pc := 44) 49 dX11_rider_44 rfl (by omega) (fun c2 => by exfalso; omega) (fun c2 => ?_)
    refine xx_iconst (pc := 47) dX11_rider_47 cc_iconst_m1 ?_
    exact xx_iret (pc := 48) dX11_rider_48 rfl (rfl) (Nat.le_refl _) (Nat.le_refl _) (ic_ri ⟨by rw [if_neg (by omega)], w, rfl, Fn.rf w, by rw [if_neg (by omega)]; exact hC⟩)
  · refine xx_iload_n (pc := 7) dX11_rider_7 2 rfl rfl ?_
    refine xx_iconst (pc := 8) dX11_rider_8 cc_iconst_0 ?_
    refine xx_bipush (pc := 9) dX11_rider_9 cc_bipush_99 ?_
    refine xx_callS0 (pc := 11) (st := []) (cC_within (w := w) (v := d) (lo := 0) (hi := 99) (by omega) (by omega) (by omega)) kX11_within sX11_94 dX11_rider_11 rfl rfl (Nat.le_of_ble_eq_true rfl) ⟨Nat.le_of_ble_eq_true rfl, Nat.le_of_ble_eq_true rfl⟩ ⟨Nat.zero_le _, Nat.zero_le _⟩ (ic_ke ?_)
    refine xx_if_eqB (pc := 14) 39 dX11_rider_14 rfl (fun c3 => ?_) (fun c3 => ?_)
    · refine xx_iconst (pc := 39) dX11_rider_39 cc_iconst_0 ?_
      refine xx_istore (L' := [(5, .int (nI 0)), (0, ic_pt E 0), (1, .int (nI kind)), (2, .int (nI d)), (3, .int (nI ws)), (4, .int (nI hm_))]) (pc := 40) dX11_rider_40 (Nat.le_of_ble_eq_true rfl) rfl ?_
      refine xx_iload (pc := 42) dX11_rider_42 0 rfl ?_
      refine xx_if_neN (pc := 44) 49 dX11_rider_44 rfl (by omega) (fun c4 => by exfalso; omega) (fun c4 => ?_)
      refine xx_iconst (pc := 47) dX11_rider_47 cc_iconst_m1 ?_
      exact xx_iret (pc := 48) dX11_rider_48 rfl (rfl) (Nat.le_refl _) (Nat.le_refl _) (ic_ri ⟨by rw [if_neg (by omega)], w, rfl, Fn.rf w, by rw [if_neg (by omega)]; exact hC⟩)
    · refine xx_iload_n (pc := 17) dX11_rider_17 3 rfl rfl ?_
      refine xx_iconst (pc := 18) dX11_rider_18 cc_iconst_0 ?_
      refine xx_bipush (pc := 19) dX11_rider_19 cc_bipush_9 ?_
      refine xx_callS0 (pc := 21) (st := []) (cC_within (w := w) (v := ws) (lo := 0) (hi := 9) (by omega) (by omega) (by omega)) kX11_within sX11_94 dX11_rider_21 rfl rfl (Nat.le_of_ble_eq_true rfl) ⟨Nat.le_of_ble_eq_true rfl, Nat.le_of_ble_eq_true rfl⟩ ⟨Nat.zero_le _, Nat.zero_le _⟩ (ic_ke ?_)
      refine xx_if_eqB (pc := 24) 39 dX11_rider_24 rfl (fun c5 => ?_) (fun c5 => ?_)
      · refine xx_iconst (pc := 39) dX11_rider_39 cc_iconst_0 ?_
        refine xx_istore (L' := [(5, .int (nI 0)), (0, ic_pt E 0), (1, .int (nI kind)), (2, .int (nI d)), (3, .int (nI ws)), (4, .int (nI hm_))]) (pc := 40) dX11_rider_40 (Nat.le_of_ble_eq_true rfl) rfl ?_
        refine xx_iload (pc := 42) dX11_rider_42 0 rfl ?_
        refine xx_if_neN (pc := 44) 49 dX11_rider_44 rfl (by omega) (fun c6 => by exfalso; omega) (fun c6 => ?_)
        refine xx_iconst (pc := 47) dX11_rider_47 cc_iconst_m1 ?_
        exact xx_iret (pc := 48) dX11_rider_48 rfl (rfl) (Nat.le_refl _) (Nat.le_refl _) (ic_ri ⟨by rw [if_neg (by omega)], w, rfl, Fn.rf w, by rw [if_neg (by omega)]; exact hC⟩)
      · refine xx_iload (pc := 27) dX11_rider_27 4 rfl ?_
        refine xx_callS0 (pc := 29) (st := []) (cC_isStop (w := w) (v := hm_) (by omega)) kX11_isStop sX11_98 dX11_rider_29 rfl rfl (Nat.le_of_ble_eq_true rfl) ⟨Nat.le_of_ble_eq_true rfl, Nat.le_of_ble_eq_true rfl⟩ ⟨Nat.zero_le _, Nat.zero_le _⟩ (ic_ke ?_)
        refine xx_if_eqB (pc := 32) 39 dX11_rider_32 rfl (fun c7 => ?_) (fun c7 => ?_)
        · refine xx_iconst (pc := 39) dX11_rider_39 cc_iconst_0 ?_
          refine xx_istore (L' := [(5, .int (nI 0)), (0, ic_pt E 0), (1, .int (nI kind)), (2, .int (nI d)), (3, .int (nI ws)), (4, .int (nI hm_))]) (pc := 40) dX11_rider_40 (Nat.le_of_ble_eq_true rfl) rfl ?_
          refine xx_iload (pc := 42) dX11_rider_42 0 rfl ?_
          refine xx_if_neN (pc := 44) 49 dX11_rider_44 rfl (by omega) (fun c8 => by exfalso; omega) (fun c8 => ?_)
          refine xx_iconst (pc := 47) dX11_rider_47 cc_iconst_m1 ?_
          exact xx_iret (pc := 48) dX11_rider_48 rfl (rfl) (Nat.le_refl _) (Nat.le_refl _) (ic_ri ⟨by rw [if_neg (by omega)], w, rfl, Fn.rf w, by rw [if_neg (by omega)]; exact hC⟩)
        · refine xx_iconst (pc := 35) dX11_rider_35 cc_iconst_1 ?_
          refine xx_goto (pc := 36) 40 dX11_rider_36 rfl ?_
          refine xx_istore (L' := [(5, .int (nI 1)), (0, ic_pt E 0), (1, .int (nI kind)), (2, .int (nI d)), (3, .int (nI ws)), (4, .int (nI hm_))]) (pc := 40) dX11_rider_40 (Nat.le_of_ble_eq_true rfl) rfl ?_
          refine xx_iload (pc := 42) dX11_rider_42 0 rfl ?_
          refine xx_if_neN (pc := 44) 49 dX11_rider_44 rfl (by omega) (fun c9 => ?_) (fun c9 => by exfalso; omega)
          refine xx_aload_nP (pc := 49) dX11_rider_49 1 rfl rfl ?_
          refine xx_getR (pc := 50) 39 dX11_rider_50 sh_0 fX11_74_11 rfl rfl (by decide) ?_
          refine xx_getN (pc := 53) dX11_rider_53 sh_39 fX11_101_5 rfl ?_
          refine xx_bipush (pc := 56) dX11_rider_56 cc_bipush_6 ?_
          refine xx_icmp_ltN (pc := 58) 64 dX11_rider_58 rfl (by omega) (by omega) (fun c10 => ?_) (fun c10 => ?_)
          · refine xx_aload_nP (pc := 64) dX11_rider_64 1 rfl rfl ?_
            refine xx_getR (pc := 65) 39 dX11_rider_65 sh_0 fX11_74_11 rfl rfl (by decide) ?_
            refine xx_iload_n (pc := 68) dX11_rider_68 2 rfl rfl ?_
            refine xx_iload_n (pc := 69) dX11_rider_69 3 rfl rfl ?_
            refine xx_iload_n (pc := 70) dX11_rider_70 4 rfl rfl ?_
            refine xx_iload (pc := 71) dX11_rider_71 5 rfl ?_
            refine xx_callV0 (pc := 73) (st := []) sh_39 (cC_add (w := w) (kind := kind) (d := d) (ws := ws) (hm := hm_) (s := s) hC hIn (by omega) (by omega)) kX5_add vX11_105_5 dX11_rider_73 rfl rfl (Nat.le_of_ble_eq_true rfl) ⟨Nat.le_of_ble_eq_true rfl, Nat.le_of_ble_eq_true rfl⟩ ⟨Nat.zero_le _, Nat.zero_le _⟩ (ic_ki (fun v12 h_ qw11 => ?_))
            obtain ⟨rfl, w11, rfl, fw11, hC_w11⟩ := qw11
            exact xx_iret (pc := 76) dX11_rider_76 rfl (rfl) (Nat.le_refl _) (Nat.le_refl _) (ic_ri ⟨by rw [if_pos (by omega), if_neg (by omega)], w11, rfl, fw11, by rw [if_pos (by omega)]; exact hC_w11⟩)
          · refine xx_bipush (pc := 61) dX11_rider_61 cc_bipush_m2 ?_
            exact xx_iret (pc := 63) dX11_rider_63 rfl (rfl) (Nat.le_refl _) (Nat.le_refl _) (ic_ri ⟨by rw [if_pos (by omega), if_pos (by omega)], w, rfl, Fn.rf w, by rw [if_neg (by omega)]; exact hC⟩)

