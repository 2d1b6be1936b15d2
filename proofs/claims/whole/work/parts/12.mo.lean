/-! the mathematics: the row s of the net's numbers, and what is read off it -/
def it (s : Nat → Nat) (o k : Nat) : Nat := s (8 + 6 * o + k)
def mo_crowd (s : Nat → Nat) (t : Nat) : Nat := if t < 16 then s (56 + t) else 0
def mo_sinks (kind crowd others : Nat) : Nat :=
  if kind = 1 then (if crowd % 4 = 0 then 1 else 0) else if kind = 2 then 2 * (crowd / 4 + others) else if kind = 3 then 2 * (crowd / 4 + others) + 3
  else if kind = 4 then crowd / 4 + others - crowd % 4 else (crowd / 4 + others - crowd % 4) / 2
def mo_drifts (kind t : Nat) : Nat :=
  if kind = 1 then 1 else if kind = 2 then t % 2 else if kind = 3 then 2 * (t % 2) else if kind = 4 then 1 - t % 2 else 1 - t % 2 + (if 7 < t then 2 else 0)
def mo_cnt (P : Nat → Bool) : Nat → Nat
  | 0 => 0
  | n + 1 => mo_cnt P n + (if P n then 1 else 0)
theorem mo_cnt_le (P : Nat → Bool) : ∀ n, mo_cnt P n ≤ n
  | 0 => Nat.le_refl _
  | n + 1 => by
    have := mo_cnt_le P n
    rw [mo_cnt]
    split <;> omega
theorem mo_cnt_t {P : Nat → Bool} {n : Nat} (h : P n = true) : mo_cnt P (n + 1) = mo_cnt P n + 1 := by rw [mo_cnt, if_pos h]
theorem mo_cnt_f {P : Nat → Bool} {n : Nat} (h : P n = false) : mo_cnt P (n + 1) = mo_cnt P n := by rw [mo_cnt, if_neg (by rw [h]; decide)]; rfl
/-- what every row of the net's numbers keeps to -/
def In (s : Nat → Nat) : Prop :=
  s 0 ≤ 6 ∧ (s 1 ≤ s 2 ∧ 1 ≤ s 2 ∧ s 2 ≤ 16) ∧ (s 5 ≤ 8 ∧ s 6 ≤ 6 ∧ s 7 ≤ 100) ∧ (∀ o, o < 6 → it s o 0 ≤ 5 ∧ it s o 1 ≤ 99 ∧ it s o 2 ≤ 9 ∧ it s o 3 ≤ 5 ∧ it s o 4 ≤ 1 ∧ it s o 5 ≤ 5) ∧
  (∀ f, f < 6 → s (44 + f) ≤ 9 ∧ s (50 + f) ≤ 9) ∧ (∀ t, t < 16 → s (56 + t) ≤ 15) ∧ (∀ k, k < 578 → s k < 2 ^ 32)
theorem In.i {s : Nat → Nat} (h : In s) {o : Nat} (ho : o < 6) : it s o 0 ≤ 5 ∧ it s o 1 ≤ 99 ∧ it s o 2 ≤ 9 ∧ it s o 3 ≤ 5 ∧ it s o 4 ≤ 1 ∧ it s o 5 ≤ 5 := h.2.2.2.1 o ho
theorem In.n {s : Nat → Nat} (h : In s) : s 0 ≤ 6 := h.1
theorem In.t {s : Nat → Nat} (h : In s) : s 1 ≤ s 2 ∧ 1 ≤ s 2 ∧ s 2 ≤ 16 := h.2.1
theorem In.f {s : Nat → Nat} (h : In s) {f : Nat} (hf : f < 6) : s (44 + f) ≤ 9 ∧ s (50 + f) ≤ 9 := h.2.2.2.2.1 f hf
theorem In.c {s : Nat → Nat} (h : In s) {t : Nat} (ht : t < 16) : s (56 + t) ≤ 15 := h.2.2.2.2.2.1 t ht
theorem In.cr {s : Nat → Nat} (h : In s) (t : Nat) : mo_crowd s t ≤ 15 := by
  unfold mo_crowd
  split
  · exact h.c (by assumption)
  · omega
def mo_others (s : Nat → Nat) (o : Nat) : Nat := mo_cnt (fun q => decide (q ≠ o ∧ it s q 4 = 0 ∧ it s q 5 = it s o 5)) (s 0)
def mo_sunk (s : Nat → Nat) (o : Nat) : Nat := mo_sinks (it s o 0) (mo_crowd s (s 1)) (mo_others s o)
def mo_pays (s : Nat → Nat) (o : Nat) : Nat := if it s o 4 = 1 then 0 else it s o 2 + s (44 + it s o 5) + (if it s o 5 = it s o 3 then 9 else 2) - it s o 1 / 7
def mo_under (own kind : Nat) : Bool := decide (kind = 0 ∨ own = kind ∨ (kind = 2 ∧ own = 3) ∨ (kind = 4 ∧ own = 5))
theorem mo_others_le {s : Nat → Nat} (h : In s) (o : Nat) : mo_others s o ≤ 6 := Nat.le_trans (mo_cnt_le _ _) h.n
theorem mo_sinks_le {k c q : Nat} (hc : c ≤ 15) (hq : q ≤ 6) : mo_sinks k c q ≤ 21 := by
  unfold mo_sinks
  repeat' split
  all_goals omega
theorem mo_drifts_le (k t : Nat) : mo_drifts k t ≤ 3 := by
  unfold mo_drifts
  repeat' split
  all_goals omega
theorem mo_sunk_le {s : Nat → Nat} (h : In s) (o : Nat) : mo_sunk s o ≤ 21 := mo_sinks_le (h.cr _) (mo_others_le h o)
theorem ic_bo_iff {p q : Prop} [Decidable p] [Decidable q] (h : p ↔ q) : ic_bo p = ic_bo q := by
  unfold ic_bo
  by_cases hp : p
  · rw [if_pos hp, if_pos (h.mp hp)]
  · rw [if_neg hp, if_neg (fun z => hp (h.mpr z))]
/-! longs -/
theorem ll_i {a : Nat} (ha : a < 2 ^ 32) : ((nI a).toInt64).toInt = if a < 2 ^ 31 then (a : Int) else (a : Int) - 2 ^ 32 := by
  rw [Int32.toInt_toInt64, nI_sgn ha]
theorem ll_in {a lo hi : Nat} {l u : Int64} (ha : a < 2 ^ 32) (hl : l.toInt = (lo : Int)) (hu : u.toInt = (hi : Int)) (hi31 : hi < 2 ^ 31) : (l.toInt ≤ ((nI a).toInt64).toInt ∧ ((nI a).toInt64).toInt ≤ u.toInt) ↔ (lo ≤ a ∧ a ≤ hi) := by
  rw [ll_i ha, hl, hu]
  split <;> omega
section XL
variable {l : Launch} {E : ic_E} {F : ic_F} {kc : Nat × Nat} {pc : Nat} {L : List (Nat × Value)} {st : List Value} {sh : List ic_S} {h : ic_H}
theorem xx_lcmp {x y : Int64} (hd : decode F.2.2.1 pc = .ok (.lcmp, 1)) (kk : xx l E F kc (pc + 1) L (.int (lg_cmp x y) :: st) sh h) : xx l E F kc pc L (.long y :: .long x :: st) sh h :=
  fun p e s m args below meth c H locs ls N M S hl => W.lcmp N.1 N.2.1 hd (kk p e s m args below meth c H locs ls N M S hl)
theorem lg_lt (x y : Int64) : lg_cmp x y < 0 ↔ x.toInt < y.toInt := by
  unfold lg_cmp
  rw [← Int64.lt_iff_toInt_lt]
  split
  · rename_i q
    have q2 : y < x := q
    have : ¬ x < y := fun z => by
      rw [Int64.lt_iff_toInt_lt] at q2 z
      omega
    simp [this]
  · split
    · rename_i q1 q
      subst q
      simp
    · rename_i q1 q
      have q2 : ¬ y < x := q1
      have : x < y := by
        rw [Int64.lt_iff_toInt_lt] at q2 ⊢
        have : x.toInt ≠ y.toInt := fun z => q (Int64.toInt_inj.mp z)
        omega
      simp [this]
theorem lg_gt (x y : Int64) : 0 < lg_cmp x y ↔ y.toInt < x.toInt := by
  unfold lg_cmp
  rw [← Int64.lt_iff_toInt_lt]
  split
  · rename_i q
    simp [q]
  · rename_i q
    split
    · simp [q]
    · simp [q]
end XL

set_option maxRecDepth 100000 in
theorem cM_isIn {l : Launch} {E : ic_E} {h : ic_H} {sh : List ic_S} (P : Prop) [Decidable P] {v lo hi : Int64} (hP : (lo.toInt ≤ v.toInt ∧ v.toInt ≤ hi.toInt) ↔ P) : ic_C l E mX12_isIn 1 0 0 False [.long v, .long lo, .long hi] sh h sh (ic_qe (nI (ic_bo P)) h) := by
  refine ic_intro (by decide +kernel) (Nat.le_of_ble_eq_true rfl) ?_
  show xx l E _ _ 0 [(0, .long v), (2, .long lo), (4, .long hi)] _ _ _
  refine xx_lload_n (pc := 0) dX12_isIn_0 0 rfl rfl ?_
  refine xx_lload_n (pc := 1) dX12_isIn_1 1 rfl rfl ?_
  refine xx_lcmp (pc := 2) dX12_isIn_2 ?_
  refine xx_if_lt (pc := 3) 17 dX12_isIn_3 rfl (fun c1 => ?_) (fun c1 => ?_)
  · refine xx_iconst (pc := 17) dX12_isIn_17 cc_iconst_0 ?_
    rw [lg_lt] at c1
    exact xx_iret (pc := 18) dX12_isIn_18 rfl rfl (Nat.le_refl _) (Nat.le_refl _) (ic_re (ic_bo_f fun z => by have := hP.mpr z; omega).symm)
  · refine xx_lload_n (pc := 6) dX12_isIn_6 0 rfl rfl ?_
    refine xx_lload (pc := 7) dX12_isIn_7 2 rfl ?_
    refine xx_lcmp (pc := 9) dX12_isIn_9 ?_
    rw [lg_lt] at c1
    refine xx_if_gt (pc := 10) 17 dX12_isIn_10 rfl (fun c2 => ?_) (fun c2 => ?_)
    · refine xx_iconst (pc := 17) dX12_isIn_17 cc_iconst_0 ?_
      rw [lg_gt] at c2
      exact xx_iret (pc := 18) dX12_isIn_18 rfl rfl (Nat.le_refl _) (Nat.le_refl _) (ic_re (ic_bo_f fun z => by have := hP.mpr z; omega).symm)
    · refine xx_iconst (pc := 13) dX12_isIn_13 cc_iconst_1 ?_
      refine xx_goto (pc := 14) 18 dX12_isIn_14 rfl ?_
      have c3 : ¬ hi.toInt < v.toInt := fun z => by have := (lg_gt v hi).mpr z; exact absurd this c2
      exact xx_iret (pc := 18) dX12_isIn_18 rfl rfl (Nat.le_refl _) (Nat.le_refl _) (ic_re (ic_bo_t (hP.mp ⟨by omega, by omega⟩)).symm)

set_option maxHeartbeats 4000000 in
set_option maxRecDepth 100000 in
theorem cM_its {l : Launch} {E : ic_E} {w : ic_w} {o k : Nat} (ho : o < 6) (hk : k < 6) : ic_C l E mX12_its 1 0 0 False [ic_pt E 114, .int (nI o), .int (nI k)] SHs (hn w) SHs (ic_qe (nI (it (w 115) o k)) (hn w)) := by
  refine ic_intro (by decide +kernel) (Nat.le_of_ble_eq_true rfl) ?_
  show xx l E _ _ 0 [(0, ic_pt E 114), (1, .int (nI o)), (2, .int (nI k))] _ _ _
  refine xx_aload_nP (pc := 0) dX12_its_0 0 rfl rfl ?_
  refine xx_getR (pc := 1) 115 dX12_its_1 sh_114 fX12_7_12 rfl rfl (by decide) ?_
  refine xx_bipush (pc := 4) dX12_its_4 cc_bipush_8 ?_
  refine xx_bipush (pc := 6) dX12_its_6 cc_bipush_6 ?_
  refine xx_iload_n (pc := 8) dX12_its_8 1 rfl rfl ?_
  refine xx_imulN (pc := 9) dX12_its_9 ?_
  refine xx_iaddN (pc := 10) dX12_its_10 ?_
  refine xx_iload_n (pc := 11) dX12_its_11 2 rfl rfl ?_
  refine xx_iaddN (pc := 12) dX12_its_12 ?_
  refine xx_ialdE (j2 := 8 + k + 6 * o) (pc := 13) dX12_its_13 sh_115 (by omega) (by omega) (by decide) ?_
  exact xx_iret (pc := 14) dX12_its_14 rfl (rfl) (Nat.le_refl _) (Nat.le_refl _) (ic_re (by unfold it; congr 1; omega))

set_option maxHeartbeats 4000000 in
set_option maxRecDepth 100000 in
theorem cM_crowdOf {l : Launch} {E : ic_E} {w : ic_w} {t : Nat} (ht : t < 2 ^ 31) : ic_C l E mX12_crowdOf 1 0 0 False [ic_pt E 114, .int (nI t)] SHs (hn w) SHs (ic_qe (nI (mo_crowd (w 115) t)) (hn w)) := by
  refine ic_intro (by decide +kernel) (Nat.le_of_ble_eq_true rfl) ?_
  show xx l E _ _ 0 [(0, ic_pt E 114), (1, .int (nI t))] _ _ _
  refine xx_iload_n (pc := 0) dX12_crowdOf_0 1 rfl rfl ?_
  refine xx_bipush (pc := 1) dX12_crowdOf_1 cc_bipush_16 ?_
  refine xx_icmp_geN (pc := 3) 18 dX12_crowdOf_3 rfl (by omega) (by omega) (fun c1 => ?_) (fun c1 => ?_)
  · refine xx_iconst (pc := 18) dX12_crowdOf_18 cc_iconst_0 ?_
    exact xx_iret (pc := 19) dX12_crowdOf_19 rfl (rfl) (Nat.le_refl _) (Nat.le_refl _) (ic_re (by simp [mo_crowd, *]; try omega))
  · refine xx_aload_nP (pc := 6) dX12_crowdOf_6 0 rfl rfl ?_
    refine xx_getR (pc := 7) 115 dX12_crowdOf_7 sh_114 fX12_7_12 rfl rfl (by decide) ?_
    refine xx_bipush (pc := 10) dX12_crowdOf_10 cc_bipush_56 ?_
    refine xx_iload_n (pc := 12) dX12_crowdOf_12 1 rfl rfl ?_
    refine xx_iaddN (pc := 13) dX12_crowdOf_13 ?_
    refine xx_ialdN (pc := 14) dX12_crowdOf_14 sh_115 (by omega) (by decide) ?_
    refine xx_goto (pc := 15) 19 dX12_crowdOf_15 rfl ?_
    exact xx_iret (pc := 19) dX12_crowdOf_19 rfl (rfl) (Nat.le_refl _) (Nat.le_refl _) (ic_re (by simp [mo_crowd, *]; try omega))

set_option maxHeartbeats 4000000 in
set_option maxRecDepth 100000 in
theorem cM_least {l : Launch} {E : ic_E} {w : ic_w} {a b : Nat} (ha : a < 2 ^ 31) (hb : b < 2 ^ 31) : ic_C l E mX12_least 1 0 0 False [.int (nI a), .int (nI b)] SHs (hn w) SHs (ic_qe (nI (min a b)) (hn w)) := by
  refine ic_intro (by decide +kernel) (Nat.le_of_ble_eq_true rfl) ?_
  show xx l E _ _ 0 [(0, .int (nI a)), (1, .int (nI b))] _ _ _
  refine xx_iload_n (pc := 0) dX12_least_0 0 rfl rfl ?_
  refine xx_iload_n (pc := 1) dX12_least_1 1 rfl rfl ?_
  refine xx_icmp_geN (pc := 2) 9 dX12_least_2 rfl (by omega) (by omega) (fun c1 => ?_) (fun c1 => ?_)
  · refine xx_iload_n (pc := 9) dX12_least_9 1 rfl rfl ?_
    exact xx_iret (pc := 10) dX12_least_10 rfl (rfl) (Nat.le_refl _) (Nat.le_refl _) (ic_re (by omega))
  · refine xx_iload_n (pc := 5) dX12_least_5 0 rfl rfl ?_
    refine xx_goto (pc := 6) 10 dX12_least_6 rfl ?_
    exact xx_iret (pc := 10) dX12_least_10 rfl (rfl) (Nat.le_refl _) (Nat.le_refl _) (ic_re (by omega))

set_option maxHeartbeats 4000000 in
set_option maxRecDepth 100000 in
theorem cM_greatest {l : Launch} {E : ic_E} {w : ic_w} {a b : Nat} (ha : a < 2 ^ 31) (hb : b < 2 ^ 31) : ic_C l E mX12_greatest 1 0 0 False [.int (nI a), .int (nI b)] SHs (hn w) SHs (ic_qe (nI (max a b)) (hn w)) := by
  refine ic_intro (by decide +kernel) (Nat.le_of_ble_eq_true rfl) ?_
  show xx l E _ _ 0 [(0, .int (nI a)), (1, .int (nI b))] _ _ _
  refine xx_iload_n (pc := 0) dX12_greatest_0 0 rfl rfl ?_
  refine xx_iload_n (pc := 1) dX12_greatest_1 1 rfl rfl ?_
  refine xx_icmp_leN (pc := 2) 9 dX12_greatest_2 rfl (by omega) (by omega) (fun c1 => ?_) (fun c1 => ?_)
  · refine xx_iload_n (pc := 9) dX12_greatest_9 1 rfl rfl ?_
    exact xx_iret (pc := 10) dX12_greatest_10 rfl (rfl) (Nat.le_refl _) (Nat.le_refl _) (ic_re (by omega))
  · refine xx_iload_n (pc := 5) dX12_greatest_5 0 rfl rfl ?_
    refine xx_goto (pc := 6) 10 dX12_greatest_6 rfl ?_
    exact xx_iret (pc := 10) dX12_greatest_10 rfl (rfl) (Nat.le_refl _) (Nat.le_refl _) (ic_re (by omega))

