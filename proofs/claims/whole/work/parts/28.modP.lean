/-! plans told in rows -/
/-- a first best plan can be gone: its acts are acts, and there are trains enough -/
def mo_ok (b t T : Nat) (x : mo_X) : Prop := (∀ j, j < x.1 18 → x.2 j ≤ b) ∧ t + x.1 18 ≤ T
theorem mo_up_ok {b t T k sum few out : Nat} {acts : Nat → Nat} {x : mo_X} (h : mo_ok b t T x) (ha : ∀ j, j < k → acts j ≤ b) (ht : t + k ≤ T) : mo_ok b t T (mo_up x k sum few out acts) := by
  by_cases q : mo_bt x.1 sum
  · refine ⟨?_, ?_⟩
    · show ∀ j, j < (if mo_bt x.1 sum then k else x.1 18) → (if mo_bt x.1 sum then acts else x.2) j ≤ b
      rw [if_pos q, if_pos q]
      exact ha
    · show t + (if mo_bt x.1 sum then k else x.1 18) ≤ T
      rw [if_pos q]
      exact ht
  · refine ⟨?_, ?_⟩
    · show ∀ j, j < (if mo_bt x.1 sum then k else x.1 18) → (if mo_bt x.1 sum then acts else x.2) j ≤ b
      rw [if_neg q, if_neg q]
      exact h.1
    · show t + (if mo_bt x.1 sum then k else x.1 18) ≤ T
      rw [if_neg q]
      exact h.2
theorem mo_pln_ok {b t T : Nat} : ∀ (m : Nat) (s : Nat → Nat) (k sum few : Nat) (acts : Nat → Nat) (x : mo_X), In s → s 0 = b → s 1 = t + k → s 2 = T → (∀ j, j < k → acts j ≤ b) → mo_ok b t T x → mo_ok b t T (mo_pln m s k sum few acts x)
  | 0, s, k, sum, few, acts, x, hi, h0, h1, h2, ha, hx => mo_up_ok hx ha (by have := hi.t; omega)
  | m + 1, s, k, sum, few, acts, x, hi, h0, h1, h2, ha, hx => by
    have ht := hi.t
    have hn0 := hi.n
    rw [mo_pln]
    split
    · exact mo_up_ok hx ha (by omega)
    · have key : ∀ n, n ≤ s 0 + 1 → mo_ok b t T (mo_fold (fun a y => mo_pln m (mo_go s a) (k + 1) (sum + mo_worth s a) (if a = 0 then few else few + 1) (fu acts k a) y) n x) := by
        intro n
        induction n with
        | zero => exact fun _ => hx
        | succ n ih =>
          intro hn
          rw [mo_fold]
          refine mo_pln_ok m _ _ _ _ _ _ (In_go hi (by omega) (by omega)) ?_ ?_ ?_ ?_ (ih (by omega))
          · rw [mo_go_r _ (by omega) (by omega) (by omega)]
            exact h0
          · rw [mo_go_1]
            omega
          · rw [mo_go_r _ (by omega) (by omega) (by omega)]
            exact h2
          · intro j hj
            unfold fu
            split
            · omega
            · exact ha j (by omega)
      exact key _ (Nat.le_refl _)
theorem mo_sm_ok {s : Nat → Nat} (h : In s) (n want : Nat) : mo_ok (s 0) (s 1) (s 2) (mo_sm s n want) := mo_pln_ok n s 0 0 0 _ _ h rfl rfl rfl (fun j hj => absurd hj (Nat.not_lt_zero _)) ⟨fun j hj => absurd hj (Nat.not_lt_zero _), by have := h.t; exact this.1⟩
theorem mo_outs_lt {s : Nat → Nat} (h : s 0 ≤ 6) : mo_outs s < 64 := Nat.lt_of_lt_of_le (mo_set_lt _ _) (Nat.pow_le_pow_right (n := 2) (by omega) (show s 0 ≤ 6 by omega))
/-- the trains of q from s on, and their rows -/
def mo_prw (q : Nat → Nat) (s R : Nat → Nat) : Nat → (Nat → Nat) × (Nat → Nat)
  | 0 => (s, R)
  | i + 1 => (mo_go (mo_prw q s R i).1 (q i), fu (fu (fu (mo_prw q s R i).2 (3 * i) (q i)) (1 + 3 * i) (mo_worth (mo_prw q s R i).1 (q i))) (2 + 3 * i) (mo_outs (mo_go (mo_prw q s R i).1 (q i))))
def mo_s3 (w w2 : ic_w) : Prop := (∀ a, mo_kr a = true → a ≠ 125 → w2 a = w a) ∧ ∀ k, mo_kf k = true → k ≠ 28 → w2 114 k = w 114 k
def mo_jd (R : Nat → Nat) : Nat → (Nat → Nat) → Nat → Nat
  | 0, _, _ => 0
  | n + 1, s, i => if R (3 * i) ≤ s 0 ∧ s 1 < s 2 ∧ mo_worth s (R (3 * i)) = R (1 + 3 * i) ∧ mo_outs (mo_go s (R (3 * i))) = R (2 + 3 * i) then mo_jd R n (mo_go s (R (3 * i))) (i + 1) else i + 1
theorem ll_row {a r : Nat} (ha : a < 2 ^ 32) (hr : r ≤ 4) : ((0 : Int64).toInt ≤ ((nI a).toInt64).toInt ∧ ((nI a).toInt64).toInt ≤ ((nI (r + (4294967296 - 1))).toInt64).toInt) ↔ a < r := by
  rw [ll_i ha, ← nI_mod (r + (4294967296 - 1)), ll_i (Nat.mod_lt _ (by decide)), show (0 : Int64).toInt = 0 from rfl]
  split <;> split <;> omega

set_option maxHeartbeats 4000000 in
set_option maxRecDepth 100000 in
theorem cM_isRow {l : Launch} {E : ic_E} {w : ic_w} {a : Nat} (ha_ : a < 2 ^ 32) {b : Nat} (hb_ : b < 2 ^ 32) (h28 : w 114 28 ≤ 4) : ic_C l E mX12_isRow 2 0 0 False [ic_pt E 114, .int (nI a), .int (nI b)] SHs (hn w) SHs (ic_qe (nI (ic_bo (a < w 114 28 ∧ b ≤ 2))) (hn w)) := by
  refine ic_intro (by decide +kernel) (Nat.le_of_ble_eq_true rfl) ?_
  show xx l E _ _ 0 [(0, ic_pt E 114), (1, .int (nI a)), (2, .int (nI b))] _ _ _
  refine xx_iload_n (pc := 0) dX12_isRow_0 1 rfl rfl ?_
  refine xx_i2l (pc := 1) dX12_isRow_1 ?_
  refine xx_lconst (v := 0) (pc := 2) dX12_isRow_2 rfl ?_
  refine xx_aload_nP (pc := 3) dX12_isRow_3 0 rfl rfl ?_
  refine xx_getN (pc := 4) dX12_isRow_4 sh_114 fX12_341_12 rfl ?_
  refine xx_iconst (pc := 7) dX12_isRow_7 cc_iconst_1 ?_
  refine xx_isubW (pc := 8) dX12_isRow_8 (by omega) ?_
  refine xx_i2l (pc := 9) dX12_isRow_9 ?_
  refine xx_callS0 (pc := 10) (st := []) (cM_isIn (a < w 114 28) (ll_row (by omega) (by omega))) kX12_isIn sX12_66 dX12_isRow_10 rfl rfl (Nat.le_of_ble_eq_true rfl) ⟨Nat.le_of_ble_eq_true rfl, Nat.le_of_ble_eq_true rfl⟩ ⟨Nat.zero_le _, Nat.zero_le _⟩ (ic_ke ?_)
  refine xx_if_eqB (pc := 13) 32 dX12_isRow_13 rfl (fun c1 => ?_) (fun c1 => ?_)
  · refine xx_iconst (pc := 32) dX12_isRow_32 cc_iconst_0 ?_
    exact xx_iret (pc := 33) dX12_isRow_33 rfl (rfl) (Nat.le_refl _) (Nat.le_refl _) (ic_re (ic_bo_f (by omega)).symm)
  · refine xx_iload_n (pc := 16) dX12_isRow_16 2 rfl rfl ?_
    refine xx_i2l (pc := 17) dX12_isRow_17 ?_
    refine xx_lconst (v := 0) (pc := 18) dX12_isRow_18 rfl ?_
    refine xx_ldc2 (v := 2) (pc := 19) dX12_isRow_19 oX12_99 ?_
    refine xx_callS0 (pc := 22) (st := []) (cM_isIn (0 ≤ b ∧ b ≤ 2) (ll_in (lo := 0) (hi := 2) (by omega) (by decide) (by decide) (by omega))) kX12_isIn sX12_66 dX12_isRow_22 rfl rfl (Nat.le_of_ble_eq_true rfl) ⟨Nat.le_of_ble_eq_true rfl, Nat.le_of_ble_eq_true rfl⟩ ⟨Nat.zero_le _, Nat.zero_le _⟩ (ic_ke ?_)
    refine xx_if_eqB (pc := 25) 32 dX12_isRow_25 rfl (fun c2 => ?_) (fun c2 => ?_)
    · refine xx_iconst (pc := 32) dX12_isRow_32 cc_iconst_0 ?_
      exact xx_iret (pc := 33) dX12_isRow_33 rfl (rfl) (Nat.le_refl _) (Nat.le_refl _) (ic_re (ic_bo_f (by omega)).symm)
    · refine xx_iconst (pc := 28) dX12_isRow_28 cc_iconst_1 ?_
      refine xx_goto (pc := 29) 33 dX12_isRow_29 rfl ?_
      exact xx_iret (pc := 33) dX12_isRow_33 rfl (rfl) (Nat.le_refl _) (Nat.le_refl _) (ic_re (ic_bo_t (by omega)).symm)

set_option maxHeartbeats 4000000 in
set_option maxRecDepth 100000 in
theorem cM_row {l : Launch} {E : ic_E} {w : ic_w} {a : Nat} (ha_ : a < 2 ^ 32) {b : Nat} (hb_ : b < 2 ^ 32) (h28 : w 114 28 ≤ 4) : ic_C l E mX12_row 3 0 0 False [ic_pt E 114, .int (nI a), .int (nI b)] SHs (hn w) SHs (ic_qe (nI (if a < w 114 28 ∧ b ≤ 2 then w 125 (3 * a + b) else 4294967287)) (hn w)) := by
  refine ic_intro (by decide +kernel) (Nat.le_of_ble_eq_true rfl) ?_
  show xx l E _ _ 0 [(0, ic_pt E 114), (1, .int (nI a)), (2, .int (nI b))] _ _ _
  refine xx_aload_nP (pc := 0) dX12_row_0 0 rfl rfl ?_
  refine xx_iload_n (pc := 1) dX12_row_1 1 rfl rfl ?_
  refine xx_iload_n (pc := 2) dX12_row_2 2 rfl rfl ?_
  refine xx_callV0 (pc := 3) (st := []) sh_114 (cM_isRow (w := w) (a := a) (b := b) (by omega) (by omega) (by omega)) kX12_isRow vX12_344_12 dX12_row_3 rfl rfl (Nat.le_of_ble_eq_true rfl) ⟨Nat.le_of_ble_eq_true rfl, Nat.le_of_ble_eq_true rfl⟩ ⟨Nat.zero_le _, Nat.zero_le _⟩ (ic_ke ?_)
  refine xx_if_eqB (pc := 6) 22 dX12_row_6 rfl (fun c1 => ?_) (fun c1 => ?_)
  · refine xx_bipush (pc := 22) dX12_row_22 cc_bipush_m9 ?_
    exact xx_iret (pc := 24) dX12_row_24 rfl (rfl) (Nat.le_refl _) (Nat.le_refl _) (ic_re (if_neg (by omega)).symm)
  · refine xx_aload_nP (pc := 9) dX12_row_9 0 rfl rfl ?_
    refine xx_getR (pc := 10) 125 dX12_row_10 sh_114 fX12_40_12 rfl rfl (by decide) ?_
    refine xx_iconst (pc := 13) dX12_row_13 cc_iconst_3 ?_
    refine xx_iload_n (pc := 14) dX12_row_14 1 rfl rfl ?_
    refine xx_imulN (pc := 15) dX12_row_15 ?_
    refine xx_iload_n (pc := 16) dX12_row_16 2 rfl rfl ?_
    refine xx_iaddN (pc := 17) dX12_row_17 ?_
    refine xx_ialdE (j2 := 3 * a + b) (pc := 18) dX12_row_18 sh_125 (by omega) (by omega) (by decide) ?_
    refine xx_goto (pc := 19) 24 dX12_row_19 rfl ?_
    exact xx_iret (pc := 24) dX12_row_24 rfl (rfl) (Nat.le_refl _) (Nat.le_refl _) (ic_re (if_pos (by omega)).symm)

set_option maxHeartbeats 4000000 in
set_option maxRecDepth 100000 in
theorem cM_alterRow {l : Launch} {E : ic_E} {w : ic_w} {a : Nat} (ha_ : a < 2 ^ 32) {b : Nat} (hb_ : b < 2 ^ 32) {v : Nat} (hv_ : v < 2 ^ 32) (h28 : w 114 28 ≤ 4) : ic_C l E mX12_alterRow 3 0 0 False [ic_pt E 114, .int (nI a), .int (nI b), .int (nI v)] SHs (hn w) SHs (ic_qi (fun v_ h_ => v_ = nI (if a < w 114 28 ∧ b ≤ 2 then w 125 (3 * a + b) else 4294967287) ∧ h_ = hn (if a < w 114 28 ∧ b ≤ 2 then wu w 125 (3 * a + b) v else w))) := by
  refine ic_intro (by decide +kernel) (Nat.le_of_ble_eq_true rfl) ?_
  show xx l E _ _ 0 [(0, ic_pt E 114), (1, .int (nI a)), (2, .int (nI b)), (3, .int (nI v))] _ _ _
  refine xx_aload_nP (pc := 0) dX12_alterRow_0 0 rfl rfl ?_
  refine xx_iload_n (pc := 1) dX12_alterRow_1 1 rfl rfl ?_
  refine xx_iload_n (pc := 2) dX12_alterRow_2 2 rfl rfl ?_
  refine xx_callV0 (pc := 3) (st := []) sh_114 (cM_isRow (w := w) (a := a) (b := b) (by omega) (by omega) (by omega)) kX12_isRow vX12_344_12 dX12_alterRow_3 rfl rfl (Nat.le_of_ble_eq_true rfl) ⟨Nat.le_of_ble_eq_true rfl, Nat.le_of_ble_eq_true rfl⟩ ⟨Nat.zero_le _, Nat.zero_le _⟩ (ic_ke ?_)
  refine xx_if_neB (pc := 6) 12 dX12_alterRow_6 rfl (fun c1 => ?_) (fun c1 => ?_)
  · refine xx_aload_nP (pc := 12) dX12_alterRow_12 0 rfl rfl ?_
    refine xx_getR (pc := 13) 125 dX12_alterRow_13 sh_114 fX12_40_12 rfl rfl (by decide) ?_
    refine xx_iconst (pc := 16) dX12_alterRow_16 cc_iconst_3 ?_
    refine xx_iload_n (pc := 17) dX12_alterRow_17 1 rfl rfl ?_
    refine xx_imulN (pc := 18) dX12_alterRow_18 ?_
    refine xx_iload_n (pc := 19) dX12_alterRow_19 2 rfl rfl ?_
    refine xx_iaddN (pc := 20) dX12_alterRow_20 ?_
    refine xx_ialdE (j2 := 3 * a + b) (pc := 21) dX12_alterRow_21 sh_125 (by omega) (by omega) (by decide) ?_
    refine xx_istore (L' := [(4, .int (nI (w 125 (3 * a + b)))), (0, ic_pt E 114), (1, .int (nI a)), (2, .int (nI b)), (3, .int (nI v))]) (pc := 22) dX12_alterRow_22 (Nat.le_of_ble_eq_true rfl) rfl ?_
    refine xx_aload_nP (pc := 24) dX12_alterRow_24 1 rfl rfl ?_
    refine xx_getR (pc := 25) 125 dX12_alterRow_25 sh_114 fX12_40_12 rfl rfl (by decide) ?_
    refine xx_iconst (pc := 28) dX12_alterRow_28 cc_iconst_3 ?_
    refine xx_iload_n (pc := 29) dX12_alterRow_29 2 rfl rfl ?_
    refine xx_imulN (pc := 30) dX12_alterRow_30 ?_
    refine xx_iload_n (pc := 31) dX12_alterRow_31 3 rfl rfl ?_
    refine xx_iaddN (pc := 32) dX12_alterRow_32 ?_
    refine xx_iload_n (pc := 33) dX12_alterRow_33 4 rfl rfl ?_
    refine xx_iastE (j2 := 3 * a + b) (pc := 34) dX12_alterRow_34 sh_125 (by omega) (by omega) (by decide) ?_
    refine xx_nw (fun w2 ew2 => ?_)
    refine xx_iload (pc := 35) dX12_alterRow_35 0 rfl ?_
    exact xx_iret (pc := 37) dX12_alterRow_37 rfl (rfl) (Nat.le_refl _) (Nat.le_refl _) (ic_ri ⟨by rw [if_pos (by omega)], by rw [if_pos (by omega), ew2]⟩)
  · refine xx_bipush (pc := 9) dX12_alterRow_9 cc_bipush_m9 ?_
    exact xx_iret (pc := 11) dX12_alterRow_11 rfl (rfl) (Nat.le_refl _) (Nat.le_refl _) (ic_ri ⟨by rw [if_neg (by omega)], by rw [if_neg (by omega)]⟩)

set_option maxHeartbeats 4000000 in
set_option maxRecDepth 100000 in
theorem cM_isAct {l : Launch} {E : ic_E} {w : ic_w} {a : Nat} (ha_ : a < 2 ^ 32) (hI : In (w 115)) : ic_C l E mX12_isAct 2 0 0 False [ic_pt E 114, .int (nI a)] SHs (hn w) SHs (ic_qe (nI (ic_bo (a ≤ w 115 0))) (hn w)) := by
  refine ic_intro (by decide +kernel) (Nat.le_of_ble_eq_true rfl) ?_
  show xx l E _ _ 0 [(0, ic_pt E 114), (1, .int (nI a))] _ _ _
  have hn0 := hI.n
  refine xx_iload_n (pc := 0) dX12_isAct_0 1 rfl rfl ?_
  refine xx_i2l (pc := 1) dX12_isAct_1 ?_
  refine xx_lconst (v := 0) (pc := 2) dX12_isAct_2 rfl ?_
  refine xx_aload_nP (pc := 3) dX12_isAct_3 0 rfl rfl ?_
  refine xx_getR (pc := 4) 115 dX12_isAct_4 sh_114 fX12_7_12 rfl rfl (by decide) ?_
  refine xx_iconst (pc := 7) dX12_isAct_7 cc_iconst_0 ?_
  refine xx_ialdN (pc := 8) dX12_isAct_8 sh_115 (by omega) (by decide) ?_
  refine xx_i2l (pc := 9) dX12_isAct_9 ?_
  refine xx_callS0 (pc := 10) (st := []) (cM_isIn (0 ≤ a ∧ a ≤ (w 115 0)) (ll_in (lo := 0) (hi := w 115 0) (by omega) (by decide) (ll_nn (by omega)) (by omega))) kX12_isIn sX12_66 dX12_isAct_10 rfl rfl (Nat.le_of_ble_eq_true rfl) ⟨Nat.le_of_ble_eq_true rfl, Nat.le_of_ble_eq_true rfl⟩ ⟨Nat.zero_le _, Nat.zero_le _⟩ (ic_ke ?_)
  exact xx_iret (pc := 13) dX12_isAct_13 rfl (ic_nbo) (Nat.le_refl _) (Nat.le_refl _) (ic_re (ic_bo_iff (by omega)))

set_option maxHeartbeats 4000000 in
set_option maxRecDepth 100000 in
theorem cM_prove {l : Launch} {E : ic_E} {w : ic_w} {n : Nat} (hn_ : n < 2 ^ 32) (hI : In (w 115)) (hR : Ru (w 115)) : ic_C l E mX12_prove 17 0 0 False [ic_pt E 114, .int (nI n)] SHs (hn w) SHs (ic_qi (fun v_ h_ => v_ = nI (if n ≤ 4 then (mo_sm (w 115) n 0).1 18 else 4294967295) ∧ ∃ w2, h_ = hn w2 ∧ (if n ≤ 4 then (mo_s3 w w2 ∧ w2 125 = (mo_prw (mo_sm (w 115) n 0).2 (w 115) (w 125) ((mo_sm (w 115) n 0).1 18)).2 ∧ w2 114 28 = (mo_sm (w 115) n 0).1 18) else w2 = w))) := by
  refine ic_intro (by decide +kernel) (Nat.le_of_ble_eq_true rfl) ?_
  show xx l E _ _ 0 [(0, ic_pt E 114), (1, .int (nI n))] _ _ _
  have htt := hI.t
  have hn0 := hI.n
  refine xx_iload_n (pc := 0) dX12_prove_0 1 rfl rfl ?_
  refine xx_callS0 (pc := 1) (st := []) (cM_isLong (w := w) (a := n) (by omega)) kX12_isLong sX12_300 dX12_prove_1 rfl rfl (Nat.le_of_ble_eq_true rfl) ⟨Nat.le_of_ble_eq_true rfl, Nat.le_of_ble_eq_true rfl⟩ ⟨Nat.zero_le _, Nat.zero_le _⟩ (ic_ke ?_)
  refine xx_if_neB (pc := 4) 9 dX12_prove_4 rfl (fun c1 => ?_) (fun c1 => ?_)
  · refine xx_aload_nP (pc := 9) dX12_prove_9 0 rfl rfl ?_
    refine xx_iload_n (pc := 10) dX12_prove_10 1 rfl rfl ?_
    refine xx_iconst (pc := 11) dX12_prove_11 cc_iconst_0 ?_
    refine xx_callV0 (pc := 12) (st := []) sh_114 (cM_findsPlans (w := w) (n := n) (want := 0) (by omega) (by omega) hI hR) kX12_findsPlans vX12_303_12 dX12_prove_12 rfl rfl (Nat.le_of_ble_eq_true rfl) ⟨Nat.le_of_ble_eq_true rfl, Nat.le_of_ble_eq_true rfl⟩ ⟨Nat.zero_le _, Nat.zero_le _⟩ (ic_kv (fun h_ qw2 => ?_))
    obtain ⟨w2, rfl, s2_w2, x_w2⟩ := qw2
    have r_w2 : w2 115 = w 115 := mo_s2_115 s2_w2
    have hI_w2 : In (w2 115) := by rw [r_w2]; exact hI
    have hR_w2 : Ru (w2 115) := by rw [r_w2]; exact hR
    have p16_w2 : w2 114 16 = (mo_sm (w 115) n 0).1 16 := x_w2.1 16 (by omega) (by omega)
    have p17_w2 : w2 114 17 = (mo_sm (w 115) n 0).1 17 := x_w2.1 17 (by omega) (by omega)
    have p18_w2 : w2 114 18 = (mo_sm (w 115) n 0).1 18 := x_w2.1 18 (by omega) (by omega)
    have p19_w2 : w2 114 19 = (mo_sm (w 115) n 0).1 19 := x_w2.1 19 (by omega) (by omega)
    have p20_w2 : w2 114 20 = (mo_sm (w 115) n 0).1 20 := x_w2.1 20 (by omega) (by omega)
    have p21_w2 : w2 114 21 = (mo_sm (w 115) n 0).1 21 := x_w2.1 21 (by omega) (by omega)
    have pb_w2 := x_w2.2.2
    refine xx_aload_nP (pc := 15) dX12_prove_15 0 rfl rfl ?_
    refine xx_iconst (pc := 16) dX12_prove_16 cc_iconst_0 ?_
    refine xx_callV0 (pc := 17) (st := []) sh_114 (cM_laysAside (w := w2) (lv := 0) (by omega)) kX12_laysAside vX12_251_12 dX12_prove_17 rfl rfl (Nat.le_of_ble_eq_true rfl) ⟨Nat.le_of_ble_eq_true rfl, Nat.le_of_ble_eq_true rfl⟩ ⟨Nat.zero_le _, Nat.zero_le _⟩ (ic_kv (fun h_ qw4 => ?_))
    obtain rfl := qw4
    refine xx_nw (fun w4 ew4 => ?_)
    refine xx_iconst (pc := 20) dX12_prove_20 cc_iconst_0 ?_
    refine xx_istore_n (L' := [(2, .int (nI 0)), (0, ic_pt E 114), (1, .int (nI n))]) (pc := 21) dX12_prove_21 rfl (Nat.le_of_ble_eq_true rfl) rfl ?_
    have hok := mo_sm_ok hI n 0
    have rW : w4 115 = w 115 := by rw [ew4, wr_n _ (by omega), r_w2]
    have rW5 : w4 125 = w 125 := by rw [ew4, wr_n _ (by omega)]; exact s2_w2.1 125 (by decide)
    have lp : ∀ (n_ : Nat) (i : Nat) (u : ic_w), i ≤ (mo_sm (w 115) n 0).1 18 → (u 115, u 125) = (mo_prw (mo_sm (w 115) n 0).2 (w 115) (w 125) i) → In (u 115) → Ru (u 115) → u 115 0 = w 115 0 → u 115 1 = w 115 1 + i → u 115 2 = w 115 2 → (∀ k, 44 ≤ k → u 115 k = w 115 k) → (∀ a, a ≠ 115 → a ≠ 120 → a ≠ 125 → u a = w4 a) → (mo_sm (w 115) n 0).1 18 - i < n_ → xx l E (ic_fr E mX12_prove 17 0 0 False SHs (ic_qi (fun v_ h_ => v_ = nI (if n ≤ 4 then (mo_sm (w 115) n 0).1 18 else 4294967295) ∧ ∃ w2, h_ = hn w2 ∧ (if n ≤ 4 then (mo_s3 w w2 ∧ w2 125 = (mo_prw (mo_sm (w 115) n 0).2 (w 115) (w 125) ((mo_sm (w 115) n 0).1 18)).2 ∧ w2 114 28 = (mo_sm (w 115) n 0).1 18) else w2 = w)))) (0, 0) 22 [(2, .int (nI i)), (0, ic_pt E 114), (1, .int (nI n))] [] SHs (hn u) := by
      intro n_
      induction n_ with
      | zero => intro i u hi18 hp hI_u hR_u e0 e1 e2 h44 hr hm_; exact absurd hm_ (Nat.not_lt_zero _)
      | succ n_ ih_ =>
        intro i u hi18 hp hI_u hR_u e0 e1 e2 h44 hr hm_
        have u18 : u 114 18 = (mo_sm (w 115) n 0).1 18 := by rw [hr 114 (by omega) (by omega) (by omega), ew4, wr_n _ (by omega)]; exact p18_w2
        have hok2 := hok.2
        refine xx_iload_n (pc := 22) dX12_prove_22 0 rfl rfl ?_
        refine xx_aload_nP (pc := 23) dX12_prove_23 1 rfl rfl ?_
        refine xx_getN (pc := 24) dX12_prove_24 sh_114 fX12_282_12 rfl ?_
        refine xx_icmp_geN (pc := 27) 84 dX12_prove_27 rfl (by omega) (by omega) (fun c56 => ?_) (fun c56 => ?_)
        · refine xx_aload_nP (pc := 84) dX12_prove_84 1 rfl rfl ?_
          refine xx_iconst (pc := 85) dX12_prove_85 cc_iconst_0 ?_
          refine xx_callV0 (pc := 86) (st := []) sh_114 (cM_laysBack (w := u) (lv := 0) (by omega)) kX12_laysBack vX12_255_12 dX12_prove_86 rfl rfl (Nat.le_of_ble_eq_true rfl) ⟨Nat.le_of_ble_eq_true rfl, Nat.le_of_ble_eq_true rfl⟩ ⟨Nat.zero_le _, Nat.zero_le _⟩ (ic_kv (fun h_ qw57 => ?_))
          obtain rfl := qw57
          refine xx_nw (fun w57 ew57 => ?_)
          have v18 : w57 114 18 = (mo_sm (w 115) n 0).1 18 := by rw [ew57, wr_n _ (by omega), hr 114 (by omega) (by omega) (by omega), ew4, wr_n _ (by omega)]; exact p18_w2
          have hb125 : w57 125 = (mo_prw (mo_sm (w 115) n 0).2 (w 115) (w 125) ((mo_sm (w 115) n 0).1 18)).2 := by rw [ew57, wr_n _ (by omega), ← show i = (mo_sm (w 115) n 0).1 18 by omega, ← hp]
          have hbk : ∀ a, mo_kr a = true → a ≠ 125 → w57 a = w a := by
            intro a q q1
            have z := of_decide_eq_true q
            by_cases y : a = 115
            · subst y
              rw [ew57, wr_s]
              funext k
              unfold mo_cp
              by_cases x : k < 44
              · rw [if_pos (by omega), hr 117 (by omega) (by omega) (by omega), ew4, wr_s]
                unfold mo_cp
                rw [if_pos (by omega), r_w2]
                congr 1
                omega
              · rw [if_neg (by omega)]
                exact h44 k (by omega)
            · rw [ew57, wr_n _ y, hr a y (by omega) q1, ew4, wr_n _ (by omega)]
              exact s2_w2.1 a q
          have hbf : ∀ j, mo_kf j = true → w57 114 j = w 114 j := fun j q => by rw [ew57, wr_n _ (by omega), hr 114 (by omega) (by omega) (by omega), ew4, wr_n _ (by omega)]; exact s2_w2.2 j q
          refine xx_aload_nP (pc := 89) dX12_prove_89 1 rfl rfl ?_
          refine xx_aload_nP (pc := 90) dX12_prove_90 1 rfl rfl ?_
          refine xx_getN (pc := 91) dX12_prove_91 sh_114 fX12_282_12 rfl ?_
          refine xx_putN (pc := 94) dX12_prove_94 sh_114 fX12_341_12 rfl rfl ?_
          refine xx_nw (fun w59 ew59 => ?_)
          refine xx_aload_nP (pc := 97) dX12_prove_97 1 rfl rfl ?_
          refine xx_getN (pc := 98) dX12_prove_98 sh_114 fX12_341_12 rfl ?_
          exact xx_iret (pc := 101) dX12_prove_101 rfl (rfl) (Nat.le_refl _) (Nat.le_refl _) (ic_ri ⟨by rw [if_pos (by omega), ew59, wu_s, v18], w59, rfl, by rw [if_pos (by omega)]; exact ⟨⟨fun a q q1 => by rw [ew59, wu_row _ _ _ (fun z => by rw [z] at q; revert q; decide)]; exact hbk a q q1, fun j q q1 => by rw [ew59, wu_k _ _ _ _ q1]; exact hbf j q⟩, by rw [ew59, wu_row _ _ _ (by omega), hb125], by rw [ew59, wu_s, v18]⟩⟩)
        · have q122 : u 122 i = (mo_sm (w 115) n 0).2 i := by rw [hr 122 (by omega) (by omega) (by omega), ew4, wr_n _ (by omega)]; exact x_w2.2.1 i (by omega)
          have hqb := hok.1 i (by omega)
          refine xx_aload_nP (pc := 30) dX12_prove_30 1 rfl rfl ?_
          refine xx_getR (pc := 31) 125 dX12_prove_31 sh_114 fX12_40_12 rfl rfl (by decide) ?_
          refine xx_iconst (pc := 34) dX12_prove_34 cc_iconst_3 ?_
          refine xx_iload_n (pc := 35) dX12_prove_35 0 rfl rfl ?_
          refine xx_imulN (pc := 36) dX12_prove_36 ?_
          refine xx_aload_nP (pc := 37) dX12_prove_37 1 rfl rfl ?_
          refine xx_getR (pc := 38) 122 dX12_prove_38 sh_114 fX12_31_12 rfl rfl (by decide) ?_
          refine xx_iload_n (pc := 41) dX12_prove_41 0 rfl rfl ?_
          refine xx_ialdN (pc := 42) dX12_prove_42 sh_122 (by omega) (by decide) ?_
          refine xx_iastN (pc := 43) dX12_prove_43 sh_125 (by omega) (by decide) ?_
          refine xx_nw (fun w60 ew60 => ?_)
          have r_w60 : w60 115 = u 115 := by rw [ew60, wu_row _ _ _ (by omega)]
          have hI_w60 : In (w60 115) := by rw [r_w60]; exact hI_u
          have hR_w60 : Ru (w60 115) := by rw [r_w60]; exact hR_u
          have b122 : w60 122 i = (mo_sm (w 115) n 0).2 i := by rw [ew60, wu_o _ _ _ _ (by omega), q122]
          have b0 : w60 115 0 = w 115 0 := by rw [r_w60, e0]
          have b1 : w60 115 1 = w 115 1 + i := by rw [r_w60, e1]
          have b2 : w60 115 2 = w 115 2 := by rw [r_w60, e2]
          refine xx_aload_nP (pc := 44) dX12_prove_44 1 rfl rfl ?_
          refine xx_getR (pc := 45) 125 dX12_prove_45 sh_114 fX12_40_12 rfl rfl (by decide) ?_
          refine xx_iconst (pc := 48) dX12_prove_48 cc_iconst_3 ?_
          refine xx_iload_n (pc := 49) dX12_prove_49 0 rfl rfl ?_
          refine xx_imulN (pc := 50) dX12_prove_50 ?_
          refine xx_iconst (pc := 51) dX12_prove_51 cc_iconst_1 ?_
          refine xx_iaddN (pc := 52) dX12_prove_52 ?_
          refine xx_aload_nP (pc := 53) dX12_prove_53 1 rfl rfl ?_
          refine xx_aload_nP (pc := 54) dX12_prove_54 1 rfl rfl ?_
          refine xx_getR (pc := 55) 122 dX12_prove_55 sh_114 fX12_31_12 rfl rfl (by decide) ?_
          refine xx_iload_n (pc := 58) dX12_prove_58 0 rfl rfl ?_
          refine xx_ialdN (pc := 59) dX12_prove_59 sh_122 (by omega) (by decide) ?_
          have hwl_x61 := mo_worth_le hI_w60 (act := w60 122 i) (by omega)
          refine xx_callV0 (pc := 60) (st := [.int (nI ((3 * i) + 1)), ic_pt E 125]) sh_114 (cM_goesWith (w := w60) (act := w60 122 i) (by omega) (by omega) hI_w60 hR_w60 (by omega)) kX12_goesWith vX12_248_12 dX12_prove_60 rfl rfl (Nat.le_of_ble_eq_true rfl) ⟨Nat.le_of_ble_eq_true rfl, Nat.le_of_ble_eq_true rfl⟩ ⟨Nat.zero_le _, Nat.zero_le _⟩ (ic_ki (fun v63 h_ qw62 => ?_))
          obtain ⟨rfl, w62, rfl, gw62⟩ := qw62
          have hI_w62 : In (w62 115) := by rw [gw62.1]; exact In_go hI_w60 (by omega) (by omega)
          have hR_w62 : Ru (w62 115) := by rw [gw62.1]; exact Ru_go hR_w60 hI_w60 (by omega)
          refine xx_iastE (j2 := 1 + 3 * i) (pc := 63) dX12_prove_63 sh_125 (by omega) (by omega) (by decide) ?_
          refine xx_nw (fun w64 ew64 => ?_)
          have r_w64 : w64 115 = w62 115 := by rw [ew64, wu_row _ _ _ (by omega)]
          have hI_w64 : In (w64 115) := by rw [r_w64]; exact hI_w62
          refine xx_aload_nP (pc := 64) dX12_prove_64 1 rfl rfl ?_
          refine xx_getR (pc := 65) 125 dX12_prove_65 sh_114 fX12_40_12 rfl rfl (by decide) ?_
          refine xx_iconst (pc := 68) dX12_prove_68 cc_iconst_3 ?_
          refine xx_iload_n (pc := 69) dX12_prove_69 0 rfl rfl ?_
          refine xx_imulN (pc := 70) dX12_prove_70 ?_
          refine xx_iconst (pc := 71) dX12_prove_71 cc_iconst_2 ?_
          refine xx_iaddN (pc := 72) dX12_prove_72 ?_
          refine xx_aload_nP (pc := 73) dX12_prove_73 1 rfl rfl ?_
          refine xx_callV0 (pc := 74) (st := [.int (nI ((3 * i) + 2)), ic_pt E 125]) sh_114 (cM_outOnes (w := w64) hI_w64) kX12_outOnes vX12_144_12 dX12_prove_74 rfl rfl (Nat.le_of_ble_eq_true rfl) ⟨Nat.le_of_ble_eq_true rfl, Nat.le_of_ble_eq_true rfl⟩ ⟨Nat.zero_le _, Nat.zero_le _⟩ (ic_ke ?_)
          refine xx_iastE (j2 := 2 + 3 * i) (pc := 77) dX12_prove_77 sh_125 (by omega) (by omega) (by decide) ?_
          refine xx_nw (fun w65 ew65 => ?_)
          refine xx_iincN (L' := [(2, .int (nI (i + 1))), (0, ic_pt E 114), (1, .int (nI n))]) (pc := 78) dX12_prove_78 0 rfl cc_iconst_1 (Nat.le_of_ble_eq_true rfl) rfl ?_
          refine xx_goto (pc := 81) 22 dX12_prove_81 rfl ?_
          have hs : (w65 115, w65 125) = mo_prw (mo_sm (w 115) n 0).2 (w 115) (w 125) (i + 1) := by
            rw [mo_prw, ← hp]
            have s1 : w65 115 = mo_go (u 115) ((mo_sm (w 115) n 0).2 i) := by rw [ew65, wu_row _ _ _ (by omega), r_w64, gw62.1, r_w60, b122]
            have s2 : w65 125 = fu (fu (fu (u 125) (3 * i) ((mo_sm (w 115) n 0).2 i)) (1 + 3 * i) (mo_worth (u 115) ((mo_sm (w 115) n 0).2 i))) (2 + 3 * i) (mo_outs (mo_go (u 115) ((mo_sm (w 115) n 0).2 i))) := by
              rw [ew65, wu_wr, wr_s, r_w64, gw62.1, ew64, wu_wr, wr_s, gw62.2 125 (by omega) (by omega), r_w60, b122, ew60, wu_wr, wr_s, q122]
            rw [s1, s2]
          have t0 : w65 115 = mo_go (w60 115) (w60 122 i) := by rw [ew65, wu_row _ _ _ (by omega), r_w64, gw62.1]
          exact xx_sub [0, 1, 2] rfl (ih_ (i + 1) w65 (by omega) hs (by rw [t0]; exact In_go hI_w60 (by omega) (by omega)) (by rw [t0]; exact Ru_go hR_w60 hI_w60 (by omega)) (by rw [t0, mo_go_r _ (by omega) (by omega) (by omega), b0]) (by rw [t0, mo_go_1, b1]; omega) (by rw [t0, mo_go_r _ (by omega) (by omega) (by omega), b2]) (fun k hk => by rw [t0, mo_go_r _ (by omega) (by omega) (by omega), r_w60]; exact h44 k hk) (fun a q1 q2 q3 => by rw [ew65, wu_row _ _ _ q3, ew64, wu_row _ _ _ q3, gw62.2 a q1 q2, ew60, wu_row _ _ _ q3]; exact hr a q1 q2 q3) (by omega))
    exact xx_sub [0, 1, 2] rfl (lp ((mo_sm (w 115) n 0).1 18 + 1) 0 w4 (by omega) (by rw [rW, rW5]; rfl) (by rw [rW]; exact hI) (by rw [rW]; exact hR) (by rw [rW]) (by rw [rW]; rfl) (by rw [rW]) (fun k _ => by rw [rW]) (fun _ _ _ _ => rfl) (by omega))
  · refine xx_iconst (pc := 7) dX12_prove_7 cc_iconst_m1 ?_
    exact xx_iret (pc := 8) dX12_prove_8 rfl (rfl) (Nat.le_refl _) (Nat.le_refl _) (ic_ri ⟨by rw [if_neg (by omega)], w, rfl, by rw [if_neg (by omega)]⟩)

set_option maxHeartbeats 4000000 in
set_option maxRecDepth 100000 in
theorem cM_judge {l : Launch} {E : ic_E} {w : ic_w} (hI : In (w 115)) (hR : Ru (w 115)) (h28 : w 114 28 ≤ 4) (h125 : ∀ j, j < 12 → w 125 j < 2 ^ 32) : ic_C l E mX12_judge 8 0 0 False [ic_pt E 114] SHs (hn w) SHs (ic_qi (fun v_ h_ => v_ = nI (mo_jd (w 125) (w 114 28) (w 115) 0) ∧ ∃ w2, h_ = hn w2 ∧ mo_sc w w2)) := by
  refine ic_intro (by decide +kernel) (Nat.le_of_ble_eq_true rfl) ?_
  show xx l E _ _ 0 [(0, ic_pt E 114)] _ _ _
  refine xx_aload_nP (pc := 0) dX12_judge_0 0 rfl rfl ?_
  refine xx_iconst (pc := 1) dX12_judge_1 cc_iconst_0 ?_
  refine xx_callV0 (pc := 2) (st := []) sh_114 (cM_laysAside (w := w) (lv := 0) (by omega)) kX12_laysAside vX12_251_12 dX12_judge_2 rfl rfl (Nat.le_of_ble_eq_true rfl) ⟨Nat.le_of_ble_eq_true rfl, Nat.le_of_ble_eq_true rfl⟩ ⟨Nat.zero_le _, Nat.zero_le _⟩ (ic_kv (fun h_ qw1 => ?_))
  obtain rfl := qw1
  refine xx_nw (fun w1 ew1 => ?_)
  refine xx_iconst (pc := 5) dX12_judge_5 cc_iconst_0 ?_
  refine xx_istore_n (L' := [(1, .int (nI 0)), (0, ic_pt E 114)]) (pc := 6) dX12_judge_6 rfl (Nat.le_of_ble_eq_true rfl) rfl ?_
  refine xx_iconst (pc := 7) dX12_judge_7 cc_iconst_1 ?_
  refine xx_istore_n (L' := [(2, .int (nI 1)), (1, .int (nI 0)), (0, ic_pt E 114)]) (pc := 8) dX12_judge_8 rfl (Nat.le_of_ble_eq_true rfl) rfl ?_
  have rW : w1 115 = w 115 := by rw [ew1, wr_n _ (by omega)]
  have rW5 : w1 125 = w 125 := by rw [ew1, wr_n _ (by omega)]
  have lp : ∀ (n_ : Nat) (i : Nat) (u : ic_w), i ≤ w 114 28 → mo_jd (w 125) (w 114 28) (w 115) 0 = mo_jd (u 125) (w 114 28 - i) (u 115) i → In (u 115) → Ru (u 115) → (∀ k, 44 ≤ k → u 115 k = w 115 k) → (∀ a, a ≠ 115 → a ≠ 120 → u a = w1 a) → w 114 28 - i < n_ → xx l E (ic_fr E mX12_judge 8 0 0 False SHs (ic_qi (fun v_ h_ => v_ = nI (mo_jd (w 125) (w 114 28) (w 115) 0) ∧ ∃ w2, h_ = hn w2 ∧ mo_sc w w2))) (0, 0) 9 [(2, .int (nI 1)), (1, .int (nI i)), (0, ic_pt E 114)] [] SHs (hn u) := by
    intro n_
    induction n_ with
    | zero => intro i u hi hq hI_u hR_u h44 hr hm_; exact absurd hm_ (Nat.not_lt_zero _)
    | succ n_ ih_ =>
      intro i u hi hq hI_u hR_u h44 hr hm_
      have e28 : u 114 28 = w 114 28 := by rw [hr 114 (by omega) (by omega), ew1, wr_n _ (by omega)]
      have r5 : u 125 = w 125 := by rw [hr 125 (by omega) (by omega), rW5]
      have ht_u := hI_u.t
      have hn_u := hI_u.n
      have v0 : i < 4 → u 125 (3 * i) < 2 ^ 32 := fun z => by rw [r5]; exact h125 _ (by omega)
      have v1 : i < 4 → u 125 (1 + 3 * i) < 2 ^ 32 := fun z => by rw [r5]; exact h125 _ (by omega)
      have v2 : i < 4 → u 125 (2 + 3 * i) < 2 ^ 32 := fun z => by rw [r5]; exact h125 _ (by omega)
      refine xx_iload_n (pc := 9) dX12_judge_9 1 rfl rfl ?_
      refine xx_aload_nP (pc := 10) dX12_judge_10 2 rfl rfl ?_
      refine xx_getN (pc := 11) dX12_judge_11 sh_114 fX12_341_12 rfl ?_
      refine xx_icmp_geN (pc := 14) 97 dX12_judge_14 rfl (by omega) (by omega) (fun c53 => ?_) (fun c53 => ?_)
      · refine xx_aload_nP (pc := 97) dX12_judge_97 2 rfl rfl ?_
        refine xx_iconst (pc := 98) dX12_judge_98 cc_iconst_0 ?_
        refine xx_callV0 (pc := 99) (st := []) sh_114 (cM_laysBack (w := u) (lv := 0) (by omega)) kX12_laysBack vX12_255_12 dX12_judge_99 rfl rfl (Nat.le_of_ble_eq_true rfl) ⟨Nat.le_of_ble_eq_true rfl, Nat.le_of_ble_eq_true rfl⟩ ⟨Nat.zero_le _, Nat.zero_le _⟩ (ic_kv (fun h_ qw54 => ?_))
        obtain rfl := qw54
        refine xx_nw (fun w54 ew54 => ?_)
        refine xx_iload_n (pc := 102) dX12_judge_102 0 rfl rfl ?_
        refine xx_if_eqN (pc := 103) 110 dX12_judge_103 rfl (by omega) (fun c56 => by exfalso; omega) (fun c56 => ?_)
        refine xx_iconst (pc := 106) dX12_judge_106 cc_iconst_0 ?_
        refine xx_goto (pc := 107) 111 dX12_judge_107 rfl ?_
        exact xx_iret (pc := 111) dX12_judge_111 rfl (rfl) (Nat.le_refl _) (Nat.le_refl _) (ic_ri ⟨by rw [hq, show w 114 28 - i = 0 by omega]; rfl, w54, rfl, by rw [ew54]; exact mo_back h44 (fun j hj => by rw [hr 117 (by omega) (by omega), ew1, wr_s]; unfold mo_cp; rw [if_pos (by omega)]; congr 1; omega) (fun a q1 q2 q3 => by rw [hr a q1 q3, ew1, wr_n _ q2])⟩)
      · refine xx_iload_n (pc := 17) dX12_judge_17 0 rfl rfl ?_
        refine xx_if_eqN (pc := 18) 97 dX12_judge_18 rfl (by omega) (fun c57 => by exfalso; omega) (fun c57 => ?_)
        refine xx_aload_nP (pc := 21) dX12_judge_21 2 rfl rfl ?_
        refine xx_aload_nP (pc := 22) dX12_judge_22 2 rfl rfl ?_
        refine xx_getR (pc := 23) 125 dX12_judge_23 sh_114 fX12_40_12 rfl rfl (by decide) ?_
        refine xx_iconst (pc := 26) dX12_judge_26 cc_iconst_3 ?_
        refine xx_iload_n (pc := 27) dX12_judge_27 1 rfl rfl ?_
        refine xx_imulN (pc := 28) dX12_judge_28 ?_
        refine xx_ialdN (pc := 29) dX12_judge_29 sh_125 (by omega) (by decide) ?_
        refine xx_callV0 (pc := 30) (st := []) sh_114 (cM_isAct (w := u) (a := u 125 (3 * i)) (by omega) hI_u) kX12_isAct vX12_347_12 dX12_judge_30 rfl rfl (Nat.le_of_ble_eq_true rfl) ⟨Nat.le_of_ble_eq_true rfl, Nat.le_of_ble_eq_true rfl⟩ ⟨Nat.zero_le _, Nat.zero_le _⟩ (ic_ke ?_)
        refine xx_if_eqB (pc := 33) 89 dX12_judge_33 rfl (fun c58 => ?_) (fun c58 => ?_)
        · refine xx_iconst (pc := 89) dX12_judge_89 cc_iconst_0 ?_
          refine xx_istore_n (L' := [(2, .int (nI 0)), (1, .int (nI i)), (0, ic_pt E 114)]) (pc := 90) dX12_judge_90 rfl (Nat.le_of_ble_eq_true rfl) rfl ?_
          refine xx_iincN (L' := [(1, .int (nI (i + 1))), (2, .int (nI 0)), (0, ic_pt E 114)]) (pc := 91) dX12_judge_91 1 rfl cc_iconst_1 (Nat.le_of_ble_eq_true rfl) rfl ?_
          refine xx_goto (pc := 94) 9 dX12_judge_94 rfl ?_
          have hz : mo_jd (w 125) (w 114 28) (w 115) 0 = i + 1 := by rw [hq, show w 114 28 - i = (w 114 28 - (i + 1)) + 1 by omega, mo_jd, if_neg (by omega)]
          have x44 : ∀ k, 44 ≤ k → u 115 k = w 115 k := h44
          have xr : ∀ a, a ≠ 115 → a ≠ 120 → u a = w1 a := hr
          have x28 : u 114 28 = w 114 28 := by rw [xr 114 (by omega) (by omega), ew1, wr_n _ (by omega)]
          refine xx_iload_n (pc := 9) dX12_judge_9 0 rfl rfl ?_
          refine xx_aload_nP (pc := 10) dX12_judge_10 2 rfl rfl ?_
          refine xx_getN (pc := 11) dX12_judge_11 sh_114 fX12_341_12 rfl ?_
          refine xx_icmp_geN (pc := 14) 97 dX12_judge_14 rfl (by omega) (by omega) (fun c959 => ?_) (fun c959 => ?_)
          · refine xx_aload_nP (pc := 97) dX12_judge_97 2 rfl rfl ?_
            refine xx_iconst (pc := 98) dX12_judge_98 cc_iconst_0 ?_
            refine xx_callV0 (pc := 99) (st := []) sh_114 (cM_laysBack (w := u) (lv := 0) (by omega)) kX12_laysBack vX12_255_12 dX12_judge_99 rfl rfl (Nat.le_of_ble_eq_true rfl) ⟨Nat.le_of_ble_eq_true rfl, Nat.le_of_ble_eq_true rfl⟩ ⟨Nat.zero_le _, Nat.zero_le _⟩ (ic_kv (fun h_ qw960 => ?_))
            obtain rfl := qw960
            refine xx_nw (fun w960 ew960 => ?_)
            refine xx_iload_n (pc := 102) dX12_judge_102 1 rfl rfl ?_
            refine xx_if_eqN (pc := 103) 110 dX12_judge_103 rfl (by omega) (fun c962 => ?_) (fun c962 => by exfalso; omega)
            refine xx_iload_n (pc := 110) dX12_judge_110 0 rfl rfl ?_
            exact xx_iret (pc := 111) dX12_judge_111 rfl (rfl) (Nat.le_refl _) (Nat.le_refl _) (ic_ri ⟨by rw [hz], w960, rfl, by rw [ew960]; exact mo_back x44 (fun j hj => by rw [xr 117 (by omega) (by omega), ew1, wr_s]; unfold mo_cp; rw [if_pos (by omega)]; congr 1; omega) (fun a q1 q2 q3 => by rw [xr a q1 q3, ew1, wr_n _ q2])⟩)
          · refine xx_iload_n (pc := 17) dX12_judge_17 1 rfl rfl ?_
            refine xx_if_eqN (pc := 18) 97 dX12_judge_18 rfl (by omega) (fun c963 => ?_) (fun c963 => by exfalso; omega)
            refine xx_aload_nP (pc := 97) dX12_judge_97 2 rfl rfl ?_
            refine xx_iconst (pc := 98) dX12_judge_98 cc_iconst_0 ?_
            refine xx_callV0 (pc := 99) (st := []) sh_114 (cM_laysBack (w := u) (lv := 0) (by omega)) kX12_laysBack vX12_255_12 dX12_judge_99 rfl rfl (Nat.le_of_ble_eq_true rfl) ⟨Nat.le_of_ble_eq_true rfl, Nat.le_of_ble_eq_true rfl⟩ ⟨Nat.zero_le _, Nat.zero_le _⟩ (ic_kv (fun h_ qw964 => ?_))
            obtain rfl := qw964
            refine xx_nw (fun w964 ew964 => ?_)
            refine xx_iload_n (pc := 102) dX12_judge_102 1 rfl rfl ?_
            refine xx_if_eqN (pc := 103) 110 dX12_judge_103 rfl (by omega) (fun c966 => ?_) (fun c966 => by exfalso; omega)
            refine xx_iload_n (pc := 110) dX12_judge_110 0 rfl rfl ?_
            exact xx_iret (pc := 111) dX12_judge_111 rfl (rfl) (Nat.le_refl _) (Nat.le_refl _) (ic_ri ⟨by rw [hz], w964, rfl, by rw [ew964]; exact mo_back x44 (fun j hj => by rw [xr 117 (by omega) (by omega), ew1, wr_s]; unfold mo_cp; rw [if_pos (by omega)]; congr 1; omega) (fun a q1 q2 q3 => by rw [xr a q1 q3, ew1, wr_n _ q2])⟩)
        · refine xx_aload_nP (pc := 36) dX12_judge_36 2 rfl rfl ?_
          refine xx_callV0 (pc := 37) (st := []) sh_114 (cM_isOver (w := u) hI_u) kX12_isOver vX12_140_12 dX12_judge_37 rfl rfl (Nat.le_of_ble_eq_true rfl) ⟨Nat.le_of_ble_eq_true rfl, Nat.le_of_ble_eq_true rfl⟩ ⟨Nat.zero_le _, Nat.zero_le _⟩ (ic_ke ?_)
          refine xx_if_neB (pc := 40) 89 dX12_judge_40 rfl (fun c59 => ?_) (fun c59 => ?_)
          · refine xx_iconst (pc := 89) dX12_judge_89 cc_iconst_0 ?_
            refine xx_istore_n (L' := [(2, .int (nI 0)), (1, .int (nI i)), (0, ic_pt E 114)]) (pc := 90) dX12_judge_90 rfl (Nat.le_of_ble_eq_true rfl) rfl ?_
            refine xx_iincN (L' := [(1, .int (nI (i + 1))), (2, .int (nI 0)), (0, ic_pt E 114)]) (pc := 91) dX12_judge_91 1 rfl cc_iconst_1 (Nat.le_of_ble_eq_true rfl) rfl ?_
            refine xx_goto (pc := 94) 9 dX12_judge_94 rfl ?_
            have hz : mo_jd (w 125) (w 114 28) (w 115) 0 = i + 1 := by rw [hq, show w 114 28 - i = (w 114 28 - (i + 1)) + 1 by omega, mo_jd, if_neg (by omega)]
            have x44 : ∀ k, 44 ≤ k → u 115 k = w 115 k := h44
            have xr : ∀ a, a ≠ 115 → a ≠ 120 → u a = w1 a := hr
            have x28 : u 114 28 = w 114 28 := by rw [xr 114 (by omega) (by omega), ew1, wr_n _ (by omega)]
            refine xx_iload_n (pc := 9) dX12_judge_9 0 rfl rfl ?_
            refine xx_aload_nP (pc := 10) dX12_judge_10 2 rfl rfl ?_
            refine xx_getN (pc := 11) dX12_judge_11 sh_114 fX12_341_12 rfl ?_
            refine xx_icmp_geN (pc := 14) 97 dX12_judge_14 rfl (by omega) (by omega) (fun c960 => ?_) (fun c960 => ?_)
            · refine xx_aload_nP (pc := 97) dX12_judge_97 2 rfl rfl ?_
              refine xx_iconst (pc := 98) dX12_judge_98 cc_iconst_0 ?_
              refine xx_callV0 (pc := 99) (st := []) sh_114 (cM_laysBack (w := u) (lv := 0) (by omega)) kX12_laysBack vX12_255_12 dX12_judge_99 rfl rfl (Nat.le_of_ble_eq_true rfl) ⟨Nat.le_of_ble_eq_true rfl, Nat.le_of_ble_eq_true rfl⟩ ⟨Nat.zero_le _, Nat.zero_le _⟩ (ic_kv (fun h_ qw961 => ?_))
              obtain rfl := qw961
              refine xx_nw (fun w961 ew961 => ?_)
              refine xx_iload_n (pc := 102) dX12_judge_102 1 rfl rfl ?_
              refine xx_if_eqN (pc := 103) 110 dX12_judge_103 rfl (by omega) (fun c963 => ?_) (fun c963 => by exfalso; omega)
              refine xx_iload_n (pc := 110) dX12_judge_110 0 rfl rfl ?_
              exact xx_iret (pc := 111) dX12_judge_111 rfl (rfl) (Nat.le_refl _) (Nat.le_refl _) (ic_ri ⟨by rw [hz], w961, rfl, by rw [ew961]; exact mo_back x44 (fun j hj => by rw [xr 117 (by omega) (by omega), ew1, wr_s]; unfold mo_cp; rw [if_pos (by omega)]; congr 1; omega) (fun a q1 q2 q3 => by rw [xr a q1 q3, ew1, wr_n _ q2])⟩)
            · refine xx_iload_n (pc := 17) dX12_judge_17 1 rfl rfl ?_
              refine xx_if_eqN (pc := 18) 97 dX12_judge_18 rfl (by omega) (fun c964 => ?_) (fun c964 => by exfalso; omega)
              refine xx_aload_nP (pc := 97) dX12_judge_97 2 rfl rfl ?_
              refine xx_iconst (pc := 98) dX12_judge_98 cc_iconst_0 ?_
              refine xx_callV0 (pc := 99) (st := []) sh_114 (cM_laysBack (w := u) (lv := 0) (by omega)) kX12_laysBack vX12_255_12 dX12_judge_99 rfl rfl (Nat.le_of_ble_eq_true rfl) ⟨Nat.le_of_ble_eq_true rfl, Nat.le_of_ble_eq_true rfl⟩ ⟨Nat.zero_le _, Nat.zero_le _⟩ (ic_kv (fun h_ qw965 => ?_))
              obtain rfl := qw965
              refine xx_nw (fun w965 ew965 => ?_)
              refine xx_iload_n (pc := 102) dX12_judge_102 1 rfl rfl ?_
              refine xx_if_eqN (pc := 103) 110 dX12_judge_103 rfl (by omega) (fun c967 => ?_) (fun c967 => by exfalso; omega)
              refine xx_iload_n (pc := 110) dX12_judge_110 0 rfl rfl ?_
              exact xx_iret (pc := 111) dX12_judge_111 rfl (rfl) (Nat.le_refl _) (Nat.le_refl _) (ic_ri ⟨by rw [hz], w965, rfl, by rw [ew965]; exact mo_back x44 (fun j hj => by rw [xr 117 (by omega) (by omega), ew1, wr_s]; unfold mo_cp; rw [if_pos (by omega)]; congr 1; omega) (fun a q1 q2 q3 => by rw [xr a q1 q3, ew1, wr_n _ q2])⟩)
          · refine xx_aload_nP (pc := 43) dX12_judge_43 2 rfl rfl ?_
            refine xx_aload_nP (pc := 44) dX12_judge_44 2 rfl rfl ?_
            refine xx_getR (pc := 45) 125 dX12_judge_45 sh_114 fX12_40_12 rfl rfl (by decide) ?_
            refine xx_iconst (pc := 48) dX12_judge_48 cc_iconst_3 ?_
            refine xx_iload_n (pc := 49) dX12_judge_49 1 rfl rfl ?_
            refine xx_imulN (pc := 50) dX12_judge_50 ?_
            refine xx_ialdN (pc := 51) dX12_judge_51 sh_125 (by omega) (by decide) ?_
            have hac : u 125 (3 * i) ≤ 6 := by omega
            have hwl_x60 := mo_worth_le hI_u (act := u 125 (3 * i)) (by omega)
            refine xx_callV0 (pc := 52) (st := []) sh_114 (cM_goesWith (w := u) (act := u 125 (3 * i)) (by omega) (by omega) hI_u hR_u (by omega)) kX12_goesWith vX12_248_12 dX12_judge_52 rfl rfl (Nat.le_of_ble_eq_true rfl) ⟨Nat.le_of_ble_eq_true rfl, Nat.le_of_ble_eq_true rfl⟩ ⟨Nat.zero_le _, Nat.zero_le _⟩ (ic_ki (fun v62 h_ qw61 => ?_))
            obtain ⟨rfl, w61, rfl, gw61⟩ := qw61
            have hI_w61 : In (w61 115) := by rw [gw61.1]; exact In_go hI_u (by omega) (by omega)
            have hR_w61 : Ru (w61 115) := by rw [gw61.1]; exact Ru_go hR_u hI_u (by omega)
            have hb1 : w61 125 (1 + 3 * i) = u 125 (1 + 3 * i) := by rw [gw61.2 125 (by omega) (by omega)]
            have hb2 : w61 125 (2 + 3 * i) = u 125 (2 + 3 * i) := by rw [gw61.2 125 (by omega) (by omega)]
            have hb3 : mo_outs (w61 115) = mo_outs (mo_go (u 115) (u 125 (3 * i))) := by rw [gw61.1]
            have hol := mo_outs_lt (s := w61 115) hI_w61.n
            refine xx_aload_nP (pc := 55) dX12_judge_55 2 rfl rfl ?_
            refine xx_getR (pc := 56) 125 dX12_judge_56 sh_114 fX12_40_12 rfl rfl (by decide) ?_
            refine xx_iconst (pc := 59) dX12_judge_59 cc_iconst_3 ?_
            refine xx_iload_n (pc := 60) dX12_judge_60 1 rfl rfl ?_
            refine xx_imulN (pc := 61) dX12_judge_61 ?_
            refine xx_iconst (pc := 62) dX12_judge_62 cc_iconst_1 ?_
            refine xx_iaddN (pc := 63) dX12_judge_63 ?_
            refine xx_ialdE (j2 := 1 + 3 * i) (pc := 64) dX12_judge_64 sh_125 (by omega) (by omega) (by decide) ?_
            refine xx_icmp_neN (pc := 65) 89 dX12_judge_65 rfl (by omega) (by omega) (fun c63 => ?_) (fun c63 => ?_)
            · refine xx_iconst (pc := 89) dX12_judge_89 cc_iconst_0 ?_
              refine xx_istore_n (L' := [(2, .int (nI 0)), (1, .int (nI i)), (0, ic_pt E 114)]) (pc := 90) dX12_judge_90 rfl (Nat.le_of_ble_eq_true rfl) rfl ?_
              refine xx_iincN (L' := [(1, .int (nI (i + 1))), (2, .int (nI 0)), (0, ic_pt E 114)]) (pc := 91) dX12_judge_91 1 rfl cc_iconst_1 (Nat.le_of_ble_eq_true rfl) rfl ?_
              refine xx_goto (pc := 94) 9 dX12_judge_94 rfl ?_
              have hz : mo_jd (w 125) (w 114 28) (w 115) 0 = i + 1 := by rw [hq, show w 114 28 - i = (w 114 28 - (i + 1)) + 1 by omega, mo_jd, if_neg (by omega)]
              have x44 : ∀ k, 44 ≤ k → w61 115 k = w 115 k := fun k hk => by rw [gw61.1, mo_go_r _ (by omega) (by omega) (by omega)]; exact h44 k hk
              have xr : ∀ a, a ≠ 115 → a ≠ 120 → w61 a = w1 a := fun a q1 q2 => by rw [gw61.2 a q1 q2]; exact hr a q1 q2
              have x28 : w61 114 28 = w 114 28 := by rw [xr 114 (by omega) (by omega), ew1, wr_n _ (by omega)]
              refine xx_iload_n (pc := 9) dX12_judge_9 0 rfl rfl ?_
              refine xx_aload_nP (pc := 10) dX12_judge_10 2 rfl rfl ?_
              refine xx_getN (pc := 11) dX12_judge_11 sh_114 fX12_341_12 rfl ?_
              refine xx_icmp_geN (pc := 14) 97 dX12_judge_14 rfl (by omega) (by omega) (fun c964 => ?_) (fun c964 => ?_)
              · refine xx_aload_nP (pc := 97) dX12_judge_97 2 rfl rfl ?_
                refine xx_iconst (pc := 98) dX12_judge_98 cc_iconst_0 ?_
                refine xx_callV0 (pc := 99) (st := []) sh_114 (cM_laysBack (w := w61) (lv := 0) (by omega)) kX12_laysBack vX12_255_12 dX12_judge_99 rfl rfl (Nat.le_of_ble_eq_true rfl) ⟨Nat.le_of_ble_eq_true rfl, Nat.le_of_ble_eq_true rfl⟩ ⟨Nat.zero_le _, Nat.zero_le _⟩ (ic_kv (fun h_ qw965 => ?_))
                obtain rfl := qw965
                refine xx_nw (fun w965 ew965 => ?_)
                refine xx_iload_n (pc := 102) dX12_judge_102 1 rfl rfl ?_
                refine xx_if_eqN (pc := 103) 110 dX12_judge_103 rfl (by omega) (fun c967 => ?_) (fun c967 => by exfalso; omega)
                refine xx_iload_n (pc := 110) dX12_judge_110 0 rfl rfl ?_
                exact xx_iret (pc := 111) dX12_judge_111 rfl (rfl) (Nat.le_refl _) (Nat.le_refl _) (ic_ri ⟨by rw [hz], w965, rfl, by rw [ew965]; exact mo_back x44 (fun j hj => by rw [xr 117 (by omega) (by omega), ew1, wr_s]; unfold mo_cp; rw [if_pos (by omega)]; congr 1; omega) (fun a q1 q2 q3 => by rw [xr a q1 q3, ew1, wr_n _ q2])⟩)
              · refine xx_iload_n (pc := 17) dX12_judge_17 1 rfl rfl ?_
                refine xx_if_eqN (pc := 18) 97 dX12_judge_18 rfl (by omega) (fun c968 => ?_) (fun c968 => by exfalso; omega)
                refine xx_aload_nP (pc := 97) dX12_judge_97 2 rfl rfl ?_
                refine xx_iconst (pc := 98) dX12_judge_98 cc_iconst_0 ?_
                refine xx_callV0 (pc := 99) (st := []) sh_114 (cM_laysBack (w := w61) (lv := 0) (by omega)) kX12_laysBack vX12_255_12 dX12_judge_99 rfl rfl (Nat.le_of_ble_eq_true rfl) ⟨Nat.le_of_ble_eq_true rfl, Nat.le_of_ble_eq_true rfl⟩ ⟨Nat.zero_le _, Nat.zero_le _⟩ (ic_kv (fun h_ qw969 => ?_))
                obtain rfl := qw969
                refine xx_nw (fun w969 ew969 => ?_)
                refine xx_iload_n (pc := 102) dX12_judge_102 1 rfl rfl ?_
                refine xx_if_eqN (pc := 103) 110 dX12_judge_103 rfl (by omega) (fun c971 => ?_) (fun c971 => by exfalso; omega)
                refine xx_iload_n (pc := 110) dX12_judge_110 0 rfl rfl ?_
                exact xx_iret (pc := 111) dX12_judge_111 rfl (rfl) (Nat.le_refl _) (Nat.le_refl _) (ic_ri ⟨by rw [hz], w969, rfl, by rw [ew969]; exact mo_back x44 (fun j hj => by rw [xr 117 (by omega) (by omega), ew1, wr_s]; unfold mo_cp; rw [if_pos (by omega)]; congr 1; omega) (fun a q1 q2 q3 => by rw [xr a q1 q3, ew1, wr_n _ q2])⟩)
            · refine xx_aload_nP (pc := 68) dX12_judge_68 2 rfl rfl ?_
              refine xx_callV0 (pc := 69) (st := []) sh_114 (cM_outOnes (w := w61) hI_w61) kX12_outOnes vX12_144_12 dX12_judge_69 rfl rfl (Nat.le_of_ble_eq_true rfl) ⟨Nat.le_of_ble_eq_true rfl, Nat.le_of_ble_eq_true rfl⟩ ⟨Nat.zero_le _, Nat.zero_le _⟩ (ic_ke ?_)
              refine xx_aload_nP (pc := 72) dX12_judge_72 2 rfl rfl ?_
              refine xx_getR (pc := 73) 125 dX12_judge_73 sh_114 fX12_40_12 rfl rfl (by decide) ?_
              refine xx_iconst (pc := 76) dX12_judge_76 cc_iconst_3 ?_
              refine xx_iload_n (pc := 77) dX12_judge_77 1 rfl rfl ?_
              refine xx_imulN (pc := 78) dX12_judge_78 ?_
              refine xx_iconst (pc := 79) dX12_judge_79 cc_iconst_2 ?_
              refine xx_iaddN (pc := 80) dX12_judge_80 ?_
              refine xx_ialdE (j2 := 2 + 3 * i) (pc := 81) dX12_judge_81 sh_125 (by omega) (by omega) (by decide) ?_
              refine xx_icmp_neN (pc := 82) 89 dX12_judge_82 rfl (by omega) (by omega) (fun c64 => ?_) (fun c64 => ?_)
              · refine xx_iconst (pc := 89) dX12_judge_89 cc_iconst_0 ?_
                refine xx_istore_n (L' := [(2, .int (nI 0)), (1, .int (nI i)), (0, ic_pt E 114)]) (pc := 90) dX12_judge_90 rfl (Nat.le_of_ble_eq_true rfl) rfl ?_
                refine xx_iincN (L' := [(1, .int (nI (i + 1))), (2, .int (nI 0)), (0, ic_pt E 114)]) (pc := 91) dX12_judge_91 1 rfl cc_iconst_1 (Nat.le_of_ble_eq_true rfl) rfl ?_
                refine xx_goto (pc := 94) 9 dX12_judge_94 rfl ?_
                have hz : mo_jd (w 125) (w 114 28) (w 115) 0 = i + 1 := by rw [hq, show w 114 28 - i = (w 114 28 - (i + 1)) + 1 by omega, mo_jd, if_neg (by omega)]
                have x44 : ∀ k, 44 ≤ k → w61 115 k = w 115 k := fun k hk => by rw [gw61.1, mo_go_r _ (by omega) (by omega) (by omega)]; exact h44 k hk
                have xr : ∀ a, a ≠ 115 → a ≠ 120 → w61 a = w1 a := fun a q1 q2 => by rw [gw61.2 a q1 q2]; exact hr a q1 q2
                have x28 : w61 114 28 = w 114 28 := by rw [xr 114 (by omega) (by omega), ew1, wr_n _ (by omega)]
                refine xx_iload_n (pc := 9) dX12_judge_9 0 rfl rfl ?_
                refine xx_aload_nP (pc := 10) dX12_judge_10 2 rfl rfl ?_
                refine xx_getN (pc := 11) dX12_judge_11 sh_114 fX12_341_12 rfl ?_
                refine xx_icmp_geN (pc := 14) 97 dX12_judge_14 rfl (by omega) (by omega) (fun c965 => ?_) (fun c965 => ?_)
                · refine xx_aload_nP (pc := 97) dX12_judge_97 2 rfl rfl ?_
                  refine xx_iconst (pc := 98) dX12_judge_98 cc_iconst_0 ?_
                  refine xx_callV0 (pc := 99) (st := []) sh_114 (cM_laysBack (w := w61) (lv := 0) (by omega)) kX12_laysBack vX12_255_12 dX12_judge_99 rfl rfl (Nat.le_of_ble_eq_true rfl) ⟨Nat.le_of_ble_eq_true rfl, Nat.le_of_ble_eq_true rfl⟩ ⟨Nat.zero_le _, Nat.zero_le _⟩ (ic_kv (fun h_ qw966 => ?_))
                  obtain rfl := qw966
                  refine xx_nw (fun w966 ew966 => ?_)
                  refine xx_iload_n (pc := 102) dX12_judge_102 1 rfl rfl ?_
                  refine xx_if_eqN (pc := 103) 110 dX12_judge_103 rfl (by omega) (fun c968 => ?_) (fun c968 => by exfalso; omega)
                  refine xx_iload_n (pc := 110) dX12_judge_110 0 rfl rfl ?_
                  exact xx_iret (pc := 111) dX12_judge_111 rfl (rfl) (Nat.le_refl _) (Nat.le_refl _) (ic_ri ⟨by rw [hz], w966, rfl, by rw [ew966]; exact mo_back x44 (fun j hj => by rw [xr 117 (by omega) (by omega), ew1, wr_s]; unfold mo_cp; rw [if_pos (by omega)]; congr 1; omega) (fun a q1 q2 q3 => by rw [xr a q1 q3, ew1, wr_n _ q2])⟩)
                · refine xx_iload_n (pc := 17) dX12_judge_17 1 rfl rfl ?_
                  refine xx_if_eqN (pc := 18) 97 dX12_judge_18 rfl (by omega) (fun c969 => ?_) (fun c969 => by exfalso; omega)
                  refine xx_aload_nP (pc := 97) dX12_judge_97 2 rfl rfl ?_
                  refine xx_iconst (pc := 98) dX12_judge_98 cc_iconst_0 ?_
                  refine xx_callV0 (pc := 99) (st := []) sh_114 (cM_laysBack (w := w61) (lv := 0) (by omega)) kX12_laysBack vX12_255_12 dX12_judge_99 rfl rfl (Nat.le_of_ble_eq_true rfl) ⟨Nat.le_of_ble_eq_true rfl, Nat.le_of_ble_eq_true rfl⟩ ⟨Nat.zero_le _, Nat.zero_le _⟩ (ic_kv (fun h_ qw970 => ?_))
                  obtain rfl := qw970
                  refine xx_nw (fun w970 ew970 => ?_)
                  refine xx_iload_n (pc := 102) dX12_judge_102 1 rfl rfl ?_
                  refine xx_if_eqN (pc := 103) 110 dX12_judge_103 rfl (by omega) (fun c972 => ?_) (fun c972 => by exfalso; omega)
                  refine xx_iload_n (pc := 110) dX12_judge_110 0 rfl rfl ?_
                  exact xx_iret (pc := 111) dX12_judge_111 rfl (rfl) (Nat.le_refl _) (Nat.le_refl _) (ic_ri ⟨by rw [hz], w970, rfl, by rw [ew970]; exact mo_back x44 (fun j hj => by rw [xr 117 (by omega) (by omega), ew1, wr_s]; unfold mo_cp; rw [if_pos (by omega)]; congr 1; omega) (fun a q1 q2 q3 => by rw [xr a q1 q3, ew1, wr_n _ q2])⟩)
              · refine xx_iconst (pc := 85) dX12_judge_85 cc_iconst_1 ?_
                refine xx_goto (pc := 86) 90 dX12_judge_86 rfl ?_
                refine xx_istore_n (L' := [(2, .int (nI 1)), (1, .int (nI i)), (0, ic_pt E 114)]) (pc := 90) dX12_judge_90 rfl (Nat.le_of_ble_eq_true rfl) rfl ?_
                refine xx_iincN (L' := [(1, .int (nI (i + 1))), (2, .int (nI 1)), (0, ic_pt E 114)]) (pc := 91) dX12_judge_91 1 rfl cc_iconst_1 (Nat.le_of_ble_eq_true rfl) rfl ?_
                refine xx_goto (pc := 94) 9 dX12_judge_94 rfl ?_
                have hnx : mo_jd (w 125) (w 114 28) (w 115) 0 = mo_jd (w61 125) (w 114 28 - (i + 1)) (w61 115) (i + 1) := by rw [hq, show w 114 28 - i = (w 114 28 - (i + 1)) + 1 by omega, mo_jd, if_pos (by omega), gw61.1, gw61.2 125 (by omega) (by omega)]
                exact xx_sub [1, 0, 2] rfl (ih_ (i + 1) w61 (by omega) hnx hI_w61 hR_w61 (fun k hk => by rw [gw61.1, mo_go_r _ (by omega) (by omega) (by omega)]; exact h44 k hk) (fun a q1 q2 => by rw [gw61.2 a q1 q2]; exact hr a q1 q2) (by omega))
  exact xx_sub [0, 1, 2] rfl (lp (w 114 28 + 1) 0 w1 (by omega) (by rw [rW, rW5]; rfl) (by rw [rW]; exact hI) (by rw [rW]; exact hR) (fun k _ => by rw [rW]) (fun _ _ _ => rfl) (by omega))

