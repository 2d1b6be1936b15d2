set_option maxHeartbeats 4000000 in
set_option maxRecDepth 100000 in
theorem cM_will {l : Launch} {E : ic_E} {w : ic_w} {o : Nat} (ho : o < 6) (hI : In (w 115)) (hR : Ru (w 115)) : ic_C l E mX12_will 4 0 0 False [ic_pt E 114, .int (nI o)] SHs (hn w) SHs (ic_qe (nI (mo_will (w 115) o)) (hn w)) := by
  refine ic_intro (by decide +kernel) (Nat.le_of_ble_eq_true rfl) ?_
  show xx l E _ _ 0 [(0, ic_pt E 114), (1, .int (nI o))] _ _ _
  have h5 := hI.2.2.1
  have ho5 := hI.i ho
  have lp : ∀ (n_ : Nat) (k : Nat), k ≤ w 115 5 → mo_will (w 115) o = mo_rule (w 115) o (w 115 5 - k) k → w 115 5 - k < n_ → xx l E (ic_fr E mX12_will 4 0 0 False SHs (ic_qe (nI (mo_will (w 115) o)) (hn w))) (0, 0) 2 [(2, .int (nI k)), (0, ic_pt E 114), (1, .int (nI o))] [] SHs (hn w) := by
    intro n_
    induction n_ with
    | zero => intro k hk hq hm_; exact absurd hm_ (Nat.not_lt_zero _)
    | succ n_ ih_ =>
      intro k hk hq hm_
      refine xx_iload_n (pc := 2) dX12_will_2 0 rfl rfl ?_
      refine xx_aload_nP (pc := 3) dX12_will_3 1 rfl rfl ?_
      refine xx_getR (pc := 4) 115 dX12_will_4 sh_114 fX12_7_12 rfl rfl (by decide) ?_
      refine xx_iconst (pc := 7) dX12_will_7 cc_iconst_5 ?_
      refine xx_ialdN (pc := 8) dX12_will_8 sh_115 (by omega) (by decide) ?_
      refine xx_icmp_geN (pc := 9) 64 dX12_will_9 rfl (by omega) (by omega) (fun c1 => ?_) (fun c1 => ?_)
      · refine xx_iconst (pc := 64) dX12_will_64 cc_iconst_0 ?_
        exact xx_iret (pc := 65) dX12_will_65 rfl (rfl) (Nat.le_refl _) (Nat.le_refl _) (ic_re (by rw [hq, show w 115 5 - k = 0 by omega]; rfl))
      · have hk5 := hR.1 k (by omega)
        refine xx_aload_nP (pc := 12) dX12_will_12 1 rfl rfl ?_
        refine xx_iload_n (pc := 13) dX12_will_13 2 rfl rfl ?_
        refine xx_iconst (pc := 14) dX12_will_14 cc_iconst_0 ?_
        refine xx_callV0 (pc := 15) (st := []) sh_114 (cM_its (w := w) (o := o) (k := 0) (by omega) (by omega)) kX12_its vX12_82_12 dX12_will_15 rfl rfl (Nat.le_of_ble_eq_true rfl) ⟨Nat.le_of_ble_eq_true rfl, Nat.le_of_ble_eq_true rfl⟩ ⟨Nat.zero_le _, Nat.zero_le _⟩ (ic_ke ?_)
        refine xx_aload_nP (pc := 18) dX12_will_18 1 rfl rfl ?_
        refine xx_getR (pc := 19) 115 dX12_will_19 sh_114 fX12_7_12 rfl rfl (by decide) ?_
        refine xx_bipush (pc := 22) dX12_will_22 cc_bipush_72 ?_
        refine xx_iconst (pc := 24) dX12_will_24 cc_iconst_4 ?_
        refine xx_iload_n (pc := 25) dX12_will_25 0 rfl rfl ?_
        refine xx_imulN (pc := 26) dX12_will_26 ?_
        refine xx_iaddN (pc := 27) dX12_will_27 ?_
        refine xx_ialdE (j2 := 72 + 4 * k) (pc := 28) dX12_will_28 sh_115 (by omega) (by omega) (by decide) ?_
        refine xx_callS0 (pc := 29) (st := []) (cM_isUnder (w := w) (a := it (w 115) o 0) (b := w 115 (72 + 4 * k)) (by omega) (by omega)) kX12_isUnder sX12_103 dX12_will_29 rfl rfl (Nat.le_of_ble_eq_true rfl) ⟨Nat.le_of_ble_eq_true rfl, Nat.le_of_ble_eq_true rfl⟩ ⟨Nat.zero_le _, Nat.zero_le _⟩ (ic_ke ?_)
        refine xx_if_eqB (pc := 32) 58 dX12_will_32 rfl (fun c2 => ?_) (fun c2 => ?_)
        · refine xx_iincN (L' := [(2, .int (nI (k + 1))), (0, ic_pt E 114), (1, .int (nI o))]) (pc := 58) dX12_will_58 0 rfl cc_iconst_1 (Nat.le_of_ble_eq_true rfl) rfl ?_
          refine xx_goto (pc := 61) 2 dX12_will_61 rfl ?_
          exact xx_sub [0, 1, 2] rfl (ih_ (k + 1) (by omega) (by rw [hq, show w 115 5 - k = (w 115 5 - (k + 1)) + 1 by omega, mo_rule, if_neg (by simp [*])]) (by omega))
        · refine xx_aload_nP (pc := 35) dX12_will_35 1 rfl rfl ?_
          refine xx_iload_n (pc := 36) dX12_will_36 0 rfl rfl ?_
          refine xx_iload_n (pc := 37) dX12_will_37 2 rfl rfl ?_
          refine xx_callV0 (pc := 38) (st := []) sh_114 (cM_holds (w := w) (r := k) (o := o) (by omega) (by omega) hI hR) kX12_holds vX12_107_12 dX12_will_38 rfl rfl (Nat.le_of_ble_eq_true rfl) ⟨Nat.le_of_ble_eq_true rfl, Nat.le_of_ble_eq_true rfl⟩ ⟨Nat.zero_le _, Nat.zero_le _⟩ (ic_ke ?_)
          refine xx_if_eqB (pc := 41) 58 dX12_will_41 rfl (fun c3 => ?_) (fun c3 => ?_)
          · refine xx_iincN (L' := [(2, .int (nI (k + 1))), (0, ic_pt E 114), (1, .int (nI o))]) (pc := 58) dX12_will_58 0 rfl cc_iconst_1 (Nat.le_of_ble_eq_true rfl) rfl ?_
            refine xx_goto (pc := 61) 2 dX12_will_61 rfl ?_
            exact xx_sub [0, 1, 2] rfl (ih_ (k + 1) (by omega) (by rw [hq, show w 115 5 - k = (w 115 5 - (k + 1)) + 1 by omega, mo_rule, if_neg (by simp [*])]) (by omega))
          · refine xx_aload_nP (pc := 44) dX12_will_44 1 rfl rfl ?_
            refine xx_getR (pc := 45) 115 dX12_will_45 sh_114 fX12_7_12 rfl rfl (by decide) ?_
            refine xx_bipush (pc := 48) dX12_will_48 cc_bipush_72 ?_
            refine xx_iconst (pc := 50) dX12_will_50 cc_iconst_4 ?_
            refine xx_iload_n (pc := 51) dX12_will_51 0 rfl rfl ?_
            refine xx_imulN (pc := 52) dX12_will_52 ?_
            refine xx_iaddN (pc := 53) dX12_will_53 ?_
            refine xx_iconst (pc := 54) dX12_will_54 cc_iconst_1 ?_
            refine xx_iaddN (pc := 55) dX12_will_55 ?_
            refine xx_ialdE (j2 := 73 + 4 * k) (pc := 56) dX12_will_56 sh_115 (by omega) (by omega) (by decide) ?_
            exact xx_iret (pc := 57) dX12_will_57 rfl (rfl) (Nat.le_refl _) (Nat.le_refl _) (ic_re (by rw [hq, show w 115 5 - k = (w 115 5 - (k + 1)) + 1 by omega, mo_rule, if_pos (by simp [*])]))
  refine xx_iconst (pc := 0) dX12_will_0 cc_iconst_0 ?_
  refine xx_istore_n (L' := [(2, .int (nI 0)), (0, ic_pt E 114), (1, .int (nI o))]) (pc := 1) dX12_will_1 rfl (Nat.le_of_ble_eq_true rfl) rfl ?_
  exact xx_sub [0, 1, 2] rfl (lp (w 115 5 + 1) 0 (by omega) rfl (by omega))

set_option maxHeartbeats 4000000 in
set_option maxRecDepth 100000 in
theorem cM_mayBe {l : Launch} {E : ic_E} {w : ic_w} {o : Nat} (ho : o < 6) (hI : In (w 115)) (hR : Ru (w 115)) : ic_C l E mX12_mayBe 5 0 0 False [ic_pt E 114, .int (nI o)] SHs (hn w) SHs (ic_qe (nI (ic_bo (0 < mo_pays (w 115) o ∧ mo_will (w 115) o = 0))) (hn w)) := by
  refine ic_intro (by decide +kernel) (Nat.le_of_ble_eq_true rfl) ?_
  show xx l E _ _ 0 [(0, ic_pt E 114), (1, .int (nI o))] _ _ _
  have hp := mo_pays_le hI ho
  have hw := mo_will_le hR o
  refine xx_aload_nP (pc := 0) dX12_mayBe_0 0 rfl rfl ?_
  refine xx_iload_n (pc := 1) dX12_mayBe_1 1 rfl rfl ?_
  refine xx_callV0 (pc := 2) (st := []) sh_114 (cM_pays (w := w) (o := o) (by omega) hI) kX12_pays vX12_110_12 dX12_mayBe_2 rfl rfl (Nat.le_of_ble_eq_true rfl) ⟨Nat.le_of_ble_eq_true rfl, Nat.le_of_ble_eq_true rfl⟩ ⟨Nat.zero_le _, Nat.zero_le _⟩ (ic_ke ?_)
  refine xx_if_leN (pc := 5) 20 dX12_mayBe_5 rfl (by omega) (fun c1 => ?_) (fun c1 => ?_)
  · refine xx_iconst (pc := 20) dX12_mayBe_20 cc_iconst_0 ?_
    exact xx_iret (pc := 21) dX12_mayBe_21 rfl (rfl) (Nat.le_refl _) (Nat.le_refl _) (ic_re (ic_bo_f (by omega)).symm)
  · refine xx_aload_nP (pc := 8) dX12_mayBe_8 0 rfl rfl ?_
    refine xx_iload_n (pc := 9) dX12_mayBe_9 1 rfl rfl ?_
    refine xx_callV0 (pc := 10) (st := []) sh_114 (cM_will (w := w) (o := o) (by omega) hI hR) kX12_will vX12_113_12 dX12_mayBe_10 rfl rfl (Nat.le_of_ble_eq_true rfl) ⟨Nat.le_of_ble_eq_true rfl, Nat.le_of_ble_eq_true rfl⟩ ⟨Nat.zero_le _, Nat.zero_le _⟩ (ic_ke ?_)
    refine xx_if_neN (pc := 13) 20 dX12_mayBe_13 rfl (by omega) (fun c2 => ?_) (fun c2 => ?_)
    · refine xx_iconst (pc := 20) dX12_mayBe_20 cc_iconst_0 ?_
      exact xx_iret (pc := 21) dX12_mayBe_21 rfl (rfl) (Nat.le_refl _) (Nat.le_refl _) (ic_re (ic_bo_f (by omega)).symm)
    · refine xx_iconst (pc := 16) dX12_mayBe_16 cc_iconst_1 ?_
      refine xx_goto (pc := 17) 21 dX12_mayBe_17 rfl ?_
      exact xx_iret (pc := 21) dX12_mayBe_21 rfl (rfl) (Nat.le_refl _) (Nat.le_refl _) (ic_re (ic_bo_t (by omega)).symm)

/-- a set by bits: those of n of which P holds -/
def mo_set (P : Nat → Bool) : Nat → Nat
  | 0 => 0
  | n + 1 => mo_set P n + (if P n then 2 ^ n else 0)
theorem mo_set_lt (P : Nat → Bool) : ∀ n, mo_set P n < 2 ^ n
  | 0 => by show 0 < 1; omega
  | n + 1 => by
    have := mo_set_lt P n
    rw [mo_set, Nat.pow_succ]
    split <;> omega
theorem mo_or {a n : Nat} (h : a < 2 ^ n) : a ||| 2 ^ n = a + 2 ^ n := by
  have := Nat.two_pow_add_eq_or_of_lt h 1
  rw [Nat.mul_one] at this
  rw [Nat.or_comm, ← this, Nat.add_comm]
theorem mo_set_t {P : Nat → Bool} {n : Nat} (h : P n = true) : mo_set P (n + 1) = mo_set P n ||| 2 ^ n := by rw [mo_set, if_pos h, mo_or (mo_set_lt P n)]
theorem mo_set_f {P : Nat → Bool} {n : Nat} (h : P n = false) : mo_set P (n + 1) = mo_set P n := by rw [mo_set, if_neg (by rw [h]; decide)]; rfl
def mo_outs (s : Nat → Nat) : Nat := mo_set (fun q => decide (it s q 4 = 1)) (s 0)
def mo_homes (s : Nat → Nat) : Nat := mo_set (fun q => decide (it s q 5 = it s q 3)) (s 0)
theorem mo_p2 {n : Nat} (h : n ≤ 6) : 2 ^ n ≤ 64 := Nat.pow_le_pow_right (n := 2) (by omega) h

set_option maxHeartbeats 4000000 in
set_option maxRecDepth 100000 in
theorem cM_outOnes {l : Launch} {E : ic_E} {w : ic_w} (hI : In (w 115)) : ic_C l E mX12_outOnes 2 0 0 False [ic_pt E 114] SHs (hn w) SHs (ic_qe (nI (mo_outs (w 115))) (hn w)) := by
  refine ic_intro (by decide +kernel) (Nat.le_of_ble_eq_true rfl) ?_
  show xx l E _ _ 0 [(0, ic_pt E 114)] _ _ _
  have hn0 := hI.n
  have lp : ∀ (n_ : Nat) (q c : Nat), q ≤ w 115 0 → c = mo_set (fun q => decide (it (w 115) q 4 = 1)) q → w 115 0 - q < n_ → xx l E (ic_fr E mX12_outOnes 2 0 0 False SHs (ic_qe (nI (mo_outs (w 115))) (hn w))) (0, 0) 4 [(2, .int (nI q)), (1, .int (nI c)), (0, ic_pt E 114)] [] SHs (hn w) := by
    intro n_
    induction n_ with
    | zero => intro q c hq hc hm_; exact absurd hm_ (Nat.not_lt_zero _)
    | succ n_ ih_ =>
      intro q c hq hc hm_
      refine xx_iload_n (pc := 4) dX12_outOnes_4 0 rfl rfl ?_
      refine xx_aload_nP (pc := 5) dX12_outOnes_5 2 rfl rfl ?_
      refine xx_getR (pc := 6) 115 dX12_outOnes_6 sh_114 fX12_7_12 rfl rfl (by decide) ?_
      refine xx_iconst (pc := 9) dX12_outOnes_9 cc_iconst_0 ?_
      refine xx_ialdN (pc := 10) dX12_outOnes_10 sh_115 (by omega) (by decide) ?_
      refine xx_icmp_geN (pc := 11) 31 dX12_outOnes_11 rfl (by omega) (by omega) (fun c1 => ?_) (fun c1 => ?_)
      · refine xx_iload_n (pc := 31) dX12_outOnes_31 1 rfl rfl ?_
        exact xx_iret (pc := 32) dX12_outOnes_32 rfl (rfl) (Nat.le_refl _) (Nat.le_refl _) (ic_re (by rw [hc, show q = w 115 0 by omega]; rfl))
      · have hq5 := hI.i (o := q) (by omega)
        refine xx_iload_n (pc := 14) dX12_outOnes_14 1 rfl rfl ?_
        refine xx_aload_nP (pc := 15) dX12_outOnes_15 2 rfl rfl ?_
        refine xx_iload_n (pc := 16) dX12_outOnes_16 0 rfl rfl ?_
        refine xx_iconst (pc := 17) dX12_outOnes_17 cc_iconst_4 ?_
        refine xx_callV0 (pc := 18) (st := [.int (nI c)]) sh_114 (cM_its (w := w) (o := q) (k := 4) (by omega) (by omega)) kX12_its vX12_82_12 dX12_outOnes_18 rfl rfl (Nat.le_of_ble_eq_true rfl) ⟨Nat.le_of_ble_eq_true rfl, Nat.le_of_ble_eq_true rfl⟩ ⟨Nat.zero_le _, Nat.zero_le _⟩ (ic_ke ?_)
        refine xx_iload_n (pc := 21) dX12_outOnes_21 0 rfl rfl ?_
        refine xx_ishlN (pc := 22) dX12_outOnes_22 (by omega) (by have := mo_p2 (n := q) (by omega); have hq5 := hI.i (o := q) (by omega); rcases (show it (w 115) q 4 = 0 ∨ it (w 115) q 4 = 1 by omega) with z | z <;> rw [z] <;> omega) ?_
        refine xx_iorN (pc := 23) dX12_outOnes_23 ?_
        refine xx_istore_n (L' := [(1, .int (nI (c ||| ((it (w 115) q 4) * 2 ^ q)))), (2, .int (nI q)), (0, ic_pt E 114)]) (pc := 24) dX12_outOnes_24 rfl (Nat.le_of_ble_eq_true rfl) rfl ?_
        refine xx_iincN (L' := [(2, .int (nI (q + 1))), (1, .int (nI (c ||| ((it (w 115) q 4) * 2 ^ q)))), (0, ic_pt E 114)]) (pc := 25) dX12_outOnes_25 1 rfl cc_iconst_1 (Nat.le_of_ble_eq_true rfl) rfl ?_
        refine xx_goto (pc := 28) 4 dX12_outOnes_28 rfl ?_
        have K_ : c ||| it (w 115) q 4 * 2 ^ q = mo_set (fun q => decide (it (w 115) q 4 = 1)) (q + 1) := by
          rcases (show it (w 115) q 4 = 0 ∨ it (w 115) q 4 = 1 by omega) with z | z
          · rw [z, Nat.zero_mul, Nat.or_zero, hc]; exact (mo_set_f (by simp [z])).symm
          · rw [z, Nat.one_mul, hc]; exact (mo_set_t (by simp [z])).symm
        exact xx_sub [0, 1, 2] rfl (ih_ (q + 1) _ (by omega) K_ (by omega))
  refine xx_iconst (pc := 0) dX12_outOnes_0 cc_iconst_0 ?_
  refine xx_istore_n (L' := [(1, .int (nI 0)), (0, ic_pt E 114)]) (pc := 1) dX12_outOnes_1 rfl (Nat.le_of_ble_eq_true rfl) rfl ?_
  refine xx_iconst (pc := 2) dX12_outOnes_2 cc_iconst_0 ?_
  refine xx_istore_n (L' := [(2, .int (nI 0)), (1, .int (nI 0)), (0, ic_pt E 114)]) (pc := 3) dX12_outOnes_3 rfl (Nat.le_of_ble_eq_true rfl) rfl ?_
  exact xx_sub [0, 1, 2] rfl (lp (w 115 0 + 1) 0 0 (by omega) rfl (by omega))

set_option maxHeartbeats 4000000 in
set_option maxRecDepth 100000 in
theorem cM_thoseHome {l : Launch} {E : ic_E} {w : ic_w} (hI : In (w 115)) : ic_C l E mX12_thoseHome 2 0 0 False [ic_pt E 114] SHs (hn w) SHs (ic_qe (nI (mo_homes (w 115))) (hn w)) := by
  refine ic_intro (by decide +kernel) (Nat.le_of_ble_eq_true rfl) ?_
  show xx l E _ _ 0 [(0, ic_pt E 114)] _ _ _
  have hn0 := hI.n
  have lp : ∀ (n_ : Nat) (q c : Nat), q ≤ w 115 0 → c = mo_set (fun q => decide (it (w 115) q 5 = it (w 115) q 3)) q → w 115 0 - q < n_ → xx l E (ic_fr E mX12_thoseHome 2 0 0 False SHs (ic_qe (nI (mo_homes (w 115))) (hn w))) (0, 0) 4 [(2, .int (nI q)), (1, .int (nI c)), (0, ic_pt E 114)] [] SHs (hn w) := by
    intro n_
    induction n_ with
    | zero => intro q c hq hc hm_; exact absurd hm_ (Nat.not_lt_zero _)
    | succ n_ ih_ =>
      intro q c hq hc hm_
      refine xx_iload_n (pc := 4) dX12_thoseHome_4 0 rfl rfl ?_
      refine xx_aload_nP (pc := 5) dX12_thoseHome_5 2 rfl rfl ?_
      refine xx_getR (pc := 6) 115 dX12_thoseHome_6 sh_114 fX12_7_12 rfl rfl (by decide) ?_
      refine xx_iconst (pc := 9) dX12_thoseHome_9 cc_iconst_0 ?_
      refine xx_ialdN (pc := 10) dX12_thoseHome_10 sh_115 (by omega) (by decide) ?_
      refine xx_icmp_geN (pc := 11) 45 dX12_thoseHome_11 rfl (by omega) (by omega) (fun c1 => ?_) (fun c1 => ?_)
      · refine xx_iload_n (pc := 45) dX12_thoseHome_45 1 rfl rfl ?_
        exact xx_iret (pc := 46) dX12_thoseHome_46 rfl (rfl) (Nat.le_refl _) (Nat.le_refl _) (ic_re (by rw [hc, show q = w 115 0 by omega]; rfl))
      · have hq5 := hI.i (o := q) (by omega)
        have hp2 := mo_p2 (n := q) (by omega)
        refine xx_iload_n (pc := 14) dX12_thoseHome_14 1 rfl rfl ?_
        refine xx_aload_nP (pc := 15) dX12_thoseHome_15 2 rfl rfl ?_
        refine xx_iload_n (pc := 16) dX12_thoseHome_16 0 rfl rfl ?_
        refine xx_iconst (pc := 17) dX12_thoseHome_17 cc_iconst_5 ?_
        refine xx_callV0 (pc := 18) (st := [.int (nI c)]) sh_114 (cM_its (w := w) (o := q) (k := 5) (by omega) (by omega)) kX12_its vX12_82_12 dX12_thoseHome_18 rfl rfl (Nat.le_of_ble_eq_true rfl) ⟨Nat.le_of_ble_eq_true rfl, Nat.le_of_ble_eq_true rfl⟩ ⟨Nat.zero_le _, Nat.zero_le _⟩ (ic_ke ?_)
        refine xx_aload_nP (pc := 21) dX12_thoseHome_21 2 rfl rfl ?_
        refine xx_iload_n (pc := 22) dX12_thoseHome_22 0 rfl rfl ?_
        refine xx_iconst (pc := 23) dX12_thoseHome_23 cc_iconst_3 ?_
        refine xx_callV0 (pc := 24) (st := [.int (nI (it (w 115) q 5)), .int (nI c)]) sh_114 (cM_its (w := w) (o := q) (k := 3) (by omega) (by omega)) kX12_its vX12_82_12 dX12_thoseHome_24 rfl rfl (Nat.le_of_ble_eq_true rfl) ⟨Nat.le_of_ble_eq_true rfl, Nat.le_of_ble_eq_true rfl⟩ ⟨Nat.zero_le _, Nat.zero_le _⟩ (ic_ke ?_)
        refine xx_icmp_neN (pc := 27) 36 dX12_thoseHome_27 rfl (by omega) (by omega) (fun c2 => ?_) (fun c2 => ?_)
        · refine xx_iconst (pc := 36) dX12_thoseHome_36 cc_iconst_0 ?_
          refine xx_iorN (pc := 37) dX12_thoseHome_37 ?_
          refine xx_istore_n (L' := [(1, .int (nI (c ||| 0))), (2, .int (nI q)), (0, ic_pt E 114)]) (pc := 38) dX12_thoseHome_38 rfl (Nat.le_of_ble_eq_true rfl) rfl ?_
          refine xx_iincN (L' := [(2, .int (nI (q + 1))), (1, .int (nI (c ||| 0))), (0, ic_pt E 114)]) (pc := 39) dX12_thoseHome_39 1 rfl cc_iconst_1 (Nat.le_of_ble_eq_true rfl) rfl ?_
          refine xx_goto (pc := 42) 4 dX12_thoseHome_42 rfl ?_
          exact xx_sub [0, 1, 2] rfl (ih_ (q + 1) _ (by omega) (by rw [hc]; rw [Nat.or_zero]; exact (mo_set_f (by simp [*])).symm) (by omega))
        · refine xx_iconst (pc := 30) dX12_thoseHome_30 cc_iconst_1 ?_
          refine xx_iload_n (pc := 31) dX12_thoseHome_31 0 rfl rfl ?_
          refine xx_ishlN (pc := 32) dX12_thoseHome_32 (by omega) (by omega) ?_
          refine xx_goto (pc := 33) 37 dX12_thoseHome_33 rfl ?_
          refine xx_iorN (pc := 37) dX12_thoseHome_37 ?_
          refine xx_istore_n (L' := [(1, .int (nI (c ||| (1 * 2 ^ q)))), (2, .int (nI q)), (0, ic_pt E 114)]) (pc := 38) dX12_thoseHome_38 rfl (Nat.le_of_ble_eq_true rfl) rfl ?_
          refine xx_iincN (L' := [(2, .int (nI (q + 1))), (1, .int (nI (c ||| (1 * 2 ^ q)))), (0, ic_pt E 114)]) (pc := 39) dX12_thoseHome_39 1 rfl cc_iconst_1 (Nat.le_of_ble_eq_true rfl) rfl ?_
          refine xx_goto (pc := 42) 4 dX12_thoseHome_42 rfl ?_
          exact xx_sub [0, 1, 2] rfl (ih_ (q + 1) _ (by omega) (by rw [hc]; rw [Nat.one_mul]; exact (mo_set_t (by simp [*])).symm) (by omega))
  refine xx_iconst (pc := 0) dX12_thoseHome_0 cc_iconst_0 ?_
  refine xx_istore_n (L' := [(1, .int (nI 0)), (0, ic_pt E 114)]) (pc := 1) dX12_thoseHome_1 rfl (Nat.le_of_ble_eq_true rfl) rfl ?_
  refine xx_iconst (pc := 2) dX12_thoseHome_2 cc_iconst_0 ?_
  refine xx_istore_n (L' := [(2, .int (nI 0)), (1, .int (nI 0)), (0, ic_pt E 114)]) (pc := 3) dX12_thoseHome_3 rfl (Nat.le_of_ble_eq_true rfl) rfl ?_
  exact xx_sub [0, 1, 2] rfl (lp (w 115 0 + 1) 0 0 (by omega) rfl (by omega))

set_option maxHeartbeats 4000000 in
set_option maxRecDepth 100000 in
theorem cM_greatestOf {l : Launch} {E : ic_E} {w : ic_w} {a : Nat} (ha : a < 2 ^ 32) : ic_C l E mX12_greatestOf 1 0 0 False [.int (nI a)] SHs (hn w) SHs (ic_qe (nI (if a = 1 then 99 else if a = 2 then 9 else if a = 4 then 1 else 5)) (hn w)) := by
  refine ic_intro (by decide +kernel) (Nat.le_of_ble_eq_true rfl) ?_
  show xx l E _ _ 0 [(0, .int (nI a))] _ _ _
  refine xx_iload_n (pc := 0) dX12_greatestOf_0 0 rfl rfl ?_
  refine xx_iconst (pc := 1) dX12_greatestOf_1 cc_iconst_1 ?_
  refine xx_icmp_neN (pc := 2) 10 dX12_greatestOf_2 rfl (by omega) (by omega) (fun c1 => ?_) (fun c1 => ?_)
  · refine xx_iload_n (pc := 10) dX12_greatestOf_10 0 rfl rfl ?_
    refine xx_iconst (pc := 11) dX12_greatestOf_11 cc_iconst_2 ?_
    refine xx_icmp_neN (pc := 12) 20 dX12_greatestOf_12 rfl (by omega) (by omega) (fun c2 => ?_) (fun c2 => ?_)
    · refine xx_iload_n (pc := 20) dX12_greatestOf_20 0 rfl rfl ?_
      refine xx_iconst (pc := 21) dX12_greatestOf_21 cc_iconst_4 ?_
      refine xx_icmp_neN (pc := 22) 29 dX12_greatestOf_22 rfl (by omega) (by omega) (fun c3 => ?_) (fun c3 => ?_)
      · refine xx_iconst (pc := 29) dX12_greatestOf_29 cc_iconst_5 ?_
        exact xx_iret (pc := 30) dX12_greatestOf_30 rfl (rfl) (Nat.le_refl _) (Nat.le_refl _) (ic_re (by simp [*]))
      · refine xx_iconst (pc := 25) dX12_greatestOf_25 cc_iconst_1 ?_
        refine xx_goto (pc := 26) 30 dX12_greatestOf_26 rfl ?_
        exact xx_iret (pc := 30) dX12_greatestOf_30 rfl (rfl) (Nat.le_refl _) (Nat.le_refl _) (ic_re (by simp [*]))
    · refine xx_bipush (pc := 15) dX12_greatestOf_15 cc_bipush_9 ?_
      refine xx_goto (pc := 17) 30 dX12_greatestOf_17 rfl ?_
      exact xx_iret (pc := 30) dX12_greatestOf_30 rfl (rfl) (Nat.le_refl _) (Nat.le_refl _) (ic_re (by simp [*]))
  · refine xx_bipush (pc := 5) dX12_greatestOf_5 cc_bipush_99 ?_
    refine xx_goto (pc := 7) 30 dX12_greatestOf_7 rfl ?_
    exact xx_iret (pc := 30) dX12_greatestOf_30 rfl (rfl) (Nat.le_refl _) (Nat.le_refl _) (ic_re (by simp [*]))

