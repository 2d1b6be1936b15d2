/-! what is asked -/
def mo_ask (s : Nat → Nat) (o k : Nat) : Nat := if k = 6 then mo_sunk s o else if k = 7 then mo_drifts (it s o 0) (s 1) else if k = 8 then mo_pays s o else if k = 9 then ic_bo (0 < mo_pays s o ∧ mo_will s o = 0) else if k = 10 then mo_will s o else it s o k
def mo_state (s : Nat → Nat) (k : Nat) : Nat := if k ≤ 2 then s (1 + k) else if k = 3 then ic_bo (s 2 ≤ s 1) else if k = 4 then mo_outs s else if k = 5 then mo_crowd s (s 1) else if k = 6 then mo_homes s else 4294967295
def mo_an (s : Nat → Nat) (n : Nat) : Nat → Nat := fun k => if 8 ≤ k ∧ k < 8 + 6 * n ∧ (k - 8) % 6 = 4 then 0 else if 8 ≤ k ∧ k < 8 + 6 * n ∧ (k - 8) % 6 = 5 then s (k - 2) else s k
def mo_anew (s : Nat → Nat) : Nat → Nat := fu (fu (mo_an s (s 0)) 3 0) 1 0
theorem mo_an_s (s : Nat → Nat) (n : Nat) : mo_an s (n + 1) = fu (fu (mo_an s n) (12 + 6 * n) 0) (13 + 6 * n) (it s n 3) := by
  funext k
  unfold fu mo_an it
  by_cases k5 : k = 13 + 6 * n
  · subst k5
    rw [if_neg (by omega), if_pos (by omega), if_pos rfl]
    congr 1
    omega
  · by_cases k4 : k = 12 + 6 * n
    · subst k4
      rw [if_pos (by omega), if_neg k5, if_pos rfl]
    · rw [if_neg k5, if_neg k4]
      by_cases z : k < 8 + 6 * n
      · repeat' split
        all_goals first | rfl | omega
      · rw [if_neg (by omega), if_neg (by omega), if_neg (by omega), if_neg (by omega)]
def mo_mv (set b : Nat) : Nat := set * 2 ^ b &&& 63 ||| set * 2 ^ b / 2 ^ 6
theorem mo_mv_lt : ∀ set, set < 64 → ∀ b, b < 4 → mo_mv set b < 64 := by decide +kernel
def mo_rs (s : Nat → Nat) (o : Nat) : Nat → Nat
  | 0 => 2 ^ it s o 5
  | n + 1 => mo_mv (mo_rs s o n ||| mo_mv (mo_rs s o n) 1) (mo_drifts (it s o 0) (s 1 + n))
theorem mo_or64 {a b : Nat} (ha : a < 64) (hb : b < 64) : a ||| b < 64 := Nat.or_lt_two_pow (n := 6) ha hb
theorem mo_rs_lt {s : Nat → Nat} (h : In s) {o : Nat} (ho : o < 6) : ∀ n, mo_rs s o n < 64
  | 0 => by
    have h5 := (h.i ho).2.2.2.2.2
    exact Nat.lt_of_le_of_lt (Nat.pow_le_pow_right (n := 2) (by omega) h5) (by decide)
  | n + 1 => by
    rw [mo_rs]
    have h1 := mo_rs_lt h ho n
    have h2 := mo_drifts_le (it s o 0) (s 1 + n)
    exact mo_mv_lt _ (mo_or64 h1 (mo_mv_lt _ h1 1 (by omega))) _ (by omega)
def mo_rchN (s : Nat → Nat) (o f : Nat) : Nat → Nat → Nat
  | 0, _ => 4294967293
  | m + 1, n => if mo_rs s o n / 2 ^ f &&& 1 = 0 then mo_rchN s o f m (n + 1) else n
def mo_reach (s : Nat → Nat) (o f : Nat) : Nat := mo_rchN s o f 17 0
def mo_close (s : Nat → Nat) (p q : Nat) : Bool := decide (it s p 4 = 0 ∧ it s q 4 = 0 ∧ (it s p 5 = it s q 5 ∨ (it s p 1 ≤ it s q 1 + 4 ∧ it s q 1 ≤ it s p 1 + 4)))
theorem cl_lt {a b : Nat} (ha : a ≤ 99) (hb : b ≤ 99) : nI (a + (4294967296 - b)) < nI 4294967292 ↔ a + 4 < b := by
  rw [← nI_mod (a + (4294967296 - b)), Int32.lt_iff_toInt_lt, nI_sgn (Nat.mod_lt _ (by decide)), nI_sgn (by omega)]
  split <;> split <;> omega
theorem cl_gt {a b : Nat} (ha : a ≤ 99) (hb : b ≤ 99) : nI 4 < nI (a + (4294967296 - b)) ↔ b + 4 < a := by
  rw [← nI_mod (a + (4294967296 - b)), Int32.lt_iff_toInt_lt, nI_sgn (Nat.mod_lt _ (by decide)), nI_sgn (by omega)]
  split <;> split <;> omega
def mo_cq (s : Nat → Nat) (p set : Nat) : Nat → Nat
  | 0 => set
  | n + 1 => if mo_cq s p set n / 2 ^ p &&& 1 = 1 ∧ mo_close s p n = true then mo_cq s p set n ||| 2 ^ n else mo_cq s p set n
def mo_cr (s : Nat → Nat) (set : Nat) : Nat → Nat
  | 0 => set
  | n + 1 => mo_cq s n (mo_cr s set n) (s 0)
def mo_ck (s : Nat → Nat) (set : Nat) : Nat → Nat
  | 0 => set
  | n + 1 => mo_cr s (mo_ck s set n) (s 0)
def mo_carr (s : Nat → Nat) (o : Nat) : Nat := mo_ck s (if it s o 4 = 0 then 2 ^ o else 0) 6
theorem mo_p64 {n : Nat} (h : n < 6) : 2 ^ n < 64 := Nat.lt_of_le_of_lt (Nat.pow_le_pow_right (n := 2) (by omega) (show n ≤ 5 by omega)) (by decide)
theorem mo_cq_lt {s : Nat → Nat} {p set : Nat} (hs : set < 64) : ∀ n, n ≤ 6 → mo_cq s p set n < 64
  | 0, _ => hs
  | n + 1, h => by
    rw [mo_cq]
    have := mo_cq_lt (s := s) (p := p) hs n (by omega)
    split
    · exact mo_or64 this (mo_p64 (by omega))
    · exact this
theorem mo_cr_lt {s : Nat → Nat} (h0 : s 0 ≤ 6) {set : Nat} (hs : set < 64) : ∀ n, mo_cr s set n < 64
  | 0 => hs
  | n + 1 => mo_cq_lt (mo_cr_lt h0 hs n) _ h0
theorem mo_ck_lt {s : Nat → Nat} (h0 : s 0 ≤ 6) {set : Nat} (hs : set < 64) : ∀ n, mo_ck s set n < 64
  | 0 => hs
  | n + 1 => mo_cr_lt h0 (mo_ck_lt h0 hs n) _
theorem mo_carr_lt {s : Nat → Nat} (h : In s) {o : Nat} (ho : o < 6) : mo_carr s o < 64 := by
  refine mo_ck_lt h.n ?_ 6
  split
  · exact mo_p64 ho
  · decide
def mo_carrs (s : Nat → Nat) : Nat := mo_cnt (fun o => decide (it s o 4 = 0 ∧ mo_carr s o &&& (2 ^ o - 1) = 0)) (s 0)
def mo_many (s : Nat → Nat) (f : Nat) : Nat := mo_cnt (fun o => decide (it s o 4 = 0 ∧ it s o 5 = f)) (s 0)
def mo_itn (s : Nat → Nat) : Nat → Nat → Nat
  | 0 => s
  | n + 1 => if s 2 ≤ s 1 then s else mo_itn (mo_go s (mo_rest s)) n

set_option maxHeartbeats 4000000 in
set_option maxRecDepth 100000 in
theorem cM_riderOf {l : Launch} {E : ic_E} {w : ic_w} {o : Nat} (ho_ : o < 2 ^ 32) {k : Nat} (hk_ : k < 2 ^ 32) (hI : In (w 115)) (hR : Ru (w 115)) : ic_C l E mX12_riderOf 6 0 0 False [ic_pt E 114, .int (nI o), .int (nI k)] SHs (hn w) SHs (ic_qe (nI (if o < w 115 0 ∧ k ≤ 10 then mo_ask (w 115) o k else 4294967295)) (hn w)) := by
  refine ic_intro (by decide +kernel) (Nat.le_of_ble_eq_true rfl) ?_
  show xx l E _ _ 0 [(0, ic_pt E 114), (1, .int (nI o)), (2, .int (nI k))] _ _ _
  have hn0 := hI.n
  refine xx_aload_nP (pc := 0) dX12_riderOf_0 0 rfl rfl ?_
  refine xx_iload_n (pc := 1) dX12_riderOf_1 1 rfl rfl ?_
  refine xx_callV0 (pc := 2) (st := []) sh_114 (cM_isOne (w := w) (o := o) (by omega) hI) kX12_isOne vX12_116_12 dX12_riderOf_2 rfl rfl (Nat.le_of_ble_eq_true rfl) ⟨Nat.le_of_ble_eq_true rfl, Nat.le_of_ble_eq_true rfl⟩ ⟨Nat.zero_le _, Nat.zero_le _⟩ (ic_ke ?_)
  refine xx_if_eqB (pc := 5) 20 dX12_riderOf_5 rfl (fun c1 => ?_) (fun c1 => ?_)
  · refine xx_iconst (pc := 20) dX12_riderOf_20 cc_iconst_m1 ?_
    exact xx_iret (pc := 21) dX12_riderOf_21 rfl (rfl) (Nat.le_refl _) (Nat.le_refl _) (ic_re (if_neg (by omega)).symm)
  · refine xx_iload_n (pc := 8) dX12_riderOf_8 2 rfl rfl ?_
    refine xx_i2l (pc := 9) dX12_riderOf_9 ?_
    refine xx_lconst (v := 0) (pc := 10) dX12_riderOf_10 rfl ?_
    refine xx_ldc2 (v := 10) (pc := 11) dX12_riderOf_11 oX12_119 ?_
    refine xx_callS0 (pc := 14) (st := []) (cM_isIn (0 ≤ k ∧ k ≤ 10) (ll_in (lo := 0) (hi := 10) (by omega) (by decide) (by decide) (by omega))) kX12_isIn sX12_66 dX12_riderOf_14 rfl rfl (Nat.le_of_ble_eq_true rfl) ⟨Nat.le_of_ble_eq_true rfl, Nat.le_of_ble_eq_true rfl⟩ ⟨Nat.zero_le _, Nat.zero_le _⟩ (ic_ke ?_)
    refine xx_if_neB (pc := 17) 22 dX12_riderOf_17 rfl (fun c2 => ?_) (fun c2 => ?_)
    · have ho5 := hI.i (o := o) (by omega)
      have ht := hI.t
      refine xx_iload_n (pc := 22) dX12_riderOf_22 2 rfl rfl ?_
      rcases (show k = 0 ∨ k = 1 ∨ k = 2 ∨ k = 3 ∨ k = 4 ∨ k = 5 ∨ k = 6 ∨ k = 7 ∨ k = 8 ∨ k = 9 ∨ k = 10 by omega) with rfl | rfl | rfl | rfl | rfl | rfl | rfl | rfl | rfl | rfl | rfl
      · refine xx_tout (pc := 23) 104 dX12_riderOf_23 (by decide) rfl ?_
        refine xx_aload_nP (pc := 104) dX12_riderOf_104 0 rfl rfl ?_
        refine xx_iload_n (pc := 105) dX12_riderOf_105 1 rfl rfl ?_
        refine xx_iload_n (pc := 106) dX12_riderOf_106 2 rfl rfl ?_
        refine xx_callV0 (pc := 107) (st := []) sh_114 (cM_its (w := w) (o := o) (k := 0) (by omega) (by omega)) kX12_its vX12_82_12 dX12_riderOf_107 rfl rfl (Nat.le_of_ble_eq_true rfl) ⟨Nat.le_of_ble_eq_true rfl, Nat.le_of_ble_eq_true rfl⟩ ⟨Nat.zero_le _, Nat.zero_le _⟩ (ic_ke ?_)
        exact xx_iret (pc := 110) dX12_riderOf_110 rfl (rfl) (Nat.le_refl _) (Nat.le_refl _) (ic_re (by rw [if_pos (by omega)]; first | rfl | (unfold mo_ask; simp [ic_bo]; omega)))
      · refine xx_tout (pc := 23) 104 dX12_riderOf_23 (by decide) rfl ?_
        refine xx_aload_nP (pc := 104) dX12_riderOf_104 0 rfl rfl ?_
        refine xx_iload_n (pc := 105) dX12_riderOf_105 1 rfl rfl ?_
        refine xx_iload_n (pc := 106) dX12_riderOf_106 2 rfl rfl ?_
        refine xx_callV0 (pc := 107) (st := []) sh_114 (cM_its (w := w) (o := o) (k := 1) (by omega) (by omega)) kX12_its vX12_82_12 dX12_riderOf_107 rfl rfl (Nat.le_of_ble_eq_true rfl) ⟨Nat.le_of_ble_eq_true rfl, Nat.le_of_ble_eq_true rfl⟩ ⟨Nat.zero_le _, Nat.zero_le _⟩ (ic_ke ?_)
        exact xx_iret (pc := 110) dX12_riderOf_110 rfl (rfl) (Nat.le_refl _) (Nat.le_refl _) (ic_re (by rw [if_pos (by omega)]; first | rfl | (unfold mo_ask; simp [ic_bo]; omega)))
      · refine xx_tout (pc := 23) 104 dX12_riderOf_23 (by decide) rfl ?_
        refine xx_aload_nP (pc := 104) dX12_riderOf_104 0 rfl rfl ?_
        refine xx_iload_n (pc := 105) dX12_riderOf_105 1 rfl rfl ?_
        refine xx_iload_n (pc := 106) dX12_riderOf_106 2 rfl rfl ?_
        refine xx_callV0 (pc := 107) (st := []) sh_114 (cM_its (w := w) (o := o) (k := 2) (by omega) (by omega)) kX12_its vX12_82_12 dX12_riderOf_107 rfl rfl (Nat.le_of_ble_eq_true rfl) ⟨Nat.le_of_ble_eq_true rfl, Nat.le_of_ble_eq_true rfl⟩ ⟨Nat.zero_le _, Nat.zero_le _⟩ (ic_ke ?_)
        exact xx_iret (pc := 110) dX12_riderOf_110 rfl (rfl) (Nat.le_refl _) (Nat.le_refl _) (ic_re (by rw [if_pos (by omega)]; first | rfl | (unfold mo_ask; simp [ic_bo]; omega)))
      · refine xx_tout (pc := 23) 104 dX12_riderOf_23 (by decide) rfl ?_
        refine xx_aload_nP (pc := 104) dX12_riderOf_104 0 rfl rfl ?_
        refine xx_iload_n (pc := 105) dX12_riderOf_105 1 rfl rfl ?_
        refine xx_iload_n (pc := 106) dX12_riderOf_106 2 rfl rfl ?_
        refine xx_callV0 (pc := 107) (st := []) sh_114 (cM_its (w := w) (o := o) (k := 3) (by omega) (by omega)) kX12_its vX12_82_12 dX12_riderOf_107 rfl rfl (Nat.le_of_ble_eq_true rfl) ⟨Nat.le_of_ble_eq_true rfl, Nat.le_of_ble_eq_true rfl⟩ ⟨Nat.zero_le _, Nat.zero_le _⟩ (ic_ke ?_)
        exact xx_iret (pc := 110) dX12_riderOf_110 rfl (rfl) (Nat.le_refl _) (Nat.le_refl _) (ic_re (by rw [if_pos (by omega)]; first | rfl | (unfold mo_ask; simp [ic_bo]; omega)))
      · refine xx_tout (pc := 23) 104 dX12_riderOf_23 (by decide) rfl ?_
        refine xx_aload_nP (pc := 104) dX12_riderOf_104 0 rfl rfl ?_
        refine xx_iload_n (pc := 105) dX12_riderOf_105 1 rfl rfl ?_
        refine xx_iload_n (pc := 106) dX12_riderOf_106 2 rfl rfl ?_
        refine xx_callV0 (pc := 107) (st := []) sh_114 (cM_its (w := w) (o := o) (k := 4) (by omega) (by omega)) kX12_its vX12_82_12 dX12_riderOf_107 rfl rfl (Nat.le_of_ble_eq_true rfl) ⟨Nat.le_of_ble_eq_true rfl, Nat.le_of_ble_eq_true rfl⟩ ⟨Nat.zero_le _, Nat.zero_le _⟩ (ic_ke ?_)
        exact xx_iret (pc := 110) dX12_riderOf_110 rfl (rfl) (Nat.le_refl _) (Nat.le_refl _) (ic_re (by rw [if_pos (by omega)]; first | rfl | (unfold mo_ask; simp [ic_bo]; omega)))
      · refine xx_tout (pc := 23) 104 dX12_riderOf_23 (by decide) rfl ?_
        refine xx_aload_nP (pc := 104) dX12_riderOf_104 0 rfl rfl ?_
        refine xx_iload_n (pc := 105) dX12_riderOf_105 1 rfl rfl ?_
        refine xx_iload_n (pc := 106) dX12_riderOf_106 2 rfl rfl ?_
        refine xx_callV0 (pc := 107) (st := []) sh_114 (cM_its (w := w) (o := o) (k := 5) (by omega) (by omega)) kX12_its vX12_82_12 dX12_riderOf_107 rfl rfl (Nat.le_of_ble_eq_true rfl) ⟨Nat.le_of_ble_eq_true rfl, Nat.le_of_ble_eq_true rfl⟩ ⟨Nat.zero_le _, Nat.zero_le _⟩ (ic_ke ?_)
        exact xx_iret (pc := 110) dX12_riderOf_110 rfl (rfl) (Nat.le_refl _) (Nat.le_refl _) (ic_re (by rw [if_pos (by omega)]; first | rfl | (unfold mo_ask; simp [ic_bo]; omega)))
      · refine xx_tin (pc := 23) 56 dX12_riderOf_23 (by decide) (by decide) rfl rfl ?_
        refine xx_aload_nP (pc := 56) dX12_riderOf_56 0 rfl rfl ?_
        refine xx_iload_n (pc := 57) dX12_riderOf_57 1 rfl rfl ?_
        refine xx_callV0 (pc := 58) (st := []) sh_114 (cM_sunk (w := w) (o := o) (by omega) hI) kX12_sunk vX12_121_12 dX12_riderOf_58 rfl rfl (Nat.le_of_ble_eq_true rfl) ⟨Nat.le_of_ble_eq_true rfl, Nat.le_of_ble_eq_true rfl⟩ ⟨Nat.zero_le _, Nat.zero_le _⟩ (ic_ke ?_)
        exact xx_iret (pc := 61) dX12_riderOf_61 rfl (rfl) (Nat.le_refl _) (Nat.le_refl _) (ic_re (by rw [if_pos (by omega)]; first | rfl | (unfold mo_ask; simp [ic_bo]; omega)))
      · refine xx_tin (pc := 23) 62 dX12_riderOf_23 (by decide) (by decide) rfl rfl ?_
        refine xx_aload_nP (pc := 62) dX12_riderOf_62 0 rfl rfl ?_
        refine xx_iload_n (pc := 63) dX12_riderOf_63 1 rfl rfl ?_
        refine xx_iconst (pc := 64) dX12_riderOf_64 cc_iconst_0 ?_
        refine xx_callV0 (pc := 65) (st := []) sh_114 (cM_its (w := w) (o := o) (k := 0) (by omega) (by omega)) kX12_its vX12_82_12 dX12_riderOf_65 rfl rfl (Nat.le_of_ble_eq_true rfl) ⟨Nat.le_of_ble_eq_true rfl, Nat.le_of_ble_eq_true rfl⟩ ⟨Nat.zero_le _, Nat.zero_le _⟩ (ic_ke ?_)
        refine xx_aload_nP (pc := 68) dX12_riderOf_68 0 rfl rfl ?_
        refine xx_getR (pc := 69) 115 dX12_riderOf_69 sh_114 fX12_7_12 rfl rfl (by decide) ?_
        refine xx_iconst (pc := 72) dX12_riderOf_72 cc_iconst_1 ?_
        refine xx_ialdN (pc := 73) dX12_riderOf_73 sh_115 (by omega) (by decide) ?_
        refine xx_callS0 (pc := 74) (st := []) (cM_drifts (w := w) (k := it (w 115) o 0) (t := w 115 1) (by omega) (by omega)) kX12_drifts sX12_124 dX12_riderOf_74 rfl rfl (Nat.le_of_ble_eq_true rfl) ⟨Nat.le_of_ble_eq_true rfl, Nat.le_of_ble_eq_true rfl⟩ ⟨Nat.zero_le _, Nat.zero_le _⟩ (ic_ke ?_)
        exact xx_iret (pc := 77) dX12_riderOf_77 rfl (rfl) (Nat.le_refl _) (Nat.le_refl _) (ic_re (by rw [if_pos (by omega)]; first | rfl | (unfold mo_ask; simp [ic_bo]; omega)))
      · refine xx_tin (pc := 23) 78 dX12_riderOf_23 (by decide) (by decide) rfl rfl ?_
        refine xx_aload_nP (pc := 78) dX12_riderOf_78 0 rfl rfl ?_
        refine xx_iload_n (pc := 79) dX12_riderOf_79 1 rfl rfl ?_
        refine xx_callV0 (pc := 80) (st := []) sh_114 (cM_pays (w := w) (o := o) (by omega) hI) kX12_pays vX12_110_12 dX12_riderOf_80 rfl rfl (Nat.le_of_ble_eq_true rfl) ⟨Nat.le_of_ble_eq_true rfl, Nat.le_of_ble_eq_true rfl⟩ ⟨Nat.zero_le _, Nat.zero_le _⟩ (ic_ke ?_)
        exact xx_iret (pc := 83) dX12_riderOf_83 rfl (rfl) (Nat.le_refl _) (Nat.le_refl _) (ic_re (by rw [if_pos (by omega)]; first | rfl | (unfold mo_ask; simp [ic_bo]; omega)))
      · refine xx_tin (pc := 23) 84 dX12_riderOf_23 (by decide) (by decide) rfl rfl ?_
        refine xx_aload_nP (pc := 84) dX12_riderOf_84 0 rfl rfl ?_
        refine xx_iload_n (pc := 85) dX12_riderOf_85 1 rfl rfl ?_
        refine xx_callV0 (pc := 86) (st := []) sh_114 (cM_mayBe (w := w) (o := o) (by omega) hI hR) kX12_mayBe vX12_127_12 dX12_riderOf_86 rfl rfl (Nat.le_of_ble_eq_true rfl) ⟨Nat.le_of_ble_eq_true rfl, Nat.le_of_ble_eq_true rfl⟩ ⟨Nat.zero_le _, Nat.zero_le _⟩ (ic_ke ?_)
        refine xx_if_eqB (pc := 89) 96 dX12_riderOf_89 rfl (fun c3 => ?_) (fun c3 => ?_)
        · refine xx_iconst (pc := 96) dX12_riderOf_96 cc_iconst_0 ?_
          exact xx_iret (pc := 97) dX12_riderOf_97 rfl (rfl) (Nat.le_refl _) (Nat.le_refl _) (ic_re (by rw [if_pos (by omega)]; first | rfl | (unfold mo_ask; simp [ic_bo]; omega)))
        · refine xx_iconst (pc := 92) dX12_riderOf_92 cc_iconst_1 ?_
          refine xx_goto (pc := 93) 97 dX12_riderOf_93 rfl ?_
          exact xx_iret (pc := 97) dX12_riderOf_97 rfl (rfl) (Nat.le_refl _) (Nat.le_refl _) (ic_re (by rw [if_pos (by omega)]; first | rfl | (unfold mo_ask; simp [ic_bo]; omega)))
      · refine xx_tin (pc := 23) 98 dX12_riderOf_23 (by decide) (by decide) rfl rfl ?_
        refine xx_aload_nP (pc := 98) dX12_riderOf_98 0 rfl rfl ?_
        refine xx_iload_n (pc := 99) dX12_riderOf_99 1 rfl rfl ?_
        refine xx_callV0 (pc := 100) (st := []) sh_114 (cM_will (w := w) (o := o) (by omega) hI hR) kX12_will vX12_113_12 dX12_riderOf_100 rfl rfl (Nat.le_of_ble_eq_true rfl) ⟨Nat.le_of_ble_eq_true rfl, Nat.le_of_ble_eq_true rfl⟩ ⟨Nat.zero_le _, Nat.zero_le _⟩ (ic_ke ?_)
        exact xx_iret (pc := 103) dX12_riderOf_103 rfl (rfl) (Nat.le_refl _) (Nat.le_refl _) (ic_re (by rw [if_pos (by omega)]; first | rfl | (unfold mo_ask; simp [ic_bo]; omega)))
    · refine xx_iconst (pc := 20) dX12_riderOf_20 cc_iconst_m1 ?_
      exact xx_iret (pc := 21) dX12_riderOf_21 rfl (rfl) (Nat.le_refl _) (Nat.le_refl _) (ic_re (if_neg (by omega)).symm)

set_option maxHeartbeats 4000000 in
set_option maxRecDepth 100000 in
theorem cM_state {l : Launch} {E : ic_E} {w : ic_w} {k : Nat} (hk_ : k < 2 ^ 32) (hI : In (w 115)) : ic_C l E mX12_state 3 0 0 False [ic_pt E 114, .int (nI k)] SHs (hn w) SHs (ic_qe (nI (mo_state (w 115) k)) (hn w)) := by
  refine ic_intro (by decide +kernel) (Nat.le_of_ble_eq_true rfl) ?_
  show xx l E _ _ 0 [(0, ic_pt E 114), (1, .int (nI k))] _ _ _
  have ht := hI.t
  refine xx_iload_n (pc := 0) dX12_state_0 1 rfl rfl ?_
  rcases (show k = 0 ∨ k = 1 ∨ k = 2 ∨ k = 3 ∨ k = 4 ∨ k = 5 ∨ k = 6 ∨ 7 ≤ k by omega) with rfl | rfl | rfl | rfl | rfl | rfl | rfl | hbig
  · refine xx_tin (pc := 1) 44 dX12_state_1 (by decide) (by decide) rfl rfl ?_
    refine xx_aload_nP (pc := 44) dX12_state_44 0 rfl rfl ?_
    refine xx_getR (pc := 45) 115 dX12_state_45 sh_114 fX12_7_12 rfl rfl (by decide) ?_
    refine xx_iconst (pc := 48) dX12_state_48 cc_iconst_1 ?_
    refine xx_iload_n (pc := 49) dX12_state_49 1 rfl rfl ?_
    refine xx_iaddN (pc := 50) dX12_state_50 ?_
    refine xx_ialdE (j2 := 1) (pc := 51) dX12_state_51 sh_115 (by omega) (by omega) (by decide) ?_
    exact xx_iret (pc := 52) dX12_state_52 rfl (rfl) (Nat.le_refl _) (Nat.le_refl _) (ic_re (by unfold mo_state; simp [ic_bo]; try omega))
  · refine xx_tin (pc := 1) 44 dX12_state_1 (by decide) (by decide) rfl rfl ?_
    refine xx_aload_nP (pc := 44) dX12_state_44 0 rfl rfl ?_
    refine xx_getR (pc := 45) 115 dX12_state_45 sh_114 fX12_7_12 rfl rfl (by decide) ?_
    refine xx_iconst (pc := 48) dX12_state_48 cc_iconst_1 ?_
    refine xx_iload_n (pc := 49) dX12_state_49 1 rfl rfl ?_
    refine xx_iaddN (pc := 50) dX12_state_50 ?_
    refine xx_ialdE (j2 := 2) (pc := 51) dX12_state_51 sh_115 (by omega) (by omega) (by decide) ?_
    exact xx_iret (pc := 52) dX12_state_52 rfl (rfl) (Nat.le_refl _) (Nat.le_refl _) (ic_re (by unfold mo_state; simp [ic_bo]; try omega))
  · refine xx_tin (pc := 1) 44 dX12_state_1 (by decide) (by decide) rfl rfl ?_
    refine xx_aload_nP (pc := 44) dX12_state_44 0 rfl rfl ?_
    refine xx_getR (pc := 45) 115 dX12_state_45 sh_114 fX12_7_12 rfl rfl (by decide) ?_
    refine xx_iconst (pc := 48) dX12_state_48 cc_iconst_1 ?_
    refine xx_iload_n (pc := 49) dX12_state_49 1 rfl rfl ?_
    refine xx_iaddN (pc := 50) dX12_state_50 ?_
    refine xx_ialdE (j2 := 3) (pc := 51) dX12_state_51 sh_115 (by omega) (by omega) (by decide) ?_
    exact xx_iret (pc := 52) dX12_state_52 rfl (rfl) (Nat.le_refl _) (Nat.le_refl _) (ic_re (by unfold mo_state; simp [ic_bo]; try omega))
  · refine xx_tin (pc := 1) 53 dX12_state_1 (by decide) (by decide) rfl rfl ?_
    refine xx_aload_nP (pc := 53) dX12_state_53 0 rfl rfl ?_
    refine xx_callV0 (pc := 54) (st := []) sh_114 (cM_isOver (w := w) hI) kX12_isOver vX12_140_12 dX12_state_54 rfl rfl (Nat.le_of_ble_eq_true rfl) ⟨Nat.le_of_ble_eq_true rfl, Nat.le_of_ble_eq_true rfl⟩ ⟨Nat.zero_le _, Nat.zero_le _⟩ (ic_ke ?_)
    refine xx_if_eqB (pc := 57) 64 dX12_state_57 rfl (fun c1 => ?_) (fun c1 => ?_)
    · refine xx_iconst (pc := 64) dX12_state_64 cc_iconst_0 ?_
      exact xx_iret (pc := 65) dX12_state_65 rfl (rfl) (Nat.le_refl _) (Nat.le_refl _) (ic_re (by unfold mo_state; simp [ic_bo]; try omega))
    · refine xx_iconst (pc := 60) dX12_state_60 cc_iconst_1 ?_
      refine xx_goto (pc := 61) 65 dX12_state_61 rfl ?_
      exact xx_iret (pc := 65) dX12_state_65 rfl (rfl) (Nat.le_refl _) (Nat.le_refl _) (ic_re (by unfold mo_state; simp [ic_bo]; try omega))
  · refine xx_tin (pc := 1) 66 dX12_state_1 (by decide) (by decide) rfl rfl ?_
    refine xx_aload_nP (pc := 66) dX12_state_66 0 rfl rfl ?_
    refine xx_callV0 (pc := 67) (st := []) sh_114 (cM_outOnes (w := w) hI) kX12_outOnes vX12_144_12 dX12_state_67 rfl rfl (Nat.le_of_ble_eq_true rfl) ⟨Nat.le_of_ble_eq_true rfl, Nat.le_of_ble_eq_true rfl⟩ ⟨Nat.zero_le _, Nat.zero_le _⟩ (ic_ke ?_)
    exact xx_iret (pc := 70) dX12_state_70 rfl (rfl) (Nat.le_refl _) (Nat.le_refl _) (ic_re (by unfold mo_state; simp [ic_bo]; try omega))
  · refine xx_tin (pc := 1) 71 dX12_state_1 (by decide) (by decide) rfl rfl ?_
    refine xx_aload_nP (pc := 71) dX12_state_71 0 rfl rfl ?_
    refine xx_aload_nP (pc := 72) dX12_state_72 0 rfl rfl ?_
    refine xx_getR (pc := 73) 115 dX12_state_73 sh_114 fX12_7_12 rfl rfl (by decide) ?_
    refine xx_iconst (pc := 76) dX12_state_76 cc_iconst_1 ?_
    refine xx_ialdN (pc := 77) dX12_state_77 sh_115 (by omega) (by decide) ?_
    refine xx_callV0 (pc := 78) (st := []) sh_114 (cM_crowdOf (w := w) (t := w 115 1) (by omega)) kX12_crowdOf vX12_85_12 dX12_state_78 rfl rfl (Nat.le_of_ble_eq_true rfl) ⟨Nat.le_of_ble_eq_true rfl, Nat.le_of_ble_eq_true rfl⟩ ⟨Nat.zero_le _, Nat.zero_le _⟩ (ic_ke ?_)
    exact xx_iret (pc := 81) dX12_state_81 rfl (rfl) (Nat.le_refl _) (Nat.le_refl _) (ic_re (by unfold mo_state; simp [ic_bo]; try omega))
  · refine xx_tin (pc := 1) 82 dX12_state_1 (by decide) (by decide) rfl rfl ?_
    refine xx_aload_nP (pc := 82) dX12_state_82 0 rfl rfl ?_
    refine xx_callV0 (pc := 83) (st := []) sh_114 (cM_thoseHome (w := w) hI) kX12_thoseHome vX12_148_12 dX12_state_83 rfl rfl (Nat.le_of_ble_eq_true rfl) ⟨Nat.le_of_ble_eq_true rfl, Nat.le_of_ble_eq_true rfl⟩ ⟨Nat.zero_le _, Nat.zero_le _⟩ (ic_ke ?_)
    exact xx_iret (pc := 86) dX12_state_86 rfl (rfl) (Nat.le_refl _) (Nat.le_refl _) (ic_re (by unfold mo_state; simp [ic_bo]; try omega))
  · refine xx_tout (pc := 1) 87 dX12_state_1 (by rw [nI_sgn (by omega)]; split <;> omega) rfl ?_
    refine xx_iconst (pc := 87) dX12_state_87 cc_iconst_m1 ?_
    exact xx_iret (pc := 88) dX12_state_88 rfl (rfl) (Nat.le_refl _) (Nat.le_refl _) (ic_re (by unfold mo_state; rw [if_neg (by omega), if_neg (by omega), if_neg (by omega), if_neg (by omega), if_neg (by omega)]))

set_option maxHeartbeats 4000000 in
set_option maxRecDepth 100000 in
theorem cM_anew {l : Launch} {E : ic_E} {w : ic_w} (hI : In (w 115)) : ic_C l E mX12_anew 2 0 0 False [ic_pt E 114] SHs (hn w) SHs (ic_qr (w 115 1) w (mo_anew (w 115))) := by
  refine ic_intro (by decide +kernel) (Nat.le_of_ble_eq_true rfl) ?_
  show xx l E _ _ 0 [(0, ic_pt E 114)] _ _ _
  have hn0 := hI.n
  have lp : ∀ (n_ : Nat) (k : Nat) (u : ic_w), k ≤ w 115 0 → u = wr w 115 (mo_an (w 115) k) → w 115 0 - k < n_ → xx l E (ic_fr E mX12_anew 2 0 0 False SHs (ic_qr (w 115 1) w (mo_anew (w 115)))) (0, 0) 2 [(1, .int (nI k)), (0, ic_pt E 114)] [] SHs (hn u) := by
    intro n_
    induction n_ with
    | zero => intro k u hk hu hm_; exact absurd hm_ (Nat.not_lt_zero _)
    | succ n_ ih_ =>
      intro k u hk hu hm_
      have e0 : u 115 0 = w 115 0 := by rw [hu, wr_s]; unfold mo_an; rw [if_neg (by omega), if_neg (by omega)]
      have hn0u : w 115 0 ≤ 6 := hI.n
      refine xx_iload_n (pc := 2) dX12_anew_2 0 rfl rfl ?_
      refine xx_aload_nP (pc := 3) dX12_anew_3 1 rfl rfl ?_
      refine xx_getR (pc := 4) 115 dX12_anew_4 sh_114 fX12_7_12 rfl rfl (by decide) ?_
      refine xx_iconst (pc := 7) dX12_anew_7 cc_iconst_0 ?_
      refine xx_ialdN (pc := 8) dX12_anew_8 sh_115 (by omega) (by decide) ?_
      refine xx_icmp_geN (pc := 9) 53 dX12_anew_9 rfl (by omega) (by omega) (fun c1 => ?_) (fun c1 => ?_)
      · refine xx_aload_nP (pc := 53) dX12_anew_53 1 rfl rfl ?_
        refine xx_getR (pc := 54) 115 dX12_anew_54 sh_114 fX12_7_12 rfl rfl (by decide) ?_
        refine xx_iconst (pc := 57) dX12_anew_57 cc_iconst_3 ?_
        refine xx_iconst (pc := 58) dX12_anew_58 cc_iconst_0 ?_
        refine xx_iastN (pc := 59) dX12_anew_59 sh_115 (by omega) (by decide) ?_
        refine xx_nw (fun w2 ew2 => ?_)
        have h1b : w2 115 1 = w 115 1 := by rw [ew2, wu_wr, wr_s, fu_n _ (by omega), hu, wr_s]; unfold mo_an; rw [if_neg (by omega), if_neg (by omega)]
        refine xx_aload_nP (pc := 60) dX12_anew_60 1 rfl rfl ?_
        refine xx_iconst (pc := 61) dX12_anew_61 cc_iconst_1 ?_
        refine xx_iconst (pc := 62) dX12_anew_62 cc_iconst_0 ?_
        refine xx_callV0 (pc := 63) (st := []) sh_114 (cM_becomes (w := w2) (a := 1) (v := 0) (by omega)) kX12_becomes vX12_133_12 dX12_anew_63 rfl rfl (Nat.le_of_ble_eq_true rfl) ⟨Nat.le_of_ble_eq_true rfl, Nat.le_of_ble_eq_true rfl⟩ ⟨Nat.zero_le _, Nat.zero_le _⟩ (ic_ki (fun v4 h_ qw3 => ?_))
        obtain ⟨rfl, rfl⟩ := qw3
        refine xx_nw (fun w3 ew3 => ?_)
        exact xx_iret (pc := 66) dX12_anew_66 rfl (rfl) (Nat.le_refl _) (Nat.le_refl _) (ic_rr h1b (by rw [ew3, ew2, wu_wr, hu, wr_s, wr_wr, wr_s, wr_wr, show k = w 115 0 by omega]; rfl))
      · have hk3 : it (u 115) k 3 = it (w 115) k 3 := by rw [hu, wr_s]; unfold it mo_an; rw [if_neg (by omega), if_neg (by omega)]
        refine xx_aload_nP (pc := 12) dX12_anew_12 1 rfl rfl ?_
        refine xx_getR (pc := 13) 115 dX12_anew_13 sh_114 fX12_7_12 rfl rfl (by decide) ?_
        refine xx_bipush (pc := 16) dX12_anew_16 cc_bipush_8 ?_
        refine xx_bipush (pc := 18) dX12_anew_18 cc_bipush_6 ?_
        refine xx_iload_n (pc := 20) dX12_anew_20 0 rfl rfl ?_
        refine xx_imulN (pc := 21) dX12_anew_21 ?_
        refine xx_iaddN (pc := 22) dX12_anew_22 ?_
        refine xx_iconst (pc := 23) dX12_anew_23 cc_iconst_4 ?_
        refine xx_iaddN (pc := 24) dX12_anew_24 ?_
        refine xx_iconst (pc := 25) dX12_anew_25 cc_iconst_0 ?_
        refine xx_iastE (j2 := 12 + 6 * k) (pc := 26) dX12_anew_26 sh_115 (by omega) (by omega) (by decide) ?_
        refine xx_nw (fun w5 ew5 => ?_)
        have hk3b : it (w5 115) k 3 = it (w 115) k 3 := by rw [ew5, wu_wr, wr_s, it_fu (by omega), hk3]
        refine xx_aload_nP (pc := 27) dX12_anew_27 1 rfl rfl ?_
        refine xx_getR (pc := 28) 115 dX12_anew_28 sh_114 fX12_7_12 rfl rfl (by decide) ?_
        refine xx_bipush (pc := 31) dX12_anew_31 cc_bipush_8 ?_
        refine xx_bipush (pc := 33) dX12_anew_33 cc_bipush_6 ?_
        refine xx_iload_n (pc := 35) dX12_anew_35 0 rfl rfl ?_
        refine xx_imulN (pc := 36) dX12_anew_36 ?_
        refine xx_iaddN (pc := 37) dX12_anew_37 ?_
        refine xx_iconst (pc := 38) dX12_anew_38 cc_iconst_5 ?_
        refine xx_iaddN (pc := 39) dX12_anew_39 ?_
        refine xx_aload_nP (pc := 40) dX12_anew_40 1 rfl rfl ?_
        refine xx_iload_n (pc := 41) dX12_anew_41 0 rfl rfl ?_
        refine xx_iconst (pc := 42) dX12_anew_42 cc_iconst_3 ?_
        refine xx_callV0 (pc := 43) (st := [.int (nI ((8 + (6 * k)) + 5)), ic_pt E 115]) sh_114 (cM_its (w := w5) (o := k) (k := 3) (by omega) (by omega)) kX12_its vX12_82_12 dX12_anew_43 rfl rfl (Nat.le_of_ble_eq_true rfl) ⟨Nat.le_of_ble_eq_true rfl, Nat.le_of_ble_eq_true rfl⟩ ⟨Nat.zero_le _, Nat.zero_le _⟩ (ic_ke ?_)
        refine xx_iastE (j2 := 13 + 6 * k) (pc := 46) dX12_anew_46 sh_115 (by omega) (by omega) (by decide) ?_
        refine xx_nw (fun w6 ew6 => ?_)
        refine xx_iincN (L' := [(1, .int (nI (k + 1))), (0, ic_pt E 114)]) (pc := 47) dX12_anew_47 0 rfl cc_iconst_1 (Nat.le_of_ble_eq_true rfl) rfl ?_
        refine xx_goto (pc := 50) 2 dX12_anew_50 rfl ?_
        exact xx_sub [0, 1] rfl (ih_ (k + 1) w6 (by omega) (by rw [ew6, hk3b, wu_wr, ew5, wu_wr, hu, wr_s, wr_wr, wr_s, wr_wr, ← mo_an_s]) (by omega))
  refine xx_iconst (pc := 0) dX12_anew_0 cc_iconst_0 ?_
  refine xx_istore_n (L' := [(1, .int (nI 0)), (0, ic_pt E 114)]) (pc := 1) dX12_anew_1 rfl (Nat.le_of_ble_eq_true rfl) rfl ?_
  exact xx_sub [0, 1] rfl (lp (w 115 0 + 1) 0 w (by omega) (by rw [show mo_an (w 115) 0 = w 115 from funext fun k => by unfold mo_an; rw [if_neg (by omega), if_neg (by omega)], wr_id]) (by omega))

set_option maxHeartbeats 4000000 in
set_option maxRecDepth 100000 in
theorem cM_movedOn {l : Launch} {E : ic_E} {w : ic_w} {a b : Nat} (ha : a < 64) (hb : b < 4) : ic_C l E mX12_movedOn 1 0 0 False [.int (nI a), .int (nI b)] SHs (hn w) SHs (ic_qe (nI (mo_mv a b)) (hn w)) := by
  refine ic_intro (by decide +kernel) (Nat.le_of_ble_eq_true rfl) ?_
  show xx l E _ _ 0 [(0, .int (nI a)), (1, .int (nI b))] _ _ _
  have hp : a * 2 ^ b < 1024 := by
    rcases (show b = 0 ∨ b = 1 ∨ b = 2 ∨ b = 3 by omega) with rfl | rfl | rfl | rfl <;> omega
  refine xx_iload_n (pc := 0) dX12_movedOn_0 0 rfl rfl ?_
  refine xx_iload_n (pc := 1) dX12_movedOn_1 1 rfl rfl ?_
  refine xx_ishlN (pc := 2) dX12_movedOn_2 (by omega) (by omega) ?_
  refine xx_istore_n (L' := [(2, .int (nI (a * 2 ^ b))), (0, .int (nI a)), (1, .int (nI b))]) (pc := 3) dX12_movedOn_3 rfl (Nat.le_of_ble_eq_true rfl) rfl ?_
  refine xx_iload_n (pc := 4) dX12_movedOn_4 0 rfl rfl ?_
  refine xx_bipush (pc := 5) dX12_movedOn_5 cc_bipush_63 ?_
  refine xx_iandN (pc := 7) dX12_movedOn_7 ?_
  refine xx_iload_n (pc := 8) dX12_movedOn_8 0 rfl rfl ?_
  refine xx_bipush (pc := 9) dX12_movedOn_9 cc_bipush_6 ?_
  refine xx_ishrN (pc := 11) dX12_movedOn_11 (by omega) (by omega) ?_
  refine xx_iorN (pc := 12) dX12_movedOn_12 ?_
  exact xx_iret (pc := 13) dX12_movedOn_13 rfl (rfl) (Nat.le_refl _) (Nat.le_refl _) (ic_re (by rfl))

set_option maxHeartbeats 4000000 in
set_option maxRecDepth 100000 in
theorem cM_reach {l : Launch} {E : ic_E} {w : ic_w} {o : Nat} (ho_ : o < 2 ^ 32) {f : Nat} (hf_ : f < 2 ^ 32) (hI : In (w 115)) : ic_C l E mX12_reach 2 0 0 False [ic_pt E 114, .int (nI o), .int (nI f)] SHs (hn w) SHs (ic_qe (nI (if o < w 115 0 ∧ f < 6 then mo_reach (w 115) o f else 4294967295)) (hn w)) := by
  refine ic_intro (by decide +kernel) (Nat.le_of_ble_eq_true rfl) ?_
  show xx l E _ _ 0 [(0, ic_pt E 114), (1, .int (nI o)), (2, .int (nI f))] _ _ _
  have hn0 := hI.n
  refine xx_aload_nP (pc := 0) dX12_reach_0 0 rfl rfl ?_
  refine xx_iload_n (pc := 1) dX12_reach_1 1 rfl rfl ?_
  refine xx_callV0 (pc := 2) (st := []) sh_114 (cM_isOne (w := w) (o := o) (by omega) hI) kX12_isOne vX12_116_12 dX12_reach_2 rfl rfl (Nat.le_of_ble_eq_true rfl) ⟨Nat.le_of_ble_eq_true rfl, Nat.le_of_ble_eq_true rfl⟩ ⟨Nat.zero_le _, Nat.zero_le _⟩ (ic_ke ?_)
  refine xx_if_eqB (pc := 5) 15 dX12_reach_5 rfl (fun c1 => ?_) (fun c1 => ?_)
  · refine xx_iconst (pc := 15) dX12_reach_15 cc_iconst_m1 ?_
    exact xx_iret (pc := 16) dX12_reach_16 rfl (rfl) (Nat.le_refl _) (Nat.le_refl _) (ic_re (if_neg (by omega)).symm)
  · refine xx_iload_n (pc := 8) dX12_reach_8 2 rfl rfl ?_
    refine xx_callS0 (pc := 9) (st := []) (cM_isStop (w := w) (f := f) (by omega)) kX12_isStop sX12_74 dX12_reach_9 rfl rfl (Nat.le_of_ble_eq_true rfl) ⟨Nat.le_of_ble_eq_true rfl, Nat.le_of_ble_eq_true rfl⟩ ⟨Nat.zero_le _, Nat.zero_le _⟩ (ic_ke ?_)
    refine xx_if_neB (pc := 12) 17 dX12_reach_12 rfl (fun c2 => ?_) (fun c2 => ?_)
    · have ho5 := hI.i (o := o) (by omega)
      have hp5 := mo_p64 (n := it (w 115) o 5) (by omega)
      refine xx_iconst (pc := 17) dX12_reach_17 cc_iconst_1 ?_
      refine xx_aload_nP (pc := 18) dX12_reach_18 0 rfl rfl ?_
      refine xx_iload_n (pc := 19) dX12_reach_19 1 rfl rfl ?_
      refine xx_iconst (pc := 20) dX12_reach_20 cc_iconst_5 ?_
      refine xx_callV0 (pc := 21) (st := [.int (nI 1)]) sh_114 (cM_its (w := w) (o := o) (k := 5) (by omega) (by omega)) kX12_its vX12_82_12 dX12_reach_21 rfl rfl (Nat.le_of_ble_eq_true rfl) ⟨Nat.le_of_ble_eq_true rfl, Nat.le_of_ble_eq_true rfl⟩ ⟨Nat.zero_le _, Nat.zero_le _⟩ (ic_ke ?_)
      refine xx_ishlN (pc := 24) dX12_reach_24 (by omega) (by omega) ?_
      refine xx_istore_n (L' := [(3, .int (nI (1 * 2 ^ (it (w 115) o 5)))), (0, ic_pt E 114), (1, .int (nI o)), (2, .int (nI f))]) (pc := 25) dX12_reach_25 rfl (Nat.le_of_ble_eq_true rfl) rfl ?_
      refine xx_iconst (pc := 26) dX12_reach_26 cc_iconst_0 ?_
      refine xx_istore (L' := [(4, .int (nI 0)), (3, .int (nI (1 * 2 ^ (it (w 115) o 5)))), (0, ic_pt E 114), (1, .int (nI o)), (2, .int (nI f))]) (pc := 27) dX12_reach_27 (Nat.le_of_ble_eq_true rfl) rfl ?_
      have lp : ∀ (n_ : Nat) (n t : Nat), n ≤ 17 → t = mo_rs (w 115) o n → mo_reach (w 115) o f = mo_rchN (w 115) o f (17 - n) n → 17 - n < n_ → xx l E (ic_fr E mX12_reach 2 0 0 False SHs (ic_qe (nI (if o < w 115 0 ∧ f < 6 then mo_reach (w 115) o f else 4294967295)) (hn w))) (0, 0) 29 [(4, .int (nI n)), (3, .int (nI t)), (0, ic_pt E 114), (1, .int (nI o)), (2, .int (nI f))] [] SHs (hn w) := by
        intro n_
        induction n_ with
        | zero => intro n t hn17 ht hq hm_; exact absurd hm_ (Nat.not_lt_zero _)
        | succ n_ ih_ =>
          intro n t hn17 ht hq hm_
          have ht64 : t < 64 := by rw [ht]; exact mo_rs_lt hI (by omega) n
          have hdl := mo_drifts_le (it (w 115) o 0) (w 115 1 + n)
          have httt := hI.t
          refine xx_iload (pc := 29) dX12_reach_29 0 rfl ?_
          refine xx_bipush (pc := 31) dX12_reach_31 cc_bipush_16 ?_
          refine xx_icmp_gtN (pc := 33) 79 dX12_reach_33 rfl (by omega) (by omega) (fun c53 => ?_) (fun c53 => ?_)
          · refine xx_iload (pc := 79) dX12_reach_79 0 rfl ?_
            refine xx_bipush (pc := 81) dX12_reach_81 cc_bipush_16 ?_
            refine xx_icmp_gtN (pc := 83) 91 dX12_reach_83 rfl (by omega) (by omega) (fun c54 => ?_) (fun c54 => ?_)
            · refine xx_bipush (pc := 91) dX12_reach_91 cc_bipush_m3 ?_
              exact xx_iret (pc := 93) dX12_reach_93 rfl (rfl) (Nat.le_refl _) (Nat.le_refl _) (ic_re (by rw [if_pos (by omega), hq, show 17 - n = 0 by omega]; rfl))
            · refine xx_iload (pc := 86) dX12_reach_86 0 rfl ?_
              refine xx_goto (pc := 88) 93 dX12_reach_88 rfl ?_
              exact xx_iret (pc := 93) dX12_reach_93 rfl (rfl) (Nat.le_refl _) (Nat.le_refl _) (ic_re (by first | (exfalso; omega) | rw [if_pos (by omega), hq, show 17 - n = (17 - (n + 1)) + 1 by omega, mo_rchN, ← ht, if_neg (by assumption)]))
          · refine xx_iload_n (pc := 36) dX12_reach_36 1 rfl rfl ?_
            refine xx_iload_n (pc := 37) dX12_reach_37 4 rfl rfl ?_
            refine xx_ishrN (pc := 38) dX12_reach_38 (by omega) (by omega) ?_
            refine xx_iconst (pc := 39) dX12_reach_39 cc_iconst_1 ?_
            refine xx_iandN (pc := 40) dX12_reach_40 ?_
            refine xx_if_neN (pc := 41) 79 dX12_reach_41 rfl (by have := Nat.and_le_right (n := t / 2 ^ f) (m := 1); omega) (fun c55 => ?_) (fun c55 => ?_)
            · refine xx_iload (pc := 79) dX12_reach_79 0 rfl ?_
              refine xx_bipush (pc := 81) dX12_reach_81 cc_bipush_16 ?_
              refine xx_icmp_gtN (pc := 83) 91 dX12_reach_83 rfl (by omega) (by omega) (fun c56 => ?_) (fun c56 => ?_)
              · refine xx_bipush (pc := 91) dX12_reach_91 cc_bipush_m3 ?_
                exact xx_iret (pc := 93) dX12_reach_93 rfl (rfl) (Nat.le_refl _) (Nat.le_refl _) (ic_re (by rw [if_pos (by omega), hq, show 17 - n = 0 by omega]; rfl))
              · refine xx_iload (pc := 86) dX12_reach_86 0 rfl ?_
                refine xx_goto (pc := 88) 93 dX12_reach_88 rfl ?_
                exact xx_iret (pc := 93) dX12_reach_93 rfl (rfl) (Nat.le_refl _) (Nat.le_refl _) (ic_re (by first | (exfalso; omega) | rw [if_pos (by omega), hq, show 17 - n = (17 - (n + 1)) + 1 by omega, mo_rchN, ← ht, if_neg (by assumption)]))
            · refine xx_iload_n (pc := 44) dX12_reach_44 1 rfl rfl ?_
              refine xx_iload_n (pc := 45) dX12_reach_45 1 rfl rfl ?_
              refine xx_iconst (pc := 46) dX12_reach_46 cc_iconst_1 ?_
              refine xx_callS0 (pc := 47) (st := [.int (nI t)]) (cM_movedOn (w := w) (a := t) (b := 1) (by omega) (by omega)) kX12_movedOn sX12_264 dX12_reach_47 rfl rfl (Nat.le_of_ble_eq_true rfl) ⟨Nat.le_of_ble_eq_true rfl, Nat.le_of_ble_eq_true rfl⟩ ⟨Nat.zero_le _, Nat.zero_le _⟩ (ic_ke ?_)
              refine xx_iorN (pc := 50) dX12_reach_50 ?_
              refine xx_aload_nP (pc := 51) dX12_reach_51 2 rfl rfl ?_
              refine xx_iload_n (pc := 52) dX12_reach_52 3 rfl rfl ?_
              refine xx_iconst (pc := 53) dX12_reach_53 cc_iconst_0 ?_
              refine xx_callV0 (pc := 54) (st := [.int (nI (t ||| (mo_mv t 1)))]) sh_114 (cM_its (w := w) (o := o) (k := 0) (by omega) (by omega)) kX12_its vX12_82_12 dX12_reach_54 rfl rfl (Nat.le_of_ble_eq_true rfl) ⟨Nat.le_of_ble_eq_true rfl, Nat.le_of_ble_eq_true rfl⟩ ⟨Nat.zero_le _, Nat.zero_le _⟩ (ic_ke ?_)
              refine xx_aload_nP (pc := 57) dX12_reach_57 2 rfl rfl ?_
              refine xx_getR (pc := 58) 115 dX12_reach_58 sh_114 fX12_7_12 rfl rfl (by decide) ?_
              refine xx_iconst (pc := 61) dX12_reach_61 cc_iconst_1 ?_
              refine xx_ialdN (pc := 62) dX12_reach_62 sh_115 (by omega) (by decide) ?_
              refine xx_iload (pc := 63) dX12_reach_63 0 rfl ?_
              refine xx_iaddN (pc := 65) dX12_reach_65 ?_
              refine xx_callS0 (pc := 66) (st := [.int (nI (t ||| (mo_mv t 1)))]) (cM_drifts (w := w) (k := it (w 115) o 0) (t := (w 115 1) + n) (by omega) (by omega)) kX12_drifts sX12_124 dX12_reach_66 rfl rfl (Nat.le_of_ble_eq_true rfl) ⟨Nat.le_of_ble_eq_true rfl, Nat.le_of_ble_eq_true rfl⟩ ⟨Nat.zero_le _, Nat.zero_le _⟩ (ic_ke ?_)
              refine xx_callS0 (pc := 69) (st := []) (cM_movedOn (w := w) (a := t ||| (mo_mv t 1)) (b := mo_drifts (it (w 115) o 0) ((w 115 1) + n)) (by exact mo_or64 ht64 (mo_mv_lt _ ht64 1 (by omega))) (by omega)) kX12_movedOn sX12_264 dX12_reach_69 rfl rfl (Nat.le_of_ble_eq_true rfl) ⟨Nat.le_of_ble_eq_true rfl, Nat.le_of_ble_eq_true rfl⟩ ⟨Nat.zero_le _, Nat.zero_le _⟩ (ic_ke ?_)
              refine xx_istore_n (L' := [(3, .int (nI (mo_mv (t ||| (mo_mv t 1)) (mo_drifts (it (w 115) o 0) ((w 115 1) + n))))), (4, .int (nI n)), (0, ic_pt E 114), (1, .int (nI o)), (2, .int (nI f))]) (pc := 72) dX12_reach_72 rfl (Nat.le_of_ble_eq_true rfl) rfl ?_
              refine xx_iincN (L' := [(4, .int (nI (n + 1))), (3, .int (nI (mo_mv (t ||| (mo_mv t 1)) (mo_drifts (it (w 115) o 0) ((w 115 1) + n))))), (0, ic_pt E 114), (1, .int (nI o)), (2, .int (nI f))]) (pc := 73) dX12_reach_73 1 rfl cc_iconst_1 (Nat.le_of_ble_eq_true rfl) rfl ?_
              refine xx_goto (pc := 76) 29 dX12_reach_76 rfl ?_
              exact xx_sub [0, 1, 2, 3, 4] rfl (ih_ (n + 1) _ (by omega) (by rw [ht]; rfl) (by rw [hq, show 17 - n = (17 - (n + 1)) + 1 by omega, mo_rchN, ← ht, if_pos (by assumption)]) (by omega))
      exact xx_sub [0, 1, 2, 3, 4] rfl (lp 18 0 _ (by omega) (by rw [Nat.one_mul]; rfl) rfl (by omega))
    · refine xx_iconst (pc := 15) dX12_reach_15 cc_iconst_m1 ?_
      exact xx_iret (pc := 16) dX12_reach_16 rfl (rfl) (Nat.le_refl _) (Nat.le_refl _) (ic_re (if_neg (by omega)).symm)

set_option maxHeartbeats 4000000 in
set_option maxRecDepth 100000 in
theorem cM_areClose {l : Launch} {E : ic_E} {w : ic_w} {p q : Nat} (hp : p < 6) (hq : q < 6) (hI : In (w 115)) : ic_C l E mX12_areClose 2 0 0 False [ic_pt E 114, .int (nI p), .int (nI q)] SHs (hn w) SHs (ic_qe (nI (ic_bo (mo_close (w 115) p q = true))) (hn w)) := by
  refine ic_intro (by decide +kernel) (Nat.le_of_ble_eq_true rfl) ?_
  show xx l E _ _ 0 [(0, ic_pt E 114), (1, .int (nI p)), (2, .int (nI q))] _ _ _
  have hp5 := hI.i hp
  have hq5 := hI.i hq
  refine xx_aload_nP (pc := 0) dX12_areClose_0 0 rfl rfl ?_
  refine xx_iload_n (pc := 1) dX12_areClose_1 1 rfl rfl ?_
  refine xx_iconst (pc := 2) dX12_areClose_2 cc_iconst_4 ?_
  refine xx_callV0 (pc := 3) (st := []) sh_114 (cM_its (w := w) (o := p) (k := 4) (by omega) (by omega)) kX12_its vX12_82_12 dX12_areClose_3 rfl rfl (Nat.le_of_ble_eq_true rfl) ⟨Nat.le_of_ble_eq_true rfl, Nat.le_of_ble_eq_true rfl⟩ ⟨Nat.zero_le _, Nat.zero_le _⟩ (ic_ke ?_)
  refine xx_if_neN (pc := 6) 22 dX12_areClose_6 rfl (by omega) (fun c1 => ?_) (fun c1 => ?_)
  · refine xx_iconst (pc := 22) dX12_areClose_22 cc_iconst_0 ?_
    refine xx_istore_n (L' := [(3, .int (nI 0)), (0, ic_pt E 114), (1, .int (nI p)), (2, .int (nI q))]) (pc := 23) dX12_areClose_23 rfl (Nat.le_of_ble_eq_true rfl) rfl ?_
    refine xx_aload_nP (pc := 24) dX12_areClose_24 1 rfl rfl ?_
    refine xx_iload_n (pc := 25) dX12_areClose_25 2 rfl rfl ?_
    refine xx_iconst (pc := 26) dX12_areClose_26 cc_iconst_1 ?_
    refine xx_callV0 (pc := 27) (st := []) sh_114 (cM_its (w := w) (o := p) (k := 1) (by omega) (by omega)) kX12_its vX12_82_12 dX12_areClose_27 rfl rfl (Nat.le_of_ble_eq_true rfl) ⟨Nat.le_of_ble_eq_true rfl, Nat.le_of_ble_eq_true rfl⟩ ⟨Nat.zero_le _, Nat.zero_le _⟩ (ic_ke ?_)
    refine xx_aload_nP (pc := 30) dX12_areClose_30 1 rfl rfl ?_
    refine xx_iload_n (pc := 31) dX12_areClose_31 3 rfl rfl ?_
    refine xx_iconst (pc := 32) dX12_areClose_32 cc_iconst_1 ?_
    refine xx_callV0 (pc := 33) (st := [.int (nI (it (w 115) p 1))]) sh_114 (cM_its (w := w) (o := q) (k := 1) (by omega) (by omega)) kX12_its vX12_82_12 dX12_areClose_33 rfl rfl (Nat.le_of_ble_eq_true rfl) ⟨Nat.le_of_ble_eq_true rfl, Nat.le_of_ble_eq_true rfl⟩ ⟨Nat.zero_le _, Nat.zero_le _⟩ (ic_ke ?_)
    refine xx_isubW (pc := 36) dX12_areClose_36 (by omega) ?_
    refine xx_istore (L' := [(4, .int (nI ((it (w 115) p 1) + (4294967296 - (it (w 115) q 1))))), (3, .int (nI 0)), (0, ic_pt E 114), (1, .int (nI p)), (2, .int (nI q))]) (pc := 37) dX12_areClose_37 (Nat.le_of_ble_eq_true rfl) rfl ?_
    refine xx_iload_n (pc := 39) dX12_areClose_39 1 rfl rfl ?_
    refine xx_if_eqN (pc := 40) 75 dX12_areClose_40 rfl (by omega) (fun c2 => ?_) (fun c2 => by exfalso; omega)
    refine xx_iconst (pc := 75) dX12_areClose_75 cc_iconst_0 ?_
    exact xx_iret (pc := 76) dX12_areClose_76 rfl (rfl) (Nat.le_refl _) (Nat.le_refl _) (ic_re (ic_bo_f (by unfold mo_close; simp; omega)).symm)
  · refine xx_aload_nP (pc := 9) dX12_areClose_9 0 rfl rfl ?_
    refine xx_iload_n (pc := 10) dX12_areClose_10 2 rfl rfl ?_
    refine xx_iconst (pc := 11) dX12_areClose_11 cc_iconst_4 ?_
    refine xx_callV0 (pc := 12) (st := []) sh_114 (cM_its (w := w) (o := q) (k := 4) (by omega) (by omega)) kX12_its vX12_82_12 dX12_areClose_12 rfl rfl (Nat.le_of_ble_eq_true rfl) ⟨Nat.le_of_ble_eq_true rfl, Nat.le_of_ble_eq_true rfl⟩ ⟨Nat.zero_le _, Nat.zero_le _⟩ (ic_ke ?_)
    refine xx_if_neN (pc := 15) 22 dX12_areClose_15 rfl (by omega) (fun c3 => ?_) (fun c3 => ?_)
    · refine xx_iconst (pc := 22) dX12_areClose_22 cc_iconst_0 ?_
      refine xx_istore_n (L' := [(3, .int (nI 0)), (0, ic_pt E 114), (1, .int (nI p)), (2, .int (nI q))]) (pc := 23) dX12_areClose_23 rfl (Nat.le_of_ble_eq_true rfl) rfl ?_
      refine xx_aload_nP (pc := 24) dX12_areClose_24 1 rfl rfl ?_
      refine xx_iload_n (pc := 25) dX12_areClose_25 2 rfl rfl ?_
      refine xx_iconst (pc := 26) dX12_areClose_26 cc_iconst_1 ?_
      refine xx_callV0 (pc := 27) (st := []) sh_114 (cM_its (w := w) (o := p) (k := 1) (by omega) (by omega)) kX12_its vX12_82_12 dX12_areClose_27 rfl rfl (Nat.le_of_ble_eq_true rfl) ⟨Nat.le_of_ble_eq_true rfl, Nat.le_of_ble_eq_true rfl⟩ ⟨Nat.zero_le _, Nat.zero_le _⟩ (ic_ke ?_)
      refine xx_aload_nP (pc := 30) dX12_areClose_30 1 rfl rfl ?_
      refine xx_iload_n (pc := 31) dX12_areClose_31 3 rfl rfl ?_
      refine xx_iconst (pc := 32) dX12_areClose_32 cc_iconst_1 ?_
      refine xx_callV0 (pc := 33) (st := [.int (nI (it (w 115) p 1))]) sh_114 (cM_its (w := w) (o := q) (k := 1) (by omega) (by omega)) kX12_its vX12_82_12 dX12_areClose_33 rfl rfl (Nat.le_of_ble_eq_true rfl) ⟨Nat.le_of_ble_eq_true rfl, Nat.le_of_ble_eq_true rfl⟩ ⟨Nat.zero_le _, Nat.zero_le _⟩ (ic_ke ?_)
      refine xx_isubW (pc := 36) dX12_areClose_36 (by omega) ?_
      refine xx_istore (L' := [(4, .int (nI ((it (w 115) p 1) + (4294967296 - (it (w 115) q 1))))), (3, .int (nI 0)), (0, ic_pt E 114), (1, .int (nI p)), (2, .int (nI q))]) (pc := 37) dX12_areClose_37 (Nat.le_of_ble_eq_true rfl) rfl ?_
      refine xx_iload_n (pc := 39) dX12_areClose_39 1 rfl rfl ?_
      refine xx_if_eqN (pc := 40) 75 dX12_areClose_40 rfl (by omega) (fun c4 => ?_) (fun c4 => by exfalso; omega)
      refine xx_iconst (pc := 75) dX12_areClose_75 cc_iconst_0 ?_
      exact xx_iret (pc := 76) dX12_areClose_76 rfl (rfl) (Nat.le_refl _) (Nat.le_refl _) (ic_re (ic_bo_f (by unfold mo_close; simp; omega)).symm)
    · refine xx_iconst (pc := 18) dX12_areClose_18 cc_iconst_1 ?_
      refine xx_goto (pc := 19) 23 dX12_areClose_19 rfl ?_
      refine xx_istore_n (L' := [(3, .int (nI 1)), (0, ic_pt E 114), (1, .int (nI p)), (2, .int (nI q))]) (pc := 23) dX12_areClose_23 rfl (Nat.le_of_ble_eq_true rfl) rfl ?_
      refine xx_aload_nP (pc := 24) dX12_areClose_24 1 rfl rfl ?_
      refine xx_iload_n (pc := 25) dX12_areClose_25 2 rfl rfl ?_
      refine xx_iconst (pc := 26) dX12_areClose_26 cc_iconst_1 ?_
      refine xx_callV0 (pc := 27) (st := []) sh_114 (cM_its (w := w) (o := p) (k := 1) (by omega) (by omega)) kX12_its vX12_82_12 dX12_areClose_27 rfl rfl (Nat.le_of_ble_eq_true rfl) ⟨Nat.le_of_ble_eq_true rfl, Nat.le_of_ble_eq_true rfl⟩ ⟨Nat.zero_le _, Nat.zero_le _⟩ (ic_ke ?_)
      refine xx_aload_nP (pc := 30) dX12_areClose_30 1 rfl rfl ?_
      refine xx_iload_n (pc := 31) dX12_areClose_31 3 rfl rfl ?_
      refine xx_iconst (pc := 32) dX12_areClose_32 cc_iconst_1 ?_
      refine xx_callV0 (pc := 33) (st := [.int (nI (it (w 115) p 1))]) sh_114 (cM_its (w := w) (o := q) (k := 1) (by omega) (by omega)) kX12_its vX12_82_12 dX12_areClose_33 rfl rfl (Nat.le_of_ble_eq_true rfl) ⟨Nat.le_of_ble_eq_true rfl, Nat.le_of_ble_eq_true rfl⟩ ⟨Nat.zero_le _, Nat.zero_le _⟩ (ic_ke ?_)
      refine xx_isubW (pc := 36) dX12_areClose_36 (by omega) ?_
      refine xx_istore (L' := [(4, .int (nI ((it (w 115) p 1) + (4294967296 - (it (w 115) q 1))))), (3, .int (nI 1)), (0, ic_pt E 114), (1, .int (nI p)), (2, .int (nI q))]) (pc := 37) dX12_areClose_37 (Nat.le_of_ble_eq_true rfl) rfl ?_
      refine xx_iload_n (pc := 39) dX12_areClose_39 1 rfl rfl ?_
      refine xx_if_eqN (pc := 40) 75 dX12_areClose_40 rfl (by omega) (fun c5 => by exfalso; omega) (fun c5 => ?_)
      refine xx_aload_nP (pc := 43) dX12_areClose_43 2 rfl rfl ?_
      refine xx_iload_n (pc := 44) dX12_areClose_44 3 rfl rfl ?_
      refine xx_iconst (pc := 45) dX12_areClose_45 cc_iconst_5 ?_
      refine xx_callV0 (pc := 46) (st := []) sh_114 (cM_its (w := w) (o := p) (k := 5) (by omega) (by omega)) kX12_its vX12_82_12 dX12_areClose_46 rfl rfl (Nat.le_of_ble_eq_true rfl) ⟨Nat.le_of_ble_eq_true rfl, Nat.le_of_ble_eq_true rfl⟩ ⟨Nat.zero_le _, Nat.zero_le _⟩ (ic_ke ?_)
      refine xx_aload_nP (pc := 49) dX12_areClose_49 2 rfl rfl ?_
      refine xx_iload_n (pc := 50) dX12_areClose_50 4 rfl rfl ?_
      refine xx_iconst (pc := 51) dX12_areClose_51 cc_iconst_5 ?_
      refine xx_callV0 (pc := 52) (st := [.int (nI (it (w 115) p 5))]) sh_114 (cM_its (w := w) (o := q) (k := 5) (by omega) (by omega)) kX12_its vX12_82_12 dX12_areClose_52 rfl rfl (Nat.le_of_ble_eq_true rfl) ⟨Nat.le_of_ble_eq_true rfl, Nat.le_of_ble_eq_true rfl⟩ ⟨Nat.zero_le _, Nat.zero_le _⟩ (ic_ke ?_)
      refine xx_icmp_eqN (pc := 55) 71 dX12_areClose_55 rfl (by omega) (by omega) (fun c6 => ?_) (fun c6 => ?_)
      · refine xx_iconst (pc := 71) dX12_areClose_71 cc_iconst_1 ?_
        refine xx_goto (pc := 72) 76 dX12_areClose_72 rfl ?_
        exact xx_iret (pc := 76) dX12_areClose_76 rfl (rfl) (Nat.le_refl _) (Nat.le_refl _) (ic_re (ic_bo_t (by unfold mo_close; simp; omega)).symm)
      · refine xx_iload (pc := 58) dX12_areClose_58 0 rfl ?_
        refine xx_bipush (pc := 60) dX12_areClose_60 cc_bipush_m4 ?_
        refine xx_icmp_lt (pc := 62) 75 dX12_areClose_62 rfl (fun c7 => ?_) (fun c7 => ?_)
        · rw [cl_lt (by omega) (by omega)] at c7
          refine xx_iconst (pc := 75) dX12_areClose_75 cc_iconst_0 ?_
          exact xx_iret (pc := 76) dX12_areClose_76 rfl (rfl) (Nat.le_refl _) (Nat.le_refl _) (ic_re (ic_bo_f (by unfold mo_close; simp; omega)).symm)
        · rw [cl_lt (by omega) (by omega)] at c7
          refine xx_iload (pc := 65) dX12_areClose_65 0 rfl ?_
          refine xx_iconst (pc := 67) dX12_areClose_67 cc_iconst_4 ?_
          refine xx_icmp_gt (pc := 68) 75 dX12_areClose_68 rfl (fun c8 => ?_) (fun c8 => ?_)
          · rw [cl_gt (by omega) (by omega)] at c8
            refine xx_iconst (pc := 75) dX12_areClose_75 cc_iconst_0 ?_
            exact xx_iret (pc := 76) dX12_areClose_76 rfl (rfl) (Nat.le_refl _) (Nat.le_refl _) (ic_re (ic_bo_f (by unfold mo_close; simp; omega)).symm)
          · rw [cl_gt (by omega) (by omega)] at c8
            refine xx_iconst (pc := 71) dX12_areClose_71 cc_iconst_1 ?_
            refine xx_goto (pc := 72) 76 dX12_areClose_72 rfl ?_
            exact xx_iret (pc := 76) dX12_areClose_76 rfl (rfl) (Nat.le_refl _) (Nat.le_refl _) (ic_re (ic_bo_t (by unfold mo_close; simp; omega)).symm)

set_option maxHeartbeats 4000000 in
set_option maxRecDepth 100000 in
theorem cM_carriageOf {l : Launch} {E : ic_E} {w : ic_w} {o : Nat} (ho : o < 6) (hI : In (w 115)) : ic_C l E mX12_carriageOf 3 0 0 False [ic_pt E 114, .int (nI o)] SHs (hn w) SHs (ic_qe (nI (mo_carr (w 115) o)) (hn w)) := by
  refine ic_intro (by decide +kernel) (Nat.le_of_ble_eq_true rfl) ?_
  show xx l E _ _ 0 [(0, ic_pt E 114), (1, .int (nI o))] _ _ _
  have hn0 := hI.n
  have ho5 := hI.i ho
  have hp2 := mo_p64 ho
  have lk : ∀ (n_ : Nat) (k tk : Nat), k ≤ 6 → tk = mo_ck (w 115) (if it (w 115) o 4 = 0 then 2 ^ o else 0) k → 6 - k < n_ → xx l E (ic_fr E mX12_carriageOf 3 0 0 False SHs (ic_qe (nI (mo_carr (w 115) o)) (hn w))) (0, 0) 19 [(3, .int (nI k)), (2, .int (nI tk)), (0, ic_pt E 114), (1, .int (nI o))] [] SHs (hn w) := by
    intro n_
    induction n_ with
    | zero => intro k tk hk htk hm_; exact absurd hm_ (Nat.not_lt_zero _)
    | succ n_ ihk_ =>
      intro k tk hk htk hm_
      have htk64 : tk < 64 := by rw [htk]; exact mo_ck_lt hn0 (by split; exact hp2; decide) k
      refine xx_iload_n (pc := 19) dX12_carriageOf_19 0 rfl rfl ?_
      refine xx_bipush (pc := 20) dX12_carriageOf_20 cc_bipush_6 ?_
      refine xx_icmp_geN (pc := 22) 103 dX12_carriageOf_22 rfl (by omega) (by omega) (fun c1 => ?_) (fun c1 => ?_)
      · refine xx_iload_n (pc := 103) dX12_carriageOf_103 1 rfl rfl ?_
        exact xx_iret (pc := 104) dX12_carriageOf_104 rfl (rfl) (Nat.le_refl _) (Nat.le_refl _) (ic_re (by rw [htk, show k = 6 by omega]; rfl))
      · refine xx_iconst (pc := 25) dX12_carriageOf_25 cc_iconst_0 ?_
        refine xx_istore (L' := [(4, .int (nI 0)), (3, .int (nI k)), (2, .int (nI tk)), (0, ic_pt E 114), (1, .int (nI o))]) (pc := 26) dX12_carriageOf_26 (Nat.le_of_ble_eq_true rfl) rfl ?_
        have lpp : ∀ (n_ : Nat) (p tp : Nat), p ≤ w 115 0 → tp = mo_cr (w 115) tk p → w 115 0 - p < n_ → xx l E (ic_fr E mX12_carriageOf 3 0 0 False SHs (ic_qe (nI (mo_carr (w 115) o)) (hn w))) (0, 0) 28 [(4, .int (nI p)), (3, .int (nI k)), (2, .int (nI tp)), (0, ic_pt E 114), (1, .int (nI o))] [] SHs (hn w) := by
          intro n_
          induction n_ with
          | zero => intro p tp hp htp hm_; exact absurd hm_ (Nat.not_lt_zero _)
          | succ n_ ihp_ =>
            intro p tp hp htp hm_
            have htp64 : tp < 64 := by rw [htp]; exact mo_cr_lt hn0 htk64 p
            refine xx_iload (pc := 28) dX12_carriageOf_28 0 rfl ?_
            refine xx_aload_nP (pc := 30) dX12_carriageOf_30 3 rfl rfl ?_
            refine xx_getR (pc := 31) 115 dX12_carriageOf_31 sh_114 fX12_7_12 rfl rfl (by decide) ?_
            refine xx_iconst (pc := 34) dX12_carriageOf_34 cc_iconst_0 ?_
            refine xx_ialdN (pc := 35) dX12_carriageOf_35 sh_115 (by omega) (by decide) ?_
            refine xx_icmp_geN (pc := 36) 97 dX12_carriageOf_36 rfl (by omega) (by omega) (fun c52 => ?_) (fun c52 => ?_)
            · refine xx_iincN (L' := [(3, .int (nI (k + 1))), (4, .int (nI p)), (2, .int (nI tp)), (0, ic_pt E 114), (1, .int (nI o))]) (pc := 97) dX12_carriageOf_97 1 rfl cc_iconst_1 (Nat.le_of_ble_eq_true rfl) rfl ?_
              refine xx_goto (pc := 100) 19 dX12_carriageOf_100 rfl ?_
              exact xx_sub [0, 2, 3, 4] rfl (ihk_ (k + 1) _ (by omega) (by rw [htp, show p = w 115 0 by omega, htk]; rfl) (by omega))
            · refine xx_iconst (pc := 39) dX12_carriageOf_39 cc_iconst_0 ?_
              refine xx_istore (L' := [(5, .int (nI 0)), (4, .int (nI p)), (3, .int (nI k)), (2, .int (nI tp)), (0, ic_pt E 114), (1, .int (nI o))]) (pc := 40) dX12_carriageOf_40 (Nat.le_of_ble_eq_true rfl) rfl ?_
              have lq : ∀ (n_ : Nat) (q t : Nat), q ≤ w 115 0 → t = mo_cq (w 115) p tp q → w 115 0 - q < n_ → xx l E (ic_fr E mX12_carriageOf 3 0 0 False SHs (ic_qe (nI (mo_carr (w 115) o)) (hn w))) (0, 0) 42 [(5, .int (nI q)), (4, .int (nI p)), (3, .int (nI k)), (2, .int (nI t)), (0, ic_pt E 114), (1, .int (nI o))] [] SHs (hn w) := by
                intro n_
                induction n_ with
                | zero => intro q t hq ht hm_; exact absurd hm_ (Nat.not_lt_zero _)
                | succ n_ ih_ =>
                  intro q t hq ht hm_
                  have ht64 : t < 64 := by rw [ht]; exact mo_cq_lt htp64 q (by omega)
                  have hbt := Nat.div_le_self t (2 ^ p)
                  refine xx_iload (pc := 42) dX12_carriageOf_42 0 rfl ?_
                  refine xx_aload_nP (pc := 44) dX12_carriageOf_44 4 rfl rfl ?_
                  refine xx_getR (pc := 45) 115 dX12_carriageOf_45 sh_114 fX12_7_12 rfl rfl (by decide) ?_
                  refine xx_iconst (pc := 48) dX12_carriageOf_48 cc_iconst_0 ?_
                  refine xx_ialdN (pc := 49) dX12_carriageOf_49 sh_115 (by omega) (by decide) ?_
                  refine xx_icmp_geN (pc := 50) 91 dX12_carriageOf_50 rfl (by omega) (by omega) (fun c103 => ?_) (fun c103 => ?_)
                  · refine xx_iincN (L' := [(4, .int (nI (p + 1))), (5, .int (nI q)), (3, .int (nI k)), (2, .int (nI t)), (0, ic_pt E 114), (1, .int (nI o))]) (pc := 91) dX12_carriageOf_91 1 rfl cc_iconst_1 (Nat.le_of_ble_eq_true rfl) rfl ?_
                    refine xx_goto (pc := 94) 28 dX12_carriageOf_94 rfl ?_
                    exact xx_sub [0, 2, 3, 4, 5] rfl (ihp_ (p + 1) _ (by omega) (by rw [ht, show q = w 115 0 by omega, htp]; rfl) (by omega))
                  · refine xx_iload_n (pc := 53) dX12_carriageOf_53 3 rfl rfl ?_
                    refine xx_iload_n (pc := 54) dX12_carriageOf_54 3 rfl rfl ?_
                    refine xx_iload (pc := 55) dX12_carriageOf_55 1 rfl ?_
                    refine xx_ishrN (pc := 57) dX12_carriageOf_57 (by omega) (by omega) ?_
                    refine xx_iconst (pc := 58) dX12_carriageOf_58 cc_iconst_1 ?_
                    refine xx_iandN (pc := 59) dX12_carriageOf_59 ?_
                    refine xx_iconst (pc := 60) dX12_carriageOf_60 cc_iconst_1 ?_
                    refine xx_icmp_neN (pc := 61) 82 dX12_carriageOf_61 rfl (by have := Nat.and_le_right (n := t / 2 ^ p) (m := 1); omega) (by omega) (fun c104 => ?_) (fun c104 => ?_)
                    · refine xx_iconst (pc := 82) dX12_carriageOf_82 cc_iconst_0 ?_
                      refine xx_iorN (pc := 83) dX12_carriageOf_83 ?_
                      refine xx_istore_n (L' := [(2, .int (nI (t ||| 0))), (5, .int (nI q)), (4, .int (nI p)), (3, .int (nI k)), (0, ic_pt E 114), (1, .int (nI o))]) (pc := 84) dX12_carriageOf_84 rfl (Nat.le_of_ble_eq_true rfl) rfl ?_
                      refine xx_iincN (L' := [(5, .int (nI (q + 1))), (2, .int (nI (t ||| 0))), (4, .int (nI p)), (3, .int (nI k)), (0, ic_pt E 114), (1, .int (nI o))]) (pc := 85) dX12_carriageOf_85 1 rfl cc_iconst_1 (Nat.le_of_ble_eq_true rfl) rfl ?_
                      refine xx_goto (pc := 88) 42 dX12_carriageOf_88 rfl ?_
                      exact xx_sub [0, 2, 3, 1, 4, 5] rfl (ih_ (q + 1) _ (by omega) (by rw [Nat.or_zero, ht, mo_cq, if_neg (fun z => by have z1 := z.1; rw [← ht] at z1; have z2 := z.2; contradiction)]) (by omega))
                    · refine xx_aload_nP (pc := 64) dX12_carriageOf_64 4 rfl rfl ?_
                      refine xx_iload (pc := 65) dX12_carriageOf_65 1 rfl ?_
                      refine xx_iload (pc := 67) dX12_carriageOf_67 0 rfl ?_
                      refine xx_callV0 (pc := 69) (st := [.int (nI t)]) sh_114 (cM_areClose (w := w) (p := p) (q := q) (by omega) (by omega) hI) kX12_areClose vX12_267_12 dX12_carriageOf_69 rfl rfl (Nat.le_of_ble_eq_true rfl) ⟨Nat.le_of_ble_eq_true rfl, Nat.le_of_ble_eq_true rfl⟩ ⟨Nat.zero_le _, Nat.zero_le _⟩ (ic_ke ?_)
                      refine xx_if_eqB (pc := 72) 82 dX12_carriageOf_72 rfl (fun c105 => ?_) (fun c105 => ?_)
                      · refine xx_iconst (pc := 82) dX12_carriageOf_82 cc_iconst_0 ?_
                        refine xx_iorN (pc := 83) dX12_carriageOf_83 ?_
                        refine xx_istore_n (L' := [(2, .int (nI (t ||| 0))), (5, .int (nI q)), (4, .int (nI p)), (3, .int (nI k)), (0, ic_pt E 114), (1, .int (nI o))]) (pc := 84) dX12_carriageOf_84 rfl (Nat.le_of_ble_eq_true rfl) rfl ?_
                        refine xx_iincN (L' := [(5, .int (nI (q + 1))), (2, .int (nI (t ||| 0))), (4, .int (nI p)), (3, .int (nI k)), (0, ic_pt E 114), (1, .int (nI o))]) (pc := 85) dX12_carriageOf_85 1 rfl cc_iconst_1 (Nat.le_of_ble_eq_true rfl) rfl ?_
                        refine xx_goto (pc := 88) 42 dX12_carriageOf_88 rfl ?_
                        exact xx_sub [0, 2, 3, 1, 4, 5] rfl (ih_ (q + 1) _ (by omega) (by rw [Nat.or_zero, ht, mo_cq, if_neg (fun z => by have z1 := z.1; rw [← ht] at z1; have z2 := z.2; contradiction)]) (by omega))
                      · refine xx_iconst (pc := 75) dX12_carriageOf_75 cc_iconst_1 ?_
                        refine xx_iload (pc := 76) dX12_carriageOf_76 0 rfl ?_
                        refine xx_ishlN (pc := 78) dX12_carriageOf_78 (by omega) (by have := mo_p64 (n := q) (by omega); omega) ?_
                        refine xx_goto (pc := 79) 83 dX12_carriageOf_79 rfl ?_
                        refine xx_iorN (pc := 83) dX12_carriageOf_83 ?_
                        refine xx_istore_n (L' := [(2, .int (nI (t ||| (1 * 2 ^ q)))), (5, .int (nI q)), (4, .int (nI p)), (3, .int (nI k)), (0, ic_pt E 114), (1, .int (nI o))]) (pc := 84) dX12_carriageOf_84 rfl (Nat.le_of_ble_eq_true rfl) rfl ?_
                        refine xx_iincN (L' := [(5, .int (nI (q + 1))), (2, .int (nI (t ||| (1 * 2 ^ q)))), (4, .int (nI p)), (3, .int (nI k)), (0, ic_pt E 114), (1, .int (nI o))]) (pc := 85) dX12_carriageOf_85 1 rfl cc_iconst_1 (Nat.le_of_ble_eq_true rfl) rfl ?_
                        refine xx_goto (pc := 88) 42 dX12_carriageOf_88 rfl ?_
                        exact xx_sub [0, 2, 3, 1, 4, 5] rfl (ih_ (q + 1) _ (by omega) (by rw [Nat.one_mul, ht, mo_cq, if_pos ⟨by rw [← ht]; assumption, by assumption⟩]) (by omega))
              exact xx_sub [0, 1, 2, 3, 4, 5] rfl (lq (w 115 0 + 1) 0 _ (by omega) rfl (by omega))
        exact xx_sub [0, 1, 2, 3, 4] rfl (lpp (w 115 0 + 1) 0 _ (by omega) rfl (by omega))
  refine xx_aload_nP (pc := 0) dX12_carriageOf_0 0 rfl rfl ?_
  refine xx_iload_n (pc := 1) dX12_carriageOf_1 1 rfl rfl ?_
  refine xx_iconst (pc := 2) dX12_carriageOf_2 cc_iconst_4 ?_
  refine xx_callV0 (pc := 3) (st := []) sh_114 (cM_its (w := w) (o := o) (k := 4) (by omega) (by omega)) kX12_its vX12_82_12 dX12_carriageOf_3 rfl rfl (Nat.le_of_ble_eq_true rfl) ⟨Nat.le_of_ble_eq_true rfl, Nat.le_of_ble_eq_true rfl⟩ ⟨Nat.zero_le _, Nat.zero_le _⟩ (ic_ke ?_)
  refine xx_if_neN (pc := 6) 15 dX12_carriageOf_6 rfl (by omega) (fun c1 => ?_) (fun c1 => ?_)
  · refine xx_iconst (pc := 15) dX12_carriageOf_15 cc_iconst_0 ?_
    refine xx_istore_n (L' := [(2, .int (nI 0)), (0, ic_pt E 114), (1, .int (nI o))]) (pc := 16) dX12_carriageOf_16 rfl (Nat.le_of_ble_eq_true rfl) rfl ?_
    refine xx_iconst (pc := 17) dX12_carriageOf_17 cc_iconst_0 ?_
    refine xx_istore_n (L' := [(3, .int (nI 0)), (2, .int (nI 0)), (0, ic_pt E 114), (1, .int (nI o))]) (pc := 18) dX12_carriageOf_18 rfl (Nat.le_of_ble_eq_true rfl) rfl ?_
    exact xx_sub [0, 1, 2, 3] rfl (lk 7 0 _ (by omega) (by exact (if_neg (by assumption)).symm) (by omega))
  · refine xx_iconst (pc := 9) dX12_carriageOf_9 cc_iconst_1 ?_
    refine xx_iload_n (pc := 10) dX12_carriageOf_10 1 rfl rfl ?_
    refine xx_ishlN (pc := 11) dX12_carriageOf_11 (by omega) (by omega) ?_
    refine xx_goto (pc := 12) 16 dX12_carriageOf_12 rfl ?_
    refine xx_istore_n (L' := [(2, .int (nI (1 * 2 ^ o))), (0, ic_pt E 114), (1, .int (nI o))]) (pc := 16) dX12_carriageOf_16 rfl (Nat.le_of_ble_eq_true rfl) rfl ?_
    refine xx_iconst (pc := 17) dX12_carriageOf_17 cc_iconst_0 ?_
    refine xx_istore_n (L' := [(3, .int (nI 0)), (2, .int (nI (1 * 2 ^ o))), (0, ic_pt E 114), (1, .int (nI o))]) (pc := 18) dX12_carriageOf_18 rfl (Nat.le_of_ble_eq_true rfl) rfl ?_
    exact xx_sub [0, 1, 2, 3] rfl (lk 7 0 _ (by omega) (by rw [Nat.one_mul]; exact (if_pos (by assumption)).symm) (by omega))

set_option maxHeartbeats 4000000 in
set_option maxRecDepth 100000 in
theorem cM_carriages {l : Launch} {E : ic_E} {w : ic_w} {a : Nat} (ha_ : a < 2 ^ 32) (hI : In (w 115)) : ic_C l E mX12_carriages 4 0 0 False [ic_pt E 114, .int (nI a)] SHs (hn w) SHs (ic_qe (nI (if a = 4294967295 then mo_carrs (w 115) else if a < w 115 0 then mo_carr (w 115) a else 4294967295)) (hn w)) := by
  refine ic_intro (by decide +kernel) (Nat.le_of_ble_eq_true rfl) ?_
  show xx l E _ _ 0 [(0, ic_pt E 114), (1, .int (nI a))] _ _ _
  have hn0 := hI.n
  refine xx_iload_n (pc := 0) dX12_carriages_0 1 rfl rfl ?_
  refine xx_iconst (pc := 1) dX12_carriages_1 cc_iconst_m1 ?_
  refine xx_icmp_eqN (pc := 2) 15 dX12_carriages_2 rfl (by omega) (by omega) (fun c1 => ?_) (fun c1 => ?_)
  · refine xx_iload_n (pc := 15) dX12_carriages_15 1 rfl rfl ?_
    refine xx_if_ltS (pc := 16) 25 dX12_carriages_16 rfl (by omega) (fun c2 => ?_) (fun c2 => ?_)
    · refine xx_iconst (pc := 25) dX12_carriages_25 cc_iconst_0 ?_
      refine xx_istore_n (L' := [(2, .int (nI 0)), (0, ic_pt E 114), (1, .int (nI a))]) (pc := 26) dX12_carriages_26 rfl (Nat.le_of_ble_eq_true rfl) rfl ?_
      refine xx_iconst (pc := 27) dX12_carriages_27 cc_iconst_0 ?_
      refine xx_istore_n (L' := [(3, .int (nI 0)), (2, .int (nI 0)), (0, ic_pt E 114), (1, .int (nI a))]) (pc := 28) dX12_carriages_28 rfl (Nat.le_of_ble_eq_true rfl) rfl ?_
      have ha1 : a = 4294967295 := by omega
      subst ha1
      have lp : ∀ (n_ : Nat) (q n : Nat), q ≤ w 115 0 → n = mo_cnt (fun o => decide (it (w 115) o 4 = 0 ∧ mo_carr (w 115) o &&& (2 ^ o - 1) = 0)) q → w 115 0 - q < n_ → xx l E (ic_fr E mX12_carriages 4 0 0 False SHs (ic_qe (nI (if 4294967295 = 4294967295 then mo_carrs (w 115) else if 4294967295 < w 115 0 then mo_carr (w 115) 4294967295 else 4294967295)) (hn w))) (0, 0) 29 [(3, .int (nI q)), (2, .int (nI n)), (0, ic_pt E 114)] [] SHs (hn w) := by
        intro n_
        induction n_ with
        | zero => intro q n hq hc hm_; exact absurd hm_ (Nat.not_lt_zero _)
        | succ n_ ih_ =>
          intro q n hq hc hm_
          have hcl2 := mo_cnt_le (fun o => decide (it (w 115) o 4 = 0 ∧ mo_carr (w 115) o &&& (2 ^ o - 1) = 0)) q
          refine xx_iload_n (pc := 29) dX12_carriages_29 0 rfl rfl ?_
          refine xx_aload_nP (pc := 30) dX12_carriages_30 2 rfl rfl ?_
          refine xx_getR (pc := 31) 115 dX12_carriages_31 sh_114 fX12_7_12 rfl rfl (by decide) ?_
          refine xx_iconst (pc := 34) dX12_carriages_34 cc_iconst_0 ?_
          refine xx_ialdN (pc := 35) dX12_carriages_35 sh_115 (by omega) (by decide) ?_
          refine xx_icmp_geN (pc := 36) 76 dX12_carriages_36 rfl (by omega) (by omega) (fun c53 => ?_) (fun c53 => ?_)
          · refine xx_iload_n (pc := 76) dX12_carriages_76 1 rfl rfl ?_
            exact xx_iret (pc := 77) dX12_carriages_77 rfl (rfl) (Nat.le_refl _) (Nat.le_refl _) (ic_re (by rw [if_pos rfl, hc, show q = w 115 0 by omega]; rfl))
          · have hq5 := hI.i (o := q) (by omega)
            have hp2 := mo_p64 (n := q) (by omega)
            have hpp := Nat.two_pow_pos q
            have hcl := mo_carr_lt hI (o := q) (by omega)
            refine xx_iload_n (pc := 39) dX12_carriages_39 1 rfl rfl ?_
            refine xx_aload_nP (pc := 40) dX12_carriages_40 2 rfl rfl ?_
            refine xx_iload_n (pc := 41) dX12_carriages_41 0 rfl rfl ?_
            refine xx_iconst (pc := 42) dX12_carriages_42 cc_iconst_4 ?_
            refine xx_callV0 (pc := 43) (st := [.int (nI n)]) sh_114 (cM_its (w := w) (o := q) (k := 4) (by omega) (by omega)) kX12_its vX12_82_12 dX12_carriages_43 rfl rfl (Nat.le_of_ble_eq_true rfl) ⟨Nat.le_of_ble_eq_true rfl, Nat.le_of_ble_eq_true rfl⟩ ⟨Nat.zero_le _, Nat.zero_le _⟩ (ic_ke ?_)
            refine xx_if_neN (pc := 46) 67 dX12_carriages_46 rfl (by omega) (fun c54 => ?_) (fun c54 => ?_)
            · refine xx_iconst (pc := 67) dX12_carriages_67 cc_iconst_0 ?_
              refine xx_iaddN (pc := 68) dX12_carriages_68 ?_
              refine xx_istore_n (L' := [(2, .int (nI (n + 0))), (3, .int (nI q)), (0, ic_pt E 114)]) (pc := 69) dX12_carriages_69 rfl (Nat.le_of_ble_eq_true rfl) rfl ?_
              refine xx_iincN (L' := [(3, .int (nI (q + 1))), (2, .int (nI (n + 0))), (0, ic_pt E 114)]) (pc := 70) dX12_carriages_70 1 rfl cc_iconst_1 (Nat.le_of_ble_eq_true rfl) rfl ?_
              refine xx_goto (pc := 73) 29 dX12_carriages_73 rfl ?_
              exact xx_sub [0, 1, 2] rfl (ih_ (q + 1) _ (by omega) (by rw [hc]; exact (mo_cnt_f (by (try rw [Nat.one_mul] at *); simp; intros; simp_all)).symm) (by omega))
            · refine xx_aload_nP (pc := 49) dX12_carriages_49 2 rfl rfl ?_
              refine xx_iload_n (pc := 50) dX12_carriages_50 0 rfl rfl ?_
              refine xx_callV0 (pc := 51) (st := [.int (nI n)]) sh_114 (cM_carriageOf (w := w) (o := q) (by omega) hI) kX12_carriageOf vX12_270_12 dX12_carriages_51 rfl rfl (Nat.le_of_ble_eq_true rfl) ⟨Nat.le_of_ble_eq_true rfl, Nat.le_of_ble_eq_true rfl⟩ ⟨Nat.zero_le _, Nat.zero_le _⟩ (ic_ke ?_)
              refine xx_iconst (pc := 54) dX12_carriages_54 cc_iconst_1 ?_
              refine xx_iload_n (pc := 55) dX12_carriages_55 0 rfl rfl ?_
              refine xx_ishlN (pc := 56) dX12_carriages_56 (by omega) (by omega) ?_
              refine xx_iconst (pc := 57) dX12_carriages_57 cc_iconst_1 ?_
              refine xx_isubN (pc := 58) dX12_carriages_58 (by omega) ?_
              refine xx_iandN (pc := 59) dX12_carriages_59 ?_
              refine xx_if_neN (pc := 60) 67 dX12_carriages_60 rfl (by have := Nat.and_le_left (n := mo_carr (w 115) q) (m := 1 * 2 ^ q - 1); omega) (fun c55 => ?_) (fun c55 => ?_)
              · refine xx_iconst (pc := 67) dX12_carriages_67 cc_iconst_0 ?_
                refine xx_iaddN (pc := 68) dX12_carriages_68 ?_
                refine xx_istore_n (L' := [(2, .int (nI (n + 0))), (3, .int (nI q)), (0, ic_pt E 114)]) (pc := 69) dX12_carriages_69 rfl (Nat.le_of_ble_eq_true rfl) rfl ?_
                refine xx_iincN (L' := [(3, .int (nI (q + 1))), (2, .int (nI (n + 0))), (0, ic_pt E 114)]) (pc := 70) dX12_carriages_70 1 rfl cc_iconst_1 (Nat.le_of_ble_eq_true rfl) rfl ?_
                refine xx_goto (pc := 73) 29 dX12_carriages_73 rfl ?_
                exact xx_sub [0, 1, 2] rfl (ih_ (q + 1) _ (by omega) (by rw [hc]; exact (mo_cnt_f (by (try rw [Nat.one_mul] at *); simp; intros; simp_all)).symm) (by omega))
              · refine xx_iconst (pc := 63) dX12_carriages_63 cc_iconst_1 ?_
                refine xx_goto (pc := 64) 68 dX12_carriages_64 rfl ?_
                refine xx_iaddN (pc := 68) dX12_carriages_68 ?_
                refine xx_istore_n (L' := [(2, .int (nI (n + 1))), (3, .int (nI q)), (0, ic_pt E 114)]) (pc := 69) dX12_carriages_69 rfl (Nat.le_of_ble_eq_true rfl) rfl ?_
                refine xx_iincN (L' := [(3, .int (nI (q + 1))), (2, .int (nI (n + 1))), (0, ic_pt E 114)]) (pc := 70) dX12_carriages_70 1 rfl cc_iconst_1 (Nat.le_of_ble_eq_true rfl) rfl ?_
                refine xx_goto (pc := 73) 29 dX12_carriages_73 rfl ?_
                exact xx_sub [0, 1, 2] rfl (ih_ (q + 1) _ (by omega) (by rw [hc]; exact (mo_cnt_t (by rw [Nat.one_mul] at *; simp [*])).symm) (by omega))
      exact xx_sub [0, 1, 2] rfl (lp (w 115 0 + 1) 0 0 (by omega) rfl (by omega))
    · refine xx_aload_nP (pc := 19) dX12_carriages_19 0 rfl rfl ?_
      refine xx_iload_n (pc := 20) dX12_carriages_20 1 rfl rfl ?_
      refine xx_callV0 (pc := 21) (st := []) sh_114 (cM_carriageOf (w := w) (o := a) (by omega) hI) kX12_carriageOf vX12_270_12 dX12_carriages_21 rfl rfl (Nat.le_of_ble_eq_true rfl) ⟨Nat.le_of_ble_eq_true rfl, Nat.le_of_ble_eq_true rfl⟩ ⟨Nat.zero_le _, Nat.zero_le _⟩ (ic_ke ?_)
      exact xx_iret (pc := 24) dX12_carriages_24 rfl (rfl) (Nat.le_refl _) (Nat.le_refl _) (ic_re (by rw [if_neg (by omega), if_pos (by omega)]))
  · refine xx_aload_nP (pc := 5) dX12_carriages_5 0 rfl rfl ?_
    refine xx_iload_n (pc := 6) dX12_carriages_6 1 rfl rfl ?_
    refine xx_callV0 (pc := 7) (st := []) sh_114 (cM_isOne (w := w) (o := a) (by omega) hI) kX12_isOne vX12_116_12 dX12_carriages_7 rfl rfl (Nat.le_of_ble_eq_true rfl) ⟨Nat.le_of_ble_eq_true rfl, Nat.le_of_ble_eq_true rfl⟩ ⟨Nat.zero_le _, Nat.zero_le _⟩ (ic_ke ?_)
    refine xx_if_neB (pc := 10) 15 dX12_carriages_10 rfl (fun c3 => ?_) (fun c3 => ?_)
    · refine xx_iload_n (pc := 15) dX12_carriages_15 1 rfl rfl ?_
      refine xx_if_ltS (pc := 16) 25 dX12_carriages_16 rfl (by omega) (fun c4 => ?_) (fun c4 => ?_)
      · refine xx_iconst (pc := 25) dX12_carriages_25 cc_iconst_0 ?_
        refine xx_istore_n (L' := [(2, .int (nI 0)), (0, ic_pt E 114), (1, .int (nI a))]) (pc := 26) dX12_carriages_26 rfl (Nat.le_of_ble_eq_true rfl) rfl ?_
        refine xx_iconst (pc := 27) dX12_carriages_27 cc_iconst_0 ?_
        refine xx_istore_n (L' := [(3, .int (nI 0)), (2, .int (nI 0)), (0, ic_pt E 114), (1, .int (nI a))]) (pc := 28) dX12_carriages_28 rfl (Nat.le_of_ble_eq_true rfl) rfl ?_
        have ha1 : a = 4294967295 := by omega
        subst ha1
        have lp : ∀ (n_ : Nat) (q n : Nat), q ≤ w 115 0 → n = mo_cnt (fun o => decide (it (w 115) o 4 = 0 ∧ mo_carr (w 115) o &&& (2 ^ o - 1) = 0)) q → w 115 0 - q < n_ → xx l E (ic_fr E mX12_carriages 4 0 0 False SHs (ic_qe (nI (if 4294967295 = 4294967295 then mo_carrs (w 115) else if 4294967295 < w 115 0 then mo_carr (w 115) 4294967295 else 4294967295)) (hn w))) (0, 0) 29 [(3, .int (nI q)), (2, .int (nI n)), (0, ic_pt E 114)] [] SHs (hn w) := by
          intro n_
          induction n_ with
          | zero => intro q n hq hc hm_; exact absurd hm_ (Nat.not_lt_zero _)
          | succ n_ ih_ =>
            intro q n hq hc hm_
            have hcl2 := mo_cnt_le (fun o => decide (it (w 115) o 4 = 0 ∧ mo_carr (w 115) o &&& (2 ^ o - 1) = 0)) q
            refine xx_iload_n (pc := 29) dX12_carriages_29 0 rfl rfl ?_
            refine xx_aload_nP (pc := 30) dX12_carriages_30 2 rfl rfl ?_
            refine xx_getR (pc := 31) 115 dX12_carriages_31 sh_114 fX12_7_12 rfl rfl (by decide) ?_
            refine xx_iconst (pc := 34) dX12_carriages_34 cc_iconst_0 ?_
            refine xx_ialdN (pc := 35) dX12_carriages_35 sh_115 (by omega) (by decide) ?_
            refine xx_icmp_geN (pc := 36) 76 dX12_carriages_36 rfl (by omega) (by omega) (fun c55 => ?_) (fun c55 => ?_)
            · refine xx_iload_n (pc := 76) dX12_carriages_76 1 rfl rfl ?_
              exact xx_iret (pc := 77) dX12_carriages_77 rfl (rfl) (Nat.le_refl _) (Nat.le_refl _) (ic_re (by rw [if_pos rfl, hc, show q = w 115 0 by omega]; rfl))
            · have hq5 := hI.i (o := q) (by omega)
              have hp2 := mo_p64 (n := q) (by omega)
              have hpp := Nat.two_pow_pos q
              have hcl := mo_carr_lt hI (o := q) (by omega)
              refine xx_iload_n (pc := 39) dX12_carriages_39 1 rfl rfl ?_
              refine xx_aload_nP (pc := 40) dX12_carriages_40 2 rfl rfl ?_
              refine xx_iload_n (pc := 41) dX12_carriages_41 0 rfl rfl ?_
              refine xx_iconst (pc := 42) dX12_carriages_42 cc_iconst_4 ?_
              refine xx_callV0 (pc := 43) (st := [.int (nI n)]) sh_114 (cM_its (w := w) (o := q) (k := 4) (by omega) (by omega)) kX12_its vX12_82_12 dX12_carriages_43 rfl rfl (Nat.le_of_ble_eq_true rfl) ⟨Nat.le_of_ble_eq_true rfl, Nat.le_of_ble_eq_true rfl⟩ ⟨Nat.zero_le _, Nat.zero_le _⟩ (ic_ke ?_)
              refine xx_if_neN (pc := 46) 67 dX12_carriages_46 rfl (by omega) (fun c56 => ?_) (fun c56 => ?_)
              · refine xx_iconst (pc := 67) dX12_carriages_67 cc_iconst_0 ?_
                refine xx_iaddN (pc := 68) dX12_carriages_68 ?_
                refine xx_istore_n (L' := [(2, .int (nI (n + 0))), (3, .int (nI q)), (0, ic_pt E 114)]) (pc := 69) dX12_carriages_69 rfl (Nat.le_of_ble_eq_true rfl) rfl ?_
                refine xx_iincN (L' := [(3, .int (nI (q + 1))), (2, .int (nI (n + 0))), (0, ic_pt E 114)]) (pc := 70) dX12_carriages_70 1 rfl cc_iconst_1 (Nat.le_of_ble_eq_true rfl) rfl ?_
                refine xx_goto (pc := 73) 29 dX12_carriages_73 rfl ?_
                exact xx_sub [0, 1, 2] rfl (ih_ (q + 1) _ (by omega) (by rw [hc]; exact (mo_cnt_f (by (try rw [Nat.one_mul] at *); simp; intros; simp_all)).symm) (by omega))
              · refine xx_aload_nP (pc := 49) dX12_carriages_49 2 rfl rfl ?_
                refine xx_iload_n (pc := 50) dX12_carriages_50 0 rfl rfl ?_
                refine xx_callV0 (pc := 51) (st := [.int (nI n)]) sh_114 (cM_carriageOf (w := w) (o := q) (by omega) hI) kX12_carriageOf vX12_270_12 dX12_carriages_51 rfl rfl (Nat.le_of_ble_eq_true rfl) ⟨Nat.le_of_ble_eq_true rfl, Nat.le_of_ble_eq_true rfl⟩ ⟨Nat.zero_le _, Nat.zero_le _⟩ (ic_ke ?_)
                refine xx_iconst (pc := 54) dX12_carriages_54 cc_iconst_1 ?_
                refine xx_iload_n (pc := 55) dX12_carriages_55 0 rfl rfl ?_
                refine xx_ishlN (pc := 56) dX12_carriages_56 (by omega) (by omega) ?_
                refine xx_iconst (pc := 57) dX12_carriages_57 cc_iconst_1 ?_
                refine xx_isubN (pc := 58) dX12_carriages_58 (by omega) ?_
                refine xx_iandN (pc := 59) dX12_carriages_59 ?_
                refine xx_if_neN (pc := 60) 67 dX12_carriages_60 rfl (by have := Nat.and_le_left (n := mo_carr (w 115) q) (m := 1 * 2 ^ q - 1); omega) (fun c57 => ?_) (fun c57 => ?_)
                · refine xx_iconst (pc := 67) dX12_carriages_67 cc_iconst_0 ?_
                  refine xx_iaddN (pc := 68) dX12_carriages_68 ?_
                  refine xx_istore_n (L' := [(2, .int (nI (n + 0))), (3, .int (nI q)), (0, ic_pt E 114)]) (pc := 69) dX12_carriages_69 rfl (Nat.le_of_ble_eq_true rfl) rfl ?_
                  refine xx_iincN (L' := [(3, .int (nI (q + 1))), (2, .int (nI (n + 0))), (0, ic_pt E 114)]) (pc := 70) dX12_carriages_70 1 rfl cc_iconst_1 (Nat.le_of_ble_eq_true rfl) rfl ?_
                  refine xx_goto (pc := 73) 29 dX12_carriages_73 rfl ?_
                  exact xx_sub [0, 1, 2] rfl (ih_ (q + 1) _ (by omega) (by rw [hc]; exact (mo_cnt_f (by (try rw [Nat.one_mul] at *); simp; intros; simp_all)).symm) (by omega))
                · refine xx_iconst (pc := 63) dX12_carriages_63 cc_iconst_1 ?_
                  refine xx_goto (pc := 64) 68 dX12_carriages_64 rfl ?_
                  refine xx_iaddN (pc := 68) dX12_carriages_68 ?_
                  refine xx_istore_n (L' := [(2, .int (nI (n + 1))), (3, .int (nI q)), (0, ic_pt E 114)]) (pc := 69) dX12_carriages_69 rfl (Nat.le_of_ble_eq_true rfl) rfl ?_
                  refine xx_iincN (L' := [(3, .int (nI (q + 1))), (2, .int (nI (n + 1))), (0, ic_pt E 114)]) (pc := 70) dX12_carriages_70 1 rfl cc_iconst_1 (Nat.le_of_ble_eq_true rfl) rfl ?_
                  refine xx_goto (pc := 73) 29 dX12_carriages_73 rfl ?_
                  exact xx_sub [0, 1, 2] rfl (ih_ (q + 1) _ (by omega) (by rw [hc]; exact (mo_cnt_t (by rw [Nat.one_mul] at *; simp [*])).symm) (by omega))
        exact xx_sub [0, 1, 2] rfl (lp (w 115 0 + 1) 0 0 (by omega) rfl (by omega))
      · refine xx_aload_nP (pc := 19) dX12_carriages_19 0 rfl rfl ?_
        refine xx_iload_n (pc := 20) dX12_carriages_20 1 rfl rfl ?_
        refine xx_callV0 (pc := 21) (st := []) sh_114 (cM_carriageOf (w := w) (o := a) (by omega) hI) kX12_carriageOf vX12_270_12 dX12_carriages_21 rfl rfl (Nat.le_of_ble_eq_true rfl) ⟨Nat.le_of_ble_eq_true rfl, Nat.le_of_ble_eq_true rfl⟩ ⟨Nat.zero_le _, Nat.zero_le _⟩ (ic_ke ?_)
        exact xx_iret (pc := 24) dX12_carriages_24 rfl (rfl) (Nat.le_refl _) (Nat.le_refl _) (ic_re (by rw [if_neg (by omega), if_pos (by omega)]))
    · refine xx_iconst (pc := 13) dX12_carriages_13 cc_iconst_m1 ?_
      exact xx_iret (pc := 14) dX12_carriages_14 rfl (rfl) (Nat.le_refl _) (Nat.le_refl _) (ic_re (by rw [if_neg (by omega), if_neg (by omega)]))

