/-! the class: a train goes by -/
theorem mo_set_congr {P Q : Nat → Bool} : ∀ n, (∀ k, k < n → P k = Q k) → mo_set P n = mo_set Q n
  | 0, _ => rfl
  | n + 1, h => by rw [mo_set, mo_set, mo_set_congr n (fun k hk => h k (by omega)), h n (by omega)]
theorem mo_outs_congr {s t : Nat → Nat} (h0 : t 0 = s 0) (h : ∀ q, q < s 0 → it t q 4 = it s q 4) : mo_outs t = mo_outs s := by
  unfold mo_outs
  rw [h0]
  exact mo_set_congr _ (fun k hk => by rw [h k hk])
theorem mo_set_or {P : Nat → Bool} {k : Nat} : ∀ n, k < n → mo_set (fun q => P q || decide (q = k)) n = mo_set P n ||| 2 ^ k
  | 0, h => absurd h (by omega)
  | n + 1, h => by
    rw [mo_set, mo_set]
    by_cases z : n = k
    · subst z
      have e : mo_set (fun q => P q || decide (q = n)) n = mo_set P n := mo_set_congr n (fun j hj => by simp [show j ≠ n by omega])
      rw [e, if_pos (by simp)]
      split
      · rw [← mo_or (mo_set_lt P n), Nat.or_assoc, Nat.or_self]
      · rw [Nat.add_zero, mo_or (mo_set_lt P n)]
    · have ih := mo_set_or (P := P) n (by omega : k < n)
      have l1 := mo_set_lt P n
      have l2 : mo_set P n ||| 2 ^ k < 2 ^ n := Nat.or_lt_two_pow l1 (Nat.pow_lt_pow_right (by omega) (by omega))
      rw [ih, show (P n || decide (n = k)) = P n by simp [z]]
      split
      · rw [← mo_or l2, ← mo_or l1, Nat.or_assoc, Nat.or_assoc, Nat.or_comm (2 ^ k)]
      · rfl
theorem mo_outs_t {s : Nat → Nat} {k : Nat} (hk : k < s 0) : mo_outs (fu s (12 + 6 * k) 1) = mo_outs s ||| 2 ^ k := by
  unfold mo_outs
  rw [fu_n _ (by omega), ← mo_set_or _ hk]
  refine mo_set_congr _ (fun q hq => ?_)
  by_cases z : q = k
  · subst z
    have : it (fu s (12 + 6 * q) 1) q 4 = 1 := by unfold it; rw [show 8 + 6 * q + 4 = 12 + 6 * q by omega, fu_s]
    simp [this]
  · rw [it_fu (by omega)]
    simp [z]
/-- what stays whatever one does -/
theorem mo_s1_it {s : Nat → Nat} {act q j : Nat} (hj : j = 0 ∨ j = 2 ∨ j = 3) : it (mo_s1 s act) q j = it s q j := by
  unfold mo_s1
  split
  · rfl
  · split
    · unfold mo_doesS
      split
      · exact it_fu (by omega)
      · split
        · rfl
        · rw [it_fu (by omega), it_fu (by omega)]
    · rfl
theorem Cn.s1 {w : ic_w} {s : Nat → Nat} (h : Cn w s) (hI : In s) {act : Nat} (ha : act ≤ 6) : Cn w (mo_s1 s act) :=
  h.to hI (fun k hk => mo_s1_r s ha (by omega)) (fun k _ => ⟨mo_s1_it (by omega), mo_s1_it (by omega), mo_s1_it (by omega)⟩)
theorem mo_sk_itj {s : Nat → Nat} {n q j : Nat} (hj : j < 6) (h : j ≠ 1 ∧ j ≠ 5) : it (mo_sk s n) q j = it s q j := by
  unfold it mo_sk
  split
  · rw [if_neg (by omega), if_neg (by omega)]
  · rfl
theorem mo_go_itj {s : Nat → Nat} {act q j : Nat} (hj : j = 0 ∨ j = 2 ∨ j = 3) : it (mo_go s act) q j = it s q j := by
  rw [mo_go_it, mo_sk_itj (by omega) (by omega), mo_s1_it hj]
theorem Cn.go {w : ic_w} {s : Nat → Nat} (h : Cn w s) (hI : In s) {act : Nat} (ha : act ≤ 6) : Cn w (mo_go s act) :=
  h.to hI (fun k hk => mo_go_r s ha hI.n (by omega)) (fun k _ => ⟨mo_go_itj (by omega), mo_go_itj (by omega), mo_go_itj (by omega)⟩)
/-- DEPTH and the STOP of one set anew -/
theorem Cs.up {w : ic_w} {m k d a : Nat} {t : Nat → Nat} (h : Cs w m t) : Cs (wu (wu w (m + 1) k d) (m + 2) k a) m (fu (fu t (9 + 6 * k) d) (13 + 6 * k) a) := by
  have e0 : ∀ j, j < 8 → fu (fu t (9 + 6 * k) d) (13 + 6 * k) a j = t j := fun j hj => by rw [fu_n _ (by omega), fu_n _ (by omega)]
  have e4 : ∀ q, it (fu (fu t (9 + 6 * k) d) (13 + 6 * k) a) q 4 = it t q 4 := fun q => by rw [it_fu (by omega), it_fu (by omega)]
  refine ⟨by rw [wu_o _ _ _ _ (by omega), wu_o _ _ _ _ (by omega), e0 _ (by omega)]; exact h.1, by rw [wu_o _ _ _ _ (by omega), wu_o _ _ _ _ (by omega), mo_outs_congr (e0 0 (by omega)) (fun q _ => e4 q)]; exact h.2.1, fun j hj => ?_⟩
  rw [e0 0 (by omega)] at hj
  have hj2 := h.2.2 j hj
  by_cases z : j = k
  · subst z
    rw [wu_o _ _ _ _ (by omega), wu_s, wu_s]
    unfold it
    rw [show 8 + 6 * j + 1 = 9 + 6 * j by omega, show 8 + 6 * j + 5 = 13 + 6 * j by omega, fu_s, fu_n _ (by omega), fu_s]
    exact ⟨rfl, rfl⟩
  · rw [wu_o _ _ _ _ (by omega), wu_k _ _ _ _ z, wu_k _ _ _ _ z, wu_o _ _ _ _ (by omega), it_fu (by omega), it_fu (by omega), it_fu (by omega), it_fu (by omega)]
    exact hj2
theorem Cs.sk {w : ic_w} {m k : Nat} {s : Nat → Nat} (h : Cs w m (mo_sk s k)) (ho : it s k 4 = 0) {w2 : ic_w} {d a : Nat} (hd : d = min 99 (it s k 1 + mo_sunk s k)) (ha : a = (it s k 5 + mo_drifts (it s k 0) (s 1)) % 6) (e : w2 = wu (wu w (m + 1) k d) (m + 2) k a) : Cs w2 m (mo_sk s (k + 1)) := by
  subst e hd ha
  rw [mo_sk_t ho]
  exact h.up
theorem Cs.gone {w : ic_w} {m act : Nat} {s : Nat → Nat} (h : Cs w m (mo_sk (mo_s1 s act) (s 0))) (ha : act ≤ 6) (hI : In s) : Cs (wu w m 0 (s 1 + 1)) m (mo_go s act) := by
  have e0 : mo_go s act 0 = s 0 := mo_go_r s ha hI.n (by omega)
  have e1 : mo_sk (mo_s1 s act) (s 0) 0 = s 0 := by rw [mo_sk_hi _ (by omega)]; exact mo_s1_r s ha (by omega)
  refine ⟨by rw [wu_s, mo_go_1], by rw [wu_k _ _ _ _ (by omega), h.2.1]; exact (mo_outs_congr (e0.trans e1.symm) (fun q _ => mo_go_it s act q 4)).symm, fun k hk => ?_⟩
  rw [wu_o _ _ _ _ (by omega), wu_o _ _ _ _ (by omega), mo_go_it, mo_go_it]
  exact h.2.2 k (by omega)
theorem mo_w2_t {s : Nat → Nat} {k : Nat} (h : it s k 4 = 0) (g : (it s k 5 + mo_drifts (it s k 0) (s 1)) % 6 = it s k 3) : mo_w2 s (k + 1) = mo_w2 s k + 1 := mo_cnt_t (by simp [h, g])
theorem mo_w2_f {s : Nat → Nat} {k : Nat} (h : ¬ (it s k 4 = 0 ∧ (it s k 5 + mo_drifts (it s k 0) (s 1)) % 6 = it s k 3)) : mo_w2 s (k + 1) = mo_w2 s k := mo_cnt_f (by simpa using h)

theorem mo_w1_k {s : Nat → Nat} {k : Nat} (z : it s k 4 = 0) : mo_w1 s (k + 1) = mo_doesW s k (mo_will s k) ∧ mo_s1 s (k + 1) = mo_doesS s k (mo_will s k) := ⟨(if_neg (by omega)).trans (if_pos z), (if_neg (by omega)).trans (if_pos z)⟩
theorem mo_w1_o {s : Nat → Nat} {k : Nat} (z : ¬ it s k 4 = 0) : mo_w1 s (k + 1) = 0 ∧ mo_s1 s (k + 1) = s := ⟨(if_neg (by omega)).trans (if_neg z), (if_neg (by omega)).trans (if_neg z)⟩
theorem mo_stay {s : Nat → Nat} {k : Nat} (h1 : it s k 4 ≤ 1) (h : mo_deed s k = 2) : mo_w1 s (k + 1) = 0 ∧ mo_s1 s (k + 1) = s := by
  by_cases z : it s k 4 = 0
  · rw [(mo_w1_k z).1, (mo_w1_k z).2]
    unfold mo_deed at h
    rw [if_neg (by omega)] at h
    unfold mo_doesW mo_doesS
    by_cases y : mo_will s k = 0
    · by_cases x : mo_pays s k = 0
      · rw [if_pos y, if_pos y, if_neg (by omega)]
        have e := fu_id s (12 + 6 * k)
        rw [show s (12 + 6 * k) = 0 by rw [show 12 + 6 * k = 8 + 6 * k + 4 by omega]; exact z] at e
        exact ⟨x, e⟩
      · rw [if_neg (fun q => x q.2)] at h
        omega
    · rw [if_neg (fun q => y q.1)] at h
      rw [if_neg y, if_neg y, if_pos h, if_pos h]
      exact ⟨rfl, rfl⟩
  · exact mo_w1_o z
theorem mo_exit {s : Nat → Nat} {k : Nat} (h1 : it s k 4 ≤ 1) (h : mo_deed s k = 0) : mo_w1 s (k + 1) = mo_pays s k ∧ mo_s1 s (k + 1) = fu s (12 + 6 * k) 1 := by
  have hz : it s k 4 = 0 := by unfold mo_deed at h; split at h <;> omega
  obtain ⟨a, b⟩ := (mo_deed_0 h1).mp h
  rw [(mo_w1_k hz).1, (mo_w1_k hz).2]
  unfold mo_doesW mo_doesS
  rw [if_pos b, if_pos b, if_pos a]
  exact ⟨rfl, rfl⟩
theorem mo_ride {s : Nat → Nat} {k : Nat} (h1 : it s k 4 ≤ 1) (h : mo_deed s k = 1) : mo_w1 s (k + 1) = (if 0 < mo_crowd s (s 1) % 4 then 1 else 0) ∧ mo_s1 s (k + 1) = fu (fu s (13 + 6 * k) ((it s k 5 + 1) % 6)) (9 + 6 * k) (it s k 1 - s (50 + (it s k 5 + 1) % 6)) := by
  have hz : it s k 4 = 0 := by unfold mo_deed at h; split at h <;> omega
  have hw : mo_will s k = 1 := by
    unfold mo_deed at h
    rw [if_neg (by omega)] at h
    split at h <;> omega
  rw [(mo_w1_k hz).1, (mo_w1_k hz).2, hw]
  exact ⟨rfl, rfl⟩
theorem fu_comm {s : Nat → Nat} {a b x y : Nat} (h : a ≠ b) : fu (fu s a x) b y = fu (fu s b y) a x := by
  funext j
  unfold fu
  split <;> split <;> first | rfl | omega
theorem wu_comm (w : ic_w) {a b j k x y : Nat} (h : a ≠ b) : wu (wu w a j x) b k y = wu (wu w b k y) a j x := by
  funext p q
  unfold wu
  split <;> split <;> first | rfl | omega
set_option maxHeartbeats 4000000 in
set_option maxRecDepth 100000 in
theorem cC_obey {l : Launch} {E : ic_E} {w : ic_w} {m k lm : Nat} {s : Nat → Nat} (hM : Mo m) (hm : Cs w m s) (hN : Cn w s) (hIn : In s) (hRu : Ru s) (hk : k < s 0) (hlm : lm = mo_crowd s (s 1) % 4) : ic_C l E mX5_obey 5 0 0 False [ic_pt E 39, ic_pt E m, .int (nI k), .int (nI lm)] SHs (hn w) SHs (ic_qi (fun v_ h_ => v_ = nI (mo_w1 s (k + 1)) ∧ ∃ w2, h_ = hn w2 ∧ Fm m w w2 ∧ Cs w2 m (mo_s1 s (k + 1)))) := by
  refine ic_intro (by decide +kernel) (Nat.le_of_ble_eq_true rfl) ?_
  show xx l E _ _ 0 [(0, ic_pt E 39), (1, ic_pt E m), (2, .int (nI k)), (3, .int (nI lm))] _ _ _
  have hMb := hM.2.2.2
  have hn0 := hIn.n
  have htt := hIn.t
  have hcr := hIn.cr (s 1)
  have n1_w : w 39 10 = s 0 := hN.n
  have n2_w : w 39 11 = s 2 := hN.e
  have n3_w : w m 0 = s 1 := hm.t
  have hik := hIn.i (o := k) (by omega)
  have hk1 := hN.k1 hk
  refine xx_aload_nP (pc := 0) dX5_obey_0 0 rfl rfl ?_
  refine xx_aload_nP (pc := 1) dX5_obey_1 1 rfl rfl ?_
  refine xx_iload_n (pc := 2) dX5_obey_2 2 rfl rfl ?_
  have x1 := mo_deed_le hRu k
  refine xx_callV0 (pc := 3) (st := []) sh_39 (cC_deed (w := w) (m := m) (s := s) (k := k) hM hm hN hIn hRu (by omega)) kX5_deed vX5_152_5 dX5_obey_3 rfl rfl (Nat.le_of_ble_eq_true rfl) ⟨Nat.le_of_ble_eq_true rfl, Nat.le_of_ble_eq_true rfl⟩ ⟨Nat.zero_le _, Nat.zero_le _⟩ (ic_ki (fun v3 h_ qw2 => ?_))
  obtain ⟨rfl, w2, rfl, gw2⟩ := qw2
  have hN_w2 : Cn w2 s := hN.fs gw2
  have hm_w2 : Cs w2 m s := hm.fs hM gw2
  have n1_w2 : w2 39 10 = s 0 := hN_w2.n
  have n2_w2 : w2 39 11 = s 2 := hN_w2.e
  have n3_w2 : w2 m 0 = s 1 := hm_w2.t
  have hdl := mo_deed_le hRu k
  refine xx_istore (L' := [(4, .int (nI (mo_deed s k))), (0, ic_pt E 39), (1, ic_pt E m), (2, .int (nI k)), (3, .int (nI lm))]) (pc := 6) dX5_obey_6 (Nat.le_of_ble_eq_true rfl) rfl ?_
  refine xx_iload (pc := 8) dX5_obey_8 0 rfl ?_
  refine xx_iconst (pc := 10) dX5_obey_10 cc_iconst_2 ?_
  refine xx_icmp_neN (pc := 11) 16 dX5_obey_11 rfl (by omega) (by omega) (fun c4 => ?_) (fun c4 => ?_)
  · refine xx_iload (pc := 16) dX5_obey_16 0 rfl ?_
    refine xx_if_neN (pc := 18) 44 dX5_obey_18 rfl (by omega) (fun c5 => ?_) (fun c5 => ?_)
    · refine xx_aload_nP (pc := 44) dX5_obey_44 2 rfl rfl ?_
      refine xx_getR (pc := 45) (m + 2) dX5_obey_45 hM.1 fX5_93_4 rfl (by rfl) (by omega) ?_
      refine xx_iload_n (pc := 48) dX5_obey_48 3 rfl rfl ?_
      refine xx_ialdN (pc := 49) dX5_obey_49 hM.2.2.1 (by omega) (by decide) ?_
      refine xx_eqI (y := nI (it s k 5)) (by rw [hm_w2.a hk]) ?_
      refine xx_iconst (pc := 50) dX5_obey_50 cc_iconst_1 ?_
      refine xx_iaddN (pc := 51) dX5_obey_51 ?_
      refine xx_bipush (pc := 52) dX5_obey_52 cc_bipush_6 ?_
      refine xx_iremN (pc := 54) dX5_obey_54 (by omega) (by omega) (by omega) ?_
      refine xx_istore (L' := [(5, .int (nI (((it s k 5) + 1) % 6))), (4, .int (nI (mo_deed s k))), (0, ic_pt E 39), (1, ic_pt E m), (2, .int (nI k)), (3, .int (nI lm))]) (pc := 55) dX5_obey_55 (Nat.le_of_ble_eq_true rfl) rfl ?_
      refine xx_aload_nP (pc := 57) dX5_obey_57 3 rfl rfl ?_
      refine xx_getR (pc := 58) (m + 2) dX5_obey_58 hM.1 fX5_93_4 rfl (by rfl) (by omega) ?_
      refine xx_iload_n (pc := 61) dX5_obey_61 4 rfl rfl ?_
      refine xx_iload (pc := 62) dX5_obey_62 0 rfl ?_
      refine xx_iastN (pc := 64) dX5_obey_64 hM.2.2.1 (by omega) (by decide) ?_
      refine xx_nw (fun w6 ew6 => ?_)
      have fD : (w6 (m + 1) k) - w6 42 ((it s k 5 + 1) % 6) = it s k 1 - s (50 + (it s k 5 + 1) % 6) := by rw [ew6, wu_o _ _ _ _ (by omega), wu_o _ _ _ _ (by omega), hm_w2.d hk, hN_w2.p (by omega)]
      have bD : w6 (m + 1) k ≤ 99 ∧ w6 42 ((it s k 5 + 1) % 6) ≤ 9 := by rw [ew6, wu_o _ _ _ _ (by omega), wu_o _ _ _ _ (by omega), hm_w2.d hk, hN_w2.p (by omega)]; exact ⟨hik.2.1, (hIn.f (by omega)).2⟩
      refine xx_aload_nP (pc := 65) dX5_obey_65 3 rfl rfl ?_
      refine xx_getR (pc := 66) (m + 1) dX5_obey_66 hM.1 fX5_90_4 rfl (by rfl) (by omega) ?_
      refine xx_iload_n (pc := 69) dX5_obey_69 4 rfl rfl ?_
      refine xx_iconst (pc := 70) dX5_obey_70 cc_iconst_0 ?_
      refine xx_aload_nP (pc := 71) dX5_obey_71 3 rfl rfl ?_
      refine xx_getR (pc := 72) (m + 1) dX5_obey_72 hM.1 fX5_90_4 rfl (by rfl) (by omega) ?_
      refine xx_iload_n (pc := 75) dX5_obey_75 4 rfl rfl ?_
      refine xx_ialdN (pc := 76) dX5_obey_76 hM.2.1 (by omega) (by decide) ?_
      refine xx_aload_nP (pc := 77) dX5_obey_77 2 rfl rfl ?_
      refine xx_getR (pc := 78) 42 dX5_obey_78 sh_39 fX5_18_5 rfl rfl (by decide) ?_
      refine xx_iload (pc := 81) dX5_obey_81 0 rfl ?_
      refine xx_ialdN (pc := 83) dX5_obey_83 sh_42 (by omega) (by decide) ?_
      refine xx_isubW (pc := 84) dX5_obey_84 (by omega) ?_
      refine xx_callS0 (pc := 85) (st := [.int (nI k), ic_pt E (m + 1)]) (cC_max0 (w := w6) (a := (w6 (m + 1) k)) (b := (w6 42 (((it s k 5) + 1) % 6))) (by omega) (by omega)) kJ9_max_7cf53 sX5_127 dX5_obey_85 rfl rfl (Nat.le_of_ble_eq_true rfl) ⟨Nat.le_of_ble_eq_true rfl, Nat.le_of_ble_eq_true rfl⟩ ⟨Nat.zero_le _, Nat.zero_le _⟩ (ic_ke ?_)
      refine xx_iastN (pc := 88) dX5_obey_88 hM.2.1 (by omega) (by decide) ?_
      refine xx_nw (fun w7 ew7 => ?_)
      refine xx_iload_n (pc := 89) dX5_obey_89 5 rfl rfl ?_
      refine xx_if_leN (pc := 90) 97 dX5_obey_90 rfl (by omega) (fun c8 => ?_) (fun c8 => ?_)
      · refine xx_iconst (pc := 97) dX5_obey_97 cc_iconst_0 ?_
        exact xx_iret (pc := 98) dX5_obey_98 rfl (rfl) (Nat.le_refl _) (Nat.le_refl _) (ic_ri ⟨by rw [(mo_ride (by omega) (by omega)).1]; first | exact congrArg nI (if_pos (by omega)).symm | exact congrArg nI (if_neg (by omega)).symm, w7, rfl, gw2.m.tr (fun a _ _ _ h4 h5 => by rw [ew7, wu_row _ _ _ h4, ew6, wu_row _ _ _ h5]), by rw [(mo_ride (by omega) (by omega)).2, fu_comm (by omega), ew7, fD, ew6, wu_comm _ (by omega)]; exact hm_w2.up⟩)
      · refine xx_iconst (pc := 93) dX5_obey_93 cc_iconst_1 ?_
        refine xx_goto (pc := 94) 98 dX5_obey_94 rfl ?_
        exact xx_iret (pc := 98) dX5_obey_98 rfl (rfl) (Nat.le_refl _) (Nat.le_refl _) (ic_ri ⟨by rw [(mo_ride (by omega) (by omega)).1]; first | exact congrArg nI (if_pos (by omega)).symm | exact congrArg nI (if_neg (by omega)).symm, w7, rfl, gw2.m.tr (fun a _ _ _ h4 h5 => by rw [ew7, wu_row _ _ _ h4, ew6, wu_row _ _ _ h5]), by rw [(mo_ride (by omega) (by omega)).2, fu_comm (by omega), ew7, fD, ew6, wu_comm _ (by omega)]; exact hm_w2.up⟩)
    · refine xx_aload_nP (pc := 21) dX5_obey_21 1 rfl rfl ?_
      refine xx_aload_nP (pc := 22) dX5_obey_22 2 rfl rfl ?_
      refine xx_iload_n (pc := 23) dX5_obey_23 3 rfl rfl ?_
      have hpl_x9 := mo_pays_le hIn (o := k) (by omega)
      refine xx_callV0 (pc := 24) (st := []) sh_39 (cC_pays (w := w2) (m := m) (s := s) (k := k) hM hm_w2 hN_w2 hIn (by omega)) kX5_pays vX5_149_5 dX5_obey_24 rfl rfl (Nat.le_of_ble_eq_true rfl) ⟨Nat.le_of_ble_eq_true rfl, Nat.le_of_ble_eq_true rfl⟩ ⟨Nat.zero_le _, Nat.zero_le _⟩ (ic_ke ?_)
      refine xx_istore (L' := [(5, .int (nI (mo_pays s k))), (4, .int (nI (mo_deed s k))), (0, ic_pt E 39), (1, ic_pt E m), (2, .int (nI k)), (3, .int (nI lm))]) (pc := 27) dX5_obey_27 (Nat.le_of_ble_eq_true rfl) rfl ?_
      refine xx_aload_nP (pc := 29) dX5_obey_29 3 rfl rfl ?_
      refine xx_dup (pc := 30) dX5_obey_30 rfl ?_
      refine xx_getN (pc := 31) dX5_obey_31 hM.1 fX5_96_4 rfl ?_
      refine xx_iconst (pc := 34) dX5_obey_34 cc_iconst_1 ?_
      refine xx_iload_n (pc := 35) dX5_obey_35 4 rfl rfl ?_
      refine xx_ishlN (pc := 36) dX5_obey_36 (by omega) (by have hp2 := mo_p2 (n := k) (by omega); omega) ?_
      refine xx_iorN (pc := 37) dX5_obey_37 ?_
      refine xx_putN (pc := 38) dX5_obey_38 hM.1 fX5_96_4 rfl rfl ?_
      refine xx_nw (fun w10 ew10 => ?_)
      refine xx_iload (pc := 41) dX5_obey_41 0 rfl ?_
      exact xx_iret (pc := 43) dX5_obey_43 rfl (rfl) (Nat.le_refl _) (Nat.le_refl _) (ic_ri ⟨by rw [(mo_exit (by omega) (by omega)).1], w10, rfl, gw2.m.tr (fun a _ _ h3 _ _ => by rw [ew10, wu_row _ _ _ h3]), by rw [(mo_exit (by omega) (by omega)).2]; refine ⟨by rw [ew10, wu_k _ _ _ _ (by omega), fu_n _ (by omega)]; exact hm_w2.t, by rw [ew10, wu_s, mo_outs_t hk, hm_w2.o, Nat.one_mul], fun j hj => ?_⟩; rw [fu_n _ (by omega)] at hj; rw [ew10, wu_o _ _ _ _ (by omega), wu_o _ _ _ _ (by omega), it_fu (by omega), it_fu (by omega)]; exact hm_w2.2.2 j hj⟩)
  · refine xx_iconst (pc := 14) dX5_obey_14 cc_iconst_0 ?_
    exact xx_iret (pc := 15) dX5_obey_15 rfl (rfl) (Nat.le_refl _) (Nat.le_refl _) (ic_ri ⟨by rw [(mo_stay (by omega) (by omega)).1], w2, rfl, gw2.m, by rw [(mo_stay (by omega) (by omega)).2]; exact hm_w2⟩)

set_option maxHeartbeats 4000000 in
set_option maxRecDepth 100000 in
theorem cC_goBy {l : Launch} {E : ic_E} {w : ic_w} {m act : Nat} {s : Nat → Nat} (hM : Mo m) (hm : Cs w m s) (hN : Cn w s) (hIn : In s) (hRu : Ru s) (hact : act ≤ s 0) : ic_C l E mX5_goBy 6 0 0 False [ic_pt E 39, ic_pt E m, .int (nI act)] SHs (hn w) SHs (ic_qi (fun v_ h_ => v_ = nI (mo_worth s act) ∧ ∃ w2, h_ = hn w2 ∧ Fm m w w2 ∧ Cs w2 m (mo_go s act))) := by
  refine ic_intro (by decide +kernel) (Nat.le_of_ble_eq_true rfl) ?_
  show xx l E _ _ 0 [(0, ic_pt E 39), (1, ic_pt E m), (2, .int (nI act))] _ _ _
  have hMb := hM.2.2.2
  have hn0 := hIn.n
  have htt := hIn.t
  have hcr := hIn.cr (s 1)
  have n1_w : w 39 10 = s 0 := hN.n
  have n2_w : w 39 11 = s 2 := hN.e
  have n3_w : w m 0 = s 1 := hm.t
  have hIn0 := hIn
  have h3_ := mo_and3 (mo_crowd s (s 1))
  obtain ⟨S, hS⟩ : ∃ S, S = mo_s1 s act := ⟨_, rfl⟩
  have hw1l := mo_w1_le hIn (act := act) (by omega)
  have j37 : ∀ (v1 : Nat) (u : ic_w), v1 = mo_w1 s act → Fm m w u → Cs u m S → xx l E (ic_fr E mX5_goBy 6 0 0 False SHs (ic_qi (fun v_ h_ => v_ = nI (mo_worth s act) ∧ ∃ w2, h_ = hn w2 ∧ Fm m w w2 ∧ Cs w2 m (mo_go s act)))) (0, 0) 37 [(0, ic_pt E 39), (1, ic_pt E m), (2, .int (nI act)), (3, .int (nI (mo_crowd s (s 1)))), (4, .int (nI ((mo_crowd s (s 1)) / 2 ^ 2))), (5, .int (nI ((mo_crowd s (s 1)) &&& 3)))] [.int (nI v1)] SHs (hn u) := by
    intro v1 u hv1 hg hm_u
    have hSn : S 0 = s 0 := by rw [hS]; exact mo_s1_r s (by omega) (by omega)
    have hS1 : S 1 = s 1 := by rw [hS]; exact mo_s1_r s (by omega) (by omega)
    have hIn : In S := by rw [hS]; exact In_s1 hIn (by omega)
    have hcS : mo_crowd S (S 1) = mo_crowd s (s 1) := by rw [hS1]; exact mo_crowd_congr _ (fun k h1 h2 => by rw [hS]; exact mo_s1_r s (by omega) (by omega))
    have hN_u : Cn u S := by rw [hS]; exact (hN.fm hM hg).s1 hIn0 (by omega)
    have n1_u : u 39 10 = S 0 := hN_u.n
    have n2_u : u 39 11 = S 2 := hN_u.e
    have n3_u : u m 0 = S 1 := hm_u.t
    refine xx_istore (L' := [(6, .int (nI v1)), (0, ic_pt E 39), (1, ic_pt E m), (2, .int (nI act)), (3, .int (nI (mo_crowd s (s 1)))), (4, .int (nI ((mo_crowd s (s 1)) / 2 ^ 2))), (5, .int (nI ((mo_crowd s (s 1)) &&& 3)))]) (pc := 37) dX5_goBy_37 (Nat.le_of_ble_eq_true rfl) rfl ?_
    refine xx_aload_nP (pc := 39) dX5_goBy_39 1 rfl rfl ?_
    refine xx_aload_nP (pc := 40) dX5_goBy_40 2 rfl rfl ?_
    refine xx_callV0 (pc := 41) (st := []) sh_39 (cC_count (w := u) (m := m) (s := S) hM hm_u hN_u hIn) kX5_count vX5_106_5 dX5_goBy_41 rfl rfl (Nat.le_of_ble_eq_true rfl) ⟨Nat.le_of_ble_eq_true rfl, Nat.le_of_ble_eq_true rfl⟩ ⟨Nat.zero_le _, Nat.zero_le _⟩ (ic_kv (fun h_ qw1 => ?_))
    obtain ⟨w1, rfl, kw1, cw1⟩ := qw1
    have gw1 : Fs u w1 := fun a h1 _ => kw1 a h1
    have hN_w1 : Cn w1 S := hN_u.fs gw1
    have hm_w1 : Cs w1 m S := hm_u.fs hM gw1
    have n1_w1 : w1 39 10 = S 0 := hN_w1.n
    have n2_w1 : w1 39 11 = S 2 := hN_w1.e
    have n3_w1 : w1 m 0 = S 1 := hm_w1.t
    refine xx_iconst (pc := 44) dX5_goBy_44 cc_iconst_0 ?_
    refine xx_istore (L' := [(7, .int (nI 0)), (6, .int (nI v1)), (0, ic_pt E 39), (1, ic_pt E m), (2, .int (nI act)), (3, .int (nI (mo_crowd s (s 1)))), (4, .int (nI ((mo_crowd s (s 1)) / 2 ^ 2))), (5, .int (nI ((mo_crowd s (s 1)) &&& 3)))]) (pc := 45) dX5_goBy_45 (Nat.le_of_ble_eq_true rfl) rfl ?_
    have lp : ∀ (n_ : Nat) (k v : Nat) (x : ic_w), k ≤ s 0 → (∀ a, a ≠ m → a ≠ m + 1 → a ≠ m + 2 → x a = w1 a) → Cs x m (mo_sk S k) → v = mo_w1 s act + mo_w2 S k → s 0 - k < n_ → xx l E (ic_fr E mX5_goBy 6 0 0 False SHs (ic_qi (fun v_ h_ => v_ = nI (mo_worth s act) ∧ ∃ w2, h_ = hn w2 ∧ Fm m w w2 ∧ Cs w2 m (mo_go s act)))) (0, 0) 47 [(7, .int (nI k)), (6, .int (nI v)), (0, ic_pt E 39), (1, ic_pt E m), (3, .int (nI (mo_crowd s (s 1)))), (4, .int (nI ((mo_crowd s (s 1)) / 2 ^ 2))), (5, .int (nI ((mo_crowd s (s 1)) &&& 3)))] [] SHs (hn x) := by
      intro n_
      induction n_ with
      | zero => intro k v x hk hxf hm_x hv hm_; exact absurd hm_ (Nat.not_lt_zero _)
      | succ n_ ih_ =>
        intro k v x hk hxf hm_x hv hm_
        have hN_x : Cn x S := hN_w1.of (by rw [hxf _ (by omega) (by omega) (by omega)]) (by rw [hxf _ (by omega) (by omega) (by omega)]) (by rw [hxf _ (by omega) (by omega) (by omega)]) (fun a _ _ _ _ _ _ _ _ => hxf a (by omega) (by omega) (by omega))
        have n1_x : x 39 10 = S 0 := hN_x.n
        have sk0 : mo_sk S k 0 = S 0 := mo_sk_hi _ (by omega)
        have sk1 : mo_sk S k 1 = S 1 := mo_sk_hi _ (by omega)
        have hInk := In_sk hIn (n := k) (by omega)
        have w2l := mo_w2_le S (n := k) (by omega)
        refine xx_iload (pc := 47) dX5_goBy_47 0 rfl ?_
        refine xx_aload_nP (pc := 49) dX5_goBy_49 2 rfl rfl ?_
        refine xx_getN (pc := 50) dX5_goBy_50 sh_39 fX5_84_5 rfl ?_
        refine xx_icmp_geN (pc := 53) 177 dX5_goBy_53 rfl (by omega) (by omega) (fun c23 => ?_) (fun c23 => ?_)
        · refine xx_aload_nP (pc := 177) dX5_goBy_177 3 rfl rfl ?_
          refine xx_dup (pc := 178) dX5_goBy_178 rfl ?_
          refine xx_getN (pc := 179) dX5_goBy_179 hM.1 fX5_99_4 rfl ?_
          refine xx_iconst (pc := 182) dX5_goBy_182 cc_iconst_1 ?_
          refine xx_iaddN (pc := 183) dX5_goBy_183 ?_
          refine xx_putN (pc := 184) dX5_goBy_184 hM.1 fX5_99_4 rfl rfl ?_
          refine xx_nw (fun w24 ew24 => ?_)
          refine xx_iload (pc := 187) dX5_goBy_187 1 rfl ?_
          exact xx_iret (pc := 189) dX5_goBy_189 rfl (rfl) (Nat.le_refl _) (Nat.le_refl _) (ic_ri ⟨by unfold mo_worth; rw [← hS, hv, show k = s 0 by omega], w24, rfl, hg.tr (fun a h1 h2 h3 h4 h5 => by rw [ew24, wu_row _ _ _ h3, hxf a h3 h4 h5, gw1 a h1 h2]), by rw [ew24, hm_x.t, sk1, hS1]; have hz := hm_x; rw [show k = s 0 by omega, hS] at hz; exact hz.gone (by omega) hIn0⟩)
        · refine xx_aload_nP (pc := 56) dX5_goBy_56 3 rfl rfl ?_
          refine xx_iload (pc := 57) dX5_goBy_57 0 rfl ?_
          refine xx_callV0 (pc := 59) (st := []) hM.1 (cC_isOut (w := x) (m := m) (s := (mo_sk S k)) (k := k) hM hm_x (by omega) hInk) kX4_isOut vX5_102_4 dX5_goBy_59 rfl rfl (Nat.le_of_ble_eq_true rfl) ⟨Nat.le_of_ble_eq_true rfl, Nat.le_of_ble_eq_true rfl⟩ ⟨Nat.zero_le _, Nat.zero_le _⟩ (ic_ke ?_)
          refine xx_if_eqB (pc := 62) 68 dX5_goBy_62 rfl (fun c25 => ?_) (fun c25 => ?_)
          · rw [mo_sk_it S (Nat.le_refl k)] at c25
            have hik := hIn.i (o := k) (by omega)
            have hk1 := hN_x.k1 (k := k) (by omega)
            have hml := mo_many_le hIn (it S k 5)
            have hmo := mo_mo (s := S) (o := k) (by omega)
            rw [if_pos (by omega)] at hmo
            have hol := mo_others_le hIn k
            have hsl := mo_sunk_le hIn k
            have hdl := mo_drifts_le (it S k 0) (S 1)
            have hb1 : x (m + 1) k ≤ 99 := by rw [hm_x.d (by omega), mo_sk_it S (Nat.le_refl k)]; exact hik.2.1
            refine xx_aload_nP (pc := 68) dX5_goBy_68 3 rfl rfl ?_
            refine xx_getR (pc := 69) (m + 2) dX5_goBy_69 hM.1 fX5_93_4 rfl (by rfl) (by omega) ?_
            refine xx_iload (pc := 72) dX5_goBy_72 0 rfl ?_
            refine xx_ialdN (pc := 74) dX5_goBy_74 hM.2.2.1 (by omega) (by decide) ?_
            refine xx_eqI (y := nI (it S k 5)) (by rw [hm_x.a (by omega), mo_sk_it S (Nat.le_refl k)]) ?_
            refine xx_istore (L' := [(8, .int (nI (it S k 5))), (7, .int (nI k)), (6, .int (nI v)), (0, ic_pt E 39), (1, ic_pt E m), (3, .int (nI (mo_crowd s (s 1)))), (4, .int (nI ((mo_crowd s (s 1)) / 2 ^ 2))), (5, .int (nI ((mo_crowd s (s 1)) &&& 3)))]) (pc := 75) dX5_goBy_75 (Nat.le_of_ble_eq_true rfl) rfl ?_
            refine xx_aload_nP (pc := 77) dX5_goBy_77 3 rfl rfl ?_
            refine xx_getR (pc := 78) 26 dX5_goBy_78 sh_39 fX5_64_5 rfl rfl (by decide) ?_
            refine xx_aload_nP (pc := 81) dX5_goBy_81 3 rfl rfl ?_
            refine xx_getR (pc := 82) 43 dX5_goBy_82 sh_39 fX5_21_5 rfl rfl (by decide) ?_
            refine xx_iload (pc := 85) dX5_goBy_85 1 rfl ?_
            refine xx_ialdN (pc := 87) dX5_goBy_87 sh_43 (by omega) (by decide) ?_
            refine xx_eqI (y := nI (it S k 0)) (by rw [hN_x.kd (by omega)]) ?_
            refine xx_aald (pc := 88) (it S k 0) (27 + 2 * (it S k 0)) dX5_goBy_88 sh_26 (by decide) rfl (by omega) (by decide) (kn_at hik.1) ?_
            refine xx_astore (L' := [(9, ic_pt E (27 + 2 * (it S k 0))), (8, .int (nI (it S k 5))), (7, .int (nI k)), (6, .int (nI v)), (0, ic_pt E 39), (1, ic_pt E m), (3, .int (nI (mo_crowd s (s 1)))), (4, .int (nI ((mo_crowd s (s 1)) / 2 ^ 2))), (5, .int (nI ((mo_crowd s (s 1)) &&& 3)))]) (pc := 89) dX5_goBy_89 (Nat.le_of_ble_eq_true rfl) rfl ?_
            refine xx_aload_nP (pc := 91) dX5_goBy_91 5 rfl rfl ?_
            refine xx_getR (pc := 92) (m + 1) dX5_goBy_92 hM.1 fX5_90_4 rfl (by rfl) (by omega) ?_
            refine xx_iload (pc := 95) dX5_goBy_95 2 rfl ?_
            refine xx_bipush (pc := 97) dX5_goBy_97 cc_bipush_99 ?_
            refine xx_aload_nP (pc := 99) dX5_goBy_99 5 rfl rfl ?_
            refine xx_getR (pc := 100) (m + 1) dX5_goBy_100 hM.1 fX5_90_4 rfl (by rfl) (by omega) ?_
            refine xx_iload (pc := 103) dX5_goBy_103 2 rfl ?_
            refine xx_ialdN (pc := 105) dX5_goBy_105 hM.2.1 (by omega) (by decide) ?_
            refine xx_aloadP (pc := 106) dX5_goBy_106 0 rfl ?_
            refine xx_iload (pc := 108) dX5_goBy_108 7 rfl ?_
            refine xx_iload (pc := 110) dX5_goBy_110 8 rfl ?_
            refine xx_aload_nP (pc := 112) dX5_goBy_112 4 rfl rfl ?_
            refine xx_getR (pc := 113) 65 dX5_goBy_113 sh_39 fX5_58_5 rfl rfl (by decide) ?_
            refine xx_iload (pc := 116) dX5_goBy_116 1 rfl ?_
            refine xx_ialdN (pc := 118) dX5_goBy_118 sh_65 (by omega) (by decide) ?_
            refine xx_eqI (y := nI (mo_others S k + 1)) (by rw [hxf 65 (by omega) (by omega) (by omega), cw1 _ (by omega), hmo]) ?_
            refine xx_iconst (pc := 119) dX5_goBy_119 cc_iconst_1 ?_
            refine xx_isubN (pc := 120) dX5_goBy_120 (by omega) ?_
            refine xx_sinks5 (pc := 121) (st := [.int (nI (x (m + 1) k)), .int (nI 99), .int (nI k), ic_pt E (m + 1)]) (kd := (it S k 0)) (r := (mo_crowd s (s 1)) / 2 ^ 2) (lm := (mo_crowd s (s 1)) &&& 3) (q := (mo_others S k + 1) - 1) (by omega) (by have := Nat.and_le_right (n := mo_crowd s (s 1)) (m := 3); omega) (by omega) rfl rfl ⟨hk1, hik.1⟩ dX5_goBy_121 (Nat.le_of_ble_eq_true rfl) ⟨Nat.le_of_ble_eq_true rfl, Nat.le_of_ble_eq_true rfl⟩ ⟨Nat.zero_le _, Nat.zero_le _⟩ ?_
            refine xx_eqI (y := nI (mo_sinks (it S k 0) (mo_crowd s (s 1)) ((mo_others S k + 1) - 1))) (by rw [mo_cr4]) ?_
            refine xx_eqI (y := nI (mo_sunk S k)) (by unfold mo_sunk; rw [hcS, Nat.add_sub_cancel]) ?_
            refine xx_iaddN (pc := 124) dX5_goBy_124 ?_
            refine xx_callS0 (pc := 125) (st := [.int (nI k), ic_pt E (m + 1)]) (cC_min (w := x) (a := 99) (b := (x (m + 1) k) + (mo_sunk S k)) (by omega) (by omega)) kJ9_min_7cf53 sX5_161 dX5_goBy_125 rfl rfl (Nat.le_of_ble_eq_true rfl) ⟨Nat.le_of_ble_eq_true rfl, Nat.le_of_ble_eq_true rfl⟩ ⟨Nat.zero_le _, Nat.zero_le _⟩ (ic_ke ?_)
            refine xx_iastN (pc := 128) dX5_goBy_128 hM.2.1 (by omega) (by decide) ?_
            refine xx_nw (fun w26 ew26 => ?_)
            have hd_ : min 99 (x (m + 1) k + mo_sunk S k) = min 99 (it S k 1 + mo_sunk S k) := by rw [hm_x.d (by omega), mo_sk_it S (Nat.le_refl k)]
            have hN_w26 : Cn w26 S := hN_x.of (by rw [ew26, wu_row _ _ _ (by omega)]) (by rw [ew26, wu_row _ _ _ (by omega)]) (by rw [ew26, wu_row _ _ _ (by omega)]) (fun a _ _ _ _ _ _ _ _ => by rw [ew26, wu_row _ _ _ (by omega)])
            have t_w26 : w26 m 0 = S 1 := by rw [ew26, wu_o _ _ _ _ (by omega)]; exact hm_x.t.trans sk1
            refine xx_aload_nP (pc := 129) dX5_goBy_129 5 rfl rfl ?_
            refine xx_getR (pc := 130) (m + 2) dX5_goBy_130 hM.1 fX5_93_4 rfl (by rfl) (by omega) ?_
            refine xx_iload (pc := 133) dX5_goBy_133 2 rfl ?_
            refine xx_iload (pc := 135) dX5_goBy_135 1 rfl ?_
            refine xx_aloadP (pc := 137) dX5_goBy_137 0 rfl ?_
            refine xx_aload_nP (pc := 139) dX5_goBy_139 5 rfl rfl ?_
            refine xx_getN (pc := 140) dX5_goBy_140 hM.1 fX5_99_4 rfl ?_
            refine xx_eqI (y := nI (S 1)) (by rw [t_w26]) ?_
            refine xx_drifts5 (pc := 143) (st := [.int (nI (it S k 5)), .int (nI k), ic_pt E (m + 2)]) (kd := (it S k 0)) (t := S 1) (by omega) rfl rfl ⟨hk1, hik.1⟩ dX5_goBy_143 (Nat.le_of_ble_eq_true rfl) ⟨Nat.le_of_ble_eq_true rfl, Nat.le_of_ble_eq_true rfl⟩ ⟨Nat.zero_le _, Nat.zero_le _⟩ ?_
            refine xx_iaddN (pc := 146) dX5_goBy_146 ?_
            refine xx_bipush (pc := 147) dX5_goBy_147 cc_bipush_6 ?_
            refine xx_iremN (pc := 149) dX5_goBy_149 (by omega) (by omega) (by omega) ?_
            refine xx_iastN (pc := 150) dX5_goBy_150 hM.2.2.1 (by omega) (by decide) ?_
            refine xx_nw (fun w27 ew27 => ?_)
            have ha_ : (it S k 5 + mo_drifts (it S k 0) (S 1)) % 6 = (it S k 5 + mo_drifts (it S k 0) (S 1)) % 6 := rfl
            have va_ : w27 (m + 2) k = (it S k 5 + mo_drifts (it S k 0) (S 1)) % 6 := by rw [ew27, wu_s]
            have vh_ : w27 45 k = it S k 3 := by rw [ew27, wu_o _ _ _ _ (by omega)]; exact hN_w26.hm (by omega)
            refine xx_aload_nP (pc := 151) dX5_goBy_151 5 rfl rfl ?_
            refine xx_getR (pc := 152) (m + 2) dX5_goBy_152 hM.1 fX5_93_4 rfl (by rfl) (by omega) ?_
            refine xx_iload (pc := 155) dX5_goBy_155 2 rfl ?_
            refine xx_ialdN (pc := 157) dX5_goBy_157 hM.2.2.1 (by omega) (by decide) ?_
            refine xx_aload_nP (pc := 158) dX5_goBy_158 4 rfl rfl ?_
            refine xx_getR (pc := 159) 45 dX5_goBy_159 sh_39 fX5_27_5 rfl rfl (by decide) ?_
            refine xx_iload (pc := 162) dX5_goBy_162 2 rfl ?_
            refine xx_ialdN (pc := 164) dX5_goBy_164 sh_45 (by omega) (by decide) ?_
            refine xx_icmp_neN (pc := 165) 171 dX5_goBy_165 rfl (by omega) (by omega) (fun c28 => ?_) (fun c28 => ?_)
            · refine xx_iincN (L' := [(7, .int (nI (k + 1))), (9, ic_pt E (27 + 2 * (it S k 0))), (8, .int (nI (it S k 5))), (6, .int (nI v)), (0, ic_pt E 39), (1, ic_pt E m), (3, .int (nI (mo_crowd s (s 1)))), (4, .int (nI ((mo_crowd s (s 1)) / 2 ^ 2))), (5, .int (nI ((mo_crowd s (s 1)) &&& 3)))]) (pc := 171) dX5_goBy_171 2 rfl cc_iconst_1 (Nat.le_of_ble_eq_true rfl) rfl ?_
              refine xx_goto (pc := 174) 47 dX5_goBy_174 rfl ?_
              exact xx_sub [0, 3, 4, 5, 6, 7, 8] rfl (ih_ (k + 1) _ w27 (by omega) (fun a h1 h2 h3 => by rw [ew27, wu_row _ _ _ h3, ew26, wu_row _ _ _ h2]; exact hxf a h1 h2 h3) (hm_x.sk (by omega) hd_ ha_ (by rw [ew27, ew26])) (by rw [hv]; first | (rw [mo_w2_t (by omega) (by omega)]; omega) | rw [mo_w2_f (by omega)]) (by omega))
            · refine xx_iincN (L' := [(6, .int (nI (v + 1))), (9, ic_pt E (27 + 2 * (it S k 0))), (8, .int (nI (it S k 5))), (7, .int (nI k)), (0, ic_pt E 39), (1, ic_pt E m), (3, .int (nI (mo_crowd s (s 1)))), (4, .int (nI ((mo_crowd s (s 1)) / 2 ^ 2))), (5, .int (nI ((mo_crowd s (s 1)) &&& 3)))]) (pc := 168) dX5_goBy_168 3 rfl cc_iconst_1 (Nat.le_of_ble_eq_true rfl) rfl ?_
              refine xx_iincN (L' := [(7, .int (nI (k + 1))), (6, .int (nI (v + 1))), (9, ic_pt E (27 + 2 * (it S k 0))), (8, .int (nI (it S k 5))), (0, ic_pt E 39), (1, ic_pt E m), (3, .int (nI (mo_crowd s (s 1)))), (4, .int (nI ((mo_crowd s (s 1)) / 2 ^ 2))), (5, .int (nI ((mo_crowd s (s 1)) &&& 3)))]) (pc := 171) dX5_goBy_171 3 rfl cc_iconst_1 (Nat.le_of_ble_eq_true rfl) rfl ?_
              refine xx_goto (pc := 174) 47 dX5_goBy_174 rfl ?_
              exact xx_sub [0, 1, 4, 5, 6, 7, 8] rfl (ih_ (k + 1) _ w27 (by omega) (fun a h1 h2 h3 => by rw [ew27, wu_row _ _ _ h3, ew26, wu_row _ _ _ h2]; exact hxf a h1 h2 h3) (hm_x.sk (by omega) hd_ ha_ (by rw [ew27, ew26])) (by rw [hv]; first | (rw [mo_w2_t (by omega) (by omega)]; omega) | rw [mo_w2_f (by omega)]) (by omega))
          · rw [mo_sk_it S (Nat.le_refl k)] at c25
            refine xx_goto (pc := 65) 171 dX5_goBy_65 rfl ?_
            refine xx_iincN (L' := [(7, .int (nI (k + 1))), (6, .int (nI v)), (0, ic_pt E 39), (1, ic_pt E m), (3, .int (nI (mo_crowd s (s 1)))), (4, .int (nI ((mo_crowd s (s 1)) / 2 ^ 2))), (5, .int (nI ((mo_crowd s (s 1)) &&& 3)))]) (pc := 171) dX5_goBy_171 0 rfl cc_iconst_1 (Nat.le_of_ble_eq_true rfl) rfl ?_
            refine xx_goto (pc := 174) 47 dX5_goBy_174 rfl ?_
            exact xx_sub [0, 1, 2, 3, 4, 5, 6] rfl (ih_ (k + 1) v x (by omega) hxf (by rw [mo_sk_f (by omega)]; exact hm_x) (by rw [mo_w2_f (fun z => by omega)]; exact hv) (by omega))
    exact xx_sub [0, 1, 2, 3, 5, 6, 7] rfl (lp (s 0 + 1) 0 _ w1 (by omega) (fun _ _ _ _ => rfl) (by rw [show mo_sk S 0 = S by funext z; exact mo_sk_hi S (by omega)]; exact hm_w1) hv1 (by omega))
  refine xx_aload_nP (pc := 0) dX5_goBy_0 0 rfl rfl ?_
  refine xx_aload_nP (pc := 1) dX5_goBy_1 1 rfl rfl ?_
  refine xx_getN (pc := 2) dX5_goBy_2 hM.1 fX5_99_4 rfl ?_
  refine xx_callV0 (pc := 5) (st := []) sh_39 (cC_crowdOf (w := w) (t := w m 0) (s := s) (by omega) hN) kX5_crowdOf vX5_115_5 dX5_goBy_5 rfl rfl (Nat.le_of_ble_eq_true rfl) ⟨Nat.le_of_ble_eq_true rfl, Nat.le_of_ble_eq_true rfl⟩ ⟨Nat.zero_le _, Nat.zero_le _⟩ (ic_ke ?_)
  refine xx_eqI (y := nI (mo_crowd s (s 1))) (by rw [hm.t]) ?_
  refine xx_istore_n (L' := [(3, .int (nI (mo_crowd s (s 1)))), (0, ic_pt E 39), (1, ic_pt E m), (2, .int (nI act))]) (pc := 8) dX5_goBy_8 rfl (Nat.le_of_ble_eq_true rfl) rfl ?_
  refine xx_iload_n (pc := 9) dX5_goBy_9 0 rfl rfl ?_
  refine xx_iconst (pc := 10) dX5_goBy_10 cc_iconst_2 ?_
  refine xx_ishrN (pc := 11) dX5_goBy_11 (by omega) (by omega) ?_
  refine xx_istore (L' := [(4, .int (nI ((mo_crowd s (s 1)) / 2 ^ 2))), (3, .int (nI (mo_crowd s (s 1)))), (0, ic_pt E 39), (1, ic_pt E m), (2, .int (nI act))]) (pc := 12) dX5_goBy_12 (Nat.le_of_ble_eq_true rfl) rfl ?_
  refine xx_iload_n (pc := 14) dX5_goBy_14 1 rfl rfl ?_
  refine xx_iconst (pc := 15) dX5_goBy_15 cc_iconst_3 ?_
  refine xx_iandN (pc := 16) dX5_goBy_16 ?_
  refine xx_istore (L' := [(5, .int (nI ((mo_crowd s (s 1)) &&& 3))), (4, .int (nI ((mo_crowd s (s 1)) / 2 ^ 2))), (3, .int (nI (mo_crowd s (s 1)))), (0, ic_pt E 39), (1, ic_pt E m), (2, .int (nI act))]) (pc := 17) dX5_goBy_17 (Nat.le_of_ble_eq_true rfl) rfl ?_
  refine xx_iload_n (pc := 19) dX5_goBy_19 5 rfl rfl ?_
  refine xx_if_leN (pc := 20) 36 dX5_goBy_20 rfl (by omega) (fun c3 => ?_) (fun c3 => ?_)
  · refine xx_iconst (pc := 36) dX5_goBy_36 cc_iconst_0 ?_
    exact xx_sub [3, 4, 5, 2, 1, 0] rfl (j37 _ w (by unfold mo_w1; rw [if_pos (by omega)]) (fun _ _ _ _ _ _ => rfl) (by rw [hS]; unfold mo_s1; rw [if_pos (by omega)]; exact hm))
  · refine xx_aload_nP (pc := 23) dX5_goBy_23 3 rfl rfl ?_
    refine xx_aload_nP (pc := 24) dX5_goBy_24 4 rfl rfl ?_
    refine xx_iload_n (pc := 25) dX5_goBy_25 5 rfl rfl ?_
    refine xx_iconst (pc := 26) dX5_goBy_26 cc_iconst_1 ?_
    refine xx_isubN (pc := 27) dX5_goBy_27 (by omega) ?_
    refine xx_iload (pc := 28) dX5_goBy_28 0 rfl ?_
    have hw1l := mo_w1_le hIn (act := act) (by omega)
    refine xx_callV0 (pc := 30) (st := []) sh_39 (cC_obey (w := w) (m := m) (s := s) (k := act - 1) (lm := (mo_crowd s (s 1)) &&& 3) hM hm hN hIn hRu (by omega) (mo_and3 _)) kX5_obey vX5_157_5 dX5_goBy_30 rfl rfl (Nat.le_of_ble_eq_true rfl) ⟨Nat.le_of_ble_eq_true rfl, Nat.le_of_ble_eq_true rfl⟩ ⟨Nat.zero_le _, Nat.zero_le _⟩ (ic_ki (fun v5 h_ qw4 => ?_))
    obtain ⟨rfl, w4, rfl, gw4, dw4⟩ := qw4
    rw [show act - 1 + 1 = act by omega] at dw4
    refine xx_eqI (y := nI (mo_w1 s act)) (by rw [show act - 1 + 1 = act by omega]) ?_
    refine xx_goto (pc := 33) 37 dX5_goBy_33 rfl ?_
    exact xx_sub [3, 4, 5, 2, 1, 0] rfl (j37 _ w4 rfl gw4 (by rw [hS]; exact dw4))

