/-! conditions of the rules: what is true lies in bits -/
def lgc (a b : Nat) : Nat := if a = b then 0 else if b < a then 1 else 4294967295
theorem lgc_0 {a b : Nat} : lgc a b = 0 ↔ a = b := by
  unfold lgc
  split
  · simp [*]
  · split <;> simp [*]
theorem lgc_lt (a b : Nat) : lgc a b < 2 ^ 32 := by
  unfold lgc
  split
  · omega
  · split <;> omega
theorem lgc_eq {a b : Nat} (ha : a < 2 ^ 63) (hb : b < 2 ^ 63) : lg_cmp (lN a) (lN b) = nI (lgc a b) := by
  have h1 := pk_lLT hb ha
  have h2 := pk_lEQ ha hb
  unfold lg_cmp lgc
  by_cases q : a = b
  · subst q
    rw [if_pos rfl]
    have : ¬ (lN a > lN a) := fun z => by have := h1.mp z; omega
    simp [this, nI_0]
  · rw [if_neg q]
    by_cases z : b < a
    · rw [if_pos (h1.mpr z), if_pos z]
      rfl
    · rw [if_neg (fun y => z (h1.mp y)), if_neg (fun y => q (h2.mp y)), if_neg z]
      rfl
section XM
variable {l : Launch} {E : ic_E} {F : ic_F} {kc : Nat × Nat} {pc : Nat} {L : List (Nat × Value)} {st : List Value} {sh : List ic_S} {h : ic_H}
theorem lN_bb {a b : Nat} (e : BitVec.ofNat 64 a = BitVec.ofNat 64 b) : lN a = lN b := Int64.toBitVec_inj.mp e
theorem ll_and (a b : Nat) : lN a &&& lN b = lN (a &&& b) := by
  apply Int64.toBitVec_inj.mp
  show BitVec.ofNat 64 a &&& BitVec.ofNat 64 b = BitVec.ofNat 64 (a &&& b)
  exact (BitVec.ofNat_and).symm
theorem ll_or (a b : Nat) : lN a ||| lN b = lN (a ||| b) := by
  apply Int64.toBitVec_inj.mp
  show BitVec.ofNat 64 a ||| BitVec.ofNat 64 b = BitVec.ofNat 64 (a ||| b)
  exact (BitVec.ofNat_or).symm
theorem ll_xor (a b : Nat) : lN a ^^^ lN b = lN (a ^^^ b) := by
  apply Int64.toBitVec_inj.mp
  show BitVec.ofNat 64 a ^^^ BitVec.ofNat 64 b = BitVec.ofNat 64 (a ^^^ b)
  exact (BitVec.ofNat_xor).symm
theorem xx_laddN {a b : Nat} (hd : decode F.2.2.1 pc = .ok (.ladd, 1)) (kk : xx l E F kc (pc + 1) L (.long (lN (a + b)) :: st) sh h) : xx l E F kc pc L (.long (lN b) :: .long (lN a) :: st) sh h := xx_ladd hd (by rw [lN_add]; exact kk)
theorem xx_lmulN {a b : Nat} (hd : decode F.2.2.1 pc = .ok (.lmul, 1)) (kk : xx l E F kc (pc + 1) L (.long (lN (a * b)) :: st) sh h) : xx l E F kc pc L (.long (lN b) :: .long (lN a) :: st) sh h := xx_lmul hd (by rw [lN_mul]; exact kk)
theorem xx_landN {a b : Nat} (hd : decode F.2.2.1 pc = .ok (.land, 1)) (kk : xx l E F kc (pc + 1) L (.long (lN (a &&& b)) :: st) sh h) : xx l E F kc pc L (.long (lN b) :: .long (lN a) :: st) sh h := xx_land hd (by rw [ll_and]; exact kk)
theorem xx_lorN {a b : Nat} (hd : decode F.2.2.1 pc = .ok (.lor, 1)) (kk : xx l E F kc (pc + 1) L (.long (lN (a ||| b)) :: st) sh h) : xx l E F kc pc L (.long (lN b) :: .long (lN a) :: st) sh h := xx_lor hd (by rw [ll_or]; exact kk)
theorem xx_lxorN {a b : Nat} (hd : decode F.2.2.1 pc = .ok (.lxor, 1)) (kk : xx l E F kc (pc + 1) L (.long (lN (a ^^^ b)) :: st) sh h) : xx l E F kc pc L (.long (lN b) :: .long (lN a) :: st) sh h := xx_lxor hd (by rw [ll_xor]; exact kk)
theorem ll_ne0 {b : Nat} (h0 : 0 < b) (hb : b < 2 ^ 63) : ¬ lN b = 0 := fun e => by
  have := (pk_lEQ (a := b) (b := 0) hb (by omega)).mp e
  omega
theorem xx_ldivN {a b : Nat} (hd : decode F.2.2.1 pc = .ok (.ldiv, 1)) (ha : a < 2 ^ 63) (h0 : 0 < b) (hb : b < 2 ^ 63) (kk : xx l E F kc (pc + 1) L (.long (lN (a / b)) :: st) sh h) : xx l E F kc pc L (.long (lN b) :: .long (lN a) :: st) sh h := xx_ldiv hd (ll_ne0 h0 hb) (by rw [pk_lDiv ha h0 hb]; exact kk)
theorem xx_lremN {a b : Nat} (hd : decode F.2.2.1 pc = .ok (.lrem, 1)) (ha : a < 2 ^ 63) (h0 : 0 < b) (hb : b < 2 ^ 63) (kk : xx l E F kc (pc + 1) L (.long (lN (a % b)) :: st) sh h) : xx l E F kc pc L (.long (lN b) :: .long (lN a) :: st) sh h := xx_lrem hd (ll_ne0 h0 hb) (by rw [pk_lRem ha h0 hb]; exact kk)
theorem xx_lcmpN {a b : Nat} (hd : decode F.2.2.1 pc = .ok (.lcmp, 1)) (ha : a < 2 ^ 63) (hb : b < 2 ^ 63) (kk : xx l E F kc (pc + 1) L (.int (nI (lgc a b)) :: st) sh h) : xx l E F kc pc L (.long (lN b) :: .long (lN a) :: st) sh h := xx_lcmp hd (by rw [lgc_eq ha hb]; exact kk)
end XM
def mo_val (s : Nat → Nat) (v o : Nat) : Nat := if v = 10000 then s 1 else if v = 10001 then it s o 1 else if v = 10002 then it s o 2 else if v = 10003 then mo_crowd s (s 1) / 4 else if v = 10004 then o else v
def mo_cmp (sort a b : Nat) : Bool := if sort = 0 then decide (a < b) else if sort = 1 then decide (a = b) else decide (b < a)
def mo_st (s : Nat → Nat) (o k t : Nat) : Nat :=
  if s (128 + 3 * k) < 3 then 2 * t + (if mo_cmp (s (128 + 3 * k)) (mo_val s (s (129 + 3 * k)) o) (mo_val s (s (130 + 3 * k)) o) = true then 1 else 0)
  else if s (128 + 3 * k) = 3 then t ^^^ 1 else if s (128 + 3 * k) = 4 then (if t &&& 1 = 1 then t / 2 else t / 2 &&& 18446744073709551614) else t / 2 ||| (t &&& 1)
def mo_tr (s : Nat → Nat) (o b : Nat) : Nat → Nat
  | 0 => 1
  | n + 1 => mo_st s o (b + n) (mo_tr s o b n)
def mo_dp (s : Nat → Nat) (b : Nat) : Nat → Nat
  | 0 => 0
  | n + 1 => if s (128 + 3 * (b + n)) < 3 then mo_dp s b n + 1 else if s (128 + 3 * (b + n)) = 3 then mo_dp s b n else mo_dp s b n - 1
theorem mo_st_lt {s : Nat → Nat} {o k t d : Nat} (h : t < 2 ^ (d + 1)) : mo_st s o k t < 2 ^ ((if s (128 + 3 * k) < 3 then d + 1 else if s (128 + 3 * k) = 3 then d else d - 1) + 1) := by
  unfold mo_st
  split
  · rw [Nat.pow_succ]
    split <;> omega
  · split
    · exact Nat.xor_lt_two_pow h (Nat.one_lt_two_pow (by omega))
    · have h2 : t / 2 < 2 ^ (d - 1 + 1) := by
        rcases Nat.eq_zero_or_pos d with z | z
        · subst z
          have : t < 2 := by simpa using h
          have : t / 2 = 0 := by omega
          rw [this]
          exact Nat.two_pow_pos _
        · rw [show d - 1 + 1 = d by omega]
          rw [Nat.pow_succ] at h
          omega
      split
      · split
        · exact h2
        · exact Nat.lt_of_le_of_lt Nat.and_le_left h2
      · exact Nat.or_lt_two_pow h2 (Nat.lt_of_le_of_lt Nat.and_le_right (Nat.one_lt_two_pow (by omega)))
theorem mo_tr_lt (s : Nat → Nat) (o b : Nat) : ∀ n, mo_tr s o b n < 2 ^ (mo_dp s b n + 1)
  | 0 => by show 1 < 2 ^ 1; omega
  | n + 1 => by
    rw [mo_tr, mo_dp]
    exact mo_st_lt (mo_tr_lt s o b n)
/-- the rules keep to this: kinds, deeds, where their steps lie, how deep these go; the steps' sorts and values -/
def Ru (s : Nat → Nat) : Prop :=
  (∀ r, r < s 5 → s (72 + 4 * r) ≤ 5 ∧ s (73 + 4 * r) ≤ 2 ∧ s (74 + 4 * r) ≤ s (75 + 4 * r) ∧ s (75 + 4 * r) ≤ s 7 ∧ ∀ n, n ≤ s (75 + 4 * r) - s (74 + 4 * r) → mo_dp s (s (74 + 4 * r)) n ≤ 20) ∧
  ∀ k, k < s 7 → s (128 + 3 * k) ≤ 5 ∧ s (129 + 3 * k) ≤ 10004 ∧ s (130 + 3 * k) ≤ 10004
def mo_hold (s : Nat → Nat) (r o : Nat) : Bool := decide (mo_tr s o (s (74 + 4 * r)) (s (75 + 4 * r) - s (74 + 4 * r)) % 2 = 1)
/-- the first rule, of n from r on, that tells o -/
def mo_rule (s : Nat → Nat) (o : Nat) : Nat → Nat → Nat
  | 0, _ => 0
  | n + 1, r => if mo_under (it s o 0) (s (72 + 4 * r)) = true ∧ mo_hold s r o = true then s (73 + 4 * r) else mo_rule s o n (r + 1)
def mo_will (s : Nat → Nat) (o : Nat) : Nat := mo_rule s o (s 5) 0
def mo_may (s : Nat → Nat) (o : Nat) : Prop := 0 < mo_pays s o ∧ mo_will s o = 0
theorem mo_val_le {s : Nat → Nat} (h : In s) {v o : Nat} (hv : v ≤ 10004) (ho : o < 6) : mo_val s v o ≤ 10004 := by
  have h1 := h.i ho
  have h2 := h.cr (s 1)
  have h3 := h.t
  unfold mo_val
  repeat' split
  all_goals omega
theorem mo_pays_le {s : Nat → Nat} (h : In s) {o : Nat} (ho : o < 6) : mo_pays s o ≤ 27 := by
  have h1 := h.i ho
  have h2 := (h.f (f := it s o 5) (by omega)).1
  unfold mo_pays
  repeat' split
  all_goals omega
theorem mo_rule_le {s : Nat → Nat} (h : Ru s) (o : Nat) : ∀ n r, r + n ≤ s 5 → mo_rule s o n r ≤ 2
  | 0, _, _ => Nat.zero_le _
  | n + 1, r, q => by
    rw [mo_rule]
    split
    · exact (h.1 r (by omega)).2.1
    · exact mo_rule_le h o n (r + 1) (by omega)
theorem mo_will_le {s : Nat → Nat} (h : Ru s) (o : Nat) : mo_will s o ≤ 2 := mo_rule_le h o _ _ (by omega)
set_option maxHeartbeats 4000000 in
set_option maxRecDepth 100000 in
theorem cM_valueOf {l : Launch} {E : ic_E} {w : ic_w} {v o : Nat} (hv : v ≤ 10004) (ho : o < 6) (hI : In (w 115)) : ic_C l E mX12_valueOf 2 0 0 False [ic_pt E 114, .int (nI v), .int (nI o)] SHs (hn w) SHs (ic_qe (nI (mo_val (w 115) v o)) (hn w)) := by
  refine ic_intro (by decide +kernel) (Nat.le_of_ble_eq_true rfl) ?_
  show xx l E _ _ 0 [(0, ic_pt E 114), (1, .int (nI v)), (2, .int (nI o))] _ _ _
  have ho5 := hI.i ho
  have ht := hI.t
  have hcr := hI.cr (w 115 1)
  rcases (show v < 10000 ∨ v = 10000 ∨ v = 10001 ∨ v = 10002 ∨ v = 10003 ∨ v = 10004 by omega) with hv9 | rfl | rfl | rfl | rfl | rfl
  · refine xx_iload_n (pc := 0) dX12_valueOf_0 1 rfl rfl ?_
    refine xx_sipush (pc := 1) dX12_valueOf_1 cc_sipush_10000 ?_
    refine xx_isubW (pc := 4) dX12_valueOf_4 (by omega) ?_
    refine xx_tout (pc := 5) 76 dX12_valueOf_5 (Or.inl (by rw [nI_sgn (by omega)]; split <;> omega)) rfl ?_
    refine xx_iload_n (pc := 76) dX12_valueOf_76 1 rfl rfl ?_
    exact xx_iret (pc := 77) dX12_valueOf_77 rfl (rfl) (Nat.le_refl _) (Nat.le_refl _) (ic_re (by rw [mo_val, if_neg (by omega), if_neg (by omega), if_neg (by omega), if_neg (by omega), if_neg (by omega)]))
  · refine xx_iload_n (pc := 0) dX12_valueOf_0 1 rfl rfl ?_
    refine xx_sipush (pc := 1) dX12_valueOf_1 cc_sipush_10000 ?_
    refine xx_isubW (pc := 4) dX12_valueOf_4 (by omega) ?_
    refine xx_eqI (y := nI 0) (by decide +kernel) ?_
    refine xx_tin (pc := 5) 40 dX12_valueOf_5 (by decide) (by decide) rfl rfl ?_
    refine xx_aload_nP (pc := 40) dX12_valueOf_40 0 rfl rfl ?_
    refine xx_getR (pc := 41) 115 dX12_valueOf_41 sh_114 fX12_7_12 rfl rfl (by decide) ?_
    refine xx_iconst (pc := 44) dX12_valueOf_44 cc_iconst_1 ?_
    refine xx_ialdN (pc := 45) dX12_valueOf_45 sh_115 (by omega) (by decide) ?_
    exact xx_iret (pc := 46) dX12_valueOf_46 rfl (rfl) (Nat.le_refl _) (Nat.le_refl _) (ic_re rfl)
  · refine xx_iload_n (pc := 0) dX12_valueOf_0 1 rfl rfl ?_
    refine xx_sipush (pc := 1) dX12_valueOf_1 cc_sipush_10000 ?_
    refine xx_isubW (pc := 4) dX12_valueOf_4 (by omega) ?_
    refine xx_eqI (y := nI 1) (by decide +kernel) ?_
    refine xx_tin (pc := 5) 47 dX12_valueOf_5 (by decide) (by decide) rfl rfl ?_
    refine xx_aload_nP (pc := 47) dX12_valueOf_47 0 rfl rfl ?_
    refine xx_iload_n (pc := 48) dX12_valueOf_48 2 rfl rfl ?_
    refine xx_iconst (pc := 49) dX12_valueOf_49 cc_iconst_1 ?_
    refine xx_callV0 (pc := 50) (st := []) sh_114 (cM_its (w := w) (o := o) (k := 1) (by omega) (by omega)) kX12_its vX12_82_12 dX12_valueOf_50 rfl rfl (Nat.le_of_ble_eq_true rfl) ⟨Nat.le_of_ble_eq_true rfl, Nat.le_of_ble_eq_true rfl⟩ ⟨Nat.zero_le _, Nat.zero_le _⟩ (ic_ke ?_)
    exact xx_iret (pc := 53) dX12_valueOf_53 rfl (rfl) (Nat.le_refl _) (Nat.le_refl _) (ic_re rfl)
  · refine xx_iload_n (pc := 0) dX12_valueOf_0 1 rfl rfl ?_
    refine xx_sipush (pc := 1) dX12_valueOf_1 cc_sipush_10000 ?_
    refine xx_isubW (pc := 4) dX12_valueOf_4 (by omega) ?_
    refine xx_eqI (y := nI 2) (by decide +kernel) ?_
    refine xx_tin (pc := 5) 54 dX12_valueOf_5 (by decide) (by decide) rfl rfl ?_
    refine xx_aload_nP (pc := 54) dX12_valueOf_54 0 rfl rfl ?_
    refine xx_iload_n (pc := 55) dX12_valueOf_55 2 rfl rfl ?_
    refine xx_iconst (pc := 56) dX12_valueOf_56 cc_iconst_2 ?_
    refine xx_callV0 (pc := 57) (st := []) sh_114 (cM_its (w := w) (o := o) (k := 2) (by omega) (by omega)) kX12_its vX12_82_12 dX12_valueOf_57 rfl rfl (Nat.le_of_ble_eq_true rfl) ⟨Nat.le_of_ble_eq_true rfl, Nat.le_of_ble_eq_true rfl⟩ ⟨Nat.zero_le _, Nat.zero_le _⟩ (ic_ke ?_)
    exact xx_iret (pc := 60) dX12_valueOf_60 rfl (rfl) (Nat.le_refl _) (Nat.le_refl _) (ic_re rfl)
  · refine xx_iload_n (pc := 0) dX12_valueOf_0 1 rfl rfl ?_
    refine xx_sipush (pc := 1) dX12_valueOf_1 cc_sipush_10000 ?_
    refine xx_isubW (pc := 4) dX12_valueOf_4 (by omega) ?_
    refine xx_eqI (y := nI 3) (by decide +kernel) ?_
    refine xx_tin (pc := 5) 61 dX12_valueOf_5 (by decide) (by decide) rfl rfl ?_
    refine xx_aload_nP (pc := 61) dX12_valueOf_61 0 rfl rfl ?_
    refine xx_aload_nP (pc := 62) dX12_valueOf_62 0 rfl rfl ?_
    refine xx_getR (pc := 63) 115 dX12_valueOf_63 sh_114 fX12_7_12 rfl rfl (by decide) ?_
    refine xx_iconst (pc := 66) dX12_valueOf_66 cc_iconst_1 ?_
    refine xx_ialdN (pc := 67) dX12_valueOf_67 sh_115 (by omega) (by decide) ?_
    refine xx_callV0 (pc := 68) (st := []) sh_114 (cM_crowdOf (w := w) (t := w 115 1) (by omega)) kX12_crowdOf vX12_85_12 dX12_valueOf_68 rfl rfl (Nat.le_of_ble_eq_true rfl) ⟨Nat.le_of_ble_eq_true rfl, Nat.le_of_ble_eq_true rfl⟩ ⟨Nat.zero_le _, Nat.zero_le _⟩ (ic_ke ?_)
    refine xx_iconst (pc := 71) dX12_valueOf_71 cc_iconst_4 ?_
    refine xx_idivN (pc := 72) dX12_valueOf_72 (by omega) (by omega) (by omega) ?_
    exact xx_iret (pc := 73) dX12_valueOf_73 rfl (rfl) (Nat.le_refl _) (Nat.le_refl _) (ic_re rfl)
  · refine xx_iload_n (pc := 0) dX12_valueOf_0 1 rfl rfl ?_
    refine xx_sipush (pc := 1) dX12_valueOf_1 cc_sipush_10000 ?_
    refine xx_isubW (pc := 4) dX12_valueOf_4 (by omega) ?_
    refine xx_eqI (y := nI 4) (by decide +kernel) ?_
    refine xx_tin (pc := 5) 74 dX12_valueOf_5 (by decide) (by decide) rfl rfl ?_
    refine xx_iload_n (pc := 74) dX12_valueOf_74 2 rfl rfl ?_
    exact xx_iret (pc := 75) dX12_valueOf_75 rfl (rfl) (Nat.le_refl _) (Nat.le_refl _) (ic_re rfl)

set_option maxHeartbeats 4000000 in
set_option maxRecDepth 100000 in
theorem cM_holds {l : Launch} {E : ic_E} {w : ic_w} {r o : Nat} (hr : r < w 115 5) (ho : o < 6) (hI : In (w 115)) (hR : Ru (w 115)) : ic_C l E mX12_holds 3 0 0 False [ic_pt E 114, .int (nI r), .int (nI o)] SHs (hn w) SHs (ic_qe (nI (ic_bo (mo_hold (w 115) r o = true))) (hn w)) := by
  refine ic_intro (by decide +kernel) (Nat.le_of_ble_eq_true rfl) ?_
  show xx l E _ _ 0 [(0, ic_pt E 114), (1, .int (nI r)), (2, .int (nI o))] _ _ _
  have h5 := hI.2.2.1
  have hr5 := hR.1 r hr
  have lp : ∀ (n_ : Nat) (k t : Nat), w 115 (74 + 4 * r) ≤ k → k ≤ w 115 (75 + 4 * r) → t = mo_tr (w 115) o (w 115 (74 + 4 * r)) (k - w 115 (74 + 4 * r)) → w 115 (75 + 4 * r) - k < n_ → xx l E (ic_fr E mX12_holds 3 0 0 False SHs (ic_qe (nI (ic_bo (mo_hold (w 115) r o = true))) (hn w))) (0, 0) 17 [(5, .int (nI k)), (3, .long (lN t)), (0, ic_pt E 114), (1, .int (nI r)), (2, .int (nI o))] [] SHs (hn w) := by
    intro n_
    induction n_ with
    | zero => intro k t hb he hq hm_; exact absurd hm_ (Nat.not_lt_zero _)
    | succ n_ ih_ =>
      intro k t hb he hq hm_
      have htl := mo_tr_lt (w 115) o (w 115 (74 + 4 * r)) (k - w 115 (74 + 4 * r))
      have hdp := hr5.2.2.2.2 (k - w 115 (74 + 4 * r)) (by omega)
      have ht62 : t < 2 ^ 62 := by rw [hq]; exact Nat.lt_of_lt_of_le htl (Nat.pow_le_pow_right (by omega) (by omega))
      refine xx_iload (pc := 17) dX12_holds_17 0 rfl ?_
      refine xx_aload_nP (pc := 19) dX12_holds_19 2 rfl rfl ?_
      refine xx_getR (pc := 20) 115 dX12_holds_20 sh_114 fX12_7_12 rfl rfl (by decide) ?_
      refine xx_bipush (pc := 23) dX12_holds_23 cc_bipush_72 ?_
      refine xx_iconst (pc := 25) dX12_holds_25 cc_iconst_4 ?_
      refine xx_iload_n (pc := 26) dX12_holds_26 3 rfl rfl ?_
      refine xx_imulN (pc := 27) dX12_holds_27 ?_
      refine xx_iaddN (pc := 28) dX12_holds_28 ?_
      refine xx_iconst (pc := 29) dX12_holds_29 cc_iconst_3 ?_
      refine xx_iaddN (pc := 30) dX12_holds_30 ?_
      refine xx_ialdE (j2 := 75 + 4 * r) (pc := 31) dX12_holds_31 sh_115 (by omega) (by omega) (by decide) ?_
      refine xx_icmp_geN (pc := 32) 235 dX12_holds_32 rfl (by omega) (by omega) (fun c1 => ?_) (fun c1 => ?_)
      · refine xx_lload_n (pc := 235) dX12_holds_235 1 rfl rfl ?_
        refine xx_ldc2 (v := 2) (pc := 236) dX12_holds_236 oX12_99 ?_
        refine xx_eqL (y := lN 2) (by decide +kernel) ?_
        refine xx_lremN (pc := 239) dX12_holds_239 (by omega) (by omega) (by omega) ?_
        refine xx_lconst (v := lN 1) (pc := 240) dX12_holds_240 rfl ?_
        refine xx_lcmpN (pc := 241) dX12_holds_241 (by omega) (by omega) ?_
        refine xx_if_neN (pc := 242) 249 dX12_holds_242 rfl (by have := lgc_lt (t % 2) 1; omega) (fun c2 => ?_) (fun c2 => ?_)
        · refine xx_iconst (pc := 249) dX12_holds_249 cc_iconst_0 ?_
          exact xx_iret (pc := 250) dX12_holds_250 rfl (rfl) (Nat.le_refl _) (Nat.le_refl _) (ic_re (ic_bo_f (by unfold mo_hold; rw [show mo_tr (w 115) o (w 115 (74 + 4 * r)) (w 115 (75 + 4 * r) - w 115 (74 + 4 * r)) = t by rw [hq, show k = w 115 (75 + 4 * r) by omega]]; exact fun z => absurd (lgc_0.mpr (of_decide_eq_true z)) (by assumption))).symm)
        · refine xx_iconst (pc := 245) dX12_holds_245 cc_iconst_1 ?_
          refine xx_goto (pc := 246) 250 dX12_holds_246 rfl ?_
          exact xx_iret (pc := 250) dX12_holds_250 rfl (rfl) (Nat.le_refl _) (Nat.le_refl _) (ic_re (ic_bo_t (by unfold mo_hold; rw [show mo_tr (w 115) o (w 115 (74 + 4 * r)) (w 115 (75 + 4 * r) - w 115 (74 + 4 * r)) = t by rw [hq, show k = w 115 (75 + 4 * r) by omega]]; exact decide_eq_true (lgc_0.mp (by assumption)))).symm)
      · have hk7 := hR.2 k (by omega)
        have hva := mo_val_le hI (v := w 115 (129 + 3 * k)) (o := o) (by omega) ho
        have hvb := mo_val_le hI (v := w 115 (130 + 3 * k)) (o := o) (by omega) ho
        refine xx_aload_nP (pc := 35) dX12_holds_35 2 rfl rfl ?_
        refine xx_getR (pc := 36) 115 dX12_holds_36 sh_114 fX12_7_12 rfl rfl (by decide) ?_
        refine xx_sipush (pc := 39) dX12_holds_39 cc_sipush_128 ?_
        refine xx_iconst (pc := 42) dX12_holds_42 cc_iconst_3 ?_
        refine xx_iload (pc := 43) dX12_holds_43 0 rfl ?_
        refine xx_imulN (pc := 45) dX12_holds_45 ?_
        refine xx_iaddN (pc := 46) dX12_holds_46 ?_
        refine xx_ialdE (j2 := 128 + 3 * k) (pc := 47) dX12_holds_47 sh_115 (by omega) (by omega) (by decide) ?_
        refine xx_istore (L' := [(6, .int (nI (w 115 (128 + 3 * k)))), (5, .int (nI k)), (3, .long (lN t)), (0, ic_pt E 114), (1, .int (nI r)), (2, .int (nI o))]) (pc := 48) dX12_holds_48 (Nat.le_of_ble_eq_true rfl) rfl ?_
        refine xx_iload (pc := 50) dX12_holds_50 0 rfl ?_
        refine xx_iconst (pc := 52) dX12_holds_52 cc_iconst_3 ?_
        refine xx_icmp_geN (pc := 53) 175 dX12_holds_53 rfl (by omega) (by omega) (fun c3 => ?_) (fun c3 => ?_)
        · refine xx_iload (pc := 175) dX12_holds_175 0 rfl ?_
          refine xx_iconst (pc := 177) dX12_holds_177 cc_iconst_3 ?_
          refine xx_icmp_neN (pc := 178) 188 dX12_holds_178 rfl (by omega) (by omega) (fun c4 => ?_) (fun c4 => ?_)
          · refine xx_lload_n (pc := 188) dX12_holds_188 2 rfl rfl ?_
            refine xx_lconst (v := lN 1) (pc := 189) dX12_holds_189 rfl ?_
            refine xx_landN (pc := 190) dX12_holds_190 ?_
            refine xx_lstore (L' := [(7, .long (lN (t &&& 1))), (6, .int (nI (w 115 (128 + 3 * k)))), (5, .int (nI k)), (3, .long (lN t)), (0, ic_pt E 114), (1, .int (nI r)), (2, .int (nI o))]) (pc := 191) dX12_holds_191 (Nat.le_of_ble_eq_true rfl) rfl ?_
            refine xx_lload_n (pc := 193) dX12_holds_193 3 rfl rfl ?_
            refine xx_ldc2 (v := 2) (pc := 194) dX12_holds_194 oX12_99 ?_
            refine xx_eqL (y := lN 2) (by decide +kernel) ?_
            refine xx_ldivN (pc := 197) dX12_holds_197 (by omega) (by omega) (by omega) ?_
            refine xx_lstore_n (L' := [(3, .long (lN (t / 2))), (7, .long (lN (t &&& 1))), (6, .int (nI (w 115 (128 + 3 * k)))), (5, .int (nI k)), (0, ic_pt E 114), (1, .int (nI r)), (2, .int (nI o))]) (pc := 198) dX12_holds_198 rfl (Nat.le_of_ble_eq_true rfl) rfl ?_
            refine xx_iload (pc := 199) dX12_holds_199 2 rfl ?_
            refine xx_iconst (pc := 201) dX12_holds_201 cc_iconst_4 ?_
            refine xx_icmp_eqN (pc := 202) 212 dX12_holds_202 rfl (by omega) (by omega) (fun c5 => ?_) (fun c5 => ?_)
            · refine xx_lload (pc := 212) dX12_holds_212 1 rfl ?_
              refine xx_lconst (v := lN 1) (pc := 214) dX12_holds_214 rfl ?_
              refine xx_lcmpN (pc := 215) dX12_holds_215 (by have := Nat.and_le_right (n := t) (m := 1); omega) (by omega) ?_
              refine xx_if_neN (pc := 216) 223 dX12_holds_216 rfl (by have := lgc_lt (t &&& 1) 1; omega) (fun c6 => ?_) (fun c6 => ?_)
              · refine xx_lload_n (pc := 223) dX12_holds_223 0 rfl rfl ?_
                refine xx_ldc2 (v := (-2)) (pc := 224) dX12_holds_224 oX12_101 ?_
                refine xx_eqL (y := lN 18446744073709551614) (by decide +kernel) ?_
                refine xx_landN (pc := 227) dX12_holds_227 ?_
                refine xx_lstore_n (L' := [(3, .long (lN ((t / 2) &&& 18446744073709551614))), (7, .long (lN (t &&& 1))), (6, .int (nI (w 115 (128 + 3 * k)))), (5, .int (nI k)), (0, ic_pt E 114), (1, .int (nI r)), (2, .int (nI o))]) (pc := 228) dX12_holds_228 rfl (Nat.le_of_ble_eq_true rfl) rfl ?_
                refine xx_iincN (L' := [(5, .int (nI (k + 1))), (3, .long (lN ((t / 2) &&& 18446744073709551614))), (7, .long (lN (t &&& 1))), (6, .int (nI (w 115 (128 + 3 * k)))), (0, ic_pt E 114), (1, .int (nI r)), (2, .int (nI o))]) (pc := 229) dX12_holds_229 3 rfl cc_iconst_1 (Nat.le_of_ble_eq_true rfl) rfl ?_
                refine xx_goto (pc := 232) 17 dX12_holds_232 rfl ?_
                exact xx_sub [0, 1, 4, 5, 6] rfl (ih_ (k + 1) _ (by omega) (by omega) (by rw [show k + 1 - w 115 (74 + 4 * r) = (k - w 115 (74 + 4 * r)) + 1 by omega, mo_tr, ← hq, show w 115 (74 + 4 * r) + (k - w 115 (74 + 4 * r)) = k by omega]; rw [mo_st, if_neg (by omega), if_neg (by omega), if_pos (by omega), if_neg (fun z => absurd (lgc_0.mpr z) (by assumption))]) (by omega))
              · refine xx_lload_n (pc := 219) dX12_holds_219 0 rfl rfl ?_
                refine xx_goto (pc := 220) 228 dX12_holds_220 rfl ?_
                refine xx_lstore_n (L' := [(3, .long (lN (t / 2))), (7, .long (lN (t &&& 1))), (6, .int (nI (w 115 (128 + 3 * k)))), (5, .int (nI k)), (0, ic_pt E 114), (1, .int (nI r)), (2, .int (nI o))]) (pc := 228) dX12_holds_228 rfl (Nat.le_of_ble_eq_true rfl) rfl ?_
                refine xx_iincN (L' := [(5, .int (nI (k + 1))), (3, .long (lN (t / 2))), (7, .long (lN (t &&& 1))), (6, .int (nI (w 115 (128 + 3 * k)))), (0, ic_pt E 114), (1, .int (nI r)), (2, .int (nI o))]) (pc := 229) dX12_holds_229 3 rfl cc_iconst_1 (Nat.le_of_ble_eq_true rfl) rfl ?_
                refine xx_goto (pc := 232) 17 dX12_holds_232 rfl ?_
                exact xx_sub [0, 1, 4, 5, 6] rfl (ih_ (k + 1) _ (by omega) (by omega) (by rw [show k + 1 - w 115 (74 + 4 * r) = (k - w 115 (74 + 4 * r)) + 1 by omega, mo_tr, ← hq, show w 115 (74 + 4 * r) + (k - w 115 (74 + 4 * r)) = k by omega]; rw [mo_st, if_neg (by omega), if_neg (by omega), if_pos (by omega), if_pos (lgc_0.mp (by assumption))]) (by omega))
            · refine xx_lload_n (pc := 205) dX12_holds_205 0 rfl rfl ?_
              refine xx_lload (pc := 206) dX12_holds_206 1 rfl ?_
              refine xx_lorN (pc := 208) dX12_holds_208 ?_
              refine xx_goto (pc := 209) 228 dX12_holds_209 rfl ?_
              refine xx_lstore_n (L' := [(3, .long (lN ((t / 2) ||| (t &&& 1)))), (7, .long (lN (t &&& 1))), (6, .int (nI (w 115 (128 + 3 * k)))), (5, .int (nI k)), (0, ic_pt E 114), (1, .int (nI r)), (2, .int (nI o))]) (pc := 228) dX12_holds_228 rfl (Nat.le_of_ble_eq_true rfl) rfl ?_
              refine xx_iincN (L' := [(5, .int (nI (k + 1))), (3, .long (lN ((t / 2) ||| (t &&& 1)))), (7, .long (lN (t &&& 1))), (6, .int (nI (w 115 (128 + 3 * k)))), (0, ic_pt E 114), (1, .int (nI r)), (2, .int (nI o))]) (pc := 229) dX12_holds_229 3 rfl cc_iconst_1 (Nat.le_of_ble_eq_true rfl) rfl ?_
              refine xx_goto (pc := 232) 17 dX12_holds_232 rfl ?_
              exact xx_sub [0, 1, 4, 5, 6] rfl (ih_ (k + 1) _ (by omega) (by omega) (by rw [show k + 1 - w 115 (74 + 4 * r) = (k - w 115 (74 + 4 * r)) + 1 by omega, mo_tr, ← hq, show w 115 (74 + 4 * r) + (k - w 115 (74 + 4 * r)) = k by omega]; rw [mo_st, if_neg (by omega), if_neg (by omega), if_neg (by omega)]) (by omega))
          · refine xx_lload_n (pc := 181) dX12_holds_181 2 rfl rfl ?_
            refine xx_lconst (v := lN 1) (pc := 182) dX12_holds_182 rfl ?_
            refine xx_lxorN (pc := 183) dX12_holds_183 ?_
            refine xx_lstore_n (L' := [(3, .long (lN (t ^^^ 1))), (6, .int (nI (w 115 (128 + 3 * k)))), (5, .int (nI k)), (0, ic_pt E 114), (1, .int (nI r)), (2, .int (nI o))]) (pc := 184) dX12_holds_184 rfl (Nat.le_of_ble_eq_true rfl) rfl ?_
            refine xx_goto (pc := 185) 229 dX12_holds_185 rfl ?_
            refine xx_iincN (L' := [(5, .int (nI (k + 1))), (3, .long (lN (t ^^^ 1))), (6, .int (nI (w 115 (128 + 3 * k)))), (0, ic_pt E 114), (1, .int (nI r)), (2, .int (nI o))]) (pc := 229) dX12_holds_229 2 rfl cc_iconst_1 (Nat.le_of_ble_eq_true rfl) rfl ?_
            refine xx_goto (pc := 232) 17 dX12_holds_232 rfl ?_
            exact xx_sub [0, 1, 3, 4, 5] rfl (ih_ (k + 1) _ (by omega) (by omega) (by rw [show k + 1 - w 115 (74 + 4 * r) = (k - w 115 (74 + 4 * r)) + 1 by omega, mo_tr, ← hq, show w 115 (74 + 4 * r) + (k - w 115 (74 + 4 * r)) = k by omega]; rw [mo_st, if_neg (by omega), if_pos (by omega)]) (by omega))
        · refine xx_aload_nP (pc := 56) dX12_holds_56 3 rfl rfl ?_
          refine xx_aload_nP (pc := 57) dX12_holds_57 3 rfl rfl ?_
          refine xx_getR (pc := 58) 115 dX12_holds_58 sh_114 fX12_7_12 rfl rfl (by decide) ?_
          refine xx_sipush (pc := 61) dX12_holds_61 cc_sipush_128 ?_
          refine xx_iconst (pc := 64) dX12_holds_64 cc_iconst_3 ?_
          refine xx_iload (pc := 65) dX12_holds_65 1 rfl ?_
          refine xx_imulN (pc := 67) dX12_holds_67 ?_
          refine xx_iaddN (pc := 68) dX12_holds_68 ?_
          refine xx_iconst (pc := 69) dX12_holds_69 cc_iconst_1 ?_
          refine xx_iaddN (pc := 70) dX12_holds_70 ?_
          refine xx_ialdE (j2 := 129 + 3 * k) (pc := 71) dX12_holds_71 sh_115 (by omega) (by omega) (by decide) ?_
          refine xx_iload_n (pc := 72) dX12_holds_72 5 rfl rfl ?_
          refine xx_callV0 (pc := 73) (st := []) sh_114 (cM_valueOf (w := w) (v := w 115 (129 + 3 * k)) (o := o) (by omega) (by omega) hI) kX12_valueOf vX12_96_12 dX12_holds_73 rfl rfl (Nat.le_of_ble_eq_true rfl) ⟨Nat.le_of_ble_eq_true rfl, Nat.le_of_ble_eq_true rfl⟩ ⟨Nat.zero_le _, Nat.zero_le _⟩ (ic_ke ?_)
          refine xx_istore (L' := [(7, .int (nI (mo_val (w 115) (w 115 (129 + 3 * k)) o))), (6, .int (nI (w 115 (128 + 3 * k)))), (5, .int (nI k)), (3, .long (lN t)), (0, ic_pt E 114), (1, .int (nI r)), (2, .int (nI o))]) (pc := 76) dX12_holds_76 (Nat.le_of_ble_eq_true rfl) rfl ?_
          refine xx_aload_nP (pc := 78) dX12_holds_78 4 rfl rfl ?_
          refine xx_aload_nP (pc := 79) dX12_holds_79 4 rfl rfl ?_
          refine xx_getR (pc := 80) 115 dX12_holds_80 sh_114 fX12_7_12 rfl rfl (by decide) ?_
          refine xx_sipush (pc := 83) dX12_holds_83 cc_sipush_128 ?_
          refine xx_iconst (pc := 86) dX12_holds_86 cc_iconst_3 ?_
          refine xx_iload (pc := 87) dX12_holds_87 2 rfl ?_
          refine xx_imulN (pc := 89) dX12_holds_89 ?_
          refine xx_iaddN (pc := 90) dX12_holds_90 ?_
          refine xx_iconst (pc := 91) dX12_holds_91 cc_iconst_2 ?_
          refine xx_iaddN (pc := 92) dX12_holds_92 ?_
          refine xx_ialdE (j2 := 130 + 3 * k) (pc := 93) dX12_holds_93 sh_115 (by omega) (by omega) (by decide) ?_
          refine xx_iload_n (pc := 94) dX12_holds_94 6 rfl rfl ?_
          refine xx_callV0 (pc := 95) (st := []) sh_114 (cM_valueOf (w := w) (v := w 115 (130 + 3 * k)) (o := o) (by omega) (by omega) hI) kX12_valueOf vX12_96_12 dX12_holds_95 rfl rfl (Nat.le_of_ble_eq_true rfl) ⟨Nat.le_of_ble_eq_true rfl, Nat.le_of_ble_eq_true rfl⟩ ⟨Nat.zero_le _, Nat.zero_le _⟩ (ic_ke ?_)
          refine xx_istore (L' := [(8, .int (nI (mo_val (w 115) (w 115 (130 + 3 * k)) o))), (7, .int (nI (mo_val (w 115) (w 115 (129 + 3 * k)) o))), (6, .int (nI (w 115 (128 + 3 * k)))), (5, .int (nI k)), (3, .long (lN t)), (0, ic_pt E 114), (1, .int (nI r)), (2, .int (nI o))]) (pc := 98) dX12_holds_98 (Nat.le_of_ble_eq_true rfl) rfl ?_
          refine xx_iload (pc := 100) dX12_holds_100 2 rfl ?_
          refine xx_if_neN (pc := 102) 120 dX12_holds_102 rfl (by omega) (fun c7 => ?_) (fun c7 => ?_)
          · refine xx_iload (pc := 120) dX12_holds_120 2 rfl ?_
            refine xx_iconst (pc := 122) dX12_holds_122 cc_iconst_1 ?_
            refine xx_icmp_neN (pc := 123) 141 dX12_holds_123 rfl (by omega) (by omega) (fun c8 => ?_) (fun c8 => ?_)
            · refine xx_iload (pc := 141) dX12_holds_141 1 rfl ?_
              refine xx_iload (pc := 143) dX12_holds_143 0 rfl ?_
              refine xx_icmp_leN (pc := 145) 152 dX12_holds_145 rfl (by omega) (by omega) (fun c9 => ?_) (fun c9 => ?_)
              · refine xx_iconst (pc := 152) dX12_holds_152 cc_iconst_0 ?_
                refine xx_istore (L' := [(9, .int (nI 0)), (8, .int (nI (mo_val (w 115) (w 115 (130 + 3 * k)) o))), (7, .int (nI (mo_val (w 115) (w 115 (129 + 3 * k)) o))), (6, .int (nI (w 115 (128 + 3 * k)))), (5, .int (nI k)), (3, .long (lN t)), (0, ic_pt E 114), (1, .int (nI r)), (2, .int (nI o))]) (pc := 153) dX12_holds_153 (Nat.le_of_ble_eq_true rfl) rfl ?_
                refine xx_ldc2 (v := 2) (pc := 155) dX12_holds_155 oX12_99 ?_
                refine xx_eqL (y := lN 2) (by decide +kernel) ?_
                refine xx_lload_n (pc := 158) dX12_holds_158 5 rfl rfl ?_
                refine xx_lmulN (pc := 159) dX12_holds_159 ?_
                refine xx_iload (pc := 160) dX12_holds_160 0 rfl ?_
                refine xx_if_eqN (pc := 162) 169 dX12_holds_162 rfl (by omega) (fun c10 => ?_) (fun c10 => by exfalso; omega)
                refine xx_lconst (v := lN 0) (pc := 169) dX12_holds_169 rfl ?_
                refine xx_laddN (pc := 170) dX12_holds_170 ?_
                refine xx_lstore_n (L' := [(3, .long (lN ((2 * t) + 0))), (9, .int (nI 0)), (8, .int (nI (mo_val (w 115) (w 115 (130 + 3 * k)) o))), (7, .int (nI (mo_val (w 115) (w 115 (129 + 3 * k)) o))), (6, .int (nI (w 115 (128 + 3 * k)))), (5, .int (nI k)), (0, ic_pt E 114), (1, .int (nI r)), (2, .int (nI o))]) (pc := 171) dX12_holds_171 rfl (Nat.le_of_ble_eq_true rfl) rfl ?_
                refine xx_goto (pc := 172) 229 dX12_holds_172 rfl ?_
                refine xx_iincN (L' := [(5, .int (nI (k + 1))), (3, .long (lN ((2 * t) + 0))), (9, .int (nI 0)), (8, .int (nI (mo_val (w 115) (w 115 (130 + 3 * k)) o))), (7, .int (nI (mo_val (w 115) (w 115 (129 + 3 * k)) o))), (6, .int (nI (w 115 (128 + 3 * k)))), (0, ic_pt E 114), (1, .int (nI r)), (2, .int (nI o))]) (pc := 229) dX12_holds_229 5 rfl cc_iconst_1 (Nat.le_of_ble_eq_true rfl) rfl ?_
                refine xx_goto (pc := 232) 17 dX12_holds_232 rfl ?_
                exact xx_sub [0, 1, 6, 7, 8] rfl (ih_ (k + 1) _ (by omega) (by omega) (by rw [show k + 1 - w 115 (74 + 4 * r) = (k - w 115 (74 + 4 * r)) + 1 by omega, mo_tr, ← hq, show w 115 (74 + 4 * r) + (k - w 115 (74 + 4 * r)) = k by omega]; unfold mo_st mo_cmp; simp [*]) (by omega))
              · refine xx_iconst (pc := 148) dX12_holds_148 cc_iconst_1 ?_
                refine xx_goto (pc := 149) 153 dX12_holds_149 rfl ?_
                refine xx_istore (L' := [(9, .int (nI 1)), (8, .int (nI (mo_val (w 115) (w 115 (130 + 3 * k)) o))), (7, .int (nI (mo_val (w 115) (w 115 (129 + 3 * k)) o))), (6, .int (nI (w 115 (128 + 3 * k)))), (5, .int (nI k)), (3, .long (lN t)), (0, ic_pt E 114), (1, .int (nI r)), (2, .int (nI o))]) (pc := 153) dX12_holds_153 (Nat.le_of_ble_eq_true rfl) rfl ?_
                refine xx_ldc2 (v := 2) (pc := 155) dX12_holds_155 oX12_99 ?_
                refine xx_eqL (y := lN 2) (by decide +kernel) ?_
                refine xx_lload_n (pc := 158) dX12_holds_158 5 rfl rfl ?_
                refine xx_lmulN (pc := 159) dX12_holds_159 ?_
                refine xx_iload (pc := 160) dX12_holds_160 0 rfl ?_
                refine xx_if_eqN (pc := 162) 169 dX12_holds_162 rfl (by omega) (fun c11 => by exfalso; omega) (fun c11 => ?_)
                refine xx_lconst (v := lN 1) (pc := 165) dX12_holds_165 rfl ?_
                refine xx_goto (pc := 166) 170 dX12_holds_166 rfl ?_
                refine xx_laddN (pc := 170) dX12_holds_170 ?_
                refine xx_lstore_n (L' := [(3, .long (lN ((2 * t) + 1))), (9, .int (nI 1)), (8, .int (nI (mo_val (w 115) (w 115 (130 + 3 * k)) o))), (7, .int (nI (mo_val (w 115) (w 115 (129 + 3 * k)) o))), (6, .int (nI (w 115 (128 + 3 * k)))), (5, .int (nI k)), (0, ic_pt E 114), (1, .int (nI r)), (2, .int (nI o))]) (pc := 171) dX12_holds_171 rfl (Nat.le_of_ble_eq_true rfl) rfl ?_
                refine xx_goto (pc := 172) 229 dX12_holds_172 rfl ?_
                refine xx_iincN (L' := [(5, .int (nI (k + 1))), (3, .long (lN ((2 * t) + 1))), (9, .int (nI 1)), (8, .int (nI (mo_val (w 115) (w 115 (130 + 3 * k)) o))), (7, .int (nI (mo_val (w 115) (w 115 (129 + 3 * k)) o))), (6, .int (nI (w 115 (128 + 3 * k)))), (0, ic_pt E 114), (1, .int (nI r)), (2, .int (nI o))]) (pc := 229) dX12_holds_229 5 rfl cc_iconst_1 (Nat.le_of_ble_eq_true rfl) rfl ?_
                refine xx_goto (pc := 232) 17 dX12_holds_232 rfl ?_
                exact xx_sub [0, 1, 6, 7, 8] rfl (ih_ (k + 1) _ (by omega) (by omega) (by rw [show k + 1 - w 115 (74 + 4 * r) = (k - w 115 (74 + 4 * r)) + 1 by omega, mo_tr, ← hq, show w 115 (74 + 4 * r) + (k - w 115 (74 + 4 * r)) = k by omega]; unfold mo_st mo_cmp; simp [*]) (by omega))
            · refine xx_iload (pc := 126) dX12_holds_126 1 rfl ?_
              refine xx_iload (pc := 128) dX12_holds_128 0 rfl ?_
              refine xx_icmp_neN (pc := 130) 137 dX12_holds_130 rfl (by omega) (by omega) (fun c12 => ?_) (fun c12 => ?_)
              · refine xx_iconst (pc := 137) dX12_holds_137 cc_iconst_0 ?_
                refine xx_goto (pc := 138) 153 dX12_holds_138 rfl ?_
                refine xx_istore (L' := [(9, .int (nI 0)), (8, .int (nI (mo_val (w 115) (w 115 (130 + 3 * k)) o))), (7, .int (nI (mo_val (w 115) (w 115 (129 + 3 * k)) o))), (6, .int (nI (w 115 (128 + 3 * k)))), (5, .int (nI k)), (3, .long (lN t)), (0, ic_pt E 114), (1, .int (nI r)), (2, .int (nI o))]) (pc := 153) dX12_holds_153 (Nat.le_of_ble_eq_true rfl) rfl ?_
                refine xx_ldc2 (v := 2) (pc := 155) dX12_holds_155 oX12_99 ?_
                refine xx_eqL (y := lN 2) (by decide +kernel) ?_
                refine xx_lload_n (pc := 158) dX12_holds_158 5 rfl rfl ?_
                refine xx_lmulN (pc := 159) dX12_holds_159 ?_
                refine xx_iload (pc := 160) dX12_holds_160 0 rfl ?_
                refine xx_if_eqN (pc := 162) 169 dX12_holds_162 rfl (by omega) (fun c13 => ?_) (fun c13 => by exfalso; omega)
                refine xx_lconst (v := lN 0) (pc := 169) dX12_holds_169 rfl ?_
                refine xx_laddN (pc := 170) dX12_holds_170 ?_
                refine xx_lstore_n (L' := [(3, .long (lN ((2 * t) + 0))), (9, .int (nI 0)), (8, .int (nI (mo_val (w 115) (w 115 (130 + 3 * k)) o))), (7, .int (nI (mo_val (w 115) (w 115 (129 + 3 * k)) o))), (6, .int (nI (w 115 (128 + 3 * k)))), (5, .int (nI k)), (0, ic_pt E 114), (1, .int (nI r)), (2, .int (nI o))]) (pc := 171) dX12_holds_171 rfl (Nat.le_of_ble_eq_true rfl) rfl ?_
                refine xx_goto (pc := 172) 229 dX12_holds_172 rfl ?_
                refine xx_iincN (L' := [(5, .int (nI (k + 1))), (3, .long (lN ((2 * t) + 0))), (9, .int (nI 0)), (8, .int (nI (mo_val (w 115) (w 115 (130 + 3 * k)) o))), (7, .int (nI (mo_val (w 115) (w 115 (129 + 3 * k)) o))), (6, .int (nI (w 115 (128 + 3 * k)))), (0, ic_pt E 114), (1, .int (nI r)), (2, .int (nI o))]) (pc := 229) dX12_holds_229 5 rfl cc_iconst_1 (Nat.le_of_ble_eq_true rfl) rfl ?_
                refine xx_goto (pc := 232) 17 dX12_holds_232 rfl ?_
                exact xx_sub [0, 1, 6, 7, 8] rfl (ih_ (k + 1) _ (by omega) (by omega) (by rw [show k + 1 - w 115 (74 + 4 * r) = (k - w 115 (74 + 4 * r)) + 1 by omega, mo_tr, ← hq, show w 115 (74 + 4 * r) + (k - w 115 (74 + 4 * r)) = k by omega]; unfold mo_st mo_cmp; simp [*]) (by omega))
              · refine xx_iconst (pc := 133) dX12_holds_133 cc_iconst_1 ?_
                refine xx_goto (pc := 134) 153 dX12_holds_134 rfl ?_
                refine xx_istore (L' := [(9, .int (nI 1)), (8, .int (nI (mo_val (w 115) (w 115 (130 + 3 * k)) o))), (7, .int (nI (mo_val (w 115) (w 115 (129 + 3 * k)) o))), (6, .int (nI (w 115 (128 + 3 * k)))), (5, .int (nI k)), (3, .long (lN t)), (0, ic_pt E 114), (1, .int (nI r)), (2, .int (nI o))]) (pc := 153) dX12_holds_153 (Nat.le_of_ble_eq_true rfl) rfl ?_
                refine xx_ldc2 (v := 2) (pc := 155) dX12_holds_155 oX12_99 ?_
                refine xx_eqL (y := lN 2) (by decide +kernel) ?_
                refine xx_lload_n (pc := 158) dX12_holds_158 5 rfl rfl ?_
                refine xx_lmulN (pc := 159) dX12_holds_159 ?_
                refine xx_iload (pc := 160) dX12_holds_160 0 rfl ?_
                refine xx_if_eqN (pc := 162) 169 dX12_holds_162 rfl (by omega) (fun c14 => by exfalso; omega) (fun c14 => ?_)
                refine xx_lconst (v := lN 1) (pc := 165) dX12_holds_165 rfl ?_
                refine xx_goto (pc := 166) 170 dX12_holds_166 rfl ?_
                refine xx_laddN (pc := 170) dX12_holds_170 ?_
                refine xx_lstore_n (L' := [(3, .long (lN ((2 * t) + 1))), (9, .int (nI 1)), (8, .int (nI (mo_val (w 115) (w 115 (130 + 3 * k)) o))), (7, .int (nI (mo_val (w 115) (w 115 (129 + 3 * k)) o))), (6, .int (nI (w 115 (128 + 3 * k)))), (5, .int (nI k)), (0, ic_pt E 114), (1, .int (nI r)), (2, .int (nI o))]) (pc := 171) dX12_holds_171 rfl (Nat.le_of_ble_eq_true rfl) rfl ?_
                refine xx_goto (pc := 172) 229 dX12_holds_172 rfl ?_
                refine xx_iincN (L' := [(5, .int (nI (k + 1))), (3, .long (lN ((2 * t) + 1))), (9, .int (nI 1)), (8, .int (nI (mo_val (w 115) (w 115 (130 + 3 * k)) o))), (7, .int (nI (mo_val (w 115) (w 115 (129 + 3 * k)) o))), (6, .int (nI (w 115 (128 + 3 * k)))), (0, ic_pt E 114), (1, .int (nI r)), (2, .int (nI o))]) (pc := 229) dX12_holds_229 5 rfl cc_iconst_1 (Nat.le_of_ble_eq_true rfl) rfl ?_
                refine xx_goto (pc := 232) 17 dX12_holds_232 rfl ?_
                exact xx_sub [0, 1, 6, 7, 8] rfl (ih_ (k + 1) _ (by omega) (by omega) (by rw [show k + 1 - w 115 (74 + 4 * r) = (k - w 115 (74 + 4 * r)) + 1 by omega, mo_tr, ← hq, show w 115 (74 + 4 * r) + (k - w 115 (74 + 4 * r)) = k by omega]; unfold mo_st mo_cmp; simp [*]) (by omega))
          · refine xx_iload (pc := 105) dX12_holds_105 1 rfl ?_
            refine xx_iload (pc := 107) dX12_holds_107 0 rfl ?_
            refine xx_icmp_geN (pc := 109) 116 dX12_holds_109 rfl (by omega) (by omega) (fun c15 => ?_) (fun c15 => ?_)
            · refine xx_iconst (pc := 116) dX12_holds_116 cc_iconst_0 ?_
              refine xx_goto (pc := 117) 153 dX12_holds_117 rfl ?_
              refine xx_istore (L' := [(9, .int (nI 0)), (8, .int (nI (mo_val (w 115) (w 115 (130 + 3 * k)) o))), (7, .int (nI (mo_val (w 115) (w 115 (129 + 3 * k)) o))), (6, .int (nI (w 115 (128 + 3 * k)))), (5, .int (nI k)), (3, .long (lN t)), (0, ic_pt E 114), (1, .int (nI r)), (2, .int (nI o))]) (pc := 153) dX12_holds_153 (Nat.le_of_ble_eq_true rfl) rfl ?_
              refine xx_ldc2 (v := 2) (pc := 155) dX12_holds_155 oX12_99 ?_
              refine xx_eqL (y := lN 2) (by decide +kernel) ?_
              refine xx_lload_n (pc := 158) dX12_holds_158 5 rfl rfl ?_
              refine xx_lmulN (pc := 159) dX12_holds_159 ?_
              refine xx_iload (pc := 160) dX12_holds_160 0 rfl ?_
              refine xx_if_eqN (pc := 162) 169 dX12_holds_162 rfl (by omega) (fun c16 => ?_) (fun c16 => by exfalso; omega)
              refine xx_lconst (v := lN 0) (pc := 169) dX12_holds_169 rfl ?_
              refine xx_laddN (pc := 170) dX12_holds_170 ?_
              refine xx_lstore_n (L' := [(3, .long (lN ((2 * t) + 0))), (9, .int (nI 0)), (8, .int (nI (mo_val (w 115) (w 115 (130 + 3 * k)) o))), (7, .int (nI (mo_val (w 115) (w 115 (129 + 3 * k)) o))), (6, .int (nI (w 115 (128 + 3 * k)))), (5, .int (nI k)), (0, ic_pt E 114), (1, .int (nI r)), (2, .int (nI o))]) (pc := 171) dX12_holds_171 rfl (Nat.le_of_ble_eq_true rfl) rfl ?_
              refine xx_goto (pc := 172) 229 dX12_holds_172 rfl ?_
              refine xx_iincN (L' := [(5, .int (nI (k + 1))), (3, .long (lN ((2 * t) + 0))), (9, .int (nI 0)), (8, .int (nI (mo_val (w 115) (w 115 (130 + 3 * k)) o))), (7, .int (nI (mo_val (w 115) (w 115 (129 + 3 * k)) o))), (6, .int (nI (w 115 (128 + 3 * k)))), (0, ic_pt E 114), (1, .int (nI r)), (2, .int (nI o))]) (pc := 229) dX12_holds_229 5 rfl cc_iconst_1 (Nat.le_of_ble_eq_true rfl) rfl ?_
              refine xx_goto (pc := 232) 17 dX12_holds_232 rfl ?_
              exact xx_sub [0, 1, 6, 7, 8] rfl (ih_ (k + 1) _ (by omega) (by omega) (by rw [show k + 1 - w 115 (74 + 4 * r) = (k - w 115 (74 + 4 * r)) + 1 by omega, mo_tr, ← hq, show w 115 (74 + 4 * r) + (k - w 115 (74 + 4 * r)) = k by omega]; unfold mo_st mo_cmp; simp [*]) (by omega))
            · refine xx_iconst (pc := 112) dX12_holds_112 cc_iconst_1 ?_
              refine xx_goto (pc := 113) 153 dX12_holds_113 rfl ?_
              refine xx_istore (L' := [(9, .int (nI 1)), (8, .int (nI (mo_val (w 115) (w 115 (130 + 3 * k)) o))), (7, .int (nI (mo_val (w 115) (w 115 (129 + 3 * k)) o))), (6, .int (nI (w 115 (128 + 3 * k)))), (5, .int (nI k)), (3, .long (lN t)), (0, ic_pt E 114), (1, .int (nI r)), (2, .int (nI o))]) (pc := 153) dX12_holds_153 (Nat.le_of_ble_eq_true rfl) rfl ?_
              refine xx_ldc2 (v := 2) (pc := 155) dX12_holds_155 oX12_99 ?_
              refine xx_eqL (y := lN 2) (by decide +kernel) ?_
              refine xx_lload_n (pc := 158) dX12_holds_158 5 rfl rfl ?_
              refine xx_lmulN (pc := 159) dX12_holds_159 ?_
              refine xx_iload (pc := 160) dX12_holds_160 0 rfl ?_
              refine xx_if_eqN (pc := 162) 169 dX12_holds_162 rfl (by omega) (fun c17 => by exfalso; omega) (fun c17 => ?_)
              refine xx_lconst (v := lN 1) (pc := 165) dX12_holds_165 rfl ?_
              refine xx_goto (pc := 166) 170 dX12_holds_166 rfl ?_
              refine xx_laddN (pc := 170) dX12_holds_170 ?_
              refine xx_lstore_n (L' := [(3, .long (lN ((2 * t) + 1))), (9, .int (nI 1)), (8, .int (nI (mo_val (w 115) (w 115 (130 + 3 * k)) o))), (7, .int (nI (mo_val (w 115) (w 115 (129 + 3 * k)) o))), (6, .int (nI (w 115 (128 + 3 * k)))), (5, .int (nI k)), (0, ic_pt E 114), (1, .int (nI r)), (2, .int (nI o))]) (pc := 171) dX12_holds_171 rfl (Nat.le_of_ble_eq_true rfl) rfl ?_
              refine xx_goto (pc := 172) 229 dX12_holds_172 rfl ?_
              refine xx_iincN (L' := [(5, .int (nI (k + 1))), (3, .long (lN ((2 * t) + 1))), (9, .int (nI 1)), (8, .int (nI (mo_val (w 115) (w 115 (130 + 3 * k)) o))), (7, .int (nI (mo_val (w 115) (w 115 (129 + 3 * k)) o))), (6, .int (nI (w 115 (128 + 3 * k)))), (0, ic_pt E 114), (1, .int (nI r)), (2, .int (nI o))]) (pc := 229) dX12_holds_229 5 rfl cc_iconst_1 (Nat.le_of_ble_eq_true rfl) rfl ?_
              refine xx_goto (pc := 232) 17 dX12_holds_232 rfl ?_
              exact xx_sub [0, 1, 6, 7, 8] rfl (ih_ (k + 1) _ (by omega) (by omega) (by rw [show k + 1 - w 115 (74 + 4 * r) = (k - w 115 (74 + 4 * r)) + 1 by omega, mo_tr, ← hq, show w 115 (74 + 4 * r) + (k - w 115 (74 + 4 * r)) = k by omega]; unfold mo_st mo_cmp; simp [*]) (by omega))
  refine xx_lconst (v := lN 1) (pc := 0) dX12_holds_0 rfl ?_
  refine xx_lstore_n (L' := [(3, .long (lN 1)), (0, ic_pt E 114), (1, .int (nI r)), (2, .int (nI o))]) (pc := 1) dX12_holds_1 rfl (Nat.le_of_ble_eq_true rfl) rfl ?_
  refine xx_aload_nP (pc := 2) dX12_holds_2 1 rfl rfl ?_
  refine xx_getR (pc := 3) 115 dX12_holds_3 sh_114 fX12_7_12 rfl rfl (by decide) ?_
  refine xx_bipush (pc := 6) dX12_holds_6 cc_bipush_72 ?_
  refine xx_iconst (pc := 8) dX12_holds_8 cc_iconst_4 ?_
  refine xx_iload_n (pc := 9) dX12_holds_9 2 rfl rfl ?_
  refine xx_imulN (pc := 10) dX12_holds_10 ?_
  refine xx_iaddN (pc := 11) dX12_holds_11 ?_
  refine xx_iconst (pc := 12) dX12_holds_12 cc_iconst_2 ?_
  refine xx_iaddN (pc := 13) dX12_holds_13 ?_
  refine xx_ialdE (j2 := 74 + 4 * r) (pc := 14) dX12_holds_14 sh_115 (by omega) (by omega) (by decide) ?_
  refine xx_istore (L' := [(5, .int (nI (w 115 (74 + 4 * r)))), (3, .long (lN 1)), (0, ic_pt E 114), (1, .int (nI r)), (2, .int (nI o))]) (pc := 15) dX12_holds_15 (Nat.le_of_ble_eq_true rfl) rfl ?_
  exact xx_sub [0, 1, 2, 3, 4] rfl (lp (w 115 (75 + 4 * r) + 1) (w 115 (74 + 4 * r)) 1 (by omega) (by omega) (by rw [Nat.sub_self]; rfl) (by omega))

