/-! the class: reach, carriages, times -/
theorem tr_eq : ∀ a, a < 64 → ∀ b, b < 4 → (a * 2 ^ (b % 6) ||| a / 2 ^ (6 - b % 6)) &&& 63 = mo_mv a b := by decide +kernel
def mo_cs (s : Nat → Nat) (k : Nat) : Nat := mo_set (fun q => mo_close s k q) (s 0)
theorem mo_cq_e (s : Nat → Nat) (p set : Nat) : ∀ n, mo_cq s p set n = if set / 2 ^ p % 2 = 1 then set ||| mo_set (fun q => mo_close s p q) n else set
  | 0 => by
    rw [mo_cq, mo_set, Nat.or_zero]
    split <;> rfl
  | n + 1 => by
    rw [mo_cq, mo_cq_e s p set n, mo_and1]
    by_cases h : set / 2 ^ p % 2 = 1
    · rw [if_pos h, if_pos h]
      have hb : (set ||| mo_set (fun q => mo_close s p q) n) / 2 ^ p % 2 = 1 := by
        have h1 : set.testBit p = true := by rw [Nat.testBit_eq_decide_div_mod_eq]; exact decide_eq_true h
        have h2 : (set ||| mo_set (fun q => mo_close s p q) n).testBit p = true := by rw [Nat.testBit_or, h1]; rfl
        rw [Nat.testBit_eq_decide_div_mod_eq] at h2
        exact of_decide_eq_true h2
      by_cases z : mo_close s p n = true
      · rw [if_pos ⟨hb, z⟩, mo_set_t z, Nat.or_assoc]
      · rw [if_neg (fun q => z q.2), mo_set_f (by simpa using z)]
    · rw [if_neg h, if_neg h, if_neg (fun q => h q.1)]
theorem mo_cq_2 {s : Nat → Nat} {p set n : Nat} (h : set < 2 ^ n) : mo_cq s p set n < 2 ^ n := by
  rw [mo_cq_e]
  split
  · exact Nat.or_lt_two_pow h (mo_set_lt _ _)
  · exact h
theorem mo_cr_2 {s : Nat → Nat} {set : Nat} (h : set < 2 ^ s 0) : ∀ n, mo_cr s set n < 2 ^ s 0
  | 0 => h
  | n + 1 => mo_cq_2 (mo_cr_2 h n)
theorem mo_cq_x (s : Nat → Nat) (p set n : Nat) : set ||| mo_cq s p set n = mo_cq s p set n := by
  rw [mo_cq_e]
  split
  · rw [← Nat.or_assoc, Nat.or_self]
  · rw [Nat.or_self]
theorem mo_cr_x (s : Nat → Nat) (set : Nat) : ∀ n, set ||| mo_cr s set n = mo_cr s set n
  | 0 => Nat.or_self _
  | n + 1 => by
    rw [mo_cr, ← mo_cq_x, ← Nat.or_assoc, mo_cr_x s set n]
def mo_pop (x : Nat) : Nat := x % 2 + x / 2 % 2 + x / 4 % 2 + x / 8 % 2 + x / 16 % 2 + x / 32 % 2
theorem pop_lt : ∀ x, x < 64 → ∀ y, y < 64 → x ||| y = y → x = y ∨ mo_pop x < mo_pop y := by decide +kernel
theorem pop_le : ∀ n, n < 7 → ∀ x, x < 64 → x < 2 ^ n → mo_pop x ≤ n := by decide +kernel
theorem pop_1 : ∀ k, k < 6 → mo_pop (2 ^ k) = 1 := by decide +kernel
theorem mo_ck_2 {s : Nat → Nat} {set : Nat} (h : set < 2 ^ s 0) : ∀ n, mo_ck s set n < 2 ^ s 0
  | 0 => h
  | n + 1 => mo_cr_2 (mo_ck_2 h n) _
theorem mo_ck_st {s : Nat → Nat} {set r : Nat} (h : mo_ck s set (r + 1) = mo_ck s set r) : ∀ n, mo_ck s set (r + n) = mo_ck s set r
  | 0 => rfl
  | n + 1 => by
    show mo_cr s (mo_ck s set (r + n)) (s 0) = _
    rw [mo_ck_st h n]
    exact h
theorem mo_ck_p {s : Nat → Nat} (h0 : s 0 ≤ 6) {set : Nat} (h : set < 2 ^ s 0) (h1 : 1 ≤ mo_pop set) : ∀ r, mo_ck s set (r + 1) = mo_ck s set r ∨ r + 1 ≤ mo_pop (mo_ck s set r)
  | 0 => Or.inr h1
  | r + 1 => by
    have l1 := mo_ck_2 h r
    have l2 := mo_ck_2 h (r + 1)
    have p6 : 2 ^ s 0 ≤ 64 := mo_p2 h0
    rcases pop_lt (mo_ck s set r) (by omega) (mo_ck s set (r + 1)) (by omega) (mo_cr_x s _ _) with e | e
    · left
      show mo_cr s (mo_ck s set (r + 1)) (s 0) = mo_ck s set (r + 1)
      rw [← e]
      exact e.symm
    · rcases mo_ck_p h0 h h1 r with g | g
      · rw [g] at e
        omega
      · right
        omega
theorem mo_ck_6 {s : Nat → Nat} (h0 : s 0 ≤ 6) {k : Nat} (hk : k < s 0) : mo_ck s (2 ^ k) (s 0) = mo_ck s (2 ^ k) 6 := by
  have h : 2 ^ k < 2 ^ s 0 := Nat.pow_lt_pow_right (by omega) hk
  have p6 : 2 ^ s 0 ≤ 64 := mo_p2 h0
  have l := mo_ck_2 h (s 0)
  rcases mo_ck_p h0 h (Nat.le_of_eq (pop_1 k (by omega)).symm) (s 0) with e | e
  · have := mo_ck_st e (6 - s 0)
    rw [show s 0 + (6 - s 0) = 6 by omega] at this
    exact this.symm
  · have := pop_le (s 0) (by omega) _ (by omega) l
    omega
/-- all in it are not OUT -/
def Ni (s : Nat → Nat) (x : Nat) : Prop := ∀ i, x / 2 ^ i % 2 = 1 → i < s 0 ∧ it s i 4 = 0
theorem Ni.or {s : Nat → Nat} {x p : Nat} (h : Ni s x) : Ni s (x ||| mo_cs s p) := by
  intro i hi
  have h2 : (x ||| mo_cs s p).testBit i = true := by rw [Nat.testBit_eq_decide_div_mod_eq]; exact decide_eq_true hi
  rw [Nat.testBit_or] at h2
  by_cases z : x.testBit i = true
  · rw [Nat.testBit_eq_decide_div_mod_eq] at z
    exact h i (of_decide_eq_true z)
  · have h3 : (mo_cs s p).testBit i = true := by simpa [z] using h2
    unfold mo_cs at h3
    rw [mo_set_tb] at h3
    simp [mo_close] at h3
    exact ⟨h3.1, h3.2.2.1⟩
theorem Ni.one {s : Nat → Nat} {k : Nat} (hk : k < s 0) (h : it s k 4 = 0) : Ni s (2 ^ k) := by
  intro i hi
  have h2 : (2 ^ k).testBit i = true := by rw [Nat.testBit_eq_decide_div_mod_eq]; exact decide_eq_true hi
  rw [Nat.testBit_two_pow] at h2
  have := of_decide_eq_true h2
  subst this
  exact ⟨hk, h⟩
theorem mo_cq_0 (s : Nat → Nat) (p n : Nat) : mo_cq s p 0 n = 0 := by
  rw [mo_cq_e, Nat.zero_div, if_neg (by omega)]
theorem mo_cr_0 (s : Nat → Nat) : ∀ n, mo_cr s 0 n = 0
  | 0 => rfl
  | n + 1 => by rw [mo_cr, mo_cr_0 s n, mo_cq_0]
theorem mo_ck_0 (s : Nat → Nat) : ∀ n, mo_ck s 0 n = 0
  | 0 => rfl
  | n + 1 => by rw [mo_ck, mo_ck_0 s n, mo_cr_0]
theorem cC_absD {l : Launch} {E : ic_E} {w : ic_w} {a b : Nat} (ha : a < 2 ^ 30) (hb : b < 2 ^ 30) : ic_C l E mJ9_abs_0f7a4 1 0 0 False [.int (nI (a + (4294967296 - b)))] SHs (hn w) SHs (ic_qe (nI ((a - b) + (b - a))) (hn w)) := by
  refine ic_introF (by decide +kernel) (Nat.le_of_ble_eq_true rfl) ?_
  show xx l E _ _ 0 [(0, .int (nI (a + (4294967296 - b))))] _ _ _
  refine xx_iload_n (pc := 0) dJ9_abs_0f7a4_0 0 rfl rfl ?_
  by_cases q : b ≤ a
  · rw [nI_neW q (by omega)]
    refine xx_if_geN (pc := 1) 9 dJ9_abs_0f7a4_1 rfl (by omega) (fun c1 => ?_) (fun c1 => c1.elim)
    refine xx_iload_n (pc := 9) dJ9_abs_0f7a4_9 0 rfl rfl ?_
    exact xx_iret (pc := 10) dJ9_abs_0f7a4_10 rfl (rfl) (Nat.le_refl _) (Nat.le_refl _) (ic_re (by omega))
  · refine xx_if_geS (pc := 1) 9 dJ9_abs_0f7a4_1 rfl (by omega) (fun c1 => ?_) (fun c1 => ?_)
    · exfalso
      omega
    · refine xx_iload_n (pc := 4) dJ9_abs_0f7a4_4 0 rfl rfl ?_
      refine xx_ineg (pc := 5) dJ9_abs_0f7a4_5 ?_
      refine xx_goto (pc := 6) 10 dJ9_abs_0f7a4_6 rfl ?_
      have e : -nI (a + (4294967296 - b)) = nI ((a - b) + (b - a)) := by
        have e1 : nI (a + (4294967296 - b)) + nI ((a - b) + (b - a)) = 0 := by
          rw [nI_add, show a + (4294967296 - b) + ((a - b) + (b - a)) = 2 ^ 32 by omega, ← nI_mod, Nat.mod_self, nI_0]
        have e2 : -nI (a + (4294967296 - b)) = -nI (a + (4294967296 - b)) + (nI (a + (4294967296 - b)) + nI ((a - b) + (b - a))) := by rw [e1, Int32.add_zero]
        rw [e2, ← Int32.add_assoc, Int32.add_left_neg, Int32.zero_add]
      rw [e]
      exact xx_iret (pc := 10) dJ9_abs_0f7a4_10 rfl (rfl) (Nat.le_refl _) (Nat.le_refl _) (ic_re rfl)
set_option maxHeartbeats 4000000 in
set_option maxRecDepth 100000 in
theorem cC_turned {l : Launch} {E : ic_E} {w : ic_w} {a b : Nat} (ha : a < 64) (hb : b < 4) : ic_C l E mX11_turned 2 0 0 False [.int (nI a), .int (nI b)] SHs (hn w) SHs (ic_qe (nI (mo_mv a b)) (hn w)) := by
  refine ic_intro (by decide +kernel) (Nat.le_of_ble_eq_true rfl) ?_
  show xx l E _ _ 0 [(0, .int (nI a)), (1, .int (nI b))] _ _ _
  have hb6 : b % 6 = b := Nat.mod_eq_of_lt (by omega)
  have hp8 : 2 ^ (b % 6) ≤ 8 := by rw [hb6]; exact Nat.le_trans (Nat.pow_le_pow_right (n := 2) (by omega) (show b ≤ 3 by omega)) (by decide)
  have hm8 : a * 2 ^ (b % 6) ≤ 63 * 8 := Nat.mul_le_mul (by omega) hp8
  refine xx_iload_n (pc := 0) dX11_turned_0 1 rfl rfl ?_
  refine xx_bipush (pc := 1) dX11_turned_1 cc_bipush_6 ?_
  refine xx_callS0 (pc := 3) (st := []) (cC_floorMod (w := w) (a := b) (by omega)) kJ9_floorMod_7cf53 sX11_397 dX11_turned_3 rfl rfl (Nat.le_of_ble_eq_true rfl) ⟨Nat.le_of_ble_eq_true rfl, Nat.le_of_ble_eq_true rfl⟩ ⟨Nat.zero_le _, Nat.zero_le _⟩ (ic_ke ?_)
  refine xx_istore_n (L' := [(2, .int (nI (b % 6))), (0, .int (nI a)), (1, .int (nI b))]) (pc := 6) dX11_turned_6 rfl (Nat.le_of_ble_eq_true rfl) rfl ?_
  refine xx_iload_n (pc := 7) dX11_turned_7 1 rfl rfl ?_
  refine xx_iload_n (pc := 8) dX11_turned_8 0 rfl rfl ?_
  refine xx_ishlN (pc := 9) dX11_turned_9 (by omega) (by omega) ?_
  refine xx_iload_n (pc := 10) dX11_turned_10 1 rfl rfl ?_
  refine xx_bipush (pc := 11) dX11_turned_11 cc_bipush_6 ?_
  refine xx_iload_n (pc := 13) dX11_turned_13 0 rfl rfl ?_
  refine xx_isubN (pc := 14) dX11_turned_14 (by omega) ?_
  refine xx_ishrN (pc := 15) dX11_turned_15 (by omega) (by omega) ?_
  refine xx_iorN (pc := 16) dX11_turned_16 ?_
  refine xx_bipush (pc := 17) dX11_turned_17 cc_bipush_63 ?_
  refine xx_iandN (pc := 19) dX11_turned_19 ?_
  exact xx_iret (pc := 20) dX11_turned_20 rfl (rfl) (Nat.le_refl _) (Nat.le_refl _) (ic_re (tr_eq a ha b hb))

set_option maxHeartbeats 4000000 in
set_option maxRecDepth 100000 in
theorem cC_reach {l : Launch} {E : ic_E} {w : ic_w} {k : Nat} (hk_ : k < 2 ^ 32) {f : Nat} (hf_ : f < 2 ^ 32) {s : Nat → Nat} (hC : Cw w s) (hIn : In s) : ic_C l E mX11_reach 5 0 0 False [ic_pt E 0, .int (nI k), .int (nI f)] SHs (hn w) SHs (ic_qe (nI (if k < s 0 ∧ f < 6 then mo_reach s k f else 4294967295)) (hn w)) := by
  refine ic_intro (by decide +kernel) (Nat.le_of_ble_eq_true rfl) ?_
  show xx l E _ _ 0 [(0, ic_pt E 0), (1, .int (nI k)), (2, .int (nI f))] _ _ _
  have hN := hC.1
  have hm := hC.2.1
  have n5_w := hC.2.2.1
  have n6_w := hC.2.2.2
  have hn0 := hIn.n
  have htt := hIn.t
  have hcr := hIn.cr (s 1)
  have n1_w : w 39 10 = s 0 := hN.n
  have n2_w : w 39 11 = s 2 := hN.e
  have n3_w : w 46 0 = s 1 := hm.t
  have n4_w : w 46 1 = mo_outs s := hm.o
  refine xx_aload_nP (pc := 0) dX11_reach_0 0 rfl rfl ?_
  refine xx_iload_n (pc := 1) dX11_reach_1 1 rfl rfl ?_
  refine xx_callV0 (pc := 2) (st := []) sh_0 (cC_isRider (w := w) (k := k) (by omega) (by omega)) kX11_isRider vX11_109_11 dX11_reach_2 rfl rfl (Nat.le_of_ble_eq_true rfl) ⟨Nat.le_of_ble_eq_true rfl, Nat.le_of_ble_eq_true rfl⟩ ⟨Nat.zero_le _, Nat.zero_le _⟩ (ic_ke ?_)
  refine xx_if_eqB (pc := 5) 15 dX11_reach_5 rfl (fun c1 => ?_) (fun c1 => ?_)
  · refine xx_iconst (pc := 15) dX11_reach_15 cc_iconst_m1 ?_
    exact xx_iret (pc := 16) dX11_reach_16 rfl (rfl) (Nat.le_refl _) (Nat.le_refl _) (ic_re (if_neg (by omega)).symm)
  · refine xx_iload_n (pc := 8) dX11_reach_8 2 rfl rfl ?_
    refine xx_callS0 (pc := 9) (st := []) (cC_isStop (w := w) (v := f) (by omega)) kX11_isStop sX11_98 dX11_reach_9 rfl rfl (Nat.le_of_ble_eq_true rfl) ⟨Nat.le_of_ble_eq_true rfl, Nat.le_of_ble_eq_true rfl⟩ ⟨Nat.zero_le _, Nat.zero_le _⟩ (ic_ke ?_)
    refine xx_if_neB (pc := 12) 17 dX11_reach_12 rfl (fun c2 => ?_) (fun c2 => ?_)
    · have a5 : w 48 k = it s k 5 := hm.a (by omega)
      have i5 := hIn.i (o := k) (by omega)
      have hp2 := mo_p2 (n := w 48 k) (by omega)
      refine xx_iconst (pc := 17) dX11_reach_17 cc_iconst_1 ?_
      refine xx_aload_nP (pc := 18) dX11_reach_18 0 rfl rfl ?_
      refine xx_getR (pc := 19) 39 dX11_reach_19 sh_0 fX11_74_11 rfl rfl (by decide) ?_
      refine xx_getR (pc := 22) 46 dX11_reach_22 sh_39 fX11_112_5 rfl rfl (by decide) ?_
      refine xx_getR (pc := 25) 48 dX11_reach_25 sh_46 fX11_130_4 rfl rfl (by decide) ?_
      refine xx_iload_n (pc := 28) dX11_reach_28 1 rfl rfl ?_
      refine xx_ialdN (pc := 29) dX11_reach_29 sh_48 (by omega) (by decide) ?_
      refine xx_ishlN (pc := 30) dX11_reach_30 (by omega) (by omega) ?_
      refine xx_istore_n (L' := [(3, .int (nI (1 * 2 ^ (w 48 k)))), (0, ic_pt E 0), (1, .int (nI k)), (2, .int (nI f))]) (pc := 31) dX11_reach_31 rfl (Nat.le_of_ble_eq_true rfl) rfl ?_
      refine xx_iconst (pc := 32) dX11_reach_32 cc_iconst_0 ?_
      refine xx_istore (L' := [(4, .int (nI 0)), (3, .int (nI (1 * 2 ^ (w 48 k)))), (0, ic_pt E 0), (1, .int (nI k)), (2, .int (nI f))]) (pc := 33) dX11_reach_33 (Nat.le_of_ble_eq_true rfl) rfl ?_
      have lp : ∀ (n_ : Nat) (n x : Nat), n ≤ 17 → x = mo_rs s k n → mo_reach s k f = mo_rchN s k f (17 - n) n → 17 - n < n_ → xx l E (ic_fr E mX11_reach 5 0 0 False SHs (ic_qe (nI (if k < s 0 ∧ f < 6 then mo_reach s k f else 4294967295)) (hn w))) (0, 0) 35 [(4, .int (nI n)), (3, .int (nI x)), (0, ic_pt E 0), (1, .int (nI k)), (2, .int (nI f))] [] SHs (hn w) := by
        intro n_
        induction n_ with
        | zero => intro n x hn17 hx hq hm_; exact absurd hm_ (Nat.not_lt_zero _)
        | succ n_ ih_ =>
          intro n x hn17 hx hq hm_
          refine xx_iload (pc := 35) dX11_reach_35 0 rfl ?_
          refine xx_bipush (pc := 37) dX11_reach_37 cc_bipush_16 ?_
          refine xx_icmp_gtN (pc := 39) 91 dX11_reach_39 rfl (by omega) (by omega) (fun c23 => ?_) (fun c23 => ?_)
          · refine xx_bipush (pc := 91) dX11_reach_91 cc_bipush_m3 ?_
            exact xx_iret (pc := 93) dX11_reach_93 rfl (rfl) (Nat.le_refl _) (Nat.le_refl _) (ic_re (by rw [if_pos (by omega), hq, show 17 - n = 0 by omega]; rfl))
          · have hxl : x < 64 := by rw [hx]; exact mo_rs_lt hIn (by omega) n
            have hdl := mo_drifts_le (it s k 0) (s 1 + n)
            have hm1 := mo_mv_lt x hxl 1 (by omega)
            have hml := mo_or64 hxl hm1
            refine xx_iload_n (pc := 42) dX11_reach_42 1 rfl rfl ?_
            refine xx_iload_n (pc := 43) dX11_reach_43 4 rfl rfl ?_
            refine xx_callS0 (pc := 44) (st := []) (cC_has (w := w) (t := x) (k := f) (by omega) (by omega)) kX11_has sX11_236 dX11_reach_44 rfl rfl (Nat.le_of_ble_eq_true rfl) ⟨Nat.le_of_ble_eq_true rfl, Nat.le_of_ble_eq_true rfl⟩ ⟨Nat.zero_le _, Nat.zero_le _⟩ (ic_ke ?_)
            refine xx_if_eqB (pc := 47) 53 dX11_reach_47 rfl (fun c24 => ?_) (fun c24 => ?_)
            · refine xx_iload_n (pc := 53) dX11_reach_53 1 rfl rfl ?_
              refine xx_iload_n (pc := 54) dX11_reach_54 1 rfl rfl ?_
              refine xx_iconst (pc := 55) dX11_reach_55 cc_iconst_1 ?_
              refine xx_callS0 (pc := 56) (st := [.int (nI x)]) (cC_turned (w := w) (a := x) (b := 1) (by omega) (by omega)) kX11_turned sX11_240 dX11_reach_56 rfl rfl (Nat.le_of_ble_eq_true rfl) ⟨Nat.le_of_ble_eq_true rfl, Nat.le_of_ble_eq_true rfl⟩ ⟨Nat.zero_le _, Nat.zero_le _⟩ (ic_ke ?_)
              refine xx_iorN (pc := 59) dX11_reach_59 ?_
              refine xx_aload_nP (pc := 60) dX11_reach_60 2 rfl rfl ?_
              refine xx_getR (pc := 61) 39 dX11_reach_61 sh_0 fX11_74_11 rfl rfl (by decide) ?_
              refine xx_iload_n (pc := 64) dX11_reach_64 3 rfl rfl ?_
              refine xx_aload_nP (pc := 65) dX11_reach_65 2 rfl rfl ?_
              refine xx_getR (pc := 66) 39 dX11_reach_66 sh_0 fX11_74_11 rfl rfl (by decide) ?_
              refine xx_getR (pc := 69) 46 dX11_reach_69 sh_39 fX11_112_5 rfl rfl (by decide) ?_
              refine xx_getN (pc := 72) dX11_reach_72 sh_46 fX11_137_4 rfl ?_
              refine xx_iload (pc := 75) dX11_reach_75 0 rfl ?_
              refine xx_iaddN (pc := 77) dX11_reach_77 ?_
              refine xx_eqI (y := nI (s 1 + n)) (by rw [n3_w]) ?_
              refine xx_callV0 (pc := 78) (st := [.int (nI (x ||| (mo_mv x 1)))]) sh_39 (cC_drifting (w := w) (k := k) (t := s 1 + n) (s := s) hN hIn (by omega) (by omega)) kX5_drifting vX11_140_5 dX11_reach_78 rfl rfl (Nat.le_of_ble_eq_true rfl) ⟨Nat.le_of_ble_eq_true rfl, Nat.le_of_ble_eq_true rfl⟩ ⟨Nat.zero_le _, Nat.zero_le _⟩ (ic_ke ?_)
              refine xx_callS0 (pc := 81) (st := []) (cC_turned (w := w) (a := x ||| (mo_mv x 1)) (b := mo_drifts (it s k 0) (s 1 + n)) (by omega) (by omega)) kX11_turned sX11_240 dX11_reach_81 rfl rfl (Nat.le_of_ble_eq_true rfl) ⟨Nat.le_of_ble_eq_true rfl, Nat.le_of_ble_eq_true rfl⟩ ⟨Nat.zero_le _, Nat.zero_le _⟩ (ic_ke ?_)
              refine xx_istore_n (L' := [(3, .int (nI (mo_mv (x ||| (mo_mv x 1)) (mo_drifts (it s k 0) (s 1 + n))))), (4, .int (nI n)), (0, ic_pt E 0), (1, .int (nI k)), (2, .int (nI f))]) (pc := 84) dX11_reach_84 rfl (Nat.le_of_ble_eq_true rfl) rfl ?_
              refine xx_iincN (L' := [(4, .int (nI (n + 1))), (3, .int (nI (mo_mv (x ||| (mo_mv x 1)) (mo_drifts (it s k 0) (s 1 + n))))), (0, ic_pt E 0), (1, .int (nI k)), (2, .int (nI f))]) (pc := 85) dX11_reach_85 1 rfl cc_iconst_1 (Nat.le_of_ble_eq_true rfl) rfl ?_
              refine xx_goto (pc := 88) 35 dX11_reach_88 rfl ?_
              exact xx_sub [0, 1, 2, 3, 4] rfl (ih_ (n + 1) _ (by omega) (by rw [hx]; rfl) (by rw [hq, show 17 - n = (17 - (n + 1)) + 1 by omega, mo_rchN, if_pos (by rw [← hx, mo_and1]; omega)]) (by omega))
            · refine xx_iload (pc := 50) dX11_reach_50 0 rfl ?_
              exact xx_iret (pc := 52) dX11_reach_52 rfl (rfl) (Nat.le_refl _) (Nat.le_refl _) (ic_re (by rw [if_pos (by omega), hq, show 17 - n = (17 - (n + 1)) + 1 by omega, mo_rchN, if_neg (by rw [← hx, mo_and1]; omega)]))
      exact xx_sub [0, 1, 2, 3, 4] rfl (lp 18 0 _ (by omega) (by rw [Nat.one_mul]; first | rfl | exact congrArg (2 ^ ·) a5) rfl (by omega))
    · refine xx_iconst (pc := 15) dX11_reach_15 cc_iconst_m1 ?_
      exact xx_iret (pc := 16) dX11_reach_16 rfl (rfl) (Nat.le_refl _) (Nat.le_refl _) (ic_re (if_neg (by omega)).symm)

set_option maxHeartbeats 4000000 in
set_option maxRecDepth 100000 in
theorem cC_closeTo {l : Launch} {E : ic_E} {w : ic_w} {k : Nat} {s : Nat → Nat} (hC : Cw w s) (hIn : In s) (hk : k < s 0) (hk4 : it s k 4 = 0) : ic_C l E mX5_closeTo 2 0 0 False [ic_pt E 39, .int (nI k)] SHs (hn w) SHs (ic_qe (nI (mo_cs s k)) (hn w)) := by
  refine ic_intro (by decide +kernel) (Nat.le_of_ble_eq_true rfl) ?_
  show xx l E _ _ 0 [(0, ic_pt E 39), (1, .int (nI k))] _ _ _
  have hN := hC.1
  have hm := hC.2.1
  have n5_w := hC.2.2.1
  have n6_w := hC.2.2.2
  have hn0 := hIn.n
  have htt := hIn.t
  have hcr := hIn.cr (s 1)
  have n1_w : w 39 10 = s 0 := hN.n
  have n2_w : w 39 11 = s 2 := hN.e
  have n3_w : w 46 0 = s 1 := hm.t
  have n4_w : w 46 1 = mo_outs s := hm.o
  have lp : ∀ (n_ : Nat) (q c : Nat), q ≤ s 0 → c = mo_set (fun q => mo_close s k q) q → s 0 - q < n_ → xx l E (ic_fr E mX5_closeTo 2 0 0 False SHs (ic_qe (nI (mo_cs s k)) (hn w))) (0, 0) 4 [(3, .int (nI q)), (2, .int (nI c)), (0, ic_pt E 39), (1, .int (nI k))] [] SHs (hn w) := by
    intro n_
    induction n_ with
    | zero => intro q c hq hc hm_; exact absurd hm_ (Nat.not_lt_zero _)
    | succ n_ ih_ =>
      intro q c hq hc hm_
      refine xx_iload_n (pc := 4) dX5_closeTo_4 0 rfl rfl ?_
      refine xx_aload_nP (pc := 5) dX5_closeTo_5 2 rfl rfl ?_
      refine xx_getN (pc := 6) dX5_closeTo_6 sh_39 fX5_84_5 rfl ?_
      refine xx_icmp_geN (pc := 9) 94 dX5_closeTo_9 rfl (by omega) (by omega) (fun c1 => ?_) (fun c1 => ?_)
      · refine xx_iload_n (pc := 94) dX5_closeTo_94 1 rfl rfl ?_
        exact xx_iret (pc := 95) dX5_closeTo_95 rfl (rfl) (Nat.le_refl _) (Nat.le_refl _) (ic_re (by rw [hc, show q = s 0 by omega]; rfl))
      · have d1 : w 47 q = it s q 1 := hm.d (by omega)
        have d2 : w 47 k = it s k 1 := hm.d (by omega)
        have a1 : w 48 q = it s q 5 := hm.a (by omega)
        have a2 : w 48 k = it s k 5 := hm.a (by omega)
        have iq := hIn.i (o := q) (by omega)
        have ik := hIn.i (o := k) (by omega)
        have hp2 := mo_p2 (n := q) (by omega)
        refine xx_aload_nP (pc := 12) dX5_closeTo_12 2 rfl rfl ?_
        refine xx_getR (pc := 13) 46 dX5_closeTo_13 sh_39 fX5_33_5 rfl rfl (by decide) ?_
        refine xx_getR (pc := 16) 47 dX5_closeTo_16 sh_46 fX5_90_4 rfl rfl (by decide) ?_
        refine xx_iload_n (pc := 19) dX5_closeTo_19 0 rfl rfl ?_
        refine xx_ialdN (pc := 20) dX5_closeTo_20 sh_47 (by omega) (by decide) ?_
        refine xx_aload_nP (pc := 21) dX5_closeTo_21 2 rfl rfl ?_
        refine xx_getR (pc := 22) 46 dX5_closeTo_22 sh_39 fX5_33_5 rfl rfl (by decide) ?_
        refine xx_getR (pc := 25) 47 dX5_closeTo_25 sh_46 fX5_90_4 rfl rfl (by decide) ?_
        refine xx_iload_n (pc := 28) dX5_closeTo_28 3 rfl rfl ?_
        refine xx_ialdN (pc := 29) dX5_closeTo_29 sh_47 (by omega) (by decide) ?_
        refine xx_isubW (pc := 30) dX5_closeTo_30 (by omega) ?_
        refine xx_callS0 (pc := 31) (st := []) (cC_absD (w := w) (a := (w 47 q)) (b := (w 47 k)) (by omega) (by omega)) kJ9_abs_0f7a4 sX5_109 dX5_closeTo_31 rfl rfl (Nat.le_of_ble_eq_true rfl) ⟨Nat.le_of_ble_eq_true rfl, Nat.le_of_ble_eq_true rfl⟩ ⟨Nat.zero_le _, Nat.zero_le _⟩ (ic_ke ?_)
        refine xx_iconst (pc := 34) dX5_closeTo_34 cc_iconst_4 ?_
        refine xx_icmp_gtN (pc := 35) 42 dX5_closeTo_35 rfl (by omega) (by omega) (fun c2 => ?_) (fun c2 => ?_)
        · refine xx_iconst (pc := 42) dX5_closeTo_42 cc_iconst_0 ?_
          refine xx_istore (L' := [(4, .int (nI 0)), (3, .int (nI q)), (2, .int (nI c)), (0, ic_pt E 39), (1, .int (nI k))]) (pc := 43) dX5_closeTo_43 (Nat.le_of_ble_eq_true rfl) rfl ?_
          refine xx_aload_nP (pc := 45) dX5_closeTo_45 3 rfl rfl ?_
          refine xx_getR (pc := 46) 46 dX5_closeTo_46 sh_39 fX5_33_5 rfl rfl (by decide) ?_
          refine xx_iload_n (pc := 49) dX5_closeTo_49 1 rfl rfl ?_
          refine xx_callV0 (pc := 50) (st := []) sh_46 (cC_isOut (w := w) (m := 46) (s := s) (k := q) Mo_46 hm (by omega) hIn) kX4_isOut vX5_102_4 dX5_closeTo_50 rfl rfl (Nat.le_of_ble_eq_true rfl) ⟨Nat.le_of_ble_eq_true rfl, Nat.le_of_ble_eq_true rfl⟩ ⟨Nat.zero_le _, Nat.zero_le _⟩ (ic_ke ?_)
          refine xx_if_neB (pc := 53) 88 dX5_closeTo_53 rfl (fun c3 => ?_) (fun c3 => ?_)
          · refine xx_iincN (L' := [(3, .int (nI (q + 1))), (4, .int (nI 0)), (2, .int (nI c)), (0, ic_pt E 39), (1, .int (nI k))]) (pc := 88) dX5_closeTo_88 1 rfl cc_iconst_1 (Nat.le_of_ble_eq_true rfl) rfl ?_
            refine xx_goto (pc := 91) 4 dX5_closeTo_91 rfl ?_
            exact xx_sub [0, 2, 3, 4] rfl (ih_ (q + 1) _ (by omega) (by rw [hc]; exact (mo_set_f (by unfold mo_close; exact decide_eq_false (by omega))).symm) (by omega))
          · refine xx_iload (pc := 56) dX5_closeTo_56 0 rfl ?_
            refine xx_if_neN (pc := 58) 82 dX5_closeTo_58 rfl (by omega) (fun c4 => by exfalso; omega) (fun c4 => ?_)
            refine xx_aload_nP (pc := 61) dX5_closeTo_61 3 rfl rfl ?_
            refine xx_getR (pc := 62) 46 dX5_closeTo_62 sh_39 fX5_33_5 rfl rfl (by decide) ?_
            refine xx_getR (pc := 65) 48 dX5_closeTo_65 sh_46 fX5_93_4 rfl rfl (by decide) ?_
            refine xx_iload_n (pc := 68) dX5_closeTo_68 1 rfl rfl ?_
            refine xx_ialdN (pc := 69) dX5_closeTo_69 sh_48 (by omega) (by decide) ?_
            refine xx_aload_nP (pc := 70) dX5_closeTo_70 3 rfl rfl ?_
            refine xx_getR (pc := 71) 46 dX5_closeTo_71 sh_39 fX5_33_5 rfl rfl (by decide) ?_
            refine xx_getR (pc := 74) 48 dX5_closeTo_74 sh_46 fX5_93_4 rfl rfl (by decide) ?_
            refine xx_iload_n (pc := 77) dX5_closeTo_77 4 rfl rfl ?_
            refine xx_ialdN (pc := 78) dX5_closeTo_78 sh_48 (by omega) (by decide) ?_
            refine xx_icmp_neN (pc := 79) 88 dX5_closeTo_79 rfl (by omega) (by omega) (fun c5 => ?_) (fun c5 => ?_)
            · refine xx_iincN (L' := [(3, .int (nI (q + 1))), (4, .int (nI 0)), (2, .int (nI c)), (0, ic_pt E 39), (1, .int (nI k))]) (pc := 88) dX5_closeTo_88 1 rfl cc_iconst_1 (Nat.le_of_ble_eq_true rfl) rfl ?_
              refine xx_goto (pc := 91) 4 dX5_closeTo_91 rfl ?_
              exact xx_sub [0, 2, 3, 4] rfl (ih_ (q + 1) _ (by omega) (by rw [hc]; exact (mo_set_f (by unfold mo_close; exact decide_eq_false (by omega))).symm) (by omega))
            · refine xx_iload_n (pc := 82) dX5_closeTo_82 2 rfl rfl ?_
              refine xx_iconst (pc := 83) dX5_closeTo_83 cc_iconst_1 ?_
              refine xx_iload_n (pc := 84) dX5_closeTo_84 1 rfl rfl ?_
              refine xx_ishlN (pc := 85) dX5_closeTo_85 (by omega) (by omega) ?_
              refine xx_iorN (pc := 86) dX5_closeTo_86 ?_
              refine xx_istore_n (L' := [(2, .int (nI (c ||| (1 * 2 ^ q)))), (4, .int (nI 0)), (3, .int (nI q)), (0, ic_pt E 39), (1, .int (nI k))]) (pc := 87) dX5_closeTo_87 rfl (Nat.le_of_ble_eq_true rfl) rfl ?_
              refine xx_iincN (L' := [(3, .int (nI (q + 1))), (2, .int (nI (c ||| (1 * 2 ^ q)))), (4, .int (nI 0)), (0, ic_pt E 39), (1, .int (nI k))]) (pc := 88) dX5_closeTo_88 2 rfl cc_iconst_1 (Nat.le_of_ble_eq_true rfl) rfl ?_
              refine xx_goto (pc := 91) 4 dX5_closeTo_91 rfl ?_
              exact xx_sub [0, 1, 3, 4] rfl (ih_ (q + 1) _ (by omega) (by rw [hc]; rw [Nat.one_mul]; exact (mo_set_t (by unfold mo_close; exact decide_eq_true (by omega))).symm) (by omega))
        · refine xx_iconst (pc := 38) dX5_closeTo_38 cc_iconst_1 ?_
          refine xx_goto (pc := 39) 43 dX5_closeTo_39 rfl ?_
          refine xx_istore (L' := [(4, .int (nI 1)), (3, .int (nI q)), (2, .int (nI c)), (0, ic_pt E 39), (1, .int (nI k))]) (pc := 43) dX5_closeTo_43 (Nat.le_of_ble_eq_true rfl) rfl ?_
          refine xx_aload_nP (pc := 45) dX5_closeTo_45 3 rfl rfl ?_
          refine xx_getR (pc := 46) 46 dX5_closeTo_46 sh_39 fX5_33_5 rfl rfl (by decide) ?_
          refine xx_iload_n (pc := 49) dX5_closeTo_49 1 rfl rfl ?_
          refine xx_callV0 (pc := 50) (st := []) sh_46 (cC_isOut (w := w) (m := 46) (s := s) (k := q) Mo_46 hm (by omega) hIn) kX4_isOut vX5_102_4 dX5_closeTo_50 rfl rfl (Nat.le_of_ble_eq_true rfl) ⟨Nat.le_of_ble_eq_true rfl, Nat.le_of_ble_eq_true rfl⟩ ⟨Nat.zero_le _, Nat.zero_le _⟩ (ic_ke ?_)
          refine xx_if_neB (pc := 53) 88 dX5_closeTo_53 rfl (fun c6 => ?_) (fun c6 => ?_)
          · refine xx_iincN (L' := [(3, .int (nI (q + 1))), (4, .int (nI 1)), (2, .int (nI c)), (0, ic_pt E 39), (1, .int (nI k))]) (pc := 88) dX5_closeTo_88 1 rfl cc_iconst_1 (Nat.le_of_ble_eq_true rfl) rfl ?_
            refine xx_goto (pc := 91) 4 dX5_closeTo_91 rfl ?_
            exact xx_sub [0, 2, 3, 4] rfl (ih_ (q + 1) _ (by omega) (by rw [hc]; exact (mo_set_f (by unfold mo_close; exact decide_eq_false (by omega))).symm) (by omega))
          · refine xx_iload (pc := 56) dX5_closeTo_56 0 rfl ?_
            refine xx_if_neN (pc := 58) 82 dX5_closeTo_58 rfl (by omega) (fun c7 => ?_) (fun c7 => by exfalso; omega)
            refine xx_iload_n (pc := 82) dX5_closeTo_82 2 rfl rfl ?_
            refine xx_iconst (pc := 83) dX5_closeTo_83 cc_iconst_1 ?_
            refine xx_iload_n (pc := 84) dX5_closeTo_84 1 rfl rfl ?_
            refine xx_ishlN (pc := 85) dX5_closeTo_85 (by omega) (by omega) ?_
            refine xx_iorN (pc := 86) dX5_closeTo_86 ?_
            refine xx_istore_n (L' := [(2, .int (nI (c ||| (1 * 2 ^ q)))), (4, .int (nI 1)), (3, .int (nI q)), (0, ic_pt E 39), (1, .int (nI k))]) (pc := 87) dX5_closeTo_87 rfl (Nat.le_of_ble_eq_true rfl) rfl ?_
            refine xx_iincN (L' := [(3, .int (nI (q + 1))), (2, .int (nI (c ||| (1 * 2 ^ q)))), (4, .int (nI 1)), (0, ic_pt E 39), (1, .int (nI k))]) (pc := 88) dX5_closeTo_88 2 rfl cc_iconst_1 (Nat.le_of_ble_eq_true rfl) rfl ?_
            refine xx_goto (pc := 91) 4 dX5_closeTo_91 rfl ?_
            exact xx_sub [0, 1, 3, 4] rfl (ih_ (q + 1) _ (by omega) (by rw [hc]; rw [Nat.one_mul]; exact (mo_set_t (by unfold mo_close; exact decide_eq_true (by omega))).symm) (by omega))
  refine xx_iconst (pc := 0) dX5_closeTo_0 cc_iconst_0 ?_
  refine xx_istore_n (L' := [(2, .int (nI 0)), (0, ic_pt E 39), (1, .int (nI k))]) (pc := 1) dX5_closeTo_1 rfl (Nat.le_of_ble_eq_true rfl) rfl ?_
  refine xx_iconst (pc := 2) dX5_closeTo_2 cc_iconst_0 ?_
  refine xx_istore_n (L' := [(3, .int (nI 0)), (2, .int (nI 0)), (0, ic_pt E 39), (1, .int (nI k))]) (pc := 3) dX5_closeTo_3 rfl (Nat.le_of_ble_eq_true rfl) rfl ?_
  exact xx_sub [0, 1, 2, 3] rfl (lp (s 0 + 1) 0 0 (by omega) rfl (by omega))

set_option maxHeartbeats 4000000 in
set_option maxRecDepth 100000 in
theorem cC_carriageOf {l : Launch} {E : ic_E} {w : ic_w} {k : Nat} {s : Nat → Nat} (hC : Cw w s) (hIn : In s) (hk : k < s 0) : ic_C l E mX11_carriageOf 4 0 0 False [ic_pt E 0, .int (nI k)] SHs (hn w) SHs (ic_qe (nI (mo_carr s k)) (hn w)) := by
  refine ic_intro (by decide +kernel) (Nat.le_of_ble_eq_true rfl) ?_
  show xx l E _ _ 0 [(0, ic_pt E 0), (1, .int (nI k))] _ _ _
  have hN := hC.1
  have hm := hC.2.1
  have n5_w := hC.2.2.1
  have n6_w := hC.2.2.2
  have hn0 := hIn.n
  have htt := hIn.t
  have hcr := hIn.cr (s 1)
  have n1_w : w 39 10 = s 0 := hN.n
  have n2_w : w 39 11 = s 2 := hN.e
  have n3_w : w 46 0 = s 1 := hm.t
  have n4_w : w 46 1 = mo_outs s := hm.o
  have ik := hIn.i (o := k) (by omega)
  refine xx_aload_nP (pc := 0) dX11_carriageOf_0 0 rfl rfl ?_
  refine xx_getR (pc := 1) 39 dX11_carriageOf_1 sh_0 fX11_74_11 rfl rfl (by decide) ?_
  refine xx_getR (pc := 4) 46 dX11_carriageOf_4 sh_39 fX11_112_5 rfl rfl (by decide) ?_
  refine xx_iload_n (pc := 7) dX11_carriageOf_7 1 rfl rfl ?_
  refine xx_callV0 (pc := 8) (st := []) sh_46 (cC_isOut (w := w) (m := 46) (s := s) (k := k) Mo_46 hm (by omega) hIn) kX4_isOut vX11_127_4 dX11_carriageOf_8 rfl rfl (Nat.le_of_ble_eq_true rfl) ⟨Nat.le_of_ble_eq_true rfl, Nat.le_of_ble_eq_true rfl⟩ ⟨Nat.zero_le _, Nat.zero_le _⟩ (ic_ke ?_)
  refine xx_if_eqB (pc := 11) 16 dX11_carriageOf_11 rfl (fun c1 => ?_) (fun c1 => ?_)
  · have h4 : it s k 4 = 0 := by omega
    have hp2 := mo_p2 (n := k) (by omega)
    refine xx_iconst (pc := 16) dX11_carriageOf_16 cc_iconst_1 ?_
    refine xx_iload_n (pc := 17) dX11_carriageOf_17 1 rfl rfl ?_
    refine xx_ishlN (pc := 18) dX11_carriageOf_18 (by omega) (by omega) ?_
    refine xx_istore_n (L' := [(2, .int (nI (1 * 2 ^ k))), (0, ic_pt E 0), (1, .int (nI k))]) (pc := 19) dX11_carriageOf_19 rfl (Nat.le_of_ble_eq_true rfl) rfl ?_
    refine xx_iconst (pc := 20) dX11_carriageOf_20 cc_iconst_0 ?_
    refine xx_istore_n (L' := [(3, .int (nI 0)), (2, .int (nI (1 * 2 ^ k))), (0, ic_pt E 0), (1, .int (nI k))]) (pc := 21) dX11_carriageOf_21 rfl (Nat.le_of_ble_eq_true rfl) rfl ?_
    have lp : ∀ (n_ : Nat) (r x : Nat), r ≤ s 0 → x = mo_ck s (2 ^ k) r → Ni s x → x < 2 ^ s 0 → s 0 - r < n_ → xx l E (ic_fr E mX11_carriageOf 4 0 0 False SHs (ic_qe (nI (mo_carr s k)) (hn w))) (0, 0) 22 [(3, .int (nI r)), (2, .int (nI x)), (0, ic_pt E 0), (1, .int (nI k))] [] SHs (hn w) := by
      intro n_
      induction n_ with
      | zero => intro r x hr hx hnx hxl hm_; exact absurd hm_ (Nat.not_lt_zero _)
      | succ n_ ih_ =>
        intro r x hr hx hnx hxl hm_
        refine xx_iload_n (pc := 22) dX11_carriageOf_22 0 rfl rfl ?_
        refine xx_aload_nP (pc := 23) dX11_carriageOf_23 2 rfl rfl ?_
        refine xx_getR (pc := 24) 39 dX11_carriageOf_24 sh_0 fX11_74_11 rfl rfl (by decide) ?_
        refine xx_getN (pc := 27) dX11_carriageOf_27 sh_39 fX11_101_5 rfl ?_
        refine xx_icmp_geN (pc := 30) 81 dX11_carriageOf_30 rfl (by omega) (by omega) (fun c22 => ?_) (fun c22 => ?_)
        · refine xx_iload_n (pc := 81) dX11_carriageOf_81 1 rfl rfl ?_
          exact xx_iret (pc := 82) dX11_carriageOf_82 rfl (rfl) (Nat.le_refl _) (Nat.le_refl _) (ic_re (by rw [hx, show r = s 0 by omega]; unfold mo_carr; rw [if_pos h4, mo_ck_6 hn0 hk]))
        · refine xx_iconst (pc := 33) dX11_carriageOf_33 cc_iconst_0 ?_
          refine xx_istore (L' := [(4, .int (nI 0)), (3, .int (nI r)), (2, .int (nI x)), (0, ic_pt E 0), (1, .int (nI k))]) (pc := 34) dX11_carriageOf_34 (Nat.le_of_ble_eq_true rfl) rfl ?_
          have lq : ∀ (n_i : Nat) (p y : Nat), p ≤ s 0 → y = mo_cr s x p → Ni s y → y < 2 ^ s 0 → s 0 - p < n_i → xx l E (ic_fr E mX11_carriageOf 4 0 0 False SHs (ic_qe (nI (mo_carr s k)) (hn w))) (0, 0) 36 [(4, .int (nI p)), (2, .int (nI y)), (3, .int (nI r)), (0, ic_pt E 0), (1, .int (nI k))] [] SHs (hn w) := by
            intro n_i
            induction n_i with
            | zero => intro p y hp hy hni hyl hm_i; exact absurd hm_i (Nat.not_lt_zero _)
            | succ n_i ih_i =>
              intro p y hp hy hni hyl hm_i
              have hy64 := mo_p2 hn0
              refine xx_iload (pc := 36) dX11_carriageOf_36 0 rfl ?_
              refine xx_aload_nP (pc := 38) dX11_carriageOf_38 3 rfl rfl ?_
              refine xx_getR (pc := 39) 39 dX11_carriageOf_39 sh_0 fX11_74_11 rfl rfl (by decide) ?_
              refine xx_getN (pc := 42) dX11_carriageOf_42 sh_39 fX11_101_5 rfl ?_
              refine xx_icmp_geN (pc := 45) 75 dX11_carriageOf_45 rfl (by omega) (by omega) (fun c43 => ?_) (fun c43 => ?_)
              · refine xx_iincN (L' := [(3, .int (nI (r + 1))), (4, .int (nI p)), (2, .int (nI y)), (0, ic_pt E 0), (1, .int (nI k))]) (pc := 75) dX11_carriageOf_75 2 rfl cc_iconst_1 (Nat.le_of_ble_eq_true rfl) rfl ?_
                refine xx_goto (pc := 78) 22 dX11_carriageOf_78 rfl ?_
                exact xx_sub [0, 2, 3, 4] rfl (ih_ (r + 1) _ (by omega) (by rw [hy, show p = s 0 by omega]; exact (congrArg (fun z => mo_cr s z (s 0)) hx).trans rfl) hni hyl (by omega))
              · have hnp := hni p
                refine xx_iload_n (pc := 48) dX11_carriageOf_48 1 rfl rfl ?_
                refine xx_iload (pc := 49) dX11_carriageOf_49 0 rfl ?_
                refine xx_callS0 (pc := 51) (st := []) (cC_has (w := w) (t := y) (k := p) (by omega) (by omega)) kX11_has sX11_236 dX11_carriageOf_51 rfl rfl (Nat.le_of_ble_eq_true rfl) ⟨Nat.le_of_ble_eq_true rfl, Nat.le_of_ble_eq_true rfl⟩ ⟨Nat.zero_le _, Nat.zero_le _⟩ (ic_ke ?_)
                refine xx_if_eqB (pc := 54) 69 dX11_carriageOf_54 rfl (fun c44 => ?_) (fun c44 => ?_)
                · refine xx_iincN (L' := [(4, .int (nI (p + 1))), (2, .int (nI y)), (3, .int (nI r)), (0, ic_pt E 0), (1, .int (nI k))]) (pc := 69) dX11_carriageOf_69 0 rfl cc_iconst_1 (Nat.le_of_ble_eq_true rfl) rfl ?_
                  refine xx_goto (pc := 72) 36 dX11_carriageOf_72 rfl ?_
                  exact xx_sub [0, 1, 2, 3, 4] rfl (ih_i (p + 1) _ (by omega) (by rw [mo_cr, mo_cq_e, ← hy]; exact (if_neg (by omega)).symm) (by first | exact hni | exact hni.or) (by first | exact hyl | exact Nat.or_lt_two_pow hyl (mo_set_lt _ _)) (by omega))
                · obtain ⟨hp_, hp4⟩ := hnp (by omega)
                  refine xx_iload_n (pc := 57) dX11_carriageOf_57 1 rfl rfl ?_
                  refine xx_aload_nP (pc := 58) dX11_carriageOf_58 3 rfl rfl ?_
                  refine xx_getR (pc := 59) 39 dX11_carriageOf_59 sh_0 fX11_74_11 rfl rfl (by decide) ?_
                  refine xx_iload (pc := 62) dX11_carriageOf_62 0 rfl ?_
                  refine xx_callV0 (pc := 64) (st := [.int (nI y)]) sh_39 (cC_closeTo (w := w) (k := p) (s := s) hC hIn (by omega) (by omega)) kX5_closeTo vX11_402_5 dX11_carriageOf_64 rfl rfl (Nat.le_of_ble_eq_true rfl) ⟨Nat.le_of_ble_eq_true rfl, Nat.le_of_ble_eq_true rfl⟩ ⟨Nat.zero_le _, Nat.zero_le _⟩ (ic_ke ?_)
                  refine xx_iorN (pc := 67) dX11_carriageOf_67 ?_
                  refine xx_istore_n (L' := [(2, .int (nI (y ||| (mo_cs s p)))), (4, .int (nI p)), (3, .int (nI r)), (0, ic_pt E 0), (1, .int (nI k))]) (pc := 68) dX11_carriageOf_68 rfl (Nat.le_of_ble_eq_true rfl) rfl ?_
                  refine xx_iincN (L' := [(4, .int (nI (p + 1))), (2, .int (nI (y ||| (mo_cs s p)))), (3, .int (nI r)), (0, ic_pt E 0), (1, .int (nI k))]) (pc := 69) dX11_carriageOf_69 1 rfl cc_iconst_1 (Nat.le_of_ble_eq_true rfl) rfl ?_
                  refine xx_goto (pc := 72) 36 dX11_carriageOf_72 rfl ?_
                  exact xx_sub [0, 1, 2, 3, 4] rfl (ih_i (p + 1) _ (by omega) (by rw [mo_cr, mo_cq_e, ← hy]; exact (if_pos (by omega)).symm) (by first | exact hni | exact hni.or) (by first | exact hyl | exact Nat.or_lt_two_pow hyl (mo_set_lt _ _)) (by omega))
          exact xx_sub [0, 2, 1, 3, 4] rfl (lq (s 0 + 1) 0 _ (by omega) rfl hnx hxl (by omega))
    exact xx_sub [0, 1, 2, 3] rfl (lp (s 0 + 1) 0 _ (by omega) (by rw [Nat.one_mul]; rfl) (by rw [Nat.one_mul]; exact Ni.one hk h4) (by rw [Nat.one_mul]; exact Nat.pow_lt_pow_right (by omega) hk) (by omega))
  · refine xx_iconst (pc := 14) dX11_carriageOf_14 cc_iconst_0 ?_
    exact xx_iret (pc := 15) dX11_carriageOf_15 rfl (rfl) (Nat.le_refl _) (Nat.le_refl _) (ic_re (by unfold mo_carr; rw [if_neg (by omega), mo_ck_0]))

theorem mo_carr_n {s : Nat → Nat} (h0 : s 0 ≤ 6) {k : Nat} (hk : k < s 0) (h4 : it s k 4 ≤ 1) : mo_carr s k = 0 ↔ ¬ it s k 4 = 0 := by
  unfold mo_carr
  by_cases z : it s k 4 = 0
  · rw [if_pos z]
    have h : 2 ^ k < 2 ^ s 0 := Nat.pow_lt_pow_right (by omega) hk
    have x : ∀ r, 2 ^ k ||| mo_ck s (2 ^ k) r = mo_ck s (2 ^ k) r := by
      intro r
      induction r with
      | zero => exact Nat.or_self _
      | succ r ih =>
        show _ ||| mo_cr s (mo_ck s (2 ^ k) r) (s 0) = mo_cr s (mo_ck s (2 ^ k) r) (s 0)
        rw [← mo_cr_x, ← Nat.or_assoc, ih]
    have : 2 ^ k ≤ mo_ck s (2 ^ k) 6 := by
      rw [← x 6]
      exact Nat.left_le_or
    have p0 := Nat.two_pow_pos k
    constructor
    · intro q
      omega
    · intro q
      exact absurd z q
  · rw [if_neg z, mo_ck_0]
    exact ⟨fun _ => z, fun _ => rfl⟩
set_option maxHeartbeats 4000000 in
set_option maxRecDepth 100000 in
theorem cC_carriages {l : Launch} {E : ic_E} {w : ic_w} {a : Nat} (ha_ : a < 2 ^ 32) {s : Nat → Nat} (hC : Cw w s) (hIn : In s) : ic_C l E mX11_carriages 5 0 0 False [ic_pt E 0, .int (nI a)] SHs (hn w) SHs (ic_qe (nI (if a = 4294967295 then mo_carrs s else if a < s 0 then mo_carr s a else 4294967295)) (hn w)) := by
  refine ic_intro (by decide +kernel) (Nat.le_of_ble_eq_true rfl) ?_
  show xx l E _ _ 0 [(0, ic_pt E 0), (1, .int (nI a))] _ _ _
  have hN := hC.1
  have hm := hC.2.1
  have n5_w := hC.2.2.1
  have n6_w := hC.2.2.2
  have hn0 := hIn.n
  have htt := hIn.t
  have hcr := hIn.cr (s 1)
  have n1_w : w 39 10 = s 0 := hN.n
  have n2_w : w 39 11 = s 2 := hN.e
  have n3_w : w 46 0 = s 1 := hm.t
  have n4_w : w 46 1 = mo_outs s := hm.o
  refine xx_iload_n (pc := 0) dX11_carriages_0 1 rfl rfl ?_
  refine xx_iconst (pc := 1) dX11_carriages_1 cc_iconst_m1 ?_
  refine xx_icmp_eqN (pc := 2) 15 dX11_carriages_2 rfl (by omega) (by omega) (fun c1 => ?_) (fun c1 => ?_)
  · refine xx_iload_n (pc := 15) dX11_carriages_15 1 rfl rfl ?_
    refine xx_iconst (pc := 16) dX11_carriages_16 cc_iconst_m1 ?_
    refine xx_icmp_eqN (pc := 17) 26 dX11_carriages_17 rfl (by omega) (by omega) (fun c2 => ?_) (fun c2 => ?_)
    · refine xx_iconst (pc := 26) dX11_carriages_26 cc_iconst_0 ?_
      refine xx_istore_n (L' := [(2, .int (nI 0)), (0, ic_pt E 0), (1, .int (nI a))]) (pc := 27) dX11_carriages_27 rfl (Nat.le_of_ble_eq_true rfl) rfl ?_
      refine xx_iconst (pc := 28) dX11_carriages_28 cc_iconst_0 ?_
      refine xx_istore_n (L' := [(3, .int (nI 0)), (2, .int (nI 0)), (0, ic_pt E 0), (1, .int (nI a))]) (pc := 29) dX11_carriages_29 rfl (Nat.le_of_ble_eq_true rfl) rfl ?_
      have lp : ∀ (n_ : Nat) (q c : Nat), q ≤ s 0 → c = mo_cnt (fun o => decide (it s o 4 = 0 ∧ mo_carr s o &&& (2 ^ o - 1) = 0)) q → s 0 - q < n_ → xx l E (ic_fr E mX11_carriages 5 0 0 False SHs (ic_qe (nI (if a = 4294967295 then mo_carrs s else if a < s 0 then mo_carr s a else 4294967295)) (hn w))) (0, 0) 30 [(3, .int (nI q)), (2, .int (nI c)), (0, ic_pt E 0), (1, .int (nI a))] [] SHs (hn w) := by
        intro n_
        induction n_ with
        | zero => intro q c hq hc hm_; exact absurd hm_ (Nat.not_lt_zero _)
        | succ n_ ih_ =>
          intro q c hq hc hm_
          refine xx_iload_n (pc := 30) dX11_carriages_30 0 rfl rfl ?_
          refine xx_aload_nP (pc := 31) dX11_carriages_31 2 rfl rfl ?_
          refine xx_getR (pc := 32) 39 dX11_carriages_32 sh_0 fX11_74_11 rfl rfl (by decide) ?_
          refine xx_getN (pc := 35) dX11_carriages_35 sh_39 fX11_101_5 rfl ?_
          refine xx_icmp_geN (pc := 38) 73 dX11_carriages_38 rfl (by omega) (by omega) (fun c23 => ?_) (fun c23 => ?_)
          · refine xx_iload_n (pc := 73) dX11_carriages_73 1 rfl rfl ?_
            exact xx_iret (pc := 74) dX11_carriages_74 rfl (rfl) (Nat.le_refl _) (Nat.le_refl _) (ic_re (by rw [if_pos (by omega), hc, show q = s 0 by omega]; rfl))
          · have iq := hIn.i (o := q) (by omega)
            have hcn := mo_carr_n hn0 (k := q) (by omega) iq.2.2.2.2.1
            have hp2 := mo_p2 (n := q) (by omega)
            have hp0 := Nat.two_pow_pos q
            have hcl := mo_carr_lt hIn (o := q) (by omega)
            have hal := Nat.and_le_left (n := mo_carr s q) (m := 1 * 2 ^ q - 1)
            have h1m : 1 * 2 ^ q - 1 = 2 ^ q - 1 := by rw [Nat.one_mul]
            refine xx_aload_nP (pc := 41) dX11_carriages_41 2 rfl rfl ?_
            refine xx_iload_n (pc := 42) dX11_carriages_42 0 rfl rfl ?_
            have hcl_x24 := mo_carr_lt hIn (o := q) (by omega)
            refine xx_callV0 (pc := 43) (st := []) sh_0 (cC_carriageOf (w := w) (k := q) (s := s) hC hIn (by omega)) kX11_carriageOf vX11_243_11 dX11_carriages_43 rfl rfl (Nat.le_of_ble_eq_true rfl) ⟨Nat.le_of_ble_eq_true rfl, Nat.le_of_ble_eq_true rfl⟩ ⟨Nat.zero_le _, Nat.zero_le _⟩ (ic_ke ?_)
            refine xx_istore (L' := [(4, .int (nI (mo_carr s q))), (3, .int (nI q)), (2, .int (nI c)), (0, ic_pt E 0), (1, .int (nI a))]) (pc := 46) dX11_carriages_46 (Nat.le_of_ble_eq_true rfl) rfl ?_
            refine xx_iload (pc := 48) dX11_carriages_48 0 rfl ?_
            refine xx_if_eqN (pc := 50) 67 dX11_carriages_50 rfl (by omega) (fun c25 => ?_) (fun c25 => ?_)
            · refine xx_iincN (L' := [(3, .int (nI (q + 1))), (4, .int (nI (mo_carr s q))), (2, .int (nI c)), (0, ic_pt E 0), (1, .int (nI a))]) (pc := 67) dX11_carriages_67 1 rfl cc_iconst_1 (Nat.le_of_ble_eq_true rfl) rfl ?_
              refine xx_goto (pc := 70) 30 dX11_carriages_70 rfl ?_
              exact xx_sub [0, 2, 3, 4] rfl (ih_ (q + 1) _ (by omega) (by rw [hc]; exact (mo_cnt_f (decide_eq_false (fun z => by rw [← h1m] at z; omega))).symm) (by omega))
            · refine xx_iload (pc := 53) dX11_carriages_53 0 rfl ?_
              refine xx_iconst (pc := 55) dX11_carriages_55 cc_iconst_1 ?_
              refine xx_iload_n (pc := 56) dX11_carriages_56 1 rfl rfl ?_
              refine xx_ishlN (pc := 57) dX11_carriages_57 (by omega) (by omega) ?_
              refine xx_iconst (pc := 58) dX11_carriages_58 cc_iconst_1 ?_
              refine xx_isubN (pc := 59) dX11_carriages_59 (by omega) ?_
              refine xx_iandN (pc := 60) dX11_carriages_60 ?_
              refine xx_if_neN (pc := 61) 67 dX11_carriages_61 rfl (by omega) (fun c26 => ?_) (fun c26 => ?_)
              · refine xx_iincN (L' := [(3, .int (nI (q + 1))), (4, .int (nI (mo_carr s q))), (2, .int (nI c)), (0, ic_pt E 0), (1, .int (nI a))]) (pc := 67) dX11_carriages_67 1 rfl cc_iconst_1 (Nat.le_of_ble_eq_true rfl) rfl ?_
                refine xx_goto (pc := 70) 30 dX11_carriages_70 rfl ?_
                exact xx_sub [0, 2, 3, 4] rfl (ih_ (q + 1) _ (by omega) (by rw [hc]; exact (mo_cnt_f (decide_eq_false (fun z => by rw [← h1m] at z; omega))).symm) (by omega))
              · refine xx_iincN (L' := [(2, .int (nI (c + 1))), (4, .int (nI (mo_carr s q))), (3, .int (nI q)), (0, ic_pt E 0), (1, .int (nI a))]) (pc := 64) dX11_carriages_64 2 rfl cc_iconst_1 (Nat.le_of_ble_eq_true rfl) rfl ?_
                refine xx_iincN (L' := [(3, .int (nI (q + 1))), (2, .int (nI (c + 1))), (4, .int (nI (mo_carr s q))), (0, ic_pt E 0), (1, .int (nI a))]) (pc := 67) dX11_carriages_67 2 rfl cc_iconst_1 (Nat.le_of_ble_eq_true rfl) rfl ?_
                refine xx_goto (pc := 70) 30 dX11_carriages_70 rfl ?_
                exact xx_sub [0, 1, 3, 4] rfl (ih_ (q + 1) _ (by omega) (by rw [hc]; exact (mo_cnt_t (decide_eq_true ⟨by omega, by rw [← h1m]; omega⟩)).symm) (by omega))
      exact xx_sub [0, 1, 2, 3] rfl (lp (s 0 + 1) 0 0 (by omega) rfl (by omega))
    · refine xx_aload_nP (pc := 20) dX11_carriages_20 0 rfl rfl ?_
      refine xx_iload_n (pc := 21) dX11_carriages_21 1 rfl rfl ?_
      have hcl_x3 := mo_carr_lt hIn (o := a) (by omega)
      refine xx_callV0 (pc := 22) (st := []) sh_0 (cC_carriageOf (w := w) (k := a) (s := s) hC hIn (by omega)) kX11_carriageOf vX11_243_11 dX11_carriages_22 rfl rfl (Nat.le_of_ble_eq_true rfl) ⟨Nat.le_of_ble_eq_true rfl, Nat.le_of_ble_eq_true rfl⟩ ⟨Nat.zero_le _, Nat.zero_le _⟩ (ic_ke ?_)
      exact xx_iret (pc := 25) dX11_carriages_25 rfl (rfl) (Nat.le_refl _) (Nat.le_refl _) (ic_re (by rw [if_neg (by omega), if_pos (by omega)]))
  · refine xx_aload_nP (pc := 5) dX11_carriages_5 0 rfl rfl ?_
    refine xx_iload_n (pc := 6) dX11_carriages_6 1 rfl rfl ?_
    refine xx_callV0 (pc := 7) (st := []) sh_0 (cC_isRider (w := w) (k := a) (by omega) (by omega)) kX11_isRider vX11_109_11 dX11_carriages_7 rfl rfl (Nat.le_of_ble_eq_true rfl) ⟨Nat.le_of_ble_eq_true rfl, Nat.le_of_ble_eq_true rfl⟩ ⟨Nat.zero_le _, Nat.zero_le _⟩ (ic_ke ?_)
    refine xx_if_neB (pc := 10) 15 dX11_carriages_10 rfl (fun c4 => ?_) (fun c4 => ?_)
    · refine xx_iload_n (pc := 15) dX11_carriages_15 1 rfl rfl ?_
      refine xx_iconst (pc := 16) dX11_carriages_16 cc_iconst_m1 ?_
      refine xx_icmp_eqN (pc := 17) 26 dX11_carriages_17 rfl (by omega) (by omega) (fun c5 => ?_) (fun c5 => ?_)
      · refine xx_iconst (pc := 26) dX11_carriages_26 cc_iconst_0 ?_
        refine xx_istore_n (L' := [(2, .int (nI 0)), (0, ic_pt E 0), (1, .int (nI a))]) (pc := 27) dX11_carriages_27 rfl (Nat.le_of_ble_eq_true rfl) rfl ?_
        refine xx_iconst (pc := 28) dX11_carriages_28 cc_iconst_0 ?_
        refine xx_istore_n (L' := [(3, .int (nI 0)), (2, .int (nI 0)), (0, ic_pt E 0), (1, .int (nI a))]) (pc := 29) dX11_carriages_29 rfl (Nat.le_of_ble_eq_true rfl) rfl ?_
        have lp : ∀ (n_ : Nat) (q c : Nat), q ≤ s 0 → c = mo_cnt (fun o => decide (it s o 4 = 0 ∧ mo_carr s o &&& (2 ^ o - 1) = 0)) q → s 0 - q < n_ → xx l E (ic_fr E mX11_carriages 5 0 0 False SHs (ic_qe (nI (if a = 4294967295 then mo_carrs s else if a < s 0 then mo_carr s a else 4294967295)) (hn w))) (0, 0) 30 [(3, .int (nI q)), (2, .int (nI c)), (0, ic_pt E 0), (1, .int (nI a))] [] SHs (hn w) := by
          intro n_
          induction n_ with
          | zero => intro q c hq hc hm_; exact absurd hm_ (Nat.not_lt_zero _)
          | succ n_ ih_ =>
            intro q c hq hc hm_
            refine xx_iload_n (pc := 30) dX11_carriages_30 0 rfl rfl ?_
            refine xx_aload_nP (pc := 31) dX11_carriages_31 2 rfl rfl ?_
            refine xx_getR (pc := 32) 39 dX11_carriages_32 sh_0 fX11_74_11 rfl rfl (by decide) ?_
            refine xx_getN (pc := 35) dX11_carriages_35 sh_39 fX11_101_5 rfl ?_
            refine xx_icmp_geN (pc := 38) 73 dX11_carriages_38 rfl (by omega) (by omega) (fun c26 => ?_) (fun c26 => ?_)
            · refine xx_iload_n (pc := 73) dX11_carriages_73 1 rfl rfl ?_
              exact xx_iret (pc := 74) dX11_carriages_74 rfl (rfl) (Nat.le_refl _) (Nat.le_refl _) (ic_re (by rw [if_pos (by omega), hc, show q = s 0 by omega]; rfl))
            · have iq := hIn.i (o := q) (by omega)
              have hcn := mo_carr_n hn0 (k := q) (by omega) iq.2.2.2.2.1
              have hp2 := mo_p2 (n := q) (by omega)
              have hp0 := Nat.two_pow_pos q
              have hcl := mo_carr_lt hIn (o := q) (by omega)
              have hal := Nat.and_le_left (n := mo_carr s q) (m := 1 * 2 ^ q - 1)
              have h1m : 1 * 2 ^ q - 1 = 2 ^ q - 1 := by rw [Nat.one_mul]
              refine xx_aload_nP (pc := 41) dX11_carriages_41 2 rfl rfl ?_
              refine xx_iload_n (pc := 42) dX11_carriages_42 0 rfl rfl ?_
              have hcl_x27 := mo_carr_lt hIn (o := q) (by omega)
              refine xx_callV0 (pc := 43) (st := []) sh_0 (cC_carriageOf (w := w) (k := q) (s := s) hC hIn (by omega)) kX11_carriageOf vX11_243_11 dX11_carriages_43 rfl rfl (Nat.le_of_ble_eq_true rfl) ⟨Nat.le_of_ble_eq_true rfl, Nat.le_of_ble_eq_true rfl⟩ ⟨Nat.zero_le _, Nat.zero_le _⟩ (ic_ke ?_)
              refine xx_istore (L' := [(4, .int (nI (mo_carr s q))), (3, .int (nI q)), (2, .int (nI c)), (0, ic_pt E 0), (1, .int (nI a))]) (pc := 46) dX11_carriages_46 (Nat.le_of_ble_eq_true rfl) rfl ?_
              refine xx_iload (pc := 48) dX11_carriages_48 0 rfl ?_
              refine xx_if_eqN (pc := 50) 67 dX11_carriages_50 rfl (by omega) (fun c28 => ?_) (fun c28 => ?_)
              · refine xx_iincN (L' := [(3, .int (nI (q + 1))), (4, .int (nI (mo_carr s q))), (2, .int (nI c)), (0, ic_pt E 0), (1, .int (nI a))]) (pc := 67) dX11_carriages_67 1 rfl cc_iconst_1 (Nat.le_of_ble_eq_true rfl) rfl ?_
                refine xx_goto (pc := 70) 30 dX11_carriages_70 rfl ?_
                exact xx_sub [0, 2, 3, 4] rfl (ih_ (q + 1) _ (by omega) (by rw [hc]; exact (mo_cnt_f (decide_eq_false (fun z => by rw [← h1m] at z; omega))).symm) (by omega))
              · refine xx_iload (pc := 53) dX11_carriages_53 0 rfl ?_
                refine xx_iconst (pc := 55) dX11_carriages_55 cc_iconst_1 ?_
                refine xx_iload_n (pc := 56) dX11_carriages_56 1 rfl rfl ?_
                refine xx_ishlN (pc := 57) dX11_carriages_57 (by omega) (by omega) ?_
                refine xx_iconst (pc := 58) dX11_carriages_58 cc_iconst_1 ?_
                refine xx_isubN (pc := 59) dX11_carriages_59 (by omega) ?_
                refine xx_iandN (pc := 60) dX11_carriages_60 ?_
                refine xx_if_neN (pc := 61) 67 dX11_carriages_61 rfl (by omega) (fun c29 => ?_) (fun c29 => ?_)
                · refine xx_iincN (L' := [(3, .int (nI (q + 1))), (4, .int (nI (mo_carr s q))), (2, .int (nI c)), (0, ic_pt E 0), (1, .int (nI a))]) (pc := 67) dX11_carriages_67 1 rfl cc_iconst_1 (Nat.le_of_ble_eq_true rfl) rfl ?_
                  refine xx_goto (pc := 70) 30 dX11_carriages_70 rfl ?_
                  exact xx_sub [0, 2, 3, 4] rfl (ih_ (q + 1) _ (by omega) (by rw [hc]; exact (mo_cnt_f (decide_eq_false (fun z => by rw [← h1m] at z; omega))).symm) (by omega))
                · refine xx_iincN (L' := [(2, .int (nI (c + 1))), (4, .int (nI (mo_carr s q))), (3, .int (nI q)), (0, ic_pt E 0), (1, .int (nI a))]) (pc := 64) dX11_carriages_64 2 rfl cc_iconst_1 (Nat.le_of_ble_eq_true rfl) rfl ?_
                  refine xx_iincN (L' := [(3, .int (nI (q + 1))), (2, .int (nI (c + 1))), (4, .int (nI (mo_carr s q))), (0, ic_pt E 0), (1, .int (nI a))]) (pc := 67) dX11_carriages_67 2 rfl cc_iconst_1 (Nat.le_of_ble_eq_true rfl) rfl ?_
                  refine xx_goto (pc := 70) 30 dX11_carriages_70 rfl ?_
                  exact xx_sub [0, 1, 3, 4] rfl (ih_ (q + 1) _ (by omega) (by rw [hc]; exact (mo_cnt_t (decide_eq_true ⟨by omega, by rw [← h1m]; omega⟩)).symm) (by omega))
        exact xx_sub [0, 1, 2, 3] rfl (lp (s 0 + 1) 0 0 (by omega) rfl (by omega))
      · refine xx_aload_nP (pc := 20) dX11_carriages_20 0 rfl rfl ?_
        refine xx_iload_n (pc := 21) dX11_carriages_21 1 rfl rfl ?_
        have hcl_x6 := mo_carr_lt hIn (o := a) (by omega)
        refine xx_callV0 (pc := 22) (st := []) sh_0 (cC_carriageOf (w := w) (k := a) (s := s) hC hIn (by omega)) kX11_carriageOf vX11_243_11 dX11_carriages_22 rfl rfl (Nat.le_of_ble_eq_true rfl) ⟨Nat.le_of_ble_eq_true rfl, Nat.le_of_ble_eq_true rfl⟩ ⟨Nat.zero_le _, Nat.zero_le _⟩ (ic_ke ?_)
        exact xx_iret (pc := 25) dX11_carriages_25 rfl (rfl) (Nat.le_refl _) (Nat.le_refl _) (ic_re (by rw [if_neg (by omega), if_pos (by omega)]))
    · refine xx_iconst (pc := 13) dX11_carriages_13 cc_iconst_m1 ?_
      exact xx_iret (pc := 14) dX11_carriages_14 rfl (rfl) (Nat.le_refl _) (Nat.le_refl _) (ic_re (by rw [if_neg (by omega), if_neg (by omega)]))

