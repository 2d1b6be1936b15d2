/-! the class: lone riders -/
theorem mo_su_bit {s : Nat → Nat} {i : Nat} : ∀ n, (mo_su s n).testBit i = true ↔ ∃ m, m < n ∧ (100 + m) / 10 % 10 < 6 ∧ mo_size (mo_wn s m) = 1 ∧ (mo_wn s m).testBit i = true
  | 0 => by
    rw [mo_su, Nat.zero_testBit]
    exact ⟨fun h => absurd h (by decide), fun ⟨m, h, _⟩ => absurd h (by omega)⟩
  | n + 1 => by
    rw [mo_su]
    have ih := mo_su_bit (s := s) (i := i) n
    by_cases h : (100 + n) / 10 % 10 < 6 ∧ mo_size (mo_wn s n) = 1
    · rw [if_pos h, Nat.testBit_or, Bool.or_eq_true, ih]
      constructor
      · rintro (⟨m, a, b⟩ | z)
        · exact ⟨m, by omega, b⟩
        · exact ⟨n, by omega, h.1, h.2, z⟩
      · rintro ⟨m, a, b, c, d⟩
        by_cases y : m = n
        · subst y
          exact Or.inr d
        · exact Or.inl ⟨m, by omega, b, c, d⟩
    · rw [if_neg h, ih]
      constructor
      · rintro ⟨m, a, b⟩
        exact ⟨m, by omega, b⟩
      · rintro ⟨m, a, b, c, d⟩
        by_cases y : m = n
        · subst y
          exact absurd ⟨b, c⟩ h
        · exact ⟨m, by omega, b, c, d⟩
theorem mo_cnt_p {P : Nat → Bool} : ∀ n, 0 < mo_cnt P n ↔ ∃ m, m < n ∧ P m = true
  | 0 => ⟨fun h => absurd h (Nat.lt_irrefl 0), fun ⟨m, h, _⟩ => absurd h (by omega)⟩
  | n + 1 => by
    have ih := mo_cnt_p (P := P) n
    by_cases z : P n = true
    · rw [mo_cnt_t z]
      exact ⟨fun _ => ⟨n, by omega, z⟩, fun _ => by omega⟩
    · rw [mo_cnt_f (by simpa using z), ih]
      constructor
      · rintro ⟨m, a, b⟩
        exact ⟨m, by omega, b⟩
      · rintro ⟨m, a, b⟩
        by_cases y : m = n
        · subst y
          exact absurd b z
        · exact ⟨m, by omega, b⟩
theorem tb_pow : ∀ x, x < 64 → mo_size x = 1 → ∀ i, i < 6 → x.testBit i = true → x = 2 ^ i := by decide +kernel
theorem tb_6 : ∀ x, x < 64 → ∀ i, i < 6 → (x.testBit i = true ↔ x / 2 ^ i % 2 = 1) := by decide +kernel
/-- a report is suspect if some fit but for it, where none fits -/
theorem mo_su_li {s : Nat → Nat} (hI : In s) (h0 : mo_lfs s 4294967295 = 0) {i : Nat} (hi : i < 6) : (mo_su s 500) / 2 ^ i % 2 = 1 ↔ (i < s 6 ∧ 0 < mo_lfs s i) := by
  have h6 := hI.2.2.1
  have hwl : ∀ m, mo_wn s m < 64 := fun m => mo_wr_lt hI _ _ _
  rw [← tb_6 _ (mo_su_lt hI 500) i hi, mo_su_bit]
  have hno : ∀ m, m < 500 → ¬ mo_lf s 4294967295 (100 + m) = true := fun m hm z => by
    have : 0 < mo_lfs s 4294967295 := (mo_cnt_p 500).mpr ⟨m, hm, z⟩
    omega
  have hb : ∀ m j, (mo_wn s m).testBit j = true ↔ (j < s 6 ∧ mo_ir s ((100 + m) / 100) ((100 + m) / 10 % 10) ((100 + m) % 10 * 9) j = false) := fun m j => by
    unfold mo_wn mo_wr
    rw [mo_set_tb, Bool.and_eq_true, decide_eq_true_iff]
    simp
  constructor
  · rintro ⟨m, hm, a, b, c⟩
    have e := tb_pow _ (hwl m) b i hi c
    refine ⟨((hb m i).mp c).1, (mo_cnt_p 500).mpr ⟨m, hm, ?_⟩⟩
    unfold mo_lf
    rw [Bool.and_eq_true, decide_eq_true_iff, mo_ft_i]
    refine ⟨a, fun j hj => ?_⟩
    by_cases y : j = i
    · exact Or.inl y
    · right
      cases z : mo_ir s ((100 + m) / 100) ((100 + m) / 10 % 10) ((100 + m) % 10 * 9) j
      · have := (hb m j).mpr ⟨hj, z⟩
        rw [e, Nat.testBit_two_pow] at this
        exact absurd (of_decide_eq_true this) (fun q => y q.symm)
      · rfl
  · rintro ⟨hs6, hp⟩
    obtain ⟨m, hm, hf⟩ := (mo_cnt_p 500).mp hp
    unfold mo_lf at hf
    rw [Bool.and_eq_true, decide_eq_true_iff, mo_ft_i] at hf
    have hz : ¬ mo_wn s m = 0 := fun z => hno m hm ((mo_lf_n hI m).mpr ⟨hf.1, z⟩)
    have e : mo_wn s m = 2 ^ i := by
      apply Nat.eq_of_testBit_eq
      intro j
      rw [Nat.testBit_two_pow]
      by_cases y : i = j
      · subst y
        cases z : (mo_wn s m).testBit i
        · exfalso
          apply hz
          apply Nat.eq_of_testBit_eq
          intro q
          rw [Nat.zero_testBit]
          cases x : (mo_wn s m).testBit q
          · rfl
          · have hq := (hb m q).mp x
            rcases hf.2 q hq.1 with t | t
            · rw [t, z] at x
              exact x.symm
            · rw [t] at hq
              exact absurd hq.2 (by decide)
        · simp
      · cases z : (mo_wn s m).testBit j
        · simp [y]
        · have hq := (hb m j).mp z
          rcases hf.2 j hq.1 with t | t
          · exact absurd t.symm y
          · rw [t] at hq
            exact absurd hq.2 (by decide)
    exact ⟨m, hm, hf.1, by rw [e]; exact size_p i hi, by rw [e, Nat.testBit_two_pow]; simp⟩
/-- all but a search's scratch is kept -/
def Fr (w w2 : ic_w) : Prop := (∀ a, (a = 0 ∨ (4 ≤ a ∧ a ≤ 54) ∨ (56 ≤ a ∧ a ≤ 62) ∨ (67 ≤ a ∧ a ≤ 94) ∨ 114 ≤ a) → w2 a = w a) ∧ w2 55 0 = w 55 0 ∧ w2 63 0 = 0 ∧ w2 64 0 = 0
theorem Cw.fr {w w2 : ic_w} {s : Nat → Nat} (h : Cw w s) (g : Fr w w2) : Cw w2 s :=
  ⟨h.1.of (by rw [g.1 39 (by omega)]) (by rw [g.1 39 (by omega)]) g.2.1 (fun a _ _ _ _ _ _ _ _ => g.1 a (by omega)), h.2.1.of (g.1 _ (by omega)) (g.1 _ (by omega)) (g.1 _ (by omega)), by rw [g.1 39 (by omega)]; exact h.2.2.1, by rw [g.1 39 (by omega)]; exact h.2.2.2⟩
set_option maxHeartbeats 4000000 in
set_option maxRecDepth 100000 in
theorem cC_wrongOf {l : Launch} {E : ic_E} {w : ic_w} {kd p d : Nat} {s : Nat → Nat} (hN : Cn w s) (hIn : In s) (hRp : Rp s) (hp : p < 6) (hd81 : d ≤ 81) (hd : ∀ j, j ≤ 15 → w 63 j = cl_sk s kd j ∧ w 64 j = cl_dr kd j) : ic_C l E mX8_wrongOf 3 0 0 False [ic_pt E 55, .int (nI p), .int (nI d)] SHs (hn w) SHs (ic_qe (nI (mo_wr s kd p d)) (hn w)) := by
  refine ic_intro (by decide +kernel) (Nat.le_of_ble_eq_true rfl) ?_
  show xx l E _ _ 0 [(0, ic_pt E 55), (1, .int (nI p)), (2, .int (nI d))] _ _ _
  have h55 := hN.q.1
  have hc6 := hIn.2.2.1
  have lp : ∀ (n_ : Nat) (i c : Nat), i ≤ s 6 → c = mo_set (fun i => !mo_ir s kd p d i) i → s 6 - i < n_ → xx l E (ic_fr E mX8_wrongOf 3 0 0 False SHs (ic_qe (nI (mo_wr s kd p d)) (hn w))) (0, 0) 5 [(4, .int (nI i)), (3, .int (nI c)), (0, ic_pt E 55), (1, .int (nI p)), (2, .int (nI d))] [] SHs (hn w) := by
    intro n_
    induction n_ with
    | zero => intro i c hi hc hm_; exact absurd hm_ (Nat.not_lt_zero _)
    | succ n_ ih_ =>
      intro i c hi hc hm_
      refine xx_iload (pc := 5) dX8_wrongOf_5 0 rfl ?_
      refine xx_aload_nP (pc := 7) dX8_wrongOf_7 2 rfl rfl ?_
      refine xx_getN (pc := 8) dX8_wrongOf_8 sh_55 fX8_23_8 rfl ?_
      refine xx_icmp_geN (pc := 11) 107 dX8_wrongOf_11 rfl (by omega) (by omega) (fun c1 => ?_) (fun c1 => ?_)
      · refine xx_iload_n (pc := 107) dX8_wrongOf_107 1 rfl rfl ?_
        exact xx_iret (pc := 108) dX8_wrongOf_108 rfl (rfl) (Nat.le_refl _) (Nat.le_refl _) (ic_re (by rw [hc, show i = s 6 by omega]; rfl))
      · have hq_ := hN.q.2 i (by omega) (by omega)
        have t0 := hq_ 0 (by omega)
        have t1 : w (57 + i) 1 = s (105 + 4 * i) := (hq_ 1 (by omega)).trans (congrArg s (by omega))
        have t2 : w (57 + i) 2 = s (106 + 4 * i) := (hq_ 2 (by omega)).trans (congrArg s (by omega))
        have t3 : w (57 + i) 3 = s (107 + 4 * i) := (hq_ 3 (by omega)).trans (congrArg s (by omega))
        rw [Nat.add_zero] at t0
        have rp := hRp i (by omega)
        have hk := hd (s (104 + 4 * i)) (by omega)
        have hsl := cl_sk_le hIn kd (s (104 + 4 * i))
        have hdl := cl_dr_le kd (s (104 + 4 * i))
        have hl1 := mo_lp_c kd hp (s (104 + 4 * i))
        have hl2 := mo_ld_c s kd (d := d) (by omega) (s (104 + 4 * i)) (by omega)
        have hp2 := mo_p2 (n := i) (by omega)
        refine xx_aload_nP (pc := 14) dX8_wrongOf_14 2 rfl rfl ?_
        refine xx_getR (pc := 15) 56 dX8_wrongOf_15 sh_55 fX8_11_8 rfl rfl (by decide) ?_
        refine xx_iload (pc := 18) dX8_wrongOf_18 0 rfl ?_
        refine xx_aald (pc := 20) i (57 + (i)) dX8_wrongOf_20 sh_56 (by decide) rfl (by omega) (by decide) (rp_at (by omega)) ?_
        refine xx_iconst (pc := 21) dX8_wrongOf_21 cc_iconst_0 ?_
        refine xx_ialdN (pc := 22) dX8_wrongOf_22 (rp_sh (by omega)) (by omega) (by decide) ?_
        refine xx_eqI (y := nI (s (104 + 4 * i))) (by rw [t0]) ?_
        refine xx_istore (L' := [(5, .int (nI (s (104 + 4 * i)))), (4, .int (nI i)), (3, .int (nI c)), (0, ic_pt E 55), (1, .int (nI p)), (2, .int (nI d))]) (pc := 23) dX8_wrongOf_23 (Nat.le_of_ble_eq_true rfl) rfl ?_
        refine xx_aload_nP (pc := 25) dX8_wrongOf_25 3 rfl rfl ?_
        refine xx_getR (pc := 26) 56 dX8_wrongOf_26 sh_55 fX8_11_8 rfl rfl (by decide) ?_
        refine xx_iload (pc := 29) dX8_wrongOf_29 1 rfl ?_
        refine xx_aald (pc := 31) i (57 + (i)) dX8_wrongOf_31 sh_56 (by decide) rfl (by omega) (by decide) (rp_at (by omega)) ?_
        refine xx_iconst (pc := 32) dX8_wrongOf_32 cc_iconst_1 ?_
        refine xx_ialdN (pc := 33) dX8_wrongOf_33 (rp_sh (by omega)) (by omega) (by decide) ?_
        refine xx_eqI (y := nI (s (105 + 4 * i))) (by rw [t1]) ?_
        refine xx_if_neN (pc := 34) 52 dX8_wrongOf_34 rfl (by omega) (fun c2 => ?_) (fun c2 => ?_)
        · refine xx_bipush (pc := 52) dX8_wrongOf_52 cc_bipush_99 ?_
          refine xx_iload_n (pc := 54) dX8_wrongOf_54 5 rfl rfl ?_
          refine xx_aload_nP (pc := 55) dX8_wrongOf_55 3 rfl rfl ?_
          refine xx_getR (pc := 56) 63 dX8_wrongOf_56 sh_55 fX8_16_8 rfl rfl (by decide) ?_
          refine xx_iload (pc := 59) dX8_wrongOf_59 0 rfl ?_
          refine xx_ialdN (pc := 61) dX8_wrongOf_61 sh_63 (by omega) (by decide) ?_
          refine xx_iaddN (pc := 62) dX8_wrongOf_62 ?_
          refine xx_callS0 (pc := 63) (st := []) (cC_min (w := w) (a := 99) (b := d + (w 63 (s (104 + 4 * i)))) (by omega) (by omega)) kJ9_min_7cf53 sX8_84 dX8_wrongOf_63 rfl rfl (Nat.le_of_ble_eq_true rfl) ⟨Nat.le_of_ble_eq_true rfl, Nat.le_of_ble_eq_true rfl⟩ ⟨Nat.zero_le _, Nat.zero_le _⟩ (ic_ke ?_)
          refine xx_eqI (y := nI (mo_rv s kd p d i)) (by congr 1; unfold mo_rv; first | (rw [if_pos (by omega), hl1, hk.2]) | (rw [if_neg (by omega), hl2, hk.1])) ?_
          refine xx_istore (L' := [(6, .int (nI (mo_rv s kd p d i))), (5, .int (nI (s (104 + 4 * i)))), (4, .int (nI i)), (3, .int (nI c)), (0, ic_pt E 55), (1, .int (nI p)), (2, .int (nI d))]) (pc := 66) dX8_wrongOf_66 (Nat.le_of_ble_eq_true rfl) rfl ?_
          have hrv : mo_rv s kd p d i ≤ 99 := by unfold mo_rv; split <;> omega
          refine xx_iload (pc := 68) dX8_wrongOf_68 0 rfl ?_
          refine xx_aload_nP (pc := 70) dX8_wrongOf_70 4 rfl rfl ?_
          refine xx_getR (pc := 71) 56 dX8_wrongOf_71 sh_55 fX8_11_8 rfl rfl (by decide) ?_
          refine xx_iload (pc := 74) dX8_wrongOf_74 2 rfl ?_
          refine xx_aald (pc := 76) i (57 + (i)) dX8_wrongOf_76 sh_56 (by decide) rfl (by omega) (by decide) (rp_at (by omega)) ?_
          refine xx_iconst (pc := 77) dX8_wrongOf_77 cc_iconst_2 ?_
          refine xx_ialdN (pc := 78) dX8_wrongOf_78 (rp_sh (by omega)) (by omega) (by decide) ?_
          refine xx_eqI (y := nI (s (106 + 4 * i))) (by rw [t2]) ?_
          refine xx_aload_nP (pc := 79) dX8_wrongOf_79 4 rfl rfl ?_
          refine xx_getR (pc := 80) 56 dX8_wrongOf_80 sh_55 fX8_11_8 rfl rfl (by decide) ?_
          refine xx_iload (pc := 83) dX8_wrongOf_83 2 rfl ?_
          refine xx_aald (pc := 85) i (57 + (i)) dX8_wrongOf_85 sh_56 (by decide) rfl (by omega) (by decide) (rp_at (by omega)) ?_
          refine xx_iconst (pc := 86) dX8_wrongOf_86 cc_iconst_3 ?_
          refine xx_ialdN (pc := 87) dX8_wrongOf_87 (rp_sh (by omega)) (by omega) (by decide) ?_
          refine xx_eqI (y := nI (s (107 + 4 * i))) (by rw [t3]) ?_
          refine xx_callSN0 (pc := 88) (st := []) (cC_within (w := w) (v := mo_rv s kd p d i) (lo := s (106 + 4 * i)) (hi := s (107 + 4 * i)) (by omega) (by omega) (by omega)) kX11_within nX8_89 (by exact s_X11_within) dX8_wrongOf_88 rfl rfl (Nat.le_of_ble_eq_true rfl) ⟨Nat.le_of_ble_eq_true rfl, Nat.le_of_ble_eq_true rfl⟩ ⟨Nat.zero_le _, Nat.zero_le _⟩ (ic_ke ?_)
          refine xx_if_neB (pc := 91) 101 dX8_wrongOf_91 rfl (fun c3 => ?_) (fun c3 => ?_)
          · refine xx_iincN (L' := [(4, .int (nI (i + 1))), (6, .int (nI (mo_rv s kd p d i))), (5, .int (nI (s (104 + 4 * i)))), (3, .int (nI c)), (0, ic_pt E 55), (1, .int (nI p)), (2, .int (nI d))]) (pc := 101) dX8_wrongOf_101 2 rfl cc_iconst_1 (Nat.le_of_ble_eq_true rfl) rfl ?_
            refine xx_goto (pc := 104) 5 dX8_wrongOf_104 rfl ?_
            exact xx_sub [0, 3, 4, 5, 6] rfl (ih_ (i + 1) _ (by omega) (by rw [hc]; exact (mo_set_f (by unfold mo_ir; simp; omega)).symm) (by omega))
          · refine xx_iload_n (pc := 94) dX8_wrongOf_94 3 rfl rfl ?_
            refine xx_iconst (pc := 95) dX8_wrongOf_95 cc_iconst_1 ?_
            refine xx_iload (pc := 96) dX8_wrongOf_96 2 rfl ?_
            refine xx_ishlN (pc := 98) dX8_wrongOf_98 (by omega) (by omega) ?_
            refine xx_iorN (pc := 99) dX8_wrongOf_99 ?_
            refine xx_istore_n (L' := [(3, .int (nI (c ||| (1 * 2 ^ i)))), (6, .int (nI (mo_rv s kd p d i))), (5, .int (nI (s (104 + 4 * i)))), (4, .int (nI i)), (0, ic_pt E 55), (1, .int (nI p)), (2, .int (nI d))]) (pc := 100) dX8_wrongOf_100 rfl (Nat.le_of_ble_eq_true rfl) rfl ?_
            refine xx_iincN (L' := [(4, .int (nI (i + 1))), (3, .int (nI (c ||| (1 * 2 ^ i)))), (6, .int (nI (mo_rv s kd p d i))), (5, .int (nI (s (104 + 4 * i)))), (0, ic_pt E 55), (1, .int (nI p)), (2, .int (nI d))]) (pc := 101) dX8_wrongOf_101 3 rfl cc_iconst_1 (Nat.le_of_ble_eq_true rfl) rfl ?_
            refine xx_goto (pc := 104) 5 dX8_wrongOf_104 rfl ?_
            exact xx_sub [0, 1, 4, 5, 6] rfl (ih_ (i + 1) _ (by omega) (by rw [hc]; rw [Nat.one_mul]; exact (mo_set_t (by unfold mo_ir; simp; omega)).symm) (by omega))
        · refine xx_iload_n (pc := 37) dX8_wrongOf_37 4 rfl rfl ?_
          refine xx_aload_nP (pc := 38) dX8_wrongOf_38 3 rfl rfl ?_
          refine xx_getR (pc := 39) 64 dX8_wrongOf_39 sh_55 fX8_20_8 rfl rfl (by decide) ?_
          refine xx_iload (pc := 42) dX8_wrongOf_42 0 rfl ?_
          refine xx_ialdN (pc := 44) dX8_wrongOf_44 sh_64 (by omega) (by decide) ?_
          refine xx_iaddN (pc := 45) dX8_wrongOf_45 ?_
          refine xx_bipush (pc := 46) dX8_wrongOf_46 cc_bipush_6 ?_
          refine xx_iremN (pc := 48) dX8_wrongOf_48 (by omega) (by omega) (by omega) ?_
          refine xx_goto (pc := 49) 66 dX8_wrongOf_49 rfl ?_
          refine xx_eqI (y := nI (mo_rv s kd p d i)) (by congr 1; unfold mo_rv; first | (rw [if_pos (by omega), hl1, hk.2]) | (rw [if_neg (by omega), hl2, hk.1])) ?_
          refine xx_istore (L' := [(6, .int (nI (mo_rv s kd p d i))), (5, .int (nI (s (104 + 4 * i)))), (4, .int (nI i)), (3, .int (nI c)), (0, ic_pt E 55), (1, .int (nI p)), (2, .int (nI d))]) (pc := 66) dX8_wrongOf_66 (Nat.le_of_ble_eq_true rfl) rfl ?_
          have hrv : mo_rv s kd p d i ≤ 99 := by unfold mo_rv; split <;> omega
          refine xx_iload (pc := 68) dX8_wrongOf_68 0 rfl ?_
          refine xx_aload_nP (pc := 70) dX8_wrongOf_70 4 rfl rfl ?_
          refine xx_getR (pc := 71) 56 dX8_wrongOf_71 sh_55 fX8_11_8 rfl rfl (by decide) ?_
          refine xx_iload (pc := 74) dX8_wrongOf_74 2 rfl ?_
          refine xx_aald (pc := 76) i (57 + (i)) dX8_wrongOf_76 sh_56 (by decide) rfl (by omega) (by decide) (rp_at (by omega)) ?_
          refine xx_iconst (pc := 77) dX8_wrongOf_77 cc_iconst_2 ?_
          refine xx_ialdN (pc := 78) dX8_wrongOf_78 (rp_sh (by omega)) (by omega) (by decide) ?_
          refine xx_eqI (y := nI (s (106 + 4 * i))) (by rw [t2]) ?_
          refine xx_aload_nP (pc := 79) dX8_wrongOf_79 4 rfl rfl ?_
          refine xx_getR (pc := 80) 56 dX8_wrongOf_80 sh_55 fX8_11_8 rfl rfl (by decide) ?_
          refine xx_iload (pc := 83) dX8_wrongOf_83 2 rfl ?_
          refine xx_aald (pc := 85) i (57 + (i)) dX8_wrongOf_85 sh_56 (by decide) rfl (by omega) (by decide) (rp_at (by omega)) ?_
          refine xx_iconst (pc := 86) dX8_wrongOf_86 cc_iconst_3 ?_
          refine xx_ialdN (pc := 87) dX8_wrongOf_87 (rp_sh (by omega)) (by omega) (by decide) ?_
          refine xx_eqI (y := nI (s (107 + 4 * i))) (by rw [t3]) ?_
          refine xx_callSN0 (pc := 88) (st := []) (cC_within (w := w) (v := mo_rv s kd p d i) (lo := s (106 + 4 * i)) (hi := s (107 + 4 * i)) (by omega) (by omega) (by omega)) kX11_within nX8_89 (by exact s_X11_within) dX8_wrongOf_88 rfl rfl (Nat.le_of_ble_eq_true rfl) ⟨Nat.le_of_ble_eq_true rfl, Nat.le_of_ble_eq_true rfl⟩ ⟨Nat.zero_le _, Nat.zero_le _⟩ (ic_ke ?_)
          refine xx_if_neB (pc := 91) 101 dX8_wrongOf_91 rfl (fun c4 => ?_) (fun c4 => ?_)
          · refine xx_iincN (L' := [(4, .int (nI (i + 1))), (6, .int (nI (mo_rv s kd p d i))), (5, .int (nI (s (104 + 4 * i)))), (3, .int (nI c)), (0, ic_pt E 55), (1, .int (nI p)), (2, .int (nI d))]) (pc := 101) dX8_wrongOf_101 2 rfl cc_iconst_1 (Nat.le_of_ble_eq_true rfl) rfl ?_
            refine xx_goto (pc := 104) 5 dX8_wrongOf_104 rfl ?_
            exact xx_sub [0, 3, 4, 5, 6] rfl (ih_ (i + 1) _ (by omega) (by rw [hc]; exact (mo_set_f (by unfold mo_ir; simp; omega)).symm) (by omega))
          · refine xx_iload_n (pc := 94) dX8_wrongOf_94 3 rfl rfl ?_
            refine xx_iconst (pc := 95) dX8_wrongOf_95 cc_iconst_1 ?_
            refine xx_iload (pc := 96) dX8_wrongOf_96 2 rfl ?_
            refine xx_ishlN (pc := 98) dX8_wrongOf_98 (by omega) (by omega) ?_
            refine xx_iorN (pc := 99) dX8_wrongOf_99 ?_
            refine xx_istore_n (L' := [(3, .int (nI (c ||| (1 * 2 ^ i)))), (6, .int (nI (mo_rv s kd p d i))), (5, .int (nI (s (104 + 4 * i)))), (4, .int (nI i)), (0, ic_pt E 55), (1, .int (nI p)), (2, .int (nI d))]) (pc := 100) dX8_wrongOf_100 rfl (Nat.le_of_ble_eq_true rfl) rfl ?_
            refine xx_iincN (L' := [(4, .int (nI (i + 1))), (3, .int (nI (c ||| (1 * 2 ^ i)))), (6, .int (nI (mo_rv s kd p d i))), (5, .int (nI (s (104 + 4 * i)))), (0, ic_pt E 55), (1, .int (nI p)), (2, .int (nI d))]) (pc := 101) dX8_wrongOf_101 3 rfl cc_iconst_1 (Nat.le_of_ble_eq_true rfl) rfl ?_
            refine xx_goto (pc := 104) 5 dX8_wrongOf_104 rfl ?_
            exact xx_sub [0, 1, 4, 5, 6] rfl (ih_ (i + 1) _ (by omega) (by rw [hc]; rw [Nat.one_mul]; exact (mo_set_t (by unfold mo_ir; simp; omega)).symm) (by omega))
  refine xx_iconst (pc := 0) dX8_wrongOf_0 cc_iconst_0 ?_
  refine xx_istore_n (L' := [(3, .int (nI 0)), (0, ic_pt E 55), (1, .int (nI p)), (2, .int (nI d))]) (pc := 1) dX8_wrongOf_1 rfl (Nat.le_of_ble_eq_true rfl) rfl ?_
  refine xx_iconst (pc := 2) dX8_wrongOf_2 cc_iconst_0 ?_
  refine xx_istore (L' := [(4, .int (nI 0)), (3, .int (nI 0)), (0, ic_pt E 55), (1, .int (nI p)), (2, .int (nI d))]) (pc := 3) dX8_wrongOf_3 (Nat.le_of_ble_eq_true rfl) rfl ?_
  exact xx_sub [0, 1, 2, 3, 4] rfl (lp (s 6 + 1) 0 0 (by omega) rfl (by omega))

def cl_hr (g : Nat → Nat) (x kd p d : Nat) : Nat → Nat := if x = 0 then (if g 4 = 0 then fu (fu (fu (fu g 5 kd) 6 p) 7 d) 4 (g 4 + 1) else fu g 4 (g 4 + 1)) else if mo_size x = 1 then fu g 8 (g 8 ||| x) else g
theorem Hs.hear {w : ic_w} {s : Nat → Nat} {n kd p d : Nat} (h : Hs w s n) (hI : In s) (hk : (100 + n) / 100 = kd) (hp : (100 + n) / 10 % 10 = p) (hd : (100 + n) % 10 * 9 = d) (h6 : p < 6) : Hs (wr w 55 (cl_hr (w 55) (mo_wr s kd p d) kd p d)) s (n + 1) := by
  have ex : mo_wn s n = mo_wr s kd p d := by unfold mo_wn; rw [hk, hp, hd]
  have hl := mo_lf_n hI n
  rw [ex, hp] at hl
  obtain ⟨h4, h8, h5⟩ := h
  unfold Hs
  rw [wr_s, mo_su, ex, hp, mo_fst]
  unfold cl_hr
  by_cases z : mo_wr s kd p d = 0
  · have hP : mo_lf s 4294967295 (100 + n) = true := hl.mpr ⟨h6, z⟩
    have hs0 : ¬ mo_size (mo_wr s kd p d) = 1 := by rw [z]; decide
    rw [if_pos z, if_neg (show ¬ (p < 6 ∧ mo_size (mo_wr s kd p d) = 1) from fun q => hs0 q.2), mo_cnt_t (P := fun i => mo_lf s 4294967295 (100 + i)) hP]
    by_cases y : mo_cnt (fun i => mo_lf s 4294967295 (100 + i)) n = 0
    · rw [if_pos (h4.trans y), if_pos ⟨y, hP⟩, ← hk, ← hp, ← hd]
      refine ⟨by rw [fu_s, h4], by rw [fu_n _ (by omega), fu_n _ (by omega), fu_n _ (by omega), fu_n _ (by omega)]; exact h8, fun _ => ⟨by rw [fu_n _ (by omega), fu_n _ (by omega), fu_n _ (by omega), fu_s], by rw [fu_n _ (by omega), fu_n _ (by omega), fu_s], by rw [fu_n _ (by omega), fu_s]⟩⟩
    · rw [if_neg (fun q => y (h4.symm.trans q)), if_neg (fun q => y q.1)]
      refine ⟨by rw [fu_s, h4], by rw [fu_n _ (by omega)]; exact h8, fun _ => ?_⟩
      rw [fu_n _ (by omega), fu_n _ (by omega), fu_n _ (by omega)]
      exact h5 y
  · have hP : mo_lf s 4294967295 (100 + n) = false := by
      cases y : mo_lf s 4294967295 (100 + n)
      · rfl
      · exact absurd (hl.mp y).2 z
    rw [if_neg z, mo_cnt_f (P := fun i => mo_lf s 4294967295 (100 + i)) hP, if_neg (show ¬ (mo_cnt (fun i => mo_lf s 4294967295 (100 + i)) n = 0 ∧ mo_lf s 4294967295 (100 + n) = true) from fun q => by rw [hP] at q; exact absurd q.2 (by decide))]
    by_cases y : mo_size (mo_wr s kd p d) = 1
    · rw [if_pos y, if_pos ⟨h6, y⟩]
      exact ⟨by rw [fu_n _ (by omega)]; exact h4, by rw [fu_s, h8], fun q => by rw [fu_n _ (by omega), fu_n _ (by omega), fu_n _ (by omega)]; exact h5 q⟩
    · rw [if_neg y, if_neg (fun q => y q.2)]
      exact ⟨h4, h8, h5⟩
set_option maxHeartbeats 4000000 in
set_option maxRecDepth 100000 in
theorem cC_hear {l : Launch} {E : ic_E} {w : ic_w} {kd p d : Nat} {s : Nat → Nat} (hN : Cn w s) (hIn : In s) (hRp : Rp s) (hp : p < 6) (hd81 : d ≤ 81) (h4 : w 55 4 ≤ 500) (hd : ∀ j, j ≤ 15 → w 63 j = cl_sk s kd j ∧ w 64 j = cl_dr kd j) : ic_C l E mX8_hear 4 0 0 False [ic_pt E 55, .int (nI kd), .int (nI p), .int (nI d)] SHs (hn w) SHs (ic_qv (fun h_ => h_ = hn (wr w 55 (cl_hr (w 55) (mo_wr s kd p d) kd p d)))) := by
  refine ic_intro (by decide +kernel) (Nat.le_of_ble_eq_true rfl) ?_
  show xx l E _ _ 0 [(0, ic_pt E 55), (1, .int (nI kd)), (2, .int (nI p)), (3, .int (nI d))] _ _ _
  have hwr := mo_wr_lt hIn kd p d
  have hs0 : mo_wr s kd p d = 0 → mo_size (mo_wr s kd p d) = 0 := fun z => by rw [z]; rfl
  refine xx_aload_nP (pc := 0) dX8_hear_0 0 rfl rfl ?_
  refine xx_iload_n (pc := 1) dX8_hear_1 2 rfl rfl ?_
  refine xx_iload_n (pc := 2) dX8_hear_2 3 rfl rfl ?_
  have hwr := mo_wr_lt hIn kd p d
  refine xx_callV0 (pc := 3) (st := []) sh_55 (cC_wrongOf (w := w) (kd := kd) (p := p) (d := d) (s := s) hN hIn hRp hp (by omega) hd) kX8_wrongOf vX8_66_8 dX8_hear_3 rfl rfl (Nat.le_of_ble_eq_true rfl) ⟨Nat.le_of_ble_eq_true rfl, Nat.le_of_ble_eq_true rfl⟩ ⟨Nat.zero_le _, Nat.zero_le _⟩ (ic_ke ?_)
  refine xx_istore (L' := [(4, .int (nI (mo_wr s kd p d))), (0, ic_pt E 55), (1, .int (nI kd)), (2, .int (nI p)), (3, .int (nI d))]) (pc := 6) dX8_hear_6 (Nat.le_of_ble_eq_true rfl) rfl ?_
  refine xx_iload (pc := 8) dX8_hear_8 0 rfl ?_
  have hsz_x1 := size_le (mo_wr s kd p d) (by omega)
  refine xx_callS0 (pc := 10) (st := []) (cC_bitCount (w := w) (n := mo_wr s kd p d) (by omega)) kJ6_bitCount_0f7a4 sX8_70 dX8_hear_10 rfl rfl (Nat.le_of_ble_eq_true rfl) ⟨Nat.le_of_ble_eq_true rfl, Nat.le_of_ble_eq_true rfl⟩ ⟨Nat.zero_le _, Nat.zero_le _⟩ (ic_ke ?_)
  refine xx_iconst (pc := 13) dX8_hear_13 cc_iconst_1 ?_
  refine xx_icmp_neN (pc := 14) 28 dX8_hear_14 rfl (by omega) (by omega) (fun c2 => ?_) (fun c2 => ?_)
  · refine xx_iload (pc := 28) dX8_hear_28 0 rfl ?_
    refine xx_if_eqN (pc := 30) 34 dX8_hear_30 rfl (by omega) (fun c3 => ?_) (fun c3 => ?_)
    · refine xx_aload_nP (pc := 34) dX8_hear_34 1 rfl rfl ?_
      refine xx_getN (pc := 35) dX8_hear_35 sh_55 fX8_33_8 rfl ?_
      refine xx_if_neN (pc := 38) 56 dX8_hear_38 rfl (by omega) (fun c4 => ?_) (fun c4 => ?_)
      · refine xx_aload_nP (pc := 56) dX8_hear_56 1 rfl rfl ?_
        refine xx_dup (pc := 57) dX8_hear_57 rfl ?_
        refine xx_getN (pc := 58) dX8_hear_58 sh_55 fX8_33_8 rfl ?_
        refine xx_iconst (pc := 61) dX8_hear_61 cc_iconst_1 ?_
        refine xx_iaddN (pc := 62) dX8_hear_62 ?_
        refine xx_eqI (y := nI (w 55 4 + 1)) (rfl) ?_
        refine xx_putN (pc := 63) dX8_hear_63 sh_55 fX8_33_8 rfl rfl ?_
        refine xx_nw (fun w5 ew5 => ?_)
        exact xx_vret (pc := 66) dX8_hear_66 rfl (Nat.le_refl _) (Nat.le_refl _) (ic_rv0 (by first | (exfalso; omega) | (refine congrArg hn ?_; rw [ew5]; simp only [wu_wr, wr_s, wr_wr]; refine congrArg (wr w 55) ?_; unfold cl_hr; first | (rw [if_neg (by omega), if_pos (by omega)] <;> rfl) | (rw [if_neg (by omega), if_neg (by omega)] <;> rfl) | (rw [if_pos (by omega), if_pos (by omega)] <;> rfl) | (rw [if_pos (by omega), if_neg (by omega)] <;> rfl))))
      · refine xx_aload_nP (pc := 41) dX8_hear_41 1 rfl rfl ?_
        refine xx_iload_n (pc := 42) dX8_hear_42 2 rfl rfl ?_
        refine xx_putN (pc := 43) dX8_hear_43 sh_55 fX8_75_8 rfl rfl ?_
        refine xx_nw (fun w6 ew6 => ?_)
        have z4_w6 : w6 55 4 = w 55 4 := by rw [ew6, wu_k _ _ _ _ (by omega)]
        refine xx_aload_nP (pc := 46) dX8_hear_46 1 rfl rfl ?_
        refine xx_iload_n (pc := 47) dX8_hear_47 3 rfl rfl ?_
        refine xx_putN (pc := 48) dX8_hear_48 sh_55 fX8_78_8 rfl rfl ?_
        refine xx_nw (fun w7 ew7 => ?_)
        have z4_w7 : w7 55 4 = w 55 4 := by rw [ew7, wu_k _ _ _ _ (by omega)]; exact z4_w6
        refine xx_aload_nP (pc := 51) dX8_hear_51 1 rfl rfl ?_
        refine xx_iload_n (pc := 52) dX8_hear_52 4 rfl rfl ?_
        refine xx_putN (pc := 53) dX8_hear_53 sh_55 fX8_81_8 rfl rfl ?_
        refine xx_nw (fun w8 ew8 => ?_)
        have z4_w8 : w8 55 4 = w 55 4 := by rw [ew8, wu_k _ _ _ _ (by omega)]; exact z4_w7
        refine xx_aload_nP (pc := 56) dX8_hear_56 1 rfl rfl ?_
        refine xx_dup (pc := 57) dX8_hear_57 rfl ?_
        refine xx_getN (pc := 58) dX8_hear_58 sh_55 fX8_33_8 rfl ?_
        refine xx_iconst (pc := 61) dX8_hear_61 cc_iconst_1 ?_
        refine xx_iaddN (pc := 62) dX8_hear_62 ?_
        refine xx_eqI (y := nI (w 55 4 + 1)) (by rw [z4_w8]) ?_
        refine xx_putN (pc := 63) dX8_hear_63 sh_55 fX8_33_8 rfl rfl ?_
        refine xx_nw (fun w9 ew9 => ?_)
        exact xx_vret (pc := 66) dX8_hear_66 rfl (Nat.le_refl _) (Nat.le_refl _) (ic_rv0 (by first | (exfalso; omega) | (refine congrArg hn ?_; rw [ew9, ew8, ew7, ew6]; simp only [wu_wr, wr_s, wr_wr]; refine congrArg (wr w 55) ?_; unfold cl_hr; first | (rw [if_neg (by omega), if_pos (by omega)] <;> rfl) | (rw [if_neg (by omega), if_neg (by omega)] <;> rfl) | (rw [if_pos (by omega), if_pos (by omega)] <;> rfl) | (rw [if_pos (by omega), if_neg (by omega)] <;> rfl))))
    · exact xx_vret (pc := 33) dX8_hear_33 rfl (Nat.le_refl _) (Nat.le_refl _) (ic_rv0 (by first | (exfalso; omega) | (refine congrArg hn ?_; refine (wr_id w 55).symm.trans ?_; refine congrArg (wr w 55) ?_; unfold cl_hr; first | (rw [if_neg (by omega), if_pos (by omega)] <;> rfl) | (rw [if_neg (by omega), if_neg (by omega)] <;> rfl) | (rw [if_pos (by omega), if_pos (by omega)] <;> rfl) | (rw [if_pos (by omega), if_neg (by omega)] <;> rfl))))
  · have hs1 := size_1 _ hwr c2
    refine xx_aload_nP (pc := 17) dX8_hear_17 1 rfl rfl ?_
    refine xx_dup (pc := 18) dX8_hear_18 rfl ?_
    refine xx_getN (pc := 19) dX8_hear_19 sh_55 fX8_36_8 rfl ?_
    refine xx_iload (pc := 22) dX8_hear_22 0 rfl ?_
    refine xx_iorN (pc := 24) dX8_hear_24 ?_
    refine xx_putN (pc := 25) dX8_hear_25 sh_55 fX8_36_8 rfl rfl ?_
    refine xx_nw (fun w10 ew10 => ?_)
    have z4_w10 : w10 55 4 = w 55 4 := by rw [ew10, wu_k _ _ _ _ (by omega)]
    refine xx_iload (pc := 28) dX8_hear_28 0 rfl ?_
    refine xx_if_eqN (pc := 30) 34 dX8_hear_30 rfl (by omega) (fun c11 => ?_) (fun c11 => ?_)
    · refine xx_aload_nP (pc := 34) dX8_hear_34 1 rfl rfl ?_
      refine xx_getN (pc := 35) dX8_hear_35 sh_55 fX8_33_8 rfl ?_
      refine xx_if_neN (pc := 38) 56 dX8_hear_38 rfl (by omega) (fun c12 => ?_) (fun c12 => ?_)
      · refine xx_aload_nP (pc := 56) dX8_hear_56 1 rfl rfl ?_
        refine xx_dup (pc := 57) dX8_hear_57 rfl ?_
        refine xx_getN (pc := 58) dX8_hear_58 sh_55 fX8_33_8 rfl ?_
        refine xx_iconst (pc := 61) dX8_hear_61 cc_iconst_1 ?_
        refine xx_iaddN (pc := 62) dX8_hear_62 ?_
        refine xx_eqI (y := nI (w 55 4 + 1)) (by rw [z4_w10]) ?_
        refine xx_putN (pc := 63) dX8_hear_63 sh_55 fX8_33_8 rfl rfl ?_
        refine xx_nw (fun w13 ew13 => ?_)
        exact xx_vret (pc := 66) dX8_hear_66 rfl (Nat.le_refl _) (Nat.le_refl _) (ic_rv0 (by first | (exfalso; omega) | (refine congrArg hn ?_; rw [ew13, ew10]; simp only [wu_wr, wr_s, wr_wr]; refine congrArg (wr w 55) ?_; unfold cl_hr; first | (rw [if_neg (by omega), if_pos (by omega)] <;> rfl) | (rw [if_neg (by omega), if_neg (by omega)] <;> rfl) | (rw [if_pos (by omega), if_pos (by omega)] <;> rfl) | (rw [if_pos (by omega), if_neg (by omega)] <;> rfl))))
      · refine xx_aload_nP (pc := 41) dX8_hear_41 1 rfl rfl ?_
        refine xx_iload_n (pc := 42) dX8_hear_42 2 rfl rfl ?_
        refine xx_putN (pc := 43) dX8_hear_43 sh_55 fX8_75_8 rfl rfl ?_
        refine xx_nw (fun w14 ew14 => ?_)
        have z4_w14 : w14 55 4 = w 55 4 := by rw [ew14, wu_k _ _ _ _ (by omega)]; exact z4_w10
        refine xx_aload_nP (pc := 46) dX8_hear_46 1 rfl rfl ?_
        refine xx_iload_n (pc := 47) dX8_hear_47 3 rfl rfl ?_
        refine xx_putN (pc := 48) dX8_hear_48 sh_55 fX8_78_8 rfl rfl ?_
        refine xx_nw (fun w15 ew15 => ?_)
        have z4_w15 : w15 55 4 = w 55 4 := by rw [ew15, wu_k _ _ _ _ (by omega)]; exact z4_w14
        refine xx_aload_nP (pc := 51) dX8_hear_51 1 rfl rfl ?_
        refine xx_iload_n (pc := 52) dX8_hear_52 4 rfl rfl ?_
        refine xx_putN (pc := 53) dX8_hear_53 sh_55 fX8_81_8 rfl rfl ?_
        refine xx_nw (fun w16 ew16 => ?_)
        have z4_w16 : w16 55 4 = w 55 4 := by rw [ew16, wu_k _ _ _ _ (by omega)]; exact z4_w15
        refine xx_aload_nP (pc := 56) dX8_hear_56 1 rfl rfl ?_
        refine xx_dup (pc := 57) dX8_hear_57 rfl ?_
        refine xx_getN (pc := 58) dX8_hear_58 sh_55 fX8_33_8 rfl ?_
        refine xx_iconst (pc := 61) dX8_hear_61 cc_iconst_1 ?_
        refine xx_iaddN (pc := 62) dX8_hear_62 ?_
        refine xx_eqI (y := nI (w 55 4 + 1)) (by rw [z4_w16]) ?_
        refine xx_putN (pc := 63) dX8_hear_63 sh_55 fX8_33_8 rfl rfl ?_
        refine xx_nw (fun w17 ew17 => ?_)
        exact xx_vret (pc := 66) dX8_hear_66 rfl (Nat.le_refl _) (Nat.le_refl _) (ic_rv0 (by first | (exfalso; omega) | (refine congrArg hn ?_; rw [ew17, ew16, ew15, ew14, ew10]; simp only [wu_wr, wr_s, wr_wr]; refine congrArg (wr w 55) ?_; unfold cl_hr; first | (rw [if_neg (by omega), if_pos (by omega)] <;> rfl) | (rw [if_neg (by omega), if_neg (by omega)] <;> rfl) | (rw [if_pos (by omega), if_pos (by omega)] <;> rfl) | (rw [if_pos (by omega), if_neg (by omega)] <;> rfl))))
    · exact xx_vret (pc := 33) dX8_hear_33 rfl (Nat.le_refl _) (Nat.le_refl _) (ic_rv0 (by first | (exfalso; omega) | (refine congrArg hn ?_; rw [ew10]; simp only [wu_wr, wr_s, wr_wr]; refine congrArg (wr w 55) ?_; unfold cl_hr; first | (rw [if_neg (by omega), if_pos (by omega)] <;> rfl) | (rw [if_neg (by omega), if_neg (by omega)] <;> rfl) | (rw [if_pos (by omega), if_pos (by omega)] <;> rfl) | (rw [if_pos (by omega), if_neg (by omega)] <;> rfl))))

set_option maxHeartbeats 4000000 in
set_option maxRecDepth 100000 in
theorem cC_ask {l : Launch} {E : ic_E} {w : ic_w} {s : Nat → Nat} (hN : Cn w s) (hIn : In s) (hRp : Rp s) (h63 : w 63 0 = 0) (h64 : w 64 0 = 0) : ic_C l E mX8_ask 6 0 0 False [ic_pt E 55, ic_pt E 39] SHs (hn w) SHs (ic_qv (fun h_ => ∃ w2, h_ = hn w2 ∧ Fr w w2 ∧ Hs w2 s 500)) := by
  refine ic_intro (by decide +kernel) (Nat.le_of_ble_eq_true rfl) ?_
  show xx l E _ _ 0 [(0, ic_pt E 55), (1, ic_pt E 39)] _ _ _
  refine xx_aload_nP (pc := 0) dX8_ask_0 0 rfl rfl ?_
  refine xx_iconst (pc := 1) dX8_ask_1 cc_iconst_0 ?_
  refine xx_putN (pc := 2) dX8_ask_2 sh_55 fX8_33_8 rfl rfl ?_
  refine xx_nw (fun w1 ew1 => ?_)
  refine xx_aload_nP (pc := 5) dX8_ask_5 0 rfl rfl ?_
  refine xx_iconst (pc := 6) dX8_ask_6 cc_iconst_0 ?_
  refine xx_putN (pc := 7) dX8_ask_7 sh_55 fX8_36_8 rfl rfl ?_
  refine xx_nw (fun w2 ew2 => ?_)
  refine xx_iconst (pc := 10) dX8_ask_10 cc_iconst_1 ?_
  refine xx_istore_n (L' := [(2, .int (nI 1)), (0, ic_pt E 55), (1, ic_pt E 39)]) (pc := 11) dX8_ask_11 rfl (Nat.le_of_ble_eq_true rfl) rfl ?_
  have h0_ : ∀ a, a ≠ 55 → w2 a = w a := fun a h1 => by rw [ew2, wu_row _ _ _ h1, ew1, wu_row _ _ _ h1]
  have h5_ : w2 55 0 = w 55 0 := by rw [ew2, wu_k _ _ _ _ (by omega), ew1, wu_k _ _ _ _ (by omega)]
  have s0_ : Hs w2 s 0 := ⟨by rw [ew2, ew1]; simp [wu]; rfl, by rw [ew2, ew1]; simp [wu]; rfl, fun z => absurd rfl z⟩
  have lp : ∀ (n_ : Nat) (kd : Nat) (u : ic_w), 1 ≤ kd ∧ kd ≤ 6 → (∀ a, a ≠ 55 → a ≠ 63 → a ≠ 64 → u a = w2 a) → u 55 0 = w2 55 0 → u 63 0 = 0 ∧ u 64 0 = 0 → Hs u s (100 * (kd - 1)) → 6 - kd < n_ → xx l E (ic_fr E mX8_ask 6 0 0 False SHs (ic_qv (fun h_ => ∃ w2, h_ = hn w2 ∧ Fr w w2 ∧ Hs w2 s 500))) (0, 0) 12 [(2, .int (nI kd)), (0, ic_pt E 55), (1, ic_pt E 39)] [] SHs (hn u) := by
    intro n_
    induction n_ with
    | zero => intro kd u hk hu hu5 hz hs hm_; exact absurd hm_ (Nat.not_lt_zero _)
    | succ n_ ih_ =>
      intro kd u hk hu hu5 hz hs hm_
      have hN_u : Cn u s := hN.of (by rw [hu _ (by omega) (by omega) (by omega), h0_ _ (by omega)]) (by rw [hu _ (by omega) (by omega) (by omega), h0_ _ (by omega)]) (by rw [hu5, h5_]) (fun a _ _ _ _ _ _ _ _ => by rw [hu _ (by omega) (by omega) (by omega), h0_ _ (by omega)])
      refine xx_iload_n (pc := 12) dX8_ask_12 0 rfl rfl ?_
      refine xx_bipush (pc := 13) dX8_ask_13 cc_bipush_6 ?_
      refine xx_icmp_geN (pc := 15) 68 dX8_ask_15 rfl (by omega) (by omega) (fun c23 => ?_) (fun c23 => ?_)
      · exact xx_vret (pc := 68) dX8_ask_68 rfl (Nat.le_refl _) (Nat.le_refl _) (ic_rv0 ⟨u, rfl, ⟨fun a ha => by rw [hu a (by omega) (by omega) (by omega)]; exact h0_ a (by omega), by rw [hu5]; exact h5_, hz.1, hz.2⟩, by rw [show kd = 6 by omega] at hs; exact hs⟩)
      · refine xx_aload_nP (pc := 18) dX8_ask_18 1 rfl rfl ?_
        refine xx_aload_nP (pc := 19) dX8_ask_19 2 rfl rfl ?_
        refine xx_iload_n (pc := 20) dX8_ask_20 0 rfl rfl ?_
        refine xx_callV0 (pc := 21) (st := []) sh_55 (cC_follow (w := u) (kd := kd) (s := s) hN_u hIn (by omega) hz.1 hz.2) kX8_follow vX8_39_8 dX8_ask_21 rfl rfl (Nat.le_of_ble_eq_true rfl) ⟨Nat.le_of_ble_eq_true rfl, Nat.le_of_ble_eq_true rfl⟩ ⟨Nat.zero_le _, Nat.zero_le _⟩ (ic_kv (fun h_ qw24 => ?_))
        obtain ⟨w24, rfl, fw24, z1, z2, dd⟩ := qw24
        have s_w24 : Hs w24 s (100 * (kd - 1)) := hs.of (fw24 55 (by omega) (by omega))
        refine xx_iconst (pc := 24) dX8_ask_24 cc_iconst_0 ?_
        refine xx_istore_n (L' := [(3, .int (nI 0)), (2, .int (nI kd)), (0, ic_pt E 55), (1, ic_pt E 39)]) (pc := 25) dX8_ask_25 rfl (Nat.le_of_ble_eq_true rfl) rfl ?_
        have lq : ∀ (n_i : Nat) (p : Nat) (x : ic_w), p ≤ 6 → (∀ a, a ≠ 55 → x a = w24 a) → x 55 0 = w24 55 0 → Hs x s (100 * (kd - 1) + 10 * p) → 6 - p < n_i → xx l E (ic_fr E mX8_ask 6 0 0 False SHs (ic_qv (fun h_ => ∃ w2, h_ = hn w2 ∧ Fr w w2 ∧ Hs w2 s 500))) (0, 0) 26 [(3, .int (nI p)), (2, .int (nI kd)), (0, ic_pt E 55), (1, ic_pt E 39)] [] SHs (hn x) := by
          intro n_i
          induction n_i with
          | zero => intro p x hp hx hx5 hs2 hm_i; exact absurd hm_i (Nat.not_lt_zero _)
          | succ n_i ih_i =>
            intro p x hp hx hx5 hs2 hm_i
            refine xx_iload_n (pc := 26) dX8_ask_26 0 rfl rfl ?_
            refine xx_bipush (pc := 27) dX8_ask_27 cc_bipush_6 ?_
            refine xx_icmp_geN (pc := 29) 62 dX8_ask_29 rfl (by omega) (by omega) (fun c46 => ?_) (fun c46 => ?_)
            · refine xx_iincN (L' := [(2, .int (nI (kd + 1))), (3, .int (nI p)), (0, ic_pt E 55), (1, ic_pt E 39)]) (pc := 62) dX8_ask_62 1 rfl cc_iconst_1 (Nat.le_of_ble_eq_true rfl) rfl ?_
              refine xx_goto (pc := 65) 12 dX8_ask_65 rfl ?_
              have hs6 := hs2.skips hIn 40 (fun i hi => by omega)
              exact xx_sub [0, 2, 3] rfl (ih_ (kd + 1) x (by omega) (fun a h1 h2 h3 => by rw [hx a h1, fw24 a h2 h3]; exact hu a h1 h2 h3) (by rw [hx5, fw24 55 (by omega) (by omega)]; exact hu5) ⟨by rw [hx 63 (by omega)]; exact z1, by rw [hx 64 (by omega)]; exact z2⟩ (by rw [show 100 * (kd + 1 - 1) = 100 * (kd - 1) + 10 * p + 40 by omega]; exact hs6) (by omega))
            · refine xx_iconst (pc := 32) dX8_ask_32 cc_iconst_0 ?_
              refine xx_istore (L' := [(4, .int (nI 0)), (3, .int (nI p)), (2, .int (nI kd)), (0, ic_pt E 55), (1, ic_pt E 39)]) (pc := 33) dX8_ask_33 (Nat.le_of_ble_eq_true rfl) rfl ?_
              have lr : ∀ (n_j : Nat) (e d : Nat) (y : ic_w), e ≤ 10 ∧ d = 9 * e → (∀ a, a ≠ 55 → y a = x a) → y 55 0 = x 55 0 → Hs y s (100 * (kd - 1) + 10 * p + e) → 10 - e < n_j → xx l E (ic_fr E mX8_ask 6 0 0 False SHs (ic_qv (fun h_ => ∃ w2, h_ = hn w2 ∧ Fr w w2 ∧ Hs w2 s 500))) (0, 0) 35 [(4, .int (nI d)), (3, .int (nI p)), (2, .int (nI kd)), (0, ic_pt E 55), (1, ic_pt E 39)] [] SHs (hn y) := by
                intro n_j
                induction n_j with
                | zero => intro e d y he hy hy5 hs3 hm_j; exact absurd hm_j (Nat.not_lt_zero _)
                | succ n_j ih_j =>
                  intro e d y he hy hy5 hs3 hm_j
                  refine xx_iload (pc := 35) dX8_ask_35 0 rfl ?_
                  refine xx_bipush (pc := 37) dX8_ask_37 cc_bipush_81 ?_
                  refine xx_icmp_gtN (pc := 39) 56 dX8_ask_39 rfl (by omega) (by omega) (fun c67 => ?_) (fun c67 => ?_)
                  · refine xx_iincN (L' := [(3, .int (nI (p + 1))), (4, .int (nI d)), (2, .int (nI kd)), (0, ic_pt E 55), (1, ic_pt E 39)]) (pc := 56) dX8_ask_56 1 rfl cc_iconst_1 (Nat.le_of_ble_eq_true rfl) rfl ?_
                    refine xx_goto (pc := 59) 26 dX8_ask_59 rfl ?_
                    exact xx_sub [0, 2, 3, 4] rfl (ih_i (p + 1) y (by omega) (fun a h => by rw [hy a h]; exact hx a h) (by rw [hy5]; exact hx5) (by rw [show 100 * (kd - 1) + 10 * (p + 1) = 100 * (kd - 1) + 10 * p + e by omega]; exact hs3) (by omega))
                  · refine xx_aload_nP (pc := 42) dX8_ask_42 3 rfl rfl ?_
                    refine xx_iload_n (pc := 43) dX8_ask_43 2 rfl rfl ?_
                    refine xx_iload_n (pc := 44) dX8_ask_44 1 rfl rfl ?_
                    refine xx_iload (pc := 45) dX8_ask_45 0 rfl ?_
                    have hN_y : Cn y s := hN_u.of (by rw [hy _ (by omega), hx _ (by omega), fw24 _ (by omega) (by omega)]) (by rw [hy _ (by omega), hx _ (by omega), fw24 _ (by omega) (by omega)]) (by rw [hy5, hx5, fw24 55 (by omega) (by omega)]) (fun a _ _ _ _ _ _ _ _ => by rw [hy _ (by omega), hx _ (by omega), fw24 _ (by omega) (by omega)])
                    have hcl := mo_cnt_le (fun i => mo_lf s 4294967295 (100 + i)) (100 * (kd - 1) + 10 * p + e)
                    refine xx_callV0 (pc := 47) (st := []) sh_55 (cC_hear (w := y) (kd := kd) (p := p) (d := d) (s := s) hN_y hIn hRp (by omega) (by omega) (by rw [hs3.1]; omega) (fun j hj => by rw [hy 63 (by omega), hy 64 (by omega), hx 63 (by omega), hx 64 (by omega)]; exact dd j hj)) kX8_hear vX8_43_8 dX8_ask_47 rfl rfl (Nat.le_of_ble_eq_true rfl) ⟨Nat.le_of_ble_eq_true rfl, Nat.le_of_ble_eq_true rfl⟩ ⟨Nat.zero_le _, Nat.zero_le _⟩ (ic_kv (fun h_ qw68 => ?_))
                    obtain rfl := qw68
                    refine xx_nw (fun w68 ew68 => ?_)
                    refine xx_iincN (L' := [(4, .int (nI (d + 9))), (3, .int (nI p)), (2, .int (nI kd)), (0, ic_pt E 55), (1, ic_pt E 39)]) (pc := 50) dX8_ask_50 0 rfl cc_iconst_9 (Nat.le_of_ble_eq_true rfl) rfl ?_
                    refine xx_goto (pc := 53) 35 dX8_ask_53 rfl ?_
                    have h0r : w68 55 0 = y 55 0 := by
                      rw [ew68, wr_s]
                      unfold cl_hr
                      split
                      · split
                        · rw [fu_n _ (by omega), fu_n _ (by omega), fu_n _ (by omega), fu_n _ (by omega)]
                        · rw [fu_n _ (by omega)]
                      · split
                        · rw [fu_n _ (by omega)]
                        · rfl
                    exact xx_sub [0, 1, 2, 3, 4] rfl (ih_j (e + 1) _ w68 (by omega) (fun a h => by rw [ew68, wr_n _ h]; exact hy a h) (by rw [h0r]; exact hy5) (by rw [show 100 * (kd - 1) + 10 * p + (e + 1) = 100 * (kd - 1) + 10 * p + e + 1 by omega, ew68]; exact hs3.hear hIn (by omega) (by omega) (by omega) (by omega)) (by omega))
              exact xx_sub [0, 1, 2, 3, 4] rfl (lr 11 0 0 x (by omega) (fun _ _ => rfl) rfl (by rw [Nat.add_zero]; exact hs2) (by omega))
        exact xx_sub [0, 1, 2, 3] rfl (lq 7 0 w24 (by omega) (fun _ _ => rfl) rfl (by rw [Nat.mul_zero, Nat.add_zero]; exact s_w24) (by omega))
  exact xx_sub [0, 1, 2] rfl (lp 7 1 w2 (by omega) (fun _ _ _ _ => rfl) rfl ⟨by rw [h0_ _ (by omega)]; exact h63, by rw [h0_ _ (by omega)]; exact h64⟩ s0_ (by omega))

set_option maxHeartbeats 4000000 in
set_option maxRecDepth 100000 in
theorem cC_lone {l : Launch} {E : ic_E} {w : ic_w} {k : Nat} (hk_ : k < 2 ^ 32) {s : Nat → Nat} (hC : Cw w s) (hIn : In s) (hRp : Rp s) (h63 : w 63 0 = 0) (h64 : w 64 0 = 0) : ic_C l E mX11_lone 7 0 0 False [ic_pt E 0, .int (nI k)] SHs (hn w) SHs (ic_qi (fun v_ h_ => v_ = nI (if k ≤ 3 then mo_lone s k else 4294967295) ∧ ∃ w2, h_ = hn w2 ∧ Fr w w2)) := by
  refine ic_intro (by decide +kernel) (Nat.le_of_ble_eq_true rfl) ?_
  show xx l E _ _ 0 [(0, ic_pt E 0), (1, .int (nI k))] _ _ _
  have hN := hC.1
  have hm := hC.2.1
  have n5_w := hC.2.2.1
  have n6_w := hC.2.2.2
  have hn0 := hIn.n
  have htt := hIn.t
  have hcr := hIn.cr (s 1)
  have n1_w : w 39 10 = s 0 := hN.n
  have n2_w : w 39 11 = s 2 := hN.e
  have n3_w : w 46 0 = s 1 := hm.t
  have n4_w : w 46 1 = mo_outs s := hm.o
  refine xx_iload_n (pc := 0) dX11_lone_0 1 rfl rfl ?_
  refine xx_iconst (pc := 1) dX11_lone_1 cc_iconst_0 ?_
  refine xx_iconst (pc := 2) dX11_lone_2 cc_iconst_3 ?_
  refine xx_callS0 (pc := 3) (st := []) (cC_within (w := w) (v := k) (lo := 0) (hi := 3) (by omega) (by omega) (by omega)) kX11_within sX11_94 dX11_lone_3 rfl rfl (Nat.le_of_ble_eq_true rfl) ⟨Nat.le_of_ble_eq_true rfl, Nat.le_of_ble_eq_true rfl⟩ ⟨Nat.zero_le _, Nat.zero_le _⟩ (ic_ke ?_)
  refine xx_if_neB (pc := 6) 11 dX11_lone_6 rfl (fun c1 => ?_) (fun c1 => ?_)
  · refine xx_aload_nP (pc := 11) dX11_lone_11 0 rfl rfl ?_
    refine xx_getR (pc := 12) 39 dX11_lone_12 sh_0 fX11_74_11 rfl rfl (by decide) ?_
    refine xx_getR (pc := 15) 55 dX11_lone_15 sh_39 fX11_286_5 rfl rfl (by decide) ?_
    refine xx_astore_n (L' := [(2, ic_pt E 55), (0, ic_pt E 0), (1, .int (nI k))]) (pc := 18) dX11_lone_18 rfl (Nat.le_of_ble_eq_true rfl) rfl ?_
    refine xx_aload_nP (pc := 19) dX11_lone_19 0 rfl rfl ?_
    refine xx_aload_nP (pc := 20) dX11_lone_20 1 rfl rfl ?_
    refine xx_getR (pc := 21) 39 dX11_lone_21 sh_0 fX11_74_11 rfl rfl (by decide) ?_
    refine xx_callV0 (pc := 24) (st := []) sh_55 (cC_ask (w := w) (s := s) hN hIn hRp h63 h64) kX8_ask vX11_294_8 dX11_lone_24 rfl rfl (Nat.le_of_ble_eq_true rfl) ⟨Nat.le_of_ble_eq_true rfl, Nat.le_of_ble_eq_true rfl⟩ ⟨Nat.zero_le _, Nat.zero_le _⟩ (ic_kv (fun h_ qw2 => ?_))
    obtain ⟨w2, rfl, fw2, sw2⟩ := qw2
    have hfl : w2 55 4 ≤ 500 := by rw [sw2.1]; exact mo_cnt_le _ _
    have hsl : w2 55 8 < 64 := by rw [sw2.2.1]; exact mo_su_lt hIn 500
    refine xx_iload_n (pc := 27) dX11_lone_27 2 rfl rfl ?_
    refine xx_if_neN (pc := 28) 36 dX11_lone_28 rfl (by omega) (fun c4 => ?_) (fun c4 => ?_)
    · refine xx_aload_nP (pc := 36) dX11_lone_36 0 rfl rfl ?_
      refine xx_getN (pc := 37) dX11_lone_37 sh_55 fX11_297_8 rfl ?_
      refine xx_if_neN (pc := 40) 46 dX11_lone_40 rfl (by omega) (fun c5 => ?_) (fun c5 => ?_)
      · refine xx_iload_n (pc := 46) dX11_lone_46 2 rfl rfl ?_
        refine xx_iconst (pc := 47) dX11_lone_47 cc_iconst_1 ?_
        refine xx_icmp_neN (pc := 48) 58 dX11_lone_48 rfl (by omega) (by omega) (fun c6 => ?_) (fun c6 => ?_)
        · refine xx_iload_n (pc := 58) dX11_lone_58 2 rfl rfl ?_
          refine xx_iconst (pc := 59) dX11_lone_59 cc_iconst_2 ?_
          refine xx_icmp_neN (pc := 60) 70 dX11_lone_60 rfl (by omega) (by omega) (fun c7 => ?_) (fun c7 => ?_)
          · refine xx_aload_nP (pc := 70) dX11_lone_70 0 rfl rfl ?_
            refine xx_getN (pc := 71) dX11_lone_71 sh_55 fX11_306_8 rfl ?_
            exact xx_iret (pc := 74) dX11_lone_74 rfl (rfl) (Nat.le_refl _) (Nat.le_refl _) (ic_ri ⟨by have hz : mo_lfs s 4294967295 = w2 55 4 := sw2.1.symm; have h5 := sw2.2.2 (by rw [← sw2.1]; omega); rw [if_pos (by omega)]; unfold mo_lone; rw [if_neg (by omega), if_neg (by omega), if_neg (by omega), if_neg (by omega), h5.2.2]; rfl, w2, rfl, fw2⟩)
          · refine xx_aload_nP (pc := 63) dX11_lone_63 0 rfl rfl ?_
            refine xx_getN (pc := 64) dX11_lone_64 sh_55 fX11_303_8 rfl ?_
            refine xx_goto (pc := 67) 74 dX11_lone_67 rfl ?_
            exact xx_iret (pc := 74) dX11_lone_74 rfl (rfl) (Nat.le_refl _) (Nat.le_refl _) (ic_ri ⟨by have hz : mo_lfs s 4294967295 = w2 55 4 := sw2.1.symm; have h5 := sw2.2.2 (by rw [← sw2.1]; omega); rw [if_pos (by omega)]; unfold mo_lone; rw [if_neg (by omega), if_neg (by omega), if_neg (by omega), if_pos (by omega), h5.2.1]; rfl, w2, rfl, fw2⟩)
        · refine xx_aload_nP (pc := 51) dX11_lone_51 0 rfl rfl ?_
          refine xx_getN (pc := 52) dX11_lone_52 sh_55 fX11_300_8 rfl ?_
          refine xx_goto (pc := 55) 74 dX11_lone_55 rfl ?_
          exact xx_iret (pc := 74) dX11_lone_74 rfl (rfl) (Nat.le_refl _) (Nat.le_refl _) (ic_ri ⟨by have hz : mo_lfs s 4294967295 = w2 55 4 := sw2.1.symm; have h5 := sw2.2.2 (by rw [← sw2.1]; omega); rw [if_pos (by omega)]; unfold mo_lone; rw [if_neg (by omega), if_neg (by omega), if_pos (by omega), h5.1]; rfl, w2, rfl, fw2⟩)
      · refine xx_bipush (pc := 43) dX11_lone_43 cc_bipush_m3 ?_
        exact xx_iret (pc := 45) dX11_lone_45 rfl (rfl) (Nat.le_refl _) (Nat.le_refl _) (ic_ri ⟨by have hz : mo_lfs s 4294967295 = w2 55 4 := sw2.1.symm; rw [if_pos (by omega)]; unfold mo_lone; rw [if_neg (by omega), if_pos (by omega)], w2, rfl, fw2⟩)
    · refine xx_aload_nP (pc := 31) dX11_lone_31 0 rfl rfl ?_
      refine xx_getN (pc := 32) dX11_lone_32 sh_55 fX11_297_8 rfl ?_
      exact xx_iret (pc := 35) dX11_lone_35 rfl (rfl) (Nat.le_refl _) (Nat.le_refl _) (ic_ri ⟨by have hz : mo_lfs s 4294967295 = w2 55 4 := sw2.1.symm; rw [if_pos (by omega)]; unfold mo_lone; rw [if_pos (by omega), hz], w2, rfl, fw2⟩)
  · refine xx_iconst (pc := 9) dX11_lone_9 cc_iconst_m1 ?_
    exact xx_iret (pc := 10) dX11_lone_10 rfl (rfl) (Nat.le_refl _) (Nat.le_refl _) (ic_ri ⟨by rw [if_neg (by omega)], w, rfl, ⟨fun _ _ => rfl, rfl, h63, h64⟩⟩)

set_option maxHeartbeats 4000000 in
set_option maxRecDepth 100000 in
theorem cC_liar {l : Launch} {E : ic_E} {w : ic_w} {s : Nat → Nat} (hC : Cw w s) (hIn : In s) (hRp : Rp s) (h63 : w 63 0 = 0) (h64 : w 64 0 = 0) : ic_C l E mX11_liar 7 0 0 False [ic_pt E 0] SHs (hn w) SHs (ic_qi (fun v_ h_ => v_ = nI (mo_liar s) ∧ ∃ w2, h_ = hn w2 ∧ Fr w w2)) := by
  refine ic_intro (by decide +kernel) (Nat.le_of_ble_eq_true rfl) ?_
  show xx l E _ _ 0 [(0, ic_pt E 0)] _ _ _
  have hN := hC.1
  have hm := hC.2.1
  have n5_w := hC.2.2.1
  have n6_w := hC.2.2.2
  have hn0 := hIn.n
  have htt := hIn.t
  have hcr := hIn.cr (s 1)
  have n1_w : w 39 10 = s 0 := hN.n
  have n2_w : w 39 11 = s 2 := hN.e
  have n3_w : w 46 0 = s 1 := hm.t
  have n4_w : w 46 1 = mo_outs s := hm.o
  have hc6 := hIn.2.2.1
  refine xx_aload_nP (pc := 0) dX11_liar_0 0 rfl rfl ?_
  refine xx_getR (pc := 1) 39 dX11_liar_1 sh_0 fX11_74_11 rfl rfl (by decide) ?_
  refine xx_getR (pc := 4) 55 dX11_liar_4 sh_39 fX11_286_5 rfl rfl (by decide) ?_
  refine xx_aload_nP (pc := 7) dX11_liar_7 0 rfl rfl ?_
  refine xx_getR (pc := 8) 39 dX11_liar_8 sh_0 fX11_74_11 rfl rfl (by decide) ?_
  refine xx_callV0 (pc := 11) (st := []) sh_55 (cC_ask (w := w) (s := s) hN hIn hRp h63 h64) kX8_ask vX11_294_8 dX11_liar_11 rfl rfl (Nat.le_of_ble_eq_true rfl) ⟨Nat.le_of_ble_eq_true rfl, Nat.le_of_ble_eq_true rfl⟩ ⟨Nat.zero_le _, Nat.zero_le _⟩ (ic_kv (fun h_ qw1 => ?_))
  obtain ⟨w1, rfl, fw1, sw1⟩ := qw1
  have hfl : w1 55 4 ≤ 500 := by rw [sw1.1]; exact mo_cnt_le _ _
  have hsl : w1 55 8 < 64 := by rw [sw1.2.1]; exact mo_su_lt hIn 500
  refine xx_aload_nP (pc := 14) dX11_liar_14 0 rfl rfl ?_
  refine xx_getR (pc := 15) 39 dX11_liar_15 sh_0 fX11_74_11 rfl rfl (by decide) ?_
  refine xx_getR (pc := 18) 55 dX11_liar_18 sh_39 fX11_286_5 rfl rfl (by decide) ?_
  refine xx_getN (pc := 21) dX11_liar_21 sh_55 fX11_297_8 rfl ?_
  refine xx_if_leN (pc := 24) 30 dX11_liar_24 rfl (by omega) (fun c3 => ?_) (fun c3 => ?_)
  · refine xx_iconst (pc := 30) dX11_liar_30 cc_iconst_0 ?_
    refine xx_istore_n (L' := [(1, .int (nI 0)), (0, ic_pt E 0)]) (pc := 31) dX11_liar_31 rfl (Nat.le_of_ble_eq_true rfl) rfl ?_
    have hz0 : mo_lfs s 4294967295 = 0 := by have := sw1.1; show mo_cnt _ _ = 0; omega
    have hl0 : mo_liar s = mo_liN s (s 6) 0 := if_pos hz0
    have lp : ∀ (n_ : Nat) (i : Nat), i ≤ 6 → (i < s 6 → mo_liar s = mo_liN s (s 6 - i) i) ∧ (s 6 ≤ i → mo_liar s = 4294967293) → 6 - i < n_ → xx l E (ic_fr E mX11_liar 7 0 0 False SHs (ic_qi (fun v_ h_ => v_ = nI (mo_liar s) ∧ ∃ w2, h_ = hn w2 ∧ Fr w w2))) (0, 0) 32 [(1, .int (nI i)), (0, ic_pt E 0)] [] SHs (hn w1) := by
      intro n_
      induction n_ with
      | zero => intro i hi hq hm_; exact absurd hm_ (Nat.not_lt_zero _)
      | succ n_ ih_ =>
        intro i hi hq hm_
        refine xx_iload_n (pc := 32) dX11_liar_32 0 rfl rfl ?_
        refine xx_bipush (pc := 33) dX11_liar_33 cc_bipush_6 ?_
        refine xx_icmp_geN (pc := 35) 63 dX11_liar_35 rfl (by omega) (by omega) (fun c24 => ?_) (fun c24 => ?_)
        · refine xx_bipush (pc := 63) dX11_liar_63 cc_bipush_m3 ?_
          exact xx_iret (pc := 65) dX11_liar_65 rfl (rfl) (Nat.le_refl _) (Nat.le_refl _) (ic_ri ⟨by rw [hq.2 (by omega)], w1, rfl, fw1⟩)
        · have hb := mo_su_li hIn hz0 (i := i) (by omega)
          rw [← sw1.2.1] at hb
          refine xx_aload_nP (pc := 38) dX11_liar_38 1 rfl rfl ?_
          refine xx_getR (pc := 39) 39 dX11_liar_39 sh_0 fX11_74_11 rfl rfl (by decide) ?_
          refine xx_getR (pc := 42) 55 dX11_liar_42 sh_39 fX11_286_5 rfl rfl (by decide) ?_
          refine xx_getN (pc := 45) dX11_liar_45 sh_55 fX11_309_8 rfl ?_
          refine xx_iload_n (pc := 48) dX11_liar_48 0 rfl rfl ?_
          refine xx_callS0 (pc := 49) (st := []) (cC_has (w := w1) (t := w1 55 8) (k := i) (by omega) (by omega)) kX11_has sX11_236 dX11_liar_49 rfl rfl (Nat.le_of_ble_eq_true rfl) ⟨Nat.le_of_ble_eq_true rfl, Nat.le_of_ble_eq_true rfl⟩ ⟨Nat.zero_le _, Nat.zero_le _⟩ (ic_ke ?_)
          refine xx_if_eqB (pc := 52) 57 dX11_liar_52 rfl (fun c25 => ?_) (fun c25 => ?_)
          · refine xx_iincN (L' := [(1, .int (nI (i + 1))), (0, ic_pt E 0)]) (pc := 57) dX11_liar_57 0 rfl cc_iconst_1 (Nat.le_of_ble_eq_true rfl) rfl ?_
            refine xx_goto (pc := 60) 32 dX11_liar_60 rfl ?_
            exact xx_sub [0, 1] rfl (ih_ (i + 1) (by omega) ⟨fun z => by rw [hq.1 (by omega), show s 6 - i = (s 6 - (i + 1)) + 1 by omega, mo_liN, if_neg (fun y => by have := hb.mpr ⟨by omega, y⟩; omega)], fun z => by rcases (show i < s 6 ∨ s 6 ≤ i by omega) with y | y; (rw [hq.1 y, show s 6 - i = 0 + 1 by omega, mo_liN, if_neg (fun x => by have := hb.mpr ⟨y, x⟩; omega)]; rfl); exact hq.2 y⟩ (by omega))
          · refine xx_iload_n (pc := 55) dX11_liar_55 0 rfl rfl ?_
            exact xx_iret (pc := 56) dX11_liar_56 rfl (rfl) (Nat.le_refl _) (Nat.le_refl _) (ic_ri ⟨by rw [hq.1 (by omega), show s 6 - i = (s 6 - (i + 1)) + 1 by omega, mo_liN, if_pos (hb.mp (by omega)).2], w1, rfl, fw1⟩)
    exact xx_sub [0, 1] rfl (lp 7 0 (by omega) ⟨fun _ => hl0, fun z => by rw [hl0, show s 6 = 0 by omega]; rfl⟩ (by omega))
  · refine xx_bipush (pc := 27) dX11_liar_27 cc_bipush_m3 ?_
    exact xx_iret (pc := 29) dX11_liar_29 rfl (rfl) (Nat.le_refl _) (Nat.le_refl _) (ic_ri ⟨by unfold mo_liar; rw [if_neg (fun z => by have := sw1.1; unfold mo_lfs at z; omega)], w1, rfl, fw1⟩)

