/-! the law's switch and its loop-/

theorem lw_lt {L i : Nat} (hL : L ≤ 2560) (hi : i ≤ L) : nI L - nI 5 < nI i ↔ L < i + 5 := by
  rw [nI_subW (by omega), ← nI_mod, Int32.lt_iff_toInt_lt, nI_sgn (Nat.mod_lt _ (by decide)), nI_sgn (by omega)]
  split <;> split <;> omega
theorem lw_and (x : Int32) : ∃ m, m < 64 ∧ nI (tn x) &&& nI 63 = nI m := by
  refine ⟨tn (x &&& nI 63), ?_, by rw [nI_tn, nI_tn]⟩
  show ((x &&& nI 63).toBitVec).toNat < 64
  rw [Int32.toBitVec_and, BitVec.toNat_and]
  exact Nat.lt_of_le_of_lt Nat.and_le_right (by decide +kernel)
set_option maxHeartbeats 4000000 in
set_option maxRecDepth 100000 in
theorem lw_switch {l : Launch} {E : ic_E} {nm : String} {b L : Nat} {xs : Nat → Int32} {kc : Nat × Nat} {w : ic_w} {i m : Nat} (hcat : Value.category E.2.2.2.2.2.2 = 1) (hb : b < ic_b E) (hL : L ≤ 2560) (hi : i + 4 < L) (hk : kc.1 ≤ 600000 ∧ kc.2 ≤ 7302250) (h : Rel w) (hm : m < 64) (kk : ∀ u, Rel u → xx l E (lw_F E nm b L xs False) kc 1755 (lw_L E b i) [] SHs (hn u)) : xx l E (lw_F E nm b L xs False) kc 32 (lw_L E b i) [.int (nI m)] SHs (hn w) := by
  by_cases c0 : m = 0
  · subst c0
    exact xx_tin (pc := 32) (off := 220) 252 dL_law_32 (by decide +kernel) (by decide +kernel) (by decide +kernel) (by decide) (lc_0 hb hL hi hk h kk)
  by_cases c1 : m = 1
  · subst c1
    exact xx_tin (pc := 32) (off := 273) 305 dL_law_32 (by decide +kernel) (by decide +kernel) (by decide +kernel) (by decide) (lc_1 hb hL hi hk h kk)
  by_cases c2 : m = 2
  · subst c2
    exact xx_tin (pc := 32) (off := 306) 338 dL_law_32 (by decide +kernel) (by decide +kernel) (by decide +kernel) (by decide) (lc_2 hb hL hi hk h kk)
  by_cases c3 : m = 3
  · subst c3
    exact xx_tin (pc := 32) (off := 349) 381 dL_law_32 (by decide +kernel) (by decide +kernel) (by decide +kernel) (by decide) (lc_3 hb hL hi hk h kk)
  by_cases c4 : m = 4
  · subst c4
    exact xx_tin (pc := 32) (off := 382) 414 dL_law_32 (by decide +kernel) (by decide +kernel) (by decide +kernel) (by decide) (lc_4 hb hL hi hk h kk)
  by_cases c5 : m = 5
  · subst c5
    exact xx_tin (pc := 32) (off := 415) 447 dL_law_32 (by decide +kernel) (by decide +kernel) (by decide +kernel) (by decide) (lc_5 hb hL hi hk h kk)
  by_cases c6 : m = 6
  · subst c6
    exact xx_tin (pc := 32) (off := 458) 490 dL_law_32 (by decide +kernel) (by decide +kernel) (by decide +kernel) (by decide) (lc_6 hb hL hi hk h kk)
  by_cases c7 : m = 7
  · subst c7
    exact xx_tin (pc := 32) (off := 491) 523 dL_law_32 (by decide +kernel) (by decide +kernel) (by decide +kernel) (by decide) (lc_7 hb hL hi hk h kk)
  by_cases c8 : m = 8
  · subst c8
    exact xx_tin (pc := 32) (off := 514) 546 dL_law_32 (by decide +kernel) (by decide +kernel) (by decide +kernel) (by decide) (lc_8 hb hL hi hk h kk)
  by_cases c9 : m = 9
  · subst c9
    exact xx_tin (pc := 32) (off := 527) 559 dL_law_32 (by decide +kernel) (by decide +kernel) (by decide +kernel) (by decide) (lc_9 hb hL hi hk h kk)
  by_cases c10 : m = 10
  · subst c10
    exact xx_tin (pc := 32) (off := 550) 582 dL_law_32 (by decide +kernel) (by decide +kernel) (by decide +kernel) (by decide) (lc_10 hb hL hi hk h kk)
  by_cases c11 : m = 11
  · subst c11
    exact xx_tin (pc := 32) (off := 613) 645 dL_law_32 (by decide +kernel) (by decide +kernel) (by decide +kernel) (by decide) (lc_11 hcat hb hL hi hk h kk)
  by_cases c12 : m = 12
  · subst c12
    exact xx_tin (pc := 32) (off := 626) 658 dL_law_32 (by decide +kernel) (by decide +kernel) (by decide +kernel) (by decide) (lc_12 hb hL hi hk h kk)
  by_cases c13 : m = 13
  · subst c13
    exact xx_tin (pc := 32) (off := 639) 671 dL_law_32 (by decide +kernel) (by decide +kernel) (by decide +kernel) (by decide) (lc_13 hb hL hi hk h kk)
  by_cases c14 : m = 14
  · subst c14
    exact xx_tin (pc := 32) (off := 662) 694 dL_law_32 (by decide +kernel) (by decide +kernel) (by decide +kernel) (by decide) (lc_14 hb hL hi hk h kk)
  by_cases c15 : m = 15
  · subst c15
    exact xx_tin (pc := 32) (off := 685) 717 dL_law_32 (by decide +kernel) (by decide +kernel) (by decide +kernel) (by decide) (lc_15 hb hL hi hk h kk)
  by_cases c16 : m = 16
  · subst c16
    exact xx_tin (pc := 32) (off := 708) 740 dL_law_32 (by decide +kernel) (by decide +kernel) (by decide +kernel) (by decide) (lc_16 hb hL hi hk h kk)
  by_cases c17 : m = 17
  · subst c17
    exact xx_tin (pc := 32) (off := 731) 763 dL_law_32 (by decide +kernel) (by decide +kernel) (by decide +kernel) (by decide) (lc_17 hb hL hi hk h kk)
  by_cases c18 : m = 18
  · subst c18
    exact xx_tin (pc := 32) (off := 754) 786 dL_law_32 (by decide +kernel) (by decide +kernel) (by decide +kernel) (by decide) (lc_18 hb hL hi hk h kk)
  by_cases c19 : m = 19
  · subst c19
    exact xx_tin (pc := 32) (off := 787) 819 dL_law_32 (by decide +kernel) (by decide +kernel) (by decide +kernel) (by decide) (lc_19 hb hL hi hk h kk)
  by_cases c20 : m = 20
  · subst c20
    exact xx_tin (pc := 32) (off := 810) 842 dL_law_32 (by decide +kernel) (by decide +kernel) (by decide +kernel) (by decide) (lc_20 hb hL hi hk h kk)
  by_cases c21 : m = 21
  · subst c21
    exact xx_tin (pc := 32) (off := 843) 875 dL_law_32 (by decide +kernel) (by decide +kernel) (by decide +kernel) (by decide) (lc_21 hb hL hi hk h kk)
  by_cases c22 : m = 22
  · subst c22
    exact xx_tin (pc := 32) (off := 866) 898 dL_law_32 (by decide +kernel) (by decide +kernel) (by decide +kernel) (by decide) (lc_22 hb hL hi hk h kk)
  by_cases c23 : m = 23
  · subst c23
    exact xx_tin (pc := 32) (off := 899) 931 dL_law_32 (by decide +kernel) (by decide +kernel) (by decide +kernel) (by decide) (lc_23 hb hL hi hk h kk)
  by_cases c24 : m = 24
  · subst c24
    exact xx_tin (pc := 32) (off := 922) 954 dL_law_32 (by decide +kernel) (by decide +kernel) (by decide +kernel) (by decide) (lc_24 hb hL hi hk h kk)
  by_cases c25 : m = 25
  · subst c25
    exact xx_tin (pc := 32) (off := 955) 987 dL_law_32 (by decide +kernel) (by decide +kernel) (by decide +kernel) (by decide) (lc_25 hb hL hi hk h kk)
  by_cases c26 : m = 26
  · subst c26
    exact xx_tin (pc := 32) (off := 988) 1020 dL_law_32 (by decide +kernel) (by decide +kernel) (by decide +kernel) (by decide) (lc_26 hb hL hi hk h kk)
  by_cases c27 : m = 27
  · subst c27
    exact xx_tin (pc := 32) (off := 1011) 1043 dL_law_32 (by decide +kernel) (by decide +kernel) (by decide +kernel) (by decide) (lc_27 hb hL hi hk h kk)
  by_cases c28 : m = 28
  · subst c28
    exact xx_tin (pc := 32) (off := 1034) 1066 dL_law_32 (by decide +kernel) (by decide +kernel) (by decide +kernel) (by decide) (lc_28 hb hL hi hk h kk)
  by_cases c29 : m = 29
  · subst c29
    exact xx_tin (pc := 32) (off := 1087) 1119 dL_law_32 (by decide +kernel) (by decide +kernel) (by decide +kernel) (by decide) (lc_29 hb hL hi hk h kk)
  by_cases c30 : m = 30
  · subst c30
    exact xx_tin (pc := 32) (off := 1100) 1132 dL_law_32 (by decide +kernel) (by decide +kernel) (by decide +kernel) (by decide) (lc_30 hb hL hi hk h kk)
  by_cases c31 : m = 31
  · subst c31
    exact xx_tin (pc := 32) (off := 1123) 1155 dL_law_32 (by decide +kernel) (by decide +kernel) (by decide +kernel) (by decide) (lc_31 hb hL hi hk h kk)
  by_cases c32 : m = 32
  · subst c32
    exact xx_tin (pc := 32) (off := 1136) 1168 dL_law_32 (by decide +kernel) (by decide +kernel) (by decide +kernel) (by decide) (lc_32 hb hL hi hk h kk)
  by_cases c33 : m = 33
  · subst c33
    exact xx_tin (pc := 32) (off := 1159) 1191 dL_law_32 (by decide +kernel) (by decide +kernel) (by decide +kernel) (by decide) (lc_33 hb hL hi hk h kk)
  by_cases c34 : m = 34
  · subst c34
    exact xx_tin (pc := 32) (off := 1172) 1204 dL_law_32 (by decide +kernel) (by decide +kernel) (by decide +kernel) (by decide) (lc_34 hb hL hi hk h kk)
  by_cases c35 : m = 35
  · subst c35
    exact xx_tin (pc := 32) (off := 1205) 1237 dL_law_32 (by decide +kernel) (by decide +kernel) (by decide +kernel) (by decide) (lc_35 hb hL hi hk h kk)
  by_cases c36 : m = 36
  · subst c36
    exact xx_tin (pc := 32) (off := 1228) 1260 dL_law_32 (by decide +kernel) (by decide +kernel) (by decide +kernel) (by decide) (lc_36 hb hL hi hk h kk)
  by_cases c37 : m = 37
  · subst c37
    exact xx_tin (pc := 32) (off := 1261) 1293 dL_law_32 (by decide +kernel) (by decide +kernel) (by decide +kernel) (by decide) (lc_37 hb hL hi hk h kk)
  by_cases c38 : m = 38
  · subst c38
    exact xx_tin (pc := 32) (off := 1304) 1336 dL_law_32 (by decide +kernel) (by decide +kernel) (by decide +kernel) (by decide) (lc_38 hb hL hi hk h kk)
  by_cases c39 : m = 39
  · subst c39
    exact xx_tin (pc := 32) (off := 1317) 1349 dL_law_32 (by decide +kernel) (by decide +kernel) (by decide +kernel) (by decide) (lc_39 hb hL hi hk h kk)
  by_cases c40 : m = 40
  · subst c40
    exact xx_tin (pc := 32) (off := 1360) 1392 dL_law_32 (by decide +kernel) (by decide +kernel) (by decide +kernel) (by decide) (lc_40 hb hL hi hk h kk)
  by_cases c41 : m = 41
  · subst c41
    exact xx_tin (pc := 32) (off := 1403) 1435 dL_law_32 (by decide +kernel) (by decide +kernel) (by decide +kernel) (by decide) (lc_41 hb hL hi hk h kk)
  by_cases c42 : m = 42
  · subst c42
    exact xx_tin (pc := 32) (off := 1446) 1478 dL_law_32 (by decide +kernel) (by decide +kernel) (by decide +kernel) (by decide) (lc_42 hb hL hi hk h kk)
  by_cases c43 : m = 43
  · subst c43
    exact xx_tin (pc := 32) (off := 1489) 1521 dL_law_32 (by decide +kernel) (by decide +kernel) (by decide +kernel) (by decide) (lc_43 hb hL hi hk h kk)
  by_cases c44 : m = 44
  · subst c44
    exact xx_tin (pc := 32) (off := 1532) 1564 dL_law_32 (by decide +kernel) (by decide +kernel) (by decide +kernel) (by decide) (lc_44 hb hL hi hk h kk)
  by_cases c45 : m = 45
  · subst c45
    exact xx_tin (pc := 32) (off := 1575) 1607 dL_law_32 (by decide +kernel) (by decide +kernel) (by decide +kernel) (by decide) (lc_45 hb hL hi hk h kk)
  by_cases c46 : m = 46
  · subst c46
    exact xx_tin (pc := 32) (off := 1608) 1640 dL_law_32 (by decide +kernel) (by decide +kernel) (by decide +kernel) (by decide) (lc_46 hb hL hi hk h kk)
  by_cases c47 : m = 47
  · subst c47
    exact xx_tin (pc := 32) (off := 1651) 1683 dL_law_32 (by decide +kernel) (by decide +kernel) (by decide +kernel) (by decide) (lc_47 hb hL hi hk h kk)
  by_cases c48 : m = 48
  · subst c48
    exact xx_tin (pc := 32) (off := 1674) 1706 dL_law_32 (by decide +kernel) (by decide +kernel) (by decide +kernel) (by decide) (lc_48 hb hL hi hk h kk)
  by_cases c49 : m = 49
  · subst c49
    exact xx_tin (pc := 32) (off := 1697) 1729 dL_law_32 (by decide +kernel) (by decide +kernel) (by decide +kernel) (by decide) (lc_49 hb hL hi hk h kk)
  by_cases c50 : m = 50
  · subst c50
    exact xx_tin (pc := 32) (off := 1710) 1742 dL_law_32 (by decide +kernel) (by decide +kernel) (by decide +kernel) (by decide) (lc_50 hb hL hi hk h kk)
  exact xx_tout (pc := 32) 1755 dL_law_32 (Or.inr (by rw [nI_sgn (by omega), if_pos (by omega)]; omega)) (by decide) (kk w h)
set_option maxHeartbeats 4000000 in
set_option maxRecDepth 100000 in
theorem lw_loop {l : Launch} {E : ic_E} {nm : String} {b L : Nat} {xs : Nat → Int32} {kc : Nat × Nat} (hcat : Value.category E.2.2.2.2.2.2 = 1) (hb : b < ic_b E) (hL : L ≤ 2560) (hk : kc.1 ≤ 600000 ∧ kc.2 ≤ 7302250) : ∀ (n i : Nat) (w : ic_w), Rel w → i ≤ L → L + 1 ≤ i + n → xx l E (lw_F E nm b L xs False) kc 18 (lw_L E b i) [] SHs (hn w) := by
  intro n
  induction n with
  | zero => intro i w h h1 h2; exact absurd h2 (by omega)
  | succ n ih =>
    intro i w h h1 h2
    refine xx_iload_n (pc := 18) dL_law_18 0 rfl rfl ?_
    refine xx_aload_n (pc := 19) dL_law_19 3 rfl rfl ?_
    refine lw_len (pc := 20) hb dL_law_20 ?_
    refine xx_iconst (pc := 21) dL_law_21 cc_iconst_5 ?_
    refine xx_isub (pc := 22) dL_law_22 ?_
    refine xx_icmp_gt (pc := 23) 1761 dL_law_23 (by decide) (fun c => ?_) (fun c => ?_)
    · refine xx_iconst (pc := 1761) dL_law_1761 cc_iconst_1 ?_
      exact lw_one (pc := 1762) dL_law_1762 hk
    · have hi : i + 4 < L := by
        have := (not_congr (lw_lt hL h1)).mp c
        omega
      refine xx_aload_n (pc := 26) dL_law_26 3 rfl rfl ?_
      refine xx_iload_n (pc := 27) dL_law_27 0 rfl rfl ?_
      refine lw_sld (pc := 28) hb hL (by omega) dL_law_28 ?_
      refine xx_bipush (v := nI 63) (pc := 29) dL_law_29 (by decide +kernel) ?_
      refine xx_iand (pc := 31) dL_law_31 ?_
      obtain ⟨m, hm, em⟩ := lw_and (xs i)
      rw [em]
      refine lw_switch hcat hb hL hi hk h hm (fun u hu => ?_)
      refine xx_iincN (pc := 1755) (b := 5) dL_law_1755 0 rfl (by decide +kernel) (Nat.le_of_ble_eq_true rfl) rfl ?_
      refine xx_goto (pc := 1758) 18 dL_law_1758 (by decide) ?_
      exact ih (i + 5) u hu (by omega) (by omega)
