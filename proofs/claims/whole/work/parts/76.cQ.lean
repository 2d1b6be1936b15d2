/-! the class: what is asked of plans -/
/-- what a search of plans leaves -/
def Ps (w : ic_w) (x : mo_X) : Prop := w 95 4 = x.1 18 ∧ w 95 5 = x.1 16 ∧ w 95 6 = x.1 17 ∧ w 95 7 = x.1 21 ∧ ((w 95 8 = 4294967293 ∧ x.1 20 = 9) ∨ (w 95 8 = x.1 20 ∧ x.1 20 ≤ 4)) ∧ (∀ j, j < x.1 18 → w 98 j = x.2 j) ∧ x.1 18 ≤ 4 ∧ x.1 16 ≤ 132
theorem Ps.mk {w u : ic_w} {s : Nat → Nat} {n want : Nat} (hI : In s) (hR : Ru s) (hn : n ≤ 4) (h5 : w 95 5 = 4294967295) (h4 : w 95 4 = min n (s 2 - s 1)) (h7 : w 95 7 = 0) (h8 : w 95 8 = 4294967293) (h9 : w 95 9 = want) (h : pl_P (cl_x w) (cl_x u) (0 + pl_mx n s) (1 * pl_ct n s) (w 95 4) (0 + pl_fw (w 95 9) n s) (pl_ev n s) (fun j => if j < 0 then w 97 j else pl_fi n s (j - 0))) (hk : Pk u) : Ps u (mo_sm s n want) := by
  have r := pl_R n s 0 0 0 (fun _ => 0) (mo_p0 want, fun _ => 0) hI hR (by omega) (by omega) (by show 9 ≤ 9; omega)
  obtain ⟨a16, a17, a18, a19, a20, a21, aj, -⟩ := r
  obtain ⟨b16, b17, b18, b19, b20, b21, bj, -⟩ := h
  have ml := pl_mx_le n s hI hR
  have t1 : mo_bt (mo_p0 want) (0 + pl_mx n s) := Or.inl rfl
  have t2 : mo_bt (cl_x w).1 (0 + pl_mx n s) := Or.inl h5
  have t1' : mo_bt ((mo_p0 want, (fun _ => 0)) : mo_X).1 (0 + pl_mx n s) := t1
  rw [if_pos t1'] at a16 a17 a18
  rw [if_pos t2] at b16 b17 b18
  have aj := aj t1'
  have bj := bj t2
  have e20 : (mo_sm s n want).1 20 = min 9 (pl_fw want n s) := by
    refine a20.trans ?_
    show min 9 (0 + pl_fw want n s) = _
    rw [Nat.zero_add]
  have f20 : (if u 95 8 = 4294967293 then 9 else u 95 8) = min 9 (pl_fw want n s) := by
    refine b20.trans ?_
    show min (if w 95 8 = 4294967293 then 9 else w 95 8) (0 + pl_fw (w 95 9) n s) = _
    rw [if_pos h8, h9, Nat.zero_add]
  refine ⟨?_, b16.trans a16.symm, ?_, ?_, ?_, ?_, ?_, ?_⟩
  · refine (show u 95 4 = w 95 4 from b18).trans ?_
    rw [h4]
    refine Eq.trans ?_ a18.symm
    rw [Nat.zero_add]
  · refine (show u 95 6 = _ from b17).trans ?_
    rw [Nat.one_mul]
    exact a17.symm
  · refine (show u 95 7 = _ from b21).trans ?_
    refine Eq.trans ?_ a21.symm
    show w 95 7 ||| _ = 0 ||| _
    rw [h7]
  · rw [e20]
    rcases hk.2.2.1 with z | z
    · left
      rw [if_pos z] at f20
      exact ⟨z, f20.symm⟩
    · right
      rw [if_neg (by omega)] at f20
      omega
  · intro j hj
    have hj2 : j < min n (s 2 - s 1) := by
      have e : (mo_sm s n want).1 18 = 0 + min n (s 2 - s 1) := a18
      omega
    exact (bj j (by rw [h4]; exact hj2)).trans (aj j (by omega)).symm
  · have e : (mo_sm s n want).1 18 = 0 + min n (s 2 - s 1) := a18
    omega
  · have e : (mo_sm s n want).1 16 = 0 + pl_mx n s := a16
    omega
theorem Fb.p0 {w a : ic_w} (h : Fb 0 w a) : Fp w a := ⟨fun q hq => h.1 q (by omega) (by omega) (by omega) (by omega) (by omega) (by omega), by rw [h.1 55 (by omega) (by omega) (by omega) (by omega) (by omega) (by omega)]⟩
set_option maxHeartbeats 4000000 in
set_option maxRecDepth 100000 in
theorem cC_begin {l : Launch} {E : ic_E} {w : ic_w} {n : Nat} {s : Nat → Nat} (hC : Cw w s) (hIn : In s) (hn4 : n ≤ 4) : ic_C l E mX6_begin 3 0 0 False [ic_pt E 95, .int (nI n)] SHs (hn w) SHs (ic_qv (fun h_ => ∃ w2, h_ = hn w2 ∧ w2 95 4 = min n (s 2 - s 1) ∧ (∀ j, j ≠ 4 → w2 95 j = w 95 j) ∧ Cs w2 99 s ∧ ∀ a, a ≠ 95 → a ≠ 99 → a ≠ 100 → a ≠ 101 → w2 a = w a)) := by
  refine ic_intro (by decide +kernel) (Nat.le_of_ble_eq_true rfl) ?_
  show xx l E _ _ 0 [(0, ic_pt E 95), (1, .int (nI n))] _ _ _
  have hN := hC.1
  have hm := hC.2.1
  have n5_w := hC.2.2.1
  have n6_w := hC.2.2.2
  have hn0 := hIn.n
  have htt := hIn.t
  have hcr := hIn.cr (s 1)
  have n1_w : w 39 10 = s 0 := hN.n
  have n2_w : w 39 11 = s 2 := hN.e
  have n3_w : w 46 0 = s 1 := hm.t
  have n4_w : w 46 1 = mo_outs s := hm.o
  refine xx_aload_nP (pc := 0) dX6_begin_0 0 rfl rfl ?_
  refine xx_iconst (pc := 1) dX6_begin_1 cc_iconst_0 ?_
  refine xx_iload_n (pc := 2) dX6_begin_2 1 rfl rfl ?_
  refine xx_aload_nP (pc := 3) dX6_begin_3 0 rfl rfl ?_
  refine xx_getR (pc := 4) 39 dX6_begin_4 sh_95 fX6_24_6 rfl rfl (by decide) ?_
  refine xx_getN (pc := 7) dX6_begin_7 sh_39 fX6_29_5 rfl ?_
  refine xx_aload_nP (pc := 10) dX6_begin_10 0 rfl rfl ?_
  refine xx_getR (pc := 11) 39 dX6_begin_11 sh_95 fX6_24_6 rfl rfl (by decide) ?_
  refine xx_getR (pc := 14) 46 dX6_begin_14 sh_39 fX6_35_5 rfl rfl (by decide) ?_
  refine xx_getN (pc := 17) dX6_begin_17 sh_46 fX6_39_4 rfl ?_
  refine xx_isubN (pc := 20) dX6_begin_20 (by omega) ?_
  refine xx_callS0 (pc := 21) (st := [.int (nI 0), ic_pt E 95]) (cC_min (w := w) (a := n) (b := (w 39 11) - (w 46 0)) (by omega) (by omega)) kJ9_min_7cf53 sX6_42 dX6_begin_21 rfl rfl (Nat.le_of_ble_eq_true rfl) ⟨Nat.le_of_ble_eq_true rfl, Nat.le_of_ble_eq_true rfl⟩ ⟨Nat.zero_le _, Nat.zero_le _⟩ (ic_ke ?_)
  refine xx_callS0 (pc := 24) (st := [ic_pt E 95]) (cC_max (w := w) (a := 0) (b := min n ((w 39 11) - (w 46 0))) (by omega) (by omega)) kJ9_max_7cf53 sX6_48 dX6_begin_24 rfl rfl (Nat.le_of_ble_eq_true rfl) ⟨Nat.le_of_ble_eq_true rfl, Nat.le_of_ble_eq_true rfl⟩ ⟨Nat.zero_le _, Nat.zero_le _⟩ (ic_ke ?_)
  refine xx_eqI (y := nI (min n (s 2 - s 1))) (by rw [n2_w, n3_w, Nat.zero_max]) ?_
  refine xx_putN (pc := 27) dX6_begin_27 sh_95 fX6_51_6 rfl rfl ?_
  refine xx_nw (fun w1 ew1 => ?_)
  refine xx_aload_nP (pc := 30) dX6_begin_30 0 rfl rfl ?_
  refine xx_getR (pc := 31) 96 dX6_begin_31 sh_95 fX6_11_6 rfl rfl (by decide) ?_
  refine xx_iconst (pc := 34) dX6_begin_34 cc_iconst_0 ?_
  refine xx_aald (pc := 35) 0 99 dX6_begin_35 sh_96 (by decide) rfl (by omega) (by decide) (rfl) ?_
  refine xx_aload_nP (pc := 36) dX6_begin_36 0 rfl rfl ?_
  refine xx_getR (pc := 37) 39 dX6_begin_37 sh_95 fX6_24_6 rfl rfl (by decide) ?_
  refine xx_getR (pc := 40) 46 dX6_begin_40 sh_39 fX6_35_5 rfl rfl (by decide) ?_
  refine xx_callV0 (pc := 43) (st := []) sh_99 (cC_mbecome (w := w1) (m := 99) (p := 46) Mo_99 Mo_46 (by omega)) kX4_become vX6_54_4 dX6_begin_43 rfl rfl (Nat.le_of_ble_eq_true rfl) ⟨Nat.le_of_ble_eq_true rfl, Nat.le_of_ble_eq_true rfl⟩ ⟨Nat.zero_le _, Nat.zero_le _⟩ (ic_kv (fun h_ qw2 => ?_))
  obtain ⟨w2, rfl, b0, b1, bj, gb⟩ := qw2
  have hm1 : Cs w1 46 s := hm.of (by rw [ew1, wu_row _ _ _ (by omega)]) (by rw [ew1, wu_row _ _ _ (by omega)]) (by rw [ew1, wu_row _ _ _ (by omega)])
  have e1_ := ew1
  exact xx_vret (pc := 46) dX6_begin_46 rfl (Nat.le_refl _) (Nat.le_refl _) (ic_rv0 ⟨w2, rfl, by rw [gb 95 (by omega) (by omega) (by omega), e1_, wu_s], fun j hj => by rw [gb 95 (by omega) (by omega) (by omega), e1_, wu_k _ _ _ _ hj], Cs.bc hm1 hIn b0 b1 bj, fun a h1 h2 h3 h4 => by rw [gb a h2 h3 h4, e1_, wu_row _ _ _ h1]⟩)

set_option maxHeartbeats 4000000 in
set_option maxRecDepth 100000 in
theorem cC_tryAll {l : Launch} {E : ic_E} {w : ic_w} {n want : Nat} {s : Nat → Nat} (hC : Cw w s) (hIn : In s) (hRu : Ru s) (hn4 : n ≤ 4) (hw64 : want < 64) : ic_C l E mX6_tryAll 14 0 0 False [ic_pt E 95, .int (nI n), .int (nI want)] SHs (hn w) SHs (ic_qv (fun h_ => ∃ w2, h_ = hn w2 ∧ Fp w w2 ∧ Ps w2 (mo_sm s n want))) := by
  refine ic_intro (by decide +kernel) (Nat.le_of_ble_eq_true rfl) ?_
  show xx l E _ _ 0 [(0, ic_pt E 95), (1, .int (nI n)), (2, .int (nI want))] _ _ _
  have hN := hC.1
  have hm := hC.2.1
  have n5_w := hC.2.2.1
  have n6_w := hC.2.2.2
  have hn0 := hIn.n
  have htt := hIn.t
  have hcr := hIn.cr (s 1)
  have n1_w : w 39 10 = s 0 := hN.n
  have n2_w : w 39 11 = s 2 := hN.e
  have n3_w : w 46 0 = s 1 := hm.t
  have n4_w : w 46 1 = mo_outs s := hm.o
  refine xx_aload_nP (pc := 0) dX6_tryAll_0 0 rfl rfl ?_
  refine xx_iload_n (pc := 1) dX6_tryAll_1 1 rfl rfl ?_
  refine xx_callV0 (pc := 2) (st := []) sh_95 (cC_begin (w := w) (n := n) (s := s) hC hIn (by omega)) kX6_begin vX6_58_6 dX6_tryAll_2 rfl rfl (Nat.le_of_ble_eq_true rfl) (pl_hR (d := 14) (by omega) (Nat.le_of_ble_eq_true rfl)) ⟨Nat.zero_le _, Nat.zero_le _⟩ (ic_kv (fun h_ qw1 => ?_))
  obtain ⟨w1, rfl, b4, bk, hm99, bf⟩ := qw1
  refine xx_aload_nP (pc := 5) dX6_tryAll_5 0 rfl rfl ?_
  refine xx_iload_n (pc := 6) dX6_tryAll_6 2 rfl rfl ?_
  refine xx_putN (pc := 7) dX6_tryAll_7 sh_95 fX6_62_6 rfl rfl ?_
  refine xx_nw (fun w3 ew3 => ?_)
  refine xx_aload_nP (pc := 10) dX6_tryAll_10 0 rfl rfl ?_
  refine xx_iconst (pc := 11) dX6_tryAll_11 cc_iconst_m1 ?_
  refine xx_putN (pc := 12) dX6_tryAll_12 sh_95 fX6_65_6 rfl rfl ?_
  refine xx_nw (fun w4 ew4 => ?_)
  refine xx_aload_nP (pc := 15) dX6_tryAll_15 0 rfl rfl ?_
  refine xx_iconst (pc := 16) dX6_tryAll_16 cc_iconst_0 ?_
  refine xx_putN (pc := 17) dX6_tryAll_17 sh_95 fX6_68_6 rfl rfl ?_
  refine xx_nw (fun w5 ew5 => ?_)
  refine xx_aload_nP (pc := 20) dX6_tryAll_20 0 rfl rfl ?_
  refine xx_iconst (pc := 21) dX6_tryAll_21 cc_iconst_0 ?_
  refine xx_putN (pc := 22) dX6_tryAll_22 sh_95 fX6_71_6 rfl rfl ?_
  refine xx_nw (fun w6 ew6 => ?_)
  refine xx_aload_nP (pc := 25) dX6_tryAll_25 0 rfl rfl ?_
  refine xx_bipush (pc := 26) dX6_tryAll_26 cc_bipush_m3 ?_
  refine xx_putN (pc := 28) dX6_tryAll_28 sh_95 fX6_74_6 rfl rfl ?_
  refine xx_nw (fun w7 ew7 => ?_)
  refine xx_aload_nP (pc := 31) dX6_tryAll_31 0 rfl rfl ?_
  refine xx_iconst (pc := 32) dX6_tryAll_32 cc_iconst_0 ?_
  refine xx_iconst (pc := 33) dX6_tryAll_33 cc_iconst_0 ?_
  refine xx_iconst (pc := 34) dX6_tryAll_34 cc_iconst_0 ?_
  refine xx_iconst (pc := 35) dX6_tryAll_35 cc_iconst_1 ?_
  have v_ : w7 95 4 = min n (s 2 - s 1) ∧ w7 95 5 = 4294967295 ∧ w7 95 7 = 0 ∧ w7 95 8 = 4294967293 ∧ w7 95 9 = want := by rw [ew7, ew6, ew5, ew4, ew3]; refine ⟨?_, ?_, ?_, ?_, ?_⟩ <;> simp [wu]; exact b4
  have r_ : ∀ a, a ≠ 95 → w7 a = w1 a := fun a ha => by rw [ew7, wu_row _ _ _ ha, ew6, wu_row _ _ _ ha, ew5, wu_row _ _ _ ha, ew4, wu_row _ _ _ ha, ew3, wu_row _ _ _ ha]
  refine xx_callV0 (pc := 36) (st := []) sh_95 (cC_branch n w7 s 0 0 0 1 ⟨by omega, Or.inl v_.2.1, Or.inl v_.2.2.2.1, by omega⟩ (hm99.of (r_ _ (by omega)) (r_ _ (by omega)) (r_ _ (by omega))) (hN.of (by rw [r_ _ (by omega), bf _ (by omega) (by omega) (by omega) (by omega)]) (by rw [r_ _ (by omega), bf _ (by omega) (by omega) (by omega) (by omega)]) (by rw [r_ _ (by omega), bf _ (by omega) (by omega) (by omega) (by omega)]) (fun a _ _ _ _ _ _ _ _ => by rw [r_ _ (by omega), bf _ (by omega) (by omega) (by omega) (by omega)])) hIn hRu (by omega) (by omega) (by omega) (by omega)) kX6_branch vX6_77_6 dX6_tryAll_36 rfl rfl (Nat.le_of_ble_eq_true rfl) (pl_hR (d := 14) (by omega) (Nat.le_of_ble_eq_true rfl)) ⟨Nat.zero_le _, Nat.zero_le _⟩ (ic_kv (fun h_ qw8 => ?_))
  obtain ⟨w8, rfl, fb_, pk_, pp_⟩ := qw8
  exact xx_vret (pc := 39) dX6_tryAll_39 rfl (Nat.le_refl _) (Nat.le_refl _) (ic_rv0 ⟨w8, rfl, Fp.tr ⟨fun a ha => by rw [r_ a (by omega), bf a (by omega) (by omega) (by omega) (by omega)], by rw [r_ 55 (by omega), bf 55 (by omega) (by omega) (by omega) (by omega)]⟩ fb_.p0, Ps.mk hIn hRu hn4 v_.2.1 v_.1 v_.2.2.1 v_.2.2.2.1 v_.2.2.2.2 pp_ pk_⟩)

set_option maxHeartbeats 4000000 in
set_option maxRecDepth 100000 in
theorem cC_best {l : Launch} {E : ic_E} {w : ic_w} {n : Nat} (hn_ : n < 2 ^ 32) {s : Nat → Nat} (hC : Cw w s) (hIn : In s) (hRu : Ru s) : ic_C l E mX11_best 15 0 0 False [ic_pt E 0, .int (nI n)] SHs (hn w) SHs (ic_qi (fun v_ h_ => v_ = nI (if n ≤ 4 then (mo_sm s n 0).1 16 else 4294967295) ∧ ∃ w2, h_ = hn w2 ∧ Fp w w2)) := by
  refine ic_intro (by decide +kernel) (Nat.le_of_ble_eq_true rfl) ?_
  show xx l E _ _ 0 [(0, ic_pt E 0), (1, .int (nI n))] _ _ _
  have hN := hC.1
  have hm := hC.2.1
  have n5_w := hC.2.2.1
  have n6_w := hC.2.2.2
  have hn0 := hIn.n
  have htt := hIn.t
  have hcr := hIn.cr (s 1)
  have n1_w : w 39 10 = s 0 := hN.n
  have n2_w : w 39 11 = s 2 := hN.e
  have n3_w : w 46 0 = s 1 := hm.t
  have n4_w : w 46 1 = mo_outs s := hm.o
  refine xx_iload_n (pc := 0) dX11_best_0 1 rfl rfl ?_
  refine xx_callS0 (pc := 1) (st := []) (cC_isPlanLength (w := w) (v := n) (by omega)) kX11_isPlanLength sX11_252 dX11_best_1 rfl rfl (Nat.le_of_ble_eq_true rfl) ⟨Nat.le_of_ble_eq_true rfl, Nat.le_of_ble_eq_true rfl⟩ ⟨Nat.zero_le _, Nat.zero_le _⟩ (ic_ke ?_)
  refine xx_if_neB (pc := 4) 9 dX11_best_4 rfl (fun c1 => ?_) (fun c1 => ?_)
  · refine xx_aload_nP (pc := 9) dX11_best_9 0 rfl rfl ?_
    refine xx_getR (pc := 10) 95 dX11_best_10 sh_0 fX11_86_11 rfl rfl (by decide) ?_
    refine xx_iload_n (pc := 13) dX11_best_13 1 rfl rfl ?_
    refine xx_iconst (pc := 14) dX11_best_14 cc_iconst_0 ?_
    refine xx_callV0 (pc := 15) (st := []) sh_95 (cC_tryAll (w := w) (n := n) (want := 0) (s := s) hC hIn hRu (by omega) (by omega)) kX6_tryAll vX11_255_6 dX11_best_15 rfl rfl (Nat.le_of_ble_eq_true rfl) ⟨Nat.le_of_ble_eq_true rfl, Nat.le_of_ble_eq_true rfl⟩ ⟨Nat.zero_le _, Nat.zero_le _⟩ (ic_kv (fun h_ qw2 => ?_))
    obtain ⟨w2, rfl, fw2, pw2⟩ := qw2
    obtain ⟨p4, p5, p6, p7, p8, p98, pl4, pl16⟩ := pw2
    refine xx_aload_nP (pc := 18) dX11_best_18 0 rfl rfl ?_
    refine xx_getR (pc := 19) 95 dX11_best_19 sh_0 fX11_86_11 rfl rfl (by decide) ?_
    refine xx_getN (pc := 22) dX11_best_22 sh_95 fX11_259_6 rfl ?_
    exact xx_iret (pc := 25) dX11_best_25 rfl (rfl) (Nat.le_refl _) (Nat.le_refl _) (ic_ri ⟨by rw [if_pos (by omega), p5], w2, rfl, fw2⟩)
  · refine xx_iconst (pc := 7) dX11_best_7 cc_iconst_m1 ?_
    exact xx_iret (pc := 8) dX11_best_8 rfl (rfl) (Nat.le_refl _) (Nat.le_refl _) (ic_ri ⟨by rw [if_neg (by omega)], w, rfl, Fp.rf w⟩)

set_option maxHeartbeats 4000000 in
set_option maxRecDepth 100000 in
theorem cC_ways {l : Launch} {E : ic_E} {w : ic_w} {n : Nat} (hn_ : n < 2 ^ 32) {s : Nat → Nat} (hC : Cw w s) (hIn : In s) (hRu : Ru s) : ic_C l E mX11_ways 15 0 0 False [ic_pt E 0, .int (nI n)] SHs (hn w) SHs (ic_qi (fun v_ h_ => v_ = nI (if n ≤ 4 then (mo_sm s n 0).1 17 else 4294967295) ∧ ∃ w2, h_ = hn w2 ∧ Fp w w2)) := by
  refine ic_intro (by decide +kernel) (Nat.le_of_ble_eq_true rfl) ?_
  show xx l E _ _ 0 [(0, ic_pt E 0), (1, .int (nI n))] _ _ _
  have hN := hC.1
  have hm := hC.2.1
  have n5_w := hC.2.2.1
  have n6_w := hC.2.2.2
  have hn0 := hIn.n
  have htt := hIn.t
  have hcr := hIn.cr (s 1)
  have n1_w : w 39 10 = s 0 := hN.n
  have n2_w : w 39 11 = s 2 := hN.e
  have n3_w : w 46 0 = s 1 := hm.t
  have n4_w : w 46 1 = mo_outs s := hm.o
  refine xx_iload_n (pc := 0) dX11_ways_0 1 rfl rfl ?_
  refine xx_callS0 (pc := 1) (st := []) (cC_isPlanLength (w := w) (v := n) (by omega)) kX11_isPlanLength sX11_252 dX11_ways_1 rfl rfl (Nat.le_of_ble_eq_true rfl) ⟨Nat.le_of_ble_eq_true rfl, Nat.le_of_ble_eq_true rfl⟩ ⟨Nat.zero_le _, Nat.zero_le _⟩ (ic_ke ?_)
  refine xx_if_neB (pc := 4) 9 dX11_ways_4 rfl (fun c1 => ?_) (fun c1 => ?_)
  · refine xx_aload_nP (pc := 9) dX11_ways_9 0 rfl rfl ?_
    refine xx_getR (pc := 10) 95 dX11_ways_10 sh_0 fX11_86_11 rfl rfl (by decide) ?_
    refine xx_iload_n (pc := 13) dX11_ways_13 1 rfl rfl ?_
    refine xx_iconst (pc := 14) dX11_ways_14 cc_iconst_0 ?_
    refine xx_callV0 (pc := 15) (st := []) sh_95 (cC_tryAll (w := w) (n := n) (want := 0) (s := s) hC hIn hRu (by omega) (by omega)) kX6_tryAll vX11_255_6 dX11_ways_15 rfl rfl (Nat.le_of_ble_eq_true rfl) ⟨Nat.le_of_ble_eq_true rfl, Nat.le_of_ble_eq_true rfl⟩ ⟨Nat.zero_le _, Nat.zero_le _⟩ (ic_kv (fun h_ qw2 => ?_))
    obtain ⟨w2, rfl, fw2, pw2⟩ := qw2
    obtain ⟨p4, p5, p6, p7, p8, p98, pl4, pl16⟩ := pw2
    refine xx_aload_nP (pc := 18) dX11_ways_18 0 rfl rfl ?_
    refine xx_getR (pc := 19) 95 dX11_ways_19 sh_0 fX11_86_11 rfl rfl (by decide) ?_
    refine xx_getN (pc := 22) dX11_ways_22 sh_95 fX11_268_6 rfl ?_
    exact xx_iret (pc := 25) dX11_ways_25 rfl (rfl) (Nat.le_refl _) (Nat.le_refl _) (ic_ri ⟨by rw [if_pos (by omega), p6], w2, rfl, fw2⟩)
  · refine xx_iconst (pc := 7) dX11_ways_7 cc_iconst_m1 ?_
    exact xx_iret (pc := 8) dX11_ways_8 rfl (rfl) (Nat.le_refl _) (Nat.le_refl _) (ic_ri ⟨by rw [if_neg (by omega)], w, rfl, Fp.rf w⟩)

set_option maxHeartbeats 4000000 in
set_option maxRecDepth 100000 in
theorem cC_ith {l : Launch} {E : ic_E} {w : ic_w} {n : Nat} (hn_ : n < 2 ^ 32) {i : Nat} (hi_ : i < 2 ^ 32) {s : Nat → Nat} (hC : Cw w s) (hIn : In s) (hRu : Ru s) : ic_C l E mX11_ith 15 0 0 False [ic_pt E 0, .int (nI n), .int (nI i)] SHs (hn w) SHs (ic_qi (fun v_ h_ => v_ = nI (if n ≤ 4 ∧ i ≤ 3 then (if i < (mo_sm s n 0).1 18 then (mo_sm s n 0).2 i else 4294967293) else 4294967295) ∧ ∃ w2, h_ = hn w2 ∧ Fp w w2)) := by
  refine ic_intro (by decide +kernel) (Nat.le_of_ble_eq_true rfl) ?_
  show xx l E _ _ 0 [(0, ic_pt E 0), (1, .int (nI n)), (2, .int (nI i))] _ _ _
  have hN := hC.1
  have hm := hC.2.1
  have n5_w := hC.2.2.1
  have n6_w := hC.2.2.2
  have hn0 := hIn.n
  have htt := hIn.t
  have hcr := hIn.cr (s 1)
  have n1_w : w 39 10 = s 0 := hN.n
  have n2_w : w 39 11 = s 2 := hN.e
  have n3_w : w 46 0 = s 1 := hm.t
  have n4_w : w 46 1 = mo_outs s := hm.o
  refine xx_iload_n (pc := 0) dX11_ith_0 1 rfl rfl ?_
  refine xx_callS0 (pc := 1) (st := []) (cC_isPlanLength (w := w) (v := n) (by omega)) kX11_isPlanLength sX11_252 dX11_ith_1 rfl rfl (Nat.le_of_ble_eq_true rfl) ⟨Nat.le_of_ble_eq_true rfl, Nat.le_of_ble_eq_true rfl⟩ ⟨Nat.zero_le _, Nat.zero_le _⟩ (ic_ke ?_)
  refine xx_if_eqB (pc := 4) 16 dX11_ith_4 rfl (fun c1 => ?_) (fun c1 => ?_)
  · refine xx_iconst (pc := 16) dX11_ith_16 cc_iconst_m1 ?_
    exact xx_iret (pc := 17) dX11_ith_17 rfl (rfl) (Nat.le_refl _) (Nat.le_refl _) (ic_ri ⟨by rw [if_neg (by omega)], w, rfl, Fp.rf w⟩)
  · refine xx_iload_n (pc := 7) dX11_ith_7 2 rfl rfl ?_
    refine xx_iconst (pc := 8) dX11_ith_8 cc_iconst_0 ?_
    refine xx_iconst (pc := 9) dX11_ith_9 cc_iconst_3 ?_
    refine xx_callS0 (pc := 10) (st := []) (cC_within (w := w) (v := i) (lo := 0) (hi := 3) (by omega) (by omega) (by omega)) kX11_within sX11_94 dX11_ith_10 rfl rfl (Nat.le_of_ble_eq_true rfl) ⟨Nat.le_of_ble_eq_true rfl, Nat.le_of_ble_eq_true rfl⟩ ⟨Nat.zero_le _, Nat.zero_le _⟩ (ic_ke ?_)
    refine xx_if_neB (pc := 13) 18 dX11_ith_13 rfl (fun c2 => ?_) (fun c2 => ?_)
    · refine xx_aload_nP (pc := 18) dX11_ith_18 0 rfl rfl ?_
      refine xx_getR (pc := 19) 95 dX11_ith_19 sh_0 fX11_86_11 rfl rfl (by decide) ?_
      refine xx_iload_n (pc := 22) dX11_ith_22 1 rfl rfl ?_
      refine xx_iconst (pc := 23) dX11_ith_23 cc_iconst_0 ?_
      refine xx_callV0 (pc := 24) (st := []) sh_95 (cC_tryAll (w := w) (n := n) (want := 0) (s := s) hC hIn hRu (by omega) (by omega)) kX6_tryAll vX11_255_6 dX11_ith_24 rfl rfl (Nat.le_of_ble_eq_true rfl) ⟨Nat.le_of_ble_eq_true rfl, Nat.le_of_ble_eq_true rfl⟩ ⟨Nat.zero_le _, Nat.zero_le _⟩ (ic_kv (fun h_ qw3 => ?_))
      obtain ⟨w3, rfl, fw3, pw3⟩ := qw3
      obtain ⟨p4, p5, p6, p7, p8, p98, pl4, pl16⟩ := pw3
      refine xx_iload_n (pc := 27) dX11_ith_27 2 rfl rfl ?_
      refine xx_aload_nP (pc := 28) dX11_ith_28 0 rfl rfl ?_
      refine xx_getR (pc := 29) 95 dX11_ith_29 sh_0 fX11_86_11 rfl rfl (by decide) ?_
      refine xx_getN (pc := 32) dX11_ith_32 sh_95 fX11_262_6 rfl ?_
      refine xx_icmp_geN (pc := 35) 50 dX11_ith_35 rfl (by omega) (by omega) (fun c5 => ?_) (fun c5 => ?_)
      · refine xx_bipush (pc := 50) dX11_ith_50 cc_bipush_m3 ?_
        exact xx_iret (pc := 52) dX11_ith_52 rfl (rfl) (Nat.le_refl _) (Nat.le_refl _) (ic_ri ⟨by rw [if_pos (by omega), if_neg (by omega)], w3, rfl, fw3⟩)
      · refine xx_aload_nP (pc := 38) dX11_ith_38 0 rfl rfl ?_
        refine xx_getR (pc := 39) 95 dX11_ith_39 sh_0 fX11_86_11 rfl rfl (by decide) ?_
        refine xx_getR (pc := 42) 98 dX11_ith_42 sh_95 fX11_265_6 rfl rfl (by decide) ?_
        refine xx_iload_n (pc := 45) dX11_ith_45 2 rfl rfl ?_
        refine xx_ialdN (pc := 46) dX11_ith_46 sh_98 (by omega) (by decide) ?_
        refine xx_goto (pc := 47) 52 dX11_ith_47 rfl ?_
        exact xx_iret (pc := 52) dX11_ith_52 rfl (rfl) (Nat.le_refl _) (Nat.le_refl _) (ic_ri ⟨by rw [if_pos (by omega), if_pos (by omega), p98 i (by omega)], w3, rfl, fw3⟩)
    · refine xx_iconst (pc := 16) dX11_ith_16 cc_iconst_m1 ?_
      exact xx_iret (pc := 17) dX11_ith_17 rfl (rfl) (Nat.le_refl _) (Nat.le_refl _) (ic_ri ⟨by rw [if_neg (by omega)], w, rfl, Fp.rf w⟩)

set_option maxHeartbeats 4000000 in
set_option maxRecDepth 100000 in
theorem cC_ticket {l : Launch} {E : ic_E} {w : ic_w} {n : Nat} (hn_ : n < 2 ^ 32) {st : Nat} (hst_ : st < 2 ^ 32) {s : Nat → Nat} (hC : Cw w s) (hIn : In s) (hRu : Ru s) : ic_C l E mX11_ticket 15 0 0 False [ic_pt E 0, .int (nI n), .int (nI st)] SHs (hn w) SHs (ic_qi (fun v_ h_ => v_ = nI (if n ≤ 4 ∧ st < 2 ^ s 0 then (if (mo_sm s n st).1 20 < 9 then (mo_sm s n st).1 20 else 4294967293) else 4294967295) ∧ ∃ w2, h_ = hn w2 ∧ Fp w w2)) := by
  refine ic_intro (by decide +kernel) (Nat.le_of_ble_eq_true rfl) ?_
  show xx l E _ _ 0 [(0, ic_pt E 0), (1, .int (nI n)), (2, .int (nI st))] _ _ _
  have hN := hC.1
  have hm := hC.2.1
  have n5_w := hC.2.2.1
  have n6_w := hC.2.2.2
  have hn0 := hIn.n
  have htt := hIn.t
  have hcr := hIn.cr (s 1)
  have n1_w : w 39 10 = s 0 := hN.n
  have n2_w : w 39 11 = s 2 := hN.e
  have n3_w : w 46 0 = s 1 := hm.t
  have n4_w : w 46 1 = mo_outs s := hm.o
  have hpw : 2 ^ w 39 10 = 2 ^ s 0 := by rw [n1_w]
  refine xx_iload_n (pc := 0) dX11_ticket_0 1 rfl rfl ?_
  refine xx_callS0 (pc := 1) (st := []) (cC_isPlanLength (w := w) (v := n) (by omega)) kX11_isPlanLength sX11_252 dX11_ticket_1 rfl rfl (Nat.le_of_ble_eq_true rfl) ⟨Nat.le_of_ble_eq_true rfl, Nat.le_of_ble_eq_true rfl⟩ ⟨Nat.zero_le _, Nat.zero_le _⟩ (ic_ke ?_)
  refine xx_if_eqB (pc := 4) 15 dX11_ticket_4 rfl (fun c1 => ?_) (fun c1 => ?_)
  · refine xx_iconst (pc := 15) dX11_ticket_15 cc_iconst_m1 ?_
    exact xx_iret (pc := 16) dX11_ticket_16 rfl (rfl) (Nat.le_refl _) (Nat.le_refl _) (ic_ri ⟨by rw [if_neg (by omega)], w, rfl, Fp.rf w⟩)
  · refine xx_aload_nP (pc := 7) dX11_ticket_7 0 rfl rfl ?_
    refine xx_iload_n (pc := 8) dX11_ticket_8 2 rfl rfl ?_
    refine xx_callV0 (pc := 9) (st := []) sh_0 (cC_isSetOfRiders (w := w) (k := st) (by omega) (by omega)) kX11_isSetOfRiders vX11_271_11 dX11_ticket_9 rfl rfl (Nat.le_of_ble_eq_true rfl) ⟨Nat.le_of_ble_eq_true rfl, Nat.le_of_ble_eq_true rfl⟩ ⟨Nat.zero_le _, Nat.zero_le _⟩ (ic_ke ?_)
    refine xx_if_neB (pc := 12) 17 dX11_ticket_12 rfl (fun c2 => ?_) (fun c2 => ?_)
    · refine xx_aload_nP (pc := 17) dX11_ticket_17 0 rfl rfl ?_
      refine xx_getR (pc := 18) 95 dX11_ticket_18 sh_0 fX11_86_11 rfl rfl (by decide) ?_
      refine xx_iload_n (pc := 21) dX11_ticket_21 1 rfl rfl ?_
      refine xx_iload_n (pc := 22) dX11_ticket_22 2 rfl rfl ?_
      have hp2_ := mo_p2 hn0
      refine xx_callV0 (pc := 23) (st := []) sh_95 (cC_tryAll (w := w) (n := n) (want := st) (s := s) hC hIn hRu (by omega) (by omega)) kX6_tryAll vX11_255_6 dX11_ticket_23 rfl rfl (Nat.le_of_ble_eq_true rfl) ⟨Nat.le_of_ble_eq_true rfl, Nat.le_of_ble_eq_true rfl⟩ ⟨Nat.zero_le _, Nat.zero_le _⟩ (ic_kv (fun h_ qw3 => ?_))
      obtain ⟨w3, rfl, fw3, pw3⟩ := qw3
      obtain ⟨p4, p5, p6, p7, p8, p98, pl4, pl16⟩ := pw3
      refine xx_aload_nP (pc := 26) dX11_ticket_26 0 rfl rfl ?_
      refine xx_getR (pc := 27) 95 dX11_ticket_27 sh_0 fX11_86_11 rfl rfl (by decide) ?_
      refine xx_getN (pc := 30) dX11_ticket_30 sh_95 fX11_274_6 rfl ?_
      exact xx_iret (pc := 33) dX11_ticket_33 rfl (rfl) (Nat.le_refl _) (Nat.le_refl _) (ic_ri ⟨by rw [if_pos (by omega)]; rcases p8 with z | z; (rw [if_neg (by omega), z.1]); (rw [if_pos (by omega), z.1]), w3, rfl, fw3⟩)
    · refine xx_iconst (pc := 15) dX11_ticket_15 cc_iconst_m1 ?_
      exact xx_iret (pc := 16) dX11_ticket_16 rfl (rfl) (Nat.le_refl _) (Nat.le_refl _) (ic_ri ⟨by rw [if_neg (by omega)], w, rfl, Fp.rf w⟩)

theorem pl_ev_lt : ∀ (m : Nat) (s : Nat → Nat), In s → pl_ev m s < 64
  | 0, s, h => mo_outs_lt h.n
  | m + 1, s, h => by
    rw [pl_ev]
    split
    · exact mo_outs_lt h.n
    · have h0 := h.n
      have key : ∀ n, n ≤ s 0 → pl_or (fun a => pl_ev m (mo_go s a)) n < 64 := by
        intro n
        induction n with
        | zero => exact fun _ => pl_ev_lt m _ (In_go h (by omega) (by omega))
        | succ n ih =>
          intro hn
          rw [pl_or]
          exact Nat.or_lt_two_pow (n := 6) (ih (by omega)) (pl_ev_lt m _ (In_go h (by omega) (by omega)))
      exact key _ (Nat.le_refl _)
theorem sm_21 {s : Nat → Nat} (hI : In s) (hR : Ru s) {n : Nat} (hn : n ≤ 4) (want : Nat) : (mo_sm s n want).1 21 < 64 := by
  have r := (pl_R n s 0 0 0 (fun _ => 0) (mo_p0 want, fun _ => 0) hI hR (by omega) (by omega) (by show 9 ≤ 9; omega)).2.2.2.2.2.1
  refine Nat.lt_of_le_of_lt (Nat.le_of_eq r) ?_
  show 0 ||| _ < 64
  rw [Nat.zero_or]
  exact pl_ev_lt n s hI
theorem lw_b {a b k : Nat} (hk : k < 32) : ((a &&& (b ^^^ 4294967295)) / 2 ^ k &&& 1) = (a / 2 ^ k % 2) * (1 - b / 2 ^ k % 2) := by
  have e : (a &&& (b ^^^ 4294967295)).testBit k = (a.testBit k && !b.testBit k) := by
    rw [Nat.testBit_and, Nat.testBit_xor, show (4294967295 : Nat) = 2 ^ 32 - 1 from rfl, Nat.testBit_two_pow_sub_one]
    simp [hk]
  rw [mo_and1]
  rw [Nat.testBit_eq_decide_div_mod_eq, Nat.testBit_eq_decide_div_mod_eq, Nat.testBit_eq_decide_div_mod_eq] at e
  have e2 : (a &&& (b ^^^ 4294967295)) / 2 ^ k % 2 = 1 ↔ (a / 2 ^ k % 2 = 1 ∧ ¬ b / 2 ^ k % 2 = 1) := by
    by_cases z : (a &&& (b ^^^ 4294967295)) / 2 ^ k % 2 = 1
    · simp [z] at e
      exact ⟨fun _ => ⟨e.1, by simpa using e.2⟩, fun _ => z⟩
    · simp [z] at e
      refine ⟨fun y => absurd y z, fun y => ?_⟩
      exact absurd (e y.1) y.2
  have h2 := Nat.mod_two_eq_zero_or_one ((a &&& (b ^^^ 4294967295)) / 2 ^ k)
  rcases Nat.mod_two_eq_zero_or_one (a / 2 ^ k) with x | x <;> rcases Nat.mod_two_eq_zero_or_one (b / 2 ^ k) with y | y <;> rw [x, y] <;> rw [x, y] at e2 <;> omega
set_option maxHeartbeats 4000000 in
set_option maxRecDepth 100000 in
theorem cC_bars {l : Launch} {E : ic_E} {w : ic_w} {n : Nat} (hn_ : n < 2 ^ 32) {st : Nat} (hst_ : st < 2 ^ 32) {s : Nat → Nat} (hC : Cw w s) (hIn : In s) (hRu : Ru s) : ic_C l E mX11_bars 15 0 0 False [ic_pt E 0, .int (nI n), .int (nI st)] SHs (hn w) SHs (ic_qi (fun v_ h_ => v_ = nI (if n ≤ 4 ∧ st < 2 ^ s 0 then mo_lowN (st &&& ((mo_sm s n st).1 21 ^^^ 4294967295)) (s 0) 0 else 4294967295) ∧ ∃ w2, h_ = hn w2 ∧ Fp w w2)) := by
  refine ic_intro (by decide +kernel) (Nat.le_of_ble_eq_true rfl) ?_
  show xx l E _ _ 0 [(0, ic_pt E 0), (1, .int (nI n)), (2, .int (nI st))] _ _ _
  have hN := hC.1
  have hm := hC.2.1
  have n5_w := hC.2.2.1
  have n6_w := hC.2.2.2
  have hn0 := hIn.n
  have htt := hIn.t
  have hcr := hIn.cr (s 1)
  have n1_w : w 39 10 = s 0 := hN.n
  have n2_w : w 39 11 = s 2 := hN.e
  have n3_w : w 46 0 = s 1 := hm.t
  have n4_w : w 46 1 = mo_outs s := hm.o
  have hpw : 2 ^ w 39 10 = 2 ^ s 0 := by rw [n1_w]
  have hp64 := mo_p2 hn0
  refine xx_iload_n (pc := 0) dX11_bars_0 1 rfl rfl ?_
  refine xx_callS0 (pc := 1) (st := []) (cC_isPlanLength (w := w) (v := n) (by omega)) kX11_isPlanLength sX11_252 dX11_bars_1 rfl rfl (Nat.le_of_ble_eq_true rfl) ⟨Nat.le_of_ble_eq_true rfl, Nat.le_of_ble_eq_true rfl⟩ ⟨Nat.zero_le _, Nat.zero_le _⟩ (ic_ke ?_)
  refine xx_if_eqB (pc := 4) 15 dX11_bars_4 rfl (fun c1 => ?_) (fun c1 => ?_)
  · refine xx_iconst (pc := 15) dX11_bars_15 cc_iconst_m1 ?_
    exact xx_iret (pc := 16) dX11_bars_16 rfl (rfl) (Nat.le_refl _) (Nat.le_refl _) (ic_ri ⟨by rw [if_neg (by omega)], w, rfl, Fp.rf w⟩)
  · refine xx_aload_nP (pc := 7) dX11_bars_7 0 rfl rfl ?_
    refine xx_iload_n (pc := 8) dX11_bars_8 2 rfl rfl ?_
    refine xx_callV0 (pc := 9) (st := []) sh_0 (cC_isSetOfRiders (w := w) (k := st) (by omega) (by omega)) kX11_isSetOfRiders vX11_271_11 dX11_bars_9 rfl rfl (Nat.le_of_ble_eq_true rfl) ⟨Nat.le_of_ble_eq_true rfl, Nat.le_of_ble_eq_true rfl⟩ ⟨Nat.zero_le _, Nat.zero_le _⟩ (ic_ke ?_)
    refine xx_if_neB (pc := 12) 17 dX11_bars_12 rfl (fun c2 => ?_) (fun c2 => ?_)
    · refine xx_aload_nP (pc := 17) dX11_bars_17 0 rfl rfl ?_
      refine xx_getR (pc := 18) 95 dX11_bars_18 sh_0 fX11_86_11 rfl rfl (by decide) ?_
      refine xx_iload_n (pc := 21) dX11_bars_21 1 rfl rfl ?_
      refine xx_iload_n (pc := 22) dX11_bars_22 2 rfl rfl ?_
      have hp2_ := mo_p2 hn0
      refine xx_callV0 (pc := 23) (st := []) sh_95 (cC_tryAll (w := w) (n := n) (want := st) (s := s) hC hIn hRu (by omega) (by omega)) kX6_tryAll vX11_255_6 dX11_bars_23 rfl rfl (Nat.le_of_ble_eq_true rfl) ⟨Nat.le_of_ble_eq_true rfl, Nat.le_of_ble_eq_true rfl⟩ ⟨Nat.zero_le _, Nat.zero_le _⟩ (ic_kv (fun h_ qw3 => ?_))
      obtain ⟨w3, rfl, fw3, pw3⟩ := qw3
      obtain ⟨p4, p5, p6, p7, p8, p98, pl4, pl16⟩ := pw3
      refine xx_iconst (pc := 26) dX11_bars_26 cc_iconst_0 ?_
      refine xx_istore_n (L' := [(3, .int (nI 0)), (0, ic_pt E 0), (1, .int (nI n)), (2, .int (nI st))]) (pc := 27) dX11_bars_27 rfl (Nat.le_of_ble_eq_true rfl) rfl ?_
      have n1_w3 : w3 39 10 = s 0 := by rw [fw3.1 39 (by omega)]; exact n1_w
      have hev : (mo_sm s n st).1 21 < 64 := sm_21 hIn hRu (by omega) st
      have lowb : ∀ {k : Nat}, k < 32 → ((st &&& ((mo_sm s n st).1 21 ^^^ 4294967295)) / 2 ^ k &&& 1) = (st / 2 ^ k % 2) * (1 - (w3 95 7) / 2 ^ k % 2) := fun {k} hk => by rw [p7]; exact lw_b hk
      have lp : ∀ (n_ : Nat) (k : Nat), k ≤ s 0 → mo_lowN (st &&& ((mo_sm s n st).1 21 ^^^ 4294967295)) (s 0) 0 = mo_lowN (st &&& ((mo_sm s n st).1 21 ^^^ 4294967295)) (s 0 - k) k → s 0 - k < n_ → xx l E (ic_fr E mX11_bars 15 0 0 False SHs (ic_qi (fun v_ h_ => v_ = nI (if n ≤ 4 ∧ st < 2 ^ s 0 then mo_lowN (st &&& ((mo_sm s n st).1 21 ^^^ 4294967295)) (s 0) 0 else 4294967295) ∧ ∃ w2, h_ = hn w2 ∧ Fp w w2))) (0, 0) 28 [(3, .int (nI k)), (0, ic_pt E 0), (1, .int (nI n)), (2, .int (nI st))] [] SHs (hn w3) := by
        intro n_
        induction n_ with
        | zero => intro k hk hq hm_; exact absurd hm_ (Nat.not_lt_zero _)
        | succ n_ ih_ =>
          intro k hk hq hm_
          refine xx_iload_n (pc := 28) dX11_bars_28 0 rfl rfl ?_
          refine xx_aload_nP (pc := 29) dX11_bars_29 1 rfl rfl ?_
          refine xx_getR (pc := 30) 39 dX11_bars_30 sh_0 fX11_74_11 rfl rfl (by decide) ?_
          refine xx_getN (pc := 33) dX11_bars_33 sh_39 fX11_101_5 rfl ?_
          refine xx_icmp_geN (pc := 36) 69 dX11_bars_36 rfl (by omega) (by omega) (fun c25 => ?_) (fun c25 => ?_)
          · refine xx_bipush (pc := 69) dX11_bars_69 cc_bipush_m3 ?_
            exact xx_iret (pc := 71) dX11_bars_71 rfl (rfl) (Nat.le_refl _) (Nat.le_refl _) (ic_ri ⟨by rw [if_pos (by omega), hq, show s 0 - k = 0 by omega]; rfl, w3, rfl, fw3⟩)
          · refine xx_iload_n (pc := 39) dX11_bars_39 3 rfl rfl ?_
            refine xx_iload_n (pc := 40) dX11_bars_40 0 rfl rfl ?_
            refine xx_callS0 (pc := 41) (st := []) (cC_has (w := w3) (t := st) (k := k) (by omega) (by omega)) kX11_has sX11_236 dX11_bars_41 rfl rfl (Nat.le_of_ble_eq_true rfl) ⟨Nat.le_of_ble_eq_true rfl, Nat.le_of_ble_eq_true rfl⟩ ⟨Nat.zero_le _, Nat.zero_le _⟩ (ic_ke ?_)
            refine xx_if_eqB (pc := 44) 63 dX11_bars_44 rfl (fun c26 => ?_) (fun c26 => ?_)
            · refine xx_iincN (L' := [(3, .int (nI (k + 1))), (0, ic_pt E 0), (1, .int (nI n)), (2, .int (nI st))]) (pc := 63) dX11_bars_63 0 rfl cc_iconst_1 (Nat.le_of_ble_eq_true rfl) rfl ?_
              refine xx_goto (pc := 66) 28 dX11_bars_66 rfl ?_
              exact xx_sub [0, 1, 2, 3] rfl (ih_ (k + 1) (by omega) (by rw [hq, show s 0 - k = (s 0 - (k + 1)) + 1 by omega, mo_lowN, if_neg (by rw [lowb (by omega)]; have := Nat.mod_two_eq_zero_or_one (st / 2 ^ k); have := Nat.mod_two_eq_zero_or_one ((w3 95 7) / 2 ^ k); first | omega | (rcases this with z | z <;> rw [z] <;> omega))]) (by omega))
            · refine xx_aload_nP (pc := 47) dX11_bars_47 1 rfl rfl ?_
              refine xx_getR (pc := 48) 95 dX11_bars_48 sh_0 fX11_86_11 rfl rfl (by decide) ?_
              refine xx_getN (pc := 51) dX11_bars_51 sh_95 fX11_277_6 rfl ?_
              refine xx_iload_n (pc := 54) dX11_bars_54 0 rfl rfl ?_
              refine xx_callS0 (pc := 55) (st := []) (cC_has (w := w3) (t := w3 95 7) (k := k) (by omega) (by omega)) kX11_has sX11_236 dX11_bars_55 rfl rfl (Nat.le_of_ble_eq_true rfl) ⟨Nat.le_of_ble_eq_true rfl, Nat.le_of_ble_eq_true rfl⟩ ⟨Nat.zero_le _, Nat.zero_le _⟩ (ic_ke ?_)
              refine xx_if_neB (pc := 58) 63 dX11_bars_58 rfl (fun c27 => ?_) (fun c27 => ?_)
              · refine xx_iincN (L' := [(3, .int (nI (k + 1))), (0, ic_pt E 0), (1, .int (nI n)), (2, .int (nI st))]) (pc := 63) dX11_bars_63 0 rfl cc_iconst_1 (Nat.le_of_ble_eq_true rfl) rfl ?_
                refine xx_goto (pc := 66) 28 dX11_bars_66 rfl ?_
                exact xx_sub [0, 1, 2, 3] rfl (ih_ (k + 1) (by omega) (by rw [hq, show s 0 - k = (s 0 - (k + 1)) + 1 by omega, mo_lowN, if_neg (by rw [lowb (by omega)]; have := Nat.mod_two_eq_zero_or_one (st / 2 ^ k); have := Nat.mod_two_eq_zero_or_one ((w3 95 7) / 2 ^ k); first | omega | (rcases this with z | z <;> rw [z] <;> omega))]) (by omega))
              · refine xx_iload_n (pc := 61) dX11_bars_61 0 rfl rfl ?_
                exact xx_iret (pc := 62) dX11_bars_62 rfl (rfl) (Nat.le_refl _) (Nat.le_refl _) (ic_ri ⟨by rw [if_pos (by omega), hq, show s 0 - k = (s 0 - (k + 1)) + 1 by omega, mo_lowN, if_pos (by rw [lowb (by omega), show st / 2 ^ k % 2 = 1 by omega]; omega)], w3, rfl, fw3⟩)
      exact xx_sub [0, 1, 2, 3] rfl (lp (s 0 + 1) 0 (by omega) rfl (by omega))
    · refine xx_iconst (pc := 15) dX11_bars_15 cc_iconst_m1 ?_
      exact xx_iret (pc := 16) dX11_bars_16 rfl (rfl) (Nat.le_refl _) (Nat.le_refl _) (ic_ri ⟨by rw [if_neg (by omega)], w, rfl, Fp.rf w⟩)

