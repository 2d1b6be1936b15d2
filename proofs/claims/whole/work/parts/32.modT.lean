/-! counts, what is kept -/
def mo_sz : Nat → Nat → Nat → Nat
  | 0, _, c => c
  | f + 1, n, c => if n = 0 then c else mo_sz f (n &&& (n - 1)) (c + 1)
def mo_size (n : Nat) : Nat := mo_sz 64 n 0
def mo_mny (w : ic_w) (k : Nat) : Nat := if k = 0 then w 115 0 else if k = 1 then w 115 5 else if k = 2 then mo_size (mo_outs (w 115)) else if k = 3 then w 115 6 else if k = 4 then w 114 28 else if k = 5 then w 114 5 else if k = 6 then w 114 36 else 4294967295
theorem cp_s (g f : Nat → Nat) (n : Nat) : mo_cp g 0 f 0 (n + 1) = fu (mo_cp g 0 f 0 n) n (f n) := by
  funext j
  unfold mo_cp fu
  by_cases q : j = n
  · subst q
    rw [if_pos (by omega), if_pos rfl]
    congr 1
    omega
  · rw [if_neg q]
    by_cases z : j < n
    · rw [if_pos (by omega)]
      exact (if_pos (by omega)).symm
    · rw [if_neg (by omega)]
      exact (if_neg (by omega)).symm
theorem cp_0 (g f : Nat → Nat) : mo_cp g 0 f 0 0 = g := by
  funext j
  unfold mo_cp
  rw [if_neg (by omega)]

set_option maxHeartbeats 4000000 in
set_option maxRecDepth 100000 in
theorem cM_size {l : Launch} {E : ic_E} {w : ic_w} {a : Nat} (ha : a < 64) : ic_C l E mX12_size 1 0 0 False [.int (nI a)] SHs (hn w) SHs (ic_qe (nI (mo_size a)) (hn w)) := by
  refine ic_intro (by decide +kernel) (Nat.le_of_ble_eq_true rfl) ?_
  show xx l E _ _ 0 [(0, .int (nI a))] _ _ _
  have lp : ∀ (n_ : Nat) (f x c : Nat), x < 64 → x < f → mo_size a = mo_sz f x c → x < n_ → xx l E (ic_fr E mX12_size 1 0 0 False SHs (ic_qe (nI (mo_size a)) (hn w))) (0, 0) 4 [(2, .int (nI x)), (1, .int (nI c)), (0, .int (nI a))] [] SHs (hn w) := by
    intro n_
    induction n_ with
    | zero => intro f x c hx hf hq hm_; exact absurd hm_ (Nat.not_lt_zero _)
    | succ n_ ih_ =>
      intro f x c hx hf hq hm_
      refine xx_iload_n (pc := 4) dX12_size_4 0 rfl rfl ?_
      refine xx_if_eqN (pc := 5) 20 dX12_size_5 rfl (by omega) (fun c1 => ?_) (fun c1 => ?_)
      · refine xx_iload_n (pc := 20) dX12_size_20 1 rfl rfl ?_
        exact xx_iret (pc := 21) dX12_size_21 rfl (rfl) (Nat.le_refl _) (Nat.le_refl _) (ic_re (by rw [hq]; cases f with | zero => omega | succ f => rw [mo_sz, if_pos (by omega)]))
      · refine xx_iincN (L' := [(1, .int (nI (c + 1))), (2, .int (nI x)), (0, .int (nI a))]) (pc := 8) dX12_size_8 1 rfl cc_iconst_1 (Nat.le_of_ble_eq_true rfl) rfl ?_
        refine xx_iload_n (pc := 11) dX12_size_11 1 rfl rfl ?_
        refine xx_iload_n (pc := 12) dX12_size_12 1 rfl rfl ?_
        refine xx_iconst (pc := 13) dX12_size_13 cc_iconst_1 ?_
        refine xx_isubN (pc := 14) dX12_size_14 (by omega) ?_
        refine xx_iandN (pc := 15) dX12_size_15 ?_
        refine xx_istore_n (L' := [(2, .int (nI (x &&& (x - 1)))), (1, .int (nI (c + 1))), (0, .int (nI a))]) (pc := 16) dX12_size_16 rfl (Nat.le_of_ble_eq_true rfl) rfl ?_
        refine xx_goto (pc := 17) 4 dX12_size_17 rfl ?_
        obtain ⟨f2, rfl⟩ : ∃ f2, f = f2 + 1 := ⟨f - 1, by omega⟩
        have hxl := Nat.and_le_right (n := x) (m := x - 1)
        exact xx_sub [0, 1, 2] rfl (ih_ f2 _ _ (by omega) (by omega) (by rw [hq, mo_sz, if_neg (by omega)]) (by omega))
  refine xx_iconst (pc := 0) dX12_size_0 cc_iconst_0 ?_
  refine xx_istore_n (L' := [(1, .int (nI 0)), (0, .int (nI a))]) (pc := 1) dX12_size_1 rfl (Nat.le_of_ble_eq_true rfl) rfl ?_
  refine xx_iload_n (pc := 2) dX12_size_2 1 rfl rfl ?_
  refine xx_istore_n (L' := [(2, .int (nI a)), (1, .int (nI 0)), (0, .int (nI a))]) (pc := 3) dX12_size_3 rfl (Nat.le_of_ble_eq_true rfl) rfl ?_
  exact xx_sub [0, 1, 2] rfl (lp (a + 1) 64 a 0 ha (by omega) rfl (by omega))

set_option maxHeartbeats 4000000 in
set_option maxRecDepth 100000 in
theorem cM_many {l : Launch} {E : ic_E} {w : ic_w} {k : Nat} (hk_ : k < 2 ^ 32) (hI : In (w 115)) : ic_C l E mX12_many 3 0 0 False [ic_pt E 114, .int (nI k)] SHs (hn w) SHs (ic_qe (nI (mo_mny w k)) (hn w)) := by
  refine ic_intro (by decide +kernel) (Nat.le_of_ble_eq_true rfl) ?_
  show xx l E _ _ 0 [(0, ic_pt E 114), (1, .int (nI k))] _ _ _
  refine xx_iload_n (pc := 0) dX12_many_0 1 rfl rfl ?_
  rcases (show k = 0 ∨ k = 1 ∨ k = 2 ∨ k = 3 ∨ k = 4 ∨ k = 5 ∨ k = 6 ∨ 7 ≤ k by omega) with rfl | rfl | rfl | rfl | rfl | rfl | rfl | hbig
  · refine xx_tin (pc := 1) 44 dX12_many_1 (by decide) (by decide) rfl rfl ?_
    refine xx_aload_nP (pc := 44) dX12_many_44 0 rfl rfl ?_
    refine xx_getR (pc := 45) 115 dX12_many_45 sh_114 fX12_7_12 rfl rfl (by decide) ?_
    refine xx_iconst (pc := 48) dX12_many_48 cc_iconst_0 ?_
    refine xx_ialdN (pc := 49) dX12_many_49 sh_115 (by omega) (by decide) ?_
    exact xx_iret (pc := 50) dX12_many_50 rfl (rfl) (Nat.le_refl _) (Nat.le_refl _) (ic_re (by unfold mo_mny; rfl))
  · refine xx_tin (pc := 1) 51 dX12_many_1 (by decide) (by decide) rfl rfl ?_
    refine xx_aload_nP (pc := 51) dX12_many_51 0 rfl rfl ?_
    refine xx_getR (pc := 52) 115 dX12_many_52 sh_114 fX12_7_12 rfl rfl (by decide) ?_
    refine xx_iconst (pc := 55) dX12_many_55 cc_iconst_5 ?_
    refine xx_ialdN (pc := 56) dX12_many_56 sh_115 (by omega) (by decide) ?_
    exact xx_iret (pc := 57) dX12_many_57 rfl (rfl) (Nat.le_refl _) (Nat.le_refl _) (ic_re (by unfold mo_mny; rfl))
  · refine xx_tin (pc := 1) 58 dX12_many_1 (by decide) (by decide) rfl rfl ?_
    refine xx_aload_nP (pc := 58) dX12_many_58 0 rfl rfl ?_
    refine xx_callV0 (pc := 59) (st := []) sh_114 (cM_outOnes (w := w) hI) kX12_outOnes vX12_144_12 dX12_many_59 rfl rfl (Nat.le_of_ble_eq_true rfl) ⟨Nat.le_of_ble_eq_true rfl, Nat.le_of_ble_eq_true rfl⟩ ⟨Nat.zero_le _, Nat.zero_le _⟩ (ic_ke ?_)
    refine xx_callS0 (pc := 62) (st := []) (cM_size (w := w) (a := mo_outs (w 115)) (mo_outs_lt hI.n)) kX12_size sX12_418 dX12_many_62 rfl rfl (Nat.le_of_ble_eq_true rfl) ⟨Nat.le_of_ble_eq_true rfl, Nat.le_of_ble_eq_true rfl⟩ ⟨Nat.zero_le _, Nat.zero_le _⟩ (ic_ke ?_)
    exact xx_iret (pc := 65) dX12_many_65 rfl (rfl) (Nat.le_refl _) (Nat.le_refl _) (ic_re (by unfold mo_mny; rfl))
  · refine xx_tin (pc := 1) 66 dX12_many_1 (by decide) (by decide) rfl rfl ?_
    refine xx_aload_nP (pc := 66) dX12_many_66 0 rfl rfl ?_
    refine xx_getR (pc := 67) 115 dX12_many_67 sh_114 fX12_7_12 rfl rfl (by decide) ?_
    refine xx_bipush (pc := 70) dX12_many_70 cc_bipush_6 ?_
    refine xx_ialdN (pc := 72) dX12_many_72 sh_115 (by omega) (by decide) ?_
    exact xx_iret (pc := 73) dX12_many_73 rfl (rfl) (Nat.le_refl _) (Nat.le_refl _) (ic_re (by unfold mo_mny; rfl))
  · refine xx_tin (pc := 1) 74 dX12_many_1 (by decide) (by decide) rfl rfl ?_
    refine xx_aload_nP (pc := 74) dX12_many_74 0 rfl rfl ?_
    refine xx_getN (pc := 75) dX12_many_75 sh_114 fX12_341_12 rfl ?_
    exact xx_iret (pc := 78) dX12_many_78 rfl (rfl) (Nat.le_refl _) (Nat.le_refl _) (ic_re (by unfold mo_mny; rfl))
  · refine xx_tin (pc := 1) 79 dX12_many_1 (by decide) (by decide) rfl rfl ?_
    refine xx_aload_nP (pc := 79) dX12_many_79 0 rfl rfl ?_
    refine xx_getN (pc := 80) dX12_many_80 sh_114 fX12_153_12 rfl ?_
    exact xx_iret (pc := 83) dX12_many_83 rfl (rfl) (Nat.le_refl _) (Nat.le_refl _) (ic_re (by unfold mo_mny; rfl))
  · refine xx_tin (pc := 1) 84 dX12_many_1 (by decide) (by decide) rfl rfl ?_
    refine xx_aload_nP (pc := 84) dX12_many_84 0 rfl rfl ?_
    refine xx_getN (pc := 85) dX12_many_85 sh_114 fX12_373_12 rfl ?_
    exact xx_iret (pc := 88) dX12_many_88 rfl (rfl) (Nat.le_refl _) (Nat.le_refl _) (ic_re (by unfold mo_mny; rfl))
  · refine xx_tout (pc := 1) 89 dX12_many_1 (by rw [nI_sgn (by omega)]; split <;> omega) rfl ?_
    refine xx_iconst (pc := 89) dX12_many_89 cc_iconst_m1 ?_
    exact xx_iret (pc := 90) dX12_many_90 rfl (rfl) (Nat.le_refl _) (Nat.le_refl _) (ic_re (by unfold mo_mny; rw [if_neg (by omega), if_neg (by omega), if_neg (by omega), if_neg (by omega), if_neg (by omega), if_neg (by omega), if_neg (by omega)]))

set_option maxHeartbeats 4000000 in
set_option maxRecDepth 100000 in
theorem cM_trace {l : Launch} {E : ic_E} {w : ic_w} {i : Nat} (hi_ : i < 2 ^ 32) (hr30 : w 114 36 ≤ 30) : ic_C l E mX12_trace 2 0 0 False [ic_pt E 114, .int (nI i)] SHs (hn w) SHs (ic_qe (nI (if i < w 114 36 then w 132 i else 4294967293)) (hn w)) := by
  refine ic_intro (by decide +kernel) (Nat.le_of_ble_eq_true rfl) ?_
  show xx l E _ _ 0 [(0, ic_pt E 114), (1, .int (nI i))] _ _ _
  refine xx_iload_n (pc := 0) dX12_trace_0 1 rfl rfl ?_
  refine xx_i2l (pc := 1) dX12_trace_1 ?_
  refine xx_lconst (v := 0) (pc := 2) dX12_trace_2 rfl ?_
  refine xx_aload_nP (pc := 3) dX12_trace_3 0 rfl rfl ?_
  refine xx_getN (pc := 4) dX12_trace_4 sh_114 fX12_373_12 rfl ?_
  refine xx_iconst (pc := 7) dX12_trace_7 cc_iconst_1 ?_
  refine xx_isubW (pc := 8) dX12_trace_8 (by omega) ?_
  refine xx_i2l (pc := 9) dX12_trace_9 ?_
  refine xx_callS0 (pc := 10) (st := []) (cM_isIn (i < w 114 36) (ll_row2 (by omega) (by omega))) kX12_isIn sX12_66 dX12_trace_10 rfl rfl (Nat.le_of_ble_eq_true rfl) ⟨Nat.le_of_ble_eq_true rfl, Nat.le_of_ble_eq_true rfl⟩ ⟨Nat.zero_le _, Nat.zero_le _⟩ (ic_ke ?_)
  refine xx_if_eqB (pc := 13) 25 dX12_trace_13 rfl (fun c1 => ?_) (fun c1 => ?_)
  · refine xx_bipush (pc := 25) dX12_trace_25 cc_bipush_m3 ?_
    exact xx_iret (pc := 27) dX12_trace_27 rfl (rfl) (Nat.le_refl _) (Nat.le_refl _) (ic_re (if_neg (by omega)).symm)
  · refine xx_aload_nP (pc := 16) dX12_trace_16 0 rfl rfl ?_
    refine xx_getR (pc := 17) 132 dX12_trace_17 sh_114 fX12_61_12 rfl rfl (by decide) ?_
    refine xx_iload_n (pc := 20) dX12_trace_20 1 rfl rfl ?_
    refine xx_ialdN (pc := 21) dX12_trace_21 sh_132 (by omega) (by decide) ?_
    refine xx_goto (pc := 22) 27 dX12_trace_22 rfl ?_
    exact xx_iret (pc := 27) dX12_trace_27 rfl (rfl) (Nat.le_refl _) (Nat.le_refl _) (ic_re (if_pos (by omega)).symm)

set_option maxHeartbeats 4000000 in
set_option maxRecDepth 100000 in
theorem cM_keep {l : Launch} {E : ic_E} {w : ic_w}  : ic_C l E mX12_keep 1 0 0 False [ic_pt E 114] SHs (hn w) SHs (ic_qi (fun v_ h_ => v_ = nI 1 ∧ h_ = hn (wu (wr w 116 (mo_cp (w 116) 0 (w 115) 0 578)) 114 2 1))) := by
  refine ic_intro (by decide +kernel) (Nat.le_of_ble_eq_true rfl) ?_
  show xx l E _ _ 0 [(0, ic_pt E 114)] _ _ _
  have lp : ∀ (n_ : Nat) (k : Nat) (u : ic_w), k ≤ 578 → u = wr w 116 (mo_cp (w 116) 0 (w 115) 0 k) → 578 - k < n_ → xx l E (ic_fr E mX12_keep 1 0 0 False SHs (ic_qi (fun v_ h_ => v_ = nI 1 ∧ h_ = hn (wu (wr w 116 (mo_cp (w 116) 0 (w 115) 0 578)) 114 2 1)))) (0, 0) 2 [(1, .int (nI k)), (0, ic_pt E 114)] [] SHs (hn u) := by
    intro n_
    induction n_ with
    | zero => intro k u hk hu hm_; exact absurd hm_ (Nat.not_lt_zero _)
    | succ n_ ih_ =>
      intro k u hk hu hm_
      refine xx_iload_n (pc := 2) dX12_keep_2 0 rfl rfl ?_
      refine xx_sipush (pc := 3) dX12_keep_3 cc_sipush_578 ?_
      refine xx_icmp_geN (pc := 6) 27 dX12_keep_6 rfl (by omega) (by omega) (fun c1 => ?_) (fun c1 => ?_)
      · refine xx_aload_nP (pc := 27) dX12_keep_27 1 rfl rfl ?_
        refine xx_iconst (pc := 28) dX12_keep_28 cc_iconst_1 ?_
        refine xx_putB (pc := 29) dX12_keep_29 sh_114 fX12_421_12 rfl rfl (by omega) ?_
        refine xx_nw (fun w2 ew2 => ?_)
        refine xx_iconst (pc := 32) dX12_keep_32 cc_iconst_1 ?_
        exact xx_iret (pc := 33) dX12_keep_33 rfl (rfl) (Nat.le_refl _) (Nat.le_refl _) (ic_ri ⟨rfl, by rw [ew2, hu, show k = 578 by omega]⟩)
      · refine xx_aload_nP (pc := 9) dX12_keep_9 1 rfl rfl ?_
        refine xx_getR (pc := 10) 116 dX12_keep_10 sh_114 fX12_13_12 rfl rfl (by decide) ?_
        refine xx_iload_n (pc := 13) dX12_keep_13 0 rfl rfl ?_
        refine xx_aload_nP (pc := 14) dX12_keep_14 1 rfl rfl ?_
        refine xx_getR (pc := 15) 115 dX12_keep_15 sh_114 fX12_7_12 rfl rfl (by decide) ?_
        refine xx_iload_n (pc := 18) dX12_keep_18 0 rfl rfl ?_
        refine xx_ialdN (pc := 19) dX12_keep_19 sh_115 (by omega) (by decide) ?_
        refine xx_iastN (pc := 20) dX12_keep_20 sh_116 (by omega) (by decide) ?_
        refine xx_nw (fun w3 ew3 => ?_)
        refine xx_iincN (L' := [(1, .int (nI (k + 1))), (0, ic_pt E 114)]) (pc := 21) dX12_keep_21 0 rfl cc_iconst_1 (Nat.le_of_ble_eq_true rfl) rfl ?_
        refine xx_goto (pc := 24) 2 dX12_keep_24 rfl ?_
        exact xx_sub [0, 1] rfl (ih_ (k + 1) w3 (by omega) (by rw [cp_s, ew3, wu_wr, hu, wr_s, wr_wr, wr_n _ (by omega)]) (by omega))
  refine xx_iconst (pc := 0) dX12_keep_0 cc_iconst_0 ?_
  refine xx_istore_n (L' := [(1, .int (nI 0)), (0, ic_pt E 114)]) (pc := 1) dX12_keep_1 rfl (Nat.le_of_ble_eq_true rfl) rfl ?_
  exact xx_sub [0, 1] rfl (lp 579 0 w (by omega) (by rw [cp_0, wr_id]) (by omega))

set_option maxHeartbeats 4000000 in
set_option maxRecDepth 100000 in
theorem cM_again {l : Launch} {E : ic_E} {w : ic_w} (h2 : w 114 2 ≤ 1) : ic_C l E mX12_again 1 0 0 False [ic_pt E 114] SHs (hn w) SHs (ic_qi (fun v_ h_ => v_ = nI (if w 114 2 = 0 then 4294967293 else mo_cp (w 115) 0 (w 116) 0 578 0) ∧ h_ = hn (if w 114 2 = 0 then w else wr w 115 (mo_cp (w 115) 0 (w 116) 0 578)))) := by
  refine ic_intro (by decide +kernel) (Nat.le_of_ble_eq_true rfl) ?_
  show xx l E _ _ 0 [(0, ic_pt E 114)] _ _ _
  have lp : ∀ (n_ : Nat) (k : Nat) (u : ic_w), k ≤ 578 → u = wr w 115 (mo_cp (w 115) 0 (w 116) 0 k) → (w 114 2 ≠ 0) → 578 - k < n_ → xx l E (ic_fr E mX12_again 1 0 0 False SHs (ic_qi (fun v_ h_ => v_ = nI (if w 114 2 = 0 then 4294967293 else mo_cp (w 115) 0 (w 116) 0 578 0) ∧ h_ = hn (if w 114 2 = 0 then w else wr w 115 (mo_cp (w 115) 0 (w 116) 0 578))))) (0, 0) 12 [(1, .int (nI k)), (0, ic_pt E 114)] [] SHs (hn u) := by
    intro n_
    induction n_ with
    | zero => intro k u hk hu h0 hm_; exact absurd hm_ (Nat.not_lt_zero _)
    | succ n_ ih_ =>
      intro k u hk hu h0 hm_
      refine xx_iload_n (pc := 12) dX12_again_12 0 rfl rfl ?_
      refine xx_sipush (pc := 13) dX12_again_13 cc_sipush_578 ?_
      refine xx_icmp_geN (pc := 16) 37 dX12_again_16 rfl (by omega) (by omega) (fun c1 => ?_) (fun c1 => ?_)
      · refine xx_aload_nP (pc := 37) dX12_again_37 1 rfl rfl ?_
        refine xx_getR (pc := 38) 115 dX12_again_38 sh_114 fX12_7_12 rfl rfl (by decide) ?_
        refine xx_iconst (pc := 41) dX12_again_41 cc_iconst_0 ?_
        refine xx_ialdN (pc := 42) dX12_again_42 sh_115 (by omega) (by decide) ?_
        exact xx_iret (pc := 43) dX12_again_43 rfl (rfl) (Nat.le_refl _) (Nat.le_refl _) (ic_ri ⟨by rw [if_neg (by omega), hu, wr_s, show k = 578 by omega], by rw [if_neg (by omega), hu, show k = 578 by omega]⟩)
      · refine xx_aload_nP (pc := 19) dX12_again_19 1 rfl rfl ?_
        refine xx_getR (pc := 20) 115 dX12_again_20 sh_114 fX12_7_12 rfl rfl (by decide) ?_
        refine xx_iload_n (pc := 23) dX12_again_23 0 rfl rfl ?_
        refine xx_aload_nP (pc := 24) dX12_again_24 1 rfl rfl ?_
        refine xx_getR (pc := 25) 116 dX12_again_25 sh_114 fX12_13_12 rfl rfl (by decide) ?_
        refine xx_iload_n (pc := 28) dX12_again_28 0 rfl rfl ?_
        refine xx_ialdN (pc := 29) dX12_again_29 sh_116 (by omega) (by decide) ?_
        refine xx_iastN (pc := 30) dX12_again_30 sh_115 (by omega) (by decide) ?_
        refine xx_nw (fun w2 ew2 => ?_)
        refine xx_iincN (L' := [(1, .int (nI (k + 1))), (0, ic_pt E 114)]) (pc := 31) dX12_again_31 0 rfl cc_iconst_1 (Nat.le_of_ble_eq_true rfl) rfl ?_
        refine xx_goto (pc := 34) 12 dX12_again_34 rfl ?_
        exact xx_sub [0, 1] rfl (ih_ (k + 1) w2 (by omega) (by rw [cp_s, ew2, wu_wr, hu, wr_s, wr_wr, wr_n _ (by omega)]) h0 (by omega))
  refine xx_aload_nP (pc := 0) dX12_again_0 0 rfl rfl ?_
  refine xx_getN (pc := 1) dX12_again_1 sh_114 fX12_421_12 rfl ?_
  refine xx_if_neN (pc := 4) 10 dX12_again_4 rfl (by omega) (fun c201 => ?_) (fun c201 => ?_)
  · refine xx_iconst (pc := 10) dX12_again_10 cc_iconst_0 ?_
    refine xx_istore_n (L' := [(1, .int (nI 0)), (0, ic_pt E 114)]) (pc := 11) dX12_again_11 rfl (Nat.le_of_ble_eq_true rfl) rfl ?_
    exact xx_sub [0, 1] rfl (lp 579 0 w (by omega) (by rw [cp_0, wr_id]) (by omega) (by omega))
  · refine xx_bipush (pc := 7) dX12_again_7 cc_bipush_m3 ?_
    exact xx_iret (pc := 9) dX12_again_9 rfl (rfl) (Nat.le_refl _) (Nat.le_refl _) (ic_ri ⟨by rw [if_pos (by omega)], by rw [if_pos (by omega)]⟩)

