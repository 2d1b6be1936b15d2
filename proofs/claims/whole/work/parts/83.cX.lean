/-! the class: act and what is told of it -/
theorem xx_putDN {l : Launch} {E : ic_E} {F : ic_F} {kc : Nat × Nat} {pc : Nat} {L : List (Nat × Value)} {st : List Value} {sh : List ic_S}  {w : ic_w} {idx o c n k : Nat} {rs : List Nat} {v : Value} (t : Nat) (hd : decode F.2.2.1 pc = .ok (.putfield idx, 3)) (hs : sh[o]? = some (c, n, rs)) (hf : ic_FX F.1 idx c k) (hr : ic_isR (ic_ty c k) = true) (hdy : rs.getD k 0 = 1000000) (hfin : (ic_T c k).2.2.2 = false) (hw : v = ic_rv (ic_b E) t) (ht : t < 2 ^ 31) (hn' : narrow (ic_ty c k) v = v) (hfit : fits (ic_ty c k) v = true) (kk : xx l E F kc (pc + 3) L st sh (hn (wu w o k t))) : xx l E F kc pc L (v :: ic_pt E o :: st) sh (hn w) := xx_putD t hd hs hf hr hdy hfin hw ht hn' hfit (by rw [hn_up]; exact kk)
/-- the one that acted latest is as W says -/
def Act (w W : ic_w) : Prop := (w 0 16 = 0 ∧ W 114 36 = 0) ∨ ∃ k, 1 ≤ k ∧ k ≤ 5 ∧ w 0 16 = 28 + 2 * k ∧ Ca w W k
def mo_acc (w : ic_w) (s B : Nat → Nat) (i : Nat) : ic_w := wu (wu (wu (wu (wu w 114 36 0) 114 40 0) 114 37 (it s (B i) 0)) 114 38 (B i)) 114 39 (it s (B i) 3)
theorem mo_acc_e (w : ic_w) (i : Nat) : mo_ac0 w i = mo_acc w (w 115) (w 130) i := rfl
theorem mo_acc_f (w : ic_w) (s B : Nat → Nat) (i : Nat) : mo_acc w s B i 114 36 = 0 ∧ mo_acc w s B i 114 40 = 0 ∧ mo_acc w s B i 114 37 = it s (B i) 0 ∧ mo_acc w s B i 114 38 = B i ∧ mo_acc w s B i 114 39 = it s (B i) 3 := by
  unfold mo_acc
  refine ⟨?_, ?_, ?_, ?_, wu_s _ _ _ _⟩
  · rw [wu_k _ _ _ _ (by omega), wu_k _ _ _ _ (by omega), wu_k _ _ _ _ (by omega), wu_k _ _ _ _ (by omega), wu_s]
  · rw [wu_k _ _ _ _ (by omega), wu_k _ _ _ _ (by omega), wu_k _ _ _ _ (by omega), wu_s]
  · rw [wu_k _ _ _ _ (by omega), wu_k _ _ _ _ (by omega), wu_s]
  · rw [wu_k _ _ _ _ (by omega), wu_s]
theorem riw_f (W : ic_w) {j : Nat} (h : j ≠ 36) (h2 : j ≠ 40) : mo_riw W 114 j = W 114 j := by
  unfold mo_riw mo_rw3
  split
  · split
    · rw [mo_lgs_f _ _ h, mo_row_f _ h h2, mo_rpw_f _ h, mo_rn_f _ _ h]
    · rw [mo_row_f _ h h2, mo_rpw_f _ h, mo_rn_f _ _ h]
  · rw [mo_row_f _ h h2, mo_rpw_f _ h]
theorem riw_40 (W : ic_w) : mo_riw W 114 40 = mo_P W := by
  unfold mo_riw mo_rw3
  split
  · split
    · rw [mo_lgs_f _ _ (by omega), mo_row_40, mo_P_rpw, mo_P_rn]
    · rw [mo_row_40, mo_P_rpw, mo_P_rn]
  · rw [mo_row_40, mo_P_rpw]
theorem rov_p {V : ic_w} {k x : Nat} (h : V 114 37 = k) (h0 : V 114 40 = 0) (h4 : k ≠ 4) (h5 : k ≠ 5) : mo_rov V x = mo_rr 0 (mo_D V) x := by
  unfold mo_rov
  rw [if_neg (by omega), if_neg (by omega), h0]
theorem rov_4 {V : ic_w} {x : Nat} (h : V 114 37 = 4) (h0 : V 114 40 = 0) : mo_rov V x = mo_mi (mo_rr 0 (mo_D V) x) 5 := by
  unfold mo_rov
  rw [if_pos h, h0]
theorem rov_5 {V : ic_w} {x : Nat} (h : V 114 37 = 5) (h0 : V 114 40 = 0) (hP : mo_P V = 0) : mo_rov V x = mo_mi (mo_rr 0 (mo_D V) x) 5 ^^^ mo_sp (V 114 38) (V 114 38) := by
  unfold mo_rov
  rw [if_neg (by omega), if_pos h, if_pos hP, h0]
  rfl
theorem D_rpw (W : ic_w) : mo_D (mo_rpw W) = mo_D W := by
  unfold mo_D
  rw [mo_rpw_f _ (by omega), mo_rpw_f _ (by omega)]
theorem aw_0 {W : ic_w} {k : Nat} {l : List Nat} (h0 : W 114 40 = 0) (h : W 114 37 = k) (hl : mo_sdl k = l) : mo_aw W 0 = mo_cl W l := by
  unfold mo_aw mo_cl
  rw [if_pos rfl, if_pos h0, h, hl]
theorem aw_1 {W : ic_w} {k : Nat} {l : List Nat} (h0 : W 114 40 = 0) (h : W 114 37 = k) (hl : mo_rdl k = l) : mo_aw W 1 = mo_cl W l := by
  unfold mo_aw mo_cl
  rw [if_neg (by omega), if_pos rfl, if_pos h0, h, hl]
theorem aw_2 (W : ic_w) : mo_aw W 2 = mo_row W := rfl
theorem aw_3 (W : ic_w) : mo_aw W 3 = mo_riw W := rfl
theorem aw_3n {W : ic_w} {k : Nat} (h : W 114 37 = k) (h3 : k ≠ 3) : mo_aw W 3 = mo_row (mo_rpw W) := by
  show mo_riw W = _
  unfold mo_riw
  exact if_neg (by omega)
theorem av_0 {W : ic_w} {k x : Nat} (h : W 114 37 = k) : mo_av W 0 x = mo_sd k (W 114 38) x := by
  rw [← h]
  rfl
theorem av_1 {W : ic_w} {k x : Nat} (h : W 114 37 = k) : mo_av W 1 x = mo_rd k (W 114 38) (W 114 39) x := by
  rw [← h]
  rfl
theorem av_2 (W : ic_w) (x : Nat) : mo_av W 2 x = mo_rov W x := rfl
theorem av_3 {W : ic_w} {k x : Nat} (h : W 114 37 = k) (h3 : k ≠ 3) : mo_av W 3 x = mo_mi (mo_rd k (W 114 38) (W 114 39) x) (mo_rov (mo_rpw W) x) := by
  show mo_ris W x = _
  unfold mo_ris mo_rsp
  rw [if_neg (by omega), h]
theorem av_33 {W : ic_w} {x : Nat} (h : W 114 37 = 3) (h0 : W 114 40 = 0) (hP : mo_P W = 0) : mo_av W 3 x = mo_mi (mo_rd 3 (W 114 38) (W 114 39) x) (mo_rr 0 (mo_D W) x) + mo_rd 3 (W 114 38) (W 114 39) (W 114 39) := by
  show mo_ris W x = _
  unfold mo_ris
  rw [if_pos h, if_pos hP]
  unfold mo_rsp
  rw [mo_rn_f _ _ (by omega), mo_rn_f _ _ (by omega), mo_rn_f _ _ (by omega), h, rov_p (k := 3) (by rw [mo_rpw_f _ (by omega), mo_rn_f _ _ (by omega), h]) (by rw [mo_rpw_f _ (by omega), mo_rn_f _ _ (by omega), h0]) (by omega) (by omega), D_rpw, mo_D_rn]
/-- the rider begins anew -/
theorem Ca.beg {w V : ic_w} {k n a : Nat} (hV : V 114 36 = 0 ∧ V 114 40 = 0 ∧ V 114 37 = k ∧ V 114 38 = n ∧ V 114 39 = a) : Ca (wu (wu (wu (wu w (27 + 2 * k) 0 n) (27 + 2 * k) 1 a) (27 + 2 * k) 3 0) (27 + 2 * k) 4 0) V k := by
  refine ⟨⟨?_, ?_, ?_, ?_⟩, ⟨hV.2.2.1, by omega, by omega⟩, fun j hj => by omega⟩
  · rw [wu_k _ _ _ _ (by omega), wu_k _ _ _ _ (by omega), wu_k _ _ _ _ (by omega), wu_s, hV.2.2.2.1]
  · rw [wu_k _ _ _ _ (by omega), wu_k _ _ _ _ (by omega), wu_s, hV.2.2.2.2]
  · rw [wu_k _ _ _ _ (by omega), wu_s, hV.1]
  · rw [wu_s, hV.2.1]
set_option maxHeartbeats 4000000 in
set_option maxRecDepth 100000 in
theorem cC_becomes_1 {l : Launch} {E : ic_E} {w : ic_w} {V : ic_w} {n a : Nat} (hn_ : n < 2 ^ 32) (ha_ : a < 2 ^ 32) (hV : V 114 36 = 0 ∧ V 114 40 = 0 ∧ V 114 37 = 1 ∧ V 114 38 = n ∧ V 114 39 = a) : ic_C l E mX9_become 1 0 0 False [ic_pt E 29, .int (nI n), .int (nI a)] SHs (hn w) SHs (ic_qv (fun h_ => ∃ w2, h_ = hn w2 ∧ (∀ a, a ≠ 29 → a ≠ 30 → w2 a = w a) ∧ Ca w2 (V) 1)) := by
  refine ic_intro (by decide +kernel) (Nat.le_of_ble_eq_true rfl) ?_
  show xx l E _ _ 0 [(0, ic_pt E 29), (1, .int (nI n)), (2, .int (nI a))] _ _ _
  refine xx_aload_nP (pc := 0) dX9_become_0 0 rfl rfl ?_
  refine xx_iload_n (pc := 1) dX9_become_1 1 rfl rfl ?_
  refine xx_putN (pc := 2) dX9_become_2 sh_29 fX9_15_7 rfl rfl ?_
  refine xx_nw (fun w1 ew1 => ?_)
  refine xx_aload_nP (pc := 5) dX9_become_5 0 rfl rfl ?_
  refine xx_iload_n (pc := 6) dX9_become_6 2 rfl rfl ?_
  refine xx_putN (pc := 7) dX9_become_7 sh_29 fX9_19_7 rfl rfl ?_
  refine xx_nw (fun w2 ew2 => ?_)
  refine xx_aload_nP (pc := 10) dX9_become_10 0 rfl rfl ?_
  refine xx_iconst (pc := 11) dX9_become_11 cc_iconst_0 ?_
  refine xx_putN (pc := 12) dX9_become_12 sh_29 fX9_22_7 rfl rfl ?_
  refine xx_nw (fun w3 ew3 => ?_)
  refine xx_aload_nP (pc := 15) dX9_become_15 0 rfl rfl ?_
  refine xx_iconst (pc := 16) dX9_become_16 cc_iconst_0 ?_
  refine xx_putB (pc := 17) dX9_become_17 sh_29 fX9_25_7 rfl rfl (by omega) ?_
  refine xx_nw (fun w4 ew4 => ?_)
  exact xx_vret (pc := 20) dX9_become_20 rfl (Nat.le_refl _) (Nat.le_refl _) (ic_rv0 ⟨w4, rfl, fun a h1 h2 => by rw [ew4, wu_row _ _ _ h1, ew3, wu_row _ _ _ h1, ew2, wu_row _ _ _ h1, ew1, wu_row _ _ _ h1], by rw [ew4, ew3, ew2, ew1]; exact Ca.beg hV⟩)

set_option maxHeartbeats 4000000 in
set_option maxRecDepth 100000 in
theorem cC_becomes_2 {l : Launch} {E : ic_E} {w : ic_w} {V : ic_w} {n a : Nat} (hn_ : n < 2 ^ 32) (ha_ : a < 2 ^ 32) (hV : V 114 36 = 0 ∧ V 114 40 = 0 ∧ V 114 37 = 2 ∧ V 114 38 = n ∧ V 114 39 = a) : ic_C l E mX9_become 1 0 0 False [ic_pt E 31, .int (nI n), .int (nI a)] SHs (hn w) SHs (ic_qv (fun h_ => ∃ w2, h_ = hn w2 ∧ (∀ a, a ≠ 31 → a ≠ 32 → w2 a = w a) ∧ Ca w2 (V) 2)) := by
  refine ic_intro (by decide +kernel) (Nat.le_of_ble_eq_true rfl) ?_
  show xx l E _ _ 0 [(0, ic_pt E 31), (1, .int (nI n)), (2, .int (nI a))] _ _ _
  refine xx_aload_nP (pc := 0) dX9_become_0 0 rfl rfl ?_
  refine xx_iload_n (pc := 1) dX9_become_1 1 rfl rfl ?_
  refine xx_putN (pc := 2) dX9_become_2 sh_31 fX9_15_3 rfl rfl ?_
  refine xx_nw (fun w1 ew1 => ?_)
  refine xx_aload_nP (pc := 5) dX9_become_5 0 rfl rfl ?_
  refine xx_iload_n (pc := 6) dX9_become_6 2 rfl rfl ?_
  refine xx_putN (pc := 7) dX9_become_7 sh_31 fX9_19_3 rfl rfl ?_
  refine xx_nw (fun w2 ew2 => ?_)
  refine xx_aload_nP (pc := 10) dX9_become_10 0 rfl rfl ?_
  refine xx_iconst (pc := 11) dX9_become_11 cc_iconst_0 ?_
  refine xx_putN (pc := 12) dX9_become_12 sh_31 fX9_22_3 rfl rfl ?_
  refine xx_nw (fun w3 ew3 => ?_)
  refine xx_aload_nP (pc := 15) dX9_become_15 0 rfl rfl ?_
  refine xx_iconst (pc := 16) dX9_become_16 cc_iconst_0 ?_
  refine xx_putB (pc := 17) dX9_become_17 sh_31 fX9_25_3 rfl rfl (by omega) ?_
  refine xx_nw (fun w4 ew4 => ?_)
  exact xx_vret (pc := 20) dX9_become_20 rfl (Nat.le_refl _) (Nat.le_refl _) (ic_rv0 ⟨w4, rfl, fun a h1 h2 => by rw [ew4, wu_row _ _ _ h1, ew3, wu_row _ _ _ h1, ew2, wu_row _ _ _ h1, ew1, wu_row _ _ _ h1], by rw [ew4, ew3, ew2, ew1]; exact Ca.beg hV⟩)

set_option maxHeartbeats 4000000 in
set_option maxRecDepth 100000 in
theorem cC_becomes_3 {l : Launch} {E : ic_E} {w : ic_w} {V : ic_w} {n a : Nat} (hn_ : n < 2 ^ 32) (ha_ : a < 2 ^ 32) (hV : V 114 36 = 0 ∧ V 114 40 = 0 ∧ V 114 37 = 3 ∧ V 114 38 = n ∧ V 114 39 = a) : ic_C l E mX9_become 1 0 0 False [ic_pt E 33, .int (nI n), .int (nI a)] SHs (hn w) SHs (ic_qv (fun h_ => ∃ w2, h_ = hn w2 ∧ (∀ a, a ≠ 33 → a ≠ 34 → w2 a = w a) ∧ Ca w2 (V) 3)) := by
  refine ic_intro (by decide +kernel) (Nat.le_of_ble_eq_true rfl) ?_
  show xx l E _ _ 0 [(0, ic_pt E 33), (1, .int (nI n)), (2, .int (nI a))] _ _ _
  refine xx_aload_nP (pc := 0) dX9_become_0 0 rfl rfl ?_
  refine xx_iload_n (pc := 1) dX9_become_1 1 rfl rfl ?_
  refine xx_putN (pc := 2) dX9_become_2 sh_33 fX9_15_2 rfl rfl ?_
  refine xx_nw (fun w1 ew1 => ?_)
  refine xx_aload_nP (pc := 5) dX9_become_5 0 rfl rfl ?_
  refine xx_iload_n (pc := 6) dX9_become_6 2 rfl rfl ?_
  refine xx_putN (pc := 7) dX9_become_7 sh_33 fX9_19_2 rfl rfl ?_
  refine xx_nw (fun w2 ew2 => ?_)
  refine xx_aload_nP (pc := 10) dX9_become_10 0 rfl rfl ?_
  refine xx_iconst (pc := 11) dX9_become_11 cc_iconst_0 ?_
  refine xx_putN (pc := 12) dX9_become_12 sh_33 fX9_22_2 rfl rfl ?_
  refine xx_nw (fun w3 ew3 => ?_)
  refine xx_aload_nP (pc := 15) dX9_become_15 0 rfl rfl ?_
  refine xx_iconst (pc := 16) dX9_become_16 cc_iconst_0 ?_
  refine xx_putB (pc := 17) dX9_become_17 sh_33 fX9_25_2 rfl rfl (by omega) ?_
  refine xx_nw (fun w4 ew4 => ?_)
  exact xx_vret (pc := 20) dX9_become_20 rfl (Nat.le_refl _) (Nat.le_refl _) (ic_rv0 ⟨w4, rfl, fun a h1 h2 => by rw [ew4, wu_row _ _ _ h1, ew3, wu_row _ _ _ h1, ew2, wu_row _ _ _ h1, ew1, wu_row _ _ _ h1], by rw [ew4, ew3, ew2, ew1]; exact Ca.beg hV⟩)

set_option maxHeartbeats 4000000 in
set_option maxRecDepth 100000 in
theorem cC_becomes_4 {l : Launch} {E : ic_E} {w : ic_w} {V : ic_w} {n a : Nat} (hn_ : n < 2 ^ 32) (ha_ : a < 2 ^ 32) (hV : V 114 36 = 0 ∧ V 114 40 = 0 ∧ V 114 37 = 4 ∧ V 114 38 = n ∧ V 114 39 = a) : ic_C l E mX9_become 1 0 0 False [ic_pt E 35, .int (nI n), .int (nI a)] SHs (hn w) SHs (ic_qv (fun h_ => ∃ w2, h_ = hn w2 ∧ (∀ a, a ≠ 35 → a ≠ 36 → w2 a = w a) ∧ Ca w2 (V) 4)) := by
  refine ic_intro (by decide +kernel) (Nat.le_of_ble_eq_true rfl) ?_
  show xx l E _ _ 0 [(0, ic_pt E 35), (1, .int (nI n)), (2, .int (nI a))] _ _ _
  refine xx_aload_nP (pc := 0) dX9_become_0 0 rfl rfl ?_
  refine xx_iload_n (pc := 1) dX9_become_1 1 rfl rfl ?_
  refine xx_putN (pc := 2) dX9_become_2 sh_35 fX9_15_1 rfl rfl ?_
  refine xx_nw (fun w1 ew1 => ?_)
  refine xx_aload_nP (pc := 5) dX9_become_5 0 rfl rfl ?_
  refine xx_iload_n (pc := 6) dX9_become_6 2 rfl rfl ?_
  refine xx_putN (pc := 7) dX9_become_7 sh_35 fX9_19_1 rfl rfl ?_
  refine xx_nw (fun w2 ew2 => ?_)
  refine xx_aload_nP (pc := 10) dX9_become_10 0 rfl rfl ?_
  refine xx_iconst (pc := 11) dX9_become_11 cc_iconst_0 ?_
  refine xx_putN (pc := 12) dX9_become_12 sh_35 fX9_22_1 rfl rfl ?_
  refine xx_nw (fun w3 ew3 => ?_)
  refine xx_aload_nP (pc := 15) dX9_become_15 0 rfl rfl ?_
  refine xx_iconst (pc := 16) dX9_become_16 cc_iconst_0 ?_
  refine xx_putB (pc := 17) dX9_become_17 sh_35 fX9_25_1 rfl rfl (by omega) ?_
  refine xx_nw (fun w4 ew4 => ?_)
  exact xx_vret (pc := 20) dX9_become_20 rfl (Nat.le_refl _) (Nat.le_refl _) (ic_rv0 ⟨w4, rfl, fun a h1 h2 => by rw [ew4, wu_row _ _ _ h1, ew3, wu_row _ _ _ h1, ew2, wu_row _ _ _ h1, ew1, wu_row _ _ _ h1], by rw [ew4, ew3, ew2, ew1]; exact Ca.beg hV⟩)

set_option maxHeartbeats 4000000 in
set_option maxRecDepth 100000 in
theorem cC_becomes_5 {l : Launch} {E : ic_E} {w : ic_w} {V : ic_w} {n a : Nat} (hn_ : n < 2 ^ 32) (ha_ : a < 2 ^ 32) (hV : V 114 36 = 0 ∧ V 114 40 = 0 ∧ V 114 37 = 5 ∧ V 114 38 = n ∧ V 114 39 = a) : ic_C l E mX9_become 1 0 0 False [ic_pt E 37, .int (nI n), .int (nI a)] SHs (hn w) SHs (ic_qv (fun h_ => ∃ w2, h_ = hn w2 ∧ (∀ a, a ≠ 37 → a ≠ 38 → w2 a = w a) ∧ Ca w2 (V) 5)) := by
  refine ic_intro (by decide +kernel) (Nat.le_of_ble_eq_true rfl) ?_
  show xx l E _ _ 0 [(0, ic_pt E 37), (1, .int (nI n)), (2, .int (nI a))] _ _ _
  refine xx_aload_nP (pc := 0) dX9_become_0 0 rfl rfl ?_
  refine xx_iload_n (pc := 1) dX9_become_1 1 rfl rfl ?_
  refine xx_putN (pc := 2) dX9_become_2 sh_37 fX9_15_0 rfl rfl ?_
  refine xx_nw (fun w1 ew1 => ?_)
  refine xx_aload_nP (pc := 5) dX9_become_5 0 rfl rfl ?_
  refine xx_iload_n (pc := 6) dX9_become_6 2 rfl rfl ?_
  refine xx_putN (pc := 7) dX9_become_7 sh_37 fX9_19_0 rfl rfl ?_
  refine xx_nw (fun w2 ew2 => ?_)
  refine xx_aload_nP (pc := 10) dX9_become_10 0 rfl rfl ?_
  refine xx_iconst (pc := 11) dX9_become_11 cc_iconst_0 ?_
  refine xx_putN (pc := 12) dX9_become_12 sh_37 fX9_22_0 rfl rfl ?_
  refine xx_nw (fun w3 ew3 => ?_)
  refine xx_aload_nP (pc := 15) dX9_become_15 0 rfl rfl ?_
  refine xx_iconst (pc := 16) dX9_become_16 cc_iconst_0 ?_
  refine xx_putB (pc := 17) dX9_become_17 sh_37 fX9_25_0 rfl rfl (by omega) ?_
  refine xx_nw (fun w4 ew4 => ?_)
  exact xx_vret (pc := 20) dX9_become_20 rfl (Nat.le_refl _) (Nat.le_refl _) (ic_rv0 ⟨w4, rfl, fun a h1 h2 => by rw [ew4, wu_row _ _ _ h1, ew3, wu_row _ _ _ h1, ew2, wu_row _ _ _ h1, ew1, wu_row _ _ _ h1], by rw [ew4, ew3, ew2, ew1]; exact Ca.beg hV⟩)

set_option maxHeartbeats 4000000 in
set_option maxRecDepth 100000 in
theorem act_1 {l : Launch} {E : ic_E} {w w1 W : ic_w} {i : Nat} (hi_ : i < 2 ^ 32) {q : Nat} (hq_ : q < 2 ^ 32) {x : Nat} (hx_ : x < 2 ^ 32) {s : Nat → Nat} (hN : Cn w s) (hI : In s) {A B : Nat → Nat} (hP_ : i ≤ 3 ∧ q ≤ 3 ∧ A i = 1 ∧ B i < s 0) (hW : W = mo_acc w s B i) (hV_ : W 114 36 = 0 ∧ W 114 40 = 0 ∧ W 114 37 = it s (B i) 0 ∧ W 114 38 = B i ∧ W 114 39 = it s (B i) 3) (ek_ : w1 43 (B i) = it s (B i) 0) (ek : it s (B i) 0 = 1) (z0_ : (∀ a, a ≠ 0 → w1 a = w a) ∧ ∀ j, j ≠ 16 → w1 0 j = w 0 j) : xx l E (ic_fr E mX11_act 9 0 0 False SHs (ic_qi (fun v_ h_ => v_ = nI (if i ≤ 3 ∧ q ≤ 3 ∧ A i = 1 ∧ B i < s 0 then (if mo_aw (mo_acc w s B i) q 114 40 = 0 then mo_av (mo_acc w s B i) q x else 4294967281) else 0) ∧ ∃ w2, h_ = hn w2 ∧ ((∀ a, a ≠ 0 → (a < 27 ∨ 38 < a) → w2 a = w a) ∧ ∀ j, j ≠ 16 → w2 0 j = w 0 j) ∧ Act w2 (if i ≤ 3 ∧ q ≤ 3 ∧ A i = 1 ∧ B i < s 0 then mo_aw (mo_acc w s B i) q else wu w 114 36 0)))) (0, 0) 40 [(4, .int (nI (B i))), (0, ic_pt E 0), (1, .int (nI i)), (2, .int (nI q)), (3, .int (nI x))] [] SHs (hn w1) := by
  have h0 := hV_.2.1
  have n0 := hI.n
  have bi_ : B i < 2 ^ 31 := by omega
  have hPl_ := mo_P_le W
  have k5_ := hI.i (o := B i) (by omega)
  refine xx_aload_nP (pc := 40) dX11_act_40 1 rfl rfl ?_
  refine xx_aload_nP (pc := 41) dX11_act_41 1 rfl rfl ?_
  refine xx_getR (pc := 42) 39 dX11_act_42 sh_0 fX11_74_11 rfl rfl (by decide) ?_
  refine xx_getR (pc := 45) 26 dX11_act_45 sh_39 fX11_355_5 rfl rfl (by decide) ?_
  refine xx_aload_nP (pc := 48) dX11_act_48 1 rfl rfl ?_
  refine xx_getR (pc := 49) 39 dX11_act_49 sh_0 fX11_74_11 rfl rfl (by decide) ?_
  refine xx_getR (pc := 52) 43 dX11_act_52 sh_39 fX11_115_5 rfl rfl (by decide) ?_
  refine xx_iload (pc := 55) dX11_act_55 0 rfl ?_
  refine xx_ialdN (pc := 57) dX11_act_57 sh_43 (by omega) (by decide) ?_
  refine xx_eqI (y := nI (1)) (by rw [ek_, ek]) ?_
  refine xx_aald (pc := 58) 1 29 dX11_act_58 sh_26 (by decide) rfl (by omega) (by decide) (rfl) ?_
  refine xx_putDN 30 (pc := 59) dX11_act_59 sh_0 fX11_351_11 rfl rfl rfl (rfl) (by omega) rfl rfl ?_
  refine xx_nw (fun w41 ew41 => ?_)
  have zk_ : w41 0 16 = 30 := by rw [ew41, wu_s]
  have y0_ : (∀ a, a ≠ 0 → w41 a = w a) ∧ ∀ j, j ≠ 16 → w41 0 j = w 0 j := ⟨fun a h => by rw [ew41, wu_row _ _ _ h]; exact z0_.1 a h, fun j h => by rw [ew41, wu_k _ _ _ _ h]; exact z0_.2 j h⟩
  refine xx_aload_nP (pc := 62) dX11_act_62 1 rfl rfl ?_
  refine xx_getD (pc := 63) dX11_act_63 sh_0 fX11_351_11 rfl rfl ?_
  refine xx_eqT (v2 := ic_pt E 29) (rv_hn (t := 30) (by first | rw [zk_] | rw [zb_]) (by omega)) ?_
  refine xx_iload (pc := 66) dX11_act_66 0 rfl ?_
  refine xx_aload_nP (pc := 68) dX11_act_68 1 rfl rfl ?_
  refine xx_getR (pc := 69) 39 dX11_act_69 sh_0 fX11_74_11 rfl rfl (by decide) ?_
  refine xx_getR (pc := 72) 45 dX11_act_72 sh_39 fX11_124_5 rfl rfl (by decide) ?_
  refine xx_iload (pc := 75) dX11_act_75 0 rfl ?_
  refine xx_ialdN (pc := 77) dX11_act_77 sh_45 (by omega) (by decide) ?_
  refine xx_eqI (y := nI (it s (B i) 3)) (by rw [y0_.1 45 (by omega), hN.hm (by omega)]) ?_
  refine xx_callU0 (pc := 78) (st := []) sh_29 (cC_becomes_1 (w := w41) (V := W) (n := B i) (a := it s (B i) 3) (by omega) (by omega) ⟨hV_.1, hV_.2.1, hV_.2.2.1.trans ek, hV_.2.2.2.1, hV_.2.2.2.2⟩) kX9_become uX11_359_7 dX11_act_78 rfl rfl (Nat.le_of_ble_eq_true rfl) ⟨Nat.le_of_ble_eq_true rfl, Nat.le_of_ble_eq_true rfl⟩ ⟨Nat.zero_le _, Nat.zero_le _⟩ (ic_kv (fun h_ qw42 => ?_))
  obtain ⟨w42, rfl, fb_, hA⟩ := qw42
  have b_ := hA.2.1
  have a0_ : w42 29 0 = W 114 38 := hA.1.1
  have a1_ : w42 29 1 = W 114 39 := hA.1.2.1
  have zb_ : w42 0 16 = 30 := by rw [fb_ 0 (by omega) (by omega), zk_]
  refine xx_iload_n (pc := 81) dX11_act_81 3 rfl rfl ?_
  refine xx_if_neN (pc := 82) 98 dX11_act_82 rfl (by omega) (fun c44 => ?_) (fun c44 => ?_)
  · refine xx_iload_n (pc := 98) dX11_act_98 3 rfl rfl ?_
    refine xx_iconst (pc := 99) dX11_act_99 cc_iconst_1 ?_
    refine xx_icmp_neN (pc := 100) 116 dX11_act_100 rfl (by omega) (by omega) (fun c45 => ?_) (fun c45 => ?_)
    · refine xx_iload_n (pc := 116) dX11_act_116 3 rfl rfl ?_
      refine xx_iconst (pc := 117) dX11_act_117 cc_iconst_2 ?_
      refine xx_icmp_neN (pc := 118) 134 dX11_act_118 rfl (by omega) (by omega) (fun c46 => ?_) (fun c46 => ?_)
      · refine xx_aload_nP (pc := 134) dX11_act_134 1 rfl rfl ?_
        refine xx_getD (pc := 135) dX11_act_135 sh_0 fX11_351_11 rfl rfl ?_
        refine xx_eqT (v2 := ic_pt E 29) (rv_hn (t := 30) (by first | rw [zk_] | rw [zb_]) (by omega)) ?_
        refine xx_iload_n (pc := 138) dX11_act_138 4 rfl rfl ?_
        refine xx_callU0 (pc := 139) (st := []) sh_29 (cC_risesP_1 (w := w42) (W := W) (x := x) h0 hA) kX9_rises uX11_370_7 dX11_act_139 rfl rfl (Nat.le_of_ble_eq_true rfl) ⟨Nat.le_of_ble_eq_true rfl, Nat.le_of_ble_eq_true rfl⟩ ⟨Nat.zero_le _, Nat.zero_le _⟩ (ic_ki (fun v_ h_ qw47 => ?_))
        obtain ⟨x_, q_⟩ := qw47
        obtain rfl : v_ = nI (mo_mi ((mo_sp (W 114 38) x ^^^ 14) + 4 * (W 114 39)) (mo_rr 0 (mo_D W) x)) := by rw [x_]
        obtain ⟨w47, rfl, f_w47, hA_w47⟩ := q_
        have g_w47 : ∀ a, a ≠ 29 → a ≠ 30 → w47 a = w42 a := fun a h1 h2 => (f_w47 a h1 h2).trans rfl
        have s_w47 : ∀ j, j ≠ 36 → j ≠ 40 → (mo_row (mo_rpw W)) 114 j = W 114 j := fun j h1 h2 => ((mo_row_f _ h1 h2).trans (mo_rpw_f _ h1)).trans rfl
        have z_w47 : (mo_row (mo_rpw W)) 114 40 = mo_P W := (mo_row_40 _).trans ((mo_P_rpw _).trans (mo_P_e (V := W) (W := W) (fun _ _ _ => rfl)))
        have a0_w47 : w47 29 0 = W 114 38 := hA_w47.1.1.trans (s_w47 38 (by omega) (by omega))
        have a1_w47 : w47 29 1 = W 114 39 := hA_w47.1.2.1.trans (s_w47 39 (by omega) (by omega))
        refine xx_istore (L' := [(5, .int (nI (mo_mi ((mo_sp (W 114 38) x ^^^ 14) + 4 * (W 114 39)) (mo_rr 0 (mo_D W) x)))), (4, .int (nI (B i))), (0, ic_pt E 0), (1, .int (nI i)), (2, .int (nI q)), (3, .int (nI x))]) (pc := 142) dX11_act_142 (Nat.le_of_ble_eq_true rfl) rfl ?_
        refine xx_aload_nP (pc := 144) dX11_act_144 2 rfl rfl ?_
        refine xx_getD (pc := 145) dX11_act_145 sh_0 fX11_351_11 rfl rfl ?_
        refine xx_eqT (v2 := ic_pt E 29) (rv_hn (t := 30) (by first | rw [zk_] | (rw [g_w47 0 (by omega) (by omega), zb_]) | rw [zb_]) (by omega)) ?_
        refine xx_getN (pc := 148) dX11_act_148 sh_29 fX11_373_7 rfl ?_
        refine xx_eqI (y := nI (mo_P W)) (by rw [hA_w47.1.2.2.2, z_w47]) ?_
        refine xx_if_eqN (pc := 151) 159 dX11_act_151 rfl (by omega) (fun c48 => ?_) (fun c48 => ?_)
        · refine xx_iload (pc := 159) dX11_act_159 0 rfl ?_
          exact xx_iret (pc := 161) dX11_act_161 rfl (rfl) (Nat.le_refl _) (Nat.le_refl _) (ic_ri ⟨by rw [if_pos hP_, ← hW, (show q = 3 by omega), aw_3n b_.1 (by omega), z_w47, if_pos (show mo_P W = 0 by omega), av_3 b_.1 (by omega), rov_p (k := 1) (by rw [mo_rpw_f _ (by omega), b_.1]) (by rw [mo_rpw_f _ (by omega), h0]) (by omega) (by omega), D_rpw]; rfl, w47, rfl, ⟨fun a h1 h2 => by rw [g_w47 a (by omega) (by omega), fb_ a (by omega) (by omega)]; exact y0_.1 a h1, fun j h1 => by rw [g_w47 0 (by omega) (by omega), fb_ 0 (by omega) (by omega)]; exact y0_.2 j h1⟩, by rw [if_pos hP_, ← hW, (show q = 3 by omega), aw_3n b_.1 (by omega)]; exact Or.inr ⟨1, by omega, by omega, by rw [g_w47 0 (by omega) (by omega), zb_], hA_w47⟩⟩)
        · refine xx_bipush (pc := 154) dX11_act_154 cc_bipush_m15 ?_
          refine xx_goto (pc := 156) 161 dX11_act_156 rfl ?_
          exact xx_iret (pc := 161) dX11_act_161 rfl (rfl) (Nat.le_refl _) (Nat.le_refl _) (ic_ri ⟨by rw [if_pos hP_, ← hW, (show q = 3 by omega), aw_3n b_.1 (by omega), z_w47,  if_neg (by omega)], w47, rfl, ⟨fun a h1 h2 => by rw [g_w47 a (by omega) (by omega), fb_ a (by omega) (by omega)]; exact y0_.1 a h1, fun j h1 => by rw [g_w47 0 (by omega) (by omega), fb_ 0 (by omega) (by omega)]; exact y0_.2 j h1⟩, by rw [if_pos hP_, ← hW, (show q = 3 by omega), aw_3n b_.1 (by omega)]; exact Or.inr ⟨1, by omega, by omega, by rw [g_w47 0 (by omega) (by omega), zb_], hA_w47⟩⟩)
      · refine xx_aload_nP (pc := 121) dX11_act_121 1 rfl rfl ?_
        refine xx_getD (pc := 122) dX11_act_122 sh_0 fX11_351_11 rfl rfl ?_
        refine xx_eqT (v2 := ic_pt E 29) (rv_hn (t := 30) (by first | rw [zk_] | rw [zb_]) (by omega)) ?_
        refine xx_iload_n (pc := 125) dX11_act_125 4 rfl rfl ?_
        refine xx_callU0 (pc := 126) (st := []) sh_29 (cC_roundsP_1 (w := w42) (W := W) (x := x) h0 hA) kX9_rounds uX11_367_7 dX11_act_126 rfl rfl (Nat.le_of_ble_eq_true rfl) ⟨Nat.le_of_ble_eq_true rfl, Nat.le_of_ble_eq_true rfl⟩ ⟨Nat.zero_le _, Nat.zero_le _⟩ (ic_ki (fun v_ h_ qw49 => ?_))
        obtain ⟨x_, q_⟩ := qw49
        obtain rfl : v_ = nI (mo_rr 0 (mo_D W) x) := by rw [x_]
        rw [← row_p hA.2.1.1 (by omega) (by omega)] at q_
        obtain ⟨w49, rfl, f_w49, hA_w49⟩ := q_
        have g_w49 : ∀ a, a ≠ 29 → a ≠ 30 → w49 a = w42 a := fun a h1 h2 => (f_w49 a h1 h2).trans rfl
        have s_w49 : ∀ j, j ≠ 36 → j ≠ 40 → (mo_row W) 114 j = W 114 j := fun j h1 h2 => (mo_row_f _ h1 h2).trans rfl
        have z_w49 : (mo_row W) 114 40 = mo_P W := (mo_row_40 _).trans (mo_P_e (V := W) (W := W) (fun _ _ _ => rfl))
        have a0_w49 : w49 29 0 = W 114 38 := hA_w49.1.1.trans (s_w49 38 (by omega) (by omega))
        have a1_w49 : w49 29 1 = W 114 39 := hA_w49.1.2.1.trans (s_w49 39 (by omega) (by omega))
        refine xx_istore (L' := [(5, .int (nI (mo_rr 0 (mo_D W) x))), (4, .int (nI (B i))), (0, ic_pt E 0), (1, .int (nI i)), (2, .int (nI q)), (3, .int (nI x))]) (pc := 129) dX11_act_129 (Nat.le_of_ble_eq_true rfl) rfl ?_
        refine xx_goto (pc := 131) 144 dX11_act_131 rfl ?_
        refine xx_aload_nP (pc := 144) dX11_act_144 2 rfl rfl ?_
        refine xx_getD (pc := 145) dX11_act_145 sh_0 fX11_351_11 rfl rfl ?_
        refine xx_eqT (v2 := ic_pt E 29) (rv_hn (t := 30) (by first | rw [zk_] | (rw [g_w49 0 (by omega) (by omega), zb_]) | rw [zb_]) (by omega)) ?_
        refine xx_getN (pc := 148) dX11_act_148 sh_29 fX11_373_7 rfl ?_
        refine xx_eqI (y := nI (mo_P W)) (by rw [hA_w49.1.2.2.2, z_w49]) ?_
        refine xx_if_eqN (pc := 151) 159 dX11_act_151 rfl (by omega) (fun c50 => ?_) (fun c50 => ?_)
        · refine xx_iload (pc := 159) dX11_act_159 0 rfl ?_
          exact xx_iret (pc := 161) dX11_act_161 rfl (rfl) (Nat.le_refl _) (Nat.le_refl _) (ic_ri ⟨by rw [if_pos hP_, ← hW, (show q = 2 by omega), aw_2, z_w49, if_pos (show mo_P W = 0 by omega), av_2, rov_p (k := 1) b_.1 h0 (by omega) (by omega)], w49, rfl, ⟨fun a h1 h2 => by rw [g_w49 a (by omega) (by omega), fb_ a (by omega) (by omega)]; exact y0_.1 a h1, fun j h1 => by rw [g_w49 0 (by omega) (by omega), fb_ 0 (by omega) (by omega)]; exact y0_.2 j h1⟩, by rw [if_pos hP_, ← hW, (show q = 2 by omega), aw_2]; exact Or.inr ⟨1, by omega, by omega, by rw [g_w49 0 (by omega) (by omega), zb_], hA_w49⟩⟩)
        · refine xx_bipush (pc := 154) dX11_act_154 cc_bipush_m15 ?_
          refine xx_goto (pc := 156) 161 dX11_act_156 rfl ?_
          exact xx_iret (pc := 161) dX11_act_161 rfl (rfl) (Nat.le_refl _) (Nat.le_refl _) (ic_ri ⟨by rw [if_pos hP_, ← hW, (show q = 2 by omega), aw_2, z_w49,  if_neg (by omega)], w49, rfl, ⟨fun a h1 h2 => by rw [g_w49 a (by omega) (by omega), fb_ a (by omega) (by omega)]; exact y0_.1 a h1, fun j h1 => by rw [g_w49 0 (by omega) (by omega), fb_ 0 (by omega) (by omega)]; exact y0_.2 j h1⟩, by rw [if_pos hP_, ← hW, (show q = 2 by omega), aw_2]; exact Or.inr ⟨1, by omega, by omega, by rw [g_w49 0 (by omega) (by omega), zb_], hA_w49⟩⟩)
    · refine xx_aload_nP (pc := 103) dX11_act_103 1 rfl rfl ?_
      refine xx_getD (pc := 104) dX11_act_104 sh_0 fX11_351_11 rfl rfl ?_
      refine xx_eqT (v2 := ic_pt E 29) (rv_hn (t := 30) (by first | rw [zk_] | rw [zb_]) (by omega)) ?_
      refine xx_iload_n (pc := 107) dX11_act_107 4 rfl rfl ?_
      refine xx_callU0 (pc := 108) (st := []) sh_29 (cC_readsP_1 (w := w42) (W := W) (x := x) hA) kX9_reads uX11_364_7 dX11_act_108 rfl rfl (Nat.le_of_ble_eq_true rfl) ⟨Nat.le_of_ble_eq_true rfl, Nat.le_of_ble_eq_true rfl⟩ ⟨Nat.zero_le _, Nat.zero_le _⟩ (ic_ki (fun v_ h_ qw51 => ?_))
      obtain ⟨x_, q_⟩ := qw51
      obtain rfl : v_ = nI ((mo_sp (W 114 38) x ^^^ 14) + 4 * (W 114 39)) := by rw [x_]
      obtain ⟨w51, rfl, f_w51, hA_w51⟩ := q_
      have g_w51 : ∀ a, a ≠ 29 → a ≠ 30 → w51 a = w42 a := fun a h1 h2 => (f_w51 a h1 h2).trans rfl
      have s_w51 : ∀ j, j ≠ 36 → j ≠ 40 → (mo_cl W [11, 20, 10]) 114 j = W 114 j := fun j h1 h2 => (mo_cl_f _ _ h1).trans rfl
      have z_w51 : (mo_cl W [11, 20, 10]) 114 40 = W 114 40 := (mo_cl_f _ _ (by omega)).trans rfl
      have a0_w51 : w51 29 0 = W 114 38 := hA_w51.1.1.trans (s_w51 38 (by omega) (by omega))
      have a1_w51 : w51 29 1 = W 114 39 := hA_w51.1.2.1.trans (s_w51 39 (by omega) (by omega))
      refine xx_istore (L' := [(5, .int (nI ((mo_sp (W 114 38) x ^^^ 14) + 4 * (W 114 39)))), (4, .int (nI (B i))), (0, ic_pt E 0), (1, .int (nI i)), (2, .int (nI q)), (3, .int (nI x))]) (pc := 111) dX11_act_111 (Nat.le_of_ble_eq_true rfl) rfl ?_
      refine xx_goto (pc := 113) 144 dX11_act_113 rfl ?_
      refine xx_aload_nP (pc := 144) dX11_act_144 2 rfl rfl ?_
      refine xx_getD (pc := 145) dX11_act_145 sh_0 fX11_351_11 rfl rfl ?_
      refine xx_eqT (v2 := ic_pt E 29) (rv_hn (t := 30) (by first | rw [zk_] | (rw [g_w51 0 (by omega) (by omega), zb_]) | rw [zb_]) (by omega)) ?_
      refine xx_getN (pc := 148) dX11_act_148 sh_29 fX11_373_7 rfl ?_
      refine xx_eqI (y := nI (0)) (by rw [hA_w51.1.2.2.2, z_w51, h0]) ?_
      refine xx_if_eqN (pc := 151) 159 dX11_act_151 rfl (by omega) (fun c52 => ?_) (fun c52 => by exfalso; omega)
      refine xx_iload (pc := 159) dX11_act_159 0 rfl ?_
      exact xx_iret (pc := 161) dX11_act_161 rfl (rfl) (Nat.le_refl _) (Nat.le_refl _) (ic_ri ⟨by rw [if_pos hP_, ← hW, (show q = 1 by omega), aw_1 (l := [11, 20, 10]) h0 b_.1 rfl, z_w51, if_pos h0, av_1 b_.1]; rfl, w51, rfl, ⟨fun a h1 h2 => by rw [g_w51 a (by omega) (by omega), fb_ a (by omega) (by omega)]; exact y0_.1 a h1, fun j h1 => by rw [g_w51 0 (by omega) (by omega), fb_ 0 (by omega) (by omega)]; exact y0_.2 j h1⟩, by rw [if_pos hP_, ← hW, (show q = 1 by omega), aw_1 (l := [11, 20, 10]) h0 b_.1 rfl]; exact Or.inr ⟨1, by omega, by omega, by rw [g_w51 0 (by omega) (by omega), zb_], hA_w51⟩⟩)
  · refine xx_aload_nP (pc := 85) dX11_act_85 1 rfl rfl ?_
    refine xx_getD (pc := 86) dX11_act_86 sh_0 fX11_351_11 rfl rfl ?_
    refine xx_eqT (v2 := ic_pt E 29) (rv_hn (t := 30) (by first | rw [zk_] | rw [zb_]) (by omega)) ?_
    refine xx_iload_n (pc := 89) dX11_act_89 4 rfl rfl ?_
    refine xx_callU0 (pc := 90) (st := []) sh_29 (cC_stands1_1 (w := w42) (W := W) (x := x) hA) kX7_stands uX11_361_7 dX11_act_90 rfl rfl (Nat.le_of_ble_eq_true rfl) ⟨Nat.le_of_ble_eq_true rfl, Nat.le_of_ble_eq_true rfl⟩ ⟨Nat.zero_le _, Nat.zero_le _⟩ (ic_ki (fun v_ h_ qw53 => ?_))
    obtain ⟨x_, q_⟩ := qw53
    obtain rfl : v_ = nI (mo_sp (W 114 38) x ^^^ 14) := by rw [x_]
    obtain ⟨w53, rfl, f_w53, hA_w53⟩ := q_
    have g_w53 : ∀ a, a ≠ 29 → a ≠ 30 → w53 a = w42 a := fun a h1 h2 => (f_w53 a h1 h2).trans rfl
    have s_w53 : ∀ j, j ≠ 36 → j ≠ 40 → (mo_cl W [20, 10]) 114 j = W 114 j := fun j h1 h2 => (mo_cl_f _ _ h1).trans rfl
    have z_w53 : (mo_cl W [20, 10]) 114 40 = W 114 40 := (mo_cl_f _ _ (by omega)).trans rfl
    have a0_w53 : w53 29 0 = W 114 38 := hA_w53.1.1.trans (s_w53 38 (by omega) (by omega))
    have a1_w53 : w53 29 1 = W 114 39 := hA_w53.1.2.1.trans (s_w53 39 (by omega) (by omega))
    refine xx_istore (L' := [(5, .int (nI (mo_sp (W 114 38) x ^^^ 14))), (4, .int (nI (B i))), (0, ic_pt E 0), (1, .int (nI i)), (2, .int (nI q)), (3, .int (nI x))]) (pc := 93) dX11_act_93 (Nat.le_of_ble_eq_true rfl) rfl ?_
    refine xx_goto (pc := 95) 144 dX11_act_95 rfl ?_
    refine xx_aload_nP (pc := 144) dX11_act_144 2 rfl rfl ?_
    refine xx_getD (pc := 145) dX11_act_145 sh_0 fX11_351_11 rfl rfl ?_
    refine xx_eqT (v2 := ic_pt E 29) (rv_hn (t := 30) (by first | rw [zk_] | (rw [g_w53 0 (by omega) (by omega), zb_]) | rw [zb_]) (by omega)) ?_
    refine xx_getN (pc := 148) dX11_act_148 sh_29 fX11_373_7 rfl ?_
    refine xx_eqI (y := nI (0)) (by rw [hA_w53.1.2.2.2, z_w53, h0]) ?_
    refine xx_if_eqN (pc := 151) 159 dX11_act_151 rfl (by omega) (fun c54 => ?_) (fun c54 => by exfalso; omega)
    refine xx_iload (pc := 159) dX11_act_159 0 rfl ?_
    exact xx_iret (pc := 161) dX11_act_161 rfl (rfl) (Nat.le_refl _) (Nat.le_refl _) (ic_ri ⟨by rw [if_pos hP_, ← hW, (show q = 0 by omega), aw_0 (l := [20, 10]) h0 b_.1 rfl, z_w53, if_pos h0, av_0 b_.1]; rfl, w53, rfl, ⟨fun a h1 h2 => by rw [g_w53 a (by omega) (by omega), fb_ a (by omega) (by omega)]; exact y0_.1 a h1, fun j h1 => by rw [g_w53 0 (by omega) (by omega), fb_ 0 (by omega) (by omega)]; exact y0_.2 j h1⟩, by rw [if_pos hP_, ← hW, (show q = 0 by omega), aw_0 (l := [20, 10]) h0 b_.1 rfl]; exact Or.inr ⟨1, by omega, by omega, by rw [g_w53 0 (by omega) (by omega), zb_], hA_w53⟩⟩)

set_option maxHeartbeats 4000000 in
set_option maxRecDepth 100000 in
theorem act_2 {l : Launch} {E : ic_E} {w w1 W : ic_w} {i : Nat} (hi_ : i < 2 ^ 32) {q : Nat} (hq_ : q < 2 ^ 32) {x : Nat} (hx_ : x < 2 ^ 32) {s : Nat → Nat} (hN : Cn w s) (hI : In s) {A B : Nat → Nat} (hP_ : i ≤ 3 ∧ q ≤ 3 ∧ A i = 1 ∧ B i < s 0) (hW : W = mo_acc w s B i) (hV_ : W 114 36 = 0 ∧ W 114 40 = 0 ∧ W 114 37 = it s (B i) 0 ∧ W 114 38 = B i ∧ W 114 39 = it s (B i) 3) (ek_ : w1 43 (B i) = it s (B i) 0) (ek : it s (B i) 0 = 2) (z0_ : (∀ a, a ≠ 0 → w1 a = w a) ∧ ∀ j, j ≠ 16 → w1 0 j = w 0 j) : xx l E (ic_fr E mX11_act 9 0 0 False SHs (ic_qi (fun v_ h_ => v_ = nI (if i ≤ 3 ∧ q ≤ 3 ∧ A i = 1 ∧ B i < s 0 then (if mo_aw (mo_acc w s B i) q 114 40 = 0 then mo_av (mo_acc w s B i) q x else 4294967281) else 0) ∧ ∃ w2, h_ = hn w2 ∧ ((∀ a, a ≠ 0 → (a < 27 ∨ 38 < a) → w2 a = w a) ∧ ∀ j, j ≠ 16 → w2 0 j = w 0 j) ∧ Act w2 (if i ≤ 3 ∧ q ≤ 3 ∧ A i = 1 ∧ B i < s 0 then mo_aw (mo_acc w s B i) q else wu w 114 36 0)))) (0, 0) 40 [(4, .int (nI (B i))), (0, ic_pt E 0), (1, .int (nI i)), (2, .int (nI q)), (3, .int (nI x))] [] SHs (hn w1) := by
  have h0 := hV_.2.1
  have n0 := hI.n
  have bi_ : B i < 2 ^ 31 := by omega
  have hPl_ := mo_P_le W
  have k5_ := hI.i (o := B i) (by omega)
  refine xx_aload_nP (pc := 40) dX11_act_40 1 rfl rfl ?_
  refine xx_aload_nP (pc := 41) dX11_act_41 1 rfl rfl ?_
  refine xx_getR (pc := 42) 39 dX11_act_42 sh_0 fX11_74_11 rfl rfl (by decide) ?_
  refine xx_getR (pc := 45) 26 dX11_act_45 sh_39 fX11_355_5 rfl rfl (by decide) ?_
  refine xx_aload_nP (pc := 48) dX11_act_48 1 rfl rfl ?_
  refine xx_getR (pc := 49) 39 dX11_act_49 sh_0 fX11_74_11 rfl rfl (by decide) ?_
  refine xx_getR (pc := 52) 43 dX11_act_52 sh_39 fX11_115_5 rfl rfl (by decide) ?_
  refine xx_iload (pc := 55) dX11_act_55 0 rfl ?_
  refine xx_ialdN (pc := 57) dX11_act_57 sh_43 (by omega) (by decide) ?_
  refine xx_eqI (y := nI (2)) (by rw [ek_, ek]) ?_
  refine xx_aald (pc := 58) 2 31 dX11_act_58 sh_26 (by decide) rfl (by omega) (by decide) (rfl) ?_
  refine xx_putDN 32 (pc := 59) dX11_act_59 sh_0 fX11_351_11 rfl rfl rfl (rfl) (by omega) rfl rfl ?_
  refine xx_nw (fun w41 ew41 => ?_)
  have zk_ : w41 0 16 = 32 := by rw [ew41, wu_s]
  have y0_ : (∀ a, a ≠ 0 → w41 a = w a) ∧ ∀ j, j ≠ 16 → w41 0 j = w 0 j := ⟨fun a h => by rw [ew41, wu_row _ _ _ h]; exact z0_.1 a h, fun j h => by rw [ew41, wu_k _ _ _ _ h]; exact z0_.2 j h⟩
  refine xx_aload_nP (pc := 62) dX11_act_62 1 rfl rfl ?_
  refine xx_getD (pc := 63) dX11_act_63 sh_0 fX11_351_11 rfl rfl ?_
  refine xx_eqT (v2 := ic_pt E 31) (rv_hn (t := 32) (by first | rw [zk_] | rw [zb_]) (by omega)) ?_
  refine xx_iload (pc := 66) dX11_act_66 0 rfl ?_
  refine xx_aload_nP (pc := 68) dX11_act_68 1 rfl rfl ?_
  refine xx_getR (pc := 69) 39 dX11_act_69 sh_0 fX11_74_11 rfl rfl (by decide) ?_
  refine xx_getR (pc := 72) 45 dX11_act_72 sh_39 fX11_124_5 rfl rfl (by decide) ?_
  refine xx_iload (pc := 75) dX11_act_75 0 rfl ?_
  refine xx_ialdN (pc := 77) dX11_act_77 sh_45 (by omega) (by decide) ?_
  refine xx_eqI (y := nI (it s (B i) 3)) (by rw [y0_.1 45 (by omega), hN.hm (by omega)]) ?_
  refine xx_callU0 (pc := 78) (st := []) sh_31 (cC_becomes_2 (w := w41) (V := W) (n := B i) (a := it s (B i) 3) (by omega) (by omega) ⟨hV_.1, hV_.2.1, hV_.2.2.1.trans ek, hV_.2.2.2.1, hV_.2.2.2.2⟩) kX9_become uX11_359_3 dX11_act_78 rfl rfl (Nat.le_of_ble_eq_true rfl) ⟨Nat.le_of_ble_eq_true rfl, Nat.le_of_ble_eq_true rfl⟩ ⟨Nat.zero_le _, Nat.zero_le _⟩ (ic_kv (fun h_ qw42 => ?_))
  obtain ⟨w42, rfl, fb_, hA⟩ := qw42
  have b_ := hA.2.1
  have a0_ : w42 31 0 = W 114 38 := hA.1.1
  have a1_ : w42 31 1 = W 114 39 := hA.1.2.1
  have zb_ : w42 0 16 = 32 := by rw [fb_ 0 (by omega) (by omega), zk_]
  refine xx_iload_n (pc := 81) dX11_act_81 3 rfl rfl ?_
  refine xx_if_neN (pc := 82) 98 dX11_act_82 rfl (by omega) (fun c44 => ?_) (fun c44 => ?_)
  · refine xx_iload_n (pc := 98) dX11_act_98 3 rfl rfl ?_
    refine xx_iconst (pc := 99) dX11_act_99 cc_iconst_1 ?_
    refine xx_icmp_neN (pc := 100) 116 dX11_act_100 rfl (by omega) (by omega) (fun c45 => ?_) (fun c45 => ?_)
    · refine xx_iload_n (pc := 116) dX11_act_116 3 rfl rfl ?_
      refine xx_iconst (pc := 117) dX11_act_117 cc_iconst_2 ?_
      refine xx_icmp_neN (pc := 118) 134 dX11_act_118 rfl (by omega) (by omega) (fun c46 => ?_) (fun c46 => ?_)
      · refine xx_aload_nP (pc := 134) dX11_act_134 1 rfl rfl ?_
        refine xx_getD (pc := 135) dX11_act_135 sh_0 fX11_351_11 rfl rfl ?_
        refine xx_eqT (v2 := ic_pt E 31) (rv_hn (t := 32) (by first | rw [zk_] | rw [zb_]) (by omega)) ?_
        refine xx_iload_n (pc := 138) dX11_act_138 4 rfl rfl ?_
        refine xx_callU0 (pc := 139) (st := []) sh_31 (cC_risesP_2 (w := w42) (W := W) (x := x) h0 hA) kX9_rises uX11_370_3 dX11_act_139 rfl rfl (Nat.le_of_ble_eq_true rfl) ⟨Nat.le_of_ble_eq_true rfl, Nat.le_of_ble_eq_true rfl⟩ ⟨Nat.zero_le _, Nat.zero_le _⟩ (ic_ki (fun v_ h_ qw47 => ?_))
        obtain ⟨x_, q_⟩ := qw47
        obtain rfl : v_ = nI (mo_mi (((mo_sp (W 114 38) x) + 4 * (W 114 39)) * 3) (mo_rr 0 (mo_D W) x)) := by rw [x_]
        obtain ⟨w47, rfl, f_w47, hA_w47⟩ := q_
        have g_w47 : ∀ a, a ≠ 31 → a ≠ 32 → w47 a = w42 a := fun a h1 h2 => (f_w47 a h1 h2).trans rfl
        have s_w47 : ∀ j, j ≠ 36 → j ≠ 40 → (mo_row (mo_rpw W)) 114 j = W 114 j := fun j h1 h2 => ((mo_row_f _ h1 h2).trans (mo_rpw_f _ h1)).trans rfl
        have z_w47 : (mo_row (mo_rpw W)) 114 40 = mo_P W := (mo_row_40 _).trans ((mo_P_rpw _).trans (mo_P_e (V := W) (W := W) (fun _ _ _ => rfl)))
        have a0_w47 : w47 31 0 = W 114 38 := hA_w47.1.1.trans (s_w47 38 (by omega) (by omega))
        have a1_w47 : w47 31 1 = W 114 39 := hA_w47.1.2.1.trans (s_w47 39 (by omega) (by omega))
        refine xx_istore (L' := [(5, .int (nI (mo_mi (((mo_sp (W 114 38) x) + 4 * (W 114 39)) * 3) (mo_rr 0 (mo_D W) x)))), (4, .int (nI (B i))), (0, ic_pt E 0), (1, .int (nI i)), (2, .int (nI q)), (3, .int (nI x))]) (pc := 142) dX11_act_142 (Nat.le_of_ble_eq_true rfl) rfl ?_
        refine xx_aload_nP (pc := 144) dX11_act_144 2 rfl rfl ?_
        refine xx_getD (pc := 145) dX11_act_145 sh_0 fX11_351_11 rfl rfl ?_
        refine xx_eqT (v2 := ic_pt E 31) (rv_hn (t := 32) (by first | rw [zk_] | (rw [g_w47 0 (by omega) (by omega), zb_]) | rw [zb_]) (by omega)) ?_
        refine xx_getN (pc := 148) dX11_act_148 sh_31 fX11_373_3 rfl ?_
        refine xx_eqI (y := nI (mo_P W)) (by rw [hA_w47.1.2.2.2, z_w47]) ?_
        refine xx_if_eqN (pc := 151) 159 dX11_act_151 rfl (by omega) (fun c48 => ?_) (fun c48 => ?_)
        · refine xx_iload (pc := 159) dX11_act_159 0 rfl ?_
          exact xx_iret (pc := 161) dX11_act_161 rfl (rfl) (Nat.le_refl _) (Nat.le_refl _) (ic_ri ⟨by rw [if_pos hP_, ← hW, (show q = 3 by omega), aw_3n b_.1 (by omega), z_w47, if_pos (show mo_P W = 0 by omega), av_3 b_.1 (by omega), rov_p (k := 2) (by rw [mo_rpw_f _ (by omega), b_.1]) (by rw [mo_rpw_f _ (by omega), h0]) (by omega) (by omega), D_rpw]; rfl, w47, rfl, ⟨fun a h1 h2 => by rw [g_w47 a (by omega) (by omega), fb_ a (by omega) (by omega)]; exact y0_.1 a h1, fun j h1 => by rw [g_w47 0 (by omega) (by omega), fb_ 0 (by omega) (by omega)]; exact y0_.2 j h1⟩, by rw [if_pos hP_, ← hW, (show q = 3 by omega), aw_3n b_.1 (by omega)]; exact Or.inr ⟨2, by omega, by omega, by rw [g_w47 0 (by omega) (by omega), zb_], hA_w47⟩⟩)
        · refine xx_bipush (pc := 154) dX11_act_154 cc_bipush_m15 ?_
          refine xx_goto (pc := 156) 161 dX11_act_156 rfl ?_
          exact xx_iret (pc := 161) dX11_act_161 rfl (rfl) (Nat.le_refl _) (Nat.le_refl _) (ic_ri ⟨by rw [if_pos hP_, ← hW, (show q = 3 by omega), aw_3n b_.1 (by omega), z_w47,  if_neg (by omega)], w47, rfl, ⟨fun a h1 h2 => by rw [g_w47 a (by omega) (by omega), fb_ a (by omega) (by omega)]; exact y0_.1 a h1, fun j h1 => by rw [g_w47 0 (by omega) (by omega), fb_ 0 (by omega) (by omega)]; exact y0_.2 j h1⟩, by rw [if_pos hP_, ← hW, (show q = 3 by omega), aw_3n b_.1 (by omega)]; exact Or.inr ⟨2, by omega, by omega, by rw [g_w47 0 (by omega) (by omega), zb_], hA_w47⟩⟩)
      · refine xx_aload_nP (pc := 121) dX11_act_121 1 rfl rfl ?_
        refine xx_getD (pc := 122) dX11_act_122 sh_0 fX11_351_11 rfl rfl ?_
        refine xx_eqT (v2 := ic_pt E 31) (rv_hn (t := 32) (by first | rw [zk_] | rw [zb_]) (by omega)) ?_
        refine xx_iload_n (pc := 125) dX11_act_125 4 rfl rfl ?_
        refine xx_callU0 (pc := 126) (st := []) sh_31 (cC_roundsP_2 (w := w42) (W := W) (x := x) h0 hA) kX9_rounds uX11_367_3 dX11_act_126 rfl rfl (Nat.le_of_ble_eq_true rfl) ⟨Nat.le_of_ble_eq_true rfl, Nat.le_of_ble_eq_true rfl⟩ ⟨Nat.zero_le _, Nat.zero_le _⟩ (ic_ki (fun v_ h_ qw49 => ?_))
        obtain ⟨x_, q_⟩ := qw49
        obtain rfl : v_ = nI (mo_rr 0 (mo_D W) x) := by rw [x_]
        rw [← row_p hA.2.1.1 (by omega) (by omega)] at q_
        obtain ⟨w49, rfl, f_w49, hA_w49⟩ := q_
        have g_w49 : ∀ a, a ≠ 31 → a ≠ 32 → w49 a = w42 a := fun a h1 h2 => (f_w49 a h1 h2).trans rfl
        have s_w49 : ∀ j, j ≠ 36 → j ≠ 40 → (mo_row W) 114 j = W 114 j := fun j h1 h2 => (mo_row_f _ h1 h2).trans rfl
        have z_w49 : (mo_row W) 114 40 = mo_P W := (mo_row_40 _).trans (mo_P_e (V := W) (W := W) (fun _ _ _ => rfl))
        have a0_w49 : w49 31 0 = W 114 38 := hA_w49.1.1.trans (s_w49 38 (by omega) (by omega))
        have a1_w49 : w49 31 1 = W 114 39 := hA_w49.1.2.1.trans (s_w49 39 (by omega) (by omega))
        refine xx_istore (L' := [(5, .int (nI (mo_rr 0 (mo_D W) x))), (4, .int (nI (B i))), (0, ic_pt E 0), (1, .int (nI i)), (2, .int (nI q)), (3, .int (nI x))]) (pc := 129) dX11_act_129 (Nat.le_of_ble_eq_true rfl) rfl ?_
        refine xx_goto (pc := 131) 144 dX11_act_131 rfl ?_
        refine xx_aload_nP (pc := 144) dX11_act_144 2 rfl rfl ?_
        refine xx_getD (pc := 145) dX11_act_145 sh_0 fX11_351_11 rfl rfl ?_
        refine xx_eqT (v2 := ic_pt E 31) (rv_hn (t := 32) (by first | rw [zk_] | (rw [g_w49 0 (by omega) (by omega), zb_]) | rw [zb_]) (by omega)) ?_
        refine xx_getN (pc := 148) dX11_act_148 sh_31 fX11_373_3 rfl ?_
        refine xx_eqI (y := nI (mo_P W)) (by rw [hA_w49.1.2.2.2, z_w49]) ?_
        refine xx_if_eqN (pc := 151) 159 dX11_act_151 rfl (by omega) (fun c50 => ?_) (fun c50 => ?_)
        · refine xx_iload (pc := 159) dX11_act_159 0 rfl ?_
          exact xx_iret (pc := 161) dX11_act_161 rfl (rfl) (Nat.le_refl _) (Nat.le_refl _) (ic_ri ⟨by rw [if_pos hP_, ← hW, (show q = 2 by omega), aw_2, z_w49, if_pos (show mo_P W = 0 by omega), av_2, rov_p (k := 2) b_.1 h0 (by omega) (by omega)], w49, rfl, ⟨fun a h1 h2 => by rw [g_w49 a (by omega) (by omega), fb_ a (by omega) (by omega)]; exact y0_.1 a h1, fun j h1 => by rw [g_w49 0 (by omega) (by omega), fb_ 0 (by omega) (by omega)]; exact y0_.2 j h1⟩, by rw [if_pos hP_, ← hW, (show q = 2 by omega), aw_2]; exact Or.inr ⟨2, by omega, by omega, by rw [g_w49 0 (by omega) (by omega), zb_], hA_w49⟩⟩)
        · refine xx_bipush (pc := 154) dX11_act_154 cc_bipush_m15 ?_
          refine xx_goto (pc := 156) 161 dX11_act_156 rfl ?_
          exact xx_iret (pc := 161) dX11_act_161 rfl (rfl) (Nat.le_refl _) (Nat.le_refl _) (ic_ri ⟨by rw [if_pos hP_, ← hW, (show q = 2 by omega), aw_2, z_w49,  if_neg (by omega)], w49, rfl, ⟨fun a h1 h2 => by rw [g_w49 a (by omega) (by omega), fb_ a (by omega) (by omega)]; exact y0_.1 a h1, fun j h1 => by rw [g_w49 0 (by omega) (by omega), fb_ 0 (by omega) (by omega)]; exact y0_.2 j h1⟩, by rw [if_pos hP_, ← hW, (show q = 2 by omega), aw_2]; exact Or.inr ⟨2, by omega, by omega, by rw [g_w49 0 (by omega) (by omega), zb_], hA_w49⟩⟩)
    · refine xx_aload_nP (pc := 103) dX11_act_103 1 rfl rfl ?_
      refine xx_getD (pc := 104) dX11_act_104 sh_0 fX11_351_11 rfl rfl ?_
      refine xx_eqT (v2 := ic_pt E 31) (rv_hn (t := 32) (by first | rw [zk_] | rw [zb_]) (by omega)) ?_
      refine xx_iload_n (pc := 107) dX11_act_107 4 rfl rfl ?_
      refine xx_callU0 (pc := 108) (st := []) sh_31 (cC_readsL_2 (w := w42) (W := W) (x := x) hA) kX3_reads uX11_364_3 dX11_act_108 rfl rfl (Nat.le_of_ble_eq_true rfl) ⟨Nat.le_of_ble_eq_true rfl, Nat.le_of_ble_eq_true rfl⟩ ⟨Nat.zero_le _, Nat.zero_le _⟩ (ic_ki (fun v_ h_ qw51 => ?_))
      obtain ⟨x_, q_⟩ := qw51
      obtain rfl : v_ = nI (((mo_sp (W 114 38) x) + 4 * (W 114 39)) * 3) := by rw [x_]
      obtain ⟨w51, rfl, f_w51, hA_w51⟩ := q_
      have g_w51 : ∀ a, a ≠ 31 → a ≠ 32 → w51 a = w42 a := fun a h1 h2 => (f_w51 a h1 h2).trans rfl
      have s_w51 : ∀ j, j ≠ 36 → j ≠ 40 → (mo_cl W [30, 11, 10]) 114 j = W 114 j := fun j h1 h2 => (mo_cl_f _ _ h1).trans rfl
      have z_w51 : (mo_cl W [30, 11, 10]) 114 40 = W 114 40 := (mo_cl_f _ _ (by omega)).trans rfl
      have a0_w51 : w51 31 0 = W 114 38 := hA_w51.1.1.trans (s_w51 38 (by omega) (by omega))
      have a1_w51 : w51 31 1 = W 114 39 := hA_w51.1.2.1.trans (s_w51 39 (by omega) (by omega))
      refine xx_istore (L' := [(5, .int (nI (((mo_sp (W 114 38) x) + 4 * (W 114 39)) * 3))), (4, .int (nI (B i))), (0, ic_pt E 0), (1, .int (nI i)), (2, .int (nI q)), (3, .int (nI x))]) (pc := 111) dX11_act_111 (Nat.le_of_ble_eq_true rfl) rfl ?_
      refine xx_goto (pc := 113) 144 dX11_act_113 rfl ?_
      refine xx_aload_nP (pc := 144) dX11_act_144 2 rfl rfl ?_
      refine xx_getD (pc := 145) dX11_act_145 sh_0 fX11_351_11 rfl rfl ?_
      refine xx_eqT (v2 := ic_pt E 31) (rv_hn (t := 32) (by first | rw [zk_] | (rw [g_w51 0 (by omega) (by omega), zb_]) | rw [zb_]) (by omega)) ?_
      refine xx_getN (pc := 148) dX11_act_148 sh_31 fX11_373_3 rfl ?_
      refine xx_eqI (y := nI (0)) (by rw [hA_w51.1.2.2.2, z_w51, h0]) ?_
      refine xx_if_eqN (pc := 151) 159 dX11_act_151 rfl (by omega) (fun c52 => ?_) (fun c52 => by exfalso; omega)
      refine xx_iload (pc := 159) dX11_act_159 0 rfl ?_
      exact xx_iret (pc := 161) dX11_act_161 rfl (rfl) (Nat.le_refl _) (Nat.le_refl _) (ic_ri ⟨by rw [if_pos hP_, ← hW, (show q = 1 by omega), aw_1 (l := [30, 11, 10]) h0 b_.1 rfl, z_w51, if_pos h0, av_1 b_.1]; rfl, w51, rfl, ⟨fun a h1 h2 => by rw [g_w51 a (by omega) (by omega), fb_ a (by omega) (by omega)]; exact y0_.1 a h1, fun j h1 => by rw [g_w51 0 (by omega) (by omega), fb_ 0 (by omega) (by omega)]; exact y0_.2 j h1⟩, by rw [if_pos hP_, ← hW, (show q = 1 by omega), aw_1 (l := [30, 11, 10]) h0 b_.1 rfl]; exact Or.inr ⟨2, by omega, by omega, by rw [g_w51 0 (by omega) (by omega), zb_], hA_w51⟩⟩)
  · refine xx_aload_nP (pc := 85) dX11_act_85 1 rfl rfl ?_
    refine xx_getD (pc := 86) dX11_act_86 sh_0 fX11_351_11 rfl rfl ?_
    refine xx_eqT (v2 := ic_pt E 31) (rv_hn (t := 32) (by first | rw [zk_] | rw [zb_]) (by omega)) ?_
    refine xx_iload_n (pc := 89) dX11_act_89 4 rfl rfl ?_
    refine xx_callU0 (pc := 90) (st := []) sh_31 (cC_standsP_2 (w := w42) (W := W) (x := x) hA) kX9_stands uX11_361_3 dX11_act_90 rfl rfl (Nat.le_of_ble_eq_true rfl) ⟨Nat.le_of_ble_eq_true rfl, Nat.le_of_ble_eq_true rfl⟩ ⟨Nat.zero_le _, Nat.zero_le _⟩ (ic_ki (fun v_ h_ qw53 => ?_))
    obtain ⟨x_, q_⟩ := qw53
    obtain rfl : v_ = nI (mo_sp (W 114 38) x) := by rw [x_]
    obtain ⟨w53, rfl, f_w53, hA_w53⟩ := q_
    have g_w53 : ∀ a, a ≠ 31 → a ≠ 32 → w53 a = w42 a := fun a h1 h2 => (f_w53 a h1 h2).trans rfl
    have s_w53 : ∀ j, j ≠ 36 → j ≠ 40 → (mo_cl W [10]) 114 j = W 114 j := fun j h1 h2 => (mo_cl_f _ _ h1).trans rfl
    have z_w53 : (mo_cl W [10]) 114 40 = W 114 40 := (mo_cl_f _ _ (by omega)).trans rfl
    have a0_w53 : w53 31 0 = W 114 38 := hA_w53.1.1.trans (s_w53 38 (by omega) (by omega))
    have a1_w53 : w53 31 1 = W 114 39 := hA_w53.1.2.1.trans (s_w53 39 (by omega) (by omega))
    refine xx_istore (L' := [(5, .int (nI (mo_sp (W 114 38) x))), (4, .int (nI (B i))), (0, ic_pt E 0), (1, .int (nI i)), (2, .int (nI q)), (3, .int (nI x))]) (pc := 93) dX11_act_93 (Nat.le_of_ble_eq_true rfl) rfl ?_
    refine xx_goto (pc := 95) 144 dX11_act_95 rfl ?_
    refine xx_aload_nP (pc := 144) dX11_act_144 2 rfl rfl ?_
    refine xx_getD (pc := 145) dX11_act_145 sh_0 fX11_351_11 rfl rfl ?_
    refine xx_eqT (v2 := ic_pt E 31) (rv_hn (t := 32) (by first | rw [zk_] | (rw [g_w53 0 (by omega) (by omega), zb_]) | rw [zb_]) (by omega)) ?_
    refine xx_getN (pc := 148) dX11_act_148 sh_31 fX11_373_3 rfl ?_
    refine xx_eqI (y := nI (0)) (by rw [hA_w53.1.2.2.2, z_w53, h0]) ?_
    refine xx_if_eqN (pc := 151) 159 dX11_act_151 rfl (by omega) (fun c54 => ?_) (fun c54 => by exfalso; omega)
    refine xx_iload (pc := 159) dX11_act_159 0 rfl ?_
    exact xx_iret (pc := 161) dX11_act_161 rfl (rfl) (Nat.le_refl _) (Nat.le_refl _) (ic_ri ⟨by rw [if_pos hP_, ← hW, (show q = 0 by omega), aw_0 (l := [10]) h0 b_.1 rfl, z_w53, if_pos h0, av_0 b_.1]; rfl, w53, rfl, ⟨fun a h1 h2 => by rw [g_w53 a (by omega) (by omega), fb_ a (by omega) (by omega)]; exact y0_.1 a h1, fun j h1 => by rw [g_w53 0 (by omega) (by omega), fb_ 0 (by omega) (by omega)]; exact y0_.2 j h1⟩, by rw [if_pos hP_, ← hW, (show q = 0 by omega), aw_0 (l := [10]) h0 b_.1 rfl]; exact Or.inr ⟨2, by omega, by omega, by rw [g_w53 0 (by omega) (by omega), zb_], hA_w53⟩⟩)

set_option maxHeartbeats 4000000 in
set_option maxRecDepth 100000 in
theorem act_3 {l : Launch} {E : ic_E} {w w1 W : ic_w} {i : Nat} (hi_ : i < 2 ^ 32) {q : Nat} (hq_ : q < 2 ^ 32) {x : Nat} (hx_ : x < 2 ^ 32) {s : Nat → Nat} (hN : Cn w s) (hI : In s) {A B : Nat → Nat} (hP_ : i ≤ 3 ∧ q ≤ 3 ∧ A i = 1 ∧ B i < s 0) (hW : W = mo_acc w s B i) (hV_ : W 114 36 = 0 ∧ W 114 40 = 0 ∧ W 114 37 = it s (B i) 0 ∧ W 114 38 = B i ∧ W 114 39 = it s (B i) 3) (ek_ : w1 43 (B i) = it s (B i) 0) (ek : it s (B i) 0 = 3) (z0_ : (∀ a, a ≠ 0 → w1 a = w a) ∧ ∀ j, j ≠ 16 → w1 0 j = w 0 j) : xx l E (ic_fr E mX11_act 9 0 0 False SHs (ic_qi (fun v_ h_ => v_ = nI (if i ≤ 3 ∧ q ≤ 3 ∧ A i = 1 ∧ B i < s 0 then (if mo_aw (mo_acc w s B i) q 114 40 = 0 then mo_av (mo_acc w s B i) q x else 4294967281) else 0) ∧ ∃ w2, h_ = hn w2 ∧ ((∀ a, a ≠ 0 → (a < 27 ∨ 38 < a) → w2 a = w a) ∧ ∀ j, j ≠ 16 → w2 0 j = w 0 j) ∧ Act w2 (if i ≤ 3 ∧ q ≤ 3 ∧ A i = 1 ∧ B i < s 0 then mo_aw (mo_acc w s B i) q else wu w 114 36 0)))) (0, 0) 40 [(4, .int (nI (B i))), (0, ic_pt E 0), (1, .int (nI i)), (2, .int (nI q)), (3, .int (nI x))] [] SHs (hn w1) := by
  have h0 := hV_.2.1
  have n0 := hI.n
  have bi_ : B i < 2 ^ 31 := by omega
  have hPl_ := mo_P_le W
  have k5_ := hI.i (o := B i) (by omega)
  refine xx_aload_nP (pc := 40) dX11_act_40 1 rfl rfl ?_
  refine xx_aload_nP (pc := 41) dX11_act_41 1 rfl rfl ?_
  refine xx_getR (pc := 42) 39 dX11_act_42 sh_0 fX11_74_11 rfl rfl (by decide) ?_
  refine xx_getR (pc := 45) 26 dX11_act_45 sh_39 fX11_355_5 rfl rfl (by decide) ?_
  refine xx_aload_nP (pc := 48) dX11_act_48 1 rfl rfl ?_
  refine xx_getR (pc := 49) 39 dX11_act_49 sh_0 fX11_74_11 rfl rfl (by decide) ?_
  refine xx_getR (pc := 52) 43 dX11_act_52 sh_39 fX11_115_5 rfl rfl (by decide) ?_
  refine xx_iload (pc := 55) dX11_act_55 0 rfl ?_
  refine xx_ialdN (pc := 57) dX11_act_57 sh_43 (by omega) (by decide) ?_
  refine xx_eqI (y := nI (3)) (by rw [ek_, ek]) ?_
  refine xx_aald (pc := 58) 3 33 dX11_act_58 sh_26 (by decide) rfl (by omega) (by decide) (rfl) ?_
  refine xx_putDN 34 (pc := 59) dX11_act_59 sh_0 fX11_351_11 rfl rfl rfl (rfl) (by omega) rfl rfl ?_
  refine xx_nw (fun w41 ew41 => ?_)
  have zk_ : w41 0 16 = 34 := by rw [ew41, wu_s]
  have y0_ : (∀ a, a ≠ 0 → w41 a = w a) ∧ ∀ j, j ≠ 16 → w41 0 j = w 0 j := ⟨fun a h => by rw [ew41, wu_row _ _ _ h]; exact z0_.1 a h, fun j h => by rw [ew41, wu_k _ _ _ _ h]; exact z0_.2 j h⟩
  refine xx_aload_nP (pc := 62) dX11_act_62 1 rfl rfl ?_
  refine xx_getD (pc := 63) dX11_act_63 sh_0 fX11_351_11 rfl rfl ?_
  refine xx_eqT (v2 := ic_pt E 33) (rv_hn (t := 34) (by first | rw [zk_] | rw [zb_]) (by omega)) ?_
  refine xx_iload (pc := 66) dX11_act_66 0 rfl ?_
  refine xx_aload_nP (pc := 68) dX11_act_68 1 rfl rfl ?_
  refine xx_getR (pc := 69) 39 dX11_act_69 sh_0 fX11_74_11 rfl rfl (by decide) ?_
  refine xx_getR (pc := 72) 45 dX11_act_72 sh_39 fX11_124_5 rfl rfl (by decide) ?_
  refine xx_iload (pc := 75) dX11_act_75 0 rfl ?_
  refine xx_ialdN (pc := 77) dX11_act_77 sh_45 (by omega) (by decide) ?_
  refine xx_eqI (y := nI (it s (B i) 3)) (by rw [y0_.1 45 (by omega), hN.hm (by omega)]) ?_
  refine xx_callU0 (pc := 78) (st := []) sh_33 (cC_becomes_3 (w := w41) (V := W) (n := B i) (a := it s (B i) 3) (by omega) (by omega) ⟨hV_.1, hV_.2.1, hV_.2.2.1.trans ek, hV_.2.2.2.1, hV_.2.2.2.2⟩) kX9_become uX11_359_2 dX11_act_78 rfl rfl (Nat.le_of_ble_eq_true rfl) ⟨Nat.le_of_ble_eq_true rfl, Nat.le_of_ble_eq_true rfl⟩ ⟨Nat.zero_le _, Nat.zero_le _⟩ (ic_kv (fun h_ qw42 => ?_))
  obtain ⟨w42, rfl, fb_, hA⟩ := qw42
  have b_ := hA.2.1
  have a0_ : w42 33 0 = W 114 38 := hA.1.1
  have a1_ : w42 33 1 = W 114 39 := hA.1.2.1
  have zb_ : w42 0 16 = 34 := by rw [fb_ 0 (by omega) (by omega), zk_]
  refine xx_iload_n (pc := 81) dX11_act_81 3 rfl rfl ?_
  refine xx_if_neN (pc := 82) 98 dX11_act_82 rfl (by omega) (fun c44 => ?_) (fun c44 => ?_)
  · refine xx_iload_n (pc := 98) dX11_act_98 3 rfl rfl ?_
    refine xx_iconst (pc := 99) dX11_act_99 cc_iconst_1 ?_
    refine xx_icmp_neN (pc := 100) 116 dX11_act_100 rfl (by omega) (by omega) (fun c45 => ?_) (fun c45 => ?_)
    · refine xx_iload_n (pc := 116) dX11_act_116 3 rfl rfl ?_
      refine xx_iconst (pc := 117) dX11_act_117 cc_iconst_2 ?_
      refine xx_icmp_neN (pc := 118) 134 dX11_act_118 rfl (by omega) (by omega) (fun c46 => ?_) (fun c46 => ?_)
      · refine xx_aload_nP (pc := 134) dX11_act_134 1 rfl rfl ?_
        refine xx_getD (pc := 135) dX11_act_135 sh_0 fX11_351_11 rfl rfl ?_
        refine xx_eqT (v2 := ic_pt E 33) (rv_hn (t := 34) (by first | rw [zk_] | rw [zb_]) (by omega)) ?_
        refine xx_iload_n (pc := 138) dX11_act_138 4 rfl rfl ?_
        refine xx_callU0 (pc := 139) (st := []) sh_33 (cC_rises3_3 (w := w42) (W := W) (x := x) h0 hA) kX2_rises uX11_370_2 dX11_act_139 rfl rfl (Nat.le_of_ble_eq_true rfl) ⟨Nat.le_of_ble_eq_true rfl, Nat.le_of_ble_eq_true rfl⟩ ⟨Nat.zero_le _, Nat.zero_le _⟩ (ic_ki (fun v_ h_ qw47 => ?_))
        obtain ⟨x_, q_⟩ := qw47
        obtain rfl : v_ = nI (mo_mi (((mo_sp (W 114 38) (x + 11)) + 4 * (W 114 39)) * 3) (mo_rr 0 (mo_D W) x) + (((mo_sp (W 114 38) ((W 114 39) + 11)) + 4 * (W 114 39)) * 3)) := by rw [x_]
        obtain ⟨w47, rfl, f_w47, hA_w47⟩ := q_
        have g_w47 : ∀ a, a ≠ 33 → a ≠ 34 → w47 a = w42 a := fun a h1 h2 => (f_w47 a h1 h2).trans rfl
        have s_w47 : ∀ j, j ≠ 36 → j ≠ 40 → (mo_riw W) 114 j = W 114 j := fun j h1 h2 => (riw_f _ h1 h2).trans rfl
        have z_w47 : (mo_riw W) 114 40 = mo_P W := riw_40 _
        have a0_w47 : w47 33 0 = W 114 38 := hA_w47.1.1.trans (s_w47 38 (by omega) (by omega))
        have a1_w47 : w47 33 1 = W 114 39 := hA_w47.1.2.1.trans (s_w47 39 (by omega) (by omega))
        refine xx_istore (L' := [(5, .int (nI (mo_mi (((mo_sp (W 114 38) (x + 11)) + 4 * (W 114 39)) * 3) (mo_rr 0 (mo_D W) x) + (((mo_sp (W 114 38) ((W 114 39) + 11)) + 4 * (W 114 39)) * 3)))), (4, .int (nI (B i))), (0, ic_pt E 0), (1, .int (nI i)), (2, .int (nI q)), (3, .int (nI x))]) (pc := 142) dX11_act_142 (Nat.le_of_ble_eq_true rfl) rfl ?_
        refine xx_aload_nP (pc := 144) dX11_act_144 2 rfl rfl ?_
        refine xx_getD (pc := 145) dX11_act_145 sh_0 fX11_351_11 rfl rfl ?_
        refine xx_eqT (v2 := ic_pt E 33) (rv_hn (t := 34) (by first | rw [zk_] | (rw [g_w47 0 (by omega) (by omega), zb_]) | rw [zb_]) (by omega)) ?_
        refine xx_getN (pc := 148) dX11_act_148 sh_33 fX11_373_2 rfl ?_
        refine xx_eqI (y := nI (mo_P W)) (by rw [hA_w47.1.2.2.2, z_w47]) ?_
        refine xx_if_eqN (pc := 151) 159 dX11_act_151 rfl (by omega) (fun c48 => ?_) (fun c48 => ?_)
        · refine xx_iload (pc := 159) dX11_act_159 0 rfl ?_
          exact xx_iret (pc := 161) dX11_act_161 rfl (rfl) (Nat.le_refl _) (Nat.le_refl _) (ic_ri ⟨by rw [if_pos hP_, ← hW, (show q = 3 by omega), aw_3, z_w47, if_pos (show mo_P W = 0 by omega), av_33 b_.1 h0 (by omega)]; rfl, w47, rfl, ⟨fun a h1 h2 => by rw [g_w47 a (by omega) (by omega), fb_ a (by omega) (by omega)]; exact y0_.1 a h1, fun j h1 => by rw [g_w47 0 (by omega) (by omega), fb_ 0 (by omega) (by omega)]; exact y0_.2 j h1⟩, by rw [if_pos hP_, ← hW, (show q = 3 by omega), aw_3]; exact Or.inr ⟨3, by omega, by omega, by rw [g_w47 0 (by omega) (by omega), zb_], hA_w47⟩⟩)
        · refine xx_bipush (pc := 154) dX11_act_154 cc_bipush_m15 ?_
          refine xx_goto (pc := 156) 161 dX11_act_156 rfl ?_
          exact xx_iret (pc := 161) dX11_act_161 rfl (rfl) (Nat.le_refl _) (Nat.le_refl _) (ic_ri ⟨by rw [if_pos hP_, ← hW, (show q = 3 by omega), aw_3, z_w47,  if_neg (by omega)], w47, rfl, ⟨fun a h1 h2 => by rw [g_w47 a (by omega) (by omega), fb_ a (by omega) (by omega)]; exact y0_.1 a h1, fun j h1 => by rw [g_w47 0 (by omega) (by omega), fb_ 0 (by omega) (by omega)]; exact y0_.2 j h1⟩, by rw [if_pos hP_, ← hW, (show q = 3 by omega), aw_3]; exact Or.inr ⟨3, by omega, by omega, by rw [g_w47 0 (by omega) (by omega), zb_], hA_w47⟩⟩)
      · refine xx_aload_nP (pc := 121) dX11_act_121 1 rfl rfl ?_
        refine xx_getD (pc := 122) dX11_act_122 sh_0 fX11_351_11 rfl rfl ?_
        refine xx_eqT (v2 := ic_pt E 33) (rv_hn (t := 34) (by first | rw [zk_] | rw [zb_]) (by omega)) ?_
        refine xx_iload_n (pc := 125) dX11_act_125 4 rfl rfl ?_
        refine xx_callU0 (pc := 126) (st := []) sh_33 (cC_roundsP_3 (w := w42) (W := W) (x := x) h0 hA) kX9_rounds uX11_367_2 dX11_act_126 rfl rfl (Nat.le_of_ble_eq_true rfl) ⟨Nat.le_of_ble_eq_true rfl, Nat.le_of_ble_eq_true rfl⟩ ⟨Nat.zero_le _, Nat.zero_le _⟩ (ic_ki (fun v_ h_ qw49 => ?_))
        obtain ⟨x_, q_⟩ := qw49
        obtain rfl : v_ = nI (mo_rr 0 (mo_D W) x) := by rw [x_]
        rw [← row_p hA.2.1.1 (by omega) (by omega)] at q_
        obtain ⟨w49, rfl, f_w49, hA_w49⟩ := q_
        have g_w49 : ∀ a, a ≠ 33 → a ≠ 34 → w49 a = w42 a := fun a h1 h2 => (f_w49 a h1 h2).trans rfl
        have s_w49 : ∀ j, j ≠ 36 → j ≠ 40 → (mo_row W) 114 j = W 114 j := fun j h1 h2 => (mo_row_f _ h1 h2).trans rfl
        have z_w49 : (mo_row W) 114 40 = mo_P W := (mo_row_40 _).trans (mo_P_e (V := W) (W := W) (fun _ _ _ => rfl))
        have a0_w49 : w49 33 0 = W 114 38 := hA_w49.1.1.trans (s_w49 38 (by omega) (by omega))
        have a1_w49 : w49 33 1 = W 114 39 := hA_w49.1.2.1.trans (s_w49 39 (by omega) (by omega))
        refine xx_istore (L' := [(5, .int (nI (mo_rr 0 (mo_D W) x))), (4, .int (nI (B i))), (0, ic_pt E 0), (1, .int (nI i)), (2, .int (nI q)), (3, .int (nI x))]) (pc := 129) dX11_act_129 (Nat.le_of_ble_eq_true rfl) rfl ?_
        refine xx_goto (pc := 131) 144 dX11_act_131 rfl ?_
        refine xx_aload_nP (pc := 144) dX11_act_144 2 rfl rfl ?_
        refine xx_getD (pc := 145) dX11_act_145 sh_0 fX11_351_11 rfl rfl ?_
        refine xx_eqT (v2 := ic_pt E 33) (rv_hn (t := 34) (by first | rw [zk_] | (rw [g_w49 0 (by omega) (by omega), zb_]) | rw [zb_]) (by omega)) ?_
        refine xx_getN (pc := 148) dX11_act_148 sh_33 fX11_373_2 rfl ?_
        refine xx_eqI (y := nI (mo_P W)) (by rw [hA_w49.1.2.2.2, z_w49]) ?_
        refine xx_if_eqN (pc := 151) 159 dX11_act_151 rfl (by omega) (fun c50 => ?_) (fun c50 => ?_)
        · refine xx_iload (pc := 159) dX11_act_159 0 rfl ?_
          exact xx_iret (pc := 161) dX11_act_161 rfl (rfl) (Nat.le_refl _) (Nat.le_refl _) (ic_ri ⟨by rw [if_pos hP_, ← hW, (show q = 2 by omega), aw_2, z_w49, if_pos (show mo_P W = 0 by omega), av_2, rov_p (k := 3) b_.1 h0 (by omega) (by omega)], w49, rfl, ⟨fun a h1 h2 => by rw [g_w49 a (by omega) (by omega), fb_ a (by omega) (by omega)]; exact y0_.1 a h1, fun j h1 => by rw [g_w49 0 (by omega) (by omega), fb_ 0 (by omega) (by omega)]; exact y0_.2 j h1⟩, by rw [if_pos hP_, ← hW, (show q = 2 by omega), aw_2]; exact Or.inr ⟨3, by omega, by omega, by rw [g_w49 0 (by omega) (by omega), zb_], hA_w49⟩⟩)
        · refine xx_bipush (pc := 154) dX11_act_154 cc_bipush_m15 ?_
          refine xx_goto (pc := 156) 161 dX11_act_156 rfl ?_
          exact xx_iret (pc := 161) dX11_act_161 rfl (rfl) (Nat.le_refl _) (Nat.le_refl _) (ic_ri ⟨by rw [if_pos hP_, ← hW, (show q = 2 by omega), aw_2, z_w49,  if_neg (by omega)], w49, rfl, ⟨fun a h1 h2 => by rw [g_w49 a (by omega) (by omega), fb_ a (by omega) (by omega)]; exact y0_.1 a h1, fun j h1 => by rw [g_w49 0 (by omega) (by omega), fb_ 0 (by omega) (by omega)]; exact y0_.2 j h1⟩, by rw [if_pos hP_, ← hW, (show q = 2 by omega), aw_2]; exact Or.inr ⟨3, by omega, by omega, by rw [g_w49 0 (by omega) (by omega), zb_], hA_w49⟩⟩)
    · refine xx_aload_nP (pc := 103) dX11_act_103 1 rfl rfl ?_
      refine xx_getD (pc := 104) dX11_act_104 sh_0 fX11_351_11 rfl rfl ?_
      refine xx_eqT (v2 := ic_pt E 33) (rv_hn (t := 34) (by first | rw [zk_] | rw [zb_]) (by omega)) ?_
      refine xx_iload_n (pc := 107) dX11_act_107 4 rfl rfl ?_
      refine xx_callU0 (pc := 108) (st := []) sh_33 (cC_readsL_3 (w := w42) (W := W) (x := x) hA) kX3_reads uX11_364_2 dX11_act_108 rfl rfl (Nat.le_of_ble_eq_true rfl) ⟨Nat.le_of_ble_eq_true rfl, Nat.le_of_ble_eq_true rfl⟩ ⟨Nat.zero_le _, Nat.zero_le _⟩ (ic_ki (fun v_ h_ qw51 => ?_))
      obtain ⟨x_, q_⟩ := qw51
      obtain rfl : v_ = nI (((mo_sp (W 114 38) (x + 11)) + 4 * (W 114 39)) * 3) := by rw [x_]
      obtain ⟨w51, rfl, f_w51, hA_w51⟩ := q_
      have g_w51 : ∀ a, a ≠ 33 → a ≠ 34 → w51 a = w42 a := fun a h1 h2 => (f_w51 a h1 h2).trans rfl
      have s_w51 : ∀ j, j ≠ 36 → j ≠ 40 → (mo_cl W [30, 11, 50, 10]) 114 j = W 114 j := fun j h1 h2 => (mo_cl_f _ _ h1).trans rfl
      have z_w51 : (mo_cl W [30, 11, 50, 10]) 114 40 = W 114 40 := (mo_cl_f _ _ (by omega)).trans rfl
      have a0_w51 : w51 33 0 = W 114 38 := hA_w51.1.1.trans (s_w51 38 (by omega) (by omega))
      have a1_w51 : w51 33 1 = W 114 39 := hA_w51.1.2.1.trans (s_w51 39 (by omega) (by omega))
      refine xx_istore (L' := [(5, .int (nI (((mo_sp (W 114 38) (x + 11)) + 4 * (W 114 39)) * 3))), (4, .int (nI (B i))), (0, ic_pt E 0), (1, .int (nI i)), (2, .int (nI q)), (3, .int (nI x))]) (pc := 111) dX11_act_111 (Nat.le_of_ble_eq_true rfl) rfl ?_
      refine xx_goto (pc := 113) 144 dX11_act_113 rfl ?_
      refine xx_aload_nP (pc := 144) dX11_act_144 2 rfl rfl ?_
      refine xx_getD (pc := 145) dX11_act_145 sh_0 fX11_351_11 rfl rfl ?_
      refine xx_eqT (v2 := ic_pt E 33) (rv_hn (t := 34) (by first | rw [zk_] | (rw [g_w51 0 (by omega) (by omega), zb_]) | rw [zb_]) (by omega)) ?_
      refine xx_getN (pc := 148) dX11_act_148 sh_33 fX11_373_2 rfl ?_
      refine xx_eqI (y := nI (0)) (by rw [hA_w51.1.2.2.2, z_w51, h0]) ?_
      refine xx_if_eqN (pc := 151) 159 dX11_act_151 rfl (by omega) (fun c52 => ?_) (fun c52 => by exfalso; omega)
      refine xx_iload (pc := 159) dX11_act_159 0 rfl ?_
      exact xx_iret (pc := 161) dX11_act_161 rfl (rfl) (Nat.le_refl _) (Nat.le_refl _) (ic_ri ⟨by rw [if_pos hP_, ← hW, (show q = 1 by omega), aw_1 (l := [30, 11, 50, 10]) h0 b_.1 rfl, z_w51, if_pos h0, av_1 b_.1]; rfl, w51, rfl, ⟨fun a h1 h2 => by rw [g_w51 a (by omega) (by omega), fb_ a (by omega) (by omega)]; exact y0_.1 a h1, fun j h1 => by rw [g_w51 0 (by omega) (by omega), fb_ 0 (by omega) (by omega)]; exact y0_.2 j h1⟩, by rw [if_pos hP_, ← hW, (show q = 1 by omega), aw_1 (l := [30, 11, 50, 10]) h0 b_.1 rfl]; exact Or.inr ⟨3, by omega, by omega, by rw [g_w51 0 (by omega) (by omega), zb_], hA_w51⟩⟩)
  · refine xx_aload_nP (pc := 85) dX11_act_85 1 rfl rfl ?_
    refine xx_getD (pc := 86) dX11_act_86 sh_0 fX11_351_11 rfl rfl ?_
    refine xx_eqT (v2 := ic_pt E 33) (rv_hn (t := 34) (by first | rw [zk_] | rw [zb_]) (by omega)) ?_
    refine xx_iload_n (pc := 89) dX11_act_89 4 rfl rfl ?_
    refine xx_callU0 (pc := 90) (st := []) sh_33 (cC_stands3_3 (w := w42) (W := W) (x := x) hA) kX2_stands uX11_361_2 dX11_act_90 rfl rfl (Nat.le_of_ble_eq_true rfl) ⟨Nat.le_of_ble_eq_true rfl, Nat.le_of_ble_eq_true rfl⟩ ⟨Nat.zero_le _, Nat.zero_le _⟩ (ic_ki (fun v_ h_ qw53 => ?_))
    obtain ⟨x_, q_⟩ := qw53
    obtain rfl : v_ = nI (mo_sp (W 114 38) (x + 11)) := by rw [x_]
    obtain ⟨w53, rfl, f_w53, hA_w53⟩ := q_
    have g_w53 : ∀ a, a ≠ 33 → a ≠ 34 → w53 a = w42 a := fun a h1 h2 => (f_w53 a h1 h2).trans rfl
    have s_w53 : ∀ j, j ≠ 36 → j ≠ 40 → (mo_cl W [50, 10]) 114 j = W 114 j := fun j h1 h2 => (mo_cl_f _ _ h1).trans rfl
    have z_w53 : (mo_cl W [50, 10]) 114 40 = W 114 40 := (mo_cl_f _ _ (by omega)).trans rfl
    have a0_w53 : w53 33 0 = W 114 38 := hA_w53.1.1.trans (s_w53 38 (by omega) (by omega))
    have a1_w53 : w53 33 1 = W 114 39 := hA_w53.1.2.1.trans (s_w53 39 (by omega) (by omega))
    refine xx_istore (L' := [(5, .int (nI (mo_sp (W 114 38) (x + 11)))), (4, .int (nI (B i))), (0, ic_pt E 0), (1, .int (nI i)), (2, .int (nI q)), (3, .int (nI x))]) (pc := 93) dX11_act_93 (Nat.le_of_ble_eq_true rfl) rfl ?_
    refine xx_goto (pc := 95) 144 dX11_act_95 rfl ?_
    refine xx_aload_nP (pc := 144) dX11_act_144 2 rfl rfl ?_
    refine xx_getD (pc := 145) dX11_act_145 sh_0 fX11_351_11 rfl rfl ?_
    refine xx_eqT (v2 := ic_pt E 33) (rv_hn (t := 34) (by first | rw [zk_] | (rw [g_w53 0 (by omega) (by omega), zb_]) | rw [zb_]) (by omega)) ?_
    refine xx_getN (pc := 148) dX11_act_148 sh_33 fX11_373_2 rfl ?_
    refine xx_eqI (y := nI (0)) (by rw [hA_w53.1.2.2.2, z_w53, h0]) ?_
    refine xx_if_eqN (pc := 151) 159 dX11_act_151 rfl (by omega) (fun c54 => ?_) (fun c54 => by exfalso; omega)
    refine xx_iload (pc := 159) dX11_act_159 0 rfl ?_
    exact xx_iret (pc := 161) dX11_act_161 rfl (rfl) (Nat.le_refl _) (Nat.le_refl _) (ic_ri ⟨by rw [if_pos hP_, ← hW, (show q = 0 by omega), aw_0 (l := [50, 10]) h0 b_.1 rfl, z_w53, if_pos h0, av_0 b_.1]; rfl, w53, rfl, ⟨fun a h1 h2 => by rw [g_w53 a (by omega) (by omega), fb_ a (by omega) (by omega)]; exact y0_.1 a h1, fun j h1 => by rw [g_w53 0 (by omega) (by omega), fb_ 0 (by omega) (by omega)]; exact y0_.2 j h1⟩, by rw [if_pos hP_, ← hW, (show q = 0 by omega), aw_0 (l := [50, 10]) h0 b_.1 rfl]; exact Or.inr ⟨3, by omega, by omega, by rw [g_w53 0 (by omega) (by omega), zb_], hA_w53⟩⟩)

set_option maxHeartbeats 4000000 in
set_option maxRecDepth 100000 in
theorem act_4 {l : Launch} {E : ic_E} {w w1 W : ic_w} {i : Nat} (hi_ : i < 2 ^ 32) {q : Nat} (hq_ : q < 2 ^ 32) {x : Nat} (hx_ : x < 2 ^ 32) {s : Nat → Nat} (hN : Cn w s) (hI : In s) {A B : Nat → Nat} (hP_ : i ≤ 3 ∧ q ≤ 3 ∧ A i = 1 ∧ B i < s 0) (hW : W = mo_acc w s B i) (hV_ : W 114 36 = 0 ∧ W 114 40 = 0 ∧ W 114 37 = it s (B i) 0 ∧ W 114 38 = B i ∧ W 114 39 = it s (B i) 3) (ek_ : w1 43 (B i) = it s (B i) 0) (ek : it s (B i) 0 = 4) (z0_ : (∀ a, a ≠ 0 → w1 a = w a) ∧ ∀ j, j ≠ 16 → w1 0 j = w 0 j) : xx l E (ic_fr E mX11_act 9 0 0 False SHs (ic_qi (fun v_ h_ => v_ = nI (if i ≤ 3 ∧ q ≤ 3 ∧ A i = 1 ∧ B i < s 0 then (if mo_aw (mo_acc w s B i) q 114 40 = 0 then mo_av (mo_acc w s B i) q x else 4294967281) else 0) ∧ ∃ w2, h_ = hn w2 ∧ ((∀ a, a ≠ 0 → (a < 27 ∨ 38 < a) → w2 a = w a) ∧ ∀ j, j ≠ 16 → w2 0 j = w 0 j) ∧ Act w2 (if i ≤ 3 ∧ q ≤ 3 ∧ A i = 1 ∧ B i < s 0 then mo_aw (mo_acc w s B i) q else wu w 114 36 0)))) (0, 0) 40 [(4, .int (nI (B i))), (0, ic_pt E 0), (1, .int (nI i)), (2, .int (nI q)), (3, .int (nI x))] [] SHs (hn w1) := by
  have h0 := hV_.2.1
  have n0 := hI.n
  have bi_ : B i < 2 ^ 31 := by omega
  have hPl_ := mo_P_le W
  have k5_ := hI.i (o := B i) (by omega)
  refine xx_aload_nP (pc := 40) dX11_act_40 1 rfl rfl ?_
  refine xx_aload_nP (pc := 41) dX11_act_41 1 rfl rfl ?_
  refine xx_getR (pc := 42) 39 dX11_act_42 sh_0 fX11_74_11 rfl rfl (by decide) ?_
  refine xx_getR (pc := 45) 26 dX11_act_45 sh_39 fX11_355_5 rfl rfl (by decide) ?_
  refine xx_aload_nP (pc := 48) dX11_act_48 1 rfl rfl ?_
  refine xx_getR (pc := 49) 39 dX11_act_49 sh_0 fX11_74_11 rfl rfl (by decide) ?_
  refine xx_getR (pc := 52) 43 dX11_act_52 sh_39 fX11_115_5 rfl rfl (by decide) ?_
  refine xx_iload (pc := 55) dX11_act_55 0 rfl ?_
  refine xx_ialdN (pc := 57) dX11_act_57 sh_43 (by omega) (by decide) ?_
  refine xx_eqI (y := nI (4)) (by rw [ek_, ek]) ?_
  refine xx_aald (pc := 58) 4 35 dX11_act_58 sh_26 (by decide) rfl (by omega) (by decide) (rfl) ?_
  refine xx_putDN 36 (pc := 59) dX11_act_59 sh_0 fX11_351_11 rfl rfl rfl (rfl) (by omega) rfl rfl ?_
  refine xx_nw (fun w41 ew41 => ?_)
  have zk_ : w41 0 16 = 36 := by rw [ew41, wu_s]
  have y0_ : (∀ a, a ≠ 0 → w41 a = w a) ∧ ∀ j, j ≠ 16 → w41 0 j = w 0 j := ⟨fun a h => by rw [ew41, wu_row _ _ _ h]; exact z0_.1 a h, fun j h => by rw [ew41, wu_k _ _ _ _ h]; exact z0_.2 j h⟩
  refine xx_aload_nP (pc := 62) dX11_act_62 1 rfl rfl ?_
  refine xx_getD (pc := 63) dX11_act_63 sh_0 fX11_351_11 rfl rfl ?_
  refine xx_eqT (v2 := ic_pt E 35) (rv_hn (t := 36) (by first | rw [zk_] | rw [zb_]) (by omega)) ?_
  refine xx_iload (pc := 66) dX11_act_66 0 rfl ?_
  refine xx_aload_nP (pc := 68) dX11_act_68 1 rfl rfl ?_
  refine xx_getR (pc := 69) 39 dX11_act_69 sh_0 fX11_74_11 rfl rfl (by decide) ?_
  refine xx_getR (pc := 72) 45 dX11_act_72 sh_39 fX11_124_5 rfl rfl (by decide) ?_
  refine xx_iload (pc := 75) dX11_act_75 0 rfl ?_
  refine xx_ialdN (pc := 77) dX11_act_77 sh_45 (by omega) (by decide) ?_
  refine xx_eqI (y := nI (it s (B i) 3)) (by rw [y0_.1 45 (by omega), hN.hm (by omega)]) ?_
  refine xx_callU0 (pc := 78) (st := []) sh_35 (cC_becomes_4 (w := w41) (V := W) (n := B i) (a := it s (B i) 3) (by omega) (by omega) ⟨hV_.1, hV_.2.1, hV_.2.2.1.trans ek, hV_.2.2.2.1, hV_.2.2.2.2⟩) kX9_become uX11_359_1 dX11_act_78 rfl rfl (Nat.le_of_ble_eq_true rfl) ⟨Nat.le_of_ble_eq_true rfl, Nat.le_of_ble_eq_true rfl⟩ ⟨Nat.zero_le _, Nat.zero_le _⟩ (ic_kv (fun h_ qw42 => ?_))
  obtain ⟨w42, rfl, fb_, hA⟩ := qw42
  have b_ := hA.2.1
  have a0_ : w42 35 0 = W 114 38 := hA.1.1
  have a1_ : w42 35 1 = W 114 39 := hA.1.2.1
  have zb_ : w42 0 16 = 36 := by rw [fb_ 0 (by omega) (by omega), zk_]
  refine xx_iload_n (pc := 81) dX11_act_81 3 rfl rfl ?_
  refine xx_if_neN (pc := 82) 98 dX11_act_82 rfl (by omega) (fun c44 => ?_) (fun c44 => ?_)
  · refine xx_iload_n (pc := 98) dX11_act_98 3 rfl rfl ?_
    refine xx_iconst (pc := 99) dX11_act_99 cc_iconst_1 ?_
    refine xx_icmp_neN (pc := 100) 116 dX11_act_100 rfl (by omega) (by omega) (fun c45 => ?_) (fun c45 => ?_)
    · refine xx_iload_n (pc := 116) dX11_act_116 3 rfl rfl ?_
      refine xx_iconst (pc := 117) dX11_act_117 cc_iconst_2 ?_
      refine xx_icmp_neN (pc := 118) 134 dX11_act_118 rfl (by omega) (by omega) (fun c46 => ?_) (fun c46 => ?_)
      · refine xx_aload_nP (pc := 134) dX11_act_134 1 rfl rfl ?_
        refine xx_getD (pc := 135) dX11_act_135 sh_0 fX11_351_11 rfl rfl ?_
        refine xx_eqT (v2 := ic_pt E 35) (rv_hn (t := 36) (by first | rw [zk_] | rw [zb_]) (by omega)) ?_
        refine xx_iload_n (pc := 138) dX11_act_138 4 rfl rfl ?_
        refine xx_callU0 (pc := 139) (st := []) sh_35 (cC_risesP_4 (w := w42) (W := W) (x := x) h0 hA) kX9_rises uX11_370_1 dX11_act_139 rfl rfl (Nat.le_of_ble_eq_true rfl) ⟨Nat.le_of_ble_eq_true rfl, Nat.le_of_ble_eq_true rfl⟩ ⟨Nat.zero_le _, Nat.zero_le _⟩ (ic_ki (fun v_ h_ qw47 => ?_))
        obtain ⟨x_, q_⟩ := qw47
        obtain rfl : v_ = nI (mo_mi ((mo_sp (W 114 38) x) + 4 * (W 114 39)) (mo_mi (mo_rr 0 (mo_D W) x) 5)) := by rw [x_]
        obtain ⟨w47, rfl, f_w47, hA_w47⟩ := q_
        have g_w47 : ∀ a, a ≠ 35 → a ≠ 36 → w47 a = w42 a := fun a h1 h2 => (f_w47 a h1 h2).trans rfl
        have s_w47 : ∀ j, j ≠ 36 → j ≠ 40 → (mo_row (mo_rpw W)) 114 j = W 114 j := fun j h1 h2 => ((mo_row_f _ h1 h2).trans (mo_rpw_f _ h1)).trans rfl
        have z_w47 : (mo_row (mo_rpw W)) 114 40 = mo_P W := (mo_row_40 _).trans ((mo_P_rpw _).trans (mo_P_e (V := W) (W := W) (fun _ _ _ => rfl)))
        have a0_w47 : w47 35 0 = W 114 38 := hA_w47.1.1.trans (s_w47 38 (by omega) (by omega))
        have a1_w47 : w47 35 1 = W 114 39 := hA_w47.1.2.1.trans (s_w47 39 (by omega) (by omega))
        refine xx_istore (L' := [(5, .int (nI (mo_mi ((mo_sp (W 114 38) x) + 4 * (W 114 39)) (mo_mi (mo_rr 0 (mo_D W) x) 5)))), (4, .int (nI (B i))), (0, ic_pt E 0), (1, .int (nI i)), (2, .int (nI q)), (3, .int (nI x))]) (pc := 142) dX11_act_142 (Nat.le_of_ble_eq_true rfl) rfl ?_
        refine xx_aload_nP (pc := 144) dX11_act_144 2 rfl rfl ?_
        refine xx_getD (pc := 145) dX11_act_145 sh_0 fX11_351_11 rfl rfl ?_
        refine xx_eqT (v2 := ic_pt E 35) (rv_hn (t := 36) (by first | rw [zk_] | (rw [g_w47 0 (by omega) (by omega), zb_]) | rw [zb_]) (by omega)) ?_
        refine xx_getN (pc := 148) dX11_act_148 sh_35 fX11_373_1 rfl ?_
        refine xx_eqI (y := nI (mo_P W)) (by rw [hA_w47.1.2.2.2, z_w47]) ?_
        refine xx_if_eqN (pc := 151) 159 dX11_act_151 rfl (by omega) (fun c48 => ?_) (fun c48 => ?_)
        · refine xx_iload (pc := 159) dX11_act_159 0 rfl ?_
          exact xx_iret (pc := 161) dX11_act_161 rfl (rfl) (Nat.le_refl _) (Nat.le_refl _) (ic_ri ⟨by rw [if_pos hP_, ← hW, (show q = 3 by omega), aw_3n b_.1 (by omega), z_w47, if_pos (show mo_P W = 0 by omega), av_3 b_.1 (by omega), rov_4 (by rw [mo_rpw_f _ (by omega), b_.1]) (by rw [mo_rpw_f _ (by omega), h0]), D_rpw]; rfl, w47, rfl, ⟨fun a h1 h2 => by rw [g_w47 a (by omega) (by omega), fb_ a (by omega) (by omega)]; exact y0_.1 a h1, fun j h1 => by rw [g_w47 0 (by omega) (by omega), fb_ 0 (by omega) (by omega)]; exact y0_.2 j h1⟩, by rw [if_pos hP_, ← hW, (show q = 3 by omega), aw_3n b_.1 (by omega)]; exact Or.inr ⟨4, by omega, by omega, by rw [g_w47 0 (by omega) (by omega), zb_], hA_w47⟩⟩)
        · refine xx_bipush (pc := 154) dX11_act_154 cc_bipush_m15 ?_
          refine xx_goto (pc := 156) 161 dX11_act_156 rfl ?_
          exact xx_iret (pc := 161) dX11_act_161 rfl (rfl) (Nat.le_refl _) (Nat.le_refl _) (ic_ri ⟨by rw [if_pos hP_, ← hW, (show q = 3 by omega), aw_3n b_.1 (by omega), z_w47,  if_neg (by omega)], w47, rfl, ⟨fun a h1 h2 => by rw [g_w47 a (by omega) (by omega), fb_ a (by omega) (by omega)]; exact y0_.1 a h1, fun j h1 => by rw [g_w47 0 (by omega) (by omega), fb_ 0 (by omega) (by omega)]; exact y0_.2 j h1⟩, by rw [if_pos hP_, ← hW, (show q = 3 by omega), aw_3n b_.1 (by omega)]; exact Or.inr ⟨4, by omega, by omega, by rw [g_w47 0 (by omega) (by omega), zb_], hA_w47⟩⟩)
      · refine xx_aload_nP (pc := 121) dX11_act_121 1 rfl rfl ?_
        refine xx_getD (pc := 122) dX11_act_122 sh_0 fX11_351_11 rfl rfl ?_
        refine xx_eqT (v2 := ic_pt E 35) (rv_hn (t := 36) (by first | rw [zk_] | rw [zb_]) (by omega)) ?_
        refine xx_iload_n (pc := 125) dX11_act_125 4 rfl rfl ?_
        refine xx_callU0 (pc := 126) (st := []) sh_35 (cC_roundsC_4 (w := w42) (W := W) (x := x) h0 hA) kX1_rounds uX11_367_1 dX11_act_126 rfl rfl (Nat.le_of_ble_eq_true rfl) ⟨Nat.le_of_ble_eq_true rfl, Nat.le_of_ble_eq_true rfl⟩ ⟨Nat.zero_le _, Nat.zero_le _⟩ (ic_ki (fun v_ h_ qw49 => ?_))
        obtain ⟨x_, q_⟩ := qw49
        obtain rfl : v_ = nI (mo_mi (mo_rr 0 (mo_D W) x) 5) := by rw [x_]
        rw [← row_4 hA.2.1.1] at q_
        obtain ⟨w49, rfl, f_w49, hA_w49⟩ := q_
        have g_w49 : ∀ a, a ≠ 35 → a ≠ 36 → w49 a = w42 a := fun a h1 h2 => (f_w49 a h1 h2).trans rfl
        have s_w49 : ∀ j, j ≠ 36 → j ≠ 40 → (mo_row W) 114 j = W 114 j := fun j h1 h2 => (mo_row_f _ h1 h2).trans rfl
        have z_w49 : (mo_row W) 114 40 = mo_P W := (mo_row_40 _).trans (mo_P_e (V := W) (W := W) (fun _ _ _ => rfl))
        have a0_w49 : w49 35 0 = W 114 38 := hA_w49.1.1.trans (s_w49 38 (by omega) (by omega))
        have a1_w49 : w49 35 1 = W 114 39 := hA_w49.1.2.1.trans (s_w49 39 (by omega) (by omega))
        refine xx_istore (L' := [(5, .int (nI (mo_mi (mo_rr 0 (mo_D W) x) 5))), (4, .int (nI (B i))), (0, ic_pt E 0), (1, .int (nI i)), (2, .int (nI q)), (3, .int (nI x))]) (pc := 129) dX11_act_129 (Nat.le_of_ble_eq_true rfl) rfl ?_
        refine xx_goto (pc := 131) 144 dX11_act_131 rfl ?_
        refine xx_aload_nP (pc := 144) dX11_act_144 2 rfl rfl ?_
        refine xx_getD (pc := 145) dX11_act_145 sh_0 fX11_351_11 rfl rfl ?_
        refine xx_eqT (v2 := ic_pt E 35) (rv_hn (t := 36) (by first | rw [zk_] | (rw [g_w49 0 (by omega) (by omega), zb_]) | rw [zb_]) (by omega)) ?_
        refine xx_getN (pc := 148) dX11_act_148 sh_35 fX11_373_1 rfl ?_
        refine xx_eqI (y := nI (mo_P W)) (by rw [hA_w49.1.2.2.2, z_w49]) ?_
        refine xx_if_eqN (pc := 151) 159 dX11_act_151 rfl (by omega) (fun c50 => ?_) (fun c50 => ?_)
        · refine xx_iload (pc := 159) dX11_act_159 0 rfl ?_
          exact xx_iret (pc := 161) dX11_act_161 rfl (rfl) (Nat.le_refl _) (Nat.le_refl _) (ic_ri ⟨by rw [if_pos hP_, ← hW, (show q = 2 by omega), aw_2, z_w49, if_pos (show mo_P W = 0 by omega), av_2, rov_4 b_.1 h0], w49, rfl, ⟨fun a h1 h2 => by rw [g_w49 a (by omega) (by omega), fb_ a (by omega) (by omega)]; exact y0_.1 a h1, fun j h1 => by rw [g_w49 0 (by omega) (by omega), fb_ 0 (by omega) (by omega)]; exact y0_.2 j h1⟩, by rw [if_pos hP_, ← hW, (show q = 2 by omega), aw_2]; exact Or.inr ⟨4, by omega, by omega, by rw [g_w49 0 (by omega) (by omega), zb_], hA_w49⟩⟩)
        · refine xx_bipush (pc := 154) dX11_act_154 cc_bipush_m15 ?_
          refine xx_goto (pc := 156) 161 dX11_act_156 rfl ?_
          exact xx_iret (pc := 161) dX11_act_161 rfl (rfl) (Nat.le_refl _) (Nat.le_refl _) (ic_ri ⟨by rw [if_pos hP_, ← hW, (show q = 2 by omega), aw_2, z_w49,  if_neg (by omega)], w49, rfl, ⟨fun a h1 h2 => by rw [g_w49 a (by omega) (by omega), fb_ a (by omega) (by omega)]; exact y0_.1 a h1, fun j h1 => by rw [g_w49 0 (by omega) (by omega), fb_ 0 (by omega) (by omega)]; exact y0_.2 j h1⟩, by rw [if_pos hP_, ← hW, (show q = 2 by omega), aw_2]; exact Or.inr ⟨4, by omega, by omega, by rw [g_w49 0 (by omega) (by omega), zb_], hA_w49⟩⟩)
    · refine xx_aload_nP (pc := 103) dX11_act_103 1 rfl rfl ?_
      refine xx_getD (pc := 104) dX11_act_104 sh_0 fX11_351_11 rfl rfl ?_
      refine xx_eqT (v2 := ic_pt E 35) (rv_hn (t := 36) (by first | rw [zk_] | rw [zb_]) (by omega)) ?_
      refine xx_iload_n (pc := 107) dX11_act_107 4 rfl rfl ?_
      refine xx_callU0 (pc := 108) (st := []) sh_35 (cC_readsP_4 (w := w42) (W := W) (x := x) hA) kX9_reads uX11_364_1 dX11_act_108 rfl rfl (Nat.le_of_ble_eq_true rfl) ⟨Nat.le_of_ble_eq_true rfl, Nat.le_of_ble_eq_true rfl⟩ ⟨Nat.zero_le _, Nat.zero_le _⟩ (ic_ki (fun v_ h_ qw51 => ?_))
      obtain ⟨x_, q_⟩ := qw51
      obtain rfl : v_ = nI ((mo_sp (W 114 38) x) + 4 * (W 114 39)) := by rw [x_]
      obtain ⟨w51, rfl, f_w51, hA_w51⟩ := q_
      have g_w51 : ∀ a, a ≠ 35 → a ≠ 36 → w51 a = w42 a := fun a h1 h2 => (f_w51 a h1 h2).trans rfl
      have s_w51 : ∀ j, j ≠ 36 → j ≠ 40 → (mo_cl W [11, 10]) 114 j = W 114 j := fun j h1 h2 => (mo_cl_f _ _ h1).trans rfl
      have z_w51 : (mo_cl W [11, 10]) 114 40 = W 114 40 := (mo_cl_f _ _ (by omega)).trans rfl
      have a0_w51 : w51 35 0 = W 114 38 := hA_w51.1.1.trans (s_w51 38 (by omega) (by omega))
      have a1_w51 : w51 35 1 = W 114 39 := hA_w51.1.2.1.trans (s_w51 39 (by omega) (by omega))
      refine xx_istore (L' := [(5, .int (nI ((mo_sp (W 114 38) x) + 4 * (W 114 39)))), (4, .int (nI (B i))), (0, ic_pt E 0), (1, .int (nI i)), (2, .int (nI q)), (3, .int (nI x))]) (pc := 111) dX11_act_111 (Nat.le_of_ble_eq_true rfl) rfl ?_
      refine xx_goto (pc := 113) 144 dX11_act_113 rfl ?_
      refine xx_aload_nP (pc := 144) dX11_act_144 2 rfl rfl ?_
      refine xx_getD (pc := 145) dX11_act_145 sh_0 fX11_351_11 rfl rfl ?_
      refine xx_eqT (v2 := ic_pt E 35) (rv_hn (t := 36) (by first | rw [zk_] | (rw [g_w51 0 (by omega) (by omega), zb_]) | rw [zb_]) (by omega)) ?_
      refine xx_getN (pc := 148) dX11_act_148 sh_35 fX11_373_1 rfl ?_
      refine xx_eqI (y := nI (0)) (by rw [hA_w51.1.2.2.2, z_w51, h0]) ?_
      refine xx_if_eqN (pc := 151) 159 dX11_act_151 rfl (by omega) (fun c52 => ?_) (fun c52 => by exfalso; omega)
      refine xx_iload (pc := 159) dX11_act_159 0 rfl ?_
      exact xx_iret (pc := 161) dX11_act_161 rfl (rfl) (Nat.le_refl _) (Nat.le_refl _) (ic_ri ⟨by rw [if_pos hP_, ← hW, (show q = 1 by omega), aw_1 (l := [11, 10]) h0 b_.1 rfl, z_w51, if_pos h0, av_1 b_.1]; rfl, w51, rfl, ⟨fun a h1 h2 => by rw [g_w51 a (by omega) (by omega), fb_ a (by omega) (by omega)]; exact y0_.1 a h1, fun j h1 => by rw [g_w51 0 (by omega) (by omega), fb_ 0 (by omega) (by omega)]; exact y0_.2 j h1⟩, by rw [if_pos hP_, ← hW, (show q = 1 by omega), aw_1 (l := [11, 10]) h0 b_.1 rfl]; exact Or.inr ⟨4, by omega, by omega, by rw [g_w51 0 (by omega) (by omega), zb_], hA_w51⟩⟩)
  · refine xx_aload_nP (pc := 85) dX11_act_85 1 rfl rfl ?_
    refine xx_getD (pc := 86) dX11_act_86 sh_0 fX11_351_11 rfl rfl ?_
    refine xx_eqT (v2 := ic_pt E 35) (rv_hn (t := 36) (by first | rw [zk_] | rw [zb_]) (by omega)) ?_
    refine xx_iload_n (pc := 89) dX11_act_89 4 rfl rfl ?_
    refine xx_callU0 (pc := 90) (st := []) sh_35 (cC_standsP_4 (w := w42) (W := W) (x := x) hA) kX9_stands uX11_361_1 dX11_act_90 rfl rfl (Nat.le_of_ble_eq_true rfl) ⟨Nat.le_of_ble_eq_true rfl, Nat.le_of_ble_eq_true rfl⟩ ⟨Nat.zero_le _, Nat.zero_le _⟩ (ic_ki (fun v_ h_ qw53 => ?_))
    obtain ⟨x_, q_⟩ := qw53
    obtain rfl : v_ = nI (mo_sp (W 114 38) x) := by rw [x_]
    obtain ⟨w53, rfl, f_w53, hA_w53⟩ := q_
    have g_w53 : ∀ a, a ≠ 35 → a ≠ 36 → w53 a = w42 a := fun a h1 h2 => (f_w53 a h1 h2).trans rfl
    have s_w53 : ∀ j, j ≠ 36 → j ≠ 40 → (mo_cl W [10]) 114 j = W 114 j := fun j h1 h2 => (mo_cl_f _ _ h1).trans rfl
    have z_w53 : (mo_cl W [10]) 114 40 = W 114 40 := (mo_cl_f _ _ (by omega)).trans rfl
    have a0_w53 : w53 35 0 = W 114 38 := hA_w53.1.1.trans (s_w53 38 (by omega) (by omega))
    have a1_w53 : w53 35 1 = W 114 39 := hA_w53.1.2.1.trans (s_w53 39 (by omega) (by omega))
    refine xx_istore (L' := [(5, .int (nI (mo_sp (W 114 38) x))), (4, .int (nI (B i))), (0, ic_pt E 0), (1, .int (nI i)), (2, .int (nI q)), (3, .int (nI x))]) (pc := 93) dX11_act_93 (Nat.le_of_ble_eq_true rfl) rfl ?_
    refine xx_goto (pc := 95) 144 dX11_act_95 rfl ?_
    refine xx_aload_nP (pc := 144) dX11_act_144 2 rfl rfl ?_
    refine xx_getD (pc := 145) dX11_act_145 sh_0 fX11_351_11 rfl rfl ?_
    refine xx_eqT (v2 := ic_pt E 35) (rv_hn (t := 36) (by first | rw [zk_] | (rw [g_w53 0 (by omega) (by omega), zb_]) | rw [zb_]) (by omega)) ?_
    refine xx_getN (pc := 148) dX11_act_148 sh_35 fX11_373_1 rfl ?_
    refine xx_eqI (y := nI (0)) (by rw [hA_w53.1.2.2.2, z_w53, h0]) ?_
    refine xx_if_eqN (pc := 151) 159 dX11_act_151 rfl (by omega) (fun c54 => ?_) (fun c54 => by exfalso; omega)
    refine xx_iload (pc := 159) dX11_act_159 0 rfl ?_
    exact xx_iret (pc := 161) dX11_act_161 rfl (rfl) (Nat.le_refl _) (Nat.le_refl _) (ic_ri ⟨by rw [if_pos hP_, ← hW, (show q = 0 by omega), aw_0 (l := [10]) h0 b_.1 rfl, z_w53, if_pos h0, av_0 b_.1]; rfl, w53, rfl, ⟨fun a h1 h2 => by rw [g_w53 a (by omega) (by omega), fb_ a (by omega) (by omega)]; exact y0_.1 a h1, fun j h1 => by rw [g_w53 0 (by omega) (by omega), fb_ 0 (by omega) (by omega)]; exact y0_.2 j h1⟩, by rw [if_pos hP_, ← hW, (show q = 0 by omega), aw_0 (l := [10]) h0 b_.1 rfl]; exact Or.inr ⟨4, by omega, by omega, by rw [g_w53 0 (by omega) (by omega), zb_], hA_w53⟩⟩)

set_option maxHeartbeats 4000000 in
set_option maxRecDepth 100000 in
theorem act_5 {l : Launch} {E : ic_E} {w w1 W : ic_w} {i : Nat} (hi_ : i < 2 ^ 32) {q : Nat} (hq_ : q < 2 ^ 32) {x : Nat} (hx_ : x < 2 ^ 32) {s : Nat → Nat} (hN : Cn w s) (hI : In s) {A B : Nat → Nat} (hP_ : i ≤ 3 ∧ q ≤ 3 ∧ A i = 1 ∧ B i < s 0) (hW : W = mo_acc w s B i) (hV_ : W 114 36 = 0 ∧ W 114 40 = 0 ∧ W 114 37 = it s (B i) 0 ∧ W 114 38 = B i ∧ W 114 39 = it s (B i) 3) (ek_ : w1 43 (B i) = it s (B i) 0) (ek : it s (B i) 0 = 5) (z0_ : (∀ a, a ≠ 0 → w1 a = w a) ∧ ∀ j, j ≠ 16 → w1 0 j = w 0 j) : xx l E (ic_fr E mX11_act 9 0 0 False SHs (ic_qi (fun v_ h_ => v_ = nI (if i ≤ 3 ∧ q ≤ 3 ∧ A i = 1 ∧ B i < s 0 then (if mo_aw (mo_acc w s B i) q 114 40 = 0 then mo_av (mo_acc w s B i) q x else 4294967281) else 0) ∧ ∃ w2, h_ = hn w2 ∧ ((∀ a, a ≠ 0 → (a < 27 ∨ 38 < a) → w2 a = w a) ∧ ∀ j, j ≠ 16 → w2 0 j = w 0 j) ∧ Act w2 (if i ≤ 3 ∧ q ≤ 3 ∧ A i = 1 ∧ B i < s 0 then mo_aw (mo_acc w s B i) q else wu w 114 36 0)))) (0, 0) 40 [(4, .int (nI (B i))), (0, ic_pt E 0), (1, .int (nI i)), (2, .int (nI q)), (3, .int (nI x))] [] SHs (hn w1) := by
  have h0 := hV_.2.1
  have n0 := hI.n
  have bi_ : B i < 2 ^ 31 := by omega
  have hPl_ := mo_P_le W
  have k5_ := hI.i (o := B i) (by omega)
  refine xx_aload_nP (pc := 40) dX11_act_40 1 rfl rfl ?_
  refine xx_aload_nP (pc := 41) dX11_act_41 1 rfl rfl ?_
  refine xx_getR (pc := 42) 39 dX11_act_42 sh_0 fX11_74_11 rfl rfl (by decide) ?_
  refine xx_getR (pc := 45) 26 dX11_act_45 sh_39 fX11_355_5 rfl rfl (by decide) ?_
  refine xx_aload_nP (pc := 48) dX11_act_48 1 rfl rfl ?_
  refine xx_getR (pc := 49) 39 dX11_act_49 sh_0 fX11_74_11 rfl rfl (by decide) ?_
  refine xx_getR (pc := 52) 43 dX11_act_52 sh_39 fX11_115_5 rfl rfl (by decide) ?_
  refine xx_iload (pc := 55) dX11_act_55 0 rfl ?_
  refine xx_ialdN (pc := 57) dX11_act_57 sh_43 (by omega) (by decide) ?_
  refine xx_eqI (y := nI (5)) (by rw [ek_, ek]) ?_
  refine xx_aald (pc := 58) 5 37 dX11_act_58 sh_26 (by decide) rfl (by omega) (by decide) (rfl) ?_
  refine xx_putDN 38 (pc := 59) dX11_act_59 sh_0 fX11_351_11 rfl rfl rfl (rfl) (by omega) rfl rfl ?_
  refine xx_nw (fun w41 ew41 => ?_)
  have zk_ : w41 0 16 = 38 := by rw [ew41, wu_s]
  have y0_ : (∀ a, a ≠ 0 → w41 a = w a) ∧ ∀ j, j ≠ 16 → w41 0 j = w 0 j := ⟨fun a h => by rw [ew41, wu_row _ _ _ h]; exact z0_.1 a h, fun j h => by rw [ew41, wu_k _ _ _ _ h]; exact z0_.2 j h⟩
  refine xx_aload_nP (pc := 62) dX11_act_62 1 rfl rfl ?_
  refine xx_getD (pc := 63) dX11_act_63 sh_0 fX11_351_11 rfl rfl ?_
  refine xx_eqT (v2 := ic_pt E 37) (rv_hn (t := 38) (by first | rw [zk_] | rw [zb_]) (by omega)) ?_
  refine xx_iload (pc := 66) dX11_act_66 0 rfl ?_
  refine xx_aload_nP (pc := 68) dX11_act_68 1 rfl rfl ?_
  refine xx_getR (pc := 69) 39 dX11_act_69 sh_0 fX11_74_11 rfl rfl (by decide) ?_
  refine xx_getR (pc := 72) 45 dX11_act_72 sh_39 fX11_124_5 rfl rfl (by decide) ?_
  refine xx_iload (pc := 75) dX11_act_75 0 rfl ?_
  refine xx_ialdN (pc := 77) dX11_act_77 sh_45 (by omega) (by decide) ?_
  refine xx_eqI (y := nI (it s (B i) 3)) (by rw [y0_.1 45 (by omega), hN.hm (by omega)]) ?_
  refine xx_callU0 (pc := 78) (st := []) sh_37 (cC_becomes_5 (w := w41) (V := W) (n := B i) (a := it s (B i) 3) (by omega) (by omega) ⟨hV_.1, hV_.2.1, hV_.2.2.1.trans ek, hV_.2.2.2.1, hV_.2.2.2.2⟩) kX9_become uX11_359_0 dX11_act_78 rfl rfl (Nat.le_of_ble_eq_true rfl) ⟨Nat.le_of_ble_eq_true rfl, Nat.le_of_ble_eq_true rfl⟩ ⟨Nat.zero_le _, Nat.zero_le _⟩ (ic_kv (fun h_ qw42 => ?_))
  obtain ⟨w42, rfl, fb_, hA⟩ := qw42
  have b_ := hA.2.1
  have a0_ : w42 37 0 = W 114 38 := hA.1.1
  have a1_ : w42 37 1 = W 114 39 := hA.1.2.1
  have zb_ : w42 0 16 = 38 := by rw [fb_ 0 (by omega) (by omega), zk_]
  refine xx_iload_n (pc := 81) dX11_act_81 3 rfl rfl ?_
  refine xx_if_neN (pc := 82) 98 dX11_act_82 rfl (by omega) (fun c44 => ?_) (fun c44 => ?_)
  · refine xx_iload_n (pc := 98) dX11_act_98 3 rfl rfl ?_
    refine xx_iconst (pc := 99) dX11_act_99 cc_iconst_1 ?_
    refine xx_icmp_neN (pc := 100) 116 dX11_act_100 rfl (by omega) (by omega) (fun c45 => ?_) (fun c45 => ?_)
    · refine xx_iload_n (pc := 116) dX11_act_116 3 rfl rfl ?_
      refine xx_iconst (pc := 117) dX11_act_117 cc_iconst_2 ?_
      refine xx_icmp_neN (pc := 118) 134 dX11_act_118 rfl (by omega) (by omega) (fun c46 => ?_) (fun c46 => ?_)
      · refine xx_aload_nP (pc := 134) dX11_act_134 1 rfl rfl ?_
        refine xx_getD (pc := 135) dX11_act_135 sh_0 fX11_351_11 rfl rfl ?_
        refine xx_eqT (v2 := ic_pt E 37) (rv_hn (t := 38) (by first | rw [zk_] | rw [zb_]) (by omega)) ?_
        refine xx_iload_n (pc := 138) dX11_act_138 4 rfl rfl ?_
        refine xx_callU0 (pc := 139) (st := []) sh_37 (cC_risesP_5 (w := w42) (W := W) (x := x) h0 hA) kX9_rises uX11_370_0 dX11_act_139 rfl rfl (Nat.le_of_ble_eq_true rfl) ⟨Nat.le_of_ble_eq_true rfl, Nat.le_of_ble_eq_true rfl⟩ ⟨Nat.zero_le _, Nat.zero_le _⟩ (ic_ki (fun v_ h_ qw47 => ?_))
        obtain ⟨x_, q_⟩ := qw47
        obtain rfl : v_ = nI (mo_mi (mo_mi 0 ((mo_sp (W 114 38) x) + 4 * (W 114 39))) (mo_mi (mo_rr 0 (mo_D W) x) 5 ^^^ mo_sp (W 114 38) (W 114 38))) := by rw [x_]
        obtain ⟨w47, rfl, f_w47, hA_w47⟩ := q_
        have g_w47 : ∀ a, a ≠ 37 → a ≠ 38 → w47 a = w42 a := fun a h1 h2 => (f_w47 a h1 h2).trans rfl
        have s_w47 : ∀ j, j ≠ 36 → j ≠ 40 → (mo_row (mo_rpw W)) 114 j = W 114 j := fun j h1 h2 => ((mo_row_f _ h1 h2).trans (mo_rpw_f _ h1)).trans rfl
        have z_w47 : (mo_row (mo_rpw W)) 114 40 = mo_P W := (mo_row_40 _).trans ((mo_P_rpw _).trans (mo_P_e (V := W) (W := W) (fun _ _ _ => rfl)))
        have a0_w47 : w47 37 0 = W 114 38 := hA_w47.1.1.trans (s_w47 38 (by omega) (by omega))
        have a1_w47 : w47 37 1 = W 114 39 := hA_w47.1.2.1.trans (s_w47 39 (by omega) (by omega))
        refine xx_istore (L' := [(5, .int (nI (mo_mi (mo_mi 0 ((mo_sp (W 114 38) x) + 4 * (W 114 39))) (mo_mi (mo_rr 0 (mo_D W) x) 5 ^^^ mo_sp (W 114 38) (W 114 38))))), (4, .int (nI (B i))), (0, ic_pt E 0), (1, .int (nI i)), (2, .int (nI q)), (3, .int (nI x))]) (pc := 142) dX11_act_142 (Nat.le_of_ble_eq_true rfl) rfl ?_
        refine xx_aload_nP (pc := 144) dX11_act_144 2 rfl rfl ?_
        refine xx_getD (pc := 145) dX11_act_145 sh_0 fX11_351_11 rfl rfl ?_
        refine xx_eqT (v2 := ic_pt E 37) (rv_hn (t := 38) (by first | rw [zk_] | (rw [g_w47 0 (by omega) (by omega), zb_]) | rw [zb_]) (by omega)) ?_
        refine xx_getN (pc := 148) dX11_act_148 sh_37 fX11_373_0 rfl ?_
        refine xx_eqI (y := nI (mo_P W)) (by rw [hA_w47.1.2.2.2, z_w47]) ?_
        refine xx_if_eqN (pc := 151) 159 dX11_act_151 rfl (by omega) (fun c48 => ?_) (fun c48 => ?_)
        · refine xx_iload (pc := 159) dX11_act_159 0 rfl ?_
          exact xx_iret (pc := 161) dX11_act_161 rfl (rfl) (Nat.le_refl _) (Nat.le_refl _) (ic_ri ⟨by rw [if_pos hP_, ← hW, (show q = 3 by omega), aw_3n b_.1 (by omega), z_w47, if_pos (show mo_P W = 0 by omega), av_3 b_.1 (by omega), rov_5 (by rw [mo_rpw_f _ (by omega), b_.1]) (by rw [mo_rpw_f _ (by omega), h0]) (by rw [mo_P_rpw]; omega), D_rpw, mo_rpw_f _ (by omega)]; rfl, w47, rfl, ⟨fun a h1 h2 => by rw [g_w47 a (by omega) (by omega), fb_ a (by omega) (by omega)]; exact y0_.1 a h1, fun j h1 => by rw [g_w47 0 (by omega) (by omega), fb_ 0 (by omega) (by omega)]; exact y0_.2 j h1⟩, by rw [if_pos hP_, ← hW, (show q = 3 by omega), aw_3n b_.1 (by omega)]; exact Or.inr ⟨5, by omega, by omega, by rw [g_w47 0 (by omega) (by omega), zb_], hA_w47⟩⟩)
        · refine xx_bipush (pc := 154) dX11_act_154 cc_bipush_m15 ?_
          refine xx_goto (pc := 156) 161 dX11_act_156 rfl ?_
          exact xx_iret (pc := 161) dX11_act_161 rfl (rfl) (Nat.le_refl _) (Nat.le_refl _) (ic_ri ⟨by rw [if_pos hP_, ← hW, (show q = 3 by omega), aw_3n b_.1 (by omega), z_w47,  if_neg (by omega)], w47, rfl, ⟨fun a h1 h2 => by rw [g_w47 a (by omega) (by omega), fb_ a (by omega) (by omega)]; exact y0_.1 a h1, fun j h1 => by rw [g_w47 0 (by omega) (by omega), fb_ 0 (by omega) (by omega)]; exact y0_.2 j h1⟩, by rw [if_pos hP_, ← hW, (show q = 3 by omega), aw_3n b_.1 (by omega)]; exact Or.inr ⟨5, by omega, by omega, by rw [g_w47 0 (by omega) (by omega), zb_], hA_w47⟩⟩)
      · refine xx_aload_nP (pc := 121) dX11_act_121 1 rfl rfl ?_
        refine xx_getD (pc := 122) dX11_act_122 sh_0 fX11_351_11 rfl rfl ?_
        refine xx_eqT (v2 := ic_pt E 37) (rv_hn (t := 38) (by first | rw [zk_] | rw [zb_]) (by omega)) ?_
        refine xx_iload_n (pc := 125) dX11_act_125 4 rfl rfl ?_
        refine xx_callU0 (pc := 126) (st := []) sh_37 (cC_rounds5_5 (w := w42) (W := W) (x := x) h0 hA) kX0_rounds uX11_367_0 dX11_act_126 rfl rfl (Nat.le_of_ble_eq_true rfl) ⟨Nat.le_of_ble_eq_true rfl, Nat.le_of_ble_eq_true rfl⟩ ⟨Nat.zero_le _, Nat.zero_le _⟩ (ic_ki (fun v_ h_ qw49 => ?_))
        obtain ⟨x_, q_⟩ := qw49
        obtain rfl : v_ = nI (mo_mi (mo_rr 0 (mo_D W) x) 5 ^^^ mo_sp (W 114 38) (W 114 38)) := by rw [x_]
        obtain ⟨w49, rfl, f_w49, hA_w49⟩ := q_
        have g_w49 : ∀ a, a ≠ 37 → a ≠ 38 → w49 a = w42 a := fun a h1 h2 => (f_w49 a h1 h2).trans rfl
        have s_w49 : ∀ j, j ≠ 36 → j ≠ 40 → (mo_row W) 114 j = W 114 j := fun j h1 h2 => (mo_row_f _ h1 h2).trans rfl
        have z_w49 : (mo_row W) 114 40 = mo_P W := (mo_row_40 _).trans (mo_P_e (V := W) (W := W) (fun _ _ _ => rfl))
        have a0_w49 : w49 37 0 = W 114 38 := hA_w49.1.1.trans (s_w49 38 (by omega) (by omega))
        have a1_w49 : w49 37 1 = W 114 39 := hA_w49.1.2.1.trans (s_w49 39 (by omega) (by omega))
        refine xx_istore (L' := [(5, .int (nI (mo_mi (mo_rr 0 (mo_D W) x) 5 ^^^ mo_sp (W 114 38) (W 114 38)))), (4, .int (nI (B i))), (0, ic_pt E 0), (1, .int (nI i)), (2, .int (nI q)), (3, .int (nI x))]) (pc := 129) dX11_act_129 (Nat.le_of_ble_eq_true rfl) rfl ?_
        refine xx_goto (pc := 131) 144 dX11_act_131 rfl ?_
        refine xx_aload_nP (pc := 144) dX11_act_144 2 rfl rfl ?_
        refine xx_getD (pc := 145) dX11_act_145 sh_0 fX11_351_11 rfl rfl ?_
        refine xx_eqT (v2 := ic_pt E 37) (rv_hn (t := 38) (by first | rw [zk_] | (rw [g_w49 0 (by omega) (by omega), zb_]) | rw [zb_]) (by omega)) ?_
        refine xx_getN (pc := 148) dX11_act_148 sh_37 fX11_373_0 rfl ?_
        refine xx_eqI (y := nI (mo_P W)) (by rw [hA_w49.1.2.2.2, z_w49]) ?_
        refine xx_if_eqN (pc := 151) 159 dX11_act_151 rfl (by omega) (fun c50 => ?_) (fun c50 => ?_)
        · refine xx_iload (pc := 159) dX11_act_159 0 rfl ?_
          exact xx_iret (pc := 161) dX11_act_161 rfl (rfl) (Nat.le_refl _) (Nat.le_refl _) (ic_ri ⟨by rw [if_pos hP_, ← hW, (show q = 2 by omega), aw_2, z_w49, if_pos (show mo_P W = 0 by omega), av_2, rov_5 b_.1 h0 (by omega)], w49, rfl, ⟨fun a h1 h2 => by rw [g_w49 a (by omega) (by omega), fb_ a (by omega) (by omega)]; exact y0_.1 a h1, fun j h1 => by rw [g_w49 0 (by omega) (by omega), fb_ 0 (by omega) (by omega)]; exact y0_.2 j h1⟩, by rw [if_pos hP_, ← hW, (show q = 2 by omega), aw_2]; exact Or.inr ⟨5, by omega, by omega, by rw [g_w49 0 (by omega) (by omega), zb_], hA_w49⟩⟩)
        · refine xx_bipush (pc := 154) dX11_act_154 cc_bipush_m15 ?_
          refine xx_goto (pc := 156) 161 dX11_act_156 rfl ?_
          exact xx_iret (pc := 161) dX11_act_161 rfl (rfl) (Nat.le_refl _) (Nat.le_refl _) (ic_ri ⟨by rw [if_pos hP_, ← hW, (show q = 2 by omega), aw_2, z_w49,  if_neg (by omega)], w49, rfl, ⟨fun a h1 h2 => by rw [g_w49 a (by omega) (by omega), fb_ a (by omega) (by omega)]; exact y0_.1 a h1, fun j h1 => by rw [g_w49 0 (by omega) (by omega), fb_ 0 (by omega) (by omega)]; exact y0_.2 j h1⟩, by rw [if_pos hP_, ← hW, (show q = 2 by omega), aw_2]; exact Or.inr ⟨5, by omega, by omega, by rw [g_w49 0 (by omega) (by omega), zb_], hA_w49⟩⟩)
    · refine xx_aload_nP (pc := 103) dX11_act_103 1 rfl rfl ?_
      refine xx_getD (pc := 104) dX11_act_104 sh_0 fX11_351_11 rfl rfl ?_
      refine xx_eqT (v2 := ic_pt E 37) (rv_hn (t := 38) (by first | rw [zk_] | rw [zb_]) (by omega)) ?_
      refine xx_iload_n (pc := 107) dX11_act_107 4 rfl rfl ?_
      refine xx_callU0 (pc := 108) (st := []) sh_37 (cC_reads5_5 (w := w42) (W := W) (x := x) hA) kX0_reads uX11_364_0 dX11_act_108 rfl rfl (Nat.le_of_ble_eq_true rfl) ⟨Nat.le_of_ble_eq_true rfl, Nat.le_of_ble_eq_true rfl⟩ ⟨Nat.zero_le _, Nat.zero_le _⟩ (ic_ki (fun v_ h_ qw51 => ?_))
      obtain ⟨x_, q_⟩ := qw51
      obtain rfl : v_ = nI (mo_mi 0 ((mo_sp (W 114 38) x) + 4 * (W 114 39))) := by rw [x_]
      obtain ⟨w51, rfl, f_w51, hA_w51⟩ := q_
      have g_w51 : ∀ a, a ≠ 37 → a ≠ 38 → w51 a = w42 a := fun a h1 h2 => (f_w51 a h1 h2).trans rfl
      have s_w51 : ∀ j, j ≠ 36 → j ≠ 40 → (mo_cl W [60, 11, 10]) 114 j = W 114 j := fun j h1 h2 => (mo_cl_f _ _ h1).trans rfl
      have z_w51 : (mo_cl W [60, 11, 10]) 114 40 = W 114 40 := (mo_cl_f _ _ (by omega)).trans rfl
      have a0_w51 : w51 37 0 = W 114 38 := hA_w51.1.1.trans (s_w51 38 (by omega) (by omega))
      have a1_w51 : w51 37 1 = W 114 39 := hA_w51.1.2.1.trans (s_w51 39 (by omega) (by omega))
      refine xx_istore (L' := [(5, .int (nI (mo_mi 0 ((mo_sp (W 114 38) x) + 4 * (W 114 39))))), (4, .int (nI (B i))), (0, ic_pt E 0), (1, .int (nI i)), (2, .int (nI q)), (3, .int (nI x))]) (pc := 111) dX11_act_111 (Nat.le_of_ble_eq_true rfl) rfl ?_
      refine xx_goto (pc := 113) 144 dX11_act_113 rfl ?_
      refine xx_aload_nP (pc := 144) dX11_act_144 2 rfl rfl ?_
      refine xx_getD (pc := 145) dX11_act_145 sh_0 fX11_351_11 rfl rfl ?_
      refine xx_eqT (v2 := ic_pt E 37) (rv_hn (t := 38) (by first | rw [zk_] | (rw [g_w51 0 (by omega) (by omega), zb_]) | rw [zb_]) (by omega)) ?_
      refine xx_getN (pc := 148) dX11_act_148 sh_37 fX11_373_0 rfl ?_
      refine xx_eqI (y := nI (0)) (by rw [hA_w51.1.2.2.2, z_w51, h0]) ?_
      refine xx_if_eqN (pc := 151) 159 dX11_act_151 rfl (by omega) (fun c52 => ?_) (fun c52 => by exfalso; omega)
      refine xx_iload (pc := 159) dX11_act_159 0 rfl ?_
      exact xx_iret (pc := 161) dX11_act_161 rfl (rfl) (Nat.le_refl _) (Nat.le_refl _) (ic_ri ⟨by rw [if_pos hP_, ← hW, (show q = 1 by omega), aw_1 (l := [60, 11, 10]) h0 b_.1 rfl, z_w51, if_pos h0, av_1 b_.1]; rfl, w51, rfl, ⟨fun a h1 h2 => by rw [g_w51 a (by omega) (by omega), fb_ a (by omega) (by omega)]; exact y0_.1 a h1, fun j h1 => by rw [g_w51 0 (by omega) (by omega), fb_ 0 (by omega) (by omega)]; exact y0_.2 j h1⟩, by rw [if_pos hP_, ← hW, (show q = 1 by omega), aw_1 (l := [60, 11, 10]) h0 b_.1 rfl]; exact Or.inr ⟨5, by omega, by omega, by rw [g_w51 0 (by omega) (by omega), zb_], hA_w51⟩⟩)
  · refine xx_aload_nP (pc := 85) dX11_act_85 1 rfl rfl ?_
    refine xx_getD (pc := 86) dX11_act_86 sh_0 fX11_351_11 rfl rfl ?_
    refine xx_eqT (v2 := ic_pt E 37) (rv_hn (t := 38) (by first | rw [zk_] | rw [zb_]) (by omega)) ?_
    refine xx_iload_n (pc := 89) dX11_act_89 4 rfl rfl ?_
    refine xx_callU0 (pc := 90) (st := []) sh_37 (cC_standsP_5 (w := w42) (W := W) (x := x) hA) kX9_stands uX11_361_0 dX11_act_90 rfl rfl (Nat.le_of_ble_eq_true rfl) ⟨Nat.le_of_ble_eq_true rfl, Nat.le_of_ble_eq_true rfl⟩ ⟨Nat.zero_le _, Nat.zero_le _⟩ (ic_ki (fun v_ h_ qw53 => ?_))
    obtain ⟨x_, q_⟩ := qw53
    obtain rfl : v_ = nI (mo_sp (W 114 38) x) := by rw [x_]
    obtain ⟨w53, rfl, f_w53, hA_w53⟩ := q_
    have g_w53 : ∀ a, a ≠ 37 → a ≠ 38 → w53 a = w42 a := fun a h1 h2 => (f_w53 a h1 h2).trans rfl
    have s_w53 : ∀ j, j ≠ 36 → j ≠ 40 → (mo_cl W [10]) 114 j = W 114 j := fun j h1 h2 => (mo_cl_f _ _ h1).trans rfl
    have z_w53 : (mo_cl W [10]) 114 40 = W 114 40 := (mo_cl_f _ _ (by omega)).trans rfl
    have a0_w53 : w53 37 0 = W 114 38 := hA_w53.1.1.trans (s_w53 38 (by omega) (by omega))
    have a1_w53 : w53 37 1 = W 114 39 := hA_w53.1.2.1.trans (s_w53 39 (by omega) (by omega))
    refine xx_istore (L' := [(5, .int (nI (mo_sp (W 114 38) x))), (4, .int (nI (B i))), (0, ic_pt E 0), (1, .int (nI i)), (2, .int (nI q)), (3, .int (nI x))]) (pc := 93) dX11_act_93 (Nat.le_of_ble_eq_true rfl) rfl ?_
    refine xx_goto (pc := 95) 144 dX11_act_95 rfl ?_
    refine xx_aload_nP (pc := 144) dX11_act_144 2 rfl rfl ?_
    refine xx_getD (pc := 145) dX11_act_145 sh_0 fX11_351_11 rfl rfl ?_
    refine xx_eqT (v2 := ic_pt E 37) (rv_hn (t := 38) (by first | rw [zk_] | (rw [g_w53 0 (by omega) (by omega), zb_]) | rw [zb_]) (by omega)) ?_
    refine xx_getN (pc := 148) dX11_act_148 sh_37 fX11_373_0 rfl ?_
    refine xx_eqI (y := nI (0)) (by rw [hA_w53.1.2.2.2, z_w53, h0]) ?_
    refine xx_if_eqN (pc := 151) 159 dX11_act_151 rfl (by omega) (fun c54 => ?_) (fun c54 => by exfalso; omega)
    refine xx_iload (pc := 159) dX11_act_159 0 rfl ?_
    exact xx_iret (pc := 161) dX11_act_161 rfl (rfl) (Nat.le_refl _) (Nat.le_refl _) (ic_ri ⟨by rw [if_pos hP_, ← hW, (show q = 0 by omega), aw_0 (l := [10]) h0 b_.1 rfl, z_w53, if_pos h0, av_0 b_.1]; rfl, w53, rfl, ⟨fun a h1 h2 => by rw [g_w53 a (by omega) (by omega), fb_ a (by omega) (by omega)]; exact y0_.1 a h1, fun j h1 => by rw [g_w53 0 (by omega) (by omega), fb_ 0 (by omega) (by omega)]; exact y0_.2 j h1⟩, by rw [if_pos hP_, ← hW, (show q = 0 by omega), aw_0 (l := [10]) h0 b_.1 rfl]; exact Or.inr ⟨5, by omega, by omega, by rw [g_w53 0 (by omega) (by omega), zb_], hA_w53⟩⟩)

set_option maxHeartbeats 4000000 in
set_option maxRecDepth 100000 in
theorem cC_act {l : Launch} {E : ic_E} {w : ic_w} {i : Nat} (hi_ : i < 2 ^ 32) {q : Nat} (hq_ : q < 2 ^ 32) {x : Nat} (hx_ : x < 2 ^ 32) {s : Nat → Nat} (hN : Cn w s) (hI : In s) {A B C : Nat → Nat} (hv : Cv w A B C) : ic_C l E mX11_act 9 0 0 False [ic_pt E 0, .int (nI i), .int (nI q), .int (nI x)] SHs (hn w) SHs (ic_qi (fun v_ h_ => v_ = nI (if i ≤ 3 ∧ q ≤ 3 ∧ A i = 1 ∧ B i < s 0 then (if mo_aw (mo_acc w s B i) q 114 40 = 0 then mo_av (mo_acc w s B i) q x else 4294967281) else 0) ∧ ∃ w2, h_ = hn w2 ∧ ((∀ a, a ≠ 0 → (a < 27 ∨ 38 < a) → w2 a = w a) ∧ ∀ j, j ≠ 16 → w2 0 j = w 0 j) ∧ Act w2 (if i ≤ 3 ∧ q ≤ 3 ∧ A i = 1 ∧ B i < s 0 then mo_aw (mo_acc w s B i) q else wu w 114 36 0))) := by
  refine ic_intro (by decide +kernel) (Nat.le_of_ble_eq_true rfl) ?_
  show xx l E _ _ 0 [(0, ic_pt E 0), (1, .int (nI i)), (2, .int (nI q)), (3, .int (nI x))] _ _ _
  have n1 := hN.n
  have n0 := hI.n
  refine xx_aload_nP (pc := 0) dX11_act_0 0 rfl rfl ?_
  refine xx_null (pc := 1) dX11_act_1 ?_
  refine xx_putDN 0 (pc := 2) dX11_act_2 sh_0 fX11_351_11 rfl rfl rfl (rfl) (by omega) rfl rfl ?_
  refine xx_nw (fun w1 ew1 => ?_)
  have z0_ : (∀ a, a ≠ 0 → w1 a = w a) ∧ ∀ j, j ≠ 16 → w1 0 j = w 0 j := ⟨fun a h => by rw [ew1, wu_row _ _ _ h], fun j h => by rw [ew1, wu_k _ _ _ _ h]⟩
  have hN_w1 : Cn w1 s := hN.of (by rw [z0_.1 _ (by omega)]) (by rw [z0_.1 _ (by omega)]) (by rw [z0_.1 _ (by omega)]) (fun a _ _ _ _ _ _ _ _ => z0_.1 a (by omega))
  have hv_w1 : Cv w1 A B C := hv.of (fun a h1 h2 => z0_.1 a (by omega))
  have hI_w1 := hI
  have zn_ : w1 0 16 = 0 := by rw [ew1, wu_s]
  refine xx_iload_n (pc := 5) dX11_act_5 1 rfl rfl ?_
  refine xx_callS0 (pc := 6) (st := []) (cC_isShelf (w := w1) (v := i) (by omega)) kX11_isShelf sX11_339 dX11_act_6 rfl rfl (Nat.le_of_ble_eq_true rfl) ⟨Nat.le_of_ble_eq_true rfl, Nat.le_of_ble_eq_true rfl⟩ ⟨Nat.zero_le _, Nat.zero_le _⟩ (ic_ke ?_)
  refine xx_if_eqB (pc := 9) 29 dX11_act_9 rfl (fun c2 => ?_) (fun c2 => ?_)
  · refine xx_bipush (pc := 29) dX11_act_29 cc_bipush_m3 ?_
    refine xx_istore (L' := [(4, .int (nI 4294967293)), (0, ic_pt E 0), (1, .int (nI i)), (2, .int (nI q)), (3, .int (nI x))]) (pc := 31) dX11_act_31 (Nat.le_of_ble_eq_true rfl) rfl ?_
    refine xx_iload (pc := 33) dX11_act_33 0 rfl ?_
    refine xx_if_geS (pc := 35) 40 dX11_act_35 rfl (by omega) (fun c3 => by exfalso; omega) (fun c3 => ?_)
    refine xx_iconst (pc := 38) dX11_act_38 cc_iconst_0 ?_
    exact xx_iret (pc := 39) dX11_act_39 rfl (rfl) (Nat.le_refl _) (Nat.le_refl _) (ic_ri ⟨by first | contradiction | rw [if_neg (by omega)], w1, rfl, ⟨fun a h1 _ => z0_.1 a h1, z0_.2⟩, by first | contradiction | (rw [if_neg (by omega)]); exact Or.inl ⟨zn_, wu_s _ _ _ _⟩⟩)
  · refine xx_iload_n (pc := 12) dX11_act_12 2 rfl rfl ?_
    refine xx_iconst (pc := 13) dX11_act_13 cc_iconst_0 ?_
    refine xx_iconst (pc := 14) dX11_act_14 cc_iconst_3 ?_
    refine xx_callS0 (pc := 15) (st := []) (cC_within (w := w1) (v := q) (lo := 0) (hi := 3) (by omega) (by omega) (by omega)) kX11_within sX11_94 dX11_act_15 rfl rfl (Nat.le_of_ble_eq_true rfl) ⟨Nat.le_of_ble_eq_true rfl, Nat.le_of_ble_eq_true rfl⟩ ⟨Nat.zero_le _, Nat.zero_le _⟩ (ic_ke ?_)
    refine xx_if_eqB (pc := 18) 29 dX11_act_18 rfl (fun c4 => ?_) (fun c4 => ?_)
    · refine xx_bipush (pc := 29) dX11_act_29 cc_bipush_m3 ?_
      refine xx_istore (L' := [(4, .int (nI 4294967293)), (0, ic_pt E 0), (1, .int (nI i)), (2, .int (nI q)), (3, .int (nI x))]) (pc := 31) dX11_act_31 (Nat.le_of_ble_eq_true rfl) rfl ?_
      refine xx_iload (pc := 33) dX11_act_33 0 rfl ?_
      refine xx_if_geS (pc := 35) 40 dX11_act_35 rfl (by omega) (fun c5 => by exfalso; omega) (fun c5 => ?_)
      refine xx_iconst (pc := 38) dX11_act_38 cc_iconst_0 ?_
      exact xx_iret (pc := 39) dX11_act_39 rfl (rfl) (Nat.le_refl _) (Nat.le_refl _) (ic_ri ⟨by first | contradiction | rw [if_neg (by omega)], w1, rfl, ⟨fun a h1 _ => z0_.1 a h1, z0_.2⟩, by first | contradiction | (rw [if_neg (by omega)]); exact Or.inl ⟨zn_, wu_s _ _ _ _⟩⟩)
    · refine xx_aload_nP (pc := 21) dX11_act_21 0 rfl rfl ?_
      refine xx_iload_n (pc := 22) dX11_act_22 1 rfl rfl ?_
      refine xx_callV0 (pc := 23) (st := []) sh_0 (cC_riderOn (w := w1) (i := i) (by omega) hN_w1 hI_w1 hv_w1) kX11_riderOn vX11_345_11 dX11_act_23 rfl rfl (Nat.le_of_ble_eq_true rfl) ⟨Nat.le_of_ble_eq_true rfl, Nat.le_of_ble_eq_true rfl⟩ ⟨Nat.zero_le _, Nat.zero_le _⟩ (ic_ke ?_)
      refine xx_goto (pc := 26) 31 dX11_act_26 rfl ?_
      by_cases zon : A i = 1 ∧ B i < s 0
      · refine xx_eqI (y := nI (B i)) (congrArg nI (if_pos zon)) ?_
        refine xx_istore (L' := [(4, .int (nI (B i))), (0, ic_pt E 0), (1, .int (nI i)), (2, .int (nI q)), (3, .int (nI x))]) (pc := 31) dX11_act_31 (Nat.le_of_ble_eq_true rfl) rfl ?_
        refine xx_iload (pc := 33) dX11_act_33 0 rfl ?_
        refine xx_if_geN (pc := 35) 40 dX11_act_35 rfl (by omega) (fun c6 => ?_) (fun c6 => ?_)
        · have hP_ : i ≤ 3 ∧ q ≤ 3 ∧ A i = 1 ∧ B i < s 0 := by omega
          have k5_ := hI.i (o := B i) (by omega)
          have k1_ := hN.k1 (k := B i) (by omega)
          obtain ⟨W, hW⟩ : ∃ W, W = mo_acc w s B i := ⟨_, rfl⟩
          have hV_ : W 114 36 = 0 ∧ W 114 40 = 0 ∧ W 114 37 = it s (B i) 0 ∧ W 114 38 = B i ∧ W 114 39 = it s (B i) 3 := by rw [hW]; exact mo_acc_f w s B i
          have ek_ : w1 43 (B i) = it s (B i) 0 := hN_w1.kd (by omega)
          rcases (show it s (B i) 0 = 1 ∨ it s (B i) 0 = 2 ∨ it s (B i) 0 = 3 ∨ it s (B i) 0 = 4 ∨ it s (B i) 0 = 5 by omega) with ek | ek | ek | ek | ek
          · exact act_1 hi_ hq_ hx_ hN hI hP_ hW hV_ ek_ ek z0_
          · exact act_2 hi_ hq_ hx_ hN hI hP_ hW hV_ ek_ ek z0_
          · exact act_3 hi_ hq_ hx_ hN hI hP_ hW hV_ ek_ ek z0_
          · exact act_4 hi_ hq_ hx_ hN hI hP_ hW hV_ ek_ ek z0_
          · exact act_5 hi_ hq_ hx_ hN hI hP_ hW hV_ ek_ ek z0_
        · refine xx_iconst (pc := 38) dX11_act_38 cc_iconst_0 ?_
          exact xx_iret (pc := 39) dX11_act_39 rfl (rfl) (Nat.le_refl _) (Nat.le_refl _) (ic_ri ⟨by first | contradiction | rw [if_neg (by omega)], w1, rfl, ⟨fun a h1 _ => z0_.1 a h1, z0_.2⟩, by first | contradiction | (rw [if_neg (by omega)]); exact Or.inl ⟨zn_, wu_s _ _ _ _⟩⟩)
      · refine xx_eqI (y := nI (4294967293)) (congrArg nI (if_neg zon)) ?_
        refine xx_istore (L' := [(4, .int (nI 4294967293)), (0, ic_pt E 0), (1, .int (nI i)), (2, .int (nI q)), (3, .int (nI x))]) (pc := 31) dX11_act_31 (Nat.le_of_ble_eq_true rfl) rfl ?_
        refine xx_iload (pc := 33) dX11_act_33 0 rfl ?_
        refine xx_if_geS (pc := 35) 40 dX11_act_35 rfl (by omega) (fun c7 => by exfalso; omega) (fun c7 => ?_)
        refine xx_iconst (pc := 38) dX11_act_38 cc_iconst_0 ?_
        exact xx_iret (pc := 39) dX11_act_39 rfl (rfl) (Nat.le_refl _) (Nat.le_refl _) (ic_ri ⟨by first | contradiction | rw [if_neg (by omega)], w1, rfl, ⟨fun a h1 _ => z0_.1 a h1, z0_.2⟩, by first | contradiction | (rw [if_neg (by omega)]); exact Or.inl ⟨zn_, wu_s _ _ _ _⟩⟩)

