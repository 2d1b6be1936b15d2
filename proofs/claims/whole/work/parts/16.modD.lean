/-! rows set anew -/
def fu (s : Nat → Nat) (k v : Nat) : Nat → Nat := fun j => if j = k then v else s j
def wr (w : ic_w) (o : Nat) (f : Nat → Nat) : ic_w := fun a j => if a = o then f j else w a j
theorem fu_s (s : Nat → Nat) (k v : Nat) : fu s k v k = v := if_pos rfl
theorem fu_n {s : Nat → Nat} {k j : Nat} (v : Nat) (h : j ≠ k) : fu s k v j = s j := if_neg h
theorem wr_s (w : ic_w) (o : Nat) (f : Nat → Nat) : wr w o f o = f := by funext j; simp [wr]
theorem wr_n {w : ic_w} {o a : Nat} (f : Nat → Nat) (h : a ≠ o) : wr w o f a = w a := by funext j; simp [wr, h]
theorem wu_wr (w : ic_w) (o k v : Nat) : wu w o k v = wr w o (fu (w o) k v) := by
  funext a j
  unfold wu wr fu
  by_cases ha : a = o
  · subst ha
    simp
  · simp [ha]
theorem wr_wr (w : ic_w) (o : Nat) (f g : Nat → Nat) : wr (wr w o f) o g = wr w o g := by
  funext a j
  unfold wr
  split <;> rfl
theorem wr_id (w : ic_w) (o : Nat) : wr w o (w o) = w := by
  funext a j
  unfold wr
  split
  · rename_i h
    rw [h]
  · rfl
theorem wr_comm (w : ic_w) {o p : Nat} (f g : Nat → Nat) (h : o ≠ p) : wr (wr w o f) p g = wr (wr w p g) o f := by
  funext a j
  unfold wr
  by_cases h1 : a = o
  · subst h1
    simp [h]
  · simp [h1]
theorem ll_nn {a : Nat} (h : a < 2 ^ 31) : ((nI a).toInt64).toInt = (a : Int) := by
  rw [ll_i (by omega), if_pos h]
/-- an answer and one row set anew -/
def ic_qr (r : Nat) (w : ic_w) (s : Nat → Nat) : Option Value → ic_H → Prop := ic_qi fun v h' => v = nI r ∧ h' = hn (wr w 115 s)
theorem ic_rr {r r2 : Nat} {w w2 : ic_w} {s : Nat → Nat} (e : r2 = r) (f : w2 = wr w 115 s) : ic_qr r w s (some (.int (nI r2))) (hn w2) := by
  subst e
  subst f
  exact ⟨_, rfl, rfl, rfl⟩

set_option maxHeartbeats 4000000 in
set_option maxRecDepth 100000 in
theorem cM_becomes {l : Launch} {E : ic_E} {w : ic_w} {a v : Nat} (ha : a < 578) : ic_C l E mX12_becomes 1 0 0 False [ic_pt E 114, .int (nI a), .int (nI v)] SHs (hn w) SHs (ic_qr (w 115 a) w (fu (w 115) a v)) := by
  refine ic_intro (by decide +kernel) (Nat.le_of_ble_eq_true rfl) ?_
  show xx l E _ _ 0 [(0, ic_pt E 114), (1, .int (nI a)), (2, .int (nI v))] _ _ _
  refine xx_aload_nP (pc := 0) dX12_becomes_0 0 rfl rfl ?_
  refine xx_getR (pc := 1) 115 dX12_becomes_1 sh_114 fX12_7_12 rfl rfl (by decide) ?_
  refine xx_iload_n (pc := 4) dX12_becomes_4 1 rfl rfl ?_
  refine xx_ialdN (pc := 5) dX12_becomes_5 sh_115 (by omega) (by decide) ?_
  refine xx_istore_n (L' := [(3, .int (nI (w 115 a))), (0, ic_pt E 114), (1, .int (nI a)), (2, .int (nI v))]) (pc := 6) dX12_becomes_6 rfl (Nat.le_of_ble_eq_true rfl) rfl ?_
  refine xx_aload_nP (pc := 7) dX12_becomes_7 1 rfl rfl ?_
  refine xx_getR (pc := 8) 115 dX12_becomes_8 sh_114 fX12_7_12 rfl rfl (by decide) ?_
  refine xx_iload_n (pc := 11) dX12_becomes_11 2 rfl rfl ?_
  refine xx_iload_n (pc := 12) dX12_becomes_12 3 rfl rfl ?_
  refine xx_iastN (pc := 13) dX12_becomes_13 sh_115 (by omega) (by decide) ?_
  refine xx_nw (fun w1 ew1 => ?_)
  refine xx_iload_n (pc := 14) dX12_becomes_14 0 rfl rfl ?_
  exact xx_iret (pc := 15) dX12_becomes_15 rfl (rfl) (Nat.le_refl _) (Nat.le_refl _) (ic_rr rfl (by subst_vars; rw [wu_wr]))

def mo_top (k : Nat) : Nat := if k = 1 then 99 else if k = 2 then 9 else if k = 4 then 1 else 5
theorem mo_top_le (k : Nat) : mo_top k ≤ 99 := by
  unfold mo_top
  repeat' split
  all_goals omega
theorem cM_top {l : Launch} {E : ic_E} {w : ic_w} {a : Nat} (ha : a < 2 ^ 32) : ic_C l E mX12_greatestOf 1 0 0 False [.int (nI a)] SHs (hn w) SHs (ic_qe (nI (mo_top a)) (hn w)) := cM_greatestOf ha
theorem ic_qr_ex {r : Nat} {w : ic_w} {s : Nat → Nat} : ic_qr r w s = ic_qr r w s := rfl
set_option maxHeartbeats 4000000 in
set_option maxRecDepth 100000 in
theorem cM_change {l : Launch} {E : ic_E} {w : ic_w} {o : Nat} (ho_ : o < 2 ^ 32) {k : Nat} (hk_ : k < 2 ^ 32) {v : Nat} (hv_ : v < 2 ^ 32) (hI : In (w 115)) : ic_C l E mX12_change 3 0 0 False [ic_pt E 114, .int (nI o), .int (nI k), .int (nI v)] SHs (hn w) SHs (ic_qr (if o < w 115 0 ∧ (1 ≤ k ∧ k ≤ 5) ∧ v ≤ mo_top k then it (w 115) o k else 4294967295) w (if o < w 115 0 ∧ (1 ≤ k ∧ k ≤ 5) ∧ v ≤ mo_top k then fu (w 115) (8 + 6 * o + k) v else w 115)) := by
  refine ic_intro (by decide +kernel) (Nat.le_of_ble_eq_true rfl) ?_
  show xx l E _ _ 0 [(0, ic_pt E 114), (1, .int (nI o)), (2, .int (nI k)), (3, .int (nI v))] _ _ _
  have hn0 := hI.n
  have hg := mo_top_le k
  refine xx_aload_nP (pc := 0) dX12_change_0 0 rfl rfl ?_
  refine xx_iload_n (pc := 1) dX12_change_1 1 rfl rfl ?_
  refine xx_callV0 (pc := 2) (st := []) sh_114 (cM_isOne (w := w) (o := o) (by omega) hI) kX12_isOne vX12_116_12 dX12_change_2 rfl rfl (Nat.le_of_ble_eq_true rfl) ⟨Nat.le_of_ble_eq_true rfl, Nat.le_of_ble_eq_true rfl⟩ ⟨Nat.zero_le _, Nat.zero_le _⟩ (ic_ke ?_)
  refine xx_if_eqB (pc := 5) 38 dX12_change_5 rfl (fun c1 => ?_) (fun c1 => ?_)
  · refine xx_iconst (pc := 38) dX12_change_38 cc_iconst_0 ?_
    refine xx_istore (L' := [(4, .int (nI 0)), (0, ic_pt E 114), (1, .int (nI o)), (2, .int (nI k)), (3, .int (nI v))]) (pc := 39) dX12_change_39 (Nat.le_of_ble_eq_true rfl) rfl ?_
    refine xx_iload (pc := 41) dX12_change_41 0 rfl ?_
    refine xx_if_eqN (pc := 43) 63 dX12_change_43 rfl (by omega) (fun c2 => ?_) (fun c2 => by exfalso; omega)
    refine xx_iconst (pc := 63) dX12_change_63 cc_iconst_m1 ?_
    exact xx_iret (pc := 64) dX12_change_64 rfl (rfl) (Nat.le_refl _) (Nat.le_refl _) (ic_rr (if_neg (by omega)).symm (by subst_vars; rw [if_neg (by omega), wr_id]))
  · refine xx_iload_n (pc := 8) dX12_change_8 2 rfl rfl ?_
    refine xx_i2l (pc := 9) dX12_change_9 ?_
    refine xx_lconst (v := 1) (pc := 10) dX12_change_10 rfl ?_
    refine xx_ldc2 (v := 5) (pc := 11) dX12_change_11 oX12_64 ?_
    refine xx_callS0 (pc := 14) (st := []) (cM_isIn (1 ≤ k ∧ k ≤ 5) (ll_in (lo := 1) (hi := 5) (by omega) (by decide) (by decide) (by omega))) kX12_isIn sX12_66 dX12_change_14 rfl rfl (Nat.le_of_ble_eq_true rfl) ⟨Nat.le_of_ble_eq_true rfl, Nat.le_of_ble_eq_true rfl⟩ ⟨Nat.zero_le _, Nat.zero_le _⟩ (ic_ke ?_)
    refine xx_if_eqB (pc := 17) 38 dX12_change_17 rfl (fun c3 => ?_) (fun c3 => ?_)
    · refine xx_iconst (pc := 38) dX12_change_38 cc_iconst_0 ?_
      refine xx_istore (L' := [(4, .int (nI 0)), (0, ic_pt E 114), (1, .int (nI o)), (2, .int (nI k)), (3, .int (nI v))]) (pc := 39) dX12_change_39 (Nat.le_of_ble_eq_true rfl) rfl ?_
      refine xx_iload (pc := 41) dX12_change_41 0 rfl ?_
      refine xx_if_eqN (pc := 43) 63 dX12_change_43 rfl (by omega) (fun c4 => ?_) (fun c4 => by exfalso; omega)
      refine xx_iconst (pc := 63) dX12_change_63 cc_iconst_m1 ?_
      exact xx_iret (pc := 64) dX12_change_64 rfl (rfl) (Nat.le_refl _) (Nat.le_refl _) (ic_rr (if_neg (by omega)).symm (by subst_vars; rw [if_neg (by omega), wr_id]))
    · refine xx_iload_n (pc := 20) dX12_change_20 3 rfl rfl ?_
      refine xx_i2l (pc := 21) dX12_change_21 ?_
      refine xx_lconst (v := 0) (pc := 22) dX12_change_22 rfl ?_
      refine xx_iload_n (pc := 23) dX12_change_23 2 rfl rfl ?_
      refine xx_callS0 (pc := 24) (st := [.long 0, .long ((nI v).toInt64)]) (cM_top (w := w) (a := k) (by omega)) kX12_greatestOf sX12_130 dX12_change_24 rfl rfl (Nat.le_of_ble_eq_true rfl) ⟨Nat.le_of_ble_eq_true rfl, Nat.le_of_ble_eq_true rfl⟩ ⟨Nat.zero_le _, Nat.zero_le _⟩ (ic_ke ?_)
      refine xx_i2l (pc := 27) dX12_change_27 ?_
      refine xx_callS0 (pc := 28) (st := []) (cM_isIn (0 ≤ v ∧ v ≤ (mo_top k)) (ll_in (lo := 0) (hi := mo_top k) (by omega) (by decide) (ll_nn (by omega)) (by omega))) kX12_isIn sX12_66 dX12_change_28 rfl rfl (Nat.le_of_ble_eq_true rfl) ⟨Nat.le_of_ble_eq_true rfl, Nat.le_of_ble_eq_true rfl⟩ ⟨Nat.zero_le _, Nat.zero_le _⟩ (ic_ke ?_)
      refine xx_if_eqB (pc := 31) 38 dX12_change_31 rfl (fun c5 => ?_) (fun c5 => ?_)
      · refine xx_iconst (pc := 38) dX12_change_38 cc_iconst_0 ?_
        refine xx_istore (L' := [(4, .int (nI 0)), (0, ic_pt E 114), (1, .int (nI o)), (2, .int (nI k)), (3, .int (nI v))]) (pc := 39) dX12_change_39 (Nat.le_of_ble_eq_true rfl) rfl ?_
        refine xx_iload (pc := 41) dX12_change_41 0 rfl ?_
        refine xx_if_eqN (pc := 43) 63 dX12_change_43 rfl (by omega) (fun c6 => ?_) (fun c6 => by exfalso; omega)
        refine xx_iconst (pc := 63) dX12_change_63 cc_iconst_m1 ?_
        exact xx_iret (pc := 64) dX12_change_64 rfl (rfl) (Nat.le_refl _) (Nat.le_refl _) (ic_rr (if_neg (by omega)).symm (by subst_vars; rw [if_neg (by omega), wr_id]))
      · refine xx_iconst (pc := 34) dX12_change_34 cc_iconst_1 ?_
        refine xx_goto (pc := 35) 39 dX12_change_35 rfl ?_
        refine xx_istore (L' := [(4, .int (nI 1)), (0, ic_pt E 114), (1, .int (nI o)), (2, .int (nI k)), (3, .int (nI v))]) (pc := 39) dX12_change_39 (Nat.le_of_ble_eq_true rfl) rfl ?_
        refine xx_iload (pc := 41) dX12_change_41 0 rfl ?_
        refine xx_if_eqN (pc := 43) 63 dX12_change_43 rfl (by omega) (fun c7 => by exfalso; omega) (fun c7 => ?_)
        refine xx_aload_nP (pc := 46) dX12_change_46 1 rfl rfl ?_
        refine xx_bipush (pc := 47) dX12_change_47 cc_bipush_8 ?_
        refine xx_bipush (pc := 49) dX12_change_49 cc_bipush_6 ?_
        refine xx_iload_n (pc := 51) dX12_change_51 2 rfl rfl ?_
        refine xx_imulN (pc := 52) dX12_change_52 ?_
        refine xx_iaddN (pc := 53) dX12_change_53 ?_
        refine xx_iload_n (pc := 54) dX12_change_54 3 rfl rfl ?_
        refine xx_iaddN (pc := 55) dX12_change_55 ?_
        refine xx_iload_n (pc := 56) dX12_change_56 4 rfl rfl ?_
        refine xx_callV0 (pc := 57) (st := []) sh_114 (cM_becomes (w := w) (a := (8 + (6 * o)) + k) (v := v) (by omega)) kX12_becomes vX12_133_12 dX12_change_57 rfl rfl (Nat.le_of_ble_eq_true rfl) ⟨Nat.le_of_ble_eq_true rfl, Nat.le_of_ble_eq_true rfl⟩ ⟨Nat.zero_le _, Nat.zero_le _⟩ (ic_ki (fun v9 h_ qw8 => ?_))
        obtain ⟨rfl, rfl⟩ := qw8
        refine xx_nw (fun w8 ew8 => ?_)
        refine xx_goto (pc := 60) 64 dX12_change_60 rfl ?_
        exact xx_iret (pc := 64) dX12_change_64 rfl (rfl) (Nat.le_refl _) (Nat.le_refl _) (ic_rr (by subst_vars; rw [if_pos (by omega)] <;> rfl) (by subst_vars; rw [if_pos (by omega)]))

set_option maxHeartbeats 4000000 in
set_option maxRecDepth 100000 in
theorem cM_remake {l : Launch} {E : ic_E} {w : ic_w} {o : Nat} (ho_ : o < 2 ^ 32) {k : Nat} (hk_ : k < 2 ^ 32) (hI : In (w 115)) : ic_C l E mX12_remake 3 0 0 False [ic_pt E 114, .int (nI o), .int (nI k)] SHs (hn w) SHs (ic_qr (if o < w 115 0 ∧ 1 ≤ k ∧ k ≤ 5 then it (w 115) o 0 else 4294967295) w (if o < w 115 0 ∧ 1 ≤ k ∧ k ≤ 5 then fu (w 115) (8 + 6 * o) k else w 115)) := by
  refine ic_intro (by decide +kernel) (Nat.le_of_ble_eq_true rfl) ?_
  show xx l E _ _ 0 [(0, ic_pt E 114), (1, .int (nI o)), (2, .int (nI k))] _ _ _
  have hn0 := hI.n
  refine xx_aload_nP (pc := 0) dX12_remake_0 0 rfl rfl ?_
  refine xx_iload_n (pc := 1) dX12_remake_1 1 rfl rfl ?_
  refine xx_callV0 (pc := 2) (st := []) sh_114 (cM_isOne (w := w) (o := o) (by omega) hI) kX12_isOne vX12_116_12 dX12_remake_2 rfl rfl (Nat.le_of_ble_eq_true rfl) ⟨Nat.le_of_ble_eq_true rfl, Nat.le_of_ble_eq_true rfl⟩ ⟨Nat.zero_le _, Nat.zero_le _⟩ (ic_ke ?_)
  refine xx_if_eqB (pc := 5) 35 dX12_remake_5 rfl (fun c1 => ?_) (fun c1 => ?_)
  · refine xx_iconst (pc := 35) dX12_remake_35 cc_iconst_m1 ?_
    exact xx_iret (pc := 36) dX12_remake_36 rfl (rfl) (Nat.le_refl _) (Nat.le_refl _) (ic_rr (if_neg (by omega)).symm (by subst_vars; rw [if_neg (by omega), wr_id]))
  · refine xx_iload_n (pc := 8) dX12_remake_8 2 rfl rfl ?_
    refine xx_i2l (pc := 9) dX12_remake_9 ?_
    refine xx_lconst (v := 1) (pc := 10) dX12_remake_10 rfl ?_
    refine xx_ldc2 (v := 5) (pc := 11) dX12_remake_11 oX12_64 ?_
    refine xx_callS0 (pc := 14) (st := []) (cM_isIn (1 ≤ k ∧ k ≤ 5) (ll_in (lo := 1) (hi := 5) (by omega) (by decide) (by decide) (by omega))) kX12_isIn sX12_66 dX12_remake_14 rfl rfl (Nat.le_of_ble_eq_true rfl) ⟨Nat.le_of_ble_eq_true rfl, Nat.le_of_ble_eq_true rfl⟩ ⟨Nat.zero_le _, Nat.zero_le _⟩ (ic_ke ?_)
    refine xx_if_eqB (pc := 17) 35 dX12_remake_17 rfl (fun c2 => ?_) (fun c2 => ?_)
    · refine xx_iconst (pc := 35) dX12_remake_35 cc_iconst_m1 ?_
      exact xx_iret (pc := 36) dX12_remake_36 rfl (rfl) (Nat.le_refl _) (Nat.le_refl _) (ic_rr (if_neg (by omega)).symm (by subst_vars; rw [if_neg (by omega), wr_id]))
    · refine xx_aload_nP (pc := 20) dX12_remake_20 0 rfl rfl ?_
      refine xx_bipush (pc := 21) dX12_remake_21 cc_bipush_8 ?_
      refine xx_bipush (pc := 23) dX12_remake_23 cc_bipush_6 ?_
      refine xx_iload_n (pc := 25) dX12_remake_25 1 rfl rfl ?_
      refine xx_imulN (pc := 26) dX12_remake_26 ?_
      refine xx_iaddN (pc := 27) dX12_remake_27 ?_
      refine xx_iload_n (pc := 28) dX12_remake_28 2 rfl rfl ?_
      refine xx_callV0 (pc := 29) (st := []) sh_114 (cM_becomes (w := w) (a := 8 + (6 * o)) (v := k) (by omega)) kX12_becomes vX12_133_12 dX12_remake_29 rfl rfl (Nat.le_of_ble_eq_true rfl) ⟨Nat.le_of_ble_eq_true rfl, Nat.le_of_ble_eq_true rfl⟩ ⟨Nat.zero_le _, Nat.zero_le _⟩ (ic_ki (fun v4 h_ qw3 => ?_))
      obtain ⟨rfl, rfl⟩ := qw3
      refine xx_nw (fun w3 ew3 => ?_)
      refine xx_goto (pc := 32) 36 dX12_remake_32 rfl ?_
      exact xx_iret (pc := 36) dX12_remake_36 rfl (rfl) (Nat.le_refl _) (Nat.le_refl _) (ic_rr (by subst_vars; rw [if_pos (by omega)] <;> rfl) (by subst_vars; rw [if_pos (by omega)]))

set_option maxHeartbeats 4000000 in
set_option maxRecDepth 100000 in
theorem cM_crowd {l : Launch} {E : ic_E} {w : ic_w} {t : Nat} (ht_ : t < 2 ^ 32) {v : Nat} (hv_ : v < 2 ^ 32) : ic_C l E mX12_crowd 3 0 0 False [ic_pt E 114, .int (nI t), .int (nI v)] SHs (hn w) SHs (ic_qr (if t < 16 ∧ v ≤ 15 then w 115 (56 + t) else 4294967295) w (if t < 16 ∧ v ≤ 15 then fu (w 115) (56 + t) v else w 115)) := by
  refine ic_intro (by decide +kernel) (Nat.le_of_ble_eq_true rfl) ?_
  show xx l E _ _ 0 [(0, ic_pt E 114), (1, .int (nI t)), (2, .int (nI v))] _ _ _
  refine xx_iload_n (pc := 0) dX12_crowd_0 1 rfl rfl ?_
  refine xx_i2l (pc := 1) dX12_crowd_1 ?_
  refine xx_lconst (v := 0) (pc := 2) dX12_crowd_2 rfl ?_
  refine xx_ldc2 (v := 15) (pc := 3) dX12_crowd_3 oX12_136 ?_
  refine xx_callS0 (pc := 6) (st := []) (cM_isIn (0 ≤ t ∧ t ≤ 15) (ll_in (lo := 0) (hi := 15) (by omega) (by decide) (by decide) (by omega))) kX12_isIn sX12_66 dX12_crowd_6 rfl rfl (Nat.le_of_ble_eq_true rfl) ⟨Nat.le_of_ble_eq_true rfl, Nat.le_of_ble_eq_true rfl⟩ ⟨Nat.zero_le _, Nat.zero_le _⟩ (ic_ke ?_)
  refine xx_if_eqB (pc := 9) 36 dX12_crowd_9 rfl (fun c1 => ?_) (fun c1 => ?_)
  · refine xx_iconst (pc := 36) dX12_crowd_36 cc_iconst_m1 ?_
    exact xx_iret (pc := 37) dX12_crowd_37 rfl (rfl) (Nat.le_refl _) (Nat.le_refl _) (ic_rr (if_neg (by omega)).symm (by subst_vars; rw [if_neg (by omega), wr_id]))
  · refine xx_iload_n (pc := 12) dX12_crowd_12 2 rfl rfl ?_
    refine xx_i2l (pc := 13) dX12_crowd_13 ?_
    refine xx_lconst (v := 0) (pc := 14) dX12_crowd_14 rfl ?_
    refine xx_ldc2 (v := 15) (pc := 15) dX12_crowd_15 oX12_136 ?_
    refine xx_callS0 (pc := 18) (st := []) (cM_isIn (0 ≤ v ∧ v ≤ 15) (ll_in (lo := 0) (hi := 15) (by omega) (by decide) (by decide) (by omega))) kX12_isIn sX12_66 dX12_crowd_18 rfl rfl (Nat.le_of_ble_eq_true rfl) ⟨Nat.le_of_ble_eq_true rfl, Nat.le_of_ble_eq_true rfl⟩ ⟨Nat.zero_le _, Nat.zero_le _⟩ (ic_ke ?_)
    refine xx_if_eqB (pc := 21) 36 dX12_crowd_21 rfl (fun c2 => ?_) (fun c2 => ?_)
    · refine xx_iconst (pc := 36) dX12_crowd_36 cc_iconst_m1 ?_
      exact xx_iret (pc := 37) dX12_crowd_37 rfl (rfl) (Nat.le_refl _) (Nat.le_refl _) (ic_rr (if_neg (by omega)).symm (by subst_vars; rw [if_neg (by omega), wr_id]))
    · refine xx_aload_nP (pc := 24) dX12_crowd_24 0 rfl rfl ?_
      refine xx_bipush (pc := 25) dX12_crowd_25 cc_bipush_56 ?_
      refine xx_iload_n (pc := 27) dX12_crowd_27 1 rfl rfl ?_
      refine xx_iaddN (pc := 28) dX12_crowd_28 ?_
      refine xx_iload_n (pc := 29) dX12_crowd_29 2 rfl rfl ?_
      refine xx_callV0 (pc := 30) (st := []) sh_114 (cM_becomes (w := w) (a := 56 + t) (v := v) (by omega)) kX12_becomes vX12_133_12 dX12_crowd_30 rfl rfl (Nat.le_of_ble_eq_true rfl) ⟨Nat.le_of_ble_eq_true rfl, Nat.le_of_ble_eq_true rfl⟩ ⟨Nat.zero_le _, Nat.zero_le _⟩ (ic_ki (fun v4 h_ qw3 => ?_))
      obtain ⟨rfl, rfl⟩ := qw3
      refine xx_nw (fun w3 ew3 => ?_)
      refine xx_goto (pc := 33) 37 dX12_crowd_33 rfl ?_
      exact xx_iret (pc := 37) dX12_crowd_37 rfl (rfl) (Nat.le_refl _) (Nat.le_refl _) (ic_rr (by subst_vars; rw [if_pos (by omega)] <;> rfl) (by subst_vars; rw [if_pos (by omega)]))

set_option maxHeartbeats 4000000 in
set_option maxRecDepth 100000 in
theorem cM_home {l : Launch} {E : ic_E} {w : ic_w} {f : Nat} (hf_ : f < 2 ^ 32) {k : Nat} (hk_ : k < 2 ^ 32) {v : Nat} (hv_ : v < 2 ^ 32) : ic_C l E mX12_home 3 0 0 False [ic_pt E 114, .int (nI f), .int (nI k), .int (nI v)] SHs (hn w) SHs (ic_qr (if f < 6 ∧ k ≤ 1 ∧ v ≤ 9 then w 115 ((if k = 0 then 44 else 50) + f) else 4294967295) w (if f < 6 ∧ k ≤ 1 ∧ v ≤ 9 then fu (w 115) ((if k = 0 then 44 else 50) + f) v else w 115)) := by
  refine ic_intro (by decide +kernel) (Nat.le_of_ble_eq_true rfl) ?_
  show xx l E _ _ 0 [(0, ic_pt E 114), (1, .int (nI f)), (2, .int (nI k)), (3, .int (nI v))] _ _ _
  refine xx_iload_n (pc := 0) dX12_home_0 1 rfl rfl ?_
  refine xx_callS0 (pc := 1) (st := []) (cM_isStop (w := w) (f := f) (by omega)) kX12_isStop sX12_74 dX12_home_1 rfl rfl (Nat.le_of_ble_eq_true rfl) ⟨Nat.le_of_ble_eq_true rfl, Nat.le_of_ble_eq_true rfl⟩ ⟨Nat.zero_le _, Nat.zero_le _⟩ (ic_ke ?_)
  refine xx_if_eqB (pc := 4) 29 dX12_home_4 rfl (fun c1 => ?_) (fun c1 => ?_)
  · refine xx_iconst (pc := 29) dX12_home_29 cc_iconst_m1 ?_
    exact xx_iret (pc := 30) dX12_home_30 rfl (rfl) (Nat.le_refl _) (Nat.le_refl _) (ic_rr (if_neg (by omega)).symm (by subst_vars; rw [if_neg (by omega), wr_id]))
  · refine xx_iload_n (pc := 7) dX12_home_7 2 rfl rfl ?_
    refine xx_i2l (pc := 8) dX12_home_8 ?_
    refine xx_lconst (v := 0) (pc := 9) dX12_home_9 rfl ?_
    refine xx_lconst (v := 1) (pc := 10) dX12_home_10 rfl ?_
    refine xx_callS0 (pc := 11) (st := []) (cM_isIn (0 ≤ k ∧ k ≤ 1) (ll_in (lo := 0) (hi := 1) (by omega) (by decide) (by decide) (by omega))) kX12_isIn sX12_66 dX12_home_11 rfl rfl (Nat.le_of_ble_eq_true rfl) ⟨Nat.le_of_ble_eq_true rfl, Nat.le_of_ble_eq_true rfl⟩ ⟨Nat.zero_le _, Nat.zero_le _⟩ (ic_ke ?_)
    refine xx_if_eqB (pc := 14) 29 dX12_home_14 rfl (fun c2 => ?_) (fun c2 => ?_)
    · refine xx_iconst (pc := 29) dX12_home_29 cc_iconst_m1 ?_
      exact xx_iret (pc := 30) dX12_home_30 rfl (rfl) (Nat.le_refl _) (Nat.le_refl _) (ic_rr (if_neg (by omega)).symm (by subst_vars; rw [if_neg (by omega), wr_id]))
    · refine xx_iload_n (pc := 17) dX12_home_17 3 rfl rfl ?_
      refine xx_i2l (pc := 18) dX12_home_18 ?_
      refine xx_lconst (v := 0) (pc := 19) dX12_home_19 rfl ?_
      refine xx_ldc2 (v := 9) (pc := 20) dX12_home_20 oX12_72 ?_
      refine xx_callS0 (pc := 23) (st := []) (cM_isIn (0 ≤ v ∧ v ≤ 9) (ll_in (lo := 0) (hi := 9) (by omega) (by decide) (by decide) (by omega))) kX12_isIn sX12_66 dX12_home_23 rfl rfl (Nat.le_of_ble_eq_true rfl) ⟨Nat.le_of_ble_eq_true rfl, Nat.le_of_ble_eq_true rfl⟩ ⟨Nat.zero_le _, Nat.zero_le _⟩ (ic_ke ?_)
      refine xx_if_neB (pc := 26) 31 dX12_home_26 rfl (fun c3 => ?_) (fun c3 => ?_)
      · refine xx_aload_nP (pc := 31) dX12_home_31 0 rfl rfl ?_
        refine xx_iload_n (pc := 32) dX12_home_32 2 rfl rfl ?_
        refine xx_if_neN (pc := 33) 41 dX12_home_33 rfl (by omega) (fun c4 => ?_) (fun c4 => ?_)
        · refine xx_bipush (pc := 41) dX12_home_41 cc_bipush_50 ?_
          refine xx_iload_n (pc := 43) dX12_home_43 1 rfl rfl ?_
          refine xx_iaddN (pc := 44) dX12_home_44 ?_
          refine xx_iload_n (pc := 45) dX12_home_45 3 rfl rfl ?_
          refine xx_callV0 (pc := 46) (st := []) sh_114 (cM_becomes (w := w) (a := 50 + f) (v := v) (by omega)) kX12_becomes vX12_133_12 dX12_home_46 rfl rfl (Nat.le_of_ble_eq_true rfl) ⟨Nat.le_of_ble_eq_true rfl, Nat.le_of_ble_eq_true rfl⟩ ⟨Nat.zero_le _, Nat.zero_le _⟩ (ic_ki (fun v6 h_ qw5 => ?_))
          obtain ⟨rfl, rfl⟩ := qw5
          refine xx_nw (fun w5 ew5 => ?_)
          exact xx_iret (pc := 49) dX12_home_49 rfl (rfl) (Nat.le_refl _) (Nat.le_refl _) (ic_rr (by subst_vars; rw [if_pos (by omega)] <;> simp [*]) (by subst_vars; rw [if_pos (by omega)]; simp [*]))
        · refine xx_bipush (pc := 36) dX12_home_36 cc_bipush_44 ?_
          refine xx_goto (pc := 38) 43 dX12_home_38 rfl ?_
          refine xx_iload_n (pc := 43) dX12_home_43 1 rfl rfl ?_
          refine xx_iaddN (pc := 44) dX12_home_44 ?_
          refine xx_iload_n (pc := 45) dX12_home_45 3 rfl rfl ?_
          refine xx_callV0 (pc := 46) (st := []) sh_114 (cM_becomes (w := w) (a := 44 + f) (v := v) (by omega)) kX12_becomes vX12_133_12 dX12_home_46 rfl rfl (Nat.le_of_ble_eq_true rfl) ⟨Nat.le_of_ble_eq_true rfl, Nat.le_of_ble_eq_true rfl⟩ ⟨Nat.zero_le _, Nat.zero_le _⟩ (ic_ki (fun v8 h_ qw7 => ?_))
          obtain ⟨rfl, rfl⟩ := qw7
          refine xx_nw (fun w7 ew7 => ?_)
          exact xx_iret (pc := 49) dX12_home_49 rfl (rfl) (Nat.le_refl _) (Nat.le_refl _) (ic_rr (by subst_vars; rw [if_pos (by omega)] <;> simp [*]) (by subst_vars; rw [if_pos (by omega)]; simp [*]))
      · refine xx_iconst (pc := 29) dX12_home_29 cc_iconst_m1 ?_
        exact xx_iret (pc := 30) dX12_home_30 rfl (rfl) (Nat.le_refl _) (Nat.le_refl _) (ic_rr (if_neg (by omega)).symm (by subst_vars; rw [if_neg (by omega), wr_id]))

set_option maxHeartbeats 4000000 in
set_option maxRecDepth 100000 in
theorem cM_homeOf {l : Launch} {E : ic_E} {w : ic_w} {f : Nat} (hf_ : f < 2 ^ 32) {k : Nat} (hk_ : k < 2 ^ 32) : ic_C l E mX12_homeOf 3 0 0 False [ic_pt E 114, .int (nI f), .int (nI k)] SHs (hn w) SHs (ic_qe (nI (if f < 6 ∧ k ≤ 1 then w 115 ((if k = 0 then 44 else 50) + f) else 4294967295)) (hn w)) := by
  refine ic_intro (by decide +kernel) (Nat.le_of_ble_eq_true rfl) ?_
  show xx l E _ _ 0 [(0, ic_pt E 114), (1, .int (nI f)), (2, .int (nI k))] _ _ _
  refine xx_iload_n (pc := 0) dX12_homeOf_0 1 rfl rfl ?_
  refine xx_callS0 (pc := 1) (st := []) (cM_isStop (w := w) (f := f) (by omega)) kX12_isStop sX12_74 dX12_homeOf_1 rfl rfl (Nat.le_of_ble_eq_true rfl) ⟨Nat.le_of_ble_eq_true rfl, Nat.le_of_ble_eq_true rfl⟩ ⟨Nat.zero_le _, Nat.zero_le _⟩ (ic_ke ?_)
  refine xx_if_eqB (pc := 4) 17 dX12_homeOf_4 rfl (fun c1 => ?_) (fun c1 => ?_)
  · refine xx_iconst (pc := 17) dX12_homeOf_17 cc_iconst_m1 ?_
    exact xx_iret (pc := 18) dX12_homeOf_18 rfl (rfl) (Nat.le_refl _) (Nat.le_refl _) (ic_re (if_neg (by omega)).symm)
  · refine xx_iload_n (pc := 7) dX12_homeOf_7 2 rfl rfl ?_
    refine xx_i2l (pc := 8) dX12_homeOf_8 ?_
    refine xx_lconst (v := 0) (pc := 9) dX12_homeOf_9 rfl ?_
    refine xx_lconst (v := 1) (pc := 10) dX12_homeOf_10 rfl ?_
    refine xx_callS0 (pc := 11) (st := []) (cM_isIn (0 ≤ k ∧ k ≤ 1) (ll_in (lo := 0) (hi := 1) (by omega) (by decide) (by decide) (by omega))) kX12_isIn sX12_66 dX12_homeOf_11 rfl rfl (Nat.le_of_ble_eq_true rfl) ⟨Nat.le_of_ble_eq_true rfl, Nat.le_of_ble_eq_true rfl⟩ ⟨Nat.zero_le _, Nat.zero_le _⟩ (ic_ke ?_)
    refine xx_if_neB (pc := 14) 19 dX12_homeOf_14 rfl (fun c2 => ?_) (fun c2 => ?_)
    · refine xx_aload_nP (pc := 19) dX12_homeOf_19 0 rfl rfl ?_
      refine xx_getR (pc := 20) 115 dX12_homeOf_20 sh_114 fX12_7_12 rfl rfl (by decide) ?_
      refine xx_iload_n (pc := 23) dX12_homeOf_23 2 rfl rfl ?_
      refine xx_if_neN (pc := 24) 32 dX12_homeOf_24 rfl (by omega) (fun c3 => ?_) (fun c3 => ?_)
      · refine xx_bipush (pc := 32) dX12_homeOf_32 cc_bipush_50 ?_
        refine xx_iload_n (pc := 34) dX12_homeOf_34 1 rfl rfl ?_
        refine xx_iaddN (pc := 35) dX12_homeOf_35 ?_
        refine xx_ialdN (pc := 36) dX12_homeOf_36 sh_115 (by omega) (by decide) ?_
        exact xx_iret (pc := 37) dX12_homeOf_37 rfl (rfl) (Nat.le_refl _) (Nat.le_refl _) (ic_re (by rw [if_pos (by omega)]; simp [*]))
      · refine xx_bipush (pc := 27) dX12_homeOf_27 cc_bipush_44 ?_
        refine xx_goto (pc := 29) 34 dX12_homeOf_29 rfl ?_
        refine xx_iload_n (pc := 34) dX12_homeOf_34 1 rfl rfl ?_
        refine xx_iaddN (pc := 35) dX12_homeOf_35 ?_
        refine xx_ialdN (pc := 36) dX12_homeOf_36 sh_115 (by omega) (by decide) ?_
        exact xx_iret (pc := 37) dX12_homeOf_37 rfl (rfl) (Nat.le_refl _) (Nat.le_refl _) (ic_re (by rw [if_pos (by omega)]; simp [*]))
    · refine xx_iconst (pc := 17) dX12_homeOf_17 cc_iconst_m1 ?_
      exact xx_iret (pc := 18) dX12_homeOf_18 rfl (rfl) (Nat.le_refl _) (Nat.le_refl _) (ic_re (if_neg (by omega)).symm)

set_option maxHeartbeats 4000000 in
set_option maxRecDepth 100000 in
theorem cM_ends {l : Launch} {E : ic_E} {w : ic_w} {v : Nat} (hv_ : v < 2 ^ 32) (hI : In (w 115)) : ic_C l E mX12_ends 3 0 0 False [ic_pt E 114, .int (nI v)] SHs (hn w) SHs (ic_qr (if 1 ≤ v ∧ v ≤ 16 then (if v < w 115 1 then 4294967292 else w 115 2) else 4294967295) w (if (1 ≤ v ∧ v ≤ 16) ∧ w 115 1 ≤ v then fu (w 115) 2 v else w 115)) := by
  refine ic_intro (by decide +kernel) (Nat.le_of_ble_eq_true rfl) ?_
  show xx l E _ _ 0 [(0, ic_pt E 114), (1, .int (nI v))] _ _ _
  have ht := hI.t
  refine xx_iload_n (pc := 0) dX12_ends_0 1 rfl rfl ?_
  refine xx_i2l (pc := 1) dX12_ends_1 ?_
  refine xx_lconst (v := 1) (pc := 2) dX12_ends_2 rfl ?_
  refine xx_ldc2 (v := 16) (pc := 3) dX12_ends_3 oX12_138 ?_
  refine xx_callS0 (pc := 6) (st := []) (cM_isIn (1 ≤ v ∧ v ≤ 16) (ll_in (lo := 1) (hi := 16) (by omega) (by decide) (by decide) (by omega))) kX12_isIn sX12_66 dX12_ends_6 rfl rfl (Nat.le_of_ble_eq_true rfl) ⟨Nat.le_of_ble_eq_true rfl, Nat.le_of_ble_eq_true rfl⟩ ⟨Nat.zero_le _, Nat.zero_le _⟩ (ic_ke ?_)
  refine xx_if_neB (pc := 9) 14 dX12_ends_9 rfl (fun c1 => ?_) (fun c1 => ?_)
  · refine xx_iload_n (pc := 14) dX12_ends_14 1 rfl rfl ?_
    refine xx_aload_nP (pc := 15) dX12_ends_15 0 rfl rfl ?_
    refine xx_getR (pc := 16) 115 dX12_ends_16 sh_114 fX12_7_12 rfl rfl (by decide) ?_
    refine xx_iconst (pc := 19) dX12_ends_19 cc_iconst_1 ?_
    refine xx_ialdN (pc := 20) dX12_ends_20 sh_115 (by omega) (by decide) ?_
    refine xx_icmp_geN (pc := 21) 29 dX12_ends_21 rfl (by omega) (by omega) (fun c2 => ?_) (fun c2 => ?_)
    · refine xx_aload_nP (pc := 29) dX12_ends_29 0 rfl rfl ?_
      refine xx_iconst (pc := 30) dX12_ends_30 cc_iconst_2 ?_
      refine xx_iload_n (pc := 31) dX12_ends_31 1 rfl rfl ?_
      refine xx_callV0 (pc := 32) (st := []) sh_114 (cM_becomes (w := w) (a := 2) (v := v) (by omega)) kX12_becomes vX12_133_12 dX12_ends_32 rfl rfl (Nat.le_of_ble_eq_true rfl) ⟨Nat.le_of_ble_eq_true rfl, Nat.le_of_ble_eq_true rfl⟩ ⟨Nat.zero_le _, Nat.zero_le _⟩ (ic_ki (fun v4 h_ qw3 => ?_))
      obtain ⟨rfl, rfl⟩ := qw3
      refine xx_nw (fun w3 ew3 => ?_)
      exact xx_iret (pc := 35) dX12_ends_35 rfl (rfl) (Nat.le_refl _) (Nat.le_refl _) (ic_rr (by subst_vars; rw [if_pos (by omega), if_neg (by omega)]) (by subst_vars; rw [if_pos (by omega)]))
    · refine xx_bipush (pc := 24) dX12_ends_24 cc_bipush_m4 ?_
      refine xx_goto (pc := 26) 35 dX12_ends_26 rfl ?_
      exact xx_iret (pc := 35) dX12_ends_35 rfl (rfl) (Nat.le_refl _) (Nat.le_refl _) (ic_rr (by rw [if_pos (by omega), if_pos (by omega)]) (by subst_vars; rw [if_neg (by omega), wr_id]))
  · refine xx_iconst (pc := 12) dX12_ends_12 cc_iconst_m1 ?_
    exact xx_iret (pc := 13) dX12_ends_13 rfl (rfl) (Nat.le_refl _) (Nat.le_refl _) (ic_rr (if_neg (by omega)).symm (by subst_vars; rw [if_neg (by omega), wr_id]))

def mo_new (s : Nat → Nat) (kind d ws hm : Nat) : Nat → Nat := fu (fu (fu (fu (fu (fu (fu s (8 + 6 * s 0) kind) (9 + 6 * s 0) d) (10 + 6 * s 0) ws) (11 + 6 * s 0) hm) (12 + 6 * s 0) 0) (13 + 6 * s 0) hm) 0 (s 0 + 1)
set_option maxHeartbeats 4000000 in
set_option maxRecDepth 100000 in
theorem cM_rider {l : Launch} {E : ic_E} {w : ic_w} {kind : Nat} (hkind_ : kind < 2 ^ 32) {d : Nat} (hd_ : d < 2 ^ 32) {ws : Nat} (hws_ : ws < 2 ^ 32) {hm : Nat} (hhm_ : hm < 2 ^ 32) (hI : In (w 115)) : ic_C l E mX12_rider 3 0 0 False [ic_pt E 114, .int (nI kind), .int (nI d), .int (nI ws), .int (nI hm)] SHs (hn w) SHs (ic_qr (if (1 ≤ kind ∧ kind ≤ 5) ∧ d ≤ 99 ∧ ws ≤ 9 ∧ hm < 6 then (if w 115 0 = 6 then 4294967294 else w 115 0) else 4294967295) w (if ((1 ≤ kind ∧ kind ≤ 5) ∧ d ≤ 99 ∧ ws ≤ 9 ∧ hm < 6) ∧ w 115 0 < 6 then mo_new (w 115) kind d ws hm else w 115)) := by
  refine ic_intro (by decide +kernel) (Nat.le_of_ble_eq_true rfl) ?_
  show xx l E _ _ 0 [(0, ic_pt E 114), (1, .int (nI kind)), (2, .int (nI d)), (3, .int (nI ws)), (4, .int (nI hm))] _ _ _
  have hn0 := hI.n
  refine xx_iload_n (pc := 0) dX12_rider_0 1 rfl rfl ?_
  refine xx_i2l (pc := 1) dX12_rider_1 ?_
  refine xx_lconst (v := 1) (pc := 2) dX12_rider_2 rfl ?_
  refine xx_ldc2 (v := 5) (pc := 3) dX12_rider_3 oX12_64 ?_
  refine xx_callS0 (pc := 6) (st := []) (cM_isIn (1 ≤ kind ∧ kind ≤ 5) (ll_in (lo := 1) (hi := 5) (by omega) (by decide) (by decide) (by omega))) kX12_isIn sX12_66 dX12_rider_6 rfl rfl (Nat.le_of_ble_eq_true rfl) ⟨Nat.le_of_ble_eq_true rfl, Nat.le_of_ble_eq_true rfl⟩ ⟨Nat.zero_le _, Nat.zero_le _⟩ (ic_ke ?_)
  refine xx_if_eqB (pc := 9) 44 dX12_rider_9 rfl (fun c1 => ?_) (fun c1 => ?_)
  · refine xx_iconst (pc := 44) dX12_rider_44 cc_iconst_m1 ?_
    exact xx_iret (pc := 45) dX12_rider_45 rfl (rfl) (Nat.le_refl _) (Nat.le_refl _) (ic_rr (if_neg (by omega)).symm (by subst_vars; rw [if_neg (by omega), wr_id]))
  · refine xx_iload_n (pc := 12) dX12_rider_12 2 rfl rfl ?_
    refine xx_i2l (pc := 13) dX12_rider_13 ?_
    refine xx_lconst (v := 0) (pc := 14) dX12_rider_14 rfl ?_
    refine xx_ldc2 (v := 99) (pc := 15) dX12_rider_15 oX12_70 ?_
    refine xx_callS0 (pc := 18) (st := []) (cM_isIn (0 ≤ d ∧ d ≤ 99) (ll_in (lo := 0) (hi := 99) (by omega) (by decide) (by decide) (by omega))) kX12_isIn sX12_66 dX12_rider_18 rfl rfl (Nat.le_of_ble_eq_true rfl) ⟨Nat.le_of_ble_eq_true rfl, Nat.le_of_ble_eq_true rfl⟩ ⟨Nat.zero_le _, Nat.zero_le _⟩ (ic_ke ?_)
    refine xx_if_eqB (pc := 21) 44 dX12_rider_21 rfl (fun c2 => ?_) (fun c2 => ?_)
    · refine xx_iconst (pc := 44) dX12_rider_44 cc_iconst_m1 ?_
      exact xx_iret (pc := 45) dX12_rider_45 rfl (rfl) (Nat.le_refl _) (Nat.le_refl _) (ic_rr (if_neg (by omega)).symm (by subst_vars; rw [if_neg (by omega), wr_id]))
    · refine xx_iload_n (pc := 24) dX12_rider_24 3 rfl rfl ?_
      refine xx_i2l (pc := 25) dX12_rider_25 ?_
      refine xx_lconst (v := 0) (pc := 26) dX12_rider_26 rfl ?_
      refine xx_ldc2 (v := 9) (pc := 27) dX12_rider_27 oX12_72 ?_
      refine xx_callS0 (pc := 30) (st := []) (cM_isIn (0 ≤ ws ∧ ws ≤ 9) (ll_in (lo := 0) (hi := 9) (by omega) (by decide) (by decide) (by omega))) kX12_isIn sX12_66 dX12_rider_30 rfl rfl (Nat.le_of_ble_eq_true rfl) ⟨Nat.le_of_ble_eq_true rfl, Nat.le_of_ble_eq_true rfl⟩ ⟨Nat.zero_le _, Nat.zero_le _⟩ (ic_ke ?_)
      refine xx_if_eqB (pc := 33) 44 dX12_rider_33 rfl (fun c3 => ?_) (fun c3 => ?_)
      · refine xx_iconst (pc := 44) dX12_rider_44 cc_iconst_m1 ?_
        exact xx_iret (pc := 45) dX12_rider_45 rfl (rfl) (Nat.le_refl _) (Nat.le_refl _) (ic_rr (if_neg (by omega)).symm (by subst_vars; rw [if_neg (by omega), wr_id]))
      · refine xx_iload (pc := 36) dX12_rider_36 4 rfl ?_
        refine xx_callS0 (pc := 38) (st := []) (cM_isStop (w := w) (f := hm) (by omega)) kX12_isStop sX12_74 dX12_rider_38 rfl rfl (Nat.le_of_ble_eq_true rfl) ⟨Nat.le_of_ble_eq_true rfl, Nat.le_of_ble_eq_true rfl⟩ ⟨Nat.zero_le _, Nat.zero_le _⟩ (ic_ke ?_)
        refine xx_if_neB (pc := 41) 46 dX12_rider_41 rfl (fun c4 => ?_) (fun c4 => ?_)
        · refine xx_aload_nP (pc := 46) dX12_rider_46 0 rfl rfl ?_
          refine xx_getR (pc := 47) 115 dX12_rider_47 sh_114 fX12_7_12 rfl rfl (by decide) ?_
          refine xx_iconst (pc := 50) dX12_rider_50 cc_iconst_0 ?_
          refine xx_ialdN (pc := 51) dX12_rider_51 sh_115 (by omega) (by decide) ?_
          refine xx_bipush (pc := 52) dX12_rider_52 cc_bipush_6 ?_
          refine xx_icmp_neN (pc := 54) 60 dX12_rider_54 rfl (by omega) (by omega) (fun c5 => ?_) (fun c5 => ?_)
          · refine xx_bipush (pc := 60) dX12_rider_60 cc_bipush_8 ?_
            refine xx_bipush (pc := 62) dX12_rider_62 cc_bipush_6 ?_
            refine xx_aload_nP (pc := 64) dX12_rider_64 0 rfl rfl ?_
            refine xx_getR (pc := 65) 115 dX12_rider_65 sh_114 fX12_7_12 rfl rfl (by decide) ?_
            refine xx_iconst (pc := 68) dX12_rider_68 cc_iconst_0 ?_
            refine xx_ialdN (pc := 69) dX12_rider_69 sh_115 (by omega) (by decide) ?_
            refine xx_imulN (pc := 70) dX12_rider_70 ?_
            refine xx_iaddN (pc := 71) dX12_rider_71 ?_
            refine xx_istore (L' := [(5, .int (nI (8 + (6 * (w 115 0))))), (0, ic_pt E 114), (1, .int (nI kind)), (2, .int (nI d)), (3, .int (nI ws)), (4, .int (nI hm))]) (pc := 72) dX12_rider_72 (Nat.le_of_ble_eq_true rfl) rfl ?_
            refine xx_aload_nP (pc := 74) dX12_rider_74 1 rfl rfl ?_
            refine xx_getR (pc := 75) 115 dX12_rider_75 sh_114 fX12_7_12 rfl rfl (by decide) ?_
            refine xx_iload (pc := 78) dX12_rider_78 0 rfl ?_
            refine xx_iload_n (pc := 80) dX12_rider_80 2 rfl rfl ?_
            refine xx_iastE (j2 := 8 + 6 * w 115 0) (pc := 81) dX12_rider_81 sh_115 (by omega) (by omega) (by decide) ?_
            refine xx_nw (fun w6 ew6 => ?_)
            have zw6 : w6 115 0 = w 115 0 := by rw [ew6, wu_k _ _ _ _ (by omega)]
            refine xx_aload_nP (pc := 82) dX12_rider_82 1 rfl rfl ?_
            refine xx_getR (pc := 83) 115 dX12_rider_83 sh_114 fX12_7_12 rfl rfl (by decide) ?_
            refine xx_iload (pc := 86) dX12_rider_86 0 rfl ?_
            refine xx_iconst (pc := 88) dX12_rider_88 cc_iconst_1 ?_
            refine xx_iaddN (pc := 89) dX12_rider_89 ?_
            refine xx_iload_n (pc := 90) dX12_rider_90 3 rfl rfl ?_
            refine xx_iastE (j2 := 9 + 6 * w 115 0) (pc := 91) dX12_rider_91 sh_115 (by omega) (by omega) (by decide) ?_
            refine xx_nw (fun w7 ew7 => ?_)
            have zw7 : w7 115 0 = w 115 0 := by rw [ew7, wu_k _ _ _ _ (by omega)]; exact zw6
            refine xx_aload_nP (pc := 92) dX12_rider_92 1 rfl rfl ?_
            refine xx_getR (pc := 93) 115 dX12_rider_93 sh_114 fX12_7_12 rfl rfl (by decide) ?_
            refine xx_iload (pc := 96) dX12_rider_96 0 rfl ?_
            refine xx_iconst (pc := 98) dX12_rider_98 cc_iconst_2 ?_
            refine xx_iaddN (pc := 99) dX12_rider_99 ?_
            refine xx_iload_n (pc := 100) dX12_rider_100 4 rfl rfl ?_
            refine xx_iastE (j2 := 10 + 6 * w 115 0) (pc := 101) dX12_rider_101 sh_115 (by omega) (by omega) (by decide) ?_
            refine xx_nw (fun w8 ew8 => ?_)
            have zw8 : w8 115 0 = w 115 0 := by rw [ew8, wu_k _ _ _ _ (by omega)]; exact zw7
            refine xx_aload_nP (pc := 102) dX12_rider_102 1 rfl rfl ?_
            refine xx_getR (pc := 103) 115 dX12_rider_103 sh_114 fX12_7_12 rfl rfl (by decide) ?_
            refine xx_iload (pc := 106) dX12_rider_106 0 rfl ?_
            refine xx_iconst (pc := 108) dX12_rider_108 cc_iconst_3 ?_
            refine xx_iaddN (pc := 109) dX12_rider_109 ?_
            refine xx_iload (pc := 110) dX12_rider_110 5 rfl ?_
            refine xx_iastE (j2 := 11 + 6 * w 115 0) (pc := 112) dX12_rider_112 sh_115 (by omega) (by omega) (by decide) ?_
            refine xx_nw (fun w9 ew9 => ?_)
            have zw9 : w9 115 0 = w 115 0 := by rw [ew9, wu_k _ _ _ _ (by omega)]; exact zw8
            refine xx_aload_nP (pc := 113) dX12_rider_113 1 rfl rfl ?_
            refine xx_getR (pc := 114) 115 dX12_rider_114 sh_114 fX12_7_12 rfl rfl (by decide) ?_
            refine xx_iload (pc := 117) dX12_rider_117 0 rfl ?_
            refine xx_iconst (pc := 119) dX12_rider_119 cc_iconst_4 ?_
            refine xx_iaddN (pc := 120) dX12_rider_120 ?_
            refine xx_iconst (pc := 121) dX12_rider_121 cc_iconst_0 ?_
            refine xx_iastE (j2 := 12 + 6 * w 115 0) (pc := 122) dX12_rider_122 sh_115 (by omega) (by omega) (by decide) ?_
            refine xx_nw (fun w10 ew10 => ?_)
            have zw10 : w10 115 0 = w 115 0 := by rw [ew10, wu_k _ _ _ _ (by omega)]; exact zw9
            refine xx_aload_nP (pc := 123) dX12_rider_123 1 rfl rfl ?_
            refine xx_getR (pc := 124) 115 dX12_rider_124 sh_114 fX12_7_12 rfl rfl (by decide) ?_
            refine xx_iload (pc := 127) dX12_rider_127 0 rfl ?_
            refine xx_iconst (pc := 129) dX12_rider_129 cc_iconst_5 ?_
            refine xx_iaddN (pc := 130) dX12_rider_130 ?_
            refine xx_iload (pc := 131) dX12_rider_131 5 rfl ?_
            refine xx_iastE (j2 := 13 + 6 * w 115 0) (pc := 133) dX12_rider_133 sh_115 (by omega) (by omega) (by decide) ?_
            refine xx_nw (fun w11 ew11 => ?_)
            have zw11 : w11 115 0 = w 115 0 := by rw [ew11, wu_k _ _ _ _ (by omega)]; exact zw10
            refine xx_aload_nP (pc := 134) dX12_rider_134 1 rfl rfl ?_
            refine xx_getR (pc := 135) 115 dX12_rider_135 sh_114 fX12_7_12 rfl rfl (by decide) ?_
            refine xx_iconst (pc := 138) dX12_rider_138 cc_iconst_0 ?_
            refine xx_dup2 (pc := 139) dX12_rider_139 rfl rfl ?_
            refine xx_ialdN (pc := 140) dX12_rider_140 sh_115 (by omega) (by decide) ?_
            refine xx_iconst (pc := 141) dX12_rider_141 cc_iconst_1 ?_
            refine xx_iaddN (pc := 142) dX12_rider_142 ?_
            refine xx_iastN (pc := 143) dX12_rider_143 sh_115 (by omega) (by decide) ?_
            refine xx_nw (fun w12 ew12 => ?_)
            have zw12 : w12 115 0 = w 115 0 + 1 := by rw [ew12, wu_s, zw11]
            refine xx_aload_nP (pc := 144) dX12_rider_144 1 rfl rfl ?_
            refine xx_getR (pc := 145) 115 dX12_rider_145 sh_114 fX12_7_12 rfl rfl (by decide) ?_
            refine xx_iconst (pc := 148) dX12_rider_148 cc_iconst_0 ?_
            refine xx_ialdN (pc := 149) dX12_rider_149 sh_115 (by omega) (by decide) ?_
            refine xx_iconst (pc := 150) dX12_rider_150 cc_iconst_1 ?_
            refine xx_isubN (pc := 151) dX12_rider_151 (by omega) ?_
            exact xx_iret (pc := 152) dX12_rider_152 rfl (rfl) (Nat.le_refl _) (Nat.le_refl _) (ic_rr (by rw [if_pos (by omega), if_neg (by omega), zw12]; omega) (by rw [if_pos (by omega), ew12, zw11, ew11, ew10, ew9, ew8, ew7, ew6]; simp only [wu_wr, wr_s, wr_wr]; rfl))
          · refine xx_bipush (pc := 57) dX12_rider_57 cc_bipush_m2 ?_
            exact xx_iret (pc := 59) dX12_rider_59 rfl (rfl) (Nat.le_refl _) (Nat.le_refl _) (ic_rr (by rw [if_pos (by omega), if_pos (by omega)]) (by subst_vars; rw [if_neg (by omega), wr_id]))
        · refine xx_iconst (pc := 44) dX12_rider_44 cc_iconst_m1 ?_
          exact xx_iret (pc := 45) dX12_rider_45 rfl (rfl) (Nat.le_refl _) (Nat.le_refl _) (ic_rr (if_neg (by omega)).symm (by subst_vars; rw [if_neg (by omega), wr_id]))

