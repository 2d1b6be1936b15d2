/-! the reader of the rules: words of a text f of n bytes -/
def tk_c (v : Nat) : Nat := if 97 ≤ v ∧ v ≤ 122 then 1 else if 48 ≤ v ∧ v ≤ 57 then 2 else 3
/-- the sort of what stands at a -/
def tk_k (f : Nat → Nat) (n a : Nat) : Nat := if a < n then tk_c (f a) else 0
def tk_b (f : Nat → Nat) (n a : Nat) : Nat := if a < n then f a else 4294967295
/-- behind the blanks -/
def tk_s (f : Nat → Nat) : Nat → Nat → Nat
  | 0, a => a
  | k + 1, a => if f a = 32 then tk_s f k (a + 1) else a
/-- the end of what is of the sort t -/
def tk_r (f : Nat → Nat) (t : Nat) : Nat → Nat → Nat
  | 0, a => a
  | k + 1, a => if tk_c (f a) = t then tk_r f t k (a + 1) else a
/-- the text: bytes, n of them -/
def Tx (w : ic_w) (f : Nat → Nat) (n : Nat) : Prop := w 114 5 = n ∧ n ≤ 200 ∧ ∀ j, j < n → w 118 j = f j ∧ f j ≤ 255
theorem tk_b_lt {w : ic_w} {f : Nat → Nat} {n : Nat} (h : Tx w f n) (a : Nat) : tk_b f n a ≤ 255 ∨ tk_b f n a = 4294967295 := by
  unfold tk_b
  split
  · rename_i z
    exact Or.inl (h.2.2 a z).2
  · exact Or.inr rfl
theorem Tx.of {w u : ic_w} {f : Nat → Nat} {n : Nat} (h : Tx w f n) (e5 : u 114 5 = w 114 5) (e : u 118 = w 118) : Tx u f n := by
  unfold Tx
  rw [e5, e]
  exact h
set_option maxHeartbeats 4000000 in
set_option maxRecDepth 100000 in
theorem cM_isAlpha {l : Launch} {E : ic_E} {w : ic_w} {v : Nat} (hv : v ≤ 255 ∨ v = 4294967295) : ic_C l E mX12_isAlpha 1 0 0 False [.int (nI v)] SHs (hn w) SHs (ic_qe (nI (ic_bo (97 ≤ v ∧ v ≤ 122))) (hn w)) := by
  refine ic_intro (by decide +kernel) (Nat.le_of_ble_eq_true rfl) ?_
  show xx l E _ _ 0 [(0, .int (nI v))] _ _ _
  refine xx_iload_n (pc := 0) dX12_isAlpha_0 0 rfl rfl ?_
  refine xx_bipush (pc := 1) dX12_isAlpha_1 cc_bipush_97 ?_
  refine xx_icmp_ltS (pc := 3) 16 dX12_isAlpha_3 rfl (by omega) (by omega) (fun c1 => ?_) (fun c1 => ?_)
  · refine xx_iconst (pc := 16) dX12_isAlpha_16 cc_iconst_0 ?_
    exact xx_iret (pc := 17) dX12_isAlpha_17 rfl (rfl) (Nat.le_refl _) (Nat.le_refl _) (ic_re (ic_bo_f (by omega)).symm)
  · refine xx_iload_n (pc := 6) dX12_isAlpha_6 0 rfl rfl ?_
    refine xx_bipush (pc := 7) dX12_isAlpha_7 cc_bipush_122 ?_
    refine xx_icmp_gtS (pc := 9) 16 dX12_isAlpha_9 rfl (by omega) (by omega) (fun c2 => ?_) (fun c2 => ?_)
    · refine xx_iconst (pc := 16) dX12_isAlpha_16 cc_iconst_0 ?_
      exact xx_iret (pc := 17) dX12_isAlpha_17 rfl (rfl) (Nat.le_refl _) (Nat.le_refl _) (ic_re (ic_bo_f (by omega)).symm)
    · refine xx_iconst (pc := 12) dX12_isAlpha_12 cc_iconst_1 ?_
      refine xx_goto (pc := 13) 17 dX12_isAlpha_13 rfl ?_
      exact xx_iret (pc := 17) dX12_isAlpha_17 rfl (rfl) (Nat.le_refl _) (Nat.le_refl _) (ic_re (ic_bo_t (by omega)).symm)

set_option maxHeartbeats 4000000 in
set_option maxRecDepth 100000 in
theorem cM_isDigit {l : Launch} {E : ic_E} {w : ic_w} {v : Nat} (hv : v ≤ 255 ∨ v = 4294967295) : ic_C l E mX12_isDigit 1 0 0 False [.int (nI v)] SHs (hn w) SHs (ic_qe (nI (ic_bo (48 ≤ v ∧ v ≤ 57))) (hn w)) := by
  refine ic_intro (by decide +kernel) (Nat.le_of_ble_eq_true rfl) ?_
  show xx l E _ _ 0 [(0, .int (nI v))] _ _ _
  refine xx_iload_n (pc := 0) dX12_isDigit_0 0 rfl rfl ?_
  refine xx_bipush (pc := 1) dX12_isDigit_1 cc_bipush_48 ?_
  refine xx_icmp_ltS (pc := 3) 16 dX12_isDigit_3 rfl (by omega) (by omega) (fun c1 => ?_) (fun c1 => ?_)
  · refine xx_iconst (pc := 16) dX12_isDigit_16 cc_iconst_0 ?_
    exact xx_iret (pc := 17) dX12_isDigit_17 rfl (rfl) (Nat.le_refl _) (Nat.le_refl _) (ic_re (ic_bo_f (by omega)).symm)
  · refine xx_iload_n (pc := 6) dX12_isDigit_6 0 rfl rfl ?_
    refine xx_bipush (pc := 7) dX12_isDigit_7 cc_bipush_57 ?_
    refine xx_icmp_gtS (pc := 9) 16 dX12_isDigit_9 rfl (by omega) (by omega) (fun c2 => ?_) (fun c2 => ?_)
    · refine xx_iconst (pc := 16) dX12_isDigit_16 cc_iconst_0 ?_
      exact xx_iret (pc := 17) dX12_isDigit_17 rfl (rfl) (Nat.le_refl _) (Nat.le_refl _) (ic_re (ic_bo_f (by omega)).symm)
    · refine xx_iconst (pc := 12) dX12_isDigit_12 cc_iconst_1 ?_
      refine xx_goto (pc := 13) 17 dX12_isDigit_13 rfl ?_
      exact xx_iret (pc := 17) dX12_isDigit_17 rfl (rfl) (Nat.le_refl _) (Nat.le_refl _) (ic_re (ic_bo_t (by omega)).symm)

set_option maxHeartbeats 4000000 in
set_option maxRecDepth 100000 in
theorem cM_byteAt {l : Launch} {E : ic_E} {w : ic_w} {a : Nat} (ha : a < 2 ^ 31) {f : Nat → Nat} {n : Nat} (hX : Tx w f n) : ic_C l E mX12_byteAt 1 0 0 False [ic_pt E 114, .int (nI a)] SHs (hn w) SHs (ic_qe (nI (tk_b f n a)) (hn w)) := by
  refine ic_intro (by decide +kernel) (Nat.le_of_ble_eq_true rfl) ?_
  show xx l E _ _ 0 [(0, ic_pt E 114), (1, .int (nI a))] _ _ _
  have x5 := hX.1
  have x6 := hX.2.1
  refine xx_iload_n (pc := 0) dX12_byteAt_0 1 rfl rfl ?_
  refine xx_aload_nP (pc := 1) dX12_byteAt_1 0 rfl rfl ?_
  refine xx_getN (pc := 2) dX12_byteAt_2 sh_114 fX12_153_12 rfl ?_
  refine xx_icmp_geN (pc := 5) 17 dX12_byteAt_5 rfl (by omega) (by omega) (fun c1 => ?_) (fun c1 => ?_)
  · refine xx_iconst (pc := 17) dX12_byteAt_17 cc_iconst_m1 ?_
    exact xx_iret (pc := 18) dX12_byteAt_18 rfl (rfl) (Nat.le_refl _) (Nat.le_refl _) (ic_re (by unfold tk_b; rw [if_neg (by omega)]))
  · refine xx_aload_nP (pc := 8) dX12_byteAt_8 0 rfl rfl ?_
    refine xx_getR (pc := 9) 118 dX12_byteAt_9 sh_114 fX12_19_12 rfl rfl (by decide) ?_
    refine xx_iload_n (pc := 12) dX12_byteAt_12 1 rfl rfl ?_
    refine xx_ialdN (pc := 13) dX12_byteAt_13 sh_118 (by omega) (by decide) ?_
    refine xx_goto (pc := 14) 18 dX12_byteAt_14 rfl ?_
    exact xx_iret (pc := 18) dX12_byteAt_18 rfl (rfl) (Nat.le_refl _) (Nat.le_refl _) (ic_re (by unfold tk_b; rw [if_pos (by omega)]; exact (hX.2.2 a (by omega)).1))

set_option maxHeartbeats 4000000 in
set_option maxRecDepth 100000 in
theorem cM_isByte {l : Launch} {E : ic_E} {w : ic_w} {c : Nat} (hc_ : c ≤ 255) (h7 : w 114 7 ≤ 200) (h8 : w 114 8 ≤ 201) (h6 : w 114 6 ≤ 3) {f : Nat → Nat} {n : Nat} (hX : Tx w f n) : ic_C l E mX12_isByte 2 0 0 False [ic_pt E 114, .int (nI c)] SHs (hn w) SHs (ic_qe (nI (ic_bo (w 114 6 = 3 ∧ tk_b f n (w 114 7) = c))) (hn w)) := by
  refine ic_intro (by decide +kernel) (Nat.le_of_ble_eq_true rfl) ?_
  show xx l E _ _ 0 [(0, ic_pt E 114), (1, .int (nI c))] _ _ _
  refine xx_aload_nP (pc := 0) dX12_isByte_0 0 rfl rfl ?_
  refine xx_getN (pc := 1) dX12_isByte_1 sh_114 fX12_174_12 rfl ?_
  refine xx_iconst (pc := 4) dX12_isByte_4 cc_iconst_3 ?_
  refine xx_icmp_neN (pc := 5) 24 dX12_isByte_5 rfl (by omega) (by omega) (fun c1 => ?_) (fun c1 => ?_)
  · refine xx_iconst (pc := 24) dX12_isByte_24 cc_iconst_0 ?_
    exact xx_iret (pc := 25) dX12_isByte_25 rfl (rfl) (Nat.le_refl _) (Nat.le_refl _) (ic_re (ic_bo_f (by omega)).symm)
  · refine xx_aload_nP (pc := 8) dX12_isByte_8 0 rfl rfl ?_
    refine xx_aload_nP (pc := 9) dX12_isByte_9 0 rfl rfl ?_
    refine xx_getN (pc := 10) dX12_isByte_10 sh_114 fX12_162_12 rfl ?_
    have hb_b2 := tk_b_lt hX (w 114 7)
    refine xx_callV0 (pc := 13) (st := []) sh_114 (cM_byteAt (w := w) (a := w 114 7) (by omega) hX) kX12_byteAt vX12_165_12 dX12_isByte_13 rfl rfl (Nat.le_of_ble_eq_true rfl) ⟨Nat.le_of_ble_eq_true rfl, Nat.le_of_ble_eq_true rfl⟩ ⟨Nat.zero_le _, Nat.zero_le _⟩ (ic_ke ?_)
    refine xx_iload_n (pc := 16) dX12_isByte_16 1 rfl rfl ?_
    refine xx_icmp_neN (pc := 17) 24 dX12_isByte_17 rfl (by omega) (by omega) (fun c3 => ?_) (fun c3 => ?_)
    · refine xx_iconst (pc := 24) dX12_isByte_24 cc_iconst_0 ?_
      exact xx_iret (pc := 25) dX12_isByte_25 rfl (rfl) (Nat.le_refl _) (Nat.le_refl _) (ic_re (ic_bo_f (by omega)).symm)
    · refine xx_iconst (pc := 20) dX12_isByte_20 cc_iconst_1 ?_
      refine xx_goto (pc := 21) 25 dX12_isByte_21 rfl ?_
      exact xx_iret (pc := 25) dX12_isByte_25 rfl (rfl) (Nat.le_refl _) (Nat.le_refl _) (ic_re (ic_bo_t (by omega)).symm)

set_option maxHeartbeats 4000000 in
set_option maxRecDepth 100000 in
theorem cM_isTwo {l : Launch} {E : ic_E} {w : ic_w} {c : Nat} (hc_ : c ≤ 255) {d : Nat} (hd_ : d ≤ 255) (h7 : w 114 7 ≤ 200) (h8 : w 114 8 ≤ 201) (h6 : w 114 6 ≤ 3) (h78 : w 114 7 ≤ w 114 8) {f : Nat → Nat} {n : Nat} (hX : Tx w f n) : ic_C l E mX12_isTwo 2 0 0 False [ic_pt E 114, .int (nI c), .int (nI d)] SHs (hn w) SHs (ic_qe (nI (ic_bo (w 114 6 = 1 ∧ w 114 8 = w 114 7 + 2 ∧ tk_b f n (w 114 7) = c ∧ tk_b f n (w 114 7 + 1) = d))) (hn w)) := by
  refine ic_intro (by decide +kernel) (Nat.le_of_ble_eq_true rfl) ?_
  show xx l E _ _ 0 [(0, ic_pt E 114), (1, .int (nI c)), (2, .int (nI d))] _ _ _
  refine xx_aload_nP (pc := 0) dX12_isTwo_0 0 rfl rfl ?_
  refine xx_getN (pc := 1) dX12_isTwo_1 sh_114 fX12_174_12 rfl ?_
  refine xx_iconst (pc := 4) dX12_isTwo_4 cc_iconst_1 ?_
  refine xx_icmp_neN (pc := 5) 51 dX12_isTwo_5 rfl (by omega) (by omega) (fun c1 => ?_) (fun c1 => ?_)
  · refine xx_iconst (pc := 51) dX12_isTwo_51 cc_iconst_0 ?_
    exact xx_iret (pc := 52) dX12_isTwo_52 rfl (rfl) (Nat.le_refl _) (Nat.le_refl _) (ic_re (ic_bo_f (by omega)).symm)
  · refine xx_aload_nP (pc := 8) dX12_isTwo_8 0 rfl rfl ?_
    refine xx_getN (pc := 9) dX12_isTwo_9 sh_114 fX12_159_12 rfl ?_
    refine xx_aload_nP (pc := 12) dX12_isTwo_12 0 rfl rfl ?_
    refine xx_getN (pc := 13) dX12_isTwo_13 sh_114 fX12_162_12 rfl ?_
    refine xx_isubN (pc := 16) dX12_isTwo_16 (by omega) ?_
    refine xx_iconst (pc := 17) dX12_isTwo_17 cc_iconst_2 ?_
    refine xx_icmp_neN (pc := 18) 51 dX12_isTwo_18 rfl (by omega) (by omega) (fun c2 => ?_) (fun c2 => ?_)
    · refine xx_iconst (pc := 51) dX12_isTwo_51 cc_iconst_0 ?_
      exact xx_iret (pc := 52) dX12_isTwo_52 rfl (rfl) (Nat.le_refl _) (Nat.le_refl _) (ic_re (ic_bo_f (by omega)).symm)
    · refine xx_aload_nP (pc := 21) dX12_isTwo_21 0 rfl rfl ?_
      refine xx_aload_nP (pc := 22) dX12_isTwo_22 0 rfl rfl ?_
      refine xx_getN (pc := 23) dX12_isTwo_23 sh_114 fX12_162_12 rfl ?_
      have hb_b3 := tk_b_lt hX (w 114 7)
      refine xx_callV0 (pc := 26) (st := []) sh_114 (cM_byteAt (w := w) (a := w 114 7) (by omega) hX) kX12_byteAt vX12_165_12 dX12_isTwo_26 rfl rfl (Nat.le_of_ble_eq_true rfl) ⟨Nat.le_of_ble_eq_true rfl, Nat.le_of_ble_eq_true rfl⟩ ⟨Nat.zero_le _, Nat.zero_le _⟩ (ic_ke ?_)
      refine xx_iload_n (pc := 29) dX12_isTwo_29 1 rfl rfl ?_
      refine xx_icmp_neN (pc := 30) 51 dX12_isTwo_30 rfl (by omega) (by omega) (fun c4 => ?_) (fun c4 => ?_)
      · refine xx_iconst (pc := 51) dX12_isTwo_51 cc_iconst_0 ?_
        exact xx_iret (pc := 52) dX12_isTwo_52 rfl (rfl) (Nat.le_refl _) (Nat.le_refl _) (ic_re (ic_bo_f (by omega)).symm)
      · refine xx_aload_nP (pc := 33) dX12_isTwo_33 0 rfl rfl ?_
        refine xx_aload_nP (pc := 34) dX12_isTwo_34 0 rfl rfl ?_
        refine xx_getN (pc := 35) dX12_isTwo_35 sh_114 fX12_162_12 rfl ?_
        refine xx_iconst (pc := 38) dX12_isTwo_38 cc_iconst_1 ?_
        refine xx_iaddN (pc := 39) dX12_isTwo_39 ?_
        have hb_b5 := tk_b_lt hX ((w 114 7) + 1)
        refine xx_callV0 (pc := 40) (st := []) sh_114 (cM_byteAt (w := w) (a := (w 114 7) + 1) (by omega) hX) kX12_byteAt vX12_165_12 dX12_isTwo_40 rfl rfl (Nat.le_of_ble_eq_true rfl) ⟨Nat.le_of_ble_eq_true rfl, Nat.le_of_ble_eq_true rfl⟩ ⟨Nat.zero_le _, Nat.zero_le _⟩ (ic_ke ?_)
        refine xx_iload_n (pc := 43) dX12_isTwo_43 2 rfl rfl ?_
        refine xx_icmp_neN (pc := 44) 51 dX12_isTwo_44 rfl (by omega) (by omega) (fun c6 => ?_) (fun c6 => ?_)
        · refine xx_iconst (pc := 51) dX12_isTwo_51 cc_iconst_0 ?_
          exact xx_iret (pc := 52) dX12_isTwo_52 rfl (rfl) (Nat.le_refl _) (Nat.le_refl _) (ic_re (ic_bo_f (by omega)).symm)
        · refine xx_iconst (pc := 47) dX12_isTwo_47 cc_iconst_1 ?_
          refine xx_goto (pc := 48) 52 dX12_isTwo_48 rfl ?_
          exact xx_iret (pc := 52) dX12_isTwo_52 rfl (rfl) (Nat.le_refl _) (Nat.le_refl _) (ic_re (ic_bo_t (by omega)).symm)

set_option maxHeartbeats 4000000 in
set_option maxRecDepth 100000 in
theorem cM_isSame {l : Launch} {E : ic_E} {w : ic_w} {k : Nat} (hk : k ≤ 200) {c : Nat} (hc_ : c ≤ 255) {d : Nat} (hd_ : d ≤ 255) {e : Nat} (he_ : e ≤ 255) (h7 : w 114 7 ≤ 200) (h8 : w 114 8 ≤ 201) (h6 : w 114 6 ≤ 3) {f : Nat → Nat} {n : Nat} (hX : Tx w f n) : ic_C l E mX12_isSame 2 0 0 False [ic_pt E 114, .int (nI k), .int (nI c), .int (nI d), .int (nI e)] SHs (hn w) SHs (ic_qe (nI (ic_bo (tk_b f n (w 114 7 + k) = c ∧ tk_b f n (w 114 7 + k + 1) = d ∧ tk_b f n (w 114 7 + k + 2) = e))) (hn w)) := by
  refine ic_intro (by decide +kernel) (Nat.le_of_ble_eq_true rfl) ?_
  show xx l E _ _ 0 [(0, ic_pt E 114), (1, .int (nI k)), (2, .int (nI c)), (3, .int (nI d)), (4, .int (nI e))] _ _ _
  refine xx_aload_nP (pc := 0) dX12_isSame_0 0 rfl rfl ?_
  refine xx_aload_nP (pc := 1) dX12_isSame_1 0 rfl rfl ?_
  refine xx_getN (pc := 2) dX12_isSame_2 sh_114 fX12_162_12 rfl ?_
  refine xx_iload_n (pc := 5) dX12_isSame_5 1 rfl rfl ?_
  refine xx_iaddN (pc := 6) dX12_isSame_6 ?_
  have hb_b1 := tk_b_lt hX ((w 114 7) + k)
  refine xx_callV0 (pc := 7) (st := []) sh_114 (cM_byteAt (w := w) (a := (w 114 7) + k) (by omega) hX) kX12_byteAt vX12_165_12 dX12_isSame_7 rfl rfl (Nat.le_of_ble_eq_true rfl) ⟨Nat.le_of_ble_eq_true rfl, Nat.le_of_ble_eq_true rfl⟩ ⟨Nat.zero_le _, Nat.zero_le _⟩ (ic_ke ?_)
  refine xx_iload_n (pc := 10) dX12_isSame_10 2 rfl rfl ?_
  refine xx_icmp_neN (pc := 11) 51 dX12_isSame_11 rfl (by omega) (by omega) (fun c2 => ?_) (fun c2 => ?_)
  · refine xx_iconst (pc := 51) dX12_isSame_51 cc_iconst_0 ?_
    exact xx_iret (pc := 52) dX12_isSame_52 rfl (rfl) (Nat.le_refl _) (Nat.le_refl _) (ic_re (ic_bo_f (by omega)).symm)
  · refine xx_aload_nP (pc := 14) dX12_isSame_14 0 rfl rfl ?_
    refine xx_aload_nP (pc := 15) dX12_isSame_15 0 rfl rfl ?_
    refine xx_getN (pc := 16) dX12_isSame_16 sh_114 fX12_162_12 rfl ?_
    refine xx_iload_n (pc := 19) dX12_isSame_19 1 rfl rfl ?_
    refine xx_iaddN (pc := 20) dX12_isSame_20 ?_
    refine xx_iconst (pc := 21) dX12_isSame_21 cc_iconst_1 ?_
    refine xx_iaddN (pc := 22) dX12_isSame_22 ?_
    have hb_b3 := tk_b_lt hX (((w 114 7) + k) + 1)
    refine xx_callV0 (pc := 23) (st := []) sh_114 (cM_byteAt (w := w) (a := ((w 114 7) + k) + 1) (by omega) hX) kX12_byteAt vX12_165_12 dX12_isSame_23 rfl rfl (Nat.le_of_ble_eq_true rfl) ⟨Nat.le_of_ble_eq_true rfl, Nat.le_of_ble_eq_true rfl⟩ ⟨Nat.zero_le _, Nat.zero_le _⟩ (ic_ke ?_)
    refine xx_iload_n (pc := 26) dX12_isSame_26 3 rfl rfl ?_
    refine xx_icmp_neN (pc := 27) 51 dX12_isSame_27 rfl (by omega) (by omega) (fun c4 => ?_) (fun c4 => ?_)
    · refine xx_iconst (pc := 51) dX12_isSame_51 cc_iconst_0 ?_
      exact xx_iret (pc := 52) dX12_isSame_52 rfl (rfl) (Nat.le_refl _) (Nat.le_refl _) (ic_re (ic_bo_f (by omega)).symm)
    · refine xx_aload_nP (pc := 30) dX12_isSame_30 0 rfl rfl ?_
      refine xx_aload_nP (pc := 31) dX12_isSame_31 0 rfl rfl ?_
      refine xx_getN (pc := 32) dX12_isSame_32 sh_114 fX12_162_12 rfl ?_
      refine xx_iload_n (pc := 35) dX12_isSame_35 1 rfl rfl ?_
      refine xx_iaddN (pc := 36) dX12_isSame_36 ?_
      refine xx_iconst (pc := 37) dX12_isSame_37 cc_iconst_2 ?_
      refine xx_iaddN (pc := 38) dX12_isSame_38 ?_
      have hb_b5 := tk_b_lt hX (((w 114 7) + k) + 2)
      refine xx_callV0 (pc := 39) (st := []) sh_114 (cM_byteAt (w := w) (a := ((w 114 7) + k) + 2) (by omega) hX) kX12_byteAt vX12_165_12 dX12_isSame_39 rfl rfl (Nat.le_of_ble_eq_true rfl) ⟨Nat.le_of_ble_eq_true rfl, Nat.le_of_ble_eq_true rfl⟩ ⟨Nat.zero_le _, Nat.zero_le _⟩ (ic_ke ?_)
      refine xx_iload (pc := 42) dX12_isSame_42 4 rfl ?_
      refine xx_icmp_neN (pc := 44) 51 dX12_isSame_44 rfl (by omega) (by omega) (fun c6 => ?_) (fun c6 => ?_)
      · refine xx_iconst (pc := 51) dX12_isSame_51 cc_iconst_0 ?_
        exact xx_iret (pc := 52) dX12_isSame_52 rfl (rfl) (Nat.le_refl _) (Nat.le_refl _) (ic_re (ic_bo_f (by omega)).symm)
      · refine xx_iconst (pc := 47) dX12_isSame_47 cc_iconst_1 ?_
        refine xx_goto (pc := 48) 52 dX12_isSame_48 rfl ?_
        exact xx_iret (pc := 52) dX12_isSame_52 rfl (rfl) (Nat.le_refl _) (Nat.le_refl _) (ic_re (ic_bo_t (by omega)).symm)

set_option maxHeartbeats 4000000 in
set_option maxRecDepth 100000 in
theorem cM_isName {l : Launch} {E : ic_E} {w : ic_w} {m : Nat} (hm : 1 ≤ m ∧ m ≤ 200) {c : Nat} (hc_ : c ≤ 255) {d : Nat} (hd_ : d ≤ 255) {e : Nat} (he_ : e ≤ 255) {g : Nat} (hg_ : g ≤ 255) (h7 : w 114 7 ≤ 200) (h8 : w 114 8 ≤ 201) (h6 : w 114 6 ≤ 3) (h78 : w 114 7 ≤ w 114 8) {f : Nat → Nat} {n : Nat} (hX : Tx w f n) : ic_C l E mX12_isName 2 0 0 False [ic_pt E 114, .int (nI m), .int (nI c), .int (nI d), .int (nI e), .int (nI g)] SHs (hn w) SHs (ic_qe (nI (ic_bo (w 114 6 = 1 ∧ w 114 8 = w 114 7 + m ∧ tk_b f n (w 114 7) = c ∧ tk_b f n (w 114 7 + 1) = d ∧ tk_b f n (w 114 7 + 2) = e ∧ tk_b f n (w 114 8 - 1) = g))) (hn w)) := by
  refine ic_intro (by decide +kernel) (Nat.le_of_ble_eq_true rfl) ?_
  show xx l E _ _ 0 [(0, ic_pt E 114), (1, .int (nI m)), (2, .int (nI c)), (3, .int (nI d)), (4, .int (nI e)), (5, .int (nI g))] _ _ _
  refine xx_aload_nP (pc := 0) dX12_isName_0 0 rfl rfl ?_
  refine xx_getN (pc := 1) dX12_isName_1 sh_114 fX12_174_12 rfl ?_
  refine xx_iconst (pc := 4) dX12_isName_4 cc_iconst_1 ?_
  refine xx_icmp_neN (pc := 5) 81 dX12_isName_5 rfl (by omega) (by omega) (fun c1 => ?_) (fun c1 => ?_)
  · refine xx_iconst (pc := 81) dX12_isName_81 cc_iconst_0 ?_
    exact xx_iret (pc := 82) dX12_isName_82 rfl (rfl) (Nat.le_refl _) (Nat.le_refl _) (ic_re (ic_bo_f (by omega)).symm)
  · refine xx_aload_nP (pc := 8) dX12_isName_8 0 rfl rfl ?_
    refine xx_getN (pc := 9) dX12_isName_9 sh_114 fX12_159_12 rfl ?_
    refine xx_aload_nP (pc := 12) dX12_isName_12 0 rfl rfl ?_
    refine xx_getN (pc := 13) dX12_isName_13 sh_114 fX12_162_12 rfl ?_
    refine xx_isubN (pc := 16) dX12_isName_16 (by omega) ?_
    refine xx_iload_n (pc := 17) dX12_isName_17 1 rfl rfl ?_
    refine xx_icmp_neN (pc := 18) 81 dX12_isName_18 rfl (by omega) (by omega) (fun c2 => ?_) (fun c2 => ?_)
    · refine xx_iconst (pc := 81) dX12_isName_81 cc_iconst_0 ?_
      exact xx_iret (pc := 82) dX12_isName_82 rfl (rfl) (Nat.le_refl _) (Nat.le_refl _) (ic_re (ic_bo_f (by omega)).symm)
    · refine xx_aload_nP (pc := 21) dX12_isName_21 0 rfl rfl ?_
      refine xx_aload_nP (pc := 22) dX12_isName_22 0 rfl rfl ?_
      refine xx_getN (pc := 23) dX12_isName_23 sh_114 fX12_162_12 rfl ?_
      have hb_b3 := tk_b_lt hX (w 114 7)
      refine xx_callV0 (pc := 26) (st := []) sh_114 (cM_byteAt (w := w) (a := w 114 7) (by omega) hX) kX12_byteAt vX12_165_12 dX12_isName_26 rfl rfl (Nat.le_of_ble_eq_true rfl) ⟨Nat.le_of_ble_eq_true rfl, Nat.le_of_ble_eq_true rfl⟩ ⟨Nat.zero_le _, Nat.zero_le _⟩ (ic_ke ?_)
      refine xx_iload_n (pc := 29) dX12_isName_29 2 rfl rfl ?_
      refine xx_icmp_neN (pc := 30) 81 dX12_isName_30 rfl (by omega) (by omega) (fun c4 => ?_) (fun c4 => ?_)
      · refine xx_iconst (pc := 81) dX12_isName_81 cc_iconst_0 ?_
        exact xx_iret (pc := 82) dX12_isName_82 rfl (rfl) (Nat.le_refl _) (Nat.le_refl _) (ic_re (ic_bo_f (by omega)).symm)
      · refine xx_aload_nP (pc := 33) dX12_isName_33 0 rfl rfl ?_
        refine xx_aload_nP (pc := 34) dX12_isName_34 0 rfl rfl ?_
        refine xx_getN (pc := 35) dX12_isName_35 sh_114 fX12_162_12 rfl ?_
        refine xx_iconst (pc := 38) dX12_isName_38 cc_iconst_1 ?_
        refine xx_iaddN (pc := 39) dX12_isName_39 ?_
        have hb_b5 := tk_b_lt hX ((w 114 7) + 1)
        refine xx_callV0 (pc := 40) (st := []) sh_114 (cM_byteAt (w := w) (a := (w 114 7) + 1) (by omega) hX) kX12_byteAt vX12_165_12 dX12_isName_40 rfl rfl (Nat.le_of_ble_eq_true rfl) ⟨Nat.le_of_ble_eq_true rfl, Nat.le_of_ble_eq_true rfl⟩ ⟨Nat.zero_le _, Nat.zero_le _⟩ (ic_ke ?_)
        refine xx_iload_n (pc := 43) dX12_isName_43 3 rfl rfl ?_
        refine xx_icmp_neN (pc := 44) 81 dX12_isName_44 rfl (by omega) (by omega) (fun c6 => ?_) (fun c6 => ?_)
        · refine xx_iconst (pc := 81) dX12_isName_81 cc_iconst_0 ?_
          exact xx_iret (pc := 82) dX12_isName_82 rfl (rfl) (Nat.le_refl _) (Nat.le_refl _) (ic_re (ic_bo_f (by omega)).symm)
        · refine xx_aload_nP (pc := 47) dX12_isName_47 0 rfl rfl ?_
          refine xx_aload_nP (pc := 48) dX12_isName_48 0 rfl rfl ?_
          refine xx_getN (pc := 49) dX12_isName_49 sh_114 fX12_162_12 rfl ?_
          refine xx_iconst (pc := 52) dX12_isName_52 cc_iconst_2 ?_
          refine xx_iaddN (pc := 53) dX12_isName_53 ?_
          have hb_b7 := tk_b_lt hX ((w 114 7) + 2)
          refine xx_callV0 (pc := 54) (st := []) sh_114 (cM_byteAt (w := w) (a := (w 114 7) + 2) (by omega) hX) kX12_byteAt vX12_165_12 dX12_isName_54 rfl rfl (Nat.le_of_ble_eq_true rfl) ⟨Nat.le_of_ble_eq_true rfl, Nat.le_of_ble_eq_true rfl⟩ ⟨Nat.zero_le _, Nat.zero_le _⟩ (ic_ke ?_)
          refine xx_iload (pc := 57) dX12_isName_57 4 rfl ?_
          refine xx_icmp_neN (pc := 59) 81 dX12_isName_59 rfl (by omega) (by omega) (fun c8 => ?_) (fun c8 => ?_)
          · refine xx_iconst (pc := 81) dX12_isName_81 cc_iconst_0 ?_
            exact xx_iret (pc := 82) dX12_isName_82 rfl (rfl) (Nat.le_refl _) (Nat.le_refl _) (ic_re (ic_bo_f (by omega)).symm)
          · refine xx_aload_nP (pc := 62) dX12_isName_62 0 rfl rfl ?_
            refine xx_aload_nP (pc := 63) dX12_isName_63 0 rfl rfl ?_
            refine xx_getN (pc := 64) dX12_isName_64 sh_114 fX12_159_12 rfl ?_
            refine xx_iconst (pc := 67) dX12_isName_67 cc_iconst_1 ?_
            refine xx_isubN (pc := 68) dX12_isName_68 (by omega) ?_
            have hb_b9 := tk_b_lt hX ((w 114 8) - 1)
            refine xx_callV0 (pc := 69) (st := []) sh_114 (cM_byteAt (w := w) (a := (w 114 8) - 1) (by omega) hX) kX12_byteAt vX12_165_12 dX12_isName_69 rfl rfl (Nat.le_of_ble_eq_true rfl) ⟨Nat.le_of_ble_eq_true rfl, Nat.le_of_ble_eq_true rfl⟩ ⟨Nat.zero_le _, Nat.zero_le _⟩ (ic_ke ?_)
            refine xx_iload (pc := 72) dX12_isName_72 5 rfl ?_
            refine xx_icmp_neN (pc := 74) 81 dX12_isName_74 rfl (by omega) (by omega) (fun c10 => ?_) (fun c10 => ?_)
            · refine xx_iconst (pc := 81) dX12_isName_81 cc_iconst_0 ?_
              exact xx_iret (pc := 82) dX12_isName_82 rfl (rfl) (Nat.le_refl _) (Nat.le_refl _) (ic_re (ic_bo_f (by omega)).symm)
            · refine xx_iconst (pc := 77) dX12_isName_77 cc_iconst_1 ?_
              refine xx_goto (pc := 78) 82 dX12_isName_78 rfl ?_
              exact xx_iret (pc := 82) dX12_isName_82 rfl (rfl) (Nat.le_refl _) (Nat.le_refl _) (ic_re (ic_bo_t (by omega)).symm)

