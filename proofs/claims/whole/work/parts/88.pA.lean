/-! the reader of the rules: words of a text f of n bytes -/
def tk_c (v : Nat) : Nat := if 97 ≤ v ∧ v ≤ 122 then 1 else if 48 ≤ v ∧ v ≤ 57 then 2 else 3
/-- the sort of what stands at a -/
def tk_k (f : Nat → Nat) (n a : Nat) : Nat := if a < n then tk_c (f a) else 0
def tk_b (f : Nat → Nat) (n a : Nat) : Nat := if a < n then f a else 4294967295
/-- behind the blanks -/
def tk_s (f : Nat → Nat) : Nat → Nat → Nat
  | 0, a => a
  | k + 1, a => if f a = 32 then tk_s f k (a + 1) else a
/-- the end of what is of the sort t -/
def tk_r (f : Nat → Nat) (t : Nat) : Nat → Nat → Nat
  | 0, a => a
  | k + 1, a => if tk_c (f a) = t then tk_r f t k (a + 1) else a
/-- the text: bytes, n of them -/
def Tx (w : ic_w) (f : Nat → Nat) (n : Nat) : Prop := w 114 5 = n ∧ n ≤ 200 ∧ ∀ j, j < n → w 118 j = f j ∧ f j ≤ 255
theorem tk_b_lt {w : ic_w} {f : Nat → Nat} {n : Nat} (h : Tx w f n) (a : Nat) : tk_b f n a ≤ 255 ∨ tk_b f n a = 4294967295 := by
  unfold tk_b
  split
  · rename_i z
    exact Or.inl (h.2.2 a z).2
  · exact Or.inr rfl
theorem Tx.of {w u : ic_w} {f : Nat → Nat} {n : Nat} (h : Tx w f n) (e5 : u 114 5 = w 114 5) (e : u 118 = w 118) : Tx u f n := by
  unfold Tx
  rw [e5, e]
  exact h
set_option maxHeartbeats 4000000 in
set_option maxRecDepth 100000 in
theorem cM_isAlpha {l : Launch} {E : ic_E} {w : ic_w} {v : Nat} (hv : v ≤ 255 ∨ v = 4294967295) : ic_C l E mX12_isAlpha 1 0 0 False [.int (nI v)] SHs (hn w) SHs (ic_qe (nI (ic_bo (97 ≤ v ∧ v ≤ 122))) (hn w)) := by
  refine ic_intro (by decide +kernel) (Nat.le_of_ble_eq_true rfl) ?_
  show xx l E _ _ 0 [(0, .int (nI v))] _ _ _
  refine xx_iload_n (pc := 0) dX12_isAlpha_0 0 rfl rfl ?_
  refine xx_bipush (pc := 1) dX12_isAlpha_1 cc_bipush_97 ?_
  refine xx_icmp_ltS (pc := 3) 16 dX12_isAlpha_3 rfl (by omega) (by omega) (fun c1 => ?_) (fun c1 => ?_)
  · refine xx_iconst (pc := 16) dX12_isAlpha_16 cc_iconst_0 ?_
    exact xx_iret (pc := 17) dX12_isAlpha_17 rfl (rfl) (Nat.le_refl _) (Nat.le_refl _) (ic_re (ic_bo_f (by omega)).symm)
  · refine xx_iload_n (pc := 6) dX12_isAlpha_6 0 rfl rfl ?_
    refine xx_bipush (pc := 7) dX12_isAlpha_7 cc_bipush_122 ?_
    refine xx_icmp_gtS (pc := 9) 16 dX12_isAlpha_9 rfl (by omega) (by omega) (fun c2 => ?_) (fun c2 => ?_)
    · refine xx_iconst (pc := 16) dX12_isAlpha_16 cc_iconst_0 ?_
      exact xx_iret (pc := 17) dX12_isAlpha_17 rfl (rfl) (Nat.le_refl _) (Nat.le_refl _) (ic_re (ic_bo_f (by omega)).symm)
    · refine xx_iconst (pc := 12) dX12_isAlpha_12 cc_iconst_1 ?_
      refine xx_goto (pc := 13) 17 dX12_isAlpha_13 rfl ?_
      exact xx_iret (pc := 17) dX12_isAlpha_17 rfl (rfl) (Nat.le_refl _) (Nat.le_refl _) (ic_re (ic_bo_t (by omega)).symm)

set_option maxHeartbeats 4000000 in
set_option maxRecDepth 100000 in
theorem cM_isDigit {l : Launch} {E : ic_E} {w : ic_w} {v : Nat} (hv : v ≤ 255 ∨ v = 4294967295) : ic_C l E mX12_isDigit 1 0 0 False [.int (nI v)] SHs (hn w) SHs (ic_qe (nI (ic_bo (48 ≤ v ∧ v ≤ 57))) (hn w)) := by
  refine ic_intro (by decide +kernel) (Nat.le_of_ble_eq_true rfl) ?_
  show xx l E _ _ 0 [(0, .int (nI v))] _ _ _
  refine xx_iload_n (pc := 0) dX12_isDigit_0 0 rfl rfl ?_
  refine xx_bipush (pc := 1) dX12_isDigit_1 cc_bipush_48 ?_
  refine xx_icmp_ltS (pc := 3) 16 dX12_isDigit_3 rfl (by omega) (by omega) (fun c1 => ?_) (fun c1 => ?_)
  · refine xx_iconst (pc := 16) dX12_isDigit_16 cc_iconst_0 ?_
    exact xx_iret (pc := 17) dX12_isDigit_17 rfl (rfl) (Nat.le_refl _) (Nat.le_refl _) (ic_re (ic_bo_f (by omega)).symm)
  · refine xx_iload_n (pc := 6) dX12_isDigit_6 0 rfl rfl ?_
    refine xx_bipush (pc := 7) dX12_isDigit_7 cc_bipush_57 ?_
    refine xx_icmp_gtS (pc := 9) 16 dX12_isDigit_9 rfl (by omega) (by omega) (fun c2 => ?_) (fun c2 => ?_)
    · refine xx_iconst (pc := 16) dX12_isDigit_16 cc_iconst_0 ?_
      exact xx_iret (pc := 17) dX12_isDigit_17 rfl (rfl) (Nat.le_refl _) (Nat.le_refl _) (ic_re (ic_bo_f (by omega)).symm)
    · refine xx_iconst (pc := 12) dX12_isDigit_12 cc_iconst_1 ?_
      refine xx_goto (pc := 13) 17 dX12_isDigit_13 rfl ?_
      exact xx_iret (pc := 17) dX12_isDigit_17 rfl (rfl) (Nat.le_refl _) (Nat.le_refl _) (ic_re (ic_bo_t (by omega)).symm)

set_option maxHeartbeats 4000000 in
set_option maxRecDepth 100000 in
theorem cM_byteAt {l : Launch} {E : ic_E} {w : ic_w} {a : Nat} (ha : a < 2 ^ 31) {f : Nat → Nat} {n : Nat} (hX : Tx w f n) : ic_C l E mX12_byteAt 1 0 0 False [ic_pt E 114, .int (nI a)] SHs (hn w) SHs (ic_qe (nI (tk_b f n a)) (hn w)) := by
  refine ic_intro (by decide +kernel) (Nat.le_of_ble_eq_true rfl) ?_
  show xx l E _ _ 0 [(0, ic_pt E 114), (1, .int (nI a))] _ _ _
  have x5 := hX.1
  have x6 := hX.2.1
  refine xx_iload_n (pc := 0) dX12_byteAt_0 1 rfl rfl ?_
  refine xx_aload_nP (pc := 1) dX12_byteAt_1 0 rfl rfl ?_
  refine xx_getN (pc := 2) dX12_byteAt_2 sh_114 fX12_153_12 rfl ?_
  refine xx_icmp_geN (pc := 5) 17 dX12_byteAt_5 rfl (by omega) (by omega) (fun c1 => ?_) (fun c1 => ?_)
  · refine xx_iconst (pc := 17) dX12_byteAt_17 cc_iconst_m1 ?_
    exact xx_iret (pc := 18) dX12_byteAt_18 rfl (rfl) (Nat.le_refl _) (Nat.le_refl _) (ic_re (by unfold tk_b; rw [if_neg (by omega)]))
  · refine xx_aload_nP (pc := 8) dX12_byteAt_8 0 rfl rfl ?_
    refine xx_getR (pc := 9) 118 dX12_byteAt_9 sh_114 fX12_19_12 rfl rfl (by decide) ?_
    refine xx_iload_n (pc := 12) dX12_byteAt_12 1 rfl rfl ?_
    refine xx_ialdN (pc := 13) dX12_byteAt_13 sh_118 (by omega) (by decide) ?_
    refine xx_goto (pc := 14) 18 dX12_byteAt_14 rfl ?_
    exact xx_iret (pc := 18) dX12_byteAt_18 rfl (rfl) (Nat.le_refl _) (Nat.le_refl _) (ic_re (by unfold tk_b; rw [if_pos (by omega)]; exact (hX.2.2 a (by omega)).1))

set_option maxHeartbeats 4000000 in
set_option maxRecDepth 100000 in
theorem cM_isByte {l : Launch} {E : ic_E} {w : ic_w} {c : Nat} (hc_ : c ≤ 255) (h7 : w 114 7 ≤ 200) (h8 : w 114 8 ≤ 201) (h6 : w 114 6 ≤ 3) {f : Nat → Nat} {n : Nat} (hX : Tx w f n) : ic_C l E mX12_isByte 2 0 0 False [ic_pt E 114, .int (nI c)] SHs (hn w) SHs (ic_qe (nI (ic_bo (w 114 6 = 3 ∧ tk_b f n (w 114 7) = c))) (hn w)) := by
  refine ic_intro (by decide +kernel) (Nat.le_of_ble_eq_true rfl) ?_
  show xx l E _ _ 0 [(0, ic_pt E 114), (1, .int (nI c))] _ _ _
  refine xx_aload_nP (pc := 0) dX12_isByte_0 0 rfl rfl ?_
  refine xx_getN (pc := 1) dX12_isByte_1 sh_114 fX12_174_12 rfl ?_
  refine xx_iconst (pc := 4) dX12_isByte_4 cc_iconst_3 ?_
  refine xx_icmp_neN (pc := 5) 24 dX12_isByte_5 rfl (by omega) (by omega) (fun c1 => ?_) (fun c1 => ?_)
  · refine xx_iconst (pc := 24) dX12_isByte_24 cc_iconst_0 ?_
    exact xx_iret (pc := 25) dX12_isByte_25 rfl (rfl) (Nat.le_refl _) (Nat.le_refl _) (ic_re (ic_bo_f (by omega)).symm)
  · refine xx_aload_nP (pc := 8) dX12_isByte_8 0 rfl rfl ?_
    refine xx_aload_nP (pc := 9) dX12_isByte_9 0 rfl rfl ?_
    refine xx_getN (pc := 10) dX12_isByte_10 sh_114 fX12_162_12 rfl ?_
    have hb_b2 := tk_b_lt hX (w 114 7)
    refine xx_callV0 (pc := 13) (st := []) sh_114 (cM_byteAt (w := w) (a := w 114 7) (by omega) hX) kX12_byteAt vX12_165_12 dX12_isByte_13 rfl rfl (Nat.le_of_ble_eq_true rfl) ⟨Nat.le_of_ble_eq_true rfl, Nat.le_of_ble_eq_true rfl⟩ ⟨Nat.zero_le _, Nat.zero_le _⟩ (ic_ke ?_)
    refine xx_iload_n (pc := 16) dX12_isByte_16 1 rfl rfl ?_
    refine xx_icmp_neN (pc := 17) 24 dX12_isByte_17 rfl (by omega) (by omega) (fun c3 => ?_) (fun c3 => ?_)
    · refine xx_iconst (pc := 24) dX12_isByte_24 cc_iconst_0 ?_
      exact xx_iret (pc := 25) dX12_isByte_25 rfl (rfl) (Nat.le_refl _) (Nat.le_refl _) (ic_re (ic_bo_f (by omega)).symm)
    · refine xx_iconst (pc := 20) dX12_isByte_20 cc_iconst_1 ?_
      refine xx_goto (pc := 21) 25 dX12_isByte_21 rfl ?_
      exact xx_iret (pc := 25) dX12_isByte_25 rfl (rfl) (Nat.le_refl _) (Nat.le_refl _) (ic_re (ic_bo_t (by omega)).symm)

set_option maxHeartbeats 4000000 in
set_option maxRecDepth 100000 in
theorem cM_isTwo {l : Launch} {E : ic_E} {w : ic_w} {c : Nat} (hc_ : c ≤ 255) {d : Nat} (hd_ : d ≤ 255) (h7 : w 114 7 ≤ 200) (h8 : w 114 8 ≤ 201) (h6 : w 114 6 ≤ 3) (h78 : w 114 7 ≤ w 114 8) {f : Nat → Nat} {n : Nat} (hX : Tx w f n) : ic_C l E mX12_isTwo 2 0 0 False [ic_pt E 114, .int (nI c), .int (nI d)] SHs (hn w) SHs (ic_qe (nI (ic_bo (w 114 6 = 1 ∧ w 114 8 = w 114 7 + 2 ∧ tk_b f n (w 114 7) = c ∧ tk_b f n (w 114 7 + 1) = d))) (hn w)) := by
  refine ic_intro (by decide +kernel) (Nat.le_of_ble_eq_true rfl) ?_
  show xx l E _ _ 0 [(0, ic_pt E 114), (1, .int (nI c)), (2, .int (nI d))] _ _ _
  refine xx_aload_nP (pc := 0) dX12_isTwo_0 0 rfl rfl ?_
  refine xx_getN (pc := 1) dX12_isTwo_1 sh_114 fX12_174_12 rfl ?_
  refine xx_iconst (pc := 4) dX12_isTwo_4 cc_iconst_1 ?_
  refine xx_icmp_neN (pc := 5) 51 dX12_isTwo_5 rfl (by omega) (by omega) (fun c1 => ?_) (fun c1 => ?_)
  · refine xx_iconst (pc := 51) dX12_isTwo_51 cc_iconst_0 ?_
    exact xx_iret (pc := 52) dX12_isTwo_52 rfl (rfl) (Nat.le_refl _) (Nat.le_refl _) (ic_re (ic_bo_f (by omega)).symm)
  · refine xx_aload_nP (pc := 8) dX12_isTwo_8 0 rfl rfl ?_
    refine xx_getN (pc := 9) dX12_isTwo_9 sh_114 fX12_159_12 rfl ?_
    refine xx_aload_nP (pc := 12) dX12_isTwo_12 0 rfl rfl ?_
    refine xx_getN (pc := 13) dX12_isTwo_13 sh_114 fX12_162_12 rfl ?_
    refine xx_isubN (pc := 16) dX12_isTwo_16 (by omega) ?_
    refine xx_iconst (pc := 17) dX12_isTwo_17 cc_iconst_2 ?_
    refine xx_icmp_neN (pc := 18) 51 dX12_isTwo_18 rfl (by omega) (by omega) (fun c2 => ?_) (fun c2 => ?_)
    · refine xx_iconst (pc := 51) dX12_isTwo_51 cc_iconst_0 ?_
      exact xx_iret (pc := 52) dX12_isTwo_52 rfl (rfl) (Nat.le_refl _) (Nat.le_refl _) (ic_re (ic_bo_f (by omega)).symm)
    · refine xx_aload_nP (pc := 21) dX12_isTwo_21 0 rfl rfl ?_
      refine xx_aload_nP (pc := 22) dX12_isTwo_22 0 rfl rfl ?_
      refine xx_getN (pc := 23) dX12_isTwo_23 sh_114 fX12_162_12 rfl ?_
      have hb_b3 := tk_b_lt hX (w 114 7)
      refine xx_callV0 (pc := 26) (st := []) sh_114 (cM_byteAt (w := w) (a := w 114 7) (by omega) hX) kX12_byteAt vX12_165_12 dX12_isTwo_26 rfl rfl (Nat.le_of_ble_eq_true rfl) ⟨Nat.le_of_ble_eq_true rfl, Nat.le_of_ble_eq_true rfl⟩ ⟨Nat.zero_le _, Nat.zero_le _⟩ (ic_ke ?_)
      refine xx_iload_n (pc := 29) dX12_isTwo_29 1 rfl rfl ?_
      refine xx_icmp_neN (pc := 30) 51 dX12_isTwo_30 rfl (by omega) (by omega) (fun c4 => ?_) (fun c4 => ?_)
      · refine xx_iconst (pc := 51) dX12_isTwo_51 cc_iconst_0 ?_
        exact xx_iret (pc := 52) dX12_isTwo_52 rfl (rfl) (Nat.le_refl _) (Nat.le_refl _) (ic_re (ic_bo_f (by omega)).symm)
      · refine xx_aload_nP (pc := 33) dX12_isTwo_33 0 rfl rfl ?_
        refine xx_aload_nP (pc := 34) dX12_isTwo_34 0 rfl rfl ?_
        refine xx_getN (pc := 35) dX12_isTwo_35 sh_114 fX12_162_12 rfl ?_
        refine xx_iconst (pc := 38) dX12_isTwo_38 cc_iconst_1 ?_
        refine xx_iaddN (pc := 39) dX12_isTwo_39 ?_
        have hb_b5 := tk_b_lt hX ((w 114 7) + 1)
        refine xx_callV0 (pc := 40) (st := []) sh_114 (cM_byteAt (w := w) (a := (w 114 7) + 1) (by omega) hX) kX12_byteAt vX12_165_12 dX12_isTwo_40 rfl rfl (Nat.le_of_ble_eq_true rfl) ⟨Nat.le_of_ble_eq_true rfl, Nat.le_of_ble_eq_true rfl⟩ ⟨Nat.zero_le _, Nat.zero_le _⟩ (ic_ke ?_)
        refine xx_iload_n (pc := 43) dX12_isTwo_43 2 rfl rfl ?_
        refine xx_icmp_neN (pc := 44) 51 dX12_isTwo_44 rfl (by omega) (by omega) (fun c6 => ?_) (fun c6 => ?_)
        · refine xx_iconst (pc := 51) dX12_isTwo_51 cc_iconst_0 ?_
          exact xx_iret (pc := 52) dX12_isTwo_52 rfl (rfl) (Nat.le_refl _) (Nat.le_refl _) (ic_re (ic_bo_f (by omega)).symm)
        · refine xx_iconst (pc := 47) dX12_isTwo_47 cc_iconst_1 ?_
          refine xx_goto (pc := 48) 52 dX12_isTwo_48 rfl ?_
          exact xx_iret (pc := 52) dX12_isTwo_52 rfl (rfl) (Nat.le_refl _) (Nat.le_refl _) (ic_re (ic_bo_t (by omega)).symm)

set_option maxHeartbeats 4000000 in
set_option maxRecDepth 100000 in
theorem cM_isSame {l : Launch} {E : ic_E} {w : ic_w} {k k1 k2 : Nat} (hk : k ≤ 200) (hk1 : w 114 7 + k1 = w 114 7 + k + 1) (hk2 : w 114 7 + k2 = w 114 7 + k + 2) {c : Nat} (hc_ : c ≤ 255) {d : Nat} (hd_ : d ≤ 255) {e : Nat} (he_ : e ≤ 255) (h7 : w 114 7 ≤ 200) (h8 : w 114 8 ≤ 201) (h6 : w 114 6 ≤ 3) {f : Nat → Nat} {n : Nat} (hX : Tx w f n) : ic_C l E mX12_isSame 2 0 0 False [ic_pt E 114, .int (nI k), .int (nI c), .int (nI d), .int (nI e)] SHs (hn w) SHs (ic_qe (nI (ic_bo (tk_b f n (w 114 7 + k) = c ∧ tk_b f n (w 114 7 + k1) = d ∧ tk_b f n (w 114 7 + k2) = e))) (hn w)) := by
  refine ic_intro (by decide +kernel) (Nat.le_of_ble_eq_true rfl) ?_
  show xx l E _ _ 0 [(0, ic_pt E 114), (1, .int (nI k)), (2, .int (nI c)), (3, .int (nI d)), (4, .int (nI e))] _ _ _
  rw [hk1, hk2]
  refine xx_aload_nP (pc := 0) dX12_isSame_0 0 rfl rfl ?_
  refine xx_aload_nP (pc := 1) dX12_isSame_1 0 rfl rfl ?_
  refine xx_getN (pc := 2) dX12_isSame_2 sh_114 fX12_162_12 rfl ?_
  refine xx_iload_n (pc := 5) dX12_isSame_5 1 rfl rfl ?_
  refine xx_iaddN (pc := 6) dX12_isSame_6 ?_
  have hb_b1 := tk_b_lt hX ((w 114 7) + k)
  refine xx_callV0 (pc := 7) (st := []) sh_114 (cM_byteAt (w := w) (a := (w 114 7) + k) (by omega) hX) kX12_byteAt vX12_165_12 dX12_isSame_7 rfl rfl (Nat.le_of_ble_eq_true rfl) ⟨Nat.le_of_ble_eq_true rfl, Nat.le_of_ble_eq_true rfl⟩ ⟨Nat.zero_le _, Nat.zero_le _⟩ (ic_ke ?_)
  refine xx_iload_n (pc := 10) dX12_isSame_10 2 rfl rfl ?_
  refine xx_icmp_neN (pc := 11) 51 dX12_isSame_11 rfl (by omega) (by omega) (fun c2 => ?_) (fun c2 => ?_)
  · refine xx_iconst (pc := 51) dX12_isSame_51 cc_iconst_0 ?_
    exact xx_iret (pc := 52) dX12_isSame_52 rfl (rfl) (Nat.le_refl _) (Nat.le_refl _) (ic_re (ic_bo_f (by omega)).symm)
  · refine xx_aload_nP (pc := 14) dX12_isSame_14 0 rfl rfl ?_
    refine xx_aload_nP (pc := 15) dX12_isSame_15 0 rfl rfl ?_
    refine xx_getN (pc := 16) dX12_isSame_16 sh_114 fX12_162_12 rfl ?_
    refine xx_iload_n (pc := 19) dX12_isSame_19 1 rfl rfl ?_
    refine xx_iaddN (pc := 20) dX12_isSame_20 ?_
    refine xx_iconst (pc := 21) dX12_isSame_21 cc_iconst_1 ?_
    refine xx_iaddN (pc := 22) dX12_isSame_22 ?_
    have hb_b3 := tk_b_lt hX (((w 114 7) + k) + 1)
    refine xx_callV0 (pc := 23) (st := []) sh_114 (cM_byteAt (w := w) (a := ((w 114 7) + k) + 1) (by omega) hX) kX12_byteAt vX12_165_12 dX12_isSame_23 rfl rfl (Nat.le_of_ble_eq_true rfl) ⟨Nat.le_of_ble_eq_true rfl, Nat.le_of_ble_eq_true rfl⟩ ⟨Nat.zero_le _, Nat.zero_le _⟩ (ic_ke ?_)
    refine xx_iload_n (pc := 26) dX12_isSame_26 3 rfl rfl ?_
    refine xx_icmp_neN (pc := 27) 51 dX12_isSame_27 rfl (by omega) (by omega) (fun c4 => ?_) (fun c4 => ?_)
    · refine xx_iconst (pc := 51) dX12_isSame_51 cc_iconst_0 ?_
      exact xx_iret (pc := 52) dX12_isSame_52 rfl (rfl) (Nat.le_refl _) (Nat.le_refl _) (ic_re (ic_bo_f (by omega)).symm)
    · refine xx_aload_nP (pc := 30) dX12_isSame_30 0 rfl rfl ?_
      refine xx_aload_nP (pc := 31) dX12_isSame_31 0 rfl rfl ?_
      refine xx_getN (pc := 32) dX12_isSame_32 sh_114 fX12_162_12 rfl ?_
      refine xx_iload_n (pc := 35) dX12_isSame_35 1 rfl rfl ?_
      refine xx_iaddN (pc := 36) dX12_isSame_36 ?_
      refine xx_iconst (pc := 37) dX12_isSame_37 cc_iconst_2 ?_
      refine xx_iaddN (pc := 38) dX12_isSame_38 ?_
      have hb_b5 := tk_b_lt hX (((w 114 7) + k) + 2)
      refine xx_callV0 (pc := 39) (st := []) sh_114 (cM_byteAt (w := w) (a := ((w 114 7) + k) + 2) (by omega) hX) kX12_byteAt vX12_165_12 dX12_isSame_39 rfl rfl (Nat.le_of_ble_eq_true rfl) ⟨Nat.le_of_ble_eq_true rfl, Nat.le_of_ble_eq_true rfl⟩ ⟨Nat.zero_le _, Nat.zero_le _⟩ (ic_ke ?_)
      refine xx_iload (pc := 42) dX12_isSame_42 4 rfl ?_
      refine xx_icmp_neN (pc := 44) 51 dX12_isSame_44 rfl (by omega) (by omega) (fun c6 => ?_) (fun c6 => ?_)
      · refine xx_iconst (pc := 51) dX12_isSame_51 cc_iconst_0 ?_
        exact xx_iret (pc := 52) dX12_isSame_52 rfl (rfl) (Nat.le_refl _) (Nat.le_refl _) (ic_re (ic_bo_f (by omega)).symm)
      · refine xx_iconst (pc := 47) dX12_isSame_47 cc_iconst_1 ?_
        refine xx_goto (pc := 48) 52 dX12_isSame_48 rfl ?_
        exact xx_iret (pc := 52) dX12_isSame_52 rfl (rfl) (Nat.le_refl _) (Nat.le_refl _) (ic_re (ic_bo_t (by omega)).symm)

set_option maxHeartbeats 4000000 in
set_option maxRecDepth 100000 in
theorem cM_isName {l : Launch} {E : ic_E} {w : ic_w} {m m1 : Nat} (hm : m = m1 + 1) (hm2 : m ≤ 200) {c : Nat} (hc_ : c ≤ 255) {d : Nat} (hd_ : d ≤ 255) {e : Nat} (he_ : e ≤ 255) {g : Nat} (hg_ : g ≤ 255) (h7 : w 114 7 ≤ 200) (h8 : w 114 8 ≤ 201) (h6 : w 114 6 ≤ 3) (h78 : w 114 7 ≤ w 114 8) {f : Nat → Nat} {n : Nat} (hX : Tx w f n) : ic_C l E mX12_isName 2 0 0 False [ic_pt E 114, .int (nI m), .int (nI c), .int (nI d), .int (nI e), .int (nI g)] SHs (hn w) SHs (ic_qe (nI (ic_bo (w 114 6 = 1 ∧ w 114 8 = w 114 7 + m ∧ tk_b f n (w 114 7) = c ∧ tk_b f n (w 114 7 + 1) = d ∧ tk_b f n (w 114 7 + 2) = e ∧ tk_b f n (w 114 7 + m1) = g))) (hn w)) := by
  refine ic_intro (by decide +kernel) (Nat.le_of_ble_eq_true rfl) ?_
  show xx l E _ _ 0 [(0, ic_pt E 114), (1, .int (nI m)), (2, .int (nI c)), (3, .int (nI d)), (4, .int (nI e)), (5, .int (nI g))] _ _ _
  refine xx_aload_nP (pc := 0) dX12_isName_0 0 rfl rfl ?_
  refine xx_getN (pc := 1) dX12_isName_1 sh_114 fX12_174_12 rfl ?_
  refine xx_iconst (pc := 4) dX12_isName_4 cc_iconst_1 ?_
  refine xx_icmp_neN (pc := 5) 81 dX12_isName_5 rfl (by omega) (by omega) (fun c1 => ?_) (fun c1 => ?_)
  · refine xx_iconst (pc := 81) dX12_isName_81 cc_iconst_0 ?_
    exact xx_iret (pc := 82) dX12_isName_82 rfl (rfl) (Nat.le_refl _) (Nat.le_refl _) (ic_re (ic_bo_f (by omega)).symm)
  · refine xx_aload_nP (pc := 8) dX12_isName_8 0 rfl rfl ?_
    refine xx_getN (pc := 9) dX12_isName_9 sh_114 fX12_159_12 rfl ?_
    refine xx_aload_nP (pc := 12) dX12_isName_12 0 rfl rfl ?_
    refine xx_getN (pc := 13) dX12_isName_13 sh_114 fX12_162_12 rfl ?_
    refine xx_isubN (pc := 16) dX12_isName_16 (by omega) ?_
    refine xx_iload_n (pc := 17) dX12_isName_17 1 rfl rfl ?_
    refine xx_icmp_neN (pc := 18) 81 dX12_isName_18 rfl (by omega) (by omega) (fun c2 => ?_) (fun c2 => ?_)
    · refine xx_iconst (pc := 81) dX12_isName_81 cc_iconst_0 ?_
      exact xx_iret (pc := 82) dX12_isName_82 rfl (rfl) (Nat.le_refl _) (Nat.le_refl _) (ic_re (ic_bo_f (by omega)).symm)
    · refine xx_aload_nP (pc := 21) dX12_isName_21 0 rfl rfl ?_
      refine xx_aload_nP (pc := 22) dX12_isName_22 0 rfl rfl ?_
      refine xx_getN (pc := 23) dX12_isName_23 sh_114 fX12_162_12 rfl ?_
      have hb_b3 := tk_b_lt hX (w 114 7)
      refine xx_callV0 (pc := 26) (st := []) sh_114 (cM_byteAt (w := w) (a := w 114 7) (by omega) hX) kX12_byteAt vX12_165_12 dX12_isName_26 rfl rfl (Nat.le_of_ble_eq_true rfl) ⟨Nat.le_of_ble_eq_true rfl, Nat.le_of_ble_eq_true rfl⟩ ⟨Nat.zero_le _, Nat.zero_le _⟩ (ic_ke ?_)
      refine xx_iload_n (pc := 29) dX12_isName_29 2 rfl rfl ?_
      refine xx_icmp_neN (pc := 30) 81 dX12_isName_30 rfl (by omega) (by omega) (fun c4 => ?_) (fun c4 => ?_)
      · refine xx_iconst (pc := 81) dX12_isName_81 cc_iconst_0 ?_
        exact xx_iret (pc := 82) dX12_isName_82 rfl (rfl) (Nat.le_refl _) (Nat.le_refl _) (ic_re (ic_bo_f (by omega)).symm)
      · refine xx_aload_nP (pc := 33) dX12_isName_33 0 rfl rfl ?_
        refine xx_aload_nP (pc := 34) dX12_isName_34 0 rfl rfl ?_
        refine xx_getN (pc := 35) dX12_isName_35 sh_114 fX12_162_12 rfl ?_
        refine xx_iconst (pc := 38) dX12_isName_38 cc_iconst_1 ?_
        refine xx_iaddN (pc := 39) dX12_isName_39 ?_
        have hb_b5 := tk_b_lt hX ((w 114 7) + 1)
        refine xx_callV0 (pc := 40) (st := []) sh_114 (cM_byteAt (w := w) (a := (w 114 7) + 1) (by omega) hX) kX12_byteAt vX12_165_12 dX12_isName_40 rfl rfl (Nat.le_of_ble_eq_true rfl) ⟨Nat.le_of_ble_eq_true rfl, Nat.le_of_ble_eq_true rfl⟩ ⟨Nat.zero_le _, Nat.zero_le _⟩ (ic_ke ?_)
        refine xx_iload_n (pc := 43) dX12_isName_43 3 rfl rfl ?_
        refine xx_icmp_neN (pc := 44) 81 dX12_isName_44 rfl (by omega) (by omega) (fun c6 => ?_) (fun c6 => ?_)
        · refine xx_iconst (pc := 81) dX12_isName_81 cc_iconst_0 ?_
          exact xx_iret (pc := 82) dX12_isName_82 rfl (rfl) (Nat.le_refl _) (Nat.le_refl _) (ic_re (ic_bo_f (by omega)).symm)
        · refine xx_aload_nP (pc := 47) dX12_isName_47 0 rfl rfl ?_
          refine xx_aload_nP (pc := 48) dX12_isName_48 0 rfl rfl ?_
          refine xx_getN (pc := 49) dX12_isName_49 sh_114 fX12_162_12 rfl ?_
          refine xx_iconst (pc := 52) dX12_isName_52 cc_iconst_2 ?_
          refine xx_iaddN (pc := 53) dX12_isName_53 ?_
          have hb_b7 := tk_b_lt hX ((w 114 7) + 2)
          refine xx_callV0 (pc := 54) (st := []) sh_114 (cM_byteAt (w := w) (a := (w 114 7) + 2) (by omega) hX) kX12_byteAt vX12_165_12 dX12_isName_54 rfl rfl (Nat.le_of_ble_eq_true rfl) ⟨Nat.le_of_ble_eq_true rfl, Nat.le_of_ble_eq_true rfl⟩ ⟨Nat.zero_le _, Nat.zero_le _⟩ (ic_ke ?_)
          refine xx_iload (pc := 57) dX12_isName_57 4 rfl ?_
          refine xx_icmp_neN (pc := 59) 81 dX12_isName_59 rfl (by omega) (by omega) (fun c8 => ?_) (fun c8 => ?_)
          · refine xx_iconst (pc := 81) dX12_isName_81 cc_iconst_0 ?_
            exact xx_iret (pc := 82) dX12_isName_82 rfl (rfl) (Nat.le_refl _) (Nat.le_refl _) (ic_re (ic_bo_f (by omega)).symm)
          · refine xx_aload_nP (pc := 62) dX12_isName_62 0 rfl rfl ?_
            refine xx_aload_nP (pc := 63) dX12_isName_63 0 rfl rfl ?_
            refine xx_getN (pc := 64) dX12_isName_64 sh_114 fX12_159_12 rfl ?_
            refine xx_iconst (pc := 67) dX12_isName_67 cc_iconst_1 ?_
            refine xx_isubN (pc := 68) dX12_isName_68 (by omega) ?_
            refine xx_eqI (y := nI (w 114 7 + m1)) (by rw [show w 114 8 - 1 = w 114 7 + m1 by omega]) ?_
            have hb_b9 := tk_b_lt hX (w 114 7 + m1)
            refine xx_callV0 (pc := 69) (st := []) sh_114 (cM_byteAt (w := w) (a := w 114 7 + m1) (by omega) hX) kX12_byteAt vX12_165_12 dX12_isName_69 rfl rfl (Nat.le_of_ble_eq_true rfl) ⟨Nat.le_of_ble_eq_true rfl, Nat.le_of_ble_eq_true rfl⟩ ⟨Nat.zero_le _, Nat.zero_le _⟩ (ic_ke ?_)
            refine xx_iload (pc := 72) dX12_isName_72 5 rfl ?_
            refine xx_icmp_neN (pc := 74) 81 dX12_isName_74 rfl (by omega) (by omega) (fun c10 => ?_) (fun c10 => ?_)
            · refine xx_iconst (pc := 81) dX12_isName_81 cc_iconst_0 ?_
              exact xx_iret (pc := 82) dX12_isName_82 rfl (rfl) (Nat.le_refl _) (Nat.le_refl _) (ic_re (ic_bo_f (by omega)).symm)
            · refine xx_iconst (pc := 77) dX12_isName_77 cc_iconst_1 ?_
              refine xx_goto (pc := 78) 82 dX12_isName_78 rfl ?_
              exact xx_iret (pc := 82) dX12_isName_82 rfl (rfl) (Nat.le_refl _) (Nat.le_refl _) (ic_re (ic_bo_t (by omega)).symm)

/-- the word l is what stands from a to e -/
def tk_l (f : Nat → Nat) (n : Nat) : List Nat → Nat → Bool
  | [], _ => true
  | [c], a => tk_b f n a == c
  | c :: d :: cs, a => tk_b f n a == c && tk_l f n (d :: cs) (a + 1)
def tk_w (f : Nat → Nat) (n t a e : Nat) (l : List Nat) : Bool := t == 1 && (e == a + l.length && tk_l f n l a)
theorem wd_rider {f : Nat → Nat} {n t a e : Nat} : tk_w f n t a e [114, 105, 100, 101, 114] = true ↔ (t = 1 ∧ e = a + 5 ∧ tk_b f n a = 114 ∧ tk_b f n (a + 1) = 105 ∧ tk_b f n (a + 2) = 100 ∧ tk_b f n (a + 3) = 101 ∧ tk_b f n (a + 4) = 114) := by
  simp only [tk_w, tk_l, Bool.and_eq_true, beq_iff_eq, List.length]
theorem wd_regular {f : Nat → Nat} {n t a e : Nat} : tk_w f n t a e [114, 101, 103, 117, 108, 97, 114] = true ↔ (t = 1 ∧ e = a + 7 ∧ tk_b f n a = 114 ∧ tk_b f n (a + 1) = 101 ∧ tk_b f n (a + 2) = 103 ∧ tk_b f n (a + 3) = 117 ∧ tk_b f n (a + 4) = 108 ∧ tk_b f n (a + 5) = 97 ∧ tk_b f n (a + 6) = 114) := by
  simp only [tk_w, tk_l, Bool.and_eq_true, beq_iff_eq, List.length]
theorem wd_lady {f : Nat → Nat} {n t a e : Nat} : tk_w f n t a e [108, 97, 100, 121] = true ↔ (t = 1 ∧ e = a + 4 ∧ tk_b f n a = 108 ∧ tk_b f n (a + 1) = 97 ∧ tk_b f n (a + 2) = 100 ∧ tk_b f n (a + 3) = 121) := by
  simp only [tk_w, tk_l, Bool.and_eq_true, beq_iff_eq, List.length]
theorem wd_father {f : Nat → Nat} {n t a e : Nat} : tk_w f n t a e [102, 97, 116, 104, 101, 114] = true ↔ (t = 1 ∧ e = a + 6 ∧ tk_b f n a = 102 ∧ tk_b f n (a + 1) = 97 ∧ tk_b f n (a + 2) = 116 ∧ tk_b f n (a + 3) = 104 ∧ tk_b f n (a + 4) = 101 ∧ tk_b f n (a + 5) = 114) := by
  simp only [tk_w, tk_l, Bool.and_eq_true, beq_iff_eq, List.length]
theorem wd_clerk {f : Nat → Nat} {n t a e : Nat} : tk_w f n t a e [99, 108, 101, 114, 107] = true ↔ (t = 1 ∧ e = a + 5 ∧ tk_b f n a = 99 ∧ tk_b f n (a + 1) = 108 ∧ tk_b f n (a + 2) = 101 ∧ tk_b f n (a + 3) = 114 ∧ tk_b f n (a + 4) = 107) := by
  simp only [tk_w, tk_l, Bool.and_eq_true, beq_iff_eq, List.length]
theorem wd_barrier {f : Nat → Nat} {n t a e : Nat} : tk_w f n t a e [98, 97, 114, 114, 105, 101, 114] = true ↔ (t = 1 ∧ e = a + 7 ∧ tk_b f n a = 98 ∧ tk_b f n (a + 1) = 97 ∧ tk_b f n (a + 2) = 114 ∧ tk_b f n (a + 3) = 114 ∧ tk_b f n (a + 4) = 105 ∧ tk_b f n (a + 5) = 101 ∧ tk_b f n (a + 6) = 114) := by
  simp only [tk_w, tk_l, Bool.and_eq_true, beq_iff_eq, List.length]
theorem wd_exit {f : Nat → Nat} {n t a e : Nat} : tk_w f n t a e [101, 120, 105, 116] = true ↔ (t = 1 ∧ e = a + 4 ∧ tk_b f n a = 101 ∧ tk_b f n (a + 1) = 120 ∧ tk_b f n (a + 2) = 105 ∧ tk_b f n (a + 3) = 116) := by
  simp only [tk_w, tk_l, Bool.and_eq_true, beq_iff_eq, List.length]
theorem wd_ride {f : Nat → Nat} {n t a e : Nat} : tk_w f n t a e [114, 105, 100, 101] = true ↔ (t = 1 ∧ e = a + 4 ∧ tk_b f n a = 114 ∧ tk_b f n (a + 1) = 105 ∧ tk_b f n (a + 2) = 100 ∧ tk_b f n (a + 3) = 101) := by
  simp only [tk_w, tk_l, Bool.and_eq_true, beq_iff_eq, List.length]
theorem wd_stay {f : Nat → Nat} {n t a e : Nat} : tk_w f n t a e [115, 116, 97, 121] = true ↔ (t = 1 ∧ e = a + 4 ∧ tk_b f n a = 115 ∧ tk_b f n (a + 1) = 116 ∧ tk_b f n (a + 2) = 97 ∧ tk_b f n (a + 3) = 121) := by
  simp only [tk_w, tk_l, Bool.and_eq_true, beq_iff_eq, List.length]
theorem wd_train {f : Nat → Nat} {n t a e : Nat} : tk_w f n t a e [116, 114, 97, 105, 110] = true ↔ (t = 1 ∧ e = a + 5 ∧ tk_b f n a = 116 ∧ tk_b f n (a + 1) = 114 ∧ tk_b f n (a + 2) = 97 ∧ tk_b f n (a + 3) = 105 ∧ tk_b f n (a + 4) = 110) := by
  simp only [tk_w, tk_l, Bool.and_eq_true, beq_iff_eq, List.length]
theorem wd_depth {f : Nat → Nat} {n t a e : Nat} : tk_w f n t a e [100, 101, 112, 116, 104] = true ↔ (t = 1 ∧ e = a + 5 ∧ tk_b f n a = 100 ∧ tk_b f n (a + 1) = 101 ∧ tk_b f n (a + 2) = 112 ∧ tk_b f n (a + 3) = 116 ∧ tk_b f n (a + 4) = 104) := by
  simp only [tk_w, tk_l, Bool.and_eq_true, beq_iff_eq, List.length]
theorem wd_wish {f : Nat → Nat} {n t a e : Nat} : tk_w f n t a e [119, 105, 115, 104] = true ↔ (t = 1 ∧ e = a + 4 ∧ tk_b f n a = 119 ∧ tk_b f n (a + 1) = 105 ∧ tk_b f n (a + 2) = 115 ∧ tk_b f n (a + 3) = 104) := by
  simp only [tk_w, tk_l, Bool.and_eq_true, beq_iff_eq, List.length]
theorem wd_rush {f : Nat → Nat} {n t a e : Nat} : tk_w f n t a e [114, 117, 115, 104] = true ↔ (t = 1 ∧ e = a + 4 ∧ tk_b f n a = 114 ∧ tk_b f n (a + 1) = 117 ∧ tk_b f n (a + 2) = 115 ∧ tk_b f n (a + 3) = 104) := by
  simp only [tk_w, tk_l, Bool.and_eq_true, beq_iff_eq, List.length]
theorem wd_number {f : Nat → Nat} {n t a e : Nat} : tk_w f n t a e [110, 117, 109, 98, 101, 114] = true ↔ (t = 1 ∧ e = a + 6 ∧ tk_b f n a = 110 ∧ tk_b f n (a + 1) = 117 ∧ tk_b f n (a + 2) = 109 ∧ tk_b f n (a + 3) = 98 ∧ tk_b f n (a + 4) = 101 ∧ tk_b f n (a + 5) = 114) := by
  simp only [tk_w, tk_l, Bool.and_eq_true, beq_iff_eq, List.length]
theorem wd_if {f : Nat → Nat} {n t a e : Nat} : tk_w f n t a e [105, 102] = true ↔ (t = 1 ∧ e = a + 2 ∧ tk_b f n a = 105 ∧ tk_b f n (a + 1) = 102) := by
  simp only [tk_w, tk_l, Bool.and_eq_true, beq_iff_eq, List.length]
theorem wd_or {f : Nat → Nat} {n t a e : Nat} : tk_w f n t a e [111, 114] = true ↔ (t = 1 ∧ e = a + 2 ∧ tk_b f n a = 111 ∧ tk_b f n (a + 1) = 114) := by
  simp only [tk_w, tk_l, Bool.and_eq_true, beq_iff_eq, List.length]
theorem wd_and {f : Nat → Nat} {n t a e : Nat} : tk_w f n t a e [97, 110, 100] = true ↔ (t = 1 ∧ e = a + 3 ∧ tk_b f n a = 97 ∧ tk_b f n (a + 1) = 110 ∧ tk_b f n (a + 2) = 100) := by
  simp only [tk_w, tk_l, Bool.and_eq_true, beq_iff_eq, List.length]
theorem wd_not {f : Nat → Nat} {n t a e : Nat} : tk_w f n t a e [110, 111, 116] = true ↔ (t = 1 ∧ e = a + 3 ∧ tk_b f n a = 110 ∧ tk_b f n (a + 1) = 111 ∧ tk_b f n (a + 2) = 116) := by
  simp only [tk_w, tk_l, Bool.and_eq_true, beq_iff_eq, List.length]
def tk_kd (f : Nat → Nat) (n t a e : Nat) : Nat := if tk_w f n t a e [114, 105, 100, 101, 114] = true then 0 else if tk_w f n t a e [114, 101, 103, 117, 108, 97, 114] = true then 1 else if tk_w f n t a e [108, 97, 100, 121] = true then 2 else if tk_w f n t a e [102, 97, 116, 104, 101, 114] = true then 3 else if tk_w f n t a e [99, 108, 101, 114, 107] = true then 4 else if tk_w f n t a e [98, 97, 114, 114, 105, 101, 114] = true then 5 else 4294967295
def tk_dd (f : Nat → Nat) (n t a e : Nat) : Nat := if tk_w f n t a e [101, 120, 105, 116] = true then 0 else if tk_w f n t a e [114, 105, 100, 101] = true then 1 else if tk_w f n t a e [115, 116, 97, 121] = true then 2 else 4294967295
def tk_ft (f : Nat → Nat) (n t a e : Nat) : Nat := if tk_w f n t a e [116, 114, 97, 105, 110] = true then 0 else if tk_w f n t a e [100, 101, 112, 116, 104] = true then 1 else if tk_w f n t a e [119, 105, 115, 104] = true then 2 else if tk_w f n t a e [114, 117, 115, 104] = true then 3 else if tk_w f n t a e [110, 117, 109, 98, 101, 114] = true then 4 else 4294967295
set_option maxHeartbeats 4000000 in
set_option maxRecDepth 100000 in
theorem cM_kindHere {l : Launch} {E : ic_E} {w : ic_w} (h7 : w 114 7 ≤ 200) (h8 : w 114 8 ≤ 201) (h6 : w 114 6 ≤ 3) (h78 : w 114 7 ≤ w 114 8) {f : Nat → Nat} {n : Nat} (hX : Tx w f n) : ic_C l E mX12_kindHere 4 0 0 False [ic_pt E 114] SHs (hn w) SHs (ic_qe (nI (tk_kd f n (w 114 6) (w 114 7) (w 114 8))) (hn w)) := by
  refine ic_intro (by decide +kernel) (Nat.le_of_ble_eq_true rfl) ?_
  show xx l E _ _ 0 [(0, ic_pt E 114)] _ _ _
  have ct5 : ∀ (u_ : Unit), ¬ tk_w f n (w 114 6) (w 114 7) (w 114 8) [114, 105, 100, 101, 114] = true → ¬ tk_w f n (w 114 6) (w 114 7) (w 114 8) [114, 101, 103, 117, 108, 97, 114] = true → ¬ tk_w f n (w 114 6) (w 114 7) (w 114 8) [108, 97, 100, 121] = true → ¬ tk_w f n (w 114 6) (w 114 7) (w 114 8) [102, 97, 116, 104, 101, 114] = true → ¬ tk_w f n (w 114 6) (w 114 7) (w 114 8) [99, 108, 101, 114, 107] = true → xx l E (ic_fr E mX12_kindHere 4 0 0 False SHs (ic_qe (nI (tk_kd f n (w 114 6) (w 114 7) (w 114 8))) (hn w))) (0, 0) 150 [(0, ic_pt E 114)] [] SHs (hn w) := by
    intro u_ z0 z1 z2 z3 z4
    refine xx_aload_nP (pc := 150) dX12_kindHere_150 0 rfl rfl ?_
    refine xx_bipush (pc := 151) dX12_kindHere_151 cc_bipush_7 ?_
    refine xx_bipush (pc := 153) dX12_kindHere_153 cc_bipush_98 ?_
    refine xx_bipush (pc := 155) dX12_kindHere_155 cc_bipush_97 ?_
    refine xx_bipush (pc := 157) dX12_kindHere_157 cc_bipush_114 ?_
    refine xx_bipush (pc := 159) dX12_kindHere_159 cc_bipush_114 ?_
    refine xx_callV0 (pc := 161) (st := []) sh_114 (cM_isName (w := w) (m := 7) (m1 := 6) (c := 98) (d := 97) (e := 114) (g := 114) (by omega) (by omega) (by omega) (by omega) (by omega) (by omega) h7 h8 h6 h78 hX) kX12_isName vX12_187_12 dX12_kindHere_161 rfl rfl (Nat.le_of_ble_eq_true rfl) ⟨Nat.le_of_ble_eq_true rfl, Nat.le_of_ble_eq_true rfl⟩ ⟨Nat.zero_le _, Nat.zero_le _⟩ (ic_ke ?_)
    refine xx_if_eqB (pc := 164) 185 dX12_kindHere_164 rfl (fun c1 => ?_) (fun c1 => ?_)
    · refine xx_iconst (pc := 185) dX12_kindHere_185 cc_iconst_m1 ?_
      exact xx_iret (pc := 186) dX12_kindHere_186 rfl (rfl) (Nat.le_refl _) (Nat.le_refl _) (ic_re (by unfold tk_kd; rw [if_neg z0, if_neg z1, if_neg z2, if_neg z3, if_neg z4, if_neg (fun y => by rw [wd_barrier] at y; omega)]))
    · refine xx_aload_nP (pc := 167) dX12_kindHere_167 0 rfl rfl ?_
      refine xx_iconst (pc := 168) dX12_kindHere_168 cc_iconst_3 ?_
      refine xx_bipush (pc := 169) dX12_kindHere_169 cc_bipush_114 ?_
      refine xx_bipush (pc := 171) dX12_kindHere_171 cc_bipush_105 ?_
      refine xx_bipush (pc := 173) dX12_kindHere_173 cc_bipush_101 ?_
      refine xx_callV0 (pc := 175) (st := []) sh_114 (cM_isSame (w := w) (k := 3) (k1 := 4) (k2 := 5) (c := 114) (d := 105) (e := 101) (by omega) rfl rfl (by omega) (by omega) (by omega) h7 h8 h6 hX) kX12_isSame vX12_191_12 dX12_kindHere_175 rfl rfl (Nat.le_of_ble_eq_true rfl) ⟨Nat.le_of_ble_eq_true rfl, Nat.le_of_ble_eq_true rfl⟩ ⟨Nat.zero_le _, Nat.zero_le _⟩ (ic_ke ?_)
      refine xx_if_eqB (pc := 178) 185 dX12_kindHere_178 rfl (fun c2 => ?_) (fun c2 => ?_)
      · refine xx_iconst (pc := 185) dX12_kindHere_185 cc_iconst_m1 ?_
        exact xx_iret (pc := 186) dX12_kindHere_186 rfl (rfl) (Nat.le_refl _) (Nat.le_refl _) (ic_re (by unfold tk_kd; rw [if_neg z0, if_neg z1, if_neg z2, if_neg z3, if_neg z4, if_neg (fun y => by rw [wd_barrier] at y; omega)]))
      · refine xx_iconst (pc := 181) dX12_kindHere_181 cc_iconst_5 ?_
        refine xx_goto (pc := 182) 186 dX12_kindHere_182 rfl ?_
        exact xx_iret (pc := 186) dX12_kindHere_186 rfl (rfl) (Nat.le_refl _) (Nat.le_refl _) (ic_re (by unfold tk_kd; rw [if_neg z0, if_neg z1, if_neg z2, if_neg z3, if_neg z4, if_pos (show tk_w f n (w 114 6) (w 114 7) (w 114 8) [98, 97, 114, 114, 105, 101, 114] = true by rw [wd_barrier]; omega)]))
  have ct4 : ∀ (u_ : Unit), ¬ tk_w f n (w 114 6) (w 114 7) (w 114 8) [114, 105, 100, 101, 114] = true → ¬ tk_w f n (w 114 6) (w 114 7) (w 114 8) [114, 101, 103, 117, 108, 97, 114] = true → ¬ tk_w f n (w 114 6) (w 114 7) (w 114 8) [108, 97, 100, 121] = true → ¬ tk_w f n (w 114 6) (w 114 7) (w 114 8) [102, 97, 116, 104, 101, 114] = true → xx l E (ic_fr E mX12_kindHere 4 0 0 False SHs (ic_qe (nI (tk_kd f n (w 114 6) (w 114 7) (w 114 8))) (hn w))) (0, 0) 117 [(0, ic_pt E 114)] [] SHs (hn w) := by
    intro u_ z0 z1 z2 z3
    refine xx_aload_nP (pc := 117) dX12_kindHere_117 0 rfl rfl ?_
    refine xx_iconst (pc := 118) dX12_kindHere_118 cc_iconst_5 ?_
    refine xx_bipush (pc := 119) dX12_kindHere_119 cc_bipush_99 ?_
    refine xx_bipush (pc := 121) dX12_kindHere_121 cc_bipush_108 ?_
    refine xx_bipush (pc := 123) dX12_kindHere_123 cc_bipush_101 ?_
    refine xx_bipush (pc := 125) dX12_kindHere_125 cc_bipush_107 ?_
    refine xx_callV0 (pc := 127) (st := []) sh_114 (cM_isName (w := w) (m := 5) (m1 := 4) (c := 99) (d := 108) (e := 101) (g := 107) (by omega) (by omega) (by omega) (by omega) (by omega) (by omega) h7 h8 h6 h78 hX) kX12_isName vX12_187_12 dX12_kindHere_127 rfl rfl (Nat.le_of_ble_eq_true rfl) ⟨Nat.le_of_ble_eq_true rfl, Nat.le_of_ble_eq_true rfl⟩ ⟨Nat.zero_le _, Nat.zero_le _⟩ (ic_ke ?_)
    refine xx_if_eqB (pc := 130) 150 dX12_kindHere_130 rfl (fun c3 => ?_) (fun c3 => ?_)
    · exact xx_sub [0] rfl (ct5 () z0 z1 z2 z3 (fun y => by rw [wd_clerk] at y; omega))
    · refine xx_aload_nP (pc := 133) dX12_kindHere_133 0 rfl rfl ?_
      refine xx_aload_nP (pc := 134) dX12_kindHere_134 0 rfl rfl ?_
      refine xx_getN (pc := 135) dX12_kindHere_135 sh_114 fX12_162_12 rfl ?_
      refine xx_iconst (pc := 138) dX12_kindHere_138 cc_iconst_3 ?_
      refine xx_iaddN (pc := 139) dX12_kindHere_139 ?_
      have hb_b4 := tk_b_lt hX ((w 114 7) + 3)
      refine xx_callV0 (pc := 140) (st := []) sh_114 (cM_byteAt (w := w) (a := (w 114 7) + 3) (by omega) hX) kX12_byteAt vX12_165_12 dX12_kindHere_140 rfl rfl (Nat.le_of_ble_eq_true rfl) ⟨Nat.le_of_ble_eq_true rfl, Nat.le_of_ble_eq_true rfl⟩ ⟨Nat.zero_le _, Nat.zero_le _⟩ (ic_ke ?_)
      refine xx_bipush (pc := 143) dX12_kindHere_143 cc_bipush_114 ?_
      refine xx_icmp_neN (pc := 145) 150 dX12_kindHere_145 rfl (by omega) (by omega) (fun c5 => ?_) (fun c5 => ?_)
      · exact xx_sub [0] rfl (ct5 () z0 z1 z2 z3 (fun y => by rw [wd_clerk] at y; omega))
      · refine xx_iconst (pc := 148) dX12_kindHere_148 cc_iconst_4 ?_
        exact xx_iret (pc := 149) dX12_kindHere_149 rfl (rfl) (Nat.le_refl _) (Nat.le_refl _) (ic_re (by unfold tk_kd; rw [if_neg z0, if_neg z1, if_neg z2, if_neg z3, if_pos (show tk_w f n (w 114 6) (w 114 7) (w 114 8) [99, 108, 101, 114, 107] = true by rw [wd_clerk]; omega)]))
  have ct3 : ∀ (u_ : Unit), ¬ tk_w f n (w 114 6) (w 114 7) (w 114 8) [114, 105, 100, 101, 114] = true → ¬ tk_w f n (w 114 6) (w 114 7) (w 114 8) [114, 101, 103, 117, 108, 97, 114] = true → ¬ tk_w f n (w 114 6) (w 114 7) (w 114 8) [108, 97, 100, 121] = true → xx l E (ic_fr E mX12_kindHere 4 0 0 False SHs (ic_qe (nI (tk_kd f n (w 114 6) (w 114 7) (w 114 8))) (hn w))) (0, 0) 84 [(0, ic_pt E 114)] [] SHs (hn w) := by
    intro u_ z0 z1 z2
    refine xx_aload_nP (pc := 84) dX12_kindHere_84 0 rfl rfl ?_
    refine xx_bipush (pc := 85) dX12_kindHere_85 cc_bipush_6 ?_
    refine xx_bipush (pc := 87) dX12_kindHere_87 cc_bipush_102 ?_
    refine xx_bipush (pc := 89) dX12_kindHere_89 cc_bipush_97 ?_
    refine xx_bipush (pc := 91) dX12_kindHere_91 cc_bipush_116 ?_
    refine xx_bipush (pc := 93) dX12_kindHere_93 cc_bipush_114 ?_
    refine xx_callV0 (pc := 95) (st := []) sh_114 (cM_isName (w := w) (m := 6) (m1 := 5) (c := 102) (d := 97) (e := 116) (g := 114) (by omega) (by omega) (by omega) (by omega) (by omega) (by omega) h7 h8 h6 h78 hX) kX12_isName vX12_187_12 dX12_kindHere_95 rfl rfl (Nat.le_of_ble_eq_true rfl) ⟨Nat.le_of_ble_eq_true rfl, Nat.le_of_ble_eq_true rfl⟩ ⟨Nat.zero_le _, Nat.zero_le _⟩ (ic_ke ?_)
    refine xx_if_eqB (pc := 98) 117 dX12_kindHere_98 rfl (fun c6 => ?_) (fun c6 => ?_)
    · exact xx_sub [0] rfl (ct4 () z0 z1 z2 (fun y => by rw [wd_father] at y; omega))
    · refine xx_aload_nP (pc := 101) dX12_kindHere_101 0 rfl rfl ?_
      refine xx_iconst (pc := 102) dX12_kindHere_102 cc_iconst_2 ?_
      refine xx_bipush (pc := 103) dX12_kindHere_103 cc_bipush_116 ?_
      refine xx_bipush (pc := 105) dX12_kindHere_105 cc_bipush_104 ?_
      refine xx_bipush (pc := 107) dX12_kindHere_107 cc_bipush_101 ?_
      refine xx_callV0 (pc := 109) (st := []) sh_114 (cM_isSame (w := w) (k := 2) (k1 := 3) (k2 := 4) (c := 116) (d := 104) (e := 101) (by omega) rfl rfl (by omega) (by omega) (by omega) h7 h8 h6 hX) kX12_isSame vX12_191_12 dX12_kindHere_109 rfl rfl (Nat.le_of_ble_eq_true rfl) ⟨Nat.le_of_ble_eq_true rfl, Nat.le_of_ble_eq_true rfl⟩ ⟨Nat.zero_le _, Nat.zero_le _⟩ (ic_ke ?_)
      refine xx_if_eqB (pc := 112) 117 dX12_kindHere_112 rfl (fun c7 => ?_) (fun c7 => ?_)
      · exact xx_sub [0] rfl (ct4 () z0 z1 z2 (fun y => by rw [wd_father] at y; omega))
      · refine xx_iconst (pc := 115) dX12_kindHere_115 cc_iconst_3 ?_
        exact xx_iret (pc := 116) dX12_kindHere_116 rfl (rfl) (Nat.le_refl _) (Nat.le_refl _) (ic_re (by unfold tk_kd; rw [if_neg z0, if_neg z1, if_neg z2, if_pos (show tk_w f n (w 114 6) (w 114 7) (w 114 8) [102, 97, 116, 104, 101, 114] = true by rw [wd_father]; omega)]))
  have ct2 : ∀ (u_ : Unit), ¬ tk_w f n (w 114 6) (w 114 7) (w 114 8) [114, 105, 100, 101, 114] = true → ¬ tk_w f n (w 114 6) (w 114 7) (w 114 8) [114, 101, 103, 117, 108, 97, 114] = true → xx l E (ic_fr E mX12_kindHere 4 0 0 False SHs (ic_qe (nI (tk_kd f n (w 114 6) (w 114 7) (w 114 8))) (hn w))) (0, 0) 66 [(0, ic_pt E 114)] [] SHs (hn w) := by
    intro u_ z0 z1
    refine xx_aload_nP (pc := 66) dX12_kindHere_66 0 rfl rfl ?_
    refine xx_iconst (pc := 67) dX12_kindHere_67 cc_iconst_4 ?_
    refine xx_bipush (pc := 68) dX12_kindHere_68 cc_bipush_108 ?_
    refine xx_bipush (pc := 70) dX12_kindHere_70 cc_bipush_97 ?_
    refine xx_bipush (pc := 72) dX12_kindHere_72 cc_bipush_100 ?_
    refine xx_bipush (pc := 74) dX12_kindHere_74 cc_bipush_121 ?_
    refine xx_callV0 (pc := 76) (st := []) sh_114 (cM_isName (w := w) (m := 4) (m1 := 3) (c := 108) (d := 97) (e := 100) (g := 121) (by omega) (by omega) (by omega) (by omega) (by omega) (by omega) h7 h8 h6 h78 hX) kX12_isName vX12_187_12 dX12_kindHere_76 rfl rfl (Nat.le_of_ble_eq_true rfl) ⟨Nat.le_of_ble_eq_true rfl, Nat.le_of_ble_eq_true rfl⟩ ⟨Nat.zero_le _, Nat.zero_le _⟩ (ic_ke ?_)
    refine xx_if_eqB (pc := 79) 84 dX12_kindHere_79 rfl (fun c8 => ?_) (fun c8 => ?_)
    · exact xx_sub [0] rfl (ct3 () z0 z1 (fun y => by rw [wd_lady] at y; omega))
    · refine xx_iconst (pc := 82) dX12_kindHere_82 cc_iconst_2 ?_
      exact xx_iret (pc := 83) dX12_kindHere_83 rfl (rfl) (Nat.le_refl _) (Nat.le_refl _) (ic_re (by unfold tk_kd; rw [if_neg z0, if_neg z1, if_pos (show tk_w f n (w 114 6) (w 114 7) (w 114 8) [108, 97, 100, 121] = true by rw [wd_lady]; omega)]))
  have ct1 : ∀ (u_ : Unit), ¬ tk_w f n (w 114 6) (w 114 7) (w 114 8) [114, 105, 100, 101, 114] = true → xx l E (ic_fr E mX12_kindHere 4 0 0 False SHs (ic_qe (nI (tk_kd f n (w 114 6) (w 114 7) (w 114 8))) (hn w))) (0, 0) 33 [(0, ic_pt E 114)] [] SHs (hn w) := by
    intro u_ z0
    refine xx_aload_nP (pc := 33) dX12_kindHere_33 0 rfl rfl ?_
    refine xx_bipush (pc := 34) dX12_kindHere_34 cc_bipush_7 ?_
    refine xx_bipush (pc := 36) dX12_kindHere_36 cc_bipush_114 ?_
    refine xx_bipush (pc := 38) dX12_kindHere_38 cc_bipush_101 ?_
    refine xx_bipush (pc := 40) dX12_kindHere_40 cc_bipush_103 ?_
    refine xx_bipush (pc := 42) dX12_kindHere_42 cc_bipush_114 ?_
    refine xx_callV0 (pc := 44) (st := []) sh_114 (cM_isName (w := w) (m := 7) (m1 := 6) (c := 114) (d := 101) (e := 103) (g := 114) (by omega) (by omega) (by omega) (by omega) (by omega) (by omega) h7 h8 h6 h78 hX) kX12_isName vX12_187_12 dX12_kindHere_44 rfl rfl (Nat.le_of_ble_eq_true rfl) ⟨Nat.le_of_ble_eq_true rfl, Nat.le_of_ble_eq_true rfl⟩ ⟨Nat.zero_le _, Nat.zero_le _⟩ (ic_ke ?_)
    refine xx_if_eqB (pc := 47) 66 dX12_kindHere_47 rfl (fun c9 => ?_) (fun c9 => ?_)
    · exact xx_sub [0] rfl (ct2 () z0 (fun y => by rw [wd_regular] at y; omega))
    · refine xx_aload_nP (pc := 50) dX12_kindHere_50 0 rfl rfl ?_
      refine xx_iconst (pc := 51) dX12_kindHere_51 cc_iconst_3 ?_
      refine xx_bipush (pc := 52) dX12_kindHere_52 cc_bipush_117 ?_
      refine xx_bipush (pc := 54) dX12_kindHere_54 cc_bipush_108 ?_
      refine xx_bipush (pc := 56) dX12_kindHere_56 cc_bipush_97 ?_
      refine xx_callV0 (pc := 58) (st := []) sh_114 (cM_isSame (w := w) (k := 3) (k1 := 4) (k2 := 5) (c := 117) (d := 108) (e := 97) (by omega) rfl rfl (by omega) (by omega) (by omega) h7 h8 h6 hX) kX12_isSame vX12_191_12 dX12_kindHere_58 rfl rfl (Nat.le_of_ble_eq_true rfl) ⟨Nat.le_of_ble_eq_true rfl, Nat.le_of_ble_eq_true rfl⟩ ⟨Nat.zero_le _, Nat.zero_le _⟩ (ic_ke ?_)
      refine xx_if_eqB (pc := 61) 66 dX12_kindHere_61 rfl (fun c10 => ?_) (fun c10 => ?_)
      · exact xx_sub [0] rfl (ct2 () z0 (fun y => by rw [wd_regular] at y; omega))
      · refine xx_iconst (pc := 64) dX12_kindHere_64 cc_iconst_1 ?_
        exact xx_iret (pc := 65) dX12_kindHere_65 rfl (rfl) (Nat.le_refl _) (Nat.le_refl _) (ic_re (by unfold tk_kd; rw [if_neg z0, if_pos (show tk_w f n (w 114 6) (w 114 7) (w 114 8) [114, 101, 103, 117, 108, 97, 114] = true by rw [wd_regular]; omega)]))
  refine xx_aload_nP (pc := 0) dX12_kindHere_0 0 rfl rfl ?_
  refine xx_iconst (pc := 1) dX12_kindHere_1 cc_iconst_5 ?_
  refine xx_bipush (pc := 2) dX12_kindHere_2 cc_bipush_114 ?_
  refine xx_bipush (pc := 4) dX12_kindHere_4 cc_bipush_105 ?_
  refine xx_bipush (pc := 6) dX12_kindHere_6 cc_bipush_100 ?_
  refine xx_bipush (pc := 8) dX12_kindHere_8 cc_bipush_114 ?_
  refine xx_callV0 (pc := 10) (st := []) sh_114 (cM_isName (w := w) (m := 5) (m1 := 4) (c := 114) (d := 105) (e := 100) (g := 114) (by omega) (by omega) (by omega) (by omega) (by omega) (by omega) h7 h8 h6 h78 hX) kX12_isName vX12_187_12 dX12_kindHere_10 rfl rfl (Nat.le_of_ble_eq_true rfl) ⟨Nat.le_of_ble_eq_true rfl, Nat.le_of_ble_eq_true rfl⟩ ⟨Nat.zero_le _, Nat.zero_le _⟩ (ic_ke ?_)
  refine xx_if_eqB (pc := 13) 33 dX12_kindHere_13 rfl (fun c11 => ?_) (fun c11 => ?_)
  · exact xx_sub [0] rfl (ct1 () (fun y => by rw [wd_rider] at y; omega))
  · refine xx_aload_nP (pc := 16) dX12_kindHere_16 0 rfl rfl ?_
    refine xx_aload_nP (pc := 17) dX12_kindHere_17 0 rfl rfl ?_
    refine xx_getN (pc := 18) dX12_kindHere_18 sh_114 fX12_162_12 rfl ?_
    refine xx_iconst (pc := 21) dX12_kindHere_21 cc_iconst_3 ?_
    refine xx_iaddN (pc := 22) dX12_kindHere_22 ?_
    have hb_b12 := tk_b_lt hX ((w 114 7) + 3)
    refine xx_callV0 (pc := 23) (st := []) sh_114 (cM_byteAt (w := w) (a := (w 114 7) + 3) (by omega) hX) kX12_byteAt vX12_165_12 dX12_kindHere_23 rfl rfl (Nat.le_of_ble_eq_true rfl) ⟨Nat.le_of_ble_eq_true rfl, Nat.le_of_ble_eq_true rfl⟩ ⟨Nat.zero_le _, Nat.zero_le _⟩ (ic_ke ?_)
    refine xx_bipush (pc := 26) dX12_kindHere_26 cc_bipush_101 ?_
    refine xx_icmp_neN (pc := 28) 33 dX12_kindHere_28 rfl (by omega) (by omega) (fun c13 => ?_) (fun c13 => ?_)
    · exact xx_sub [0] rfl (ct1 () (fun y => by rw [wd_rider] at y; omega))
    · refine xx_iconst (pc := 31) dX12_kindHere_31 cc_iconst_0 ?_
      exact xx_iret (pc := 32) dX12_kindHere_32 rfl (rfl) (Nat.le_refl _) (Nat.le_refl _) (ic_re (by unfold tk_kd; rw [if_pos (show tk_w f n (w 114 6) (w 114 7) (w 114 8) [114, 105, 100, 101, 114] = true by rw [wd_rider]; omega)]))

set_option maxHeartbeats 4000000 in
set_option maxRecDepth 100000 in
theorem cM_doHere {l : Launch} {E : ic_E} {w : ic_w} (h7 : w 114 7 ≤ 200) (h8 : w 114 8 ≤ 201) (h6 : w 114 6 ≤ 3) (h78 : w 114 7 ≤ w 114 8) {f : Nat → Nat} {n : Nat} (hX : Tx w f n) : ic_C l E mX12_doHere 4 0 0 False [ic_pt E 114] SHs (hn w) SHs (ic_qe (nI (tk_dd f n (w 114 6) (w 114 7) (w 114 8))) (hn w)) := by
  refine ic_intro (by decide +kernel) (Nat.le_of_ble_eq_true rfl) ?_
  show xx l E _ _ 0 [(0, ic_pt E 114)] _ _ _
  have ct2 : ∀ (u_ : Unit), ¬ tk_w f n (w 114 6) (w 114 7) (w 114 8) [101, 120, 105, 116] = true → ¬ tk_w f n (w 114 6) (w 114 7) (w 114 8) [114, 105, 100, 101] = true → xx l E (ic_fr E mX12_doHere 4 0 0 False SHs (ic_qe (nI (tk_dd f n (w 114 6) (w 114 7) (w 114 8))) (hn w))) (0, 0) 36 [(0, ic_pt E 114)] [] SHs (hn w) := by
    intro u_ z0 z1
    refine xx_aload_nP (pc := 36) dX12_doHere_36 0 rfl rfl ?_
    refine xx_iconst (pc := 37) dX12_doHere_37 cc_iconst_4 ?_
    refine xx_bipush (pc := 38) dX12_doHere_38 cc_bipush_115 ?_
    refine xx_bipush (pc := 40) dX12_doHere_40 cc_bipush_116 ?_
    refine xx_bipush (pc := 42) dX12_doHere_42 cc_bipush_97 ?_
    refine xx_bipush (pc := 44) dX12_doHere_44 cc_bipush_121 ?_
    refine xx_callV0 (pc := 46) (st := []) sh_114 (cM_isName (w := w) (m := 4) (m1 := 3) (c := 115) (d := 116) (e := 97) (g := 121) (by omega) (by omega) (by omega) (by omega) (by omega) (by omega) h7 h8 h6 h78 hX) kX12_isName vX12_187_12 dX12_doHere_46 rfl rfl (Nat.le_of_ble_eq_true rfl) ⟨Nat.le_of_ble_eq_true rfl, Nat.le_of_ble_eq_true rfl⟩ ⟨Nat.zero_le _, Nat.zero_le _⟩ (ic_ke ?_)
    refine xx_if_eqB (pc := 49) 56 dX12_doHere_49 rfl (fun c1 => ?_) (fun c1 => ?_)
    · refine xx_iconst (pc := 56) dX12_doHere_56 cc_iconst_m1 ?_
      exact xx_iret (pc := 57) dX12_doHere_57 rfl (rfl) (Nat.le_refl _) (Nat.le_refl _) (ic_re (by unfold tk_dd; rw [if_neg z0, if_neg z1, if_neg (fun y => by rw [wd_stay] at y; omega)]))
    · refine xx_iconst (pc := 52) dX12_doHere_52 cc_iconst_2 ?_
      refine xx_goto (pc := 53) 57 dX12_doHere_53 rfl ?_
      exact xx_iret (pc := 57) dX12_doHere_57 rfl (rfl) (Nat.le_refl _) (Nat.le_refl _) (ic_re (by unfold tk_dd; rw [if_neg z0, if_neg z1, if_pos (show tk_w f n (w 114 6) (w 114 7) (w 114 8) [115, 116, 97, 121] = true by rw [wd_stay]; omega)]))
  have ct1 : ∀ (u_ : Unit), ¬ tk_w f n (w 114 6) (w 114 7) (w 114 8) [101, 120, 105, 116] = true → xx l E (ic_fr E mX12_doHere 4 0 0 False SHs (ic_qe (nI (tk_dd f n (w 114 6) (w 114 7) (w 114 8))) (hn w))) (0, 0) 18 [(0, ic_pt E 114)] [] SHs (hn w) := by
    intro u_ z0
    refine xx_aload_nP (pc := 18) dX12_doHere_18 0 rfl rfl ?_
    refine xx_iconst (pc := 19) dX12_doHere_19 cc_iconst_4 ?_
    refine xx_bipush (pc := 20) dX12_doHere_20 cc_bipush_114 ?_
    refine xx_bipush (pc := 22) dX12_doHere_22 cc_bipush_105 ?_
    refine xx_bipush (pc := 24) dX12_doHere_24 cc_bipush_100 ?_
    refine xx_bipush (pc := 26) dX12_doHere_26 cc_bipush_101 ?_
    refine xx_callV0 (pc := 28) (st := []) sh_114 (cM_isName (w := w) (m := 4) (m1 := 3) (c := 114) (d := 105) (e := 100) (g := 101) (by omega) (by omega) (by omega) (by omega) (by omega) (by omega) h7 h8 h6 h78 hX) kX12_isName vX12_187_12 dX12_doHere_28 rfl rfl (Nat.le_of_ble_eq_true rfl) ⟨Nat.le_of_ble_eq_true rfl, Nat.le_of_ble_eq_true rfl⟩ ⟨Nat.zero_le _, Nat.zero_le _⟩ (ic_ke ?_)
    refine xx_if_eqB (pc := 31) 36 dX12_doHere_31 rfl (fun c2 => ?_) (fun c2 => ?_)
    · exact xx_sub [0] rfl (ct2 () z0 (fun y => by rw [wd_ride] at y; omega))
    · refine xx_iconst (pc := 34) dX12_doHere_34 cc_iconst_1 ?_
      exact xx_iret (pc := 35) dX12_doHere_35 rfl (rfl) (Nat.le_refl _) (Nat.le_refl _) (ic_re (by unfold tk_dd; rw [if_neg z0, if_pos (show tk_w f n (w 114 6) (w 114 7) (w 114 8) [114, 105, 100, 101] = true by rw [wd_ride]; omega)]))
  refine xx_aload_nP (pc := 0) dX12_doHere_0 0 rfl rfl ?_
  refine xx_iconst (pc := 1) dX12_doHere_1 cc_iconst_4 ?_
  refine xx_bipush (pc := 2) dX12_doHere_2 cc_bipush_101 ?_
  refine xx_bipush (pc := 4) dX12_doHere_4 cc_bipush_120 ?_
  refine xx_bipush (pc := 6) dX12_doHere_6 cc_bipush_105 ?_
  refine xx_bipush (pc := 8) dX12_doHere_8 cc_bipush_116 ?_
  refine xx_callV0 (pc := 10) (st := []) sh_114 (cM_isName (w := w) (m := 4) (m1 := 3) (c := 101) (d := 120) (e := 105) (g := 116) (by omega) (by omega) (by omega) (by omega) (by omega) (by omega) h7 h8 h6 h78 hX) kX12_isName vX12_187_12 dX12_doHere_10 rfl rfl (Nat.le_of_ble_eq_true rfl) ⟨Nat.le_of_ble_eq_true rfl, Nat.le_of_ble_eq_true rfl⟩ ⟨Nat.zero_le _, Nat.zero_le _⟩ (ic_ke ?_)
  refine xx_if_eqB (pc := 13) 18 dX12_doHere_13 rfl (fun c3 => ?_) (fun c3 => ?_)
  · exact xx_sub [0] rfl (ct1 () (fun y => by rw [wd_exit] at y; omega))
  · refine xx_iconst (pc := 16) dX12_doHere_16 cc_iconst_0 ?_
    exact xx_iret (pc := 17) dX12_doHere_17 rfl (rfl) (Nat.le_refl _) (Nat.le_refl _) (ic_re (by unfold tk_dd; rw [if_pos (show tk_w f n (w 114 6) (w 114 7) (w 114 8) [101, 120, 105, 116] = true by rw [wd_exit]; omega)]))

set_option maxHeartbeats 4000000 in
set_option maxRecDepth 100000 in
theorem cM_factHere {l : Launch} {E : ic_E} {w : ic_w} (h7 : w 114 7 ≤ 200) (h8 : w 114 8 ≤ 201) (h6 : w 114 6 ≤ 3) (h78 : w 114 7 ≤ w 114 8) {f : Nat → Nat} {n : Nat} (hX : Tx w f n) : ic_C l E mX12_factHere 4 0 0 False [ic_pt E 114] SHs (hn w) SHs (ic_qe (nI (tk_ft f n (w 114 6) (w 114 7) (w 114 8))) (hn w)) := by
  refine ic_intro (by decide +kernel) (Nat.le_of_ble_eq_true rfl) ?_
  show xx l E _ _ 0 [(0, ic_pt E 114)] _ _ _
  have ct4 : ∀ (u_ : Unit), ¬ tk_w f n (w 114 6) (w 114 7) (w 114 8) [116, 114, 97, 105, 110] = true → ¬ tk_w f n (w 114 6) (w 114 7) (w 114 8) [100, 101, 112, 116, 104] = true → ¬ tk_w f n (w 114 6) (w 114 7) (w 114 8) [119, 105, 115, 104] = true → ¬ tk_w f n (w 114 6) (w 114 7) (w 114 8) [114, 117, 115, 104] = true → xx l E (ic_fr E mX12_factHere 4 0 0 False SHs (ic_qe (nI (tk_ft f n (w 114 6) (w 114 7) (w 114 8))) (hn w))) (0, 0) 102 [(0, ic_pt E 114)] [] SHs (hn w) := by
    intro u_ z0 z1 z2 z3
    refine xx_aload_nP (pc := 102) dX12_factHere_102 0 rfl rfl ?_
    refine xx_bipush (pc := 103) dX12_factHere_103 cc_bipush_6 ?_
    refine xx_bipush (pc := 105) dX12_factHere_105 cc_bipush_110 ?_
    refine xx_bipush (pc := 107) dX12_factHere_107 cc_bipush_117 ?_
    refine xx_bipush (pc := 109) dX12_factHere_109 cc_bipush_109 ?_
    refine xx_bipush (pc := 111) dX12_factHere_111 cc_bipush_114 ?_
    refine xx_callV0 (pc := 113) (st := []) sh_114 (cM_isName (w := w) (m := 6) (m1 := 5) (c := 110) (d := 117) (e := 109) (g := 114) (by omega) (by omega) (by omega) (by omega) (by omega) (by omega) h7 h8 h6 h78 hX) kX12_isName vX12_187_12 dX12_factHere_113 rfl rfl (Nat.le_of_ble_eq_true rfl) ⟨Nat.le_of_ble_eq_true rfl, Nat.le_of_ble_eq_true rfl⟩ ⟨Nat.zero_le _, Nat.zero_le _⟩ (ic_ke ?_)
    refine xx_if_eqB (pc := 116) 137 dX12_factHere_116 rfl (fun c1 => ?_) (fun c1 => ?_)
    · refine xx_iconst (pc := 137) dX12_factHere_137 cc_iconst_m1 ?_
      exact xx_iret (pc := 138) dX12_factHere_138 rfl (rfl) (Nat.le_refl _) (Nat.le_refl _) (ic_re (by unfold tk_ft; rw [if_neg z0, if_neg z1, if_neg z2, if_neg z3, if_neg (fun y => by rw [wd_number] at y; omega)]))
    · refine xx_aload_nP (pc := 119) dX12_factHere_119 0 rfl rfl ?_
      refine xx_iconst (pc := 120) dX12_factHere_120 cc_iconst_2 ?_
      refine xx_bipush (pc := 121) dX12_factHere_121 cc_bipush_109 ?_
      refine xx_bipush (pc := 123) dX12_factHere_123 cc_bipush_98 ?_
      refine xx_bipush (pc := 125) dX12_factHere_125 cc_bipush_101 ?_
      refine xx_callV0 (pc := 127) (st := []) sh_114 (cM_isSame (w := w) (k := 2) (k1 := 3) (k2 := 4) (c := 109) (d := 98) (e := 101) (by omega) rfl rfl (by omega) (by omega) (by omega) h7 h8 h6 hX) kX12_isSame vX12_191_12 dX12_factHere_127 rfl rfl (Nat.le_of_ble_eq_true rfl) ⟨Nat.le_of_ble_eq_true rfl, Nat.le_of_ble_eq_true rfl⟩ ⟨Nat.zero_le _, Nat.zero_le _⟩ (ic_ke ?_)
      refine xx_if_eqB (pc := 130) 137 dX12_factHere_130 rfl (fun c2 => ?_) (fun c2 => ?_)
      · refine xx_iconst (pc := 137) dX12_factHere_137 cc_iconst_m1 ?_
        exact xx_iret (pc := 138) dX12_factHere_138 rfl (rfl) (Nat.le_refl _) (Nat.le_refl _) (ic_re (by unfold tk_ft; rw [if_neg z0, if_neg z1, if_neg z2, if_neg z3, if_neg (fun y => by rw [wd_number] at y; omega)]))
      · refine xx_iconst (pc := 133) dX12_factHere_133 cc_iconst_4 ?_
        refine xx_goto (pc := 134) 138 dX12_factHere_134 rfl ?_
        exact xx_iret (pc := 138) dX12_factHere_138 rfl (rfl) (Nat.le_refl _) (Nat.le_refl _) (ic_re (by unfold tk_ft; rw [if_neg z0, if_neg z1, if_neg z2, if_neg z3, if_pos (show tk_w f n (w 114 6) (w 114 7) (w 114 8) [110, 117, 109, 98, 101, 114] = true by rw [wd_number]; omega)]))
  have ct3 : ∀ (u_ : Unit), ¬ tk_w f n (w 114 6) (w 114 7) (w 114 8) [116, 114, 97, 105, 110] = true → ¬ tk_w f n (w 114 6) (w 114 7) (w 114 8) [100, 101, 112, 116, 104] = true → ¬ tk_w f n (w 114 6) (w 114 7) (w 114 8) [119, 105, 115, 104] = true → xx l E (ic_fr E mX12_factHere 4 0 0 False SHs (ic_qe (nI (tk_ft f n (w 114 6) (w 114 7) (w 114 8))) (hn w))) (0, 0) 84 [(0, ic_pt E 114)] [] SHs (hn w) := by
    intro u_ z0 z1 z2
    refine xx_aload_nP (pc := 84) dX12_factHere_84 0 rfl rfl ?_
    refine xx_iconst (pc := 85) dX12_factHere_85 cc_iconst_4 ?_
    refine xx_bipush (pc := 86) dX12_factHere_86 cc_bipush_114 ?_
    refine xx_bipush (pc := 88) dX12_factHere_88 cc_bipush_117 ?_
    refine xx_bipush (pc := 90) dX12_factHere_90 cc_bipush_115 ?_
    refine xx_bipush (pc := 92) dX12_factHere_92 cc_bipush_104 ?_
    refine xx_callV0 (pc := 94) (st := []) sh_114 (cM_isName (w := w) (m := 4) (m1 := 3) (c := 114) (d := 117) (e := 115) (g := 104) (by omega) (by omega) (by omega) (by omega) (by omega) (by omega) h7 h8 h6 h78 hX) kX12_isName vX12_187_12 dX12_factHere_94 rfl rfl (Nat.le_of_ble_eq_true rfl) ⟨Nat.le_of_ble_eq_true rfl, Nat.le_of_ble_eq_true rfl⟩ ⟨Nat.zero_le _, Nat.zero_le _⟩ (ic_ke ?_)
    refine xx_if_eqB (pc := 97) 102 dX12_factHere_97 rfl (fun c3 => ?_) (fun c3 => ?_)
    · exact xx_sub [0] rfl (ct4 () z0 z1 z2 (fun y => by rw [wd_rush] at y; omega))
    · refine xx_iconst (pc := 100) dX12_factHere_100 cc_iconst_3 ?_
      exact xx_iret (pc := 101) dX12_factHere_101 rfl (rfl) (Nat.le_refl _) (Nat.le_refl _) (ic_re (by unfold tk_ft; rw [if_neg z0, if_neg z1, if_neg z2, if_pos (show tk_w f n (w 114 6) (w 114 7) (w 114 8) [114, 117, 115, 104] = true by rw [wd_rush]; omega)]))
  have ct2 : ∀ (u_ : Unit), ¬ tk_w f n (w 114 6) (w 114 7) (w 114 8) [116, 114, 97, 105, 110] = true → ¬ tk_w f n (w 114 6) (w 114 7) (w 114 8) [100, 101, 112, 116, 104] = true → xx l E (ic_fr E mX12_factHere 4 0 0 False SHs (ic_qe (nI (tk_ft f n (w 114 6) (w 114 7) (w 114 8))) (hn w))) (0, 0) 66 [(0, ic_pt E 114)] [] SHs (hn w) := by
    intro u_ z0 z1
    refine xx_aload_nP (pc := 66) dX12_factHere_66 0 rfl rfl ?_
    refine xx_iconst (pc := 67) dX12_factHere_67 cc_iconst_4 ?_
    refine xx_bipush (pc := 68) dX12_factHere_68 cc_bipush_119 ?_
    refine xx_bipush (pc := 70) dX12_factHere_70 cc_bipush_105 ?_
    refine xx_bipush (pc := 72) dX12_factHere_72 cc_bipush_115 ?_
    refine xx_bipush (pc := 74) dX12_factHere_74 cc_bipush_104 ?_
    refine xx_callV0 (pc := 76) (st := []) sh_114 (cM_isName (w := w) (m := 4) (m1 := 3) (c := 119) (d := 105) (e := 115) (g := 104) (by omega) (by omega) (by omega) (by omega) (by omega) (by omega) h7 h8 h6 h78 hX) kX12_isName vX12_187_12 dX12_factHere_76 rfl rfl (Nat.le_of_ble_eq_true rfl) ⟨Nat.le_of_ble_eq_true rfl, Nat.le_of_ble_eq_true rfl⟩ ⟨Nat.zero_le _, Nat.zero_le _⟩ (ic_ke ?_)
    refine xx_if_eqB (pc := 79) 84 dX12_factHere_79 rfl (fun c4 => ?_) (fun c4 => ?_)
    · exact xx_sub [0] rfl (ct3 () z0 z1 (fun y => by rw [wd_wish] at y; omega))
    · refine xx_iconst (pc := 82) dX12_factHere_82 cc_iconst_2 ?_
      exact xx_iret (pc := 83) dX12_factHere_83 rfl (rfl) (Nat.le_refl _) (Nat.le_refl _) (ic_re (by unfold tk_ft; rw [if_neg z0, if_neg z1, if_pos (show tk_w f n (w 114 6) (w 114 7) (w 114 8) [119, 105, 115, 104] = true by rw [wd_wish]; omega)]))
  have ct1 : ∀ (u_ : Unit), ¬ tk_w f n (w 114 6) (w 114 7) (w 114 8) [116, 114, 97, 105, 110] = true → xx l E (ic_fr E mX12_factHere 4 0 0 False SHs (ic_qe (nI (tk_ft f n (w 114 6) (w 114 7) (w 114 8))) (hn w))) (0, 0) 33 [(0, ic_pt E 114)] [] SHs (hn w) := by
    intro u_ z0
    refine xx_aload_nP (pc := 33) dX12_factHere_33 0 rfl rfl ?_
    refine xx_iconst (pc := 34) dX12_factHere_34 cc_iconst_5 ?_
    refine xx_bipush (pc := 35) dX12_factHere_35 cc_bipush_100 ?_
    refine xx_bipush (pc := 37) dX12_factHere_37 cc_bipush_101 ?_
    refine xx_bipush (pc := 39) dX12_factHere_39 cc_bipush_112 ?_
    refine xx_bipush (pc := 41) dX12_factHere_41 cc_bipush_104 ?_
    refine xx_callV0 (pc := 43) (st := []) sh_114 (cM_isName (w := w) (m := 5) (m1 := 4) (c := 100) (d := 101) (e := 112) (g := 104) (by omega) (by omega) (by omega) (by omega) (by omega) (by omega) h7 h8 h6 h78 hX) kX12_isName vX12_187_12 dX12_factHere_43 rfl rfl (Nat.le_of_ble_eq_true rfl) ⟨Nat.le_of_ble_eq_true rfl, Nat.le_of_ble_eq_true rfl⟩ ⟨Nat.zero_le _, Nat.zero_le _⟩ (ic_ke ?_)
    refine xx_if_eqB (pc := 46) 66 dX12_factHere_46 rfl (fun c5 => ?_) (fun c5 => ?_)
    · exact xx_sub [0] rfl (ct2 () z0 (fun y => by rw [wd_depth] at y; omega))
    · refine xx_aload_nP (pc := 49) dX12_factHere_49 0 rfl rfl ?_
      refine xx_aload_nP (pc := 50) dX12_factHere_50 0 rfl rfl ?_
      refine xx_getN (pc := 51) dX12_factHere_51 sh_114 fX12_162_12 rfl ?_
      refine xx_iconst (pc := 54) dX12_factHere_54 cc_iconst_3 ?_
      refine xx_iaddN (pc := 55) dX12_factHere_55 ?_
      have hb_b6 := tk_b_lt hX ((w 114 7) + 3)
      refine xx_callV0 (pc := 56) (st := []) sh_114 (cM_byteAt (w := w) (a := (w 114 7) + 3) (by omega) hX) kX12_byteAt vX12_165_12 dX12_factHere_56 rfl rfl (Nat.le_of_ble_eq_true rfl) ⟨Nat.le_of_ble_eq_true rfl, Nat.le_of_ble_eq_true rfl⟩ ⟨Nat.zero_le _, Nat.zero_le _⟩ (ic_ke ?_)
      refine xx_bipush (pc := 59) dX12_factHere_59 cc_bipush_116 ?_
      refine xx_icmp_neN (pc := 61) 66 dX12_factHere_61 rfl (by omega) (by omega) (fun c7 => ?_) (fun c7 => ?_)
      · exact xx_sub [0] rfl (ct2 () z0 (fun y => by rw [wd_depth] at y; omega))
      · refine xx_iconst (pc := 64) dX12_factHere_64 cc_iconst_1 ?_
        exact xx_iret (pc := 65) dX12_factHere_65 rfl (rfl) (Nat.le_refl _) (Nat.le_refl _) (ic_re (by unfold tk_ft; rw [if_neg z0, if_pos (show tk_w f n (w 114 6) (w 114 7) (w 114 8) [100, 101, 112, 116, 104] = true by rw [wd_depth]; omega)]))
  refine xx_aload_nP (pc := 0) dX12_factHere_0 0 rfl rfl ?_
  refine xx_iconst (pc := 1) dX12_factHere_1 cc_iconst_5 ?_
  refine xx_bipush (pc := 2) dX12_factHere_2 cc_bipush_116 ?_
  refine xx_bipush (pc := 4) dX12_factHere_4 cc_bipush_114 ?_
  refine xx_bipush (pc := 6) dX12_factHere_6 cc_bipush_97 ?_
  refine xx_bipush (pc := 8) dX12_factHere_8 cc_bipush_110 ?_
  refine xx_callV0 (pc := 10) (st := []) sh_114 (cM_isName (w := w) (m := 5) (m1 := 4) (c := 116) (d := 114) (e := 97) (g := 110) (by omega) (by omega) (by omega) (by omega) (by omega) (by omega) h7 h8 h6 h78 hX) kX12_isName vX12_187_12 dX12_factHere_10 rfl rfl (Nat.le_of_ble_eq_true rfl) ⟨Nat.le_of_ble_eq_true rfl, Nat.le_of_ble_eq_true rfl⟩ ⟨Nat.zero_le _, Nat.zero_le _⟩ (ic_ke ?_)
  refine xx_if_eqB (pc := 13) 33 dX12_factHere_13 rfl (fun c8 => ?_) (fun c8 => ?_)
  · exact xx_sub [0] rfl (ct1 () (fun y => by rw [wd_train] at y; omega))
  · refine xx_aload_nP (pc := 16) dX12_factHere_16 0 rfl rfl ?_
    refine xx_aload_nP (pc := 17) dX12_factHere_17 0 rfl rfl ?_
    refine xx_getN (pc := 18) dX12_factHere_18 sh_114 fX12_162_12 rfl ?_
    refine xx_iconst (pc := 21) dX12_factHere_21 cc_iconst_3 ?_
    refine xx_iaddN (pc := 22) dX12_factHere_22 ?_
    have hb_b9 := tk_b_lt hX ((w 114 7) + 3)
    refine xx_callV0 (pc := 23) (st := []) sh_114 (cM_byteAt (w := w) (a := (w 114 7) + 3) (by omega) hX) kX12_byteAt vX12_165_12 dX12_factHere_23 rfl rfl (Nat.le_of_ble_eq_true rfl) ⟨Nat.le_of_ble_eq_true rfl, Nat.le_of_ble_eq_true rfl⟩ ⟨Nat.zero_le _, Nat.zero_le _⟩ (ic_ke ?_)
    refine xx_bipush (pc := 26) dX12_factHere_26 cc_bipush_105 ?_
    refine xx_icmp_neN (pc := 28) 33 dX12_factHere_28 rfl (by omega) (by omega) (fun c10 => ?_) (fun c10 => ?_)
    · exact xx_sub [0] rfl (ct1 () (fun y => by rw [wd_train] at y; omega))
    · refine xx_iconst (pc := 31) dX12_factHere_31 cc_iconst_0 ?_
      exact xx_iret (pc := 32) dX12_factHere_32 rfl (rfl) (Nat.le_refl _) (Nat.le_refl _) (ic_re (by unfold tk_ft; rw [if_pos (show tk_w f n (w 114 6) (w 114 7) (w 114 8) [116, 114, 97, 105, 110] = true by rw [wd_train]; omega)]))

