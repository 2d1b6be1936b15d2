/-! the class's reader: the JDK's words -/
def ic_cy (i j : Nat) : Nat := tn ((ic_byt.getD i []).getD j 0)
def ic_wd (i : Nat) : List Nat := (ic_byt.getD i []).map tn
theorem ic_cy_le : ∀ i, i < 18 → ∀ j, j < 8 → ic_cy i j ≤ 122 := by decide +kernel
theorem ic_cy_and : ∀ v, v < 256 → v &&& 255 = v := by decide +kernel
theorem ic_cy_c : ∀ v, v < 256 → ((nI v).toUInt32 % 65536).toInt32 = nI v := by decide +kernel
theorem ic_len8 : ∀ i, i < 18 → ic_len.getD i 0 < 8 := by decide +kernel
theorem ic_wd_len : ∀ i, i < 18 → (ic_wd i).length = ic_len.getD i 0 := by decide +kernel
theorem ic_wd_at : ∀ i, i < 18 → ∀ j, j < 8 → (ic_wd i).getD j 0 = ic_cy i j := by decide +kernel
theorem cz_nar {v : Nat} (h : v < 256) : narrow .char (.int (nI v)) = .int (nI v) := congrArg Value.int (ic_cy_c v h)
set_option maxHeartbeats 4000000 in
set_option maxRecDepth 100000 in
theorem cJ_coder {l : Launch} {E : ic_E} {w : ic_w} {i : Nat} (hi : i < 18) : ic_C l E mJ0_coder_7d493 1 0 0 False [ic_sp E i] SHs (hn w) SHs (ic_qe (nI 0) (hn w)) := by
  refine ic_introF (by decide +kernel) (Nat.le_of_ble_eq_true rfl) ?_
  show xx l E _ _ 0 [(0, ic_sp E i)] _ _ _
  refine xx_getsC (pc := 0) dJ0_coder_7d493_0 gJ0_38 ?_
  refine xx_eqI (y := nI 1) rfl ?_
  refine xx_if_eqN (pc := 3) 13 dJ0_coder_7d493_3 rfl (by omega) (fun c1 => by exfalso; omega) (fun c1 => ?_)
  refine xx_aload_nG (v := ic_sp E i) (pc := 6) dJ0_coder_7d493_6 0 rfl rfl rfl ?_
  refine xx_strC (pc := 7) dJ0_coder_7d493_7 hi gJ0_15 ?_
  refine xx_goto (pc := 10) 14 dJ0_coder_7d493_10 rfl ?_
  exact xx_iret (pc := 14) dJ0_coder_7d493_14 rfl (rfl) (Nat.le_refl _) (Nat.le_refl _) (ic_re rfl)

set_option maxHeartbeats 4000000 in
set_option maxRecDepth 100000 in
theorem cJ_length {l : Launch} {E : ic_E} {w : ic_w} {i : Nat} (hi : i < 18) : ic_C l E mJ0_length_8abf5 2 0 0 False [ic_sp E i] SHs (hn w) SHs (ic_qe (nI (ic_len.getD i 0)) (hn w)) := by
  refine ic_introF (by decide +kernel) (Nat.le_of_ble_eq_true rfl) ?_
  show xx l E _ _ 0 [(0, ic_sp E i)] _ _ _
  refine xx_aload_nG (v := ic_sp E i) (pc := 0) dJ0_length_8abf5_0 0 rfl rfl rfl ?_
  refine xx_strV (pc := 1) dJ0_length_8abf5_1 hi gJ0_9 ?_
  refine xx_strL (pc := 4) dJ0_length_8abf5_4 hi ?_
  refine xx_aload_nG (v := ic_sp E i) (pc := 5) dJ0_length_8abf5_5 0 rfl rfl rfl ?_
  refine xx_callStr0 (pc := 6) (st := [.int (nI (ic_len.getD i 0))]) hi (cJ_coder (w := w) hi) kJ0_coder_7d493 tJ0_335 dJ0_length_8abf5_6 rfl rfl (Nat.le_of_ble_eq_true rfl) ⟨Nat.le_of_ble_eq_true rfl, Nat.le_of_ble_eq_true rfl⟩ ⟨Nat.zero_le _, Nat.zero_le _⟩ (ic_ke ?_)
  refine xx_ishrN (pc := 9) dJ0_length_8abf5_9 (by exact ic_len_lt i hi) (by omega) ?_
  exact xx_iret (pc := 10) dJ0_length_8abf5_10 rfl (rfl) (Nat.le_refl _) (Nat.le_refl _) (ic_re (by rw [Nat.pow_zero, Nat.div_one]))

set_option maxHeartbeats 4000000 in
set_option maxRecDepth 100000 in
theorem cJ_latin {l : Launch} {E : ic_E} {w : ic_w} {i : Nat} (hi : i < 18) : ic_C l E mJ0_isLatin1_aae02 1 0 0 False [ic_sp E i] SHs (hn w) SHs (ic_qe (nI 1) (hn w)) := by
  refine ic_introF (by decide +kernel) (Nat.le_of_ble_eq_true rfl) ?_
  show xx l E _ _ 0 [(0, ic_sp E i)] _ _ _
  refine xx_getsC (pc := 0) dJ0_isLatin1_aae02_0 gJ0_38 ?_
  refine xx_eqI (y := nI 1) rfl ?_
  refine xx_if_eqN (pc := 3) 17 dJ0_isLatin1_aae02_3 rfl (by omega) (fun c1 => by exfalso; omega) (fun c1 => ?_)
  refine xx_aload_nG (v := ic_sp E i) (pc := 6) dJ0_isLatin1_aae02_6 0 rfl rfl rfl ?_
  refine xx_strC (pc := 7) dJ0_isLatin1_aae02_7 hi gJ0_15 ?_
  refine xx_eqI (y := nI (0)) (by decide +kernel) ?_
  refine xx_if_neN (pc := 10) 17 dJ0_isLatin1_aae02_10 rfl (by omega) (fun c2 => by exfalso; omega) (fun c2 => ?_)
  refine xx_iconst (pc := 13) dJ0_isLatin1_aae02_13 cc_iconst_1 ?_
  refine xx_goto (pc := 14) 18 dJ0_isLatin1_aae02_14 rfl ?_
  exact xx_iret (pc := 18) dJ0_isLatin1_aae02_18 rfl (rfl) (Nat.le_refl _) (Nat.le_refl _) (ic_re rfl)

set_option maxHeartbeats 4000000 in
set_option maxRecDepth 100000 in
theorem cJ_chkP {l : Launch} {E : ic_E} {w : ic_w} (hP : Value.category E.2.2.2.2.2.2 = 1) {a b : Nat} (hab : a < b) (hb : b < 2 ^ 31) : ic_C l E mJ3_checkIndex_8e157 1 0 0 False [.int (nI a), .int (nI b), E.2.2.2.2.2.2] SHs (hn w) SHs (ic_qe (nI a) (hn w)) := by
  refine ic_introF (by decide +kernel) (by have h1 : ∀ x, Value.category (.int x) = 1 := fun _ => rfl; simp [lg_sl, hP, h1]) ?_
  show xx l E _ _ 0 [(0, .int (nI a)), (1, .int (nI b)), (2, E.2.2.2.2.2.2)] _ _ _
  refine xx_iload_n (pc := 0) dJ3_checkIndex_8e157_0 0 rfl rfl ?_
  refine xx_if_ltN (pc := 1) 9 dJ3_checkIndex_8e157_1 rfl (by omega) (fun c1 => by exfalso; omega) (fun c1 => ?_)
  refine xx_iload_n (pc := 4) dJ3_checkIndex_8e157_4 0 rfl rfl ?_
  refine xx_iload_n (pc := 5) dJ3_checkIndex_8e157_5 1 rfl rfl ?_
  refine xx_icmp_ltN (pc := 6) 16 dJ3_checkIndex_8e157_6 rfl (by omega) (by omega) (fun c2 => ?_) (fun c2 => by exfalso; omega)
  refine xx_iload_n (pc := 16) dJ3_checkIndex_8e157_16 0 rfl rfl ?_
  exact xx_iret (pc := 17) dJ3_checkIndex_8e157_17 rfl (rfl) (Nat.le_refl _) (Nat.le_refl _) (ic_re rfl)

set_option maxHeartbeats 4000000 in
set_option maxRecDepth 100000 in
theorem cJ_chk {l : Launch} {E : ic_E} {w : ic_w} (hP : Value.category E.2.2.2.2.2.2 = 1) {a b : Nat} (hab : a < b) (hb : b < 2 ^ 31) : ic_C l E mJ0_checkIndex_df160 2 0 0 False [.int (nI a), .int (nI b)] SHs (hn w) SHs (ic_qv (fun h_ => h_ = hn w)) := by
  refine ic_introF (by decide +kernel) (Nat.le_of_ble_eq_true rfl) ?_
  show xx l E _ _ 0 [(0, .int (nI a)), (1, .int (nI b))] _ _ _
  refine xx_iload_n (pc := 0) dJ0_checkIndex_df160_0 0 rfl rfl ?_
  refine xx_iload_n (pc := 1) dJ0_checkIndex_df160_1 1 rfl rfl ?_
  refine xx_getsP (pc := 2) dJ0_checkIndex_df160_2 gJ0_1053 ?_
  refine xx_callS0 (pc := 5) (st := []) (cJ_chkP (w := w) (a := a) (b := b) hP hab hb) kJ3_checkIndex_8e157 sJ0_1059 dJ0_checkIndex_df160_5 rfl rfl (Nat.le_of_ble_eq_true rfl) ⟨Nat.le_of_ble_eq_true rfl, Nat.le_of_ble_eq_true rfl⟩ ⟨Nat.zero_le _, Nat.zero_le _⟩ (ic_ke ?_)
  refine xx_pop (pc := 8) dJ0_checkIndex_df160_8 rfl ?_
  exact xx_vret (pc := 9) dJ0_checkIndex_df160_9 rfl (Nat.le_refl _) (Nat.le_refl _) (ic_rv0 rfl)

set_option maxHeartbeats 4000000 in
set_option maxRecDepth 100000 in
theorem cJ_at1 {l : Launch} {E : ic_E} {w : ic_w} (hP : Value.category E.2.2.2.2.2.2 = 1) {i : Nat} (hi : i < 18) {j : Nat} (hj : j < ic_len.getD i 0) : ic_C l E mJ1_charAt_3b067 3 0 0 False [ic_bp E i, .int (nI j)] SHs (hn w) SHs (ic_qe (nI (ic_cy i j)) (hn w)) := by
  refine ic_introF (by decide +kernel) (Nat.le_of_ble_eq_true rfl) ?_
  show xx l E _ _ 0 [(0, ic_bp E i), (1, .int (nI j))] _ _ _
  have hj8 : j < 8 := Nat.lt_trans hj (ic_len8 i hi)
  have hc_ := ic_cy_le i hi j hj8
  have hj31 := ic_len_lt i hi
  refine xx_iload_n (pc := 0) dJ1_charAt_3b067_0 1 rfl rfl ?_
  refine xx_aload_nG (v := ic_bp E i) (pc := 1) dJ1_charAt_3b067_1 0 rfl rfl rfl ?_
  refine xx_strL (pc := 2) dJ1_charAt_3b067_2 hi ?_
  refine xx_callS0 (pc := 3) (st := []) (cJ_chk (w := w) (a := j) (b := ic_len.getD i 0) hP hj (ic_len_lt i hi)) kJ0_checkIndex_df160 sJ1_9 dJ1_charAt_3b067_3 rfl rfl (Nat.le_of_ble_eq_true rfl) ⟨Nat.le_of_ble_eq_true rfl, Nat.le_of_ble_eq_true rfl⟩ ⟨Nat.zero_le _, Nat.zero_le _⟩ (ic_kv (fun h_ qw1 => ?_))
  obtain ⟨w1, e_w1⟩ : ∃ u, u = w := ⟨w, rfl⟩
  rw [← e_w1] at qw1
  subst qw1
  refine xx_aload_nG (v := ic_bp E i) (pc := 6) dJ1_charAt_3b067_6 0 rfl rfl rfl ?_
  refine xx_iload_n (pc := 7) dJ1_charAt_3b067_7 1 rfl rfl ?_
  refine xx_strB (pc := 8) j dJ1_charAt_3b067_8 hi rfl (by omega) ?_
  refine xx_eqI (y := nI (ic_cy i j)) (by unfold ic_cy; rw [nI_tn]) ?_
  refine xx_sipush (pc := 9) dJ1_charAt_3b067_9 cc_sipush_255 ?_
  refine xx_iandN (pc := 12) dJ1_charAt_3b067_12 ?_
  refine xx_eqI (y := nI (ic_cy i j)) (by rw [ic_cy_and _ (by omega)]) ?_
  refine xx_i2c (pc := 13) dJ1_charAt_3b067_13 ?_
  refine xx_eqI (y := nI (ic_cy i j)) (ic_cy_c _ (by omega)) ?_
  exact xx_iret (pc := 14) dJ1_charAt_3b067_14 rfl (cz_nar (by omega)) (Nat.le_refl _) (Nat.le_refl _) (by rw [e_w1]; exact ic_re rfl)

set_option maxHeartbeats 4000000 in
set_option maxRecDepth 100000 in
theorem cJ_charAt {l : Launch} {E : ic_E} {w : ic_w} (hP : Value.category E.2.2.2.2.2.2 = 1) {i : Nat} (hi : i < 18) {j : Nat} (hj : j < ic_len.getD i 0) : ic_C l E mJ0_charAt_5068e 4 0 0 False [ic_sp E i, .int (nI j)] SHs (hn w) SHs (ic_qe (nI (ic_cy i j)) (hn w)) := by
  refine ic_introF (by decide +kernel) (Nat.le_of_ble_eq_true rfl) ?_
  show xx l E _ _ 0 [(0, ic_sp E i), (1, .int (nI j))] _ _ _
  have hj8 : j < 8 := Nat.lt_trans hj (ic_len8 i hi)
  have hc_ := ic_cy_le i hi j hj8
  refine xx_aload_nG (v := ic_sp E i) (pc := 0) dJ0_charAt_5068e_0 0 rfl rfl rfl ?_
  refine xx_callStr0 (pc := 1) (st := []) hi (cJ_latin (w := w) hi) kJ0_isLatin1_aae02 tJ0_492 dJ0_charAt_5068e_1 rfl rfl (Nat.le_of_ble_eq_true rfl) ⟨Nat.le_of_ble_eq_true rfl, Nat.le_of_ble_eq_true rfl⟩ ⟨Nat.zero_le _, Nat.zero_le _⟩ (ic_ke ?_)
  refine xx_if_eqN (pc := 4) 16 dJ0_charAt_5068e_4 rfl (by omega) (fun c1 => by exfalso; omega) (fun c1 => ?_)
  refine xx_aload_nG (v := ic_sp E i) (pc := 7) dJ0_charAt_5068e_7 0 rfl rfl rfl ?_
  refine xx_strV (pc := 8) dJ0_charAt_5068e_8 hi gJ0_9 ?_
  refine xx_iload_n (pc := 11) dJ0_charAt_5068e_11 1 rfl rfl ?_
  refine xx_callS0 (pc := 12) (st := []) (cJ_at1 (w := w) (i := i) (j := j) hP hi hj) kJ1_charAt_3b067 sJ0_495 dJ0_charAt_5068e_12 rfl rfl (Nat.le_of_ble_eq_true rfl) ⟨Nat.le_of_ble_eq_true rfl, Nat.le_of_ble_eq_true rfl⟩ ⟨Nat.zero_le _, Nat.zero_le _⟩ (ic_ke ?_)
  exact xx_iret (pc := 15) dJ0_charAt_5068e_15 rfl (cz_nar (by omega)) (Nat.le_refl _) (Nat.le_refl _) (ic_re rfl)

