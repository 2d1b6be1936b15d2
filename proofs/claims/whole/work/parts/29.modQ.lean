/-! sheets -/
def mo_by (v : Nat) : Nat := tn (nI v).toInt8.toInt32
def mo_sh (v : Nat) : Nat := tn (nI v).toInt16.toInt32
def mo_cv (sort v : Nat) : Nat := if sort = 0 then mo_by v else if sort = 1 then mo_sh v else if sort = 4 then (if v = 0 then 0 else 1) else v
theorem mo_cv_lt {sort v : Nat} (h : v < 2 ^ 32) : mo_cv sort v < 2 ^ 32 := by
  unfold mo_cv
  repeat' split
  all_goals first | exact tn_lt _ | omega
theorem ll_row2 {a r : Nat} (ha : a < 2 ^ 32) (hr : r ≤ 40) : ((0 : Int64).toInt ≤ ((nI a).toInt64).toInt ∧ ((nI a).toInt64).toInt ≤ ((nI (r + (4294967296 - 1))).toInt64).toInt) ↔ a < r := by
  rw [ll_i ha, ← nI_mod (r + (4294967296 - 1)), ll_i (Nat.mod_lt _ (by decide)), show (0 : Int64).toInt = 0 from rfl]
  split <;> split <;> omega
theorem ll_m1 {a b : Nat} {u : Int64} (ha : a < 2 ^ 32) (hu : u.toInt = (b : Int)) (hb : b < 2 ^ 31) : ((-1 : Int64).toInt ≤ ((nI a).toInt64).toInt ∧ ((nI a).toInt64).toInt ≤ u.toInt) ↔ (a = 4294967295 ∨ a ≤ b) := by
  rw [ll_i ha, hu, show (-1 : Int64).toInt = -1 from by decide]
  split <;> omega
theorem le_s {a b : Nat} (ha : a < 2 ^ 32) (hb : b < 2 ^ 31) : nI a ≤ nI b ↔ (a ≤ b ∨ 2 ^ 31 ≤ a) := by
  rw [Int32.le_iff_toInt_le, nI_sgn ha, nI_sgn (by omega)]
  split <;> (try split) <;> omega
/-- the sheets keep to this -/
def mo_St (w : ic_w) : Prop := (∀ i, i < 4 → (w 126 i = 4294967295 ∨ w 126 i ≤ 4) ∧ w 127 i ≤ 40) ∧ ∀ j, j < 160 → w 128 j < 2 ^ 32
def mo_lk (w : ic_w) (i k : Nat) : Nat := if w 126 i = 4294967295 then 4294967285 else if w 126 i = k then 0 else 4294967283
theorem mo_lk_lt (w : ic_w) (i k : Nat) : mo_lk w i k < 2 ^ 32 := by
  unfold mo_lk
  split
  · omega
  · split <;> omega
def mo_z40 (f : Nat → Nat) (i n : Nat) : Nat → Nat := fun j => if 40 * i ≤ j ∧ j < 40 * i + n then 0 else f j
theorem mo_z40_s (f : Nat → Nat) (i n : Nat) : mo_z40 f i (n + 1) = fu (mo_z40 f i n) (40 * i + n) 0 := by
  funext j
  unfold mo_z40 fu
  by_cases q : j = 40 * i + n
  · rw [if_pos (by omega), if_pos q]
  · rw [if_neg q]
    by_cases z : 40 * i ≤ j ∧ j < 40 * i + n
    · rw [if_pos (by omega)]
      exact (if_pos z).symm
    · rw [if_neg (by omega)]
      exact (if_neg z).symm
theorem mo_z40_0 (f : Nat → Nat) (i : Nat) : mo_z40 f i 0 = f := by
  funext j
  unfold mo_z40
  rw [if_neg (by omega)]

set_option maxHeartbeats 4000000 in
set_option maxRecDepth 100000 in
theorem cM_isSheet {l : Launch} {E : ic_E} {w : ic_w} {a : Nat} (ha_ : a < 2 ^ 32) : ic_C l E mX12_isSheet 2 0 0 False [.int (nI a)] SHs (hn w) SHs (ic_qe (nI (ic_bo (a ≤ 3))) (hn w)) := by
  refine ic_intro (by decide +kernel) (Nat.le_of_ble_eq_true rfl) ?_
  show xx l E _ _ 0 [(0, .int (nI a))] _ _ _
  refine xx_iload_n (pc := 0) dX12_isSheet_0 0 rfl rfl ?_
  refine xx_i2l (pc := 1) dX12_isSheet_1 ?_
  refine xx_lconst (v := 0) (pc := 2) dX12_isSheet_2 rfl ?_
  refine xx_ldc2 (v := 3) (pc := 3) dX12_isSheet_3 oX12_307 ?_
  refine xx_callS0 (pc := 6) (st := []) (cM_isIn (0 ≤ a ∧ a ≤ 3) (ll_in (lo := 0) (hi := 3) (by omega) (by decide) (by decide) (by omega))) kX12_isIn sX12_66 dX12_isSheet_6 rfl rfl (Nat.le_of_ble_eq_true rfl) ⟨Nat.le_of_ble_eq_true rfl, Nat.le_of_ble_eq_true rfl⟩ ⟨Nat.zero_le _, Nat.zero_le _⟩ (ic_ke ?_)
  exact xx_iret (pc := 9) dX12_isSheet_9 rfl (ic_nbo) (Nat.le_refl _) (Nat.le_refl _) (ic_re (ic_bo_iff (by omega)))

set_option maxHeartbeats 4000000 in
set_option maxRecDepth 100000 in
theorem cM_isShelf {l : Launch} {E : ic_E} {w : ic_w} {a : Nat} (ha_ : a < 2 ^ 32) : ic_C l E mX12_isShelf 2 0 0 False [.int (nI a)] SHs (hn w) SHs (ic_qe (nI (ic_bo (a ≤ 3))) (hn w)) := by
  refine ic_intro (by decide +kernel) (Nat.le_of_ble_eq_true rfl) ?_
  show xx l E _ _ 0 [(0, .int (nI a))] _ _ _
  refine xx_iload_n (pc := 0) dX12_isShelf_0 0 rfl rfl ?_
  refine xx_i2l (pc := 1) dX12_isShelf_1 ?_
  refine xx_lconst (v := 0) (pc := 2) dX12_isShelf_2 rfl ?_
  refine xx_ldc2 (v := 3) (pc := 3) dX12_isShelf_3 oX12_307 ?_
  refine xx_callS0 (pc := 6) (st := []) (cM_isIn (0 ≤ a ∧ a ≤ 3) (ll_in (lo := 0) (hi := 3) (by omega) (by decide) (by decide) (by omega))) kX12_isIn sX12_66 dX12_isShelf_6 rfl rfl (Nat.le_of_ble_eq_true rfl) ⟨Nat.le_of_ble_eq_true rfl, Nat.le_of_ble_eq_true rfl⟩ ⟨Nat.zero_le _, Nat.zero_le _⟩ (ic_ke ?_)
  exact xx_iret (pc := 9) dX12_isShelf_9 rfl (ic_nbo) (Nat.le_refl _) (Nat.le_refl _) (ic_re (ic_bo_iff (by omega)))

set_option maxHeartbeats 4000000 in
set_option maxRecDepth 100000 in
theorem cM_lacks {l : Launch} {E : ic_E} {w : ic_w} {i k : Nat} (hi4 : i < 4) (hk_ : k < 2 ^ 31) (hS : mo_St w) : ic_C l E mX12_lacks 2 0 0 False [ic_pt E 114, .int (nI i), .int (nI k)] SHs (hn w) SHs (ic_qe (nI (mo_lk w i k)) (hn w)) := by
  refine ic_intro (by decide +kernel) (Nat.le_of_ble_eq_true rfl) ?_
  show xx l E _ _ 0 [(0, ic_pt E 114), (1, .int (nI i)), (2, .int (nI k))] _ _ _
  have hs := (hS.1 i hi4).1
  refine xx_aload_nP (pc := 0) dX12_lacks_0 0 rfl rfl ?_
  refine xx_getR (pc := 1) 126 dX12_lacks_1 sh_114 fX12_43_12 rfl rfl (by decide) ?_
  refine xx_iload_n (pc := 4) dX12_lacks_4 1 rfl rfl ?_
  refine xx_ialdN (pc := 5) dX12_lacks_5 sh_126 (by omega) (by decide) ?_
  refine xx_if_geS (pc := 6) 14 dX12_lacks_6 rfl (by omega) (fun c1 => ?_) (fun c1 => ?_)
  · refine xx_aload_nP (pc := 14) dX12_lacks_14 0 rfl rfl ?_
    refine xx_getR (pc := 15) 126 dX12_lacks_15 sh_114 fX12_43_12 rfl rfl (by decide) ?_
    refine xx_iload_n (pc := 18) dX12_lacks_18 1 rfl rfl ?_
    refine xx_ialdN (pc := 19) dX12_lacks_19 sh_126 (by omega) (by decide) ?_
    refine xx_iload_n (pc := 20) dX12_lacks_20 2 rfl rfl ?_
    refine xx_icmp_eqN (pc := 21) 29 dX12_lacks_21 rfl (by omega) (by omega) (fun c2 => ?_) (fun c2 => ?_)
    · refine xx_iconst (pc := 29) dX12_lacks_29 cc_iconst_0 ?_
      exact xx_iret (pc := 30) dX12_lacks_30 rfl (rfl) (Nat.le_refl _) (Nat.le_refl _) (ic_re (by unfold mo_lk; first | exact (if_pos (by omega)).symm | exact ((if_neg (by omega)).trans (if_pos (by omega))).symm | exact ((if_neg (by omega)).trans (if_neg (by omega))).symm))
    · refine xx_bipush (pc := 24) dX12_lacks_24 cc_bipush_m13 ?_
      refine xx_goto (pc := 26) 30 dX12_lacks_26 rfl ?_
      exact xx_iret (pc := 30) dX12_lacks_30 rfl (rfl) (Nat.le_refl _) (Nat.le_refl _) (ic_re (by unfold mo_lk; first | exact (if_pos (by omega)).symm | exact ((if_neg (by omega)).trans (if_pos (by omega))).symm | exact ((if_neg (by omega)).trans (if_neg (by omega))).symm))
  · refine xx_bipush (pc := 9) dX12_lacks_9 cc_bipush_m11 ?_
    refine xx_goto (pc := 11) 30 dX12_lacks_11 rfl ?_
    exact xx_iret (pc := 30) dX12_lacks_30 rfl (rfl) (Nat.le_refl _) (Nat.le_refl _) (ic_re (by unfold mo_lk; first | exact (if_pos (by omega)).symm | exact ((if_neg (by omega)).trans (if_pos (by omega))).symm | exact ((if_neg (by omega)).trans (if_neg (by omega))).symm))

set_option maxHeartbeats 4000000 in
set_option maxRecDepth 100000 in
theorem cM_sheet {l : Launch} {E : ic_E} {w : ic_w} {i : Nat} (hi_ : i < 2 ^ 32) {sort : Nat} (hsort_ : sort < 2 ^ 32) {m : Nat} (hm_ : m < 2 ^ 32) : ic_C l E mX12_sheet 3 0 0 False [ic_pt E 114, .int (nI i), .int (nI sort), .int (nI m)] SHs (hn w) SHs (ic_qi (fun v_ h_ => v_ = nI (if i ≤ 3 ∧ (sort = 4294967295 ∨ (sort ≤ 4 ∧ (m ≤ 40 ∨ 2 ^ 31 ≤ m))) then (if sort ≠ 4294967295 ∧ 2 ^ 31 ≤ m then 4294967282 else 1) else 4294967295) ∧ h_ = hn (if i ≤ 3 ∧ (sort = 4294967295 ∨ (sort ≤ 4 ∧ m ≤ 40)) then (wr (wu (wu w 126 i sort) 127 i (if sort = 4294967295 then 0 else m)) 128 (mo_z40 (w 128) i 40)) else w))) := by
  refine ic_intro (by decide +kernel) (Nat.le_of_ble_eq_true rfl) ?_
  show xx l E _ _ 0 [(0, ic_pt E 114), (1, .int (nI i)), (2, .int (nI sort)), (3, .int (nI m))] _ _ _
  refine xx_iload_n (pc := 0) dX12_sheet_0 1 rfl rfl ?_
  refine xx_callS0 (pc := 1) (st := []) (cM_isSheet (w := w) (a := i) (by omega)) kX12_isSheet sX12_350 dX12_sheet_1 rfl rfl (Nat.le_of_ble_eq_true rfl) ⟨Nat.le_of_ble_eq_true rfl, Nat.le_of_ble_eq_true rfl⟩ ⟨Nat.zero_le _, Nat.zero_le _⟩ (ic_ke ?_)
  refine xx_if_eqB (pc := 4) 31 dX12_sheet_4 rfl (fun c1 => ?_) (fun c1 => ?_)
  · refine xx_iconst (pc := 31) dX12_sheet_31 cc_iconst_m1 ?_
    exact xx_iret (pc := 32) dX12_sheet_32 rfl (rfl) (Nat.le_refl _) (Nat.le_refl _) (ic_ri ⟨by rw [if_neg (by omega)], by rw [if_neg (by omega)]⟩)
  · refine xx_iload_n (pc := 7) dX12_sheet_7 2 rfl rfl ?_
    refine xx_i2l (pc := 8) dX12_sheet_8 ?_
    refine xx_ldc2 (v := -1) (pc := 9) dX12_sheet_9 oX12_353 ?_
    refine xx_ldc2 (v := 4) (pc := 12) dX12_sheet_12 oX12_298 ?_
    refine xx_callS0 (pc := 15) (st := []) (cM_isIn (sort = 4294967295 ∨ sort ≤ 4) (ll_m1 (b := 4) (by omega) (by decide) (by omega))) kX12_isIn sX12_66 dX12_sheet_15 rfl rfl (Nat.le_of_ble_eq_true rfl) ⟨Nat.le_of_ble_eq_true rfl, Nat.le_of_ble_eq_true rfl⟩ ⟨Nat.zero_le _, Nat.zero_le _⟩ (ic_ke ?_)
    refine xx_if_eqB (pc := 18) 31 dX12_sheet_18 rfl (fun c2 => ?_) (fun c2 => ?_)
    · refine xx_iconst (pc := 31) dX12_sheet_31 cc_iconst_m1 ?_
      exact xx_iret (pc := 32) dX12_sheet_32 rfl (rfl) (Nat.le_refl _) (Nat.le_refl _) (ic_ri ⟨by rw [if_neg (by omega)], by rw [if_neg (by omega)]⟩)
    · refine xx_iload_n (pc := 21) dX12_sheet_21 2 rfl rfl ?_
      refine xx_if_ltS (pc := 22) 33 dX12_sheet_22 rfl (by omega) (fun c3 => ?_) (fun c3 => ?_)
      · refine xx_iload_n (pc := 33) dX12_sheet_33 2 rfl rfl ?_
        refine xx_if_ltS (pc := 34) 44 dX12_sheet_34 rfl (by omega) (fun c4 => ?_) (fun c4 => ?_)
        · refine xx_aload_nP (pc := 44) dX12_sheet_44 0 rfl rfl ?_
          refine xx_getR (pc := 45) 126 dX12_sheet_45 sh_114 fX12_43_12 rfl rfl (by decide) ?_
          refine xx_iload_n (pc := 48) dX12_sheet_48 1 rfl rfl ?_
          refine xx_iload_n (pc := 49) dX12_sheet_49 2 rfl rfl ?_
          refine xx_iastN (pc := 50) dX12_sheet_50 sh_126 (by omega) (by decide) ?_
          refine xx_nw (fun w5 ew5 => ?_)
          refine xx_aload_nP (pc := 51) dX12_sheet_51 0 rfl rfl ?_
          refine xx_getR (pc := 52) 127 dX12_sheet_52 sh_114 fX12_46_12 rfl rfl (by decide) ?_
          refine xx_iload_n (pc := 55) dX12_sheet_55 1 rfl rfl ?_
          refine xx_iload_n (pc := 56) dX12_sheet_56 2 rfl rfl ?_
          refine xx_if_geS (pc := 57) 64 dX12_sheet_57 rfl (by omega) (fun c6 => ?_) (fun c6 => ?_)
          · refine xx_iload_n (pc := 64) dX12_sheet_64 3 rfl rfl ?_
            refine xx_iastN (pc := 65) dX12_sheet_65 sh_127 (by omega) (by decide) ?_
            refine xx_nw (fun w7 ew7 => ?_)
            refine xx_iconst (pc := 66) dX12_sheet_66 cc_iconst_0 ?_
            refine xx_istore (L' := [(4, .int (nI 0)), (0, ic_pt E 114), (1, .int (nI i)), (2, .int (nI sort)), (3, .int (nI m))]) (pc := 67) dX12_sheet_67 (Nat.le_of_ble_eq_true rfl) rfl ?_
            have hw2 : wr w7 128 (mo_z40 (w7 128) i 40) = (wr (wu (wu w 126 i sort) 127 i (if sort = 4294967295 then 0 else m)) 128 (mo_z40 (w 128) i 40)) := by rw [ew7, ew5, wu_row _ _ _ (by omega), wu_row _ _ _ (by omega), if_neg (by omega)]
            have lp : ∀ (n_ : Nat) (j : Nat) (u : ic_w), j ≤ 40 → u = wr w7 128 (mo_z40 (w7 128) i j) → 40 - j < n_ → xx l E (ic_fr E mX12_sheet 3 0 0 False SHs (ic_qi (fun v_ h_ => v_ = nI (if i ≤ 3 ∧ (sort = 4294967295 ∨ (sort ≤ 4 ∧ (m ≤ 40 ∨ 2 ^ 31 ≤ m))) then (if sort ≠ 4294967295 ∧ 2 ^ 31 ≤ m then 4294967282 else 1) else 4294967295) ∧ h_ = hn (if i ≤ 3 ∧ (sort = 4294967295 ∨ (sort ≤ 4 ∧ m ≤ 40)) then (wr (wu (wu w 126 i sort) 127 i (if sort = 4294967295 then 0 else m)) 128 (mo_z40 (w 128) i 40)) else w)))) (0, 0) 69 [(4, .int (nI j)), (0, ic_pt E 114), (1, .int (nI i)), (2, .int (nI sort)), (3, .int (nI m))] [] SHs (hn u) := by
              intro n_
              induction n_ with
              | zero => intro j u hj hu hm_; exact absurd hm_ (Nat.not_lt_zero _)
              | succ n_ ih_ =>
                intro j u hj hu hm_
                refine xx_iload (pc := 69) dX12_sheet_69 0 rfl ?_
                refine xx_bipush (pc := 71) dX12_sheet_71 cc_bipush_40 ?_
                refine xx_icmp_geN (pc := 73) 95 dX12_sheet_73 rfl (by omega) (by omega) (fun c58 => ?_) (fun c58 => ?_)
                · refine xx_iconst (pc := 95) dX12_sheet_95 cc_iconst_1 ?_
                  exact xx_iret (pc := 96) dX12_sheet_96 rfl (rfl) (Nat.le_refl _) (Nat.le_refl _) (ic_ri ⟨by rw [if_pos (by omega), if_neg (by omega)], by rw [if_pos (by omega), hu, show j = 40 by omega, hw2]⟩)
                · refine xx_aload_nP (pc := 76) dX12_sheet_76 1 rfl rfl ?_
                  refine xx_getR (pc := 77) 128 dX12_sheet_77 sh_114 fX12_49_12 rfl rfl (by decide) ?_
                  refine xx_bipush (pc := 80) dX12_sheet_80 cc_bipush_40 ?_
                  refine xx_iload_n (pc := 82) dX12_sheet_82 2 rfl rfl ?_
                  refine xx_imulN (pc := 83) dX12_sheet_83 ?_
                  refine xx_iload (pc := 84) dX12_sheet_84 0 rfl ?_
                  refine xx_iaddN (pc := 86) dX12_sheet_86 ?_
                  refine xx_iconst (pc := 87) dX12_sheet_87 cc_iconst_0 ?_
                  refine xx_iastE (j2 := 40 * i + j) (pc := 88) dX12_sheet_88 sh_128 (by omega) (by omega) (by decide) ?_
                  refine xx_nw (fun w59 ew59 => ?_)
                  refine xx_iincN (L' := [(4, .int (nI (j + 1))), (0, ic_pt E 114), (1, .int (nI i)), (2, .int (nI sort)), (3, .int (nI m))]) (pc := 89) dX12_sheet_89 0 rfl cc_iconst_1 (Nat.le_of_ble_eq_true rfl) rfl ?_
                  refine xx_goto (pc := 92) 69 dX12_sheet_92 rfl ?_
                  exact xx_sub [0, 1, 2, 3, 4] rfl (ih_ (j + 1) w59 (by omega) (by rw [mo_z40_s, ew59, wu_wr, hu, wr_s, wr_wr]) (by omega))
            exact xx_sub [0, 1, 2, 3, 4] rfl (lp 41 0 w7 (by omega) (by rw [mo_z40_0, wr_id]) (by omega))
          · refine xx_iconst (pc := 60) dX12_sheet_60 cc_iconst_0 ?_
            refine xx_goto (pc := 61) 65 dX12_sheet_61 rfl ?_
            refine xx_iastN (pc := 65) dX12_sheet_65 sh_127 (by omega) (by decide) ?_
            refine xx_nw (fun w8 ew8 => ?_)
            refine xx_iconst (pc := 66) dX12_sheet_66 cc_iconst_0 ?_
            refine xx_istore (L' := [(4, .int (nI 0)), (0, ic_pt E 114), (1, .int (nI i)), (2, .int (nI sort)), (3, .int (nI m))]) (pc := 67) dX12_sheet_67 (Nat.le_of_ble_eq_true rfl) rfl ?_
            have hw2 : wr w8 128 (mo_z40 (w8 128) i 40) = (wr (wu (wu w 126 i sort) 127 i (if sort = 4294967295 then 0 else m)) 128 (mo_z40 (w 128) i 40)) := by rw [ew8, ew5, wu_row _ _ _ (by omega), wu_row _ _ _ (by omega), if_pos (by omega)]
            have lp : ∀ (n_ : Nat) (j : Nat) (u : ic_w), j ≤ 40 → u = wr w8 128 (mo_z40 (w8 128) i j) → 40 - j < n_ → xx l E (ic_fr E mX12_sheet 3 0 0 False SHs (ic_qi (fun v_ h_ => v_ = nI (if i ≤ 3 ∧ (sort = 4294967295 ∨ (sort ≤ 4 ∧ (m ≤ 40 ∨ 2 ^ 31 ≤ m))) then (if sort ≠ 4294967295 ∧ 2 ^ 31 ≤ m then 4294967282 else 1) else 4294967295) ∧ h_ = hn (if i ≤ 3 ∧ (sort = 4294967295 ∨ (sort ≤ 4 ∧ m ≤ 40)) then (wr (wu (wu w 126 i sort) 127 i (if sort = 4294967295 then 0 else m)) 128 (mo_z40 (w 128) i 40)) else w)))) (0, 0) 69 [(4, .int (nI j)), (0, ic_pt E 114), (1, .int (nI i)), (2, .int (nI sort)), (3, .int (nI m))] [] SHs (hn u) := by
              intro n_
              induction n_ with
              | zero => intro j u hj hu hm_; exact absurd hm_ (Nat.not_lt_zero _)
              | succ n_ ih_ =>
                intro j u hj hu hm_
                refine xx_iload (pc := 69) dX12_sheet_69 0 rfl ?_
                refine xx_bipush (pc := 71) dX12_sheet_71 cc_bipush_40 ?_
                refine xx_icmp_geN (pc := 73) 95 dX12_sheet_73 rfl (by omega) (by omega) (fun c59 => ?_) (fun c59 => ?_)
                · refine xx_iconst (pc := 95) dX12_sheet_95 cc_iconst_1 ?_
                  exact xx_iret (pc := 96) dX12_sheet_96 rfl (rfl) (Nat.le_refl _) (Nat.le_refl _) (ic_ri ⟨by rw [if_pos (by omega), if_neg (by omega)], by rw [if_pos (by omega), hu, show j = 40 by omega, hw2]⟩)
                · refine xx_aload_nP (pc := 76) dX12_sheet_76 1 rfl rfl ?_
                  refine xx_getR (pc := 77) 128 dX12_sheet_77 sh_114 fX12_49_12 rfl rfl (by decide) ?_
                  refine xx_bipush (pc := 80) dX12_sheet_80 cc_bipush_40 ?_
                  refine xx_iload_n (pc := 82) dX12_sheet_82 2 rfl rfl ?_
                  refine xx_imulN (pc := 83) dX12_sheet_83 ?_
                  refine xx_iload (pc := 84) dX12_sheet_84 0 rfl ?_
                  refine xx_iaddN (pc := 86) dX12_sheet_86 ?_
                  refine xx_iconst (pc := 87) dX12_sheet_87 cc_iconst_0 ?_
                  refine xx_iastE (j2 := 40 * i + j) (pc := 88) dX12_sheet_88 sh_128 (by omega) (by omega) (by decide) ?_
                  refine xx_nw (fun w60 ew60 => ?_)
                  refine xx_iincN (L' := [(4, .int (nI (j + 1))), (0, ic_pt E 114), (1, .int (nI i)), (2, .int (nI sort)), (3, .int (nI m))]) (pc := 89) dX12_sheet_89 0 rfl cc_iconst_1 (Nat.le_of_ble_eq_true rfl) rfl ?_
                  refine xx_goto (pc := 92) 69 dX12_sheet_92 rfl ?_
                  exact xx_sub [0, 1, 2, 3, 4] rfl (ih_ (j + 1) w60 (by omega) (by rw [mo_z40_s, ew60, wu_wr, hu, wr_s, wr_wr]) (by omega))
            exact xx_sub [0, 1, 2, 3, 4] rfl (lp 41 0 w8 (by omega) (by rw [mo_z40_0, wr_id]) (by omega))
        · refine xx_iload_n (pc := 37) dX12_sheet_37 3 rfl rfl ?_
          refine xx_if_geS (pc := 38) 44 dX12_sheet_38 rfl (by omega) (fun c9 => ?_) (fun c9 => ?_)
          · refine xx_aload_nP (pc := 44) dX12_sheet_44 0 rfl rfl ?_
            refine xx_getR (pc := 45) 126 dX12_sheet_45 sh_114 fX12_43_12 rfl rfl (by decide) ?_
            refine xx_iload_n (pc := 48) dX12_sheet_48 1 rfl rfl ?_
            refine xx_iload_n (pc := 49) dX12_sheet_49 2 rfl rfl ?_
            refine xx_iastN (pc := 50) dX12_sheet_50 sh_126 (by omega) (by decide) ?_
            refine xx_nw (fun w10 ew10 => ?_)
            refine xx_aload_nP (pc := 51) dX12_sheet_51 0 rfl rfl ?_
            refine xx_getR (pc := 52) 127 dX12_sheet_52 sh_114 fX12_46_12 rfl rfl (by decide) ?_
            refine xx_iload_n (pc := 55) dX12_sheet_55 1 rfl rfl ?_
            refine xx_iload_n (pc := 56) dX12_sheet_56 2 rfl rfl ?_
            refine xx_if_geS (pc := 57) 64 dX12_sheet_57 rfl (by omega) (fun c11 => ?_) (fun c11 => ?_)
            · refine xx_iload_n (pc := 64) dX12_sheet_64 3 rfl rfl ?_
              refine xx_iastN (pc := 65) dX12_sheet_65 sh_127 (by omega) (by decide) ?_
              refine xx_nw (fun w12 ew12 => ?_)
              refine xx_iconst (pc := 66) dX12_sheet_66 cc_iconst_0 ?_
              refine xx_istore (L' := [(4, .int (nI 0)), (0, ic_pt E 114), (1, .int (nI i)), (2, .int (nI sort)), (3, .int (nI m))]) (pc := 67) dX12_sheet_67 (Nat.le_of_ble_eq_true rfl) rfl ?_
              have hw2 : wr w12 128 (mo_z40 (w12 128) i 40) = (wr (wu (wu w 126 i sort) 127 i (if sort = 4294967295 then 0 else m)) 128 (mo_z40 (w 128) i 40)) := by rw [ew12, ew10, wu_row _ _ _ (by omega), wu_row _ _ _ (by omega), if_neg (by omega)]
              have lp : ∀ (n_ : Nat) (j : Nat) (u : ic_w), j ≤ 40 → u = wr w12 128 (mo_z40 (w12 128) i j) → 40 - j < n_ → xx l E (ic_fr E mX12_sheet 3 0 0 False SHs (ic_qi (fun v_ h_ => v_ = nI (if i ≤ 3 ∧ (sort = 4294967295 ∨ (sort ≤ 4 ∧ (m ≤ 40 ∨ 2 ^ 31 ≤ m))) then (if sort ≠ 4294967295 ∧ 2 ^ 31 ≤ m then 4294967282 else 1) else 4294967295) ∧ h_ = hn (if i ≤ 3 ∧ (sort = 4294967295 ∨ (sort ≤ 4 ∧ m ≤ 40)) then (wr (wu (wu w 126 i sort) 127 i (if sort = 4294967295 then 0 else m)) 128 (mo_z40 (w 128) i 40)) else w)))) (0, 0) 69 [(4, .int (nI j)), (0, ic_pt E 114), (1, .int (nI i)), (2, .int (nI sort)), (3, .int (nI m))] [] SHs (hn u) := by
                intro n_
                induction n_ with
                | zero => intro j u hj hu hm_; exact absurd hm_ (Nat.not_lt_zero _)
                | succ n_ ih_ =>
                  intro j u hj hu hm_
                  refine xx_iload (pc := 69) dX12_sheet_69 0 rfl ?_
                  refine xx_bipush (pc := 71) dX12_sheet_71 cc_bipush_40 ?_
                  refine xx_icmp_geN (pc := 73) 95 dX12_sheet_73 rfl (by omega) (by omega) (fun c63 => ?_) (fun c63 => ?_)
                  · refine xx_iconst (pc := 95) dX12_sheet_95 cc_iconst_1 ?_
                    exact xx_iret (pc := 96) dX12_sheet_96 rfl (rfl) (Nat.le_refl _) (Nat.le_refl _) (ic_ri ⟨by rw [if_pos (by omega), if_neg (by omega)], by rw [if_pos (by omega), hu, show j = 40 by omega, hw2]⟩)
                  · refine xx_aload_nP (pc := 76) dX12_sheet_76 1 rfl rfl ?_
                    refine xx_getR (pc := 77) 128 dX12_sheet_77 sh_114 fX12_49_12 rfl rfl (by decide) ?_
                    refine xx_bipush (pc := 80) dX12_sheet_80 cc_bipush_40 ?_
                    refine xx_iload_n (pc := 82) dX12_sheet_82 2 rfl rfl ?_
                    refine xx_imulN (pc := 83) dX12_sheet_83 ?_
                    refine xx_iload (pc := 84) dX12_sheet_84 0 rfl ?_
                    refine xx_iaddN (pc := 86) dX12_sheet_86 ?_
                    refine xx_iconst (pc := 87) dX12_sheet_87 cc_iconst_0 ?_
                    refine xx_iastE (j2 := 40 * i + j) (pc := 88) dX12_sheet_88 sh_128 (by omega) (by omega) (by decide) ?_
                    refine xx_nw (fun w64 ew64 => ?_)
                    refine xx_iincN (L' := [(4, .int (nI (j + 1))), (0, ic_pt E 114), (1, .int (nI i)), (2, .int (nI sort)), (3, .int (nI m))]) (pc := 89) dX12_sheet_89 0 rfl cc_iconst_1 (Nat.le_of_ble_eq_true rfl) rfl ?_
                    refine xx_goto (pc := 92) 69 dX12_sheet_92 rfl ?_
                    exact xx_sub [0, 1, 2, 3, 4] rfl (ih_ (j + 1) w64 (by omega) (by rw [mo_z40_s, ew64, wu_wr, hu, wr_s, wr_wr]) (by omega))
              exact xx_sub [0, 1, 2, 3, 4] rfl (lp 41 0 w12 (by omega) (by rw [mo_z40_0, wr_id]) (by omega))
            · refine xx_iconst (pc := 60) dX12_sheet_60 cc_iconst_0 ?_
              refine xx_goto (pc := 61) 65 dX12_sheet_61 rfl ?_
              refine xx_iastN (pc := 65) dX12_sheet_65 sh_127 (by omega) (by decide) ?_
              refine xx_nw (fun w13 ew13 => ?_)
              refine xx_iconst (pc := 66) dX12_sheet_66 cc_iconst_0 ?_
              refine xx_istore (L' := [(4, .int (nI 0)), (0, ic_pt E 114), (1, .int (nI i)), (2, .int (nI sort)), (3, .int (nI m))]) (pc := 67) dX12_sheet_67 (Nat.le_of_ble_eq_true rfl) rfl ?_
              have hw2 : wr w13 128 (mo_z40 (w13 128) i 40) = (wr (wu (wu w 126 i sort) 127 i (if sort = 4294967295 then 0 else m)) 128 (mo_z40 (w 128) i 40)) := by rw [ew13, ew10, wu_row _ _ _ (by omega), wu_row _ _ _ (by omega), if_pos (by omega)]
              have lp : ∀ (n_ : Nat) (j : Nat) (u : ic_w), j ≤ 40 → u = wr w13 128 (mo_z40 (w13 128) i j) → 40 - j < n_ → xx l E (ic_fr E mX12_sheet 3 0 0 False SHs (ic_qi (fun v_ h_ => v_ = nI (if i ≤ 3 ∧ (sort = 4294967295 ∨ (sort ≤ 4 ∧ (m ≤ 40 ∨ 2 ^ 31 ≤ m))) then (if sort ≠ 4294967295 ∧ 2 ^ 31 ≤ m then 4294967282 else 1) else 4294967295) ∧ h_ = hn (if i ≤ 3 ∧ (sort = 4294967295 ∨ (sort ≤ 4 ∧ m ≤ 40)) then (wr (wu (wu w 126 i sort) 127 i (if sort = 4294967295 then 0 else m)) 128 (mo_z40 (w 128) i 40)) else w)))) (0, 0) 69 [(4, .int (nI j)), (0, ic_pt E 114), (1, .int (nI i)), (2, .int (nI sort)), (3, .int (nI m))] [] SHs (hn u) := by
                intro n_
                induction n_ with
                | zero => intro j u hj hu hm_; exact absurd hm_ (Nat.not_lt_zero _)
                | succ n_ ih_ =>
                  intro j u hj hu hm_
                  refine xx_iload (pc := 69) dX12_sheet_69 0 rfl ?_
                  refine xx_bipush (pc := 71) dX12_sheet_71 cc_bipush_40 ?_
                  refine xx_icmp_geN (pc := 73) 95 dX12_sheet_73 rfl (by omega) (by omega) (fun c64 => ?_) (fun c64 => ?_)
                  · refine xx_iconst (pc := 95) dX12_sheet_95 cc_iconst_1 ?_
                    exact xx_iret (pc := 96) dX12_sheet_96 rfl (rfl) (Nat.le_refl _) (Nat.le_refl _) (ic_ri ⟨by rw [if_pos (by omega), if_neg (by omega)], by rw [if_pos (by omega), hu, show j = 40 by omega, hw2]⟩)
                  · refine xx_aload_nP (pc := 76) dX12_sheet_76 1 rfl rfl ?_
                    refine xx_getR (pc := 77) 128 dX12_sheet_77 sh_114 fX12_49_12 rfl rfl (by decide) ?_
                    refine xx_bipush (pc := 80) dX12_sheet_80 cc_bipush_40 ?_
                    refine xx_iload_n (pc := 82) dX12_sheet_82 2 rfl rfl ?_
                    refine xx_imulN (pc := 83) dX12_sheet_83 ?_
                    refine xx_iload (pc := 84) dX12_sheet_84 0 rfl ?_
                    refine xx_iaddN (pc := 86) dX12_sheet_86 ?_
                    refine xx_iconst (pc := 87) dX12_sheet_87 cc_iconst_0 ?_
                    refine xx_iastE (j2 := 40 * i + j) (pc := 88) dX12_sheet_88 sh_128 (by omega) (by omega) (by decide) ?_
                    refine xx_nw (fun w65 ew65 => ?_)
                    refine xx_iincN (L' := [(4, .int (nI (j + 1))), (0, ic_pt E 114), (1, .int (nI i)), (2, .int (nI sort)), (3, .int (nI m))]) (pc := 89) dX12_sheet_89 0 rfl cc_iconst_1 (Nat.le_of_ble_eq_true rfl) rfl ?_
                    refine xx_goto (pc := 92) 69 dX12_sheet_92 rfl ?_
                    exact xx_sub [0, 1, 2, 3, 4] rfl (ih_ (j + 1) w65 (by omega) (by rw [mo_z40_s, ew65, wu_wr, hu, wr_s, wr_wr]) (by omega))
              exact xx_sub [0, 1, 2, 3, 4] rfl (lp 41 0 w13 (by omega) (by rw [mo_z40_0, wr_id]) (by omega))
          · refine xx_bipush (pc := 41) dX12_sheet_41 cc_bipush_m14 ?_
            exact xx_iret (pc := 43) dX12_sheet_43 rfl (rfl) (Nat.le_refl _) (Nat.le_refl _) (ic_ri ⟨by rw [if_pos (by omega), if_pos (by omega)], by rw [if_neg (by omega)]⟩)
      · refine xx_iload_n (pc := 25) dX12_sheet_25 3 rfl rfl ?_
        refine xx_bipush (pc := 26) dX12_sheet_26 cc_bipush_40 ?_
        refine xx_icmp_le (pc := 28) 33 dX12_sheet_28 rfl (fun c14 => ?_) (fun c14 => ?_)
        · rw [le_s (by omega) (by omega)] at c14
          refine xx_iload_n (pc := 33) dX12_sheet_33 2 rfl rfl ?_
          refine xx_if_ltS (pc := 34) 44 dX12_sheet_34 rfl (by omega) (fun c15 => ?_) (fun c15 => ?_)
          · refine xx_aload_nP (pc := 44) dX12_sheet_44 0 rfl rfl ?_
            refine xx_getR (pc := 45) 126 dX12_sheet_45 sh_114 fX12_43_12 rfl rfl (by decide) ?_
            refine xx_iload_n (pc := 48) dX12_sheet_48 1 rfl rfl ?_
            refine xx_iload_n (pc := 49) dX12_sheet_49 2 rfl rfl ?_
            refine xx_iastN (pc := 50) dX12_sheet_50 sh_126 (by omega) (by decide) ?_
            refine xx_nw (fun w16 ew16 => ?_)
            refine xx_aload_nP (pc := 51) dX12_sheet_51 0 rfl rfl ?_
            refine xx_getR (pc := 52) 127 dX12_sheet_52 sh_114 fX12_46_12 rfl rfl (by decide) ?_
            refine xx_iload_n (pc := 55) dX12_sheet_55 1 rfl rfl ?_
            refine xx_iload_n (pc := 56) dX12_sheet_56 2 rfl rfl ?_
            refine xx_if_geS (pc := 57) 64 dX12_sheet_57 rfl (by omega) (fun c17 => ?_) (fun c17 => ?_)
            · refine xx_iload_n (pc := 64) dX12_sheet_64 3 rfl rfl ?_
              refine xx_iastN (pc := 65) dX12_sheet_65 sh_127 (by omega) (by decide) ?_
              refine xx_nw (fun w18 ew18 => ?_)
              refine xx_iconst (pc := 66) dX12_sheet_66 cc_iconst_0 ?_
              refine xx_istore (L' := [(4, .int (nI 0)), (0, ic_pt E 114), (1, .int (nI i)), (2, .int (nI sort)), (3, .int (nI m))]) (pc := 67) dX12_sheet_67 (Nat.le_of_ble_eq_true rfl) rfl ?_
              have hw2 : wr w18 128 (mo_z40 (w18 128) i 40) = (wr (wu (wu w 126 i sort) 127 i (if sort = 4294967295 then 0 else m)) 128 (mo_z40 (w 128) i 40)) := by rw [ew18, ew16, wu_row _ _ _ (by omega), wu_row _ _ _ (by omega), if_neg (by omega)]
              have lp : ∀ (n_ : Nat) (j : Nat) (u : ic_w), j ≤ 40 → u = wr w18 128 (mo_z40 (w18 128) i j) → 40 - j < n_ → xx l E (ic_fr E mX12_sheet 3 0 0 False SHs (ic_qi (fun v_ h_ => v_ = nI (if i ≤ 3 ∧ (sort = 4294967295 ∨ (sort ≤ 4 ∧ (m ≤ 40 ∨ 2 ^ 31 ≤ m))) then (if sort ≠ 4294967295 ∧ 2 ^ 31 ≤ m then 4294967282 else 1) else 4294967295) ∧ h_ = hn (if i ≤ 3 ∧ (sort = 4294967295 ∨ (sort ≤ 4 ∧ m ≤ 40)) then (wr (wu (wu w 126 i sort) 127 i (if sort = 4294967295 then 0 else m)) 128 (mo_z40 (w 128) i 40)) else w)))) (0, 0) 69 [(4, .int (nI j)), (0, ic_pt E 114), (1, .int (nI i)), (2, .int (nI sort)), (3, .int (nI m))] [] SHs (hn u) := by
                intro n_
                induction n_ with
                | zero => intro j u hj hu hm_; exact absurd hm_ (Nat.not_lt_zero _)
                | succ n_ ih_ =>
                  intro j u hj hu hm_
                  refine xx_iload (pc := 69) dX12_sheet_69 0 rfl ?_
                  refine xx_bipush (pc := 71) dX12_sheet_71 cc_bipush_40 ?_
                  refine xx_icmp_geN (pc := 73) 95 dX12_sheet_73 rfl (by omega) (by omega) (fun c69 => ?_) (fun c69 => ?_)
                  · refine xx_iconst (pc := 95) dX12_sheet_95 cc_iconst_1 ?_
                    exact xx_iret (pc := 96) dX12_sheet_96 rfl (rfl) (Nat.le_refl _) (Nat.le_refl _) (ic_ri ⟨by rw [if_pos (by omega), if_neg (by omega)], by rw [if_pos (by omega), hu, show j = 40 by omega, hw2]⟩)
                  · refine xx_aload_nP (pc := 76) dX12_sheet_76 1 rfl rfl ?_
                    refine xx_getR (pc := 77) 128 dX12_sheet_77 sh_114 fX12_49_12 rfl rfl (by decide) ?_
                    refine xx_bipush (pc := 80) dX12_sheet_80 cc_bipush_40 ?_
                    refine xx_iload_n (pc := 82) dX12_sheet_82 2 rfl rfl ?_
                    refine xx_imulN (pc := 83) dX12_sheet_83 ?_
                    refine xx_iload (pc := 84) dX12_sheet_84 0 rfl ?_
                    refine xx_iaddN (pc := 86) dX12_sheet_86 ?_
                    refine xx_iconst (pc := 87) dX12_sheet_87 cc_iconst_0 ?_
                    refine xx_iastE (j2 := 40 * i + j) (pc := 88) dX12_sheet_88 sh_128 (by omega) (by omega) (by decide) ?_
                    refine xx_nw (fun w70 ew70 => ?_)
                    refine xx_iincN (L' := [(4, .int (nI (j + 1))), (0, ic_pt E 114), (1, .int (nI i)), (2, .int (nI sort)), (3, .int (nI m))]) (pc := 89) dX12_sheet_89 0 rfl cc_iconst_1 (Nat.le_of_ble_eq_true rfl) rfl ?_
                    refine xx_goto (pc := 92) 69 dX12_sheet_92 rfl ?_
                    exact xx_sub [0, 1, 2, 3, 4] rfl (ih_ (j + 1) w70 (by omega) (by rw [mo_z40_s, ew70, wu_wr, hu, wr_s, wr_wr]) (by omega))
              exact xx_sub [0, 1, 2, 3, 4] rfl (lp 41 0 w18 (by omega) (by rw [mo_z40_0, wr_id]) (by omega))
            · refine xx_iconst (pc := 60) dX12_sheet_60 cc_iconst_0 ?_
              refine xx_goto (pc := 61) 65 dX12_sheet_61 rfl ?_
              refine xx_iastN (pc := 65) dX12_sheet_65 sh_127 (by omega) (by decide) ?_
              refine xx_nw (fun w19 ew19 => ?_)
              refine xx_iconst (pc := 66) dX12_sheet_66 cc_iconst_0 ?_
              refine xx_istore (L' := [(4, .int (nI 0)), (0, ic_pt E 114), (1, .int (nI i)), (2, .int (nI sort)), (3, .int (nI m))]) (pc := 67) dX12_sheet_67 (Nat.le_of_ble_eq_true rfl) rfl ?_
              have hw2 : wr w19 128 (mo_z40 (w19 128) i 40) = (wr (wu (wu w 126 i sort) 127 i (if sort = 4294967295 then 0 else m)) 128 (mo_z40 (w 128) i 40)) := by rw [ew19, ew16, wu_row _ _ _ (by omega), wu_row _ _ _ (by omega), if_pos (by omega)]
              have lp : ∀ (n_ : Nat) (j : Nat) (u : ic_w), j ≤ 40 → u = wr w19 128 (mo_z40 (w19 128) i j) → 40 - j < n_ → xx l E (ic_fr E mX12_sheet 3 0 0 False SHs (ic_qi (fun v_ h_ => v_ = nI (if i ≤ 3 ∧ (sort = 4294967295 ∨ (sort ≤ 4 ∧ (m ≤ 40 ∨ 2 ^ 31 ≤ m))) then (if sort ≠ 4294967295 ∧ 2 ^ 31 ≤ m then 4294967282 else 1) else 4294967295) ∧ h_ = hn (if i ≤ 3 ∧ (sort = 4294967295 ∨ (sort ≤ 4 ∧ m ≤ 40)) then (wr (wu (wu w 126 i sort) 127 i (if sort = 4294967295 then 0 else m)) 128 (mo_z40 (w 128) i 40)) else w)))) (0, 0) 69 [(4, .int (nI j)), (0, ic_pt E 114), (1, .int (nI i)), (2, .int (nI sort)), (3, .int (nI m))] [] SHs (hn u) := by
                intro n_
                induction n_ with
                | zero => intro j u hj hu hm_; exact absurd hm_ (Nat.not_lt_zero _)
                | succ n_ ih_ =>
                  intro j u hj hu hm_
                  refine xx_iload (pc := 69) dX12_sheet_69 0 rfl ?_
                  refine xx_bipush (pc := 71) dX12_sheet_71 cc_bipush_40 ?_
                  refine xx_icmp_geN (pc := 73) 95 dX12_sheet_73 rfl (by omega) (by omega) (fun c70 => ?_) (fun c70 => ?_)
                  · refine xx_iconst (pc := 95) dX12_sheet_95 cc_iconst_1 ?_
                    exact xx_iret (pc := 96) dX12_sheet_96 rfl (rfl) (Nat.le_refl _) (Nat.le_refl _) (ic_ri ⟨by rw [if_pos (by omega), if_neg (by omega)], by rw [if_pos (by omega), hu, show j = 40 by omega, hw2]⟩)
                  · refine xx_aload_nP (pc := 76) dX12_sheet_76 1 rfl rfl ?_
                    refine xx_getR (pc := 77) 128 dX12_sheet_77 sh_114 fX12_49_12 rfl rfl (by decide) ?_
                    refine xx_bipush (pc := 80) dX12_sheet_80 cc_bipush_40 ?_
                    refine xx_iload_n (pc := 82) dX12_sheet_82 2 rfl rfl ?_
                    refine xx_imulN (pc := 83) dX12_sheet_83 ?_
                    refine xx_iload (pc := 84) dX12_sheet_84 0 rfl ?_
                    refine xx_iaddN (pc := 86) dX12_sheet_86 ?_
                    refine xx_iconst (pc := 87) dX12_sheet_87 cc_iconst_0 ?_
                    refine xx_iastE (j2 := 40 * i + j) (pc := 88) dX12_sheet_88 sh_128 (by omega) (by omega) (by decide) ?_
                    refine xx_nw (fun w71 ew71 => ?_)
                    refine xx_iincN (L' := [(4, .int (nI (j + 1))), (0, ic_pt E 114), (1, .int (nI i)), (2, .int (nI sort)), (3, .int (nI m))]) (pc := 89) dX12_sheet_89 0 rfl cc_iconst_1 (Nat.le_of_ble_eq_true rfl) rfl ?_
                    refine xx_goto (pc := 92) 69 dX12_sheet_92 rfl ?_
                    exact xx_sub [0, 1, 2, 3, 4] rfl (ih_ (j + 1) w71 (by omega) (by rw [mo_z40_s, ew71, wu_wr, hu, wr_s, wr_wr]) (by omega))
              exact xx_sub [0, 1, 2, 3, 4] rfl (lp 41 0 w19 (by omega) (by rw [mo_z40_0, wr_id]) (by omega))
          · refine xx_iload_n (pc := 37) dX12_sheet_37 3 rfl rfl ?_
            refine xx_if_geS (pc := 38) 44 dX12_sheet_38 rfl (by omega) (fun c20 => ?_) (fun c20 => ?_)
            · refine xx_aload_nP (pc := 44) dX12_sheet_44 0 rfl rfl ?_
              refine xx_getR (pc := 45) 126 dX12_sheet_45 sh_114 fX12_43_12 rfl rfl (by decide) ?_
              refine xx_iload_n (pc := 48) dX12_sheet_48 1 rfl rfl ?_
              refine xx_iload_n (pc := 49) dX12_sheet_49 2 rfl rfl ?_
              refine xx_iastN (pc := 50) dX12_sheet_50 sh_126 (by omega) (by decide) ?_
              refine xx_nw (fun w21 ew21 => ?_)
              refine xx_aload_nP (pc := 51) dX12_sheet_51 0 rfl rfl ?_
              refine xx_getR (pc := 52) 127 dX12_sheet_52 sh_114 fX12_46_12 rfl rfl (by decide) ?_
              refine xx_iload_n (pc := 55) dX12_sheet_55 1 rfl rfl ?_
              refine xx_iload_n (pc := 56) dX12_sheet_56 2 rfl rfl ?_
              refine xx_if_geS (pc := 57) 64 dX12_sheet_57 rfl (by omega) (fun c22 => ?_) (fun c22 => ?_)
              · refine xx_iload_n (pc := 64) dX12_sheet_64 3 rfl rfl ?_
                refine xx_iastN (pc := 65) dX12_sheet_65 sh_127 (by omega) (by decide) ?_
                refine xx_nw (fun w23 ew23 => ?_)
                refine xx_iconst (pc := 66) dX12_sheet_66 cc_iconst_0 ?_
                refine xx_istore (L' := [(4, .int (nI 0)), (0, ic_pt E 114), (1, .int (nI i)), (2, .int (nI sort)), (3, .int (nI m))]) (pc := 67) dX12_sheet_67 (Nat.le_of_ble_eq_true rfl) rfl ?_
                have hw2 : wr w23 128 (mo_z40 (w23 128) i 40) = (wr (wu (wu w 126 i sort) 127 i (if sort = 4294967295 then 0 else m)) 128 (mo_z40 (w 128) i 40)) := by rw [ew23, ew21, wu_row _ _ _ (by omega), wu_row _ _ _ (by omega), if_neg (by omega)]
                have lp : ∀ (n_ : Nat) (j : Nat) (u : ic_w), j ≤ 40 → u = wr w23 128 (mo_z40 (w23 128) i j) → 40 - j < n_ → xx l E (ic_fr E mX12_sheet 3 0 0 False SHs (ic_qi (fun v_ h_ => v_ = nI (if i ≤ 3 ∧ (sort = 4294967295 ∨ (sort ≤ 4 ∧ (m ≤ 40 ∨ 2 ^ 31 ≤ m))) then (if sort ≠ 4294967295 ∧ 2 ^ 31 ≤ m then 4294967282 else 1) else 4294967295) ∧ h_ = hn (if i ≤ 3 ∧ (sort = 4294967295 ∨ (sort ≤ 4 ∧ m ≤ 40)) then (wr (wu (wu w 126 i sort) 127 i (if sort = 4294967295 then 0 else m)) 128 (mo_z40 (w 128) i 40)) else w)))) (0, 0) 69 [(4, .int (nI j)), (0, ic_pt E 114), (1, .int (nI i)), (2, .int (nI sort)), (3, .int (nI m))] [] SHs (hn u) := by
                  intro n_
                  induction n_ with
                  | zero => intro j u hj hu hm_; exact absurd hm_ (Nat.not_lt_zero _)
                  | succ n_ ih_ =>
                    intro j u hj hu hm_
                    refine xx_iload (pc := 69) dX12_sheet_69 0 rfl ?_
                    refine xx_bipush (pc := 71) dX12_sheet_71 cc_bipush_40 ?_
                    refine xx_icmp_geN (pc := 73) 95 dX12_sheet_73 rfl (by omega) (by omega) (fun c74 => ?_) (fun c74 => ?_)
                    · refine xx_iconst (pc := 95) dX12_sheet_95 cc_iconst_1 ?_
                      exact xx_iret (pc := 96) dX12_sheet_96 rfl (rfl) (Nat.le_refl _) (Nat.le_refl _) (ic_ri ⟨by rw [if_pos (by omega), if_neg (by omega)], by rw [if_pos (by omega), hu, show j = 40 by omega, hw2]⟩)
                    · refine xx_aload_nP (pc := 76) dX12_sheet_76 1 rfl rfl ?_
                      refine xx_getR (pc := 77) 128 dX12_sheet_77 sh_114 fX12_49_12 rfl rfl (by decide) ?_
                      refine xx_bipush (pc := 80) dX12_sheet_80 cc_bipush_40 ?_
                      refine xx_iload_n (pc := 82) dX12_sheet_82 2 rfl rfl ?_
                      refine xx_imulN (pc := 83) dX12_sheet_83 ?_
                      refine xx_iload (pc := 84) dX12_sheet_84 0 rfl ?_
                      refine xx_iaddN (pc := 86) dX12_sheet_86 ?_
                      refine xx_iconst (pc := 87) dX12_sheet_87 cc_iconst_0 ?_
                      refine xx_iastE (j2 := 40 * i + j) (pc := 88) dX12_sheet_88 sh_128 (by omega) (by omega) (by decide) ?_
                      refine xx_nw (fun w75 ew75 => ?_)
                      refine xx_iincN (L' := [(4, .int (nI (j + 1))), (0, ic_pt E 114), (1, .int (nI i)), (2, .int (nI sort)), (3, .int (nI m))]) (pc := 89) dX12_sheet_89 0 rfl cc_iconst_1 (Nat.le_of_ble_eq_true rfl) rfl ?_
                      refine xx_goto (pc := 92) 69 dX12_sheet_92 rfl ?_
                      exact xx_sub [0, 1, 2, 3, 4] rfl (ih_ (j + 1) w75 (by omega) (by rw [mo_z40_s, ew75, wu_wr, hu, wr_s, wr_wr]) (by omega))
                exact xx_sub [0, 1, 2, 3, 4] rfl (lp 41 0 w23 (by omega) (by rw [mo_z40_0, wr_id]) (by omega))
              · refine xx_iconst (pc := 60) dX12_sheet_60 cc_iconst_0 ?_
                refine xx_goto (pc := 61) 65 dX12_sheet_61 rfl ?_
                refine xx_iastN (pc := 65) dX12_sheet_65 sh_127 (by omega) (by decide) ?_
                refine xx_nw (fun w24 ew24 => ?_)
                refine xx_iconst (pc := 66) dX12_sheet_66 cc_iconst_0 ?_
                refine xx_istore (L' := [(4, .int (nI 0)), (0, ic_pt E 114), (1, .int (nI i)), (2, .int (nI sort)), (3, .int (nI m))]) (pc := 67) dX12_sheet_67 (Nat.le_of_ble_eq_true rfl) rfl ?_
                have hw2 : wr w24 128 (mo_z40 (w24 128) i 40) = (wr (wu (wu w 126 i sort) 127 i (if sort = 4294967295 then 0 else m)) 128 (mo_z40 (w 128) i 40)) := by rw [ew24, ew21, wu_row _ _ _ (by omega), wu_row _ _ _ (by omega), if_pos (by omega)]
                have lp : ∀ (n_ : Nat) (j : Nat) (u : ic_w), j ≤ 40 → u = wr w24 128 (mo_z40 (w24 128) i j) → 40 - j < n_ → xx l E (ic_fr E mX12_sheet 3 0 0 False SHs (ic_qi (fun v_ h_ => v_ = nI (if i ≤ 3 ∧ (sort = 4294967295 ∨ (sort ≤ 4 ∧ (m ≤ 40 ∨ 2 ^ 31 ≤ m))) then (if sort ≠ 4294967295 ∧ 2 ^ 31 ≤ m then 4294967282 else 1) else 4294967295) ∧ h_ = hn (if i ≤ 3 ∧ (sort = 4294967295 ∨ (sort ≤ 4 ∧ m ≤ 40)) then (wr (wu (wu w 126 i sort) 127 i (if sort = 4294967295 then 0 else m)) 128 (mo_z40 (w 128) i 40)) else w)))) (0, 0) 69 [(4, .int (nI j)), (0, ic_pt E 114), (1, .int (nI i)), (2, .int (nI sort)), (3, .int (nI m))] [] SHs (hn u) := by
                  intro n_
                  induction n_ with
                  | zero => intro j u hj hu hm_; exact absurd hm_ (Nat.not_lt_zero _)
                  | succ n_ ih_ =>
                    intro j u hj hu hm_
                    refine xx_iload (pc := 69) dX12_sheet_69 0 rfl ?_
                    refine xx_bipush (pc := 71) dX12_sheet_71 cc_bipush_40 ?_
                    refine xx_icmp_geN (pc := 73) 95 dX12_sheet_73 rfl (by omega) (by omega) (fun c75 => ?_) (fun c75 => ?_)
                    · refine xx_iconst (pc := 95) dX12_sheet_95 cc_iconst_1 ?_
                      exact xx_iret (pc := 96) dX12_sheet_96 rfl (rfl) (Nat.le_refl _) (Nat.le_refl _) (ic_ri ⟨by rw [if_pos (by omega), if_neg (by omega)], by rw [if_pos (by omega), hu, show j = 40 by omega, hw2]⟩)
                    · refine xx_aload_nP (pc := 76) dX12_sheet_76 1 rfl rfl ?_
                      refine xx_getR (pc := 77) 128 dX12_sheet_77 sh_114 fX12_49_12 rfl rfl (by decide) ?_
                      refine xx_bipush (pc := 80) dX12_sheet_80 cc_bipush_40 ?_
                      refine xx_iload_n (pc := 82) dX12_sheet_82 2 rfl rfl ?_
                      refine xx_imulN (pc := 83) dX12_sheet_83 ?_
                      refine xx_iload (pc := 84) dX12_sheet_84 0 rfl ?_
                      refine xx_iaddN (pc := 86) dX12_sheet_86 ?_
                      refine xx_iconst (pc := 87) dX12_sheet_87 cc_iconst_0 ?_
                      refine xx_iastE (j2 := 40 * i + j) (pc := 88) dX12_sheet_88 sh_128 (by omega) (by omega) (by decide) ?_
                      refine xx_nw (fun w76 ew76 => ?_)
                      refine xx_iincN (L' := [(4, .int (nI (j + 1))), (0, ic_pt E 114), (1, .int (nI i)), (2, .int (nI sort)), (3, .int (nI m))]) (pc := 89) dX12_sheet_89 0 rfl cc_iconst_1 (Nat.le_of_ble_eq_true rfl) rfl ?_
                      refine xx_goto (pc := 92) 69 dX12_sheet_92 rfl ?_
                      exact xx_sub [0, 1, 2, 3, 4] rfl (ih_ (j + 1) w76 (by omega) (by rw [mo_z40_s, ew76, wu_wr, hu, wr_s, wr_wr]) (by omega))
                exact xx_sub [0, 1, 2, 3, 4] rfl (lp 41 0 w24 (by omega) (by rw [mo_z40_0, wr_id]) (by omega))
            · refine xx_bipush (pc := 41) dX12_sheet_41 cc_bipush_m14 ?_
              exact xx_iret (pc := 43) dX12_sheet_43 rfl (rfl) (Nat.le_refl _) (Nat.le_refl _) (ic_ri ⟨by rw [if_pos (by omega), if_pos (by omega)], by rw [if_neg (by omega)]⟩)
        · rw [le_s (by omega) (by omega)] at c14
          refine xx_iconst (pc := 31) dX12_sheet_31 cc_iconst_m1 ?_
          exact xx_iret (pc := 32) dX12_sheet_32 rfl (rfl) (Nat.le_refl _) (Nat.le_refl _) (ic_ri ⟨by rw [if_neg (by omega)], by rw [if_neg (by omega)]⟩)

set_option maxHeartbeats 4000000 in
set_option maxRecDepth 100000 in
theorem cM_write {l : Launch} {E : ic_E} {w : ic_w} {i : Nat} (hi_ : i < 2 ^ 32) {j : Nat} (hj_ : j < 2 ^ 32) {v : Nat} (hv_ : v < 2 ^ 32) (hS : mo_St w) : ic_C l E mX12_write 3 0 0 False [ic_pt E 114, .int (nI i), .int (nI j), .int (nI v)] SHs (hn w) SHs (ic_qi (fun v_ h_ => v_ = nI (if ¬ i ≤ 3 then 4294967295 else if w 126 i = 4294967295 then 4294967285 else if j < w 127 i then 1 else 4294967284) ∧ h_ = hn (if i ≤ 3 ∧ w 126 i ≠ 4294967295 ∧ j < w 127 i then wu w 128 (40 * i + j) (mo_cv (w 126 i) v) else w))) := by
  refine ic_intro (by decide +kernel) (Nat.le_of_ble_eq_true rfl) ?_
  show xx l E _ _ 0 [(0, ic_pt E 114), (1, .int (nI i)), (2, .int (nI j)), (3, .int (nI v))] _ _ _
  refine xx_iload_n (pc := 0) dX12_write_0 1 rfl rfl ?_
  refine xx_callS0 (pc := 1) (st := []) (cM_isSheet (w := w) (a := i) (by omega)) kX12_isSheet sX12_350 dX12_write_1 rfl rfl (Nat.le_of_ble_eq_true rfl) ⟨Nat.le_of_ble_eq_true rfl, Nat.le_of_ble_eq_true rfl⟩ ⟨Nat.zero_le _, Nat.zero_le _⟩ (ic_ke ?_)
  refine xx_if_neB (pc := 4) 9 dX12_write_4 rfl (fun c1 => ?_) (fun c1 => ?_)
  · have hs := hS.1 i (by omega)
    refine xx_aload_nP (pc := 9) dX12_write_9 0 rfl rfl ?_
    refine xx_getR (pc := 10) 126 dX12_write_10 sh_114 fX12_43_12 rfl rfl (by decide) ?_
    refine xx_iload_n (pc := 13) dX12_write_13 1 rfl rfl ?_
    refine xx_ialdN (pc := 14) dX12_write_14 sh_126 (by omega) (by decide) ?_
    refine xx_if_geS (pc := 15) 21 dX12_write_15 rfl (by omega) (fun c2 => ?_) (fun c2 => ?_)
    · refine xx_iload_n (pc := 21) dX12_write_21 2 rfl rfl ?_
      refine xx_i2l (pc := 22) dX12_write_22 ?_
      refine xx_lconst (v := 0) (pc := 23) dX12_write_23 rfl ?_
      refine xx_aload_nP (pc := 24) dX12_write_24 0 rfl rfl ?_
      refine xx_getR (pc := 25) 127 dX12_write_25 sh_114 fX12_46_12 rfl rfl (by decide) ?_
      refine xx_iload_n (pc := 28) dX12_write_28 1 rfl rfl ?_
      refine xx_ialdN (pc := 29) dX12_write_29 sh_127 (by omega) (by decide) ?_
      refine xx_iconst (pc := 30) dX12_write_30 cc_iconst_1 ?_
      refine xx_isubW (pc := 31) dX12_write_31 (by omega) ?_
      refine xx_i2l (pc := 32) dX12_write_32 ?_
      refine xx_callS0 (pc := 33) (st := []) (cM_isIn (j < w 127 i) (ll_row2 (by omega) (by omega))) kX12_isIn sX12_66 dX12_write_33 rfl rfl (Nat.le_of_ble_eq_true rfl) ⟨Nat.le_of_ble_eq_true rfl, Nat.le_of_ble_eq_true rfl⟩ ⟨Nat.zero_le _, Nat.zero_le _⟩ (ic_ke ?_)
      refine xx_if_neB (pc := 36) 42 dX12_write_36 rfl (fun c3 => ?_) (fun c3 => ?_)
      · refine xx_aload_nP (pc := 42) dX12_write_42 0 rfl rfl ?_
        refine xx_getR (pc := 43) 128 dX12_write_43 sh_114 fX12_49_12 rfl rfl (by decide) ?_
        refine xx_bipush (pc := 46) dX12_write_46 cc_bipush_40 ?_
        refine xx_iload_n (pc := 48) dX12_write_48 1 rfl rfl ?_
        refine xx_imulN (pc := 49) dX12_write_49 ?_
        refine xx_iload_n (pc := 50) dX12_write_50 2 rfl rfl ?_
        refine xx_iaddN (pc := 51) dX12_write_51 ?_
        refine xx_aload_nP (pc := 52) dX12_write_52 0 rfl rfl ?_
        refine xx_getR (pc := 53) 126 dX12_write_53 sh_114 fX12_43_12 rfl rfl (by decide) ?_
        refine xx_iload_n (pc := 56) dX12_write_56 1 rfl rfl ?_
        refine xx_ialdN (pc := 57) dX12_write_57 sh_126 (by omega) (by decide) ?_
        refine xx_if_neN (pc := 58) 66 dX12_write_58 rfl (by omega) (fun c4 => ?_) (fun c4 => ?_)
        · refine xx_aload_nP (pc := 66) dX12_write_66 0 rfl rfl ?_
          refine xx_getR (pc := 67) 126 dX12_write_67 sh_114 fX12_43_12 rfl rfl (by decide) ?_
          refine xx_iload_n (pc := 70) dX12_write_70 1 rfl rfl ?_
          refine xx_ialdN (pc := 71) dX12_write_71 sh_126 (by omega) (by decide) ?_
          refine xx_iconst (pc := 72) dX12_write_72 cc_iconst_1 ?_
          refine xx_icmp_neN (pc := 73) 81 dX12_write_73 rfl (by omega) (by omega) (fun c5 => ?_) (fun c5 => ?_)
          · refine xx_aload_nP (pc := 81) dX12_write_81 0 rfl rfl ?_
            refine xx_getR (pc := 82) 126 dX12_write_82 sh_114 fX12_43_12 rfl rfl (by decide) ?_
            refine xx_iload_n (pc := 85) dX12_write_85 1 rfl rfl ?_
            refine xx_ialdN (pc := 86) dX12_write_86 sh_126 (by omega) (by decide) ?_
            refine xx_iconst (pc := 87) dX12_write_87 cc_iconst_4 ?_
            refine xx_icmp_neN (pc := 88) 103 dX12_write_88 rfl (by omega) (by omega) (fun c6 => ?_) (fun c6 => ?_)
            · refine xx_iload_n (pc := 103) dX12_write_103 3 rfl rfl ?_
              refine xx_iastE (j2 := 40 * i + j) (pc := 104) dX12_write_104 sh_128 (by omega) (by omega) (by decide) ?_
              refine xx_nw (fun w7 ew7 => ?_)
              refine xx_iconst (pc := 105) dX12_write_105 cc_iconst_1 ?_
              exact xx_iret (pc := 106) dX12_write_106 rfl (rfl) (Nat.le_refl _) (Nat.le_refl _) (ic_ri ⟨by rw [if_neg (by omega), if_neg (by omega), if_pos (by omega)], by rw [if_pos (by omega), ew7]; congr 2; unfold mo_cv; first | exact (if_pos (by omega)).symm | exact ((if_neg (by omega)).trans (if_pos (by omega))).symm | exact ((if_neg (by omega)).trans ((if_neg (by omega)).trans ((if_pos (by omega)).trans (if_pos (by omega))))).symm | exact ((if_neg (by omega)).trans ((if_neg (by omega)).trans ((if_pos (by omega)).trans (if_neg (by omega))))).symm | exact ((if_neg (by omega)).trans ((if_neg (by omega)).trans (if_neg (by omega)))).symm⟩)
            · refine xx_iload_n (pc := 91) dX12_write_91 3 rfl rfl ?_
              refine xx_if_neN (pc := 92) 99 dX12_write_92 rfl (by omega) (fun c8 => ?_) (fun c8 => ?_)
              · refine xx_iconst (pc := 99) dX12_write_99 cc_iconst_1 ?_
                refine xx_goto (pc := 100) 104 dX12_write_100 rfl ?_
                refine xx_iastE (j2 := 40 * i + j) (pc := 104) dX12_write_104 sh_128 (by omega) (by omega) (by decide) ?_
                refine xx_nw (fun w9 ew9 => ?_)
                refine xx_iconst (pc := 105) dX12_write_105 cc_iconst_1 ?_
                exact xx_iret (pc := 106) dX12_write_106 rfl (rfl) (Nat.le_refl _) (Nat.le_refl _) (ic_ri ⟨by rw [if_neg (by omega), if_neg (by omega), if_pos (by omega)], by rw [if_pos (by omega), ew9]; congr 2; unfold mo_cv; first | exact (if_pos (by omega)).symm | exact ((if_neg (by omega)).trans (if_pos (by omega))).symm | exact ((if_neg (by omega)).trans ((if_neg (by omega)).trans ((if_pos (by omega)).trans (if_pos (by omega))))).symm | exact ((if_neg (by omega)).trans ((if_neg (by omega)).trans ((if_pos (by omega)).trans (if_neg (by omega))))).symm | exact ((if_neg (by omega)).trans ((if_neg (by omega)).trans (if_neg (by omega)))).symm⟩)
              · refine xx_iconst (pc := 95) dX12_write_95 cc_iconst_0 ?_
                refine xx_goto (pc := 96) 104 dX12_write_96 rfl ?_
                refine xx_iastE (j2 := 40 * i + j) (pc := 104) dX12_write_104 sh_128 (by omega) (by omega) (by decide) ?_
                refine xx_nw (fun w10 ew10 => ?_)
                refine xx_iconst (pc := 105) dX12_write_105 cc_iconst_1 ?_
                exact xx_iret (pc := 106) dX12_write_106 rfl (rfl) (Nat.le_refl _) (Nat.le_refl _) (ic_ri ⟨by rw [if_neg (by omega), if_neg (by omega), if_pos (by omega)], by rw [if_pos (by omega), ew10]; congr 2; unfold mo_cv; first | exact (if_pos (by omega)).symm | exact ((if_neg (by omega)).trans (if_pos (by omega))).symm | exact ((if_neg (by omega)).trans ((if_neg (by omega)).trans ((if_pos (by omega)).trans (if_pos (by omega))))).symm | exact ((if_neg (by omega)).trans ((if_neg (by omega)).trans ((if_pos (by omega)).trans (if_neg (by omega))))).symm | exact ((if_neg (by omega)).trans ((if_neg (by omega)).trans (if_neg (by omega)))).symm⟩)
          · refine xx_iload_n (pc := 76) dX12_write_76 3 rfl rfl ?_
            refine xx_i2s (pc := 77) dX12_write_77 ?_
            refine xx_eqI (y := nI (mo_sh v)) (nI_tn _).symm ?_
            refine xx_goto (pc := 78) 104 dX12_write_78 rfl ?_
            refine xx_iastE (j2 := 40 * i + j) (pc := 104) dX12_write_104 sh_128 (by omega) (by omega) (by decide) ?_
            refine xx_nw (fun w11 ew11 => ?_)
            refine xx_iconst (pc := 105) dX12_write_105 cc_iconst_1 ?_
            exact xx_iret (pc := 106) dX12_write_106 rfl (rfl) (Nat.le_refl _) (Nat.le_refl _) (ic_ri ⟨by rw [if_neg (by omega), if_neg (by omega), if_pos (by omega)], by rw [if_pos (by omega), ew11]; congr 2; unfold mo_cv; first | exact (if_pos (by omega)).symm | exact ((if_neg (by omega)).trans (if_pos (by omega))).symm | exact ((if_neg (by omega)).trans ((if_neg (by omega)).trans ((if_pos (by omega)).trans (if_pos (by omega))))).symm | exact ((if_neg (by omega)).trans ((if_neg (by omega)).trans ((if_pos (by omega)).trans (if_neg (by omega))))).symm | exact ((if_neg (by omega)).trans ((if_neg (by omega)).trans (if_neg (by omega)))).symm⟩)
        · refine xx_iload_n (pc := 61) dX12_write_61 3 rfl rfl ?_
          refine xx_i2b (pc := 62) dX12_write_62 ?_
          refine xx_eqI (y := nI (mo_by v)) (nI_tn _).symm ?_
          refine xx_goto (pc := 63) 104 dX12_write_63 rfl ?_
          refine xx_iastE (j2 := 40 * i + j) (pc := 104) dX12_write_104 sh_128 (by omega) (by omega) (by decide) ?_
          refine xx_nw (fun w12 ew12 => ?_)
          refine xx_iconst (pc := 105) dX12_write_105 cc_iconst_1 ?_
          exact xx_iret (pc := 106) dX12_write_106 rfl (rfl) (Nat.le_refl _) (Nat.le_refl _) (ic_ri ⟨by rw [if_neg (by omega), if_neg (by omega), if_pos (by omega)], by rw [if_pos (by omega), ew12]; congr 2; unfold mo_cv; first | exact (if_pos (by omega)).symm | exact ((if_neg (by omega)).trans (if_pos (by omega))).symm | exact ((if_neg (by omega)).trans ((if_neg (by omega)).trans ((if_pos (by omega)).trans (if_pos (by omega))))).symm | exact ((if_neg (by omega)).trans ((if_neg (by omega)).trans ((if_pos (by omega)).trans (if_neg (by omega))))).symm | exact ((if_neg (by omega)).trans ((if_neg (by omega)).trans (if_neg (by omega)))).symm⟩)
      · refine xx_bipush (pc := 39) dX12_write_39 cc_bipush_m12 ?_
        exact xx_iret (pc := 41) dX12_write_41 rfl (rfl) (Nat.le_refl _) (Nat.le_refl _) (ic_ri ⟨by rw [if_neg (by omega), if_neg (by omega), if_neg (by omega)], by rw [if_neg (by omega)]⟩)
    · refine xx_bipush (pc := 18) dX12_write_18 cc_bipush_m11 ?_
      exact xx_iret (pc := 20) dX12_write_20 rfl (rfl) (Nat.le_refl _) (Nat.le_refl _) (ic_ri ⟨by rw [if_neg (by omega), if_pos (by omega)], by rw [if_neg (by omega)]⟩)
  · refine xx_iconst (pc := 7) dX12_write_7 cc_iconst_m1 ?_
    exact xx_iret (pc := 8) dX12_write_8 rfl (rfl) (Nat.le_refl _) (Nat.le_refl _) (ic_ri ⟨by rw [if_pos (by omega)], by rw [if_neg (by omega)]⟩)

set_option maxHeartbeats 4000000 in
set_option maxRecDepth 100000 in
theorem cM_item {l : Launch} {E : ic_E} {w : ic_w} {i : Nat} (hi_ : i < 2 ^ 32) {k : Nat} (hk_ : k < 2 ^ 32) {j : Nat} (hj_ : j < 2 ^ 32) (hS : mo_St w) : ic_C l E mX12_item 3 0 0 False [ic_pt E 114, .int (nI i), .int (nI k), .int (nI j)] SHs (hn w) SHs (ic_qe (nI (if i ≤ 3 ∧ k ≤ 4 then (if mo_lk w i k = 0 then (if j < w 127 i then w 128 (40 * i + j) else 4294967284) else mo_lk w i k) else 4294967295)) (hn w)) := by
  refine ic_intro (by decide +kernel) (Nat.le_of_ble_eq_true rfl) ?_
  show xx l E _ _ 0 [(0, ic_pt E 114), (1, .int (nI i)), (2, .int (nI k)), (3, .int (nI j))] _ _ _
  refine xx_iload_n (pc := 0) dX12_item_0 1 rfl rfl ?_
  refine xx_callS0 (pc := 1) (st := []) (cM_isSheet (w := w) (a := i) (by omega)) kX12_isSheet sX12_350 dX12_item_1 rfl rfl (Nat.le_of_ble_eq_true rfl) ⟨Nat.le_of_ble_eq_true rfl, Nat.le_of_ble_eq_true rfl⟩ ⟨Nat.zero_le _, Nat.zero_le _⟩ (ic_ke ?_)
  refine xx_if_eqB (pc := 4) 19 dX12_item_4 rfl (fun c1 => ?_) (fun c1 => ?_)
  · refine xx_iconst (pc := 19) dX12_item_19 cc_iconst_m1 ?_
    exact xx_iret (pc := 20) dX12_item_20 rfl (rfl) (Nat.le_refl _) (Nat.le_refl _) (ic_re (by first | exact (if_neg (by omega)).symm | exact ((if_pos (by omega)).trans (if_neg (by omega))).symm | exact ((if_pos (by omega)).trans ((if_pos (by omega)).trans (if_pos (by omega)))).symm | exact ((if_pos (by omega)).trans ((if_pos (by omega)).trans (if_neg (by omega)))).symm))
  · refine xx_iload_n (pc := 7) dX12_item_7 2 rfl rfl ?_
    refine xx_i2l (pc := 8) dX12_item_8 ?_
    refine xx_lconst (v := 0) (pc := 9) dX12_item_9 rfl ?_
    refine xx_ldc2 (v := 4) (pc := 10) dX12_item_10 oX12_298 ?_
    refine xx_callS0 (pc := 13) (st := []) (cM_isIn (0 ≤ k ∧ k ≤ 4) (ll_in (lo := 0) (hi := 4) (by omega) (by decide) (by decide) (by omega))) kX12_isIn sX12_66 dX12_item_13 rfl rfl (Nat.le_of_ble_eq_true rfl) ⟨Nat.le_of_ble_eq_true rfl, Nat.le_of_ble_eq_true rfl⟩ ⟨Nat.zero_le _, Nat.zero_le _⟩ (ic_ke ?_)
    refine xx_if_neB (pc := 16) 21 dX12_item_16 rfl (fun c2 => ?_) (fun c2 => ?_)
    · have hs := hS.1 i (by omega)
      have hlk := mo_lk_lt w i k
      refine xx_aload_nP (pc := 21) dX12_item_21 0 rfl rfl ?_
      refine xx_iload_n (pc := 22) dX12_item_22 1 rfl rfl ?_
      refine xx_iload_n (pc := 23) dX12_item_23 2 rfl rfl ?_
      refine xx_callV0 (pc := 24) (st := []) sh_114 (cM_lacks (w := w) (i := i) (k := k) (by omega) (by omega) hS) kX12_lacks vX12_355_12 dX12_item_24 rfl rfl (Nat.le_of_ble_eq_true rfl) ⟨Nat.le_of_ble_eq_true rfl, Nat.le_of_ble_eq_true rfl⟩ ⟨Nat.zero_le _, Nat.zero_le _⟩ (ic_ke ?_)
      refine xx_if_eqN (pc := 27) 37 dX12_item_27 rfl (by omega) (fun c3 => ?_) (fun c3 => ?_)
      · refine xx_iload_n (pc := 37) dX12_item_37 3 rfl rfl ?_
        refine xx_i2l (pc := 38) dX12_item_38 ?_
        refine xx_lconst (v := 0) (pc := 39) dX12_item_39 rfl ?_
        refine xx_aload_nP (pc := 40) dX12_item_40 0 rfl rfl ?_
        refine xx_getR (pc := 41) 127 dX12_item_41 sh_114 fX12_46_12 rfl rfl (by decide) ?_
        refine xx_iload_n (pc := 44) dX12_item_44 1 rfl rfl ?_
        refine xx_ialdN (pc := 45) dX12_item_45 sh_127 (by omega) (by decide) ?_
        refine xx_iconst (pc := 46) dX12_item_46 cc_iconst_1 ?_
        refine xx_isubW (pc := 47) dX12_item_47 (by omega) ?_
        refine xx_i2l (pc := 48) dX12_item_48 ?_
        refine xx_callS0 (pc := 49) (st := []) (cM_isIn (j < w 127 i) (ll_row2 (by omega) (by omega))) kX12_isIn sX12_66 dX12_item_49 rfl rfl (Nat.le_of_ble_eq_true rfl) ⟨Nat.le_of_ble_eq_true rfl, Nat.le_of_ble_eq_true rfl⟩ ⟨Nat.zero_le _, Nat.zero_le _⟩ (ic_ke ?_)
        refine xx_if_eqB (pc := 52) 69 dX12_item_52 rfl (fun c4 => ?_) (fun c4 => ?_)
        · refine xx_bipush (pc := 69) dX12_item_69 cc_bipush_m12 ?_
          exact xx_iret (pc := 71) dX12_item_71 rfl (rfl) (Nat.le_refl _) (Nat.le_refl _) (ic_re (by first | exact (if_neg (by omega)).symm | exact ((if_pos (by omega)).trans (if_neg (by omega))).symm | exact ((if_pos (by omega)).trans ((if_pos (by omega)).trans (if_pos (by omega)))).symm | exact ((if_pos (by omega)).trans ((if_pos (by omega)).trans (if_neg (by omega)))).symm))
        · refine xx_aload_nP (pc := 55) dX12_item_55 0 rfl rfl ?_
          refine xx_getR (pc := 56) 128 dX12_item_56 sh_114 fX12_49_12 rfl rfl (by decide) ?_
          refine xx_bipush (pc := 59) dX12_item_59 cc_bipush_40 ?_
          refine xx_iload_n (pc := 61) dX12_item_61 1 rfl rfl ?_
          refine xx_imulN (pc := 62) dX12_item_62 ?_
          refine xx_iload_n (pc := 63) dX12_item_63 3 rfl rfl ?_
          refine xx_iaddN (pc := 64) dX12_item_64 ?_
          refine xx_ialdE (j2 := 40 * i + j) (pc := 65) dX12_item_65 sh_128 (by omega) (by omega) (by decide) ?_
          refine xx_goto (pc := 66) 71 dX12_item_66 rfl ?_
          exact xx_iret (pc := 71) dX12_item_71 rfl (rfl) (Nat.le_refl _) (Nat.le_refl _) (ic_re (by first | exact (if_neg (by omega)).symm | exact ((if_pos (by omega)).trans (if_neg (by omega))).symm | exact ((if_pos (by omega)).trans ((if_pos (by omega)).trans (if_pos (by omega)))).symm | exact ((if_pos (by omega)).trans ((if_pos (by omega)).trans (if_neg (by omega)))).symm))
      · refine xx_aload_nP (pc := 30) dX12_item_30 0 rfl rfl ?_
        refine xx_iload_n (pc := 31) dX12_item_31 1 rfl rfl ?_
        refine xx_iload_n (pc := 32) dX12_item_32 2 rfl rfl ?_
        refine xx_callV0 (pc := 33) (st := []) sh_114 (cM_lacks (w := w) (i := i) (k := k) (by omega) (by omega) hS) kX12_lacks vX12_355_12 dX12_item_33 rfl rfl (Nat.le_of_ble_eq_true rfl) ⟨Nat.le_of_ble_eq_true rfl, Nat.le_of_ble_eq_true rfl⟩ ⟨Nat.zero_le _, Nat.zero_le _⟩ (ic_ke ?_)
        exact xx_iret (pc := 36) dX12_item_36 rfl (rfl) (Nat.le_refl _) (Nat.le_refl _) (ic_re (by first | exact (if_neg (by omega)).symm | exact ((if_pos (by omega)).trans (if_neg (by omega))).symm | exact ((if_pos (by omega)).trans ((if_pos (by omega)).trans (if_pos (by omega)))).symm | exact ((if_pos (by omega)).trans ((if_pos (by omega)).trans (if_neg (by omega)))).symm))
    · refine xx_iconst (pc := 19) dX12_item_19 cc_iconst_m1 ?_
      exact xx_iret (pc := 20) dX12_item_20 rfl (rfl) (Nat.le_refl _) (Nat.le_refl _) (ic_re (by first | exact (if_neg (by omega)).symm | exact ((if_pos (by omega)).trans (if_neg (by omega))).symm | exact ((if_pos (by omega)).trans ((if_pos (by omega)).trans (if_pos (by omega)))).symm | exact ((if_pos (by omega)).trans ((if_pos (by omega)).trans (if_neg (by omega)))).symm))

