/-! shelves -/
def mo_Sv (w : ic_w) : Prop := ∀ i, i < 4 → w 129 i ≤ 2 ∧ w 130 i < 2 ^ 32 ∧ w 131 i ≤ 40
def mo_ho (w : ic_w) (i : Nat) : Nat := if w 129 i = 1 ∧ ¬ w 130 i < w 115 0 then 0 else w 129 i
def mo_tk (w : ic_w) (i k : Nat) : Nat := if mo_ho w i = 0 then 4294967285 else if k < 10 then (if mo_ho w i = 1 ∧ mo_under (it (w 115) (w 130 i) 0) k = true then w 130 i else 4294967283) else (if mo_ho w i = 2 ∧ w 130 i = k - 10 then w 131 i else 4294967283)
theorem mo_ho_le {w : ic_w} (h : mo_Sv w) {i : Nat} (hi : i < 4) : mo_ho w i ≤ 2 := by
  have := (h i hi).1
  unfold mo_ho
  split <;> omega
theorem mo_ho_1 {w : ic_w} {i : Nat} (h : mo_ho w i = 1) : w 130 i < w 115 0 := by
  unfold mo_ho at h
  split at h <;> omega
theorem wu3 {w a : ic_w} {i A B C A2 B2 C2 : Nat} (e : a = wu (wu (wu w 129 i A) 130 i B) 131 i C) (h1 : A = A2) (h2 : B = B2) (h3 : C = C2) : a = wu (wu (wu w 129 i A2) 130 i B2) 131 i C2 := by
  rw [e, h1, h2, h3]

set_option maxHeartbeats 4000000 in
set_option maxRecDepth 100000 in
theorem cM_shelf {l : Launch} {E : ic_E} {w : ic_w} {i : Nat} (hi_ : i < 2 ^ 32) {what : Nat} (hwhat_ : what < 2 ^ 32) {x : Nat} (hx_ : x < 2 ^ 32) (hS : mo_St w) (hI : In (w 115)) : ic_C l E mX12_shelf 3 0 0 False [ic_pt E 114, .int (nI i), .int (nI what), .int (nI x)] SHs (hn w) SHs (ic_qi (fun v_ h_ => v_ = nI (if i ≤ 3 ∧ what ≤ 2 ∧ (what = 0 → x < w 115 0) ∧ (what = 1 → x ≤ 3) then 1 else 4294967295) ∧ h_ = hn (if i ≤ 3 ∧ what ≤ 2 ∧ (what = 0 → x < w 115 0) ∧ (what = 1 → x ≤ 3) then wu (wu (wu w 129 i (if what = 0 then 1 else if what = 1 ∧ w 126 x ≠ 4294967295 then 2 else 0)) 130 i (if what = 0 then x else if what = 1 ∧ w 126 x ≠ 4294967295 then w 126 x else 0)) 131 i (if what = 1 ∧ w 126 x ≠ 4294967295 then w 127 x else 0) else w))) := by
  refine ic_intro (by decide +kernel) (Nat.le_of_ble_eq_true rfl) ?_
  show xx l E _ _ 0 [(0, ic_pt E 114), (1, .int (nI i)), (2, .int (nI what)), (3, .int (nI x))] _ _ _
  have hn0 := hI.n
  have hs : x ≤ 3 → (w 126 x = 4294967295 ∨ w 126 x ≤ 4) ∧ w 127 x ≤ 40 := fun z => hS.1 x (by omega)
  refine xx_iload_n (pc := 0) dX12_shelf_0 1 rfl rfl ?_
  refine xx_callS0 (pc := 1) (st := []) (cM_isShelf (w := w) (a := i) (by omega)) kX12_isShelf sX12_363 dX12_shelf_1 rfl rfl (Nat.le_of_ble_eq_true rfl) ⟨Nat.le_of_ble_eq_true rfl, Nat.le_of_ble_eq_true rfl⟩ ⟨Nat.zero_le _, Nat.zero_le _⟩ (ic_ke ?_)
  refine xx_if_eqB (pc := 4) 43 dX12_shelf_4 rfl (fun c1 => ?_) (fun c1 => ?_)
  · refine xx_iconst (pc := 43) dX12_shelf_43 cc_iconst_m1 ?_
    exact xx_iret (pc := 44) dX12_shelf_44 rfl (rfl) (Nat.le_refl _) (Nat.le_refl _) (ic_ri ⟨by rw [if_neg (by omega)], by rw [if_neg (by omega)]⟩)
  · refine xx_iload_n (pc := 7) dX12_shelf_7 2 rfl rfl ?_
    refine xx_i2l (pc := 8) dX12_shelf_8 ?_
    refine xx_lconst (v := 0) (pc := 9) dX12_shelf_9 rfl ?_
    refine xx_ldc2 (v := 2) (pc := 10) dX12_shelf_10 oX12_99 ?_
    refine xx_callS0 (pc := 13) (st := []) (cM_isIn (0 ≤ what ∧ what ≤ 2) (ll_in (lo := 0) (hi := 2) (by omega) (by decide) (by decide) (by omega))) kX12_isIn sX12_66 dX12_shelf_13 rfl rfl (Nat.le_of_ble_eq_true rfl) ⟨Nat.le_of_ble_eq_true rfl, Nat.le_of_ble_eq_true rfl⟩ ⟨Nat.zero_le _, Nat.zero_le _⟩ (ic_ke ?_)
    refine xx_if_eqB (pc := 16) 43 dX12_shelf_16 rfl (fun c2 => ?_) (fun c2 => ?_)
    · refine xx_iconst (pc := 43) dX12_shelf_43 cc_iconst_m1 ?_
      exact xx_iret (pc := 44) dX12_shelf_44 rfl (rfl) (Nat.le_refl _) (Nat.le_refl _) (ic_ri ⟨by rw [if_neg (by omega)], by rw [if_neg (by omega)]⟩)
    · refine xx_iload_n (pc := 19) dX12_shelf_19 2 rfl rfl ?_
      refine xx_if_neN (pc := 20) 31 dX12_shelf_20 rfl (by omega) (fun c3 => ?_) (fun c3 => ?_)
      · refine xx_iload_n (pc := 31) dX12_shelf_31 2 rfl rfl ?_
        refine xx_iconst (pc := 32) dX12_shelf_32 cc_iconst_1 ?_
        refine xx_icmp_neN (pc := 33) 45 dX12_shelf_33 rfl (by omega) (by omega) (fun c4 => ?_) (fun c4 => ?_)
        · refine xx_iload_n (pc := 45) dX12_shelf_45 2 rfl rfl ?_
          refine xx_iconst (pc := 46) dX12_shelf_46 cc_iconst_1 ?_
          refine xx_icmp_neN (pc := 47) 63 dX12_shelf_47 rfl (by omega) (by omega) (fun c5 => ?_) (fun c5 => ?_)
          · refine xx_iconst (pc := 63) dX12_shelf_63 cc_iconst_0 ?_
            refine xx_istore (L' := [(4, .int (nI 0)), (0, ic_pt E 114), (1, .int (nI i)), (2, .int (nI what)), (3, .int (nI x))]) (pc := 64) dX12_shelf_64 (Nat.le_of_ble_eq_true rfl) rfl ?_
            refine xx_aload_nP (pc := 66) dX12_shelf_66 1 rfl rfl ?_
            refine xx_getR (pc := 67) 129 dX12_shelf_67 sh_114 fX12_52_12 rfl rfl (by decide) ?_
            refine xx_iload_n (pc := 70) dX12_shelf_70 2 rfl rfl ?_
            refine xx_iload_n (pc := 71) dX12_shelf_71 3 rfl rfl ?_
            refine xx_if_neN (pc := 72) 79 dX12_shelf_72 rfl (by omega) (fun c6 => ?_) (fun c6 => ?_)
            · refine xx_iload (pc := 79) dX12_shelf_79 0 rfl ?_
              refine xx_if_eqN (pc := 81) 88 dX12_shelf_81 rfl (by omega) (fun c7 => ?_) (fun c7 => by exfalso; omega)
              refine xx_iconst (pc := 88) dX12_shelf_88 cc_iconst_0 ?_
              refine xx_iastN (pc := 89) dX12_shelf_89 sh_129 (by omega) (by decide) ?_
              refine xx_nw (fun w8 ew8 => ?_)
              have h126 : w8 126 x = w 126 x := by rw [ew8, wu_o _ _ _ _ (by omega)]
              refine xx_aload_nP (pc := 90) dX12_shelf_90 1 rfl rfl ?_
              refine xx_getR (pc := 91) 130 dX12_shelf_91 sh_114 fX12_55_12 rfl rfl (by decide) ?_
              refine xx_iload_n (pc := 94) dX12_shelf_94 2 rfl rfl ?_
              refine xx_iload_n (pc := 95) dX12_shelf_95 3 rfl rfl ?_
              refine xx_if_neN (pc := 96) 103 dX12_shelf_96 rfl (by omega) (fun c9 => ?_) (fun c9 => ?_)
              · refine xx_iload (pc := 103) dX12_shelf_103 0 rfl ?_
                refine xx_if_eqN (pc := 105) 117 dX12_shelf_105 rfl (by omega) (fun c10 => ?_) (fun c10 => by exfalso; omega)
                refine xx_iconst (pc := 117) dX12_shelf_117 cc_iconst_0 ?_
                refine xx_iastN (pc := 118) dX12_shelf_118 sh_130 (by omega) (by decide) ?_
                refine xx_nw (fun w11 ew11 => ?_)
                have h127 : w11 127 x = w 127 x := by rw [ew11, wu_o _ _ _ _ (by omega), ew8, wu_o _ _ _ _ (by omega)]
                refine xx_aload_nP (pc := 119) dX12_shelf_119 1 rfl rfl ?_
                refine xx_getR (pc := 120) 131 dX12_shelf_120 sh_114 fX12_58_12 rfl rfl (by decide) ?_
                refine xx_iload_n (pc := 123) dX12_shelf_123 2 rfl rfl ?_
                refine xx_iload (pc := 124) dX12_shelf_124 0 rfl ?_
                refine xx_if_eqN (pc := 126) 138 dX12_shelf_126 rfl (by omega) (fun c12 => ?_) (fun c12 => by exfalso; omega)
                refine xx_iconst (pc := 138) dX12_shelf_138 cc_iconst_0 ?_
                refine xx_iastN (pc := 139) dX12_shelf_139 sh_131 (by omega) (by decide) ?_
                refine xx_nw (fun w13 ew13 => ?_)
                refine xx_iconst (pc := 140) dX12_shelf_140 cc_iconst_1 ?_
                exact xx_iret (pc := 141) dX12_shelf_141 rfl (rfl) (Nat.le_refl _) (Nat.le_refl _) (ic_ri ⟨by rw [if_pos (by omega)], by rw [if_pos (by omega)]; exact congrArg hn (wu3 (by rw [ew13, ew11, ew8]) (by first | exact (if_pos (by omega)).symm | exact ((if_neg (by omega)).trans (if_pos (by omega))).symm | exact ((if_neg (by omega)).trans (if_neg (by omega))).symm | exact (if_neg (by omega)).symm) (by first | (rw [h126]; exact ((if_neg (by omega)).trans (if_pos (by omega))).symm) | exact (if_pos (by omega)).symm | exact ((if_neg (by omega)).trans (if_pos (by omega))).symm | exact ((if_neg (by omega)).trans (if_neg (by omega))).symm | exact (if_neg (by omega)).symm) (by first | (rw [h127]; exact (if_pos (by omega)).symm) | exact (if_pos (by omega)).symm | exact ((if_neg (by omega)).trans (if_pos (by omega))).symm | exact ((if_neg (by omega)).trans (if_neg (by omega))).symm | exact (if_neg (by omega)).symm))⟩)
              · refine xx_iload_n (pc := 99) dX12_shelf_99 4 rfl rfl ?_
                refine xx_goto (pc := 100) 118 dX12_shelf_100 rfl ?_
                refine xx_iastN (pc := 118) dX12_shelf_118 sh_130 (by omega) (by decide) ?_
                refine xx_nw (fun w14 ew14 => ?_)
                have h127 : w14 127 x = w 127 x := by rw [ew14, wu_o _ _ _ _ (by omega), ew8, wu_o _ _ _ _ (by omega)]
                refine xx_aload_nP (pc := 119) dX12_shelf_119 1 rfl rfl ?_
                refine xx_getR (pc := 120) 131 dX12_shelf_120 sh_114 fX12_58_12 rfl rfl (by decide) ?_
                refine xx_iload_n (pc := 123) dX12_shelf_123 2 rfl rfl ?_
                refine xx_iload (pc := 124) dX12_shelf_124 0 rfl ?_
                refine xx_if_eqN (pc := 126) 138 dX12_shelf_126 rfl (by omega) (fun c15 => ?_) (fun c15 => by exfalso; omega)
                refine xx_iconst (pc := 138) dX12_shelf_138 cc_iconst_0 ?_
                refine xx_iastN (pc := 139) dX12_shelf_139 sh_131 (by omega) (by decide) ?_
                refine xx_nw (fun w16 ew16 => ?_)
                refine xx_iconst (pc := 140) dX12_shelf_140 cc_iconst_1 ?_
                exact xx_iret (pc := 141) dX12_shelf_141 rfl (rfl) (Nat.le_refl _) (Nat.le_refl _) (ic_ri ⟨by rw [if_pos (by omega)], by rw [if_pos (by omega)]; exact congrArg hn (wu3 (by rw [ew16, ew14, ew8]) (by first | exact (if_pos (by omega)).symm | exact ((if_neg (by omega)).trans (if_pos (by omega))).symm | exact ((if_neg (by omega)).trans (if_neg (by omega))).symm | exact (if_neg (by omega)).symm) (by first | (rw [h126]; exact ((if_neg (by omega)).trans (if_pos (by omega))).symm) | exact (if_pos (by omega)).symm | exact ((if_neg (by omega)).trans (if_pos (by omega))).symm | exact ((if_neg (by omega)).trans (if_neg (by omega))).symm | exact (if_neg (by omega)).symm) (by first | (rw [h127]; exact (if_pos (by omega)).symm) | exact (if_pos (by omega)).symm | exact ((if_neg (by omega)).trans (if_pos (by omega))).symm | exact ((if_neg (by omega)).trans (if_neg (by omega))).symm | exact (if_neg (by omega)).symm))⟩)
            · refine xx_iconst (pc := 75) dX12_shelf_75 cc_iconst_1 ?_
              refine xx_goto (pc := 76) 89 dX12_shelf_76 rfl ?_
              refine xx_iastN (pc := 89) dX12_shelf_89 sh_129 (by omega) (by decide) ?_
              refine xx_nw (fun w17 ew17 => ?_)
              have h126 : w17 126 x = w 126 x := by rw [ew17, wu_o _ _ _ _ (by omega)]
              refine xx_aload_nP (pc := 90) dX12_shelf_90 1 rfl rfl ?_
              refine xx_getR (pc := 91) 130 dX12_shelf_91 sh_114 fX12_55_12 rfl rfl (by decide) ?_
              refine xx_iload_n (pc := 94) dX12_shelf_94 2 rfl rfl ?_
              refine xx_iload_n (pc := 95) dX12_shelf_95 3 rfl rfl ?_
              refine xx_if_neN (pc := 96) 103 dX12_shelf_96 rfl (by omega) (fun c18 => ?_) (fun c18 => ?_)
              · refine xx_iload (pc := 103) dX12_shelf_103 0 rfl ?_
                refine xx_if_eqN (pc := 105) 117 dX12_shelf_105 rfl (by omega) (fun c19 => ?_) (fun c19 => by exfalso; omega)
                refine xx_iconst (pc := 117) dX12_shelf_117 cc_iconst_0 ?_
                refine xx_iastN (pc := 118) dX12_shelf_118 sh_130 (by omega) (by decide) ?_
                refine xx_nw (fun w20 ew20 => ?_)
                have h127 : w20 127 x = w 127 x := by rw [ew20, wu_o _ _ _ _ (by omega), ew17, wu_o _ _ _ _ (by omega)]
                refine xx_aload_nP (pc := 119) dX12_shelf_119 1 rfl rfl ?_
                refine xx_getR (pc := 120) 131 dX12_shelf_120 sh_114 fX12_58_12 rfl rfl (by decide) ?_
                refine xx_iload_n (pc := 123) dX12_shelf_123 2 rfl rfl ?_
                refine xx_iload (pc := 124) dX12_shelf_124 0 rfl ?_
                refine xx_if_eqN (pc := 126) 138 dX12_shelf_126 rfl (by omega) (fun c21 => ?_) (fun c21 => by exfalso; omega)
                refine xx_iconst (pc := 138) dX12_shelf_138 cc_iconst_0 ?_
                refine xx_iastN (pc := 139) dX12_shelf_139 sh_131 (by omega) (by decide) ?_
                refine xx_nw (fun w22 ew22 => ?_)
                refine xx_iconst (pc := 140) dX12_shelf_140 cc_iconst_1 ?_
                exact xx_iret (pc := 141) dX12_shelf_141 rfl (rfl) (Nat.le_refl _) (Nat.le_refl _) (ic_ri ⟨by rw [if_pos (by omega)], by rw [if_pos (by omega)]; exact congrArg hn (wu3 (by rw [ew22, ew20, ew17]) (by first | exact (if_pos (by omega)).symm | exact ((if_neg (by omega)).trans (if_pos (by omega))).symm | exact ((if_neg (by omega)).trans (if_neg (by omega))).symm | exact (if_neg (by omega)).symm) (by first | (rw [h126]; exact ((if_neg (by omega)).trans (if_pos (by omega))).symm) | exact (if_pos (by omega)).symm | exact ((if_neg (by omega)).trans (if_pos (by omega))).symm | exact ((if_neg (by omega)).trans (if_neg (by omega))).symm | exact (if_neg (by omega)).symm) (by first | (rw [h127]; exact (if_pos (by omega)).symm) | exact (if_pos (by omega)).symm | exact ((if_neg (by omega)).trans (if_pos (by omega))).symm | exact ((if_neg (by omega)).trans (if_neg (by omega))).symm | exact (if_neg (by omega)).symm))⟩)
              · refine xx_iload_n (pc := 99) dX12_shelf_99 4 rfl rfl ?_
                refine xx_goto (pc := 100) 118 dX12_shelf_100 rfl ?_
                refine xx_iastN (pc := 118) dX12_shelf_118 sh_130 (by omega) (by decide) ?_
                refine xx_nw (fun w23 ew23 => ?_)
                have h127 : w23 127 x = w 127 x := by rw [ew23, wu_o _ _ _ _ (by omega), ew17, wu_o _ _ _ _ (by omega)]
                refine xx_aload_nP (pc := 119) dX12_shelf_119 1 rfl rfl ?_
                refine xx_getR (pc := 120) 131 dX12_shelf_120 sh_114 fX12_58_12 rfl rfl (by decide) ?_
                refine xx_iload_n (pc := 123) dX12_shelf_123 2 rfl rfl ?_
                refine xx_iload (pc := 124) dX12_shelf_124 0 rfl ?_
                refine xx_if_eqN (pc := 126) 138 dX12_shelf_126 rfl (by omega) (fun c24 => ?_) (fun c24 => by exfalso; omega)
                refine xx_iconst (pc := 138) dX12_shelf_138 cc_iconst_0 ?_
                refine xx_iastN (pc := 139) dX12_shelf_139 sh_131 (by omega) (by decide) ?_
                refine xx_nw (fun w25 ew25 => ?_)
                refine xx_iconst (pc := 140) dX12_shelf_140 cc_iconst_1 ?_
                exact xx_iret (pc := 141) dX12_shelf_141 rfl (rfl) (Nat.le_refl _) (Nat.le_refl _) (ic_ri ⟨by rw [if_pos (by omega)], by rw [if_pos (by omega)]; exact congrArg hn (wu3 (by rw [ew25, ew23, ew17]) (by first | exact (if_pos (by omega)).symm | exact ((if_neg (by omega)).trans (if_pos (by omega))).symm | exact ((if_neg (by omega)).trans (if_neg (by omega))).symm | exact (if_neg (by omega)).symm) (by first | (rw [h126]; exact ((if_neg (by omega)).trans (if_pos (by omega))).symm) | exact (if_pos (by omega)).symm | exact ((if_neg (by omega)).trans (if_pos (by omega))).symm | exact ((if_neg (by omega)).trans (if_neg (by omega))).symm | exact (if_neg (by omega)).symm) (by first | (rw [h127]; exact (if_pos (by omega)).symm) | exact (if_pos (by omega)).symm | exact ((if_neg (by omega)).trans (if_pos (by omega))).symm | exact ((if_neg (by omega)).trans (if_neg (by omega))).symm | exact (if_neg (by omega)).symm))⟩)
          · refine xx_aload_nP (pc := 50) dX12_shelf_50 0 rfl rfl ?_
            refine xx_getR (pc := 51) 126 dX12_shelf_51 sh_114 fX12_43_12 rfl rfl (by decide) ?_
            refine xx_iload_n (pc := 54) dX12_shelf_54 3 rfl rfl ?_
            refine xx_ialdN (pc := 55) dX12_shelf_55 sh_126 (by omega) (by decide) ?_
            refine xx_if_ltS (pc := 56) 63 dX12_shelf_56 rfl (by have := hs (by omega); omega) (fun c26 => ?_) (fun c26 => ?_)
            · refine xx_iconst (pc := 63) dX12_shelf_63 cc_iconst_0 ?_
              refine xx_istore (L' := [(4, .int (nI 0)), (0, ic_pt E 114), (1, .int (nI i)), (2, .int (nI what)), (3, .int (nI x))]) (pc := 64) dX12_shelf_64 (Nat.le_of_ble_eq_true rfl) rfl ?_
              refine xx_aload_nP (pc := 66) dX12_shelf_66 1 rfl rfl ?_
              refine xx_getR (pc := 67) 129 dX12_shelf_67 sh_114 fX12_52_12 rfl rfl (by decide) ?_
              refine xx_iload_n (pc := 70) dX12_shelf_70 2 rfl rfl ?_
              refine xx_iload_n (pc := 71) dX12_shelf_71 3 rfl rfl ?_
              refine xx_if_neN (pc := 72) 79 dX12_shelf_72 rfl (by omega) (fun c27 => ?_) (fun c27 => ?_)
              · refine xx_iload (pc := 79) dX12_shelf_79 0 rfl ?_
                refine xx_if_eqN (pc := 81) 88 dX12_shelf_81 rfl (by omega) (fun c28 => ?_) (fun c28 => by exfalso; omega)
                refine xx_iconst (pc := 88) dX12_shelf_88 cc_iconst_0 ?_
                refine xx_iastN (pc := 89) dX12_shelf_89 sh_129 (by omega) (by decide) ?_
                refine xx_nw (fun w29 ew29 => ?_)
                have h126 : w29 126 x = w 126 x := by rw [ew29, wu_o _ _ _ _ (by omega)]
                refine xx_aload_nP (pc := 90) dX12_shelf_90 1 rfl rfl ?_
                refine xx_getR (pc := 91) 130 dX12_shelf_91 sh_114 fX12_55_12 rfl rfl (by decide) ?_
                refine xx_iload_n (pc := 94) dX12_shelf_94 2 rfl rfl ?_
                refine xx_iload_n (pc := 95) dX12_shelf_95 3 rfl rfl ?_
                refine xx_if_neN (pc := 96) 103 dX12_shelf_96 rfl (by omega) (fun c30 => ?_) (fun c30 => ?_)
                · refine xx_iload (pc := 103) dX12_shelf_103 0 rfl ?_
                  refine xx_if_eqN (pc := 105) 117 dX12_shelf_105 rfl (by omega) (fun c31 => ?_) (fun c31 => by exfalso; omega)
                  refine xx_iconst (pc := 117) dX12_shelf_117 cc_iconst_0 ?_
                  refine xx_iastN (pc := 118) dX12_shelf_118 sh_130 (by omega) (by decide) ?_
                  refine xx_nw (fun w32 ew32 => ?_)
                  have h127 : w32 127 x = w 127 x := by rw [ew32, wu_o _ _ _ _ (by omega), ew29, wu_o _ _ _ _ (by omega)]
                  refine xx_aload_nP (pc := 119) dX12_shelf_119 1 rfl rfl ?_
                  refine xx_getR (pc := 120) 131 dX12_shelf_120 sh_114 fX12_58_12 rfl rfl (by decide) ?_
                  refine xx_iload_n (pc := 123) dX12_shelf_123 2 rfl rfl ?_
                  refine xx_iload (pc := 124) dX12_shelf_124 0 rfl ?_
                  refine xx_if_eqN (pc := 126) 138 dX12_shelf_126 rfl (by omega) (fun c33 => ?_) (fun c33 => by exfalso; omega)
                  refine xx_iconst (pc := 138) dX12_shelf_138 cc_iconst_0 ?_
                  refine xx_iastN (pc := 139) dX12_shelf_139 sh_131 (by omega) (by decide) ?_
                  refine xx_nw (fun w34 ew34 => ?_)
                  refine xx_iconst (pc := 140) dX12_shelf_140 cc_iconst_1 ?_
                  exact xx_iret (pc := 141) dX12_shelf_141 rfl (rfl) (Nat.le_refl _) (Nat.le_refl _) (ic_ri ⟨by rw [if_pos (by omega)], by rw [if_pos (by omega)]; exact congrArg hn (wu3 (by rw [ew34, ew32, ew29]) (by first | exact (if_pos (by omega)).symm | exact ((if_neg (by omega)).trans (if_pos (by omega))).symm | exact ((if_neg (by omega)).trans (if_neg (by omega))).symm | exact (if_neg (by omega)).symm) (by first | (rw [h126]; exact ((if_neg (by omega)).trans (if_pos (by omega))).symm) | exact (if_pos (by omega)).symm | exact ((if_neg (by omega)).trans (if_pos (by omega))).symm | exact ((if_neg (by omega)).trans (if_neg (by omega))).symm | exact (if_neg (by omega)).symm) (by first | (rw [h127]; exact (if_pos (by omega)).symm) | exact (if_pos (by omega)).symm | exact ((if_neg (by omega)).trans (if_pos (by omega))).symm | exact ((if_neg (by omega)).trans (if_neg (by omega))).symm | exact (if_neg (by omega)).symm))⟩)
                · refine xx_iload_n (pc := 99) dX12_shelf_99 4 rfl rfl ?_
                  refine xx_goto (pc := 100) 118 dX12_shelf_100 rfl ?_
                  refine xx_iastN (pc := 118) dX12_shelf_118 sh_130 (by omega) (by decide) ?_
                  refine xx_nw (fun w35 ew35 => ?_)
                  have h127 : w35 127 x = w 127 x := by rw [ew35, wu_o _ _ _ _ (by omega), ew29, wu_o _ _ _ _ (by omega)]
                  refine xx_aload_nP (pc := 119) dX12_shelf_119 1 rfl rfl ?_
                  refine xx_getR (pc := 120) 131 dX12_shelf_120 sh_114 fX12_58_12 rfl rfl (by decide) ?_
                  refine xx_iload_n (pc := 123) dX12_shelf_123 2 rfl rfl ?_
                  refine xx_iload (pc := 124) dX12_shelf_124 0 rfl ?_
                  refine xx_if_eqN (pc := 126) 138 dX12_shelf_126 rfl (by omega) (fun c36 => ?_) (fun c36 => by exfalso; omega)
                  refine xx_iconst (pc := 138) dX12_shelf_138 cc_iconst_0 ?_
                  refine xx_iastN (pc := 139) dX12_shelf_139 sh_131 (by omega) (by decide) ?_
                  refine xx_nw (fun w37 ew37 => ?_)
                  refine xx_iconst (pc := 140) dX12_shelf_140 cc_iconst_1 ?_
                  exact xx_iret (pc := 141) dX12_shelf_141 rfl (rfl) (Nat.le_refl _) (Nat.le_refl _) (ic_ri ⟨by rw [if_pos (by omega)], by rw [if_pos (by omega)]; exact congrArg hn (wu3 (by rw [ew37, ew35, ew29]) (by first | exact (if_pos (by omega)).symm | exact ((if_neg (by omega)).trans (if_pos (by omega))).symm | exact ((if_neg (by omega)).trans (if_neg (by omega))).symm | exact (if_neg (by omega)).symm) (by first | (rw [h126]; exact ((if_neg (by omega)).trans (if_pos (by omega))).symm) | exact (if_pos (by omega)).symm | exact ((if_neg (by omega)).trans (if_pos (by omega))).symm | exact ((if_neg (by omega)).trans (if_neg (by omega))).symm | exact (if_neg (by omega)).symm) (by first | (rw [h127]; exact (if_pos (by omega)).symm) | exact (if_pos (by omega)).symm | exact ((if_neg (by omega)).trans (if_pos (by omega))).symm | exact ((if_neg (by omega)).trans (if_neg (by omega))).symm | exact (if_neg (by omega)).symm))⟩)
              · refine xx_iconst (pc := 75) dX12_shelf_75 cc_iconst_1 ?_
                refine xx_goto (pc := 76) 89 dX12_shelf_76 rfl ?_
                refine xx_iastN (pc := 89) dX12_shelf_89 sh_129 (by omega) (by decide) ?_
                refine xx_nw (fun w38 ew38 => ?_)
                have h126 : w38 126 x = w 126 x := by rw [ew38, wu_o _ _ _ _ (by omega)]
                refine xx_aload_nP (pc := 90) dX12_shelf_90 1 rfl rfl ?_
                refine xx_getR (pc := 91) 130 dX12_shelf_91 sh_114 fX12_55_12 rfl rfl (by decide) ?_
                refine xx_iload_n (pc := 94) dX12_shelf_94 2 rfl rfl ?_
                refine xx_iload_n (pc := 95) dX12_shelf_95 3 rfl rfl ?_
                refine xx_if_neN (pc := 96) 103 dX12_shelf_96 rfl (by omega) (fun c39 => ?_) (fun c39 => ?_)
                · refine xx_iload (pc := 103) dX12_shelf_103 0 rfl ?_
                  refine xx_if_eqN (pc := 105) 117 dX12_shelf_105 rfl (by omega) (fun c40 => ?_) (fun c40 => by exfalso; omega)
                  refine xx_iconst (pc := 117) dX12_shelf_117 cc_iconst_0 ?_
                  refine xx_iastN (pc := 118) dX12_shelf_118 sh_130 (by omega) (by decide) ?_
                  refine xx_nw (fun w41 ew41 => ?_)
                  have h127 : w41 127 x = w 127 x := by rw [ew41, wu_o _ _ _ _ (by omega), ew38, wu_o _ _ _ _ (by omega)]
                  refine xx_aload_nP (pc := 119) dX12_shelf_119 1 rfl rfl ?_
                  refine xx_getR (pc := 120) 131 dX12_shelf_120 sh_114 fX12_58_12 rfl rfl (by decide) ?_
                  refine xx_iload_n (pc := 123) dX12_shelf_123 2 rfl rfl ?_
                  refine xx_iload (pc := 124) dX12_shelf_124 0 rfl ?_
                  refine xx_if_eqN (pc := 126) 138 dX12_shelf_126 rfl (by omega) (fun c42 => ?_) (fun c42 => by exfalso; omega)
                  refine xx_iconst (pc := 138) dX12_shelf_138 cc_iconst_0 ?_
                  refine xx_iastN (pc := 139) dX12_shelf_139 sh_131 (by omega) (by decide) ?_
                  refine xx_nw (fun w43 ew43 => ?_)
                  refine xx_iconst (pc := 140) dX12_shelf_140 cc_iconst_1 ?_
                  exact xx_iret (pc := 141) dX12_shelf_141 rfl (rfl) (Nat.le_refl _) (Nat.le_refl _) (ic_ri ⟨by rw [if_pos (by omega)], by rw [if_pos (by omega)]; exact congrArg hn (wu3 (by rw [ew43, ew41, ew38]) (by first | exact (if_pos (by omega)).symm | exact ((if_neg (by omega)).trans (if_pos (by omega))).symm | exact ((if_neg (by omega)).trans (if_neg (by omega))).symm | exact (if_neg (by omega)).symm) (by first | (rw [h126]; exact ((if_neg (by omega)).trans (if_pos (by omega))).symm) | exact (if_pos (by omega)).symm | exact ((if_neg (by omega)).trans (if_pos (by omega))).symm | exact ((if_neg (by omega)).trans (if_neg (by omega))).symm | exact (if_neg (by omega)).symm) (by first | (rw [h127]; exact (if_pos (by omega)).symm) | exact (if_pos (by omega)).symm | exact ((if_neg (by omega)).trans (if_pos (by omega))).symm | exact ((if_neg (by omega)).trans (if_neg (by omega))).symm | exact (if_neg (by omega)).symm))⟩)
                · refine xx_iload_n (pc := 99) dX12_shelf_99 4 rfl rfl ?_
                  refine xx_goto (pc := 100) 118 dX12_shelf_100 rfl ?_
                  refine xx_iastN (pc := 118) dX12_shelf_118 sh_130 (by omega) (by decide) ?_
                  refine xx_nw (fun w44 ew44 => ?_)
                  have h127 : w44 127 x = w 127 x := by rw [ew44, wu_o _ _ _ _ (by omega), ew38, wu_o _ _ _ _ (by omega)]
                  refine xx_aload_nP (pc := 119) dX12_shelf_119 1 rfl rfl ?_
                  refine xx_getR (pc := 120) 131 dX12_shelf_120 sh_114 fX12_58_12 rfl rfl (by decide) ?_
                  refine xx_iload_n (pc := 123) dX12_shelf_123 2 rfl rfl ?_
                  refine xx_iload (pc := 124) dX12_shelf_124 0 rfl ?_
                  refine xx_if_eqN (pc := 126) 138 dX12_shelf_126 rfl (by omega) (fun c45 => ?_) (fun c45 => by exfalso; omega)
                  refine xx_iconst (pc := 138) dX12_shelf_138 cc_iconst_0 ?_
                  refine xx_iastN (pc := 139) dX12_shelf_139 sh_131 (by omega) (by decide) ?_
                  refine xx_nw (fun w46 ew46 => ?_)
                  refine xx_iconst (pc := 140) dX12_shelf_140 cc_iconst_1 ?_
                  exact xx_iret (pc := 141) dX12_shelf_141 rfl (rfl) (Nat.le_refl _) (Nat.le_refl _) (ic_ri ⟨by rw [if_pos (by omega)], by rw [if_pos (by omega)]; exact congrArg hn (wu3 (by rw [ew46, ew44, ew38]) (by first | exact (if_pos (by omega)).symm | exact ((if_neg (by omega)).trans (if_pos (by omega))).symm | exact ((if_neg (by omega)).trans (if_neg (by omega))).symm | exact (if_neg (by omega)).symm) (by first | (rw [h126]; exact ((if_neg (by omega)).trans (if_pos (by omega))).symm) | exact (if_pos (by omega)).symm | exact ((if_neg (by omega)).trans (if_pos (by omega))).symm | exact ((if_neg (by omega)).trans (if_neg (by omega))).symm | exact (if_neg (by omega)).symm) (by first | (rw [h127]; exact (if_pos (by omega)).symm) | exact (if_pos (by omega)).symm | exact ((if_neg (by omega)).trans (if_pos (by omega))).symm | exact ((if_neg (by omega)).trans (if_neg (by omega))).symm | exact (if_neg (by omega)).symm))⟩)
            · refine xx_iconst (pc := 59) dX12_shelf_59 cc_iconst_1 ?_
              refine xx_goto (pc := 60) 64 dX12_shelf_60 rfl ?_
              refine xx_istore (L' := [(4, .int (nI 1)), (0, ic_pt E 114), (1, .int (nI i)), (2, .int (nI what)), (3, .int (nI x))]) (pc := 64) dX12_shelf_64 (Nat.le_of_ble_eq_true rfl) rfl ?_
              refine xx_aload_nP (pc := 66) dX12_shelf_66 1 rfl rfl ?_
              refine xx_getR (pc := 67) 129 dX12_shelf_67 sh_114 fX12_52_12 rfl rfl (by decide) ?_
              refine xx_iload_n (pc := 70) dX12_shelf_70 2 rfl rfl ?_
              refine xx_iload_n (pc := 71) dX12_shelf_71 3 rfl rfl ?_
              refine xx_if_neN (pc := 72) 79 dX12_shelf_72 rfl (by omega) (fun c47 => ?_) (fun c47 => ?_)
              · refine xx_iload (pc := 79) dX12_shelf_79 0 rfl ?_
                refine xx_if_eqN (pc := 81) 88 dX12_shelf_81 rfl (by omega) (fun c48 => by exfalso; omega) (fun c48 => ?_)
                refine xx_iconst (pc := 84) dX12_shelf_84 cc_iconst_2 ?_
                refine xx_goto (pc := 85) 89 dX12_shelf_85 rfl ?_
                refine xx_iastN (pc := 89) dX12_shelf_89 sh_129 (by omega) (by decide) ?_
                refine xx_nw (fun w49 ew49 => ?_)
                have h126 : w49 126 x = w 126 x := by rw [ew49, wu_o _ _ _ _ (by omega)]
                refine xx_aload_nP (pc := 90) dX12_shelf_90 1 rfl rfl ?_
                refine xx_getR (pc := 91) 130 dX12_shelf_91 sh_114 fX12_55_12 rfl rfl (by decide) ?_
                refine xx_iload_n (pc := 94) dX12_shelf_94 2 rfl rfl ?_
                refine xx_iload_n (pc := 95) dX12_shelf_95 3 rfl rfl ?_
                refine xx_if_neN (pc := 96) 103 dX12_shelf_96 rfl (by omega) (fun c50 => ?_) (fun c50 => ?_)
                · refine xx_iload (pc := 103) dX12_shelf_103 0 rfl ?_
                  refine xx_if_eqN (pc := 105) 117 dX12_shelf_105 rfl (by omega) (fun c51 => by exfalso; omega) (fun c51 => ?_)
                  refine xx_aload_nP (pc := 108) dX12_shelf_108 1 rfl rfl ?_
                  refine xx_getR (pc := 109) 126 dX12_shelf_109 sh_114 fX12_43_12 rfl rfl (by decide) ?_
                  refine xx_iload_n (pc := 112) dX12_shelf_112 4 rfl rfl ?_
                  refine xx_ialdN (pc := 113) dX12_shelf_113 sh_126 (by omega) (by decide) ?_
                  refine xx_goto (pc := 114) 118 dX12_shelf_114 rfl ?_
                  refine xx_iastN (pc := 118) dX12_shelf_118 sh_130 (by omega) (by decide) ?_
                  refine xx_nw (fun w52 ew52 => ?_)
                  have h127 : w52 127 x = w 127 x := by rw [ew52, wu_o _ _ _ _ (by omega), ew49, wu_o _ _ _ _ (by omega)]
                  refine xx_aload_nP (pc := 119) dX12_shelf_119 1 rfl rfl ?_
                  refine xx_getR (pc := 120) 131 dX12_shelf_120 sh_114 fX12_58_12 rfl rfl (by decide) ?_
                  refine xx_iload_n (pc := 123) dX12_shelf_123 2 rfl rfl ?_
                  refine xx_iload (pc := 124) dX12_shelf_124 0 rfl ?_
                  refine xx_if_eqN (pc := 126) 138 dX12_shelf_126 rfl (by omega) (fun c53 => by exfalso; omega) (fun c53 => ?_)
                  refine xx_aload_nP (pc := 129) dX12_shelf_129 1 rfl rfl ?_
                  refine xx_getR (pc := 130) 127 dX12_shelf_130 sh_114 fX12_46_12 rfl rfl (by decide) ?_
                  refine xx_iload_n (pc := 133) dX12_shelf_133 4 rfl rfl ?_
                  refine xx_ialdN (pc := 134) dX12_shelf_134 sh_127 (by omega) (by decide) ?_
                  refine xx_goto (pc := 135) 139 dX12_shelf_135 rfl ?_
                  refine xx_iastN (pc := 139) dX12_shelf_139 sh_131 (by omega) (by decide) ?_
                  refine xx_nw (fun w54 ew54 => ?_)
                  refine xx_iconst (pc := 140) dX12_shelf_140 cc_iconst_1 ?_
                  exact xx_iret (pc := 141) dX12_shelf_141 rfl (rfl) (Nat.le_refl _) (Nat.le_refl _) (ic_ri ⟨by rw [if_pos (by omega)], by rw [if_pos (by omega)]; exact congrArg hn (wu3 (by rw [ew54, ew52, ew49]) (by first | exact (if_pos (by omega)).symm | exact ((if_neg (by omega)).trans (if_pos (by omega))).symm | exact ((if_neg (by omega)).trans (if_neg (by omega))).symm | exact (if_neg (by omega)).symm) (by first | (rw [h126]; exact ((if_neg (by omega)).trans (if_pos (by omega))).symm) | exact (if_pos (by omega)).symm | exact ((if_neg (by omega)).trans (if_pos (by omega))).symm | exact ((if_neg (by omega)).trans (if_neg (by omega))).symm | exact (if_neg (by omega)).symm) (by first | (rw [h127]; exact (if_pos (by omega)).symm) | exact (if_pos (by omega)).symm | exact ((if_neg (by omega)).trans (if_pos (by omega))).symm | exact ((if_neg (by omega)).trans (if_neg (by omega))).symm | exact (if_neg (by omega)).symm))⟩)
                · refine xx_iload_n (pc := 99) dX12_shelf_99 4 rfl rfl ?_
                  refine xx_goto (pc := 100) 118 dX12_shelf_100 rfl ?_
                  refine xx_iastN (pc := 118) dX12_shelf_118 sh_130 (by omega) (by decide) ?_
                  refine xx_nw (fun w55 ew55 => ?_)
                  have h127 : w55 127 x = w 127 x := by rw [ew55, wu_o _ _ _ _ (by omega), ew49, wu_o _ _ _ _ (by omega)]
                  refine xx_aload_nP (pc := 119) dX12_shelf_119 1 rfl rfl ?_
                  refine xx_getR (pc := 120) 131 dX12_shelf_120 sh_114 fX12_58_12 rfl rfl (by decide) ?_
                  refine xx_iload_n (pc := 123) dX12_shelf_123 2 rfl rfl ?_
                  refine xx_iload (pc := 124) dX12_shelf_124 0 rfl ?_
                  refine xx_if_eqN (pc := 126) 138 dX12_shelf_126 rfl (by omega) (fun c56 => by exfalso; omega) (fun c56 => ?_)
                  refine xx_aload_nP (pc := 129) dX12_shelf_129 1 rfl rfl ?_
                  refine xx_getR (pc := 130) 127 dX12_shelf_130 sh_114 fX12_46_12 rfl rfl (by decide) ?_
                  refine xx_iload_n (pc := 133) dX12_shelf_133 4 rfl rfl ?_
                  refine xx_ialdN (pc := 134) dX12_shelf_134 sh_127 (by omega) (by decide) ?_
                  refine xx_goto (pc := 135) 139 dX12_shelf_135 rfl ?_
                  refine xx_iastN (pc := 139) dX12_shelf_139 sh_131 (by omega) (by decide) ?_
                  refine xx_nw (fun w57 ew57 => ?_)
                  refine xx_iconst (pc := 140) dX12_shelf_140 cc_iconst_1 ?_
                  exact xx_iret (pc := 141) dX12_shelf_141 rfl (rfl) (Nat.le_refl _) (Nat.le_refl _) (ic_ri ⟨by rw [if_pos (by omega)], by rw [if_pos (by omega)]; exact congrArg hn (wu3 (by rw [ew57, ew55, ew49]) (by first | exact (if_pos (by omega)).symm | exact ((if_neg (by omega)).trans (if_pos (by omega))).symm | exact ((if_neg (by omega)).trans (if_neg (by omega))).symm | exact (if_neg (by omega)).symm) (by first | (rw [h126]; exact ((if_neg (by omega)).trans (if_pos (by omega))).symm) | exact (if_pos (by omega)).symm | exact ((if_neg (by omega)).trans (if_pos (by omega))).symm | exact ((if_neg (by omega)).trans (if_neg (by omega))).symm | exact (if_neg (by omega)).symm) (by first | (rw [h127]; exact (if_pos (by omega)).symm) | exact (if_pos (by omega)).symm | exact ((if_neg (by omega)).trans (if_pos (by omega))).symm | exact ((if_neg (by omega)).trans (if_neg (by omega))).symm | exact (if_neg (by omega)).symm))⟩)
              · refine xx_iconst (pc := 75) dX12_shelf_75 cc_iconst_1 ?_
                refine xx_goto (pc := 76) 89 dX12_shelf_76 rfl ?_
                refine xx_iastN (pc := 89) dX12_shelf_89 sh_129 (by omega) (by decide) ?_
                refine xx_nw (fun w58 ew58 => ?_)
                have h126 : w58 126 x = w 126 x := by rw [ew58, wu_o _ _ _ _ (by omega)]
                refine xx_aload_nP (pc := 90) dX12_shelf_90 1 rfl rfl ?_
                refine xx_getR (pc := 91) 130 dX12_shelf_91 sh_114 fX12_55_12 rfl rfl (by decide) ?_
                refine xx_iload_n (pc := 94) dX12_shelf_94 2 rfl rfl ?_
                refine xx_iload_n (pc := 95) dX12_shelf_95 3 rfl rfl ?_
                refine xx_if_neN (pc := 96) 103 dX12_shelf_96 rfl (by omega) (fun c59 => ?_) (fun c59 => ?_)
                · refine xx_iload (pc := 103) dX12_shelf_103 0 rfl ?_
                  refine xx_if_eqN (pc := 105) 117 dX12_shelf_105 rfl (by omega) (fun c60 => by exfalso; omega) (fun c60 => ?_)
                  refine xx_aload_nP (pc := 108) dX12_shelf_108 1 rfl rfl ?_
                  refine xx_getR (pc := 109) 126 dX12_shelf_109 sh_114 fX12_43_12 rfl rfl (by decide) ?_
                  refine xx_iload_n (pc := 112) dX12_shelf_112 4 rfl rfl ?_
                  refine xx_ialdN (pc := 113) dX12_shelf_113 sh_126 (by omega) (by decide) ?_
                  refine xx_goto (pc := 114) 118 dX12_shelf_114 rfl ?_
                  refine xx_iastN (pc := 118) dX12_shelf_118 sh_130 (by omega) (by decide) ?_
                  refine xx_nw (fun w61 ew61 => ?_)
                  have h127 : w61 127 x = w 127 x := by rw [ew61, wu_o _ _ _ _ (by omega), ew58, wu_o _ _ _ _ (by omega)]
                  refine xx_aload_nP (pc := 119) dX12_shelf_119 1 rfl rfl ?_
                  refine xx_getR (pc := 120) 131 dX12_shelf_120 sh_114 fX12_58_12 rfl rfl (by decide) ?_
                  refine xx_iload_n (pc := 123) dX12_shelf_123 2 rfl rfl ?_
                  refine xx_iload (pc := 124) dX12_shelf_124 0 rfl ?_
                  refine xx_if_eqN (pc := 126) 138 dX12_shelf_126 rfl (by omega) (fun c62 => by exfalso; omega) (fun c62 => ?_)
                  refine xx_aload_nP (pc := 129) dX12_shelf_129 1 rfl rfl ?_
                  refine xx_getR (pc := 130) 127 dX12_shelf_130 sh_114 fX12_46_12 rfl rfl (by decide) ?_
                  refine xx_iload_n (pc := 133) dX12_shelf_133 4 rfl rfl ?_
                  refine xx_ialdN (pc := 134) dX12_shelf_134 sh_127 (by omega) (by decide) ?_
                  refine xx_goto (pc := 135) 139 dX12_shelf_135 rfl ?_
                  refine xx_iastN (pc := 139) dX12_shelf_139 sh_131 (by omega) (by decide) ?_
                  refine xx_nw (fun w63 ew63 => ?_)
                  refine xx_iconst (pc := 140) dX12_shelf_140 cc_iconst_1 ?_
                  exact xx_iret (pc := 141) dX12_shelf_141 rfl (rfl) (Nat.le_refl _) (Nat.le_refl _) (ic_ri ⟨by rw [if_pos (by omega)], by rw [if_pos (by omega)]; exact congrArg hn (wu3 (by rw [ew63, ew61, ew58]) (by first | exact (if_pos (by omega)).symm | exact ((if_neg (by omega)).trans (if_pos (by omega))).symm | exact ((if_neg (by omega)).trans (if_neg (by omega))).symm | exact (if_neg (by omega)).symm) (by first | (rw [h126]; exact ((if_neg (by omega)).trans (if_pos (by omega))).symm) | exact (if_pos (by omega)).symm | exact ((if_neg (by omega)).trans (if_pos (by omega))).symm | exact ((if_neg (by omega)).trans (if_neg (by omega))).symm | exact (if_neg (by omega)).symm) (by first | (rw [h127]; exact (if_pos (by omega)).symm) | exact (if_pos (by omega)).symm | exact ((if_neg (by omega)).trans (if_pos (by omega))).symm | exact ((if_neg (by omega)).trans (if_neg (by omega))).symm | exact (if_neg (by omega)).symm))⟩)
                · refine xx_iload_n (pc := 99) dX12_shelf_99 4 rfl rfl ?_
                  refine xx_goto (pc := 100) 118 dX12_shelf_100 rfl ?_
                  refine xx_iastN (pc := 118) dX12_shelf_118 sh_130 (by omega) (by decide) ?_
                  refine xx_nw (fun w64 ew64 => ?_)
                  have h127 : w64 127 x = w 127 x := by rw [ew64, wu_o _ _ _ _ (by omega), ew58, wu_o _ _ _ _ (by omega)]
                  refine xx_aload_nP (pc := 119) dX12_shelf_119 1 rfl rfl ?_
                  refine xx_getR (pc := 120) 131 dX12_shelf_120 sh_114 fX12_58_12 rfl rfl (by decide) ?_
                  refine xx_iload_n (pc := 123) dX12_shelf_123 2 rfl rfl ?_
                  refine xx_iload (pc := 124) dX12_shelf_124 0 rfl ?_
                  refine xx_if_eqN (pc := 126) 138 dX12_shelf_126 rfl (by omega) (fun c65 => by exfalso; omega) (fun c65 => ?_)
                  refine xx_aload_nP (pc := 129) dX12_shelf_129 1 rfl rfl ?_
                  refine xx_getR (pc := 130) 127 dX12_shelf_130 sh_114 fX12_46_12 rfl rfl (by decide) ?_
                  refine xx_iload_n (pc := 133) dX12_shelf_133 4 rfl rfl ?_
                  refine xx_ialdN (pc := 134) dX12_shelf_134 sh_127 (by omega) (by decide) ?_
                  refine xx_goto (pc := 135) 139 dX12_shelf_135 rfl ?_
                  refine xx_iastN (pc := 139) dX12_shelf_139 sh_131 (by omega) (by decide) ?_
                  refine xx_nw (fun w66 ew66 => ?_)
                  refine xx_iconst (pc := 140) dX12_shelf_140 cc_iconst_1 ?_
                  exact xx_iret (pc := 141) dX12_shelf_141 rfl (rfl) (Nat.le_refl _) (Nat.le_refl _) (ic_ri ⟨by rw [if_pos (by omega)], by rw [if_pos (by omega)]; exact congrArg hn (wu3 (by rw [ew66, ew64, ew58]) (by first | exact (if_pos (by omega)).symm | exact ((if_neg (by omega)).trans (if_pos (by omega))).symm | exact ((if_neg (by omega)).trans (if_neg (by omega))).symm | exact (if_neg (by omega)).symm) (by first | (rw [h126]; exact ((if_neg (by omega)).trans (if_pos (by omega))).symm) | exact (if_pos (by omega)).symm | exact ((if_neg (by omega)).trans (if_pos (by omega))).symm | exact ((if_neg (by omega)).trans (if_neg (by omega))).symm | exact (if_neg (by omega)).symm) (by first | (rw [h127]; exact (if_pos (by omega)).symm) | exact (if_pos (by omega)).symm | exact ((if_neg (by omega)).trans (if_pos (by omega))).symm | exact ((if_neg (by omega)).trans (if_neg (by omega))).symm | exact (if_neg (by omega)).symm))⟩)
        · refine xx_iload_n (pc := 36) dX12_shelf_36 3 rfl rfl ?_
          refine xx_callS0 (pc := 37) (st := []) (cM_isSheet (w := w) (a := x) (by omega)) kX12_isSheet sX12_350 dX12_shelf_37 rfl rfl (Nat.le_of_ble_eq_true rfl) ⟨Nat.le_of_ble_eq_true rfl, Nat.le_of_ble_eq_true rfl⟩ ⟨Nat.zero_le _, Nat.zero_le _⟩ (ic_ke ?_)
          refine xx_if_neB (pc := 40) 45 dX12_shelf_40 rfl (fun c67 => ?_) (fun c67 => ?_)
          · refine xx_iload_n (pc := 45) dX12_shelf_45 2 rfl rfl ?_
            refine xx_iconst (pc := 46) dX12_shelf_46 cc_iconst_1 ?_
            refine xx_icmp_neN (pc := 47) 63 dX12_shelf_47 rfl (by omega) (by omega) (fun c68 => ?_) (fun c68 => ?_)
            · refine xx_iconst (pc := 63) dX12_shelf_63 cc_iconst_0 ?_
              refine xx_istore (L' := [(4, .int (nI 0)), (0, ic_pt E 114), (1, .int (nI i)), (2, .int (nI what)), (3, .int (nI x))]) (pc := 64) dX12_shelf_64 (Nat.le_of_ble_eq_true rfl) rfl ?_
              refine xx_aload_nP (pc := 66) dX12_shelf_66 1 rfl rfl ?_
              refine xx_getR (pc := 67) 129 dX12_shelf_67 sh_114 fX12_52_12 rfl rfl (by decide) ?_
              refine xx_iload_n (pc := 70) dX12_shelf_70 2 rfl rfl ?_
              refine xx_iload_n (pc := 71) dX12_shelf_71 3 rfl rfl ?_
              refine xx_if_neN (pc := 72) 79 dX12_shelf_72 rfl (by omega) (fun c69 => ?_) (fun c69 => ?_)
              · refine xx_iload (pc := 79) dX12_shelf_79 0 rfl ?_
                refine xx_if_eqN (pc := 81) 88 dX12_shelf_81 rfl (by omega) (fun c70 => ?_) (fun c70 => by exfalso; omega)
                refine xx_iconst (pc := 88) dX12_shelf_88 cc_iconst_0 ?_
                refine xx_iastN (pc := 89) dX12_shelf_89 sh_129 (by omega) (by decide) ?_
                refine xx_nw (fun w71 ew71 => ?_)
                have h126 : w71 126 x = w 126 x := by rw [ew71, wu_o _ _ _ _ (by omega)]
                refine xx_aload_nP (pc := 90) dX12_shelf_90 1 rfl rfl ?_
                refine xx_getR (pc := 91) 130 dX12_shelf_91 sh_114 fX12_55_12 rfl rfl (by decide) ?_
                refine xx_iload_n (pc := 94) dX12_shelf_94 2 rfl rfl ?_
                refine xx_iload_n (pc := 95) dX12_shelf_95 3 rfl rfl ?_
                refine xx_if_neN (pc := 96) 103 dX12_shelf_96 rfl (by omega) (fun c72 => ?_) (fun c72 => ?_)
                · refine xx_iload (pc := 103) dX12_shelf_103 0 rfl ?_
                  refine xx_if_eqN (pc := 105) 117 dX12_shelf_105 rfl (by omega) (fun c73 => ?_) (fun c73 => by exfalso; omega)
                  refine xx_iconst (pc := 117) dX12_shelf_117 cc_iconst_0 ?_
                  refine xx_iastN (pc := 118) dX12_shelf_118 sh_130 (by omega) (by decide) ?_
                  refine xx_nw (fun w74 ew74 => ?_)
                  have h127 : w74 127 x = w 127 x := by rw [ew74, wu_o _ _ _ _ (by omega), ew71, wu_o _ _ _ _ (by omega)]
                  refine xx_aload_nP (pc := 119) dX12_shelf_119 1 rfl rfl ?_
                  refine xx_getR (pc := 120) 131 dX12_shelf_120 sh_114 fX12_58_12 rfl rfl (by decide) ?_
                  refine xx_iload_n (pc := 123) dX12_shelf_123 2 rfl rfl ?_
                  refine xx_iload (pc := 124) dX12_shelf_124 0 rfl ?_
                  refine xx_if_eqN (pc := 126) 138 dX12_shelf_126 rfl (by omega) (fun c75 => ?_) (fun c75 => by exfalso; omega)
                  refine xx_iconst (pc := 138) dX12_shelf_138 cc_iconst_0 ?_
                  refine xx_iastN (pc := 139) dX12_shelf_139 sh_131 (by omega) (by decide) ?_
                  refine xx_nw (fun w76 ew76 => ?_)
                  refine xx_iconst (pc := 140) dX12_shelf_140 cc_iconst_1 ?_
                  exact xx_iret (pc := 141) dX12_shelf_141 rfl (rfl) (Nat.le_refl _) (Nat.le_refl _) (ic_ri ⟨by rw [if_pos (by omega)], by rw [if_pos (by omega)]; exact congrArg hn (wu3 (by rw [ew76, ew74, ew71]) (by first | exact (if_pos (by omega)).symm | exact ((if_neg (by omega)).trans (if_pos (by omega))).symm | exact ((if_neg (by omega)).trans (if_neg (by omega))).symm | exact (if_neg (by omega)).symm) (by first | (rw [h126]; exact ((if_neg (by omega)).trans (if_pos (by omega))).symm) | exact (if_pos (by omega)).symm | exact ((if_neg (by omega)).trans (if_pos (by omega))).symm | exact ((if_neg (by omega)).trans (if_neg (by omega))).symm | exact (if_neg (by omega)).symm) (by first | (rw [h127]; exact (if_pos (by omega)).symm) | exact (if_pos (by omega)).symm | exact ((if_neg (by omega)).trans (if_pos (by omega))).symm | exact ((if_neg (by omega)).trans (if_neg (by omega))).symm | exact (if_neg (by omega)).symm))⟩)
                · refine xx_iload_n (pc := 99) dX12_shelf_99 4 rfl rfl ?_
                  refine xx_goto (pc := 100) 118 dX12_shelf_100 rfl ?_
                  refine xx_iastN (pc := 118) dX12_shelf_118 sh_130 (by omega) (by decide) ?_
                  refine xx_nw (fun w77 ew77 => ?_)
                  have h127 : w77 127 x = w 127 x := by rw [ew77, wu_o _ _ _ _ (by omega), ew71, wu_o _ _ _ _ (by omega)]
                  refine xx_aload_nP (pc := 119) dX12_shelf_119 1 rfl rfl ?_
                  refine xx_getR (pc := 120) 131 dX12_shelf_120 sh_114 fX12_58_12 rfl rfl (by decide) ?_
                  refine xx_iload_n (pc := 123) dX12_shelf_123 2 rfl rfl ?_
                  refine xx_iload (pc := 124) dX12_shelf_124 0 rfl ?_
                  refine xx_if_eqN (pc := 126) 138 dX12_shelf_126 rfl (by omega) (fun c78 => ?_) (fun c78 => by exfalso; omega)
                  refine xx_iconst (pc := 138) dX12_shelf_138 cc_iconst_0 ?_
                  refine xx_iastN (pc := 139) dX12_shelf_139 sh_131 (by omega) (by decide) ?_
                  refine xx_nw (fun w79 ew79 => ?_)
                  refine xx_iconst (pc := 140) dX12_shelf_140 cc_iconst_1 ?_
                  exact xx_iret (pc := 141) dX12_shelf_141 rfl (rfl) (Nat.le_refl _) (Nat.le_refl _) (ic_ri ⟨by rw [if_pos (by omega)], by rw [if_pos (by omega)]; exact congrArg hn (wu3 (by rw [ew79, ew77, ew71]) (by first | exact (if_pos (by omega)).symm | exact ((if_neg (by omega)).trans (if_pos (by omega))).symm | exact ((if_neg (by omega)).trans (if_neg (by omega))).symm | exact (if_neg (by omega)).symm) (by first | (rw [h126]; exact ((if_neg (by omega)).trans (if_pos (by omega))).symm) | exact (if_pos (by omega)).symm | exact ((if_neg (by omega)).trans (if_pos (by omega))).symm | exact ((if_neg (by omega)).trans (if_neg (by omega))).symm | exact (if_neg (by omega)).symm) (by first | (rw [h127]; exact (if_pos (by omega)).symm) | exact (if_pos (by omega)).symm | exact ((if_neg (by omega)).trans (if_pos (by omega))).symm | exact ((if_neg (by omega)).trans (if_neg (by omega))).symm | exact (if_neg (by omega)).symm))⟩)
              · refine xx_iconst (pc := 75) dX12_shelf_75 cc_iconst_1 ?_
                refine xx_goto (pc := 76) 89 dX12_shelf_76 rfl ?_
                refine xx_iastN (pc := 89) dX12_shelf_89 sh_129 (by omega) (by decide) ?_
                refine xx_nw (fun w80 ew80 => ?_)
                have h126 : w80 126 x = w 126 x := by rw [ew80, wu_o _ _ _ _ (by omega)]
                refine xx_aload_nP (pc := 90) dX12_shelf_90 1 rfl rfl ?_
                refine xx_getR (pc := 91) 130 dX12_shelf_91 sh_114 fX12_55_12 rfl rfl (by decide) ?_
                refine xx_iload_n (pc := 94) dX12_shelf_94 2 rfl rfl ?_
                refine xx_iload_n (pc := 95) dX12_shelf_95 3 rfl rfl ?_
                refine xx_if_neN (pc := 96) 103 dX12_shelf_96 rfl (by omega) (fun c81 => ?_) (fun c81 => ?_)
                · refine xx_iload (pc := 103) dX12_shelf_103 0 rfl ?_
                  refine xx_if_eqN (pc := 105) 117 dX12_shelf_105 rfl (by omega) (fun c82 => ?_) (fun c82 => by exfalso; omega)
                  refine xx_iconst (pc := 117) dX12_shelf_117 cc_iconst_0 ?_
                  refine xx_iastN (pc := 118) dX12_shelf_118 sh_130 (by omega) (by decide) ?_
                  refine xx_nw (fun w83 ew83 => ?_)
                  have h127 : w83 127 x = w 127 x := by rw [ew83, wu_o _ _ _ _ (by omega), ew80, wu_o _ _ _ _ (by omega)]
                  refine xx_aload_nP (pc := 119) dX12_shelf_119 1 rfl rfl ?_
                  refine xx_getR (pc := 120) 131 dX12_shelf_120 sh_114 fX12_58_12 rfl rfl (by decide) ?_
                  refine xx_iload_n (pc := 123) dX12_shelf_123 2 rfl rfl ?_
                  refine xx_iload (pc := 124) dX12_shelf_124 0 rfl ?_
                  refine xx_if_eqN (pc := 126) 138 dX12_shelf_126 rfl (by omega) (fun c84 => ?_) (fun c84 => by exfalso; omega)
                  refine xx_iconst (pc := 138) dX12_shelf_138 cc_iconst_0 ?_
                  refine xx_iastN (pc := 139) dX12_shelf_139 sh_131 (by omega) (by decide) ?_
                  refine xx_nw (fun w85 ew85 => ?_)
                  refine xx_iconst (pc := 140) dX12_shelf_140 cc_iconst_1 ?_
                  exact xx_iret (pc := 141) dX12_shelf_141 rfl (rfl) (Nat.le_refl _) (Nat.le_refl _) (ic_ri ⟨by rw [if_pos (by omega)], by rw [if_pos (by omega)]; exact congrArg hn (wu3 (by rw [ew85, ew83, ew80]) (by first | exact (if_pos (by omega)).symm | exact ((if_neg (by omega)).trans (if_pos (by omega))).symm | exact ((if_neg (by omega)).trans (if_neg (by omega))).symm | exact (if_neg (by omega)).symm) (by first | (rw [h126]; exact ((if_neg (by omega)).trans (if_pos (by omega))).symm) | exact (if_pos (by omega)).symm | exact ((if_neg (by omega)).trans (if_pos (by omega))).symm | exact ((if_neg (by omega)).trans (if_neg (by omega))).symm | exact (if_neg (by omega)).symm) (by first | (rw [h127]; exact (if_pos (by omega)).symm) | exact (if_pos (by omega)).symm | exact ((if_neg (by omega)).trans (if_pos (by omega))).symm | exact ((if_neg (by omega)).trans (if_neg (by omega))).symm | exact (if_neg (by omega)).symm))⟩)
                · refine xx_iload_n (pc := 99) dX12_shelf_99 4 rfl rfl ?_
                  refine xx_goto (pc := 100) 118 dX12_shelf_100 rfl ?_
                  refine xx_iastN (pc := 118) dX12_shelf_118 sh_130 (by omega) (by decide) ?_
                  refine xx_nw (fun w86 ew86 => ?_)
                  have h127 : w86 127 x = w 127 x := by rw [ew86, wu_o _ _ _ _ (by omega), ew80, wu_o _ _ _ _ (by omega)]
                  refine xx_aload_nP (pc := 119) dX12_shelf_119 1 rfl rfl ?_
                  refine xx_getR (pc := 120) 131 dX12_shelf_120 sh_114 fX12_58_12 rfl rfl (by decide) ?_
                  refine xx_iload_n (pc := 123) dX12_shelf_123 2 rfl rfl ?_
                  refine xx_iload (pc := 124) dX12_shelf_124 0 rfl ?_
                  refine xx_if_eqN (pc := 126) 138 dX12_shelf_126 rfl (by omega) (fun c87 => ?_) (fun c87 => by exfalso; omega)
                  refine xx_iconst (pc := 138) dX12_shelf_138 cc_iconst_0 ?_
                  refine xx_iastN (pc := 139) dX12_shelf_139 sh_131 (by omega) (by decide) ?_
                  refine xx_nw (fun w88 ew88 => ?_)
                  refine xx_iconst (pc := 140) dX12_shelf_140 cc_iconst_1 ?_
                  exact xx_iret (pc := 141) dX12_shelf_141 rfl (rfl) (Nat.le_refl _) (Nat.le_refl _) (ic_ri ⟨by rw [if_pos (by omega)], by rw [if_pos (by omega)]; exact congrArg hn (wu3 (by rw [ew88, ew86, ew80]) (by first | exact (if_pos (by omega)).symm | exact ((if_neg (by omega)).trans (if_pos (by omega))).symm | exact ((if_neg (by omega)).trans (if_neg (by omega))).symm | exact (if_neg (by omega)).symm) (by first | (rw [h126]; exact ((if_neg (by omega)).trans (if_pos (by omega))).symm) | exact (if_pos (by omega)).symm | exact ((if_neg (by omega)).trans (if_pos (by omega))).symm | exact ((if_neg (by omega)).trans (if_neg (by omega))).symm | exact (if_neg (by omega)).symm) (by first | (rw [h127]; exact (if_pos (by omega)).symm) | exact (if_pos (by omega)).symm | exact ((if_neg (by omega)).trans (if_pos (by omega))).symm | exact ((if_neg (by omega)).trans (if_neg (by omega))).symm | exact (if_neg (by omega)).symm))⟩)
            · refine xx_aload_nP (pc := 50) dX12_shelf_50 0 rfl rfl ?_
              refine xx_getR (pc := 51) 126 dX12_shelf_51 sh_114 fX12_43_12 rfl rfl (by decide) ?_
              refine xx_iload_n (pc := 54) dX12_shelf_54 3 rfl rfl ?_
              refine xx_ialdN (pc := 55) dX12_shelf_55 sh_126 (by omega) (by decide) ?_
              refine xx_if_ltS (pc := 56) 63 dX12_shelf_56 rfl (by have := hs (by omega); omega) (fun c89 => ?_) (fun c89 => ?_)
              · refine xx_iconst (pc := 63) dX12_shelf_63 cc_iconst_0 ?_
                refine xx_istore (L' := [(4, .int (nI 0)), (0, ic_pt E 114), (1, .int (nI i)), (2, .int (nI what)), (3, .int (nI x))]) (pc := 64) dX12_shelf_64 (Nat.le_of_ble_eq_true rfl) rfl ?_
                refine xx_aload_nP (pc := 66) dX12_shelf_66 1 rfl rfl ?_
                refine xx_getR (pc := 67) 129 dX12_shelf_67 sh_114 fX12_52_12 rfl rfl (by decide) ?_
                refine xx_iload_n (pc := 70) dX12_shelf_70 2 rfl rfl ?_
                refine xx_iload_n (pc := 71) dX12_shelf_71 3 rfl rfl ?_
                refine xx_if_neN (pc := 72) 79 dX12_shelf_72 rfl (by omega) (fun c90 => ?_) (fun c90 => ?_)
                · refine xx_iload (pc := 79) dX12_shelf_79 0 rfl ?_
                  refine xx_if_eqN (pc := 81) 88 dX12_shelf_81 rfl (by omega) (fun c91 => ?_) (fun c91 => by exfalso; omega)
                  refine xx_iconst (pc := 88) dX12_shelf_88 cc_iconst_0 ?_
                  refine xx_iastN (pc := 89) dX12_shelf_89 sh_129 (by omega) (by decide) ?_
                  refine xx_nw (fun w92 ew92 => ?_)
                  have h126 : w92 126 x = w 126 x := by rw [ew92, wu_o _ _ _ _ (by omega)]
                  refine xx_aload_nP (pc := 90) dX12_shelf_90 1 rfl rfl ?_
                  refine xx_getR (pc := 91) 130 dX12_shelf_91 sh_114 fX12_55_12 rfl rfl (by decide) ?_
                  refine xx_iload_n (pc := 94) dX12_shelf_94 2 rfl rfl ?_
                  refine xx_iload_n (pc := 95) dX12_shelf_95 3 rfl rfl ?_
                  refine xx_if_neN (pc := 96) 103 dX12_shelf_96 rfl (by omega) (fun c93 => ?_) (fun c93 => ?_)
                  · refine xx_iload (pc := 103) dX12_shelf_103 0 rfl ?_
                    refine xx_if_eqN (pc := 105) 117 dX12_shelf_105 rfl (by omega) (fun c94 => ?_) (fun c94 => by exfalso; omega)
                    refine xx_iconst (pc := 117) dX12_shelf_117 cc_iconst_0 ?_
                    refine xx_iastN (pc := 118) dX12_shelf_118 sh_130 (by omega) (by decide) ?_
                    refine xx_nw (fun w95 ew95 => ?_)
                    have h127 : w95 127 x = w 127 x := by rw [ew95, wu_o _ _ _ _ (by omega), ew92, wu_o _ _ _ _ (by omega)]
                    refine xx_aload_nP (pc := 119) dX12_shelf_119 1 rfl rfl ?_
                    refine xx_getR (pc := 120) 131 dX12_shelf_120 sh_114 fX12_58_12 rfl rfl (by decide) ?_
                    refine xx_iload_n (pc := 123) dX12_shelf_123 2 rfl rfl ?_
                    refine xx_iload (pc := 124) dX12_shelf_124 0 rfl ?_
                    refine xx_if_eqN (pc := 126) 138 dX12_shelf_126 rfl (by omega) (fun c96 => ?_) (fun c96 => by exfalso; omega)
                    refine xx_iconst (pc := 138) dX12_shelf_138 cc_iconst_0 ?_
                    refine xx_iastN (pc := 139) dX12_shelf_139 sh_131 (by omega) (by decide) ?_
                    refine xx_nw (fun w97 ew97 => ?_)
                    refine xx_iconst (pc := 140) dX12_shelf_140 cc_iconst_1 ?_
                    exact xx_iret (pc := 141) dX12_shelf_141 rfl (rfl) (Nat.le_refl _) (Nat.le_refl _) (ic_ri ⟨by rw [if_pos (by omega)], by rw [if_pos (by omega)]; exact congrArg hn (wu3 (by rw [ew97, ew95, ew92]) (by first | exact (if_pos (by omega)).symm | exact ((if_neg (by omega)).trans (if_pos (by omega))).symm | exact ((if_neg (by omega)).trans (if_neg (by omega))).symm | exact (if_neg (by omega)).symm) (by first | (rw [h126]; exact ((if_neg (by omega)).trans (if_pos (by omega))).symm) | exact (if_pos (by omega)).symm | exact ((if_neg (by omega)).trans (if_pos (by omega))).symm | exact ((if_neg (by omega)).trans (if_neg (by omega))).symm | exact (if_neg (by omega)).symm) (by first | (rw [h127]; exact (if_pos (by omega)).symm) | exact (if_pos (by omega)).symm | exact ((if_neg (by omega)).trans (if_pos (by omega))).symm | exact ((if_neg (by omega)).trans (if_neg (by omega))).symm | exact (if_neg (by omega)).symm))⟩)
                  · refine xx_iload_n (pc := 99) dX12_shelf_99 4 rfl rfl ?_
                    refine xx_goto (pc := 100) 118 dX12_shelf_100 rfl ?_
                    refine xx_iastN (pc := 118) dX12_shelf_118 sh_130 (by omega) (by decide) ?_
                    refine xx_nw (fun w98 ew98 => ?_)
                    have h127 : w98 127 x = w 127 x := by rw [ew98, wu_o _ _ _ _ (by omega), ew92, wu_o _ _ _ _ (by omega)]
                    refine xx_aload_nP (pc := 119) dX12_shelf_119 1 rfl rfl ?_
                    refine xx_getR (pc := 120) 131 dX12_shelf_120 sh_114 fX12_58_12 rfl rfl (by decide) ?_
                    refine xx_iload_n (pc := 123) dX12_shelf_123 2 rfl rfl ?_
                    refine xx_iload (pc := 124) dX12_shelf_124 0 rfl ?_
                    refine xx_if_eqN (pc := 126) 138 dX12_shelf_126 rfl (by omega) (fun c99 => ?_) (fun c99 => by exfalso; omega)
                    refine xx_iconst (pc := 138) dX12_shelf_138 cc_iconst_0 ?_
                    refine xx_iastN (pc := 139) dX12_shelf_139 sh_131 (by omega) (by decide) ?_
                    refine xx_nw (fun w100 ew100 => ?_)
                    refine xx_iconst (pc := 140) dX12_shelf_140 cc_iconst_1 ?_
                    exact xx_iret (pc := 141) dX12_shelf_141 rfl (rfl) (Nat.le_refl _) (Nat.le_refl _) (ic_ri ⟨by rw [if_pos (by omega)], by rw [if_pos (by omega)]; exact congrArg hn (wu3 (by rw [ew100, ew98, ew92]) (by first | exact (if_pos (by omega)).symm | exact ((if_neg (by omega)).trans (if_pos (by omega))).symm | exact ((if_neg (by omega)).trans (if_neg (by omega))).symm | exact (if_neg (by omega)).symm) (by first | (rw [h126]; exact ((if_neg (by omega)).trans (if_pos (by omega))).symm) | exact (if_pos (by omega)).symm | exact ((if_neg (by omega)).trans (if_pos (by omega))).symm | exact ((if_neg (by omega)).trans (if_neg (by omega))).symm | exact (if_neg (by omega)).symm) (by first | (rw [h127]; exact (if_pos (by omega)).symm) | exact (if_pos (by omega)).symm | exact ((if_neg (by omega)).trans (if_pos (by omega))).symm | exact ((if_neg (by omega)).trans (if_neg (by omega))).symm | exact (if_neg (by omega)).symm))⟩)
                · refine xx_iconst (pc := 75) dX12_shelf_75 cc_iconst_1 ?_
                  refine xx_goto (pc := 76) 89 dX12_shelf_76 rfl ?_
                  refine xx_iastN (pc := 89) dX12_shelf_89 sh_129 (by omega) (by decide) ?_
                  refine xx_nw (fun w101 ew101 => ?_)
                  have h126 : w101 126 x = w 126 x := by rw [ew101, wu_o _ _ _ _ (by omega)]
                  refine xx_aload_nP (pc := 90) dX12_shelf_90 1 rfl rfl ?_
                  refine xx_getR (pc := 91) 130 dX12_shelf_91 sh_114 fX12_55_12 rfl rfl (by decide) ?_
                  refine xx_iload_n (pc := 94) dX12_shelf_94 2 rfl rfl ?_
                  refine xx_iload_n (pc := 95) dX12_shelf_95 3 rfl rfl ?_
                  refine xx_if_neN (pc := 96) 103 dX12_shelf_96 rfl (by omega) (fun c102 => ?_) (fun c102 => ?_)
                  · refine xx_iload (pc := 103) dX12_shelf_103 0 rfl ?_
                    refine xx_if_eqN (pc := 105) 117 dX12_shelf_105 rfl (by omega) (fun c103 => ?_) (fun c103 => by exfalso; omega)
                    refine xx_iconst (pc := 117) dX12_shelf_117 cc_iconst_0 ?_
                    refine xx_iastN (pc := 118) dX12_shelf_118 sh_130 (by omega) (by decide) ?_
                    refine xx_nw (fun w104 ew104 => ?_)
                    have h127 : w104 127 x = w 127 x := by rw [ew104, wu_o _ _ _ _ (by omega), ew101, wu_o _ _ _ _ (by omega)]
                    refine xx_aload_nP (pc := 119) dX12_shelf_119 1 rfl rfl ?_
                    refine xx_getR (pc := 120) 131 dX12_shelf_120 sh_114 fX12_58_12 rfl rfl (by decide) ?_
                    refine xx_iload_n (pc := 123) dX12_shelf_123 2 rfl rfl ?_
                    refine xx_iload (pc := 124) dX12_shelf_124 0 rfl ?_
                    refine xx_if_eqN (pc := 126) 138 dX12_shelf_126 rfl (by omega) (fun c105 => ?_) (fun c105 => by exfalso; omega)
                    refine xx_iconst (pc := 138) dX12_shelf_138 cc_iconst_0 ?_
                    refine xx_iastN (pc := 139) dX12_shelf_139 sh_131 (by omega) (by decide) ?_
                    refine xx_nw (fun w106 ew106 => ?_)
                    refine xx_iconst (pc := 140) dX12_shelf_140 cc_iconst_1 ?_
                    exact xx_iret (pc := 141) dX12_shelf_141 rfl (rfl) (Nat.le_refl _) (Nat.le_refl _) (ic_ri ⟨by rw [if_pos (by omega)], by rw [if_pos (by omega)]; exact congrArg hn (wu3 (by rw [ew106, ew104, ew101]) (by first | exact (if_pos (by omega)).symm | exact ((if_neg (by omega)).trans (if_pos (by omega))).symm | exact ((if_neg (by omega)).trans (if_neg (by omega))).symm | exact (if_neg (by omega)).symm) (by first | (rw [h126]; exact ((if_neg (by omega)).trans (if_pos (by omega))).symm) | exact (if_pos (by omega)).symm | exact ((if_neg (by omega)).trans (if_pos (by omega))).symm | exact ((if_neg (by omega)).trans (if_neg (by omega))).symm | exact (if_neg (by omega)).symm) (by first | (rw [h127]; exact (if_pos (by omega)).symm) | exact (if_pos (by omega)).symm | exact ((if_neg (by omega)).trans (if_pos (by omega))).symm | exact ((if_neg (by omega)).trans (if_neg (by omega))).symm | exact (if_neg (by omega)).symm))⟩)
                  · refine xx_iload_n (pc := 99) dX12_shelf_99 4 rfl rfl ?_
                    refine xx_goto (pc := 100) 118 dX12_shelf_100 rfl ?_
                    refine xx_iastN (pc := 118) dX12_shelf_118 sh_130 (by omega) (by decide) ?_
                    refine xx_nw (fun w107 ew107 => ?_)
                    have h127 : w107 127 x = w 127 x := by rw [ew107, wu_o _ _ _ _ (by omega), ew101, wu_o _ _ _ _ (by omega)]
                    refine xx_aload_nP (pc := 119) dX12_shelf_119 1 rfl rfl ?_
                    refine xx_getR (pc := 120) 131 dX12_shelf_120 sh_114 fX12_58_12 rfl rfl (by decide) ?_
                    refine xx_iload_n (pc := 123) dX12_shelf_123 2 rfl rfl ?_
                    refine xx_iload (pc := 124) dX12_shelf_124 0 rfl ?_
                    refine xx_if_eqN (pc := 126) 138 dX12_shelf_126 rfl (by omega) (fun c108 => ?_) (fun c108 => by exfalso; omega)
                    refine xx_iconst (pc := 138) dX12_shelf_138 cc_iconst_0 ?_
                    refine xx_iastN (pc := 139) dX12_shelf_139 sh_131 (by omega) (by decide) ?_
                    refine xx_nw (fun w109 ew109 => ?_)
                    refine xx_iconst (pc := 140) dX12_shelf_140 cc_iconst_1 ?_
                    exact xx_iret (pc := 141) dX12_shelf_141 rfl (rfl) (Nat.le_refl _) (Nat.le_refl _) (ic_ri ⟨by rw [if_pos (by omega)], by rw [if_pos (by omega)]; exact congrArg hn (wu3 (by rw [ew109, ew107, ew101]) (by first | exact (if_pos (by omega)).symm | exact ((if_neg (by omega)).trans (if_pos (by omega))).symm | exact ((if_neg (by omega)).trans (if_neg (by omega))).symm | exact (if_neg (by omega)).symm) (by first | (rw [h126]; exact ((if_neg (by omega)).trans (if_pos (by omega))).symm) | exact (if_pos (by omega)).symm | exact ((if_neg (by omega)).trans (if_pos (by omega))).symm | exact ((if_neg (by omega)).trans (if_neg (by omega))).symm | exact (if_neg (by omega)).symm) (by first | (rw [h127]; exact (if_pos (by omega)).symm) | exact (if_pos (by omega)).symm | exact ((if_neg (by omega)).trans (if_pos (by omega))).symm | exact ((if_neg (by omega)).trans (if_neg (by omega))).symm | exact (if_neg (by omega)).symm))⟩)
              · refine xx_iconst (pc := 59) dX12_shelf_59 cc_iconst_1 ?_
                refine xx_goto (pc := 60) 64 dX12_shelf_60 rfl ?_
                refine xx_istore (L' := [(4, .int (nI 1)), (0, ic_pt E 114), (1, .int (nI i)), (2, .int (nI what)), (3, .int (nI x))]) (pc := 64) dX12_shelf_64 (Nat.le_of_ble_eq_true rfl) rfl ?_
                refine xx_aload_nP (pc := 66) dX12_shelf_66 1 rfl rfl ?_
                refine xx_getR (pc := 67) 129 dX12_shelf_67 sh_114 fX12_52_12 rfl rfl (by decide) ?_
                refine xx_iload_n (pc := 70) dX12_shelf_70 2 rfl rfl ?_
                refine xx_iload_n (pc := 71) dX12_shelf_71 3 rfl rfl ?_
                refine xx_if_neN (pc := 72) 79 dX12_shelf_72 rfl (by omega) (fun c110 => ?_) (fun c110 => ?_)
                · refine xx_iload (pc := 79) dX12_shelf_79 0 rfl ?_
                  refine xx_if_eqN (pc := 81) 88 dX12_shelf_81 rfl (by omega) (fun c111 => by exfalso; omega) (fun c111 => ?_)
                  refine xx_iconst (pc := 84) dX12_shelf_84 cc_iconst_2 ?_
                  refine xx_goto (pc := 85) 89 dX12_shelf_85 rfl ?_
                  refine xx_iastN (pc := 89) dX12_shelf_89 sh_129 (by omega) (by decide) ?_
                  refine xx_nw (fun w112 ew112 => ?_)
                  have h126 : w112 126 x = w 126 x := by rw [ew112, wu_o _ _ _ _ (by omega)]
                  refine xx_aload_nP (pc := 90) dX12_shelf_90 1 rfl rfl ?_
                  refine xx_getR (pc := 91) 130 dX12_shelf_91 sh_114 fX12_55_12 rfl rfl (by decide) ?_
                  refine xx_iload_n (pc := 94) dX12_shelf_94 2 rfl rfl ?_
                  refine xx_iload_n (pc := 95) dX12_shelf_95 3 rfl rfl ?_
                  refine xx_if_neN (pc := 96) 103 dX12_shelf_96 rfl (by omega) (fun c113 => ?_) (fun c113 => ?_)
                  · refine xx_iload (pc := 103) dX12_shelf_103 0 rfl ?_
                    refine xx_if_eqN (pc := 105) 117 dX12_shelf_105 rfl (by omega) (fun c114 => by exfalso; omega) (fun c114 => ?_)
                    refine xx_aload_nP (pc := 108) dX12_shelf_108 1 rfl rfl ?_
                    refine xx_getR (pc := 109) 126 dX12_shelf_109 sh_114 fX12_43_12 rfl rfl (by decide) ?_
                    refine xx_iload_n (pc := 112) dX12_shelf_112 4 rfl rfl ?_
                    refine xx_ialdN (pc := 113) dX12_shelf_113 sh_126 (by omega) (by decide) ?_
                    refine xx_goto (pc := 114) 118 dX12_shelf_114 rfl ?_
                    refine xx_iastN (pc := 118) dX12_shelf_118 sh_130 (by omega) (by decide) ?_
                    refine xx_nw (fun w115 ew115 => ?_)
                    have h127 : w115 127 x = w 127 x := by rw [ew115, wu_o _ _ _ _ (by omega), ew112, wu_o _ _ _ _ (by omega)]
                    refine xx_aload_nP (pc := 119) dX12_shelf_119 1 rfl rfl ?_
                    refine xx_getR (pc := 120) 131 dX12_shelf_120 sh_114 fX12_58_12 rfl rfl (by decide) ?_
                    refine xx_iload_n (pc := 123) dX12_shelf_123 2 rfl rfl ?_
                    refine xx_iload (pc := 124) dX12_shelf_124 0 rfl ?_
                    refine xx_if_eqN (pc := 126) 138 dX12_shelf_126 rfl (by omega) (fun c116 => by exfalso; omega) (fun c116 => ?_)
                    refine xx_aload_nP (pc := 129) dX12_shelf_129 1 rfl rfl ?_
                    refine xx_getR (pc := 130) 127 dX12_shelf_130 sh_114 fX12_46_12 rfl rfl (by decide) ?_
                    refine xx_iload_n (pc := 133) dX12_shelf_133 4 rfl rfl ?_
                    refine xx_ialdN (pc := 134) dX12_shelf_134 sh_127 (by omega) (by decide) ?_
                    refine xx_goto (pc := 135) 139 dX12_shelf_135 rfl ?_
                    refine xx_iastN (pc := 139) dX12_shelf_139 sh_131 (by omega) (by decide) ?_
                    refine xx_nw (fun w117 ew117 => ?_)
                    refine xx_iconst (pc := 140) dX12_shelf_140 cc_iconst_1 ?_
                    exact xx_iret (pc := 141) dX12_shelf_141 rfl (rfl) (Nat.le_refl _) (Nat.le_refl _) (ic_ri ⟨by rw [if_pos (by omega)], by rw [if_pos (by omega)]; exact congrArg hn (wu3 (by rw [ew117, ew115, ew112]) (by first | exact (if_pos (by omega)).symm | exact ((if_neg (by omega)).trans (if_pos (by omega))).symm | exact ((if_neg (by omega)).trans (if_neg (by omega))).symm | exact (if_neg (by omega)).symm) (by first | (rw [h126]; exact ((if_neg (by omega)).trans (if_pos (by omega))).symm) | exact (if_pos (by omega)).symm | exact ((if_neg (by omega)).trans (if_pos (by omega))).symm | exact ((if_neg (by omega)).trans (if_neg (by omega))).symm | exact (if_neg (by omega)).symm) (by first | (rw [h127]; exact (if_pos (by omega)).symm) | exact (if_pos (by omega)).symm | exact ((if_neg (by omega)).trans (if_pos (by omega))).symm | exact ((if_neg (by omega)).trans (if_neg (by omega))).symm | exact (if_neg (by omega)).symm))⟩)
                  · refine xx_iload_n (pc := 99) dX12_shelf_99 4 rfl rfl ?_
                    refine xx_goto (pc := 100) 118 dX12_shelf_100 rfl ?_
                    refine xx_iastN (pc := 118) dX12_shelf_118 sh_130 (by omega) (by decide) ?_
                    refine xx_nw (fun w118 ew118 => ?_)
                    have h127 : w118 127 x = w 127 x := by rw [ew118, wu_o _ _ _ _ (by omega), ew112, wu_o _ _ _ _ (by omega)]
                    refine xx_aload_nP (pc := 119) dX12_shelf_119 1 rfl rfl ?_
                    refine xx_getR (pc := 120) 131 dX12_shelf_120 sh_114 fX12_58_12 rfl rfl (by decide) ?_
                    refine xx_iload_n (pc := 123) dX12_shelf_123 2 rfl rfl ?_
                    refine xx_iload (pc := 124) dX12_shelf_124 0 rfl ?_
                    refine xx_if_eqN (pc := 126) 138 dX12_shelf_126 rfl (by omega) (fun c119 => by exfalso; omega) (fun c119 => ?_)
                    refine xx_aload_nP (pc := 129) dX12_shelf_129 1 rfl rfl ?_
                    refine xx_getR (pc := 130) 127 dX12_shelf_130 sh_114 fX12_46_12 rfl rfl (by decide) ?_
                    refine xx_iload_n (pc := 133) dX12_shelf_133 4 rfl rfl ?_
                    refine xx_ialdN (pc := 134) dX12_shelf_134 sh_127 (by omega) (by decide) ?_
                    refine xx_goto (pc := 135) 139 dX12_shelf_135 rfl ?_
                    refine xx_iastN (pc := 139) dX12_shelf_139 sh_131 (by omega) (by decide) ?_
                    refine xx_nw (fun w120 ew120 => ?_)
                    refine xx_iconst (pc := 140) dX12_shelf_140 cc_iconst_1 ?_
                    exact xx_iret (pc := 141) dX12_shelf_141 rfl (rfl) (Nat.le_refl _) (Nat.le_refl _) (ic_ri ⟨by rw [if_pos (by omega)], by rw [if_pos (by omega)]; exact congrArg hn (wu3 (by rw [ew120, ew118, ew112]) (by first | exact (if_pos (by omega)).symm | exact ((if_neg (by omega)).trans (if_pos (by omega))).symm | exact ((if_neg (by omega)).trans (if_neg (by omega))).symm | exact (if_neg (by omega)).symm) (by first | (rw [h126]; exact ((if_neg (by omega)).trans (if_pos (by omega))).symm) | exact (if_pos (by omega)).symm | exact ((if_neg (by omega)).trans (if_pos (by omega))).symm | exact ((if_neg (by omega)).trans (if_neg (by omega))).symm | exact (if_neg (by omega)).symm) (by first | (rw [h127]; exact (if_pos (by omega)).symm) | exact (if_pos (by omega)).symm | exact ((if_neg (by omega)).trans (if_pos (by omega))).symm | exact ((if_neg (by omega)).trans (if_neg (by omega))).symm | exact (if_neg (by omega)).symm))⟩)
                · refine xx_iconst (pc := 75) dX12_shelf_75 cc_iconst_1 ?_
                  refine xx_goto (pc := 76) 89 dX12_shelf_76 rfl ?_
                  refine xx_iastN (pc := 89) dX12_shelf_89 sh_129 (by omega) (by decide) ?_
                  refine xx_nw (fun w121 ew121 => ?_)
                  have h126 : w121 126 x = w 126 x := by rw [ew121, wu_o _ _ _ _ (by omega)]
                  refine xx_aload_nP (pc := 90) dX12_shelf_90 1 rfl rfl ?_
                  refine xx_getR (pc := 91) 130 dX12_shelf_91 sh_114 fX12_55_12 rfl rfl (by decide) ?_
                  refine xx_iload_n (pc := 94) dX12_shelf_94 2 rfl rfl ?_
                  refine xx_iload_n (pc := 95) dX12_shelf_95 3 rfl rfl ?_
                  refine xx_if_neN (pc := 96) 103 dX12_shelf_96 rfl (by omega) (fun c122 => ?_) (fun c122 => ?_)
                  · refine xx_iload (pc := 103) dX12_shelf_103 0 rfl ?_
                    refine xx_if_eqN (pc := 105) 117 dX12_shelf_105 rfl (by omega) (fun c123 => by exfalso; omega) (fun c123 => ?_)
                    refine xx_aload_nP (pc := 108) dX12_shelf_108 1 rfl rfl ?_
                    refine xx_getR (pc := 109) 126 dX12_shelf_109 sh_114 fX12_43_12 rfl rfl (by decide) ?_
                    refine xx_iload_n (pc := 112) dX12_shelf_112 4 rfl rfl ?_
                    refine xx_ialdN (pc := 113) dX12_shelf_113 sh_126 (by omega) (by decide) ?_
                    refine xx_goto (pc := 114) 118 dX12_shelf_114 rfl ?_
                    refine xx_iastN (pc := 118) dX12_shelf_118 sh_130 (by omega) (by decide) ?_
                    refine xx_nw (fun w124 ew124 => ?_)
                    have h127 : w124 127 x = w 127 x := by rw [ew124, wu_o _ _ _ _ (by omega), ew121, wu_o _ _ _ _ (by omega)]
                    refine xx_aload_nP (pc := 119) dX12_shelf_119 1 rfl rfl ?_
                    refine xx_getR (pc := 120) 131 dX12_shelf_120 sh_114 fX12_58_12 rfl rfl (by decide) ?_
                    refine xx_iload_n (pc := 123) dX12_shelf_123 2 rfl rfl ?_
                    refine xx_iload (pc := 124) dX12_shelf_124 0 rfl ?_
                    refine xx_if_eqN (pc := 126) 138 dX12_shelf_126 rfl (by omega) (fun c125 => by exfalso; omega) (fun c125 => ?_)
                    refine xx_aload_nP (pc := 129) dX12_shelf_129 1 rfl rfl ?_
                    refine xx_getR (pc := 130) 127 dX12_shelf_130 sh_114 fX12_46_12 rfl rfl (by decide) ?_
                    refine xx_iload_n (pc := 133) dX12_shelf_133 4 rfl rfl ?_
                    refine xx_ialdN (pc := 134) dX12_shelf_134 sh_127 (by omega) (by decide) ?_
                    refine xx_goto (pc := 135) 139 dX12_shelf_135 rfl ?_
                    refine xx_iastN (pc := 139) dX12_shelf_139 sh_131 (by omega) (by decide) ?_
                    refine xx_nw (fun w126 ew126 => ?_)
                    refine xx_iconst (pc := 140) dX12_shelf_140 cc_iconst_1 ?_
                    exact xx_iret (pc := 141) dX12_shelf_141 rfl (rfl) (Nat.le_refl _) (Nat.le_refl _) (ic_ri ⟨by rw [if_pos (by omega)], by rw [if_pos (by omega)]; exact congrArg hn (wu3 (by rw [ew126, ew124, ew121]) (by first | exact (if_pos (by omega)).symm | exact ((if_neg (by omega)).trans (if_pos (by omega))).symm | exact ((if_neg (by omega)).trans (if_neg (by omega))).symm | exact (if_neg (by omega)).symm) (by first | (rw [h126]; exact ((if_neg (by omega)).trans (if_pos (by omega))).symm) | exact (if_pos (by omega)).symm | exact ((if_neg (by omega)).trans (if_pos (by omega))).symm | exact ((if_neg (by omega)).trans (if_neg (by omega))).symm | exact (if_neg (by omega)).symm) (by first | (rw [h127]; exact (if_pos (by omega)).symm) | exact (if_pos (by omega)).symm | exact ((if_neg (by omega)).trans (if_pos (by omega))).symm | exact ((if_neg (by omega)).trans (if_neg (by omega))).symm | exact (if_neg (by omega)).symm))⟩)
                  · refine xx_iload_n (pc := 99) dX12_shelf_99 4 rfl rfl ?_
                    refine xx_goto (pc := 100) 118 dX12_shelf_100 rfl ?_
                    refine xx_iastN (pc := 118) dX12_shelf_118 sh_130 (by omega) (by decide) ?_
                    refine xx_nw (fun w127 ew127 => ?_)
                    have h127 : w127 127 x = w 127 x := by rw [ew127, wu_o _ _ _ _ (by omega), ew121, wu_o _ _ _ _ (by omega)]
                    refine xx_aload_nP (pc := 119) dX12_shelf_119 1 rfl rfl ?_
                    refine xx_getR (pc := 120) 131 dX12_shelf_120 sh_114 fX12_58_12 rfl rfl (by decide) ?_
                    refine xx_iload_n (pc := 123) dX12_shelf_123 2 rfl rfl ?_
                    refine xx_iload (pc := 124) dX12_shelf_124 0 rfl ?_
                    refine xx_if_eqN (pc := 126) 138 dX12_shelf_126 rfl (by omega) (fun c128 => by exfalso; omega) (fun c128 => ?_)
                    refine xx_aload_nP (pc := 129) dX12_shelf_129 1 rfl rfl ?_
                    refine xx_getR (pc := 130) 127 dX12_shelf_130 sh_114 fX12_46_12 rfl rfl (by decide) ?_
                    refine xx_iload_n (pc := 133) dX12_shelf_133 4 rfl rfl ?_
                    refine xx_ialdN (pc := 134) dX12_shelf_134 sh_127 (by omega) (by decide) ?_
                    refine xx_goto (pc := 135) 139 dX12_shelf_135 rfl ?_
                    refine xx_iastN (pc := 139) dX12_shelf_139 sh_131 (by omega) (by decide) ?_
                    refine xx_nw (fun w129 ew129 => ?_)
                    refine xx_iconst (pc := 140) dX12_shelf_140 cc_iconst_1 ?_
                    exact xx_iret (pc := 141) dX12_shelf_141 rfl (rfl) (Nat.le_refl _) (Nat.le_refl _) (ic_ri ⟨by rw [if_pos (by omega)], by rw [if_pos (by omega)]; exact congrArg hn (wu3 (by rw [ew129, ew127, ew121]) (by first | exact (if_pos (by omega)).symm | exact ((if_neg (by omega)).trans (if_pos (by omega))).symm | exact ((if_neg (by omega)).trans (if_neg (by omega))).symm | exact (if_neg (by omega)).symm) (by first | (rw [h126]; exact ((if_neg (by omega)).trans (if_pos (by omega))).symm) | exact (if_pos (by omega)).symm | exact ((if_neg (by omega)).trans (if_pos (by omega))).symm | exact ((if_neg (by omega)).trans (if_neg (by omega))).symm | exact (if_neg (by omega)).symm) (by first | (rw [h127]; exact (if_pos (by omega)).symm) | exact (if_pos (by omega)).symm | exact ((if_neg (by omega)).trans (if_pos (by omega))).symm | exact ((if_neg (by omega)).trans (if_neg (by omega))).symm | exact (if_neg (by omega)).symm))⟩)
          · refine xx_iconst (pc := 43) dX12_shelf_43 cc_iconst_m1 ?_
            exact xx_iret (pc := 44) dX12_shelf_44 rfl (rfl) (Nat.le_refl _) (Nat.le_refl _) (ic_ri ⟨by rw [if_neg (by omega)], by rw [if_neg (by omega)]⟩)
      · refine xx_aload_nP (pc := 23) dX12_shelf_23 0 rfl rfl ?_
        refine xx_iload_n (pc := 24) dX12_shelf_24 3 rfl rfl ?_
        refine xx_callV0 (pc := 25) (st := []) sh_114 (cM_isOne (w := w) (o := x) (by omega) hI) kX12_isOne vX12_116_12 dX12_shelf_25 rfl rfl (Nat.le_of_ble_eq_true rfl) ⟨Nat.le_of_ble_eq_true rfl, Nat.le_of_ble_eq_true rfl⟩ ⟨Nat.zero_le _, Nat.zero_le _⟩ (ic_ke ?_)
        refine xx_if_eqB (pc := 28) 43 dX12_shelf_28 rfl (fun c130 => ?_) (fun c130 => ?_)
        · refine xx_iconst (pc := 43) dX12_shelf_43 cc_iconst_m1 ?_
          exact xx_iret (pc := 44) dX12_shelf_44 rfl (rfl) (Nat.le_refl _) (Nat.le_refl _) (ic_ri ⟨by rw [if_neg (by omega)], by rw [if_neg (by omega)]⟩)
        · refine xx_iload_n (pc := 31) dX12_shelf_31 2 rfl rfl ?_
          refine xx_iconst (pc := 32) dX12_shelf_32 cc_iconst_1 ?_
          refine xx_icmp_neN (pc := 33) 45 dX12_shelf_33 rfl (by omega) (by omega) (fun c131 => ?_) (fun c131 => ?_)
          · refine xx_iload_n (pc := 45) dX12_shelf_45 2 rfl rfl ?_
            refine xx_iconst (pc := 46) dX12_shelf_46 cc_iconst_1 ?_
            refine xx_icmp_neN (pc := 47) 63 dX12_shelf_47 rfl (by omega) (by omega) (fun c132 => ?_) (fun c132 => ?_)
            · refine xx_iconst (pc := 63) dX12_shelf_63 cc_iconst_0 ?_
              refine xx_istore (L' := [(4, .int (nI 0)), (0, ic_pt E 114), (1, .int (nI i)), (2, .int (nI what)), (3, .int (nI x))]) (pc := 64) dX12_shelf_64 (Nat.le_of_ble_eq_true rfl) rfl ?_
              refine xx_aload_nP (pc := 66) dX12_shelf_66 1 rfl rfl ?_
              refine xx_getR (pc := 67) 129 dX12_shelf_67 sh_114 fX12_52_12 rfl rfl (by decide) ?_
              refine xx_iload_n (pc := 70) dX12_shelf_70 2 rfl rfl ?_
              refine xx_iload_n (pc := 71) dX12_shelf_71 3 rfl rfl ?_
              refine xx_if_neN (pc := 72) 79 dX12_shelf_72 rfl (by omega) (fun c133 => ?_) (fun c133 => ?_)
              · refine xx_iload (pc := 79) dX12_shelf_79 0 rfl ?_
                refine xx_if_eqN (pc := 81) 88 dX12_shelf_81 rfl (by omega) (fun c134 => ?_) (fun c134 => by exfalso; omega)
                refine xx_iconst (pc := 88) dX12_shelf_88 cc_iconst_0 ?_
                refine xx_iastN (pc := 89) dX12_shelf_89 sh_129 (by omega) (by decide) ?_
                refine xx_nw (fun w135 ew135 => ?_)
                have h126 : w135 126 x = w 126 x := by rw [ew135, wu_o _ _ _ _ (by omega)]
                refine xx_aload_nP (pc := 90) dX12_shelf_90 1 rfl rfl ?_
                refine xx_getR (pc := 91) 130 dX12_shelf_91 sh_114 fX12_55_12 rfl rfl (by decide) ?_
                refine xx_iload_n (pc := 94) dX12_shelf_94 2 rfl rfl ?_
                refine xx_iload_n (pc := 95) dX12_shelf_95 3 rfl rfl ?_
                refine xx_if_neN (pc := 96) 103 dX12_shelf_96 rfl (by omega) (fun c136 => ?_) (fun c136 => ?_)
                · refine xx_iload (pc := 103) dX12_shelf_103 0 rfl ?_
                  refine xx_if_eqN (pc := 105) 117 dX12_shelf_105 rfl (by omega) (fun c137 => ?_) (fun c137 => by exfalso; omega)
                  refine xx_iconst (pc := 117) dX12_shelf_117 cc_iconst_0 ?_
                  refine xx_iastN (pc := 118) dX12_shelf_118 sh_130 (by omega) (by decide) ?_
                  refine xx_nw (fun w138 ew138 => ?_)
                  have h127 : w138 127 x = w 127 x := by rw [ew138, wu_o _ _ _ _ (by omega), ew135, wu_o _ _ _ _ (by omega)]
                  refine xx_aload_nP (pc := 119) dX12_shelf_119 1 rfl rfl ?_
                  refine xx_getR (pc := 120) 131 dX12_shelf_120 sh_114 fX12_58_12 rfl rfl (by decide) ?_
                  refine xx_iload_n (pc := 123) dX12_shelf_123 2 rfl rfl ?_
                  refine xx_iload (pc := 124) dX12_shelf_124 0 rfl ?_
                  refine xx_if_eqN (pc := 126) 138 dX12_shelf_126 rfl (by omega) (fun c139 => ?_) (fun c139 => by exfalso; omega)
                  refine xx_iconst (pc := 138) dX12_shelf_138 cc_iconst_0 ?_
                  refine xx_iastN (pc := 139) dX12_shelf_139 sh_131 (by omega) (by decide) ?_
                  refine xx_nw (fun w140 ew140 => ?_)
                  refine xx_iconst (pc := 140) dX12_shelf_140 cc_iconst_1 ?_
                  exact xx_iret (pc := 141) dX12_shelf_141 rfl (rfl) (Nat.le_refl _) (Nat.le_refl _) (ic_ri ⟨by rw [if_pos (by omega)], by rw [if_pos (by omega)]; exact congrArg hn (wu3 (by rw [ew140, ew138, ew135]) (by first | exact (if_pos (by omega)).symm | exact ((if_neg (by omega)).trans (if_pos (by omega))).symm | exact ((if_neg (by omega)).trans (if_neg (by omega))).symm | exact (if_neg (by omega)).symm) (by first | (rw [h126]; exact ((if_neg (by omega)).trans (if_pos (by omega))).symm) | exact (if_pos (by omega)).symm | exact ((if_neg (by omega)).trans (if_pos (by omega))).symm | exact ((if_neg (by omega)).trans (if_neg (by omega))).symm | exact (if_neg (by omega)).symm) (by first | (rw [h127]; exact (if_pos (by omega)).symm) | exact (if_pos (by omega)).symm | exact ((if_neg (by omega)).trans (if_pos (by omega))).symm | exact ((if_neg (by omega)).trans (if_neg (by omega))).symm | exact (if_neg (by omega)).symm))⟩)
                · refine xx_iload_n (pc := 99) dX12_shelf_99 4 rfl rfl ?_
                  refine xx_goto (pc := 100) 118 dX12_shelf_100 rfl ?_
                  refine xx_iastN (pc := 118) dX12_shelf_118 sh_130 (by omega) (by decide) ?_
                  refine xx_nw (fun w141 ew141 => ?_)
                  have h127 : w141 127 x = w 127 x := by rw [ew141, wu_o _ _ _ _ (by omega), ew135, wu_o _ _ _ _ (by omega)]
                  refine xx_aload_nP (pc := 119) dX12_shelf_119 1 rfl rfl ?_
                  refine xx_getR (pc := 120) 131 dX12_shelf_120 sh_114 fX12_58_12 rfl rfl (by decide) ?_
                  refine xx_iload_n (pc := 123) dX12_shelf_123 2 rfl rfl ?_
                  refine xx_iload (pc := 124) dX12_shelf_124 0 rfl ?_
                  refine xx_if_eqN (pc := 126) 138 dX12_shelf_126 rfl (by omega) (fun c142 => ?_) (fun c142 => by exfalso; omega)
                  refine xx_iconst (pc := 138) dX12_shelf_138 cc_iconst_0 ?_
                  refine xx_iastN (pc := 139) dX12_shelf_139 sh_131 (by omega) (by decide) ?_
                  refine xx_nw (fun w143 ew143 => ?_)
                  refine xx_iconst (pc := 140) dX12_shelf_140 cc_iconst_1 ?_
                  exact xx_iret (pc := 141) dX12_shelf_141 rfl (rfl) (Nat.le_refl _) (Nat.le_refl _) (ic_ri ⟨by rw [if_pos (by omega)], by rw [if_pos (by omega)]; exact congrArg hn (wu3 (by rw [ew143, ew141, ew135]) (by first | exact (if_pos (by omega)).symm | exact ((if_neg (by omega)).trans (if_pos (by omega))).symm | exact ((if_neg (by omega)).trans (if_neg (by omega))).symm | exact (if_neg (by omega)).symm) (by first | (rw [h126]; exact ((if_neg (by omega)).trans (if_pos (by omega))).symm) | exact (if_pos (by omega)).symm | exact ((if_neg (by omega)).trans (if_pos (by omega))).symm | exact ((if_neg (by omega)).trans (if_neg (by omega))).symm | exact (if_neg (by omega)).symm) (by first | (rw [h127]; exact (if_pos (by omega)).symm) | exact (if_pos (by omega)).symm | exact ((if_neg (by omega)).trans (if_pos (by omega))).symm | exact ((if_neg (by omega)).trans (if_neg (by omega))).symm | exact (if_neg (by omega)).symm))⟩)
              · refine xx_iconst (pc := 75) dX12_shelf_75 cc_iconst_1 ?_
                refine xx_goto (pc := 76) 89 dX12_shelf_76 rfl ?_
                refine xx_iastN (pc := 89) dX12_shelf_89 sh_129 (by omega) (by decide) ?_
                refine xx_nw (fun w144 ew144 => ?_)
                have h126 : w144 126 x = w 126 x := by rw [ew144, wu_o _ _ _ _ (by omega)]
                refine xx_aload_nP (pc := 90) dX12_shelf_90 1 rfl rfl ?_
                refine xx_getR (pc := 91) 130 dX12_shelf_91 sh_114 fX12_55_12 rfl rfl (by decide) ?_
                refine xx_iload_n (pc := 94) dX12_shelf_94 2 rfl rfl ?_
                refine xx_iload_n (pc := 95) dX12_shelf_95 3 rfl rfl ?_
                refine xx_if_neN (pc := 96) 103 dX12_shelf_96 rfl (by omega) (fun c145 => ?_) (fun c145 => ?_)
                · refine xx_iload (pc := 103) dX12_shelf_103 0 rfl ?_
                  refine xx_if_eqN (pc := 105) 117 dX12_shelf_105 rfl (by omega) (fun c146 => ?_) (fun c146 => by exfalso; omega)
                  refine xx_iconst (pc := 117) dX12_shelf_117 cc_iconst_0 ?_
                  refine xx_iastN (pc := 118) dX12_shelf_118 sh_130 (by omega) (by decide) ?_
                  refine xx_nw (fun w147 ew147 => ?_)
                  have h127 : w147 127 x = w 127 x := by rw [ew147, wu_o _ _ _ _ (by omega), ew144, wu_o _ _ _ _ (by omega)]
                  refine xx_aload_nP (pc := 119) dX12_shelf_119 1 rfl rfl ?_
                  refine xx_getR (pc := 120) 131 dX12_shelf_120 sh_114 fX12_58_12 rfl rfl (by decide) ?_
                  refine xx_iload_n (pc := 123) dX12_shelf_123 2 rfl rfl ?_
                  refine xx_iload (pc := 124) dX12_shelf_124 0 rfl ?_
                  refine xx_if_eqN (pc := 126) 138 dX12_shelf_126 rfl (by omega) (fun c148 => ?_) (fun c148 => by exfalso; omega)
                  refine xx_iconst (pc := 138) dX12_shelf_138 cc_iconst_0 ?_
                  refine xx_iastN (pc := 139) dX12_shelf_139 sh_131 (by omega) (by decide) ?_
                  refine xx_nw (fun w149 ew149 => ?_)
                  refine xx_iconst (pc := 140) dX12_shelf_140 cc_iconst_1 ?_
                  exact xx_iret (pc := 141) dX12_shelf_141 rfl (rfl) (Nat.le_refl _) (Nat.le_refl _) (ic_ri ⟨by rw [if_pos (by omega)], by rw [if_pos (by omega)]; exact congrArg hn (wu3 (by rw [ew149, ew147, ew144]) (by first | exact (if_pos (by omega)).symm | exact ((if_neg (by omega)).trans (if_pos (by omega))).symm | exact ((if_neg (by omega)).trans (if_neg (by omega))).symm | exact (if_neg (by omega)).symm) (by first | (rw [h126]; exact ((if_neg (by omega)).trans (if_pos (by omega))).symm) | exact (if_pos (by omega)).symm | exact ((if_neg (by omega)).trans (if_pos (by omega))).symm | exact ((if_neg (by omega)).trans (if_neg (by omega))).symm | exact (if_neg (by omega)).symm) (by first | (rw [h127]; exact (if_pos (by omega)).symm) | exact (if_pos (by omega)).symm | exact ((if_neg (by omega)).trans (if_pos (by omega))).symm | exact ((if_neg (by omega)).trans (if_neg (by omega))).symm | exact (if_neg (by omega)).symm))⟩)
                · refine xx_iload_n (pc := 99) dX12_shelf_99 4 rfl rfl ?_
                  refine xx_goto (pc := 100) 118 dX12_shelf_100 rfl ?_
                  refine xx_iastN (pc := 118) dX12_shelf_118 sh_130 (by omega) (by decide) ?_
                  refine xx_nw (fun w150 ew150 => ?_)
                  have h127 : w150 127 x = w 127 x := by rw [ew150, wu_o _ _ _ _ (by omega), ew144, wu_o _ _ _ _ (by omega)]
                  refine xx_aload_nP (pc := 119) dX12_shelf_119 1 rfl rfl ?_
                  refine xx_getR (pc := 120) 131 dX12_shelf_120 sh_114 fX12_58_12 rfl rfl (by decide) ?_
                  refine xx_iload_n (pc := 123) dX12_shelf_123 2 rfl rfl ?_
                  refine xx_iload (pc := 124) dX12_shelf_124 0 rfl ?_
                  refine xx_if_eqN (pc := 126) 138 dX12_shelf_126 rfl (by omega) (fun c151 => ?_) (fun c151 => by exfalso; omega)
                  refine xx_iconst (pc := 138) dX12_shelf_138 cc_iconst_0 ?_
                  refine xx_iastN (pc := 139) dX12_shelf_139 sh_131 (by omega) (by decide) ?_
                  refine xx_nw (fun w152 ew152 => ?_)
                  refine xx_iconst (pc := 140) dX12_shelf_140 cc_iconst_1 ?_
                  exact xx_iret (pc := 141) dX12_shelf_141 rfl (rfl) (Nat.le_refl _) (Nat.le_refl _) (ic_ri ⟨by rw [if_pos (by omega)], by rw [if_pos (by omega)]; exact congrArg hn (wu3 (by rw [ew152, ew150, ew144]) (by first | exact (if_pos (by omega)).symm | exact ((if_neg (by omega)).trans (if_pos (by omega))).symm | exact ((if_neg (by omega)).trans (if_neg (by omega))).symm | exact (if_neg (by omega)).symm) (by first | (rw [h126]; exact ((if_neg (by omega)).trans (if_pos (by omega))).symm) | exact (if_pos (by omega)).symm | exact ((if_neg (by omega)).trans (if_pos (by omega))).symm | exact ((if_neg (by omega)).trans (if_neg (by omega))).symm | exact (if_neg (by omega)).symm) (by first | (rw [h127]; exact (if_pos (by omega)).symm) | exact (if_pos (by omega)).symm | exact ((if_neg (by omega)).trans (if_pos (by omega))).symm | exact ((if_neg (by omega)).trans (if_neg (by omega))).symm | exact (if_neg (by omega)).symm))⟩)
            · refine xx_aload_nP (pc := 50) dX12_shelf_50 0 rfl rfl ?_
              refine xx_getR (pc := 51) 126 dX12_shelf_51 sh_114 fX12_43_12 rfl rfl (by decide) ?_
              refine xx_iload_n (pc := 54) dX12_shelf_54 3 rfl rfl ?_
              refine xx_ialdN (pc := 55) dX12_shelf_55 sh_126 (by omega) (by decide) ?_
              refine xx_if_ltS (pc := 56) 63 dX12_shelf_56 rfl (by have := hs (by omega); omega) (fun c153 => ?_) (fun c153 => ?_)
              · refine xx_iconst (pc := 63) dX12_shelf_63 cc_iconst_0 ?_
                refine xx_istore (L' := [(4, .int (nI 0)), (0, ic_pt E 114), (1, .int (nI i)), (2, .int (nI what)), (3, .int (nI x))]) (pc := 64) dX12_shelf_64 (Nat.le_of_ble_eq_true rfl) rfl ?_
                refine xx_aload_nP (pc := 66) dX12_shelf_66 1 rfl rfl ?_
                refine xx_getR (pc := 67) 129 dX12_shelf_67 sh_114 fX12_52_12 rfl rfl (by decide) ?_
                refine xx_iload_n (pc := 70) dX12_shelf_70 2 rfl rfl ?_
                refine xx_iload_n (pc := 71) dX12_shelf_71 3 rfl rfl ?_
                refine xx_if_neN (pc := 72) 79 dX12_shelf_72 rfl (by omega) (fun c154 => ?_) (fun c154 => ?_)
                · refine xx_iload (pc := 79) dX12_shelf_79 0 rfl ?_
                  refine xx_if_eqN (pc := 81) 88 dX12_shelf_81 rfl (by omega) (fun c155 => ?_) (fun c155 => by exfalso; omega)
                  refine xx_iconst (pc := 88) dX12_shelf_88 cc_iconst_0 ?_
                  refine xx_iastN (pc := 89) dX12_shelf_89 sh_129 (by omega) (by decide) ?_
                  refine xx_nw (fun w156 ew156 => ?_)
                  have h126 : w156 126 x = w 126 x := by rw [ew156, wu_o _ _ _ _ (by omega)]
                  refine xx_aload_nP (pc := 90) dX12_shelf_90 1 rfl rfl ?_
                  refine xx_getR (pc := 91) 130 dX12_shelf_91 sh_114 fX12_55_12 rfl rfl (by decide) ?_
                  refine xx_iload_n (pc := 94) dX12_shelf_94 2 rfl rfl ?_
                  refine xx_iload_n (pc := 95) dX12_shelf_95 3 rfl rfl ?_
                  refine xx_if_neN (pc := 96) 103 dX12_shelf_96 rfl (by omega) (fun c157 => ?_) (fun c157 => ?_)
                  · refine xx_iload (pc := 103) dX12_shelf_103 0 rfl ?_
                    refine xx_if_eqN (pc := 105) 117 dX12_shelf_105 rfl (by omega) (fun c158 => ?_) (fun c158 => by exfalso; omega)
                    refine xx_iconst (pc := 117) dX12_shelf_117 cc_iconst_0 ?_
                    refine xx_iastN (pc := 118) dX12_shelf_118 sh_130 (by omega) (by decide) ?_
                    refine xx_nw (fun w159 ew159 => ?_)
                    have h127 : w159 127 x = w 127 x := by rw [ew159, wu_o _ _ _ _ (by omega), ew156, wu_o _ _ _ _ (by omega)]
                    refine xx_aload_nP (pc := 119) dX12_shelf_119 1 rfl rfl ?_
                    refine xx_getR (pc := 120) 131 dX12_shelf_120 sh_114 fX12_58_12 rfl rfl (by decide) ?_
                    refine xx_iload_n (pc := 123) dX12_shelf_123 2 rfl rfl ?_
                    refine xx_iload (pc := 124) dX12_shelf_124 0 rfl ?_
                    refine xx_if_eqN (pc := 126) 138 dX12_shelf_126 rfl (by omega) (fun c160 => ?_) (fun c160 => by exfalso; omega)
                    refine xx_iconst (pc := 138) dX12_shelf_138 cc_iconst_0 ?_
                    refine xx_iastN (pc := 139) dX12_shelf_139 sh_131 (by omega) (by decide) ?_
                    refine xx_nw (fun w161 ew161 => ?_)
                    refine xx_iconst (pc := 140) dX12_shelf_140 cc_iconst_1 ?_
                    exact xx_iret (pc := 141) dX12_shelf_141 rfl (rfl) (Nat.le_refl _) (Nat.le_refl _) (ic_ri ⟨by rw [if_pos (by omega)], by rw [if_pos (by omega)]; exact congrArg hn (wu3 (by rw [ew161, ew159, ew156]) (by first | exact (if_pos (by omega)).symm | exact ((if_neg (by omega)).trans (if_pos (by omega))).symm | exact ((if_neg (by omega)).trans (if_neg (by omega))).symm | exact (if_neg (by omega)).symm) (by first | (rw [h126]; exact ((if_neg (by omega)).trans (if_pos (by omega))).symm) | exact (if_pos (by omega)).symm | exact ((if_neg (by omega)).trans (if_pos (by omega))).symm | exact ((if_neg (by omega)).trans (if_neg (by omega))).symm | exact (if_neg (by omega)).symm) (by first | (rw [h127]; exact (if_pos (by omega)).symm) | exact (if_pos (by omega)).symm | exact ((if_neg (by omega)).trans (if_pos (by omega))).symm | exact ((if_neg (by omega)).trans (if_neg (by omega))).symm | exact (if_neg (by omega)).symm))⟩)
                  · refine xx_iload_n (pc := 99) dX12_shelf_99 4 rfl rfl ?_
                    refine xx_goto (pc := 100) 118 dX12_shelf_100 rfl ?_
                    refine xx_iastN (pc := 118) dX12_shelf_118 sh_130 (by omega) (by decide) ?_
                    refine xx_nw (fun w162 ew162 => ?_)
                    have h127 : w162 127 x = w 127 x := by rw [ew162, wu_o _ _ _ _ (by omega), ew156, wu_o _ _ _ _ (by omega)]
                    refine xx_aload_nP (pc := 119) dX12_shelf_119 1 rfl rfl ?_
                    refine xx_getR (pc := 120) 131 dX12_shelf_120 sh_114 fX12_58_12 rfl rfl (by decide) ?_
                    refine xx_iload_n (pc := 123) dX12_shelf_123 2 rfl rfl ?_
                    refine xx_iload (pc := 124) dX12_shelf_124 0 rfl ?_
                    refine xx_if_eqN (pc := 126) 138 dX12_shelf_126 rfl (by omega) (fun c163 => ?_) (fun c163 => by exfalso; omega)
                    refine xx_iconst (pc := 138) dX12_shelf_138 cc_iconst_0 ?_
                    refine xx_iastN (pc := 139) dX12_shelf_139 sh_131 (by omega) (by decide) ?_
                    refine xx_nw (fun w164 ew164 => ?_)
                    refine xx_iconst (pc := 140) dX12_shelf_140 cc_iconst_1 ?_
                    exact xx_iret (pc := 141) dX12_shelf_141 rfl (rfl) (Nat.le_refl _) (Nat.le_refl _) (ic_ri ⟨by rw [if_pos (by omega)], by rw [if_pos (by omega)]; exact congrArg hn (wu3 (by rw [ew164, ew162, ew156]) (by first | exact (if_pos (by omega)).symm | exact ((if_neg (by omega)).trans (if_pos (by omega))).symm | exact ((if_neg (by omega)).trans (if_neg (by omega))).symm | exact (if_neg (by omega)).symm) (by first | (rw [h126]; exact ((if_neg (by omega)).trans (if_pos (by omega))).symm) | exact (if_pos (by omega)).symm | exact ((if_neg (by omega)).trans (if_pos (by omega))).symm | exact ((if_neg (by omega)).trans (if_neg (by omega))).symm | exact (if_neg (by omega)).symm) (by first | (rw [h127]; exact (if_pos (by omega)).symm) | exact (if_pos (by omega)).symm | exact ((if_neg (by omega)).trans (if_pos (by omega))).symm | exact ((if_neg (by omega)).trans (if_neg (by omega))).symm | exact (if_neg (by omega)).symm))⟩)
                · refine xx_iconst (pc := 75) dX12_shelf_75 cc_iconst_1 ?_
                  refine xx_goto (pc := 76) 89 dX12_shelf_76 rfl ?_
                  refine xx_iastN (pc := 89) dX12_shelf_89 sh_129 (by omega) (by decide) ?_
                  refine xx_nw (fun w165 ew165 => ?_)
                  have h126 : w165 126 x = w 126 x := by rw [ew165, wu_o _ _ _ _ (by omega)]
                  refine xx_aload_nP (pc := 90) dX12_shelf_90 1 rfl rfl ?_
                  refine xx_getR (pc := 91) 130 dX12_shelf_91 sh_114 fX12_55_12 rfl rfl (by decide) ?_
                  refine xx_iload_n (pc := 94) dX12_shelf_94 2 rfl rfl ?_
                  refine xx_iload_n (pc := 95) dX12_shelf_95 3 rfl rfl ?_
                  refine xx_if_neN (pc := 96) 103 dX12_shelf_96 rfl (by omega) (fun c166 => ?_) (fun c166 => ?_)
                  · refine xx_iload (pc := 103) dX12_shelf_103 0 rfl ?_
                    refine xx_if_eqN (pc := 105) 117 dX12_shelf_105 rfl (by omega) (fun c167 => ?_) (fun c167 => by exfalso; omega)
                    refine xx_iconst (pc := 117) dX12_shelf_117 cc_iconst_0 ?_
                    refine xx_iastN (pc := 118) dX12_shelf_118 sh_130 (by omega) (by decide) ?_
                    refine xx_nw (fun w168 ew168 => ?_)
                    have h127 : w168 127 x = w 127 x := by rw [ew168, wu_o _ _ _ _ (by omega), ew165, wu_o _ _ _ _ (by omega)]
                    refine xx_aload_nP (pc := 119) dX12_shelf_119 1 rfl rfl ?_
                    refine xx_getR (pc := 120) 131 dX12_shelf_120 sh_114 fX12_58_12 rfl rfl (by decide) ?_
                    refine xx_iload_n (pc := 123) dX12_shelf_123 2 rfl rfl ?_
                    refine xx_iload (pc := 124) dX12_shelf_124 0 rfl ?_
                    refine xx_if_eqN (pc := 126) 138 dX12_shelf_126 rfl (by omega) (fun c169 => ?_) (fun c169 => by exfalso; omega)
                    refine xx_iconst (pc := 138) dX12_shelf_138 cc_iconst_0 ?_
                    refine xx_iastN (pc := 139) dX12_shelf_139 sh_131 (by omega) (by decide) ?_
                    refine xx_nw (fun w170 ew170 => ?_)
                    refine xx_iconst (pc := 140) dX12_shelf_140 cc_iconst_1 ?_
                    exact xx_iret (pc := 141) dX12_shelf_141 rfl (rfl) (Nat.le_refl _) (Nat.le_refl _) (ic_ri ⟨by rw [if_pos (by omega)], by rw [if_pos (by omega)]; exact congrArg hn (wu3 (by rw [ew170, ew168, ew165]) (by first | exact (if_pos (by omega)).symm | exact ((if_neg (by omega)).trans (if_pos (by omega))).symm | exact ((if_neg (by omega)).trans (if_neg (by omega))).symm | exact (if_neg (by omega)).symm) (by first | (rw [h126]; exact ((if_neg (by omega)).trans (if_pos (by omega))).symm) | exact (if_pos (by omega)).symm | exact ((if_neg (by omega)).trans (if_pos (by omega))).symm | exact ((if_neg (by omega)).trans (if_neg (by omega))).symm | exact (if_neg (by omega)).symm) (by first | (rw [h127]; exact (if_pos (by omega)).symm) | exact (if_pos (by omega)).symm | exact ((if_neg (by omega)).trans (if_pos (by omega))).symm | exact ((if_neg (by omega)).trans (if_neg (by omega))).symm | exact (if_neg (by omega)).symm))⟩)
                  · refine xx_iload_n (pc := 99) dX12_shelf_99 4 rfl rfl ?_
                    refine xx_goto (pc := 100) 118 dX12_shelf_100 rfl ?_
                    refine xx_iastN (pc := 118) dX12_shelf_118 sh_130 (by omega) (by decide) ?_
                    refine xx_nw (fun w171 ew171 => ?_)
                    have h127 : w171 127 x = w 127 x := by rw [ew171, wu_o _ _ _ _ (by omega), ew165, wu_o _ _ _ _ (by omega)]
                    refine xx_aload_nP (pc := 119) dX12_shelf_119 1 rfl rfl ?_
                    refine xx_getR (pc := 120) 131 dX12_shelf_120 sh_114 fX12_58_12 rfl rfl (by decide) ?_
                    refine xx_iload_n (pc := 123) dX12_shelf_123 2 rfl rfl ?_
                    refine xx_iload (pc := 124) dX12_shelf_124 0 rfl ?_
                    refine xx_if_eqN (pc := 126) 138 dX12_shelf_126 rfl (by omega) (fun c172 => ?_) (fun c172 => by exfalso; omega)
                    refine xx_iconst (pc := 138) dX12_shelf_138 cc_iconst_0 ?_
                    refine xx_iastN (pc := 139) dX12_shelf_139 sh_131 (by omega) (by decide) ?_
                    refine xx_nw (fun w173 ew173 => ?_)
                    refine xx_iconst (pc := 140) dX12_shelf_140 cc_iconst_1 ?_
                    exact xx_iret (pc := 141) dX12_shelf_141 rfl (rfl) (Nat.le_refl _) (Nat.le_refl _) (ic_ri ⟨by rw [if_pos (by omega)], by rw [if_pos (by omega)]; exact congrArg hn (wu3 (by rw [ew173, ew171, ew165]) (by first | exact (if_pos (by omega)).symm | exact ((if_neg (by omega)).trans (if_pos (by omega))).symm | exact ((if_neg (by omega)).trans (if_neg (by omega))).symm | exact (if_neg (by omega)).symm) (by first | (rw [h126]; exact ((if_neg (by omega)).trans (if_pos (by omega))).symm) | exact (if_pos (by omega)).symm | exact ((if_neg (by omega)).trans (if_pos (by omega))).symm | exact ((if_neg (by omega)).trans (if_neg (by omega))).symm | exact (if_neg (by omega)).symm) (by first | (rw [h127]; exact (if_pos (by omega)).symm) | exact (if_pos (by omega)).symm | exact ((if_neg (by omega)).trans (if_pos (by omega))).symm | exact ((if_neg (by omega)).trans (if_neg (by omega))).symm | exact (if_neg (by omega)).symm))⟩)
              · refine xx_iconst (pc := 59) dX12_shelf_59 cc_iconst_1 ?_
                refine xx_goto (pc := 60) 64 dX12_shelf_60 rfl ?_
                refine xx_istore (L' := [(4, .int (nI 1)), (0, ic_pt E 114), (1, .int (nI i)), (2, .int (nI what)), (3, .int (nI x))]) (pc := 64) dX12_shelf_64 (Nat.le_of_ble_eq_true rfl) rfl ?_
                refine xx_aload_nP (pc := 66) dX12_shelf_66 1 rfl rfl ?_
                refine xx_getR (pc := 67) 129 dX12_shelf_67 sh_114 fX12_52_12 rfl rfl (by decide) ?_
                refine xx_iload_n (pc := 70) dX12_shelf_70 2 rfl rfl ?_
                refine xx_iload_n (pc := 71) dX12_shelf_71 3 rfl rfl ?_
                refine xx_if_neN (pc := 72) 79 dX12_shelf_72 rfl (by omega) (fun c174 => ?_) (fun c174 => ?_)
                · refine xx_iload (pc := 79) dX12_shelf_79 0 rfl ?_
                  refine xx_if_eqN (pc := 81) 88 dX12_shelf_81 rfl (by omega) (fun c175 => by exfalso; omega) (fun c175 => ?_)
                  refine xx_iconst (pc := 84) dX12_shelf_84 cc_iconst_2 ?_
                  refine xx_goto (pc := 85) 89 dX12_shelf_85 rfl ?_
                  refine xx_iastN (pc := 89) dX12_shelf_89 sh_129 (by omega) (by decide) ?_
                  refine xx_nw (fun w176 ew176 => ?_)
                  have h126 : w176 126 x = w 126 x := by rw [ew176, wu_o _ _ _ _ (by omega)]
                  refine xx_aload_nP (pc := 90) dX12_shelf_90 1 rfl rfl ?_
                  refine xx_getR (pc := 91) 130 dX12_shelf_91 sh_114 fX12_55_12 rfl rfl (by decide) ?_
                  refine xx_iload_n (pc := 94) dX12_shelf_94 2 rfl rfl ?_
                  refine xx_iload_n (pc := 95) dX12_shelf_95 3 rfl rfl ?_
                  refine xx_if_neN (pc := 96) 103 dX12_shelf_96 rfl (by omega) (fun c177 => ?_) (fun c177 => ?_)
                  · refine xx_iload (pc := 103) dX12_shelf_103 0 rfl ?_
                    refine xx_if_eqN (pc := 105) 117 dX12_shelf_105 rfl (by omega) (fun c178 => by exfalso; omega) (fun c178 => ?_)
                    refine xx_aload_nP (pc := 108) dX12_shelf_108 1 rfl rfl ?_
                    refine xx_getR (pc := 109) 126 dX12_shelf_109 sh_114 fX12_43_12 rfl rfl (by decide) ?_
                    refine xx_iload_n (pc := 112) dX12_shelf_112 4 rfl rfl ?_
                    refine xx_ialdN (pc := 113) dX12_shelf_113 sh_126 (by omega) (by decide) ?_
                    refine xx_goto (pc := 114) 118 dX12_shelf_114 rfl ?_
                    refine xx_iastN (pc := 118) dX12_shelf_118 sh_130 (by omega) (by decide) ?_
                    refine xx_nw (fun w179 ew179 => ?_)
                    have h127 : w179 127 x = w 127 x := by rw [ew179, wu_o _ _ _ _ (by omega), ew176, wu_o _ _ _ _ (by omega)]
                    refine xx_aload_nP (pc := 119) dX12_shelf_119 1 rfl rfl ?_
                    refine xx_getR (pc := 120) 131 dX12_shelf_120 sh_114 fX12_58_12 rfl rfl (by decide) ?_
                    refine xx_iload_n (pc := 123) dX12_shelf_123 2 rfl rfl ?_
                    refine xx_iload (pc := 124) dX12_shelf_124 0 rfl ?_
                    refine xx_if_eqN (pc := 126) 138 dX12_shelf_126 rfl (by omega) (fun c180 => by exfalso; omega) (fun c180 => ?_)
                    refine xx_aload_nP (pc := 129) dX12_shelf_129 1 rfl rfl ?_
                    refine xx_getR (pc := 130) 127 dX12_shelf_130 sh_114 fX12_46_12 rfl rfl (by decide) ?_
                    refine xx_iload_n (pc := 133) dX12_shelf_133 4 rfl rfl ?_
                    refine xx_ialdN (pc := 134) dX12_shelf_134 sh_127 (by omega) (by decide) ?_
                    refine xx_goto (pc := 135) 139 dX12_shelf_135 rfl ?_
                    refine xx_iastN (pc := 139) dX12_shelf_139 sh_131 (by omega) (by decide) ?_
                    refine xx_nw (fun w181 ew181 => ?_)
                    refine xx_iconst (pc := 140) dX12_shelf_140 cc_iconst_1 ?_
                    exact xx_iret (pc := 141) dX12_shelf_141 rfl (rfl) (Nat.le_refl _) (Nat.le_refl _) (ic_ri ⟨by rw [if_pos (by omega)], by rw [if_pos (by omega)]; exact congrArg hn (wu3 (by rw [ew181, ew179, ew176]) (by first | exact (if_pos (by omega)).symm | exact ((if_neg (by omega)).trans (if_pos (by omega))).symm | exact ((if_neg (by omega)).trans (if_neg (by omega))).symm | exact (if_neg (by omega)).symm) (by first | (rw [h126]; exact ((if_neg (by omega)).trans (if_pos (by omega))).symm) | exact (if_pos (by omega)).symm | exact ((if_neg (by omega)).trans (if_pos (by omega))).symm | exact ((if_neg (by omega)).trans (if_neg (by omega))).symm | exact (if_neg (by omega)).symm) (by first | (rw [h127]; exact (if_pos (by omega)).symm) | exact (if_pos (by omega)).symm | exact ((if_neg (by omega)).trans (if_pos (by omega))).symm | exact ((if_neg (by omega)).trans (if_neg (by omega))).symm | exact (if_neg (by omega)).symm))⟩)
                  · refine xx_iload_n (pc := 99) dX12_shelf_99 4 rfl rfl ?_
                    refine xx_goto (pc := 100) 118 dX12_shelf_100 rfl ?_
                    refine xx_iastN (pc := 118) dX12_shelf_118 sh_130 (by omega) (by decide) ?_
                    refine xx_nw (fun w182 ew182 => ?_)
                    have h127 : w182 127 x = w 127 x := by rw [ew182, wu_o _ _ _ _ (by omega), ew176, wu_o _ _ _ _ (by omega)]
                    refine xx_aload_nP (pc := 119) dX12_shelf_119 1 rfl rfl ?_
                    refine xx_getR (pc := 120) 131 dX12_shelf_120 sh_114 fX12_58_12 rfl rfl (by decide) ?_
                    refine xx_iload_n (pc := 123) dX12_shelf_123 2 rfl rfl ?_
                    refine xx_iload (pc := 124) dX12_shelf_124 0 rfl ?_
                    refine xx_if_eqN (pc := 126) 138 dX12_shelf_126 rfl (by omega) (fun c183 => by exfalso; omega) (fun c183 => ?_)
                    refine xx_aload_nP (pc := 129) dX12_shelf_129 1 rfl rfl ?_
                    refine xx_getR (pc := 130) 127 dX12_shelf_130 sh_114 fX12_46_12 rfl rfl (by decide) ?_
                    refine xx_iload_n (pc := 133) dX12_shelf_133 4 rfl rfl ?_
                    refine xx_ialdN (pc := 134) dX12_shelf_134 sh_127 (by omega) (by decide) ?_
                    refine xx_goto (pc := 135) 139 dX12_shelf_135 rfl ?_
                    refine xx_iastN (pc := 139) dX12_shelf_139 sh_131 (by omega) (by decide) ?_
                    refine xx_nw (fun w184 ew184 => ?_)
                    refine xx_iconst (pc := 140) dX12_shelf_140 cc_iconst_1 ?_
                    exact xx_iret (pc := 141) dX12_shelf_141 rfl (rfl) (Nat.le_refl _) (Nat.le_refl _) (ic_ri ⟨by rw [if_pos (by omega)], by rw [if_pos (by omega)]; exact congrArg hn (wu3 (by rw [ew184, ew182, ew176]) (by first | exact (if_pos (by omega)).symm | exact ((if_neg (by omega)).trans (if_pos (by omega))).symm | exact ((if_neg (by omega)).trans (if_neg (by omega))).symm | exact (if_neg (by omega)).symm) (by first | (rw [h126]; exact ((if_neg (by omega)).trans (if_pos (by omega))).symm) | exact (if_pos (by omega)).symm | exact ((if_neg (by omega)).trans (if_pos (by omega))).symm | exact ((if_neg (by omega)).trans (if_neg (by omega))).symm | exact (if_neg (by omega)).symm) (by first | (rw [h127]; exact (if_pos (by omega)).symm) | exact (if_pos (by omega)).symm | exact ((if_neg (by omega)).trans (if_pos (by omega))).symm | exact ((if_neg (by omega)).trans (if_neg (by omega))).symm | exact (if_neg (by omega)).symm))⟩)
                · refine xx_iconst (pc := 75) dX12_shelf_75 cc_iconst_1 ?_
                  refine xx_goto (pc := 76) 89 dX12_shelf_76 rfl ?_
                  refine xx_iastN (pc := 89) dX12_shelf_89 sh_129 (by omega) (by decide) ?_
                  refine xx_nw (fun w185 ew185 => ?_)
                  have h126 : w185 126 x = w 126 x := by rw [ew185, wu_o _ _ _ _ (by omega)]
                  refine xx_aload_nP (pc := 90) dX12_shelf_90 1 rfl rfl ?_
                  refine xx_getR (pc := 91) 130 dX12_shelf_91 sh_114 fX12_55_12 rfl rfl (by decide) ?_
                  refine xx_iload_n (pc := 94) dX12_shelf_94 2 rfl rfl ?_
                  refine xx_iload_n (pc := 95) dX12_shelf_95 3 rfl rfl ?_
                  refine xx_if_neN (pc := 96) 103 dX12_shelf_96 rfl (by omega) (fun c186 => ?_) (fun c186 => ?_)
                  · refine xx_iload (pc := 103) dX12_shelf_103 0 rfl ?_
                    refine xx_if_eqN (pc := 105) 117 dX12_shelf_105 rfl (by omega) (fun c187 => by exfalso; omega) (fun c187 => ?_)
                    refine xx_aload_nP (pc := 108) dX12_shelf_108 1 rfl rfl ?_
                    refine xx_getR (pc := 109) 126 dX12_shelf_109 sh_114 fX12_43_12 rfl rfl (by decide) ?_
                    refine xx_iload_n (pc := 112) dX12_shelf_112 4 rfl rfl ?_
                    refine xx_ialdN (pc := 113) dX12_shelf_113 sh_126 (by omega) (by decide) ?_
                    refine xx_goto (pc := 114) 118 dX12_shelf_114 rfl ?_
                    refine xx_iastN (pc := 118) dX12_shelf_118 sh_130 (by omega) (by decide) ?_
                    refine xx_nw (fun w188 ew188 => ?_)
                    have h127 : w188 127 x = w 127 x := by rw [ew188, wu_o _ _ _ _ (by omega), ew185, wu_o _ _ _ _ (by omega)]
                    refine xx_aload_nP (pc := 119) dX12_shelf_119 1 rfl rfl ?_
                    refine xx_getR (pc := 120) 131 dX12_shelf_120 sh_114 fX12_58_12 rfl rfl (by decide) ?_
                    refine xx_iload_n (pc := 123) dX12_shelf_123 2 rfl rfl ?_
                    refine xx_iload (pc := 124) dX12_shelf_124 0 rfl ?_
                    refine xx_if_eqN (pc := 126) 138 dX12_shelf_126 rfl (by omega) (fun c189 => by exfalso; omega) (fun c189 => ?_)
                    refine xx_aload_nP (pc := 129) dX12_shelf_129 1 rfl rfl ?_
                    refine xx_getR (pc := 130) 127 dX12_shelf_130 sh_114 fX12_46_12 rfl rfl (by decide) ?_
                    refine xx_iload_n (pc := 133) dX12_shelf_133 4 rfl rfl ?_
                    refine xx_ialdN (pc := 134) dX12_shelf_134 sh_127 (by omega) (by decide) ?_
                    refine xx_goto (pc := 135) 139 dX12_shelf_135 rfl ?_
                    refine xx_iastN (pc := 139) dX12_shelf_139 sh_131 (by omega) (by decide) ?_
                    refine xx_nw (fun w190 ew190 => ?_)
                    refine xx_iconst (pc := 140) dX12_shelf_140 cc_iconst_1 ?_
                    exact xx_iret (pc := 141) dX12_shelf_141 rfl (rfl) (Nat.le_refl _) (Nat.le_refl _) (ic_ri ⟨by rw [if_pos (by omega)], by rw [if_pos (by omega)]; exact congrArg hn (wu3 (by rw [ew190, ew188, ew185]) (by first | exact (if_pos (by omega)).symm | exact ((if_neg (by omega)).trans (if_pos (by omega))).symm | exact ((if_neg (by omega)).trans (if_neg (by omega))).symm | exact (if_neg (by omega)).symm) (by first | (rw [h126]; exact ((if_neg (by omega)).trans (if_pos (by omega))).symm) | exact (if_pos (by omega)).symm | exact ((if_neg (by omega)).trans (if_pos (by omega))).symm | exact ((if_neg (by omega)).trans (if_neg (by omega))).symm | exact (if_neg (by omega)).symm) (by first | (rw [h127]; exact (if_pos (by omega)).symm) | exact (if_pos (by omega)).symm | exact ((if_neg (by omega)).trans (if_pos (by omega))).symm | exact ((if_neg (by omega)).trans (if_neg (by omega))).symm | exact (if_neg (by omega)).symm))⟩)
                  · refine xx_iload_n (pc := 99) dX12_shelf_99 4 rfl rfl ?_
                    refine xx_goto (pc := 100) 118 dX12_shelf_100 rfl ?_
                    refine xx_iastN (pc := 118) dX12_shelf_118 sh_130 (by omega) (by decide) ?_
                    refine xx_nw (fun w191 ew191 => ?_)
                    have h127 : w191 127 x = w 127 x := by rw [ew191, wu_o _ _ _ _ (by omega), ew185, wu_o _ _ _ _ (by omega)]
                    refine xx_aload_nP (pc := 119) dX12_shelf_119 1 rfl rfl ?_
                    refine xx_getR (pc := 120) 131 dX12_shelf_120 sh_114 fX12_58_12 rfl rfl (by decide) ?_
                    refine xx_iload_n (pc := 123) dX12_shelf_123 2 rfl rfl ?_
                    refine xx_iload (pc := 124) dX12_shelf_124 0 rfl ?_
                    refine xx_if_eqN (pc := 126) 138 dX12_shelf_126 rfl (by omega) (fun c192 => by exfalso; omega) (fun c192 => ?_)
                    refine xx_aload_nP (pc := 129) dX12_shelf_129 1 rfl rfl ?_
                    refine xx_getR (pc := 130) 127 dX12_shelf_130 sh_114 fX12_46_12 rfl rfl (by decide) ?_
                    refine xx_iload_n (pc := 133) dX12_shelf_133 4 rfl rfl ?_
                    refine xx_ialdN (pc := 134) dX12_shelf_134 sh_127 (by omega) (by decide) ?_
                    refine xx_goto (pc := 135) 139 dX12_shelf_135 rfl ?_
                    refine xx_iastN (pc := 139) dX12_shelf_139 sh_131 (by omega) (by decide) ?_
                    refine xx_nw (fun w193 ew193 => ?_)
                    refine xx_iconst (pc := 140) dX12_shelf_140 cc_iconst_1 ?_
                    exact xx_iret (pc := 141) dX12_shelf_141 rfl (rfl) (Nat.le_refl _) (Nat.le_refl _) (ic_ri ⟨by rw [if_pos (by omega)], by rw [if_pos (by omega)]; exact congrArg hn (wu3 (by rw [ew193, ew191, ew185]) (by first | exact (if_pos (by omega)).symm | exact ((if_neg (by omega)).trans (if_pos (by omega))).symm | exact ((if_neg (by omega)).trans (if_neg (by omega))).symm | exact (if_neg (by omega)).symm) (by first | (rw [h126]; exact ((if_neg (by omega)).trans (if_pos (by omega))).symm) | exact (if_pos (by omega)).symm | exact ((if_neg (by omega)).trans (if_pos (by omega))).symm | exact ((if_neg (by omega)).trans (if_neg (by omega))).symm | exact (if_neg (by omega)).symm) (by first | (rw [h127]; exact (if_pos (by omega)).symm) | exact (if_pos (by omega)).symm | exact ((if_neg (by omega)).trans (if_pos (by omega))).symm | exact ((if_neg (by omega)).trans (if_neg (by omega))).symm | exact (if_neg (by omega)).symm))⟩)
          · refine xx_iload_n (pc := 36) dX12_shelf_36 3 rfl rfl ?_
            refine xx_callS0 (pc := 37) (st := []) (cM_isSheet (w := w) (a := x) (by omega)) kX12_isSheet sX12_350 dX12_shelf_37 rfl rfl (Nat.le_of_ble_eq_true rfl) ⟨Nat.le_of_ble_eq_true rfl, Nat.le_of_ble_eq_true rfl⟩ ⟨Nat.zero_le _, Nat.zero_le _⟩ (ic_ke ?_)
            refine xx_if_neB (pc := 40) 45 dX12_shelf_40 rfl (fun c194 => ?_) (fun c194 => ?_)
            · refine xx_iload_n (pc := 45) dX12_shelf_45 2 rfl rfl ?_
              refine xx_iconst (pc := 46) dX12_shelf_46 cc_iconst_1 ?_
              refine xx_icmp_neN (pc := 47) 63 dX12_shelf_47 rfl (by omega) (by omega) (fun c195 => ?_) (fun c195 => ?_)
              · refine xx_iconst (pc := 63) dX12_shelf_63 cc_iconst_0 ?_
                refine xx_istore (L' := [(4, .int (nI 0)), (0, ic_pt E 114), (1, .int (nI i)), (2, .int (nI what)), (3, .int (nI x))]) (pc := 64) dX12_shelf_64 (Nat.le_of_ble_eq_true rfl) rfl ?_
                refine xx_aload_nP (pc := 66) dX12_shelf_66 1 rfl rfl ?_
                refine xx_getR (pc := 67) 129 dX12_shelf_67 sh_114 fX12_52_12 rfl rfl (by decide) ?_
                refine xx_iload_n (pc := 70) dX12_shelf_70 2 rfl rfl ?_
                refine xx_iload_n (pc := 71) dX12_shelf_71 3 rfl rfl ?_
                refine xx_if_neN (pc := 72) 79 dX12_shelf_72 rfl (by omega) (fun c196 => ?_) (fun c196 => ?_)
                · refine xx_iload (pc := 79) dX12_shelf_79 0 rfl ?_
                  refine xx_if_eqN (pc := 81) 88 dX12_shelf_81 rfl (by omega) (fun c197 => ?_) (fun c197 => by exfalso; omega)
                  refine xx_iconst (pc := 88) dX12_shelf_88 cc_iconst_0 ?_
                  refine xx_iastN (pc := 89) dX12_shelf_89 sh_129 (by omega) (by decide) ?_
                  refine xx_nw (fun w198 ew198 => ?_)
                  have h126 : w198 126 x = w 126 x := by rw [ew198, wu_o _ _ _ _ (by omega)]
                  refine xx_aload_nP (pc := 90) dX12_shelf_90 1 rfl rfl ?_
                  refine xx_getR (pc := 91) 130 dX12_shelf_91 sh_114 fX12_55_12 rfl rfl (by decide) ?_
                  refine xx_iload_n (pc := 94) dX12_shelf_94 2 rfl rfl ?_
                  refine xx_iload_n (pc := 95) dX12_shelf_95 3 rfl rfl ?_
                  refine xx_if_neN (pc := 96) 103 dX12_shelf_96 rfl (by omega) (fun c199 => ?_) (fun c199 => ?_)
                  · refine xx_iload (pc := 103) dX12_shelf_103 0 rfl ?_
                    refine xx_if_eqN (pc := 105) 117 dX12_shelf_105 rfl (by omega) (fun c200 => ?_) (fun c200 => by exfalso; omega)
                    refine xx_iconst (pc := 117) dX12_shelf_117 cc_iconst_0 ?_
                    refine xx_iastN (pc := 118) dX12_shelf_118 sh_130 (by omega) (by decide) ?_
                    refine xx_nw (fun w201 ew201 => ?_)
                    have h127 : w201 127 x = w 127 x := by rw [ew201, wu_o _ _ _ _ (by omega), ew198, wu_o _ _ _ _ (by omega)]
                    refine xx_aload_nP (pc := 119) dX12_shelf_119 1 rfl rfl ?_
                    refine xx_getR (pc := 120) 131 dX12_shelf_120 sh_114 fX12_58_12 rfl rfl (by decide) ?_
                    refine xx_iload_n (pc := 123) dX12_shelf_123 2 rfl rfl ?_
                    refine xx_iload (pc := 124) dX12_shelf_124 0 rfl ?_
                    refine xx_if_eqN (pc := 126) 138 dX12_shelf_126 rfl (by omega) (fun c202 => ?_) (fun c202 => by exfalso; omega)
                    refine xx_iconst (pc := 138) dX12_shelf_138 cc_iconst_0 ?_
                    refine xx_iastN (pc := 139) dX12_shelf_139 sh_131 (by omega) (by decide) ?_
                    refine xx_nw (fun w203 ew203 => ?_)
                    refine xx_iconst (pc := 140) dX12_shelf_140 cc_iconst_1 ?_
                    exact xx_iret (pc := 141) dX12_shelf_141 rfl (rfl) (Nat.le_refl _) (Nat.le_refl _) (ic_ri ⟨by rw [if_pos (by omega)], by rw [if_pos (by omega)]; exact congrArg hn (wu3 (by rw [ew203, ew201, ew198]) (by first | exact (if_pos (by omega)).symm | exact ((if_neg (by omega)).trans (if_pos (by omega))).symm | exact ((if_neg (by omega)).trans (if_neg (by omega))).symm | exact (if_neg (by omega)).symm) (by first | (rw [h126]; exact ((if_neg (by omega)).trans (if_pos (by omega))).symm) | exact (if_pos (by omega)).symm | exact ((if_neg (by omega)).trans (if_pos (by omega))).symm | exact ((if_neg (by omega)).trans (if_neg (by omega))).symm | exact (if_neg (by omega)).symm) (by first | (rw [h127]; exact (if_pos (by omega)).symm) | exact (if_pos (by omega)).symm | exact ((if_neg (by omega)).trans (if_pos (by omega))).symm | exact ((if_neg (by omega)).trans (if_neg (by omega))).symm | exact (if_neg (by omega)).symm))⟩)
                  · refine xx_iload_n (pc := 99) dX12_shelf_99 4 rfl rfl ?_
                    refine xx_goto (pc := 100) 118 dX12_shelf_100 rfl ?_
                    refine xx_iastN (pc := 118) dX12_shelf_118 sh_130 (by omega) (by decide) ?_
                    refine xx_nw (fun w204 ew204 => ?_)
                    have h127 : w204 127 x = w 127 x := by rw [ew204, wu_o _ _ _ _ (by omega), ew198, wu_o _ _ _ _ (by omega)]
                    refine xx_aload_nP (pc := 119) dX12_shelf_119 1 rfl rfl ?_
                    refine xx_getR (pc := 120) 131 dX12_shelf_120 sh_114 fX12_58_12 rfl rfl (by decide) ?_
                    refine xx_iload_n (pc := 123) dX12_shelf_123 2 rfl rfl ?_
                    refine xx_iload (pc := 124) dX12_shelf_124 0 rfl ?_
                    refine xx_if_eqN (pc := 126) 138 dX12_shelf_126 rfl (by omega) (fun c205 => ?_) (fun c205 => by exfalso; omega)
                    refine xx_iconst (pc := 138) dX12_shelf_138 cc_iconst_0 ?_
                    refine xx_iastN (pc := 139) dX12_shelf_139 sh_131 (by omega) (by decide) ?_
                    refine xx_nw (fun w206 ew206 => ?_)
                    refine xx_iconst (pc := 140) dX12_shelf_140 cc_iconst_1 ?_
                    exact xx_iret (pc := 141) dX12_shelf_141 rfl (rfl) (Nat.le_refl _) (Nat.le_refl _) (ic_ri ⟨by rw [if_pos (by omega)], by rw [if_pos (by omega)]; exact congrArg hn (wu3 (by rw [ew206, ew204, ew198]) (by first | exact (if_pos (by omega)).symm | exact ((if_neg (by omega)).trans (if_pos (by omega))).symm | exact ((if_neg (by omega)).trans (if_neg (by omega))).symm | exact (if_neg (by omega)).symm) (by first | (rw [h126]; exact ((if_neg (by omega)).trans (if_pos (by omega))).symm) | exact (if_pos (by omega)).symm | exact ((if_neg (by omega)).trans (if_pos (by omega))).symm | exact ((if_neg (by omega)).trans (if_neg (by omega))).symm | exact (if_neg (by omega)).symm) (by first | (rw [h127]; exact (if_pos (by omega)).symm) | exact (if_pos (by omega)).symm | exact ((if_neg (by omega)).trans (if_pos (by omega))).symm | exact ((if_neg (by omega)).trans (if_neg (by omega))).symm | exact (if_neg (by omega)).symm))⟩)
                · refine xx_iconst (pc := 75) dX12_shelf_75 cc_iconst_1 ?_
                  refine xx_goto (pc := 76) 89 dX12_shelf_76 rfl ?_
                  refine xx_iastN (pc := 89) dX12_shelf_89 sh_129 (by omega) (by decide) ?_
                  refine xx_nw (fun w207 ew207 => ?_)
                  have h126 : w207 126 x = w 126 x := by rw [ew207, wu_o _ _ _ _ (by omega)]
                  refine xx_aload_nP (pc := 90) dX12_shelf_90 1 rfl rfl ?_
                  refine xx_getR (pc := 91) 130 dX12_shelf_91 sh_114 fX12_55_12 rfl rfl (by decide) ?_
                  refine xx_iload_n (pc := 94) dX12_shelf_94 2 rfl rfl ?_
                  refine xx_iload_n (pc := 95) dX12_shelf_95 3 rfl rfl ?_
                  refine xx_if_neN (pc := 96) 103 dX12_shelf_96 rfl (by omega) (fun c208 => ?_) (fun c208 => ?_)
                  · refine xx_iload (pc := 103) dX12_shelf_103 0 rfl ?_
                    refine xx_if_eqN (pc := 105) 117 dX12_shelf_105 rfl (by omega) (fun c209 => ?_) (fun c209 => by exfalso; omega)
                    refine xx_iconst (pc := 117) dX12_shelf_117 cc_iconst_0 ?_
                    refine xx_iastN (pc := 118) dX12_shelf_118 sh_130 (by omega) (by decide) ?_
                    refine xx_nw (fun w210 ew210 => ?_)
                    have h127 : w210 127 x = w 127 x := by rw [ew210, wu_o _ _ _ _ (by omega), ew207, wu_o _ _ _ _ (by omega)]
                    refine xx_aload_nP (pc := 119) dX12_shelf_119 1 rfl rfl ?_
                    refine xx_getR (pc := 120) 131 dX12_shelf_120 sh_114 fX12_58_12 rfl rfl (by decide) ?_
                    refine xx_iload_n (pc := 123) dX12_shelf_123 2 rfl rfl ?_
                    refine xx_iload (pc := 124) dX12_shelf_124 0 rfl ?_
                    refine xx_if_eqN (pc := 126) 138 dX12_shelf_126 rfl (by omega) (fun c211 => ?_) (fun c211 => by exfalso; omega)
                    refine xx_iconst (pc := 138) dX12_shelf_138 cc_iconst_0 ?_
                    refine xx_iastN (pc := 139) dX12_shelf_139 sh_131 (by omega) (by decide) ?_
                    refine xx_nw (fun w212 ew212 => ?_)
                    refine xx_iconst (pc := 140) dX12_shelf_140 cc_iconst_1 ?_
                    exact xx_iret (pc := 141) dX12_shelf_141 rfl (rfl) (Nat.le_refl _) (Nat.le_refl _) (ic_ri ⟨by rw [if_pos (by omega)], by rw [if_pos (by omega)]; exact congrArg hn (wu3 (by rw [ew212, ew210, ew207]) (by first | exact (if_pos (by omega)).symm | exact ((if_neg (by omega)).trans (if_pos (by omega))).symm | exact ((if_neg (by omega)).trans (if_neg (by omega))).symm | exact (if_neg (by omega)).symm) (by first | (rw [h126]; exact ((if_neg (by omega)).trans (if_pos (by omega))).symm) | exact (if_pos (by omega)).symm | exact ((if_neg (by omega)).trans (if_pos (by omega))).symm | exact ((if_neg (by omega)).trans (if_neg (by omega))).symm | exact (if_neg (by omega)).symm) (by first | (rw [h127]; exact (if_pos (by omega)).symm) | exact (if_pos (by omega)).symm | exact ((if_neg (by omega)).trans (if_pos (by omega))).symm | exact ((if_neg (by omega)).trans (if_neg (by omega))).symm | exact (if_neg (by omega)).symm))⟩)
                  · refine xx_iload_n (pc := 99) dX12_shelf_99 4 rfl rfl ?_
                    refine xx_goto (pc := 100) 118 dX12_shelf_100 rfl ?_
                    refine xx_iastN (pc := 118) dX12_shelf_118 sh_130 (by omega) (by decide) ?_
                    refine xx_nw (fun w213 ew213 => ?_)
                    have h127 : w213 127 x = w 127 x := by rw [ew213, wu_o _ _ _ _ (by omega), ew207, wu_o _ _ _ _ (by omega)]
                    refine xx_aload_nP (pc := 119) dX12_shelf_119 1 rfl rfl ?_
                    refine xx_getR (pc := 120) 131 dX12_shelf_120 sh_114 fX12_58_12 rfl rfl (by decide) ?_
                    refine xx_iload_n (pc := 123) dX12_shelf_123 2 rfl rfl ?_
                    refine xx_iload (pc := 124) dX12_shelf_124 0 rfl ?_
                    refine xx_if_eqN (pc := 126) 138 dX12_shelf_126 rfl (by omega) (fun c214 => ?_) (fun c214 => by exfalso; omega)
                    refine xx_iconst (pc := 138) dX12_shelf_138 cc_iconst_0 ?_
                    refine xx_iastN (pc := 139) dX12_shelf_139 sh_131 (by omega) (by decide) ?_
                    refine xx_nw (fun w215 ew215 => ?_)
                    refine xx_iconst (pc := 140) dX12_shelf_140 cc_iconst_1 ?_
                    exact xx_iret (pc := 141) dX12_shelf_141 rfl (rfl) (Nat.le_refl _) (Nat.le_refl _) (ic_ri ⟨by rw [if_pos (by omega)], by rw [if_pos (by omega)]; exact congrArg hn (wu3 (by rw [ew215, ew213, ew207]) (by first | exact (if_pos (by omega)).symm | exact ((if_neg (by omega)).trans (if_pos (by omega))).symm | exact ((if_neg (by omega)).trans (if_neg (by omega))).symm | exact (if_neg (by omega)).symm) (by first | (rw [h126]; exact ((if_neg (by omega)).trans (if_pos (by omega))).symm) | exact (if_pos (by omega)).symm | exact ((if_neg (by omega)).trans (if_pos (by omega))).symm | exact ((if_neg (by omega)).trans (if_neg (by omega))).symm | exact (if_neg (by omega)).symm) (by first | (rw [h127]; exact (if_pos (by omega)).symm) | exact (if_pos (by omega)).symm | exact ((if_neg (by omega)).trans (if_pos (by omega))).symm | exact ((if_neg (by omega)).trans (if_neg (by omega))).symm | exact (if_neg (by omega)).symm))⟩)
              · refine xx_aload_nP (pc := 50) dX12_shelf_50 0 rfl rfl ?_
                refine xx_getR (pc := 51) 126 dX12_shelf_51 sh_114 fX12_43_12 rfl rfl (by decide) ?_
                refine xx_iload_n (pc := 54) dX12_shelf_54 3 rfl rfl ?_
                refine xx_ialdN (pc := 55) dX12_shelf_55 sh_126 (by omega) (by decide) ?_
                refine xx_if_ltS (pc := 56) 63 dX12_shelf_56 rfl (by have := hs (by omega); omega) (fun c216 => ?_) (fun c216 => ?_)
                · refine xx_iconst (pc := 63) dX12_shelf_63 cc_iconst_0 ?_
                  refine xx_istore (L' := [(4, .int (nI 0)), (0, ic_pt E 114), (1, .int (nI i)), (2, .int (nI what)), (3, .int (nI x))]) (pc := 64) dX12_shelf_64 (Nat.le_of_ble_eq_true rfl) rfl ?_
                  refine xx_aload_nP (pc := 66) dX12_shelf_66 1 rfl rfl ?_
                  refine xx_getR (pc := 67) 129 dX12_shelf_67 sh_114 fX12_52_12 rfl rfl (by decide) ?_
                  refine xx_iload_n (pc := 70) dX12_shelf_70 2 rfl rfl ?_
                  refine xx_iload_n (pc := 71) dX12_shelf_71 3 rfl rfl ?_
                  refine xx_if_neN (pc := 72) 79 dX12_shelf_72 rfl (by omega) (fun c217 => ?_) (fun c217 => ?_)
                  · refine xx_iload (pc := 79) dX12_shelf_79 0 rfl ?_
                    refine xx_if_eqN (pc := 81) 88 dX12_shelf_81 rfl (by omega) (fun c218 => ?_) (fun c218 => by exfalso; omega)
                    refine xx_iconst (pc := 88) dX12_shelf_88 cc_iconst_0 ?_
                    refine xx_iastN (pc := 89) dX12_shelf_89 sh_129 (by omega) (by decide) ?_
                    refine xx_nw (fun w219 ew219 => ?_)
                    have h126 : w219 126 x = w 126 x := by rw [ew219, wu_o _ _ _ _ (by omega)]
                    refine xx_aload_nP (pc := 90) dX12_shelf_90 1 rfl rfl ?_
                    refine xx_getR (pc := 91) 130 dX12_shelf_91 sh_114 fX12_55_12 rfl rfl (by decide) ?_
                    refine xx_iload_n (pc := 94) dX12_shelf_94 2 rfl rfl ?_
                    refine xx_iload_n (pc := 95) dX12_shelf_95 3 rfl rfl ?_
                    refine xx_if_neN (pc := 96) 103 dX12_shelf_96 rfl (by omega) (fun c220 => ?_) (fun c220 => ?_)
                    · refine xx_iload (pc := 103) dX12_shelf_103 0 rfl ?_
                      refine xx_if_eqN (pc := 105) 117 dX12_shelf_105 rfl (by omega) (fun c221 => ?_) (fun c221 => by exfalso; omega)
                      refine xx_iconst (pc := 117) dX12_shelf_117 cc_iconst_0 ?_
                      refine xx_iastN (pc := 118) dX12_shelf_118 sh_130 (by omega) (by decide) ?_
                      refine xx_nw (fun w222 ew222 => ?_)
                      have h127 : w222 127 x = w 127 x := by rw [ew222, wu_o _ _ _ _ (by omega), ew219, wu_o _ _ _ _ (by omega)]
                      refine xx_aload_nP (pc := 119) dX12_shelf_119 1 rfl rfl ?_
                      refine xx_getR (pc := 120) 131 dX12_shelf_120 sh_114 fX12_58_12 rfl rfl (by decide) ?_
                      refine xx_iload_n (pc := 123) dX12_shelf_123 2 rfl rfl ?_
                      refine xx_iload (pc := 124) dX12_shelf_124 0 rfl ?_
                      refine xx_if_eqN (pc := 126) 138 dX12_shelf_126 rfl (by omega) (fun c223 => ?_) (fun c223 => by exfalso; omega)
                      refine xx_iconst (pc := 138) dX12_shelf_138 cc_iconst_0 ?_
                      refine xx_iastN (pc := 139) dX12_shelf_139 sh_131 (by omega) (by decide) ?_
                      refine xx_nw (fun w224 ew224 => ?_)
                      refine xx_iconst (pc := 140) dX12_shelf_140 cc_iconst_1 ?_
                      exact xx_iret (pc := 141) dX12_shelf_141 rfl (rfl) (Nat.le_refl _) (Nat.le_refl _) (ic_ri ⟨by rw [if_pos (by omega)], by rw [if_pos (by omega)]; exact congrArg hn (wu3 (by rw [ew224, ew222, ew219]) (by first | exact (if_pos (by omega)).symm | exact ((if_neg (by omega)).trans (if_pos (by omega))).symm | exact ((if_neg (by omega)).trans (if_neg (by omega))).symm | exact (if_neg (by omega)).symm) (by first | (rw [h126]; exact ((if_neg (by omega)).trans (if_pos (by omega))).symm) | exact (if_pos (by omega)).symm | exact ((if_neg (by omega)).trans (if_pos (by omega))).symm | exact ((if_neg (by omega)).trans (if_neg (by omega))).symm | exact (if_neg (by omega)).symm) (by first | (rw [h127]; exact (if_pos (by omega)).symm) | exact (if_pos (by omega)).symm | exact ((if_neg (by omega)).trans (if_pos (by omega))).symm | exact ((if_neg (by omega)).trans (if_neg (by omega))).symm | exact (if_neg (by omega)).symm))⟩)
                    · refine xx_iload_n (pc := 99) dX12_shelf_99 4 rfl rfl ?_
                      refine xx_goto (pc := 100) 118 dX12_shelf_100 rfl ?_
                      refine xx_iastN (pc := 118) dX12_shelf_118 sh_130 (by omega) (by decide) ?_
                      refine xx_nw (fun w225 ew225 => ?_)
                      have h127 : w225 127 x = w 127 x := by rw [ew225, wu_o _ _ _ _ (by omega), ew219, wu_o _ _ _ _ (by omega)]
                      refine xx_aload_nP (pc := 119) dX12_shelf_119 1 rfl rfl ?_
                      refine xx_getR (pc := 120) 131 dX12_shelf_120 sh_114 fX12_58_12 rfl rfl (by decide) ?_
                      refine xx_iload_n (pc := 123) dX12_shelf_123 2 rfl rfl ?_
                      refine xx_iload (pc := 124) dX12_shelf_124 0 rfl ?_
                      refine xx_if_eqN (pc := 126) 138 dX12_shelf_126 rfl (by omega) (fun c226 => ?_) (fun c226 => by exfalso; omega)
                      refine xx_iconst (pc := 138) dX12_shelf_138 cc_iconst_0 ?_
                      refine xx_iastN (pc := 139) dX12_shelf_139 sh_131 (by omega) (by decide) ?_
                      refine xx_nw (fun w227 ew227 => ?_)
                      refine xx_iconst (pc := 140) dX12_shelf_140 cc_iconst_1 ?_
                      exact xx_iret (pc := 141) dX12_shelf_141 rfl (rfl) (Nat.le_refl _) (Nat.le_refl _) (ic_ri ⟨by rw [if_pos (by omega)], by rw [if_pos (by omega)]; exact congrArg hn (wu3 (by rw [ew227, ew225, ew219]) (by first | exact (if_pos (by omega)).symm | exact ((if_neg (by omega)).trans (if_pos (by omega))).symm | exact ((if_neg (by omega)).trans (if_neg (by omega))).symm | exact (if_neg (by omega)).symm) (by first | (rw [h126]; exact ((if_neg (by omega)).trans (if_pos (by omega))).symm) | exact (if_pos (by omega)).symm | exact ((if_neg (by omega)).trans (if_pos (by omega))).symm | exact ((if_neg (by omega)).trans (if_neg (by omega))).symm | exact (if_neg (by omega)).symm) (by first | (rw [h127]; exact (if_pos (by omega)).symm) | exact (if_pos (by omega)).symm | exact ((if_neg (by omega)).trans (if_pos (by omega))).symm | exact ((if_neg (by omega)).trans (if_neg (by omega))).symm | exact (if_neg (by omega)).symm))⟩)
                  · refine xx_iconst (pc := 75) dX12_shelf_75 cc_iconst_1 ?_
                    refine xx_goto (pc := 76) 89 dX12_shelf_76 rfl ?_
                    refine xx_iastN (pc := 89) dX12_shelf_89 sh_129 (by omega) (by decide) ?_
                    refine xx_nw (fun w228 ew228 => ?_)
                    have h126 : w228 126 x = w 126 x := by rw [ew228, wu_o _ _ _ _ (by omega)]
                    refine xx_aload_nP (pc := 90) dX12_shelf_90 1 rfl rfl ?_
                    refine xx_getR (pc := 91) 130 dX12_shelf_91 sh_114 fX12_55_12 rfl rfl (by decide) ?_
                    refine xx_iload_n (pc := 94) dX12_shelf_94 2 rfl rfl ?_
                    refine xx_iload_n (pc := 95) dX12_shelf_95 3 rfl rfl ?_
                    refine xx_if_neN (pc := 96) 103 dX12_shelf_96 rfl (by omega) (fun c229 => ?_) (fun c229 => ?_)
                    · refine xx_iload (pc := 103) dX12_shelf_103 0 rfl ?_
                      refine xx_if_eqN (pc := 105) 117 dX12_shelf_105 rfl (by omega) (fun c230 => ?_) (fun c230 => by exfalso; omega)
                      refine xx_iconst (pc := 117) dX12_shelf_117 cc_iconst_0 ?_
                      refine xx_iastN (pc := 118) dX12_shelf_118 sh_130 (by omega) (by decide) ?_
                      refine xx_nw (fun w231 ew231 => ?_)
                      have h127 : w231 127 x = w 127 x := by rw [ew231, wu_o _ _ _ _ (by omega), ew228, wu_o _ _ _ _ (by omega)]
                      refine xx_aload_nP (pc := 119) dX12_shelf_119 1 rfl rfl ?_
                      refine xx_getR (pc := 120) 131 dX12_shelf_120 sh_114 fX12_58_12 rfl rfl (by decide) ?_
                      refine xx_iload_n (pc := 123) dX12_shelf_123 2 rfl rfl ?_
                      refine xx_iload (pc := 124) dX12_shelf_124 0 rfl ?_
                      refine xx_if_eqN (pc := 126) 138 dX12_shelf_126 rfl (by omega) (fun c232 => ?_) (fun c232 => by exfalso; omega)
                      refine xx_iconst (pc := 138) dX12_shelf_138 cc_iconst_0 ?_
                      refine xx_iastN (pc := 139) dX12_shelf_139 sh_131 (by omega) (by decide) ?_
                      refine xx_nw (fun w233 ew233 => ?_)
                      refine xx_iconst (pc := 140) dX12_shelf_140 cc_iconst_1 ?_
                      exact xx_iret (pc := 141) dX12_shelf_141 rfl (rfl) (Nat.le_refl _) (Nat.le_refl _) (ic_ri ⟨by rw [if_pos (by omega)], by rw [if_pos (by omega)]; exact congrArg hn (wu3 (by rw [ew233, ew231, ew228]) (by first | exact (if_pos (by omega)).symm | exact ((if_neg (by omega)).trans (if_pos (by omega))).symm | exact ((if_neg (by omega)).trans (if_neg (by omega))).symm | exact (if_neg (by omega)).symm) (by first | (rw [h126]; exact ((if_neg (by omega)).trans (if_pos (by omega))).symm) | exact (if_pos (by omega)).symm | exact ((if_neg (by omega)).trans (if_pos (by omega))).symm | exact ((if_neg (by omega)).trans (if_neg (by omega))).symm | exact (if_neg (by omega)).symm) (by first | (rw [h127]; exact (if_pos (by omega)).symm) | exact (if_pos (by omega)).symm | exact ((if_neg (by omega)).trans (if_pos (by omega))).symm | exact ((if_neg (by omega)).trans (if_neg (by omega))).symm | exact (if_neg (by omega)).symm))⟩)
                    · refine xx_iload_n (pc := 99) dX12_shelf_99 4 rfl rfl ?_
                      refine xx_goto (pc := 100) 118 dX12_shelf_100 rfl ?_
                      refine xx_iastN (pc := 118) dX12_shelf_118 sh_130 (by omega) (by decide) ?_
                      refine xx_nw (fun w234 ew234 => ?_)
                      have h127 : w234 127 x = w 127 x := by rw [ew234, wu_o _ _ _ _ (by omega), ew228, wu_o _ _ _ _ (by omega)]
                      refine xx_aload_nP (pc := 119) dX12_shelf_119 1 rfl rfl ?_
                      refine xx_getR (pc := 120) 131 dX12_shelf_120 sh_114 fX12_58_12 rfl rfl (by decide) ?_
                      refine xx_iload_n (pc := 123) dX12_shelf_123 2 rfl rfl ?_
                      refine xx_iload (pc := 124) dX12_shelf_124 0 rfl ?_
                      refine xx_if_eqN (pc := 126) 138 dX12_shelf_126 rfl (by omega) (fun c235 => ?_) (fun c235 => by exfalso; omega)
                      refine xx_iconst (pc := 138) dX12_shelf_138 cc_iconst_0 ?_
                      refine xx_iastN (pc := 139) dX12_shelf_139 sh_131 (by omega) (by decide) ?_
                      refine xx_nw (fun w236 ew236 => ?_)
                      refine xx_iconst (pc := 140) dX12_shelf_140 cc_iconst_1 ?_
                      exact xx_iret (pc := 141) dX12_shelf_141 rfl (rfl) (Nat.le_refl _) (Nat.le_refl _) (ic_ri ⟨by rw [if_pos (by omega)], by rw [if_pos (by omega)]; exact congrArg hn (wu3 (by rw [ew236, ew234, ew228]) (by first | exact (if_pos (by omega)).symm | exact ((if_neg (by omega)).trans (if_pos (by omega))).symm | exact ((if_neg (by omega)).trans (if_neg (by omega))).symm | exact (if_neg (by omega)).symm) (by first | (rw [h126]; exact ((if_neg (by omega)).trans (if_pos (by omega))).symm) | exact (if_pos (by omega)).symm | exact ((if_neg (by omega)).trans (if_pos (by omega))).symm | exact ((if_neg (by omega)).trans (if_neg (by omega))).symm | exact (if_neg (by omega)).symm) (by first | (rw [h127]; exact (if_pos (by omega)).symm) | exact (if_pos (by omega)).symm | exact ((if_neg (by omega)).trans (if_pos (by omega))).symm | exact ((if_neg (by omega)).trans (if_neg (by omega))).symm | exact (if_neg (by omega)).symm))⟩)
                · refine xx_iconst (pc := 59) dX12_shelf_59 cc_iconst_1 ?_
                  refine xx_goto (pc := 60) 64 dX12_shelf_60 rfl ?_
                  refine xx_istore (L' := [(4, .int (nI 1)), (0, ic_pt E 114), (1, .int (nI i)), (2, .int (nI what)), (3, .int (nI x))]) (pc := 64) dX12_shelf_64 (Nat.le_of_ble_eq_true rfl) rfl ?_
                  refine xx_aload_nP (pc := 66) dX12_shelf_66 1 rfl rfl ?_
                  refine xx_getR (pc := 67) 129 dX12_shelf_67 sh_114 fX12_52_12 rfl rfl (by decide) ?_
                  refine xx_iload_n (pc := 70) dX12_shelf_70 2 rfl rfl ?_
                  refine xx_iload_n (pc := 71) dX12_shelf_71 3 rfl rfl ?_
                  refine xx_if_neN (pc := 72) 79 dX12_shelf_72 rfl (by omega) (fun c237 => ?_) (fun c237 => ?_)
                  · refine xx_iload (pc := 79) dX12_shelf_79 0 rfl ?_
                    refine xx_if_eqN (pc := 81) 88 dX12_shelf_81 rfl (by omega) (fun c238 => by exfalso; omega) (fun c238 => ?_)
                    refine xx_iconst (pc := 84) dX12_shelf_84 cc_iconst_2 ?_
                    refine xx_goto (pc := 85) 89 dX12_shelf_85 rfl ?_
                    refine xx_iastN (pc := 89) dX12_shelf_89 sh_129 (by omega) (by decide) ?_
                    refine xx_nw (fun w239 ew239 => ?_)
                    have h126 : w239 126 x = w 126 x := by rw [ew239, wu_o _ _ _ _ (by omega)]
                    refine xx_aload_nP (pc := 90) dX12_shelf_90 1 rfl rfl ?_
                    refine xx_getR (pc := 91) 130 dX12_shelf_91 sh_114 fX12_55_12 rfl rfl (by decide) ?_
                    refine xx_iload_n (pc := 94) dX12_shelf_94 2 rfl rfl ?_
                    refine xx_iload_n (pc := 95) dX12_shelf_95 3 rfl rfl ?_
                    refine xx_if_neN (pc := 96) 103 dX12_shelf_96 rfl (by omega) (fun c240 => ?_) (fun c240 => ?_)
                    · refine xx_iload (pc := 103) dX12_shelf_103 0 rfl ?_
                      refine xx_if_eqN (pc := 105) 117 dX12_shelf_105 rfl (by omega) (fun c241 => by exfalso; omega) (fun c241 => ?_)
                      refine xx_aload_nP (pc := 108) dX12_shelf_108 1 rfl rfl ?_
                      refine xx_getR (pc := 109) 126 dX12_shelf_109 sh_114 fX12_43_12 rfl rfl (by decide) ?_
                      refine xx_iload_n (pc := 112) dX12_shelf_112 4 rfl rfl ?_
                      refine xx_ialdN (pc := 113) dX12_shelf_113 sh_126 (by omega) (by decide) ?_
                      refine xx_goto (pc := 114) 118 dX12_shelf_114 rfl ?_
                      refine xx_iastN (pc := 118) dX12_shelf_118 sh_130 (by omega) (by decide) ?_
                      refine xx_nw (fun w242 ew242 => ?_)
                      have h127 : w242 127 x = w 127 x := by rw [ew242, wu_o _ _ _ _ (by omega), ew239, wu_o _ _ _ _ (by omega)]
                      refine xx_aload_nP (pc := 119) dX12_shelf_119 1 rfl rfl ?_
                      refine xx_getR (pc := 120) 131 dX12_shelf_120 sh_114 fX12_58_12 rfl rfl (by decide) ?_
                      refine xx_iload_n (pc := 123) dX12_shelf_123 2 rfl rfl ?_
                      refine xx_iload (pc := 124) dX12_shelf_124 0 rfl ?_
                      refine xx_if_eqN (pc := 126) 138 dX12_shelf_126 rfl (by omega) (fun c243 => by exfalso; omega) (fun c243 => ?_)
                      refine xx_aload_nP (pc := 129) dX12_shelf_129 1 rfl rfl ?_
                      refine xx_getR (pc := 130) 127 dX12_shelf_130 sh_114 fX12_46_12 rfl rfl (by decide) ?_
                      refine xx_iload_n (pc := 133) dX12_shelf_133 4 rfl rfl ?_
                      refine xx_ialdN (pc := 134) dX12_shelf_134 sh_127 (by omega) (by decide) ?_
                      refine xx_goto (pc := 135) 139 dX12_shelf_135 rfl ?_
                      refine xx_iastN (pc := 139) dX12_shelf_139 sh_131 (by omega) (by decide) ?_
                      refine xx_nw (fun w244 ew244 => ?_)
                      refine xx_iconst (pc := 140) dX12_shelf_140 cc_iconst_1 ?_
                      exact xx_iret (pc := 141) dX12_shelf_141 rfl (rfl) (Nat.le_refl _) (Nat.le_refl _) (ic_ri ⟨by rw [if_pos (by omega)], by rw [if_pos (by omega)]; exact congrArg hn (wu3 (by rw [ew244, ew242, ew239]) (by first | exact (if_pos (by omega)).symm | exact ((if_neg (by omega)).trans (if_pos (by omega))).symm | exact ((if_neg (by omega)).trans (if_neg (by omega))).symm | exact (if_neg (by omega)).symm) (by first | (rw [h126]; exact ((if_neg (by omega)).trans (if_pos (by omega))).symm) | exact (if_pos (by omega)).symm | exact ((if_neg (by omega)).trans (if_pos (by omega))).symm | exact ((if_neg (by omega)).trans (if_neg (by omega))).symm | exact (if_neg (by omega)).symm) (by first | (rw [h127]; exact (if_pos (by omega)).symm) | exact (if_pos (by omega)).symm | exact ((if_neg (by omega)).trans (if_pos (by omega))).symm | exact ((if_neg (by omega)).trans (if_neg (by omega))).symm | exact (if_neg (by omega)).symm))⟩)
                    · refine xx_iload_n (pc := 99) dX12_shelf_99 4 rfl rfl ?_
                      refine xx_goto (pc := 100) 118 dX12_shelf_100 rfl ?_
                      refine xx_iastN (pc := 118) dX12_shelf_118 sh_130 (by omega) (by decide) ?_
                      refine xx_nw (fun w245 ew245 => ?_)
                      have h127 : w245 127 x = w 127 x := by rw [ew245, wu_o _ _ _ _ (by omega), ew239, wu_o _ _ _ _ (by omega)]
                      refine xx_aload_nP (pc := 119) dX12_shelf_119 1 rfl rfl ?_
                      refine xx_getR (pc := 120) 131 dX12_shelf_120 sh_114 fX12_58_12 rfl rfl (by decide) ?_
                      refine xx_iload_n (pc := 123) dX12_shelf_123 2 rfl rfl ?_
                      refine xx_iload (pc := 124) dX12_shelf_124 0 rfl ?_
                      refine xx_if_eqN (pc := 126) 138 dX12_shelf_126 rfl (by omega) (fun c246 => by exfalso; omega) (fun c246 => ?_)
                      refine xx_aload_nP (pc := 129) dX12_shelf_129 1 rfl rfl ?_
                      refine xx_getR (pc := 130) 127 dX12_shelf_130 sh_114 fX12_46_12 rfl rfl (by decide) ?_
                      refine xx_iload_n (pc := 133) dX12_shelf_133 4 rfl rfl ?_
                      refine xx_ialdN (pc := 134) dX12_shelf_134 sh_127 (by omega) (by decide) ?_
                      refine xx_goto (pc := 135) 139 dX12_shelf_135 rfl ?_
                      refine xx_iastN (pc := 139) dX12_shelf_139 sh_131 (by omega) (by decide) ?_
                      refine xx_nw (fun w247 ew247 => ?_)
                      refine xx_iconst (pc := 140) dX12_shelf_140 cc_iconst_1 ?_
                      exact xx_iret (pc := 141) dX12_shelf_141 rfl (rfl) (Nat.le_refl _) (Nat.le_refl _) (ic_ri ⟨by rw [if_pos (by omega)], by rw [if_pos (by omega)]; exact congrArg hn (wu3 (by rw [ew247, ew245, ew239]) (by first | exact (if_pos (by omega)).symm | exact ((if_neg (by omega)).trans (if_pos (by omega))).symm | exact ((if_neg (by omega)).trans (if_neg (by omega))).symm | exact (if_neg (by omega)).symm) (by first | (rw [h126]; exact ((if_neg (by omega)).trans (if_pos (by omega))).symm) | exact (if_pos (by omega)).symm | exact ((if_neg (by omega)).trans (if_pos (by omega))).symm | exact ((if_neg (by omega)).trans (if_neg (by omega))).symm | exact (if_neg (by omega)).symm) (by first | (rw [h127]; exact (if_pos (by omega)).symm) | exact (if_pos (by omega)).symm | exact ((if_neg (by omega)).trans (if_pos (by omega))).symm | exact ((if_neg (by omega)).trans (if_neg (by omega))).symm | exact (if_neg (by omega)).symm))⟩)
                  · refine xx_iconst (pc := 75) dX12_shelf_75 cc_iconst_1 ?_
                    refine xx_goto (pc := 76) 89 dX12_shelf_76 rfl ?_
                    refine xx_iastN (pc := 89) dX12_shelf_89 sh_129 (by omega) (by decide) ?_
                    refine xx_nw (fun w248 ew248 => ?_)
                    have h126 : w248 126 x = w 126 x := by rw [ew248, wu_o _ _ _ _ (by omega)]
                    refine xx_aload_nP (pc := 90) dX12_shelf_90 1 rfl rfl ?_
                    refine xx_getR (pc := 91) 130 dX12_shelf_91 sh_114 fX12_55_12 rfl rfl (by decide) ?_
                    refine xx_iload_n (pc := 94) dX12_shelf_94 2 rfl rfl ?_
                    refine xx_iload_n (pc := 95) dX12_shelf_95 3 rfl rfl ?_
                    refine xx_if_neN (pc := 96) 103 dX12_shelf_96 rfl (by omega) (fun c249 => ?_) (fun c249 => ?_)
                    · refine xx_iload (pc := 103) dX12_shelf_103 0 rfl ?_
                      refine xx_if_eqN (pc := 105) 117 dX12_shelf_105 rfl (by omega) (fun c250 => by exfalso; omega) (fun c250 => ?_)
                      refine xx_aload_nP (pc := 108) dX12_shelf_108 1 rfl rfl ?_
                      refine xx_getR (pc := 109) 126 dX12_shelf_109 sh_114 fX12_43_12 rfl rfl (by decide) ?_
                      refine xx_iload_n (pc := 112) dX12_shelf_112 4 rfl rfl ?_
                      refine xx_ialdN (pc := 113) dX12_shelf_113 sh_126 (by omega) (by decide) ?_
                      refine xx_goto (pc := 114) 118 dX12_shelf_114 rfl ?_
                      refine xx_iastN (pc := 118) dX12_shelf_118 sh_130 (by omega) (by decide) ?_
                      refine xx_nw (fun w251 ew251 => ?_)
                      have h127 : w251 127 x = w 127 x := by rw [ew251, wu_o _ _ _ _ (by omega), ew248, wu_o _ _ _ _ (by omega)]
                      refine xx_aload_nP (pc := 119) dX12_shelf_119 1 rfl rfl ?_
                      refine xx_getR (pc := 120) 131 dX12_shelf_120 sh_114 fX12_58_12 rfl rfl (by decide) ?_
                      refine xx_iload_n (pc := 123) dX12_shelf_123 2 rfl rfl ?_
                      refine xx_iload (pc := 124) dX12_shelf_124 0 rfl ?_
                      refine xx_if_eqN (pc := 126) 138 dX12_shelf_126 rfl (by omega) (fun c252 => by exfalso; omega) (fun c252 => ?_)
                      refine xx_aload_nP (pc := 129) dX12_shelf_129 1 rfl rfl ?_
                      refine xx_getR (pc := 130) 127 dX12_shelf_130 sh_114 fX12_46_12 rfl rfl (by decide) ?_
                      refine xx_iload_n (pc := 133) dX12_shelf_133 4 rfl rfl ?_
                      refine xx_ialdN (pc := 134) dX12_shelf_134 sh_127 (by omega) (by decide) ?_
                      refine xx_goto (pc := 135) 139 dX12_shelf_135 rfl ?_
                      refine xx_iastN (pc := 139) dX12_shelf_139 sh_131 (by omega) (by decide) ?_
                      refine xx_nw (fun w253 ew253 => ?_)
                      refine xx_iconst (pc := 140) dX12_shelf_140 cc_iconst_1 ?_
                      exact xx_iret (pc := 141) dX12_shelf_141 rfl (rfl) (Nat.le_refl _) (Nat.le_refl _) (ic_ri ⟨by rw [if_pos (by omega)], by rw [if_pos (by omega)]; exact congrArg hn (wu3 (by rw [ew253, ew251, ew248]) (by first | exact (if_pos (by omega)).symm | exact ((if_neg (by omega)).trans (if_pos (by omega))).symm | exact ((if_neg (by omega)).trans (if_neg (by omega))).symm | exact (if_neg (by omega)).symm) (by first | (rw [h126]; exact ((if_neg (by omega)).trans (if_pos (by omega))).symm) | exact (if_pos (by omega)).symm | exact ((if_neg (by omega)).trans (if_pos (by omega))).symm | exact ((if_neg (by omega)).trans (if_neg (by omega))).symm | exact (if_neg (by omega)).symm) (by first | (rw [h127]; exact (if_pos (by omega)).symm) | exact (if_pos (by omega)).symm | exact ((if_neg (by omega)).trans (if_pos (by omega))).symm | exact ((if_neg (by omega)).trans (if_neg (by omega))).symm | exact (if_neg (by omega)).symm))⟩)
                    · refine xx_iload_n (pc := 99) dX12_shelf_99 4 rfl rfl ?_
                      refine xx_goto (pc := 100) 118 dX12_shelf_100 rfl ?_
                      refine xx_iastN (pc := 118) dX12_shelf_118 sh_130 (by omega) (by decide) ?_
                      refine xx_nw (fun w254 ew254 => ?_)
                      have h127 : w254 127 x = w 127 x := by rw [ew254, wu_o _ _ _ _ (by omega), ew248, wu_o _ _ _ _ (by omega)]
                      refine xx_aload_nP (pc := 119) dX12_shelf_119 1 rfl rfl ?_
                      refine xx_getR (pc := 120) 131 dX12_shelf_120 sh_114 fX12_58_12 rfl rfl (by decide) ?_
                      refine xx_iload_n (pc := 123) dX12_shelf_123 2 rfl rfl ?_
                      refine xx_iload (pc := 124) dX12_shelf_124 0 rfl ?_
                      refine xx_if_eqN (pc := 126) 138 dX12_shelf_126 rfl (by omega) (fun c255 => by exfalso; omega) (fun c255 => ?_)
                      refine xx_aload_nP (pc := 129) dX12_shelf_129 1 rfl rfl ?_
                      refine xx_getR (pc := 130) 127 dX12_shelf_130 sh_114 fX12_46_12 rfl rfl (by decide) ?_
                      refine xx_iload_n (pc := 133) dX12_shelf_133 4 rfl rfl ?_
                      refine xx_ialdN (pc := 134) dX12_shelf_134 sh_127 (by omega) (by decide) ?_
                      refine xx_goto (pc := 135) 139 dX12_shelf_135 rfl ?_
                      refine xx_iastN (pc := 139) dX12_shelf_139 sh_131 (by omega) (by decide) ?_
                      refine xx_nw (fun w256 ew256 => ?_)
                      refine xx_iconst (pc := 140) dX12_shelf_140 cc_iconst_1 ?_
                      exact xx_iret (pc := 141) dX12_shelf_141 rfl (rfl) (Nat.le_refl _) (Nat.le_refl _) (ic_ri ⟨by rw [if_pos (by omega)], by rw [if_pos (by omega)]; exact congrArg hn (wu3 (by rw [ew256, ew254, ew248]) (by first | exact (if_pos (by omega)).symm | exact ((if_neg (by omega)).trans (if_pos (by omega))).symm | exact ((if_neg (by omega)).trans (if_neg (by omega))).symm | exact (if_neg (by omega)).symm) (by first | (rw [h126]; exact ((if_neg (by omega)).trans (if_pos (by omega))).symm) | exact (if_pos (by omega)).symm | exact ((if_neg (by omega)).trans (if_pos (by omega))).symm | exact ((if_neg (by omega)).trans (if_neg (by omega))).symm | exact (if_neg (by omega)).symm) (by first | (rw [h127]; exact (if_pos (by omega)).symm) | exact (if_pos (by omega)).symm | exact ((if_neg (by omega)).trans (if_pos (by omega))).symm | exact ((if_neg (by omega)).trans (if_neg (by omega))).symm | exact (if_neg (by omega)).symm))⟩)
            · refine xx_iconst (pc := 43) dX12_shelf_43 cc_iconst_m1 ?_
              exact xx_iret (pc := 44) dX12_shelf_44 rfl (rfl) (Nat.le_refl _) (Nat.le_refl _) (ic_ri ⟨by rw [if_neg (by omega)], by rw [if_neg (by omega)]⟩)

set_option maxHeartbeats 4000000 in
set_option maxRecDepth 100000 in
theorem cM_heldOn {l : Launch} {E : ic_E} {w : ic_w} {i : Nat} (hi4 : i < 4) (hV : mo_Sv w) (hI : In (w 115)) : ic_C l E mX12_heldOn 2 0 0 False [ic_pt E 114, .int (nI i)] SHs (hn w) SHs (ic_qe (nI (mo_ho w i)) (hn w)) := by
  refine ic_intro (by decide +kernel) (Nat.le_of_ble_eq_true rfl) ?_
  show xx l E _ _ 0 [(0, ic_pt E 114), (1, .int (nI i))] _ _ _
  have hv := hV i hi4
  have hn0 := hI.n
  refine xx_aload_nP (pc := 0) dX12_heldOn_0 0 rfl rfl ?_
  refine xx_getR (pc := 1) 129 dX12_heldOn_1 sh_114 fX12_52_12 rfl rfl (by decide) ?_
  refine xx_iload_n (pc := 4) dX12_heldOn_4 1 rfl rfl ?_
  refine xx_ialdN (pc := 5) dX12_heldOn_5 sh_129 (by omega) (by decide) ?_
  refine xx_iconst (pc := 6) dX12_heldOn_6 cc_iconst_1 ?_
  refine xx_icmp_neN (pc := 7) 27 dX12_heldOn_7 rfl (by omega) (by omega) (fun c1 => ?_) (fun c1 => ?_)
  · refine xx_aload_nP (pc := 27) dX12_heldOn_27 0 rfl rfl ?_
    refine xx_getR (pc := 28) 129 dX12_heldOn_28 sh_114 fX12_52_12 rfl rfl (by decide) ?_
    refine xx_iload_n (pc := 31) dX12_heldOn_31 1 rfl rfl ?_
    refine xx_ialdN (pc := 32) dX12_heldOn_32 sh_129 (by omega) (by decide) ?_
    exact xx_iret (pc := 33) dX12_heldOn_33 rfl (rfl) (Nat.le_refl _) (Nat.le_refl _) (ic_re (by unfold mo_ho; first | exact (if_pos (by omega)).symm | exact (if_neg (by omega)).symm))
  · refine xx_aload_nP (pc := 10) dX12_heldOn_10 0 rfl rfl ?_
    refine xx_aload_nP (pc := 11) dX12_heldOn_11 0 rfl rfl ?_
    refine xx_getR (pc := 12) 130 dX12_heldOn_12 sh_114 fX12_55_12 rfl rfl (by decide) ?_
    refine xx_iload_n (pc := 15) dX12_heldOn_15 1 rfl rfl ?_
    refine xx_ialdN (pc := 16) dX12_heldOn_16 sh_130 (by omega) (by decide) ?_
    refine xx_callV0 (pc := 17) (st := []) sh_114 (cM_isOne (w := w) (o := w 130 i) (by omega) hI) kX12_isOne vX12_116_12 dX12_heldOn_17 rfl rfl (Nat.le_of_ble_eq_true rfl) ⟨Nat.le_of_ble_eq_true rfl, Nat.le_of_ble_eq_true rfl⟩ ⟨Nat.zero_le _, Nat.zero_le _⟩ (ic_ke ?_)
    refine xx_if_neB (pc := 20) 27 dX12_heldOn_20 rfl (fun c2 => ?_) (fun c2 => ?_)
    · refine xx_aload_nP (pc := 27) dX12_heldOn_27 0 rfl rfl ?_
      refine xx_getR (pc := 28) 129 dX12_heldOn_28 sh_114 fX12_52_12 rfl rfl (by decide) ?_
      refine xx_iload_n (pc := 31) dX12_heldOn_31 1 rfl rfl ?_
      refine xx_ialdN (pc := 32) dX12_heldOn_32 sh_129 (by omega) (by decide) ?_
      exact xx_iret (pc := 33) dX12_heldOn_33 rfl (rfl) (Nat.le_refl _) (Nat.le_refl _) (ic_re (by unfold mo_ho; first | exact (if_pos (by omega)).symm | exact (if_neg (by omega)).symm))
    · refine xx_iconst (pc := 23) dX12_heldOn_23 cc_iconst_0 ?_
      refine xx_goto (pc := 24) 33 dX12_heldOn_24 rfl ?_
      exact xx_iret (pc := 33) dX12_heldOn_33 rfl (rfl) (Nat.le_refl _) (Nat.le_refl _) (ic_re (by unfold mo_ho; first | exact (if_pos (by omega)).symm | exact (if_neg (by omega)).symm))

set_option maxHeartbeats 4000000 in
set_option maxRecDepth 100000 in
theorem cM_taken {l : Launch} {E : ic_E} {w : ic_w} {i : Nat} (hi_ : i < 2 ^ 32) {k : Nat} (hk_ : k < 2 ^ 32) (hV : mo_Sv w) (hI : In (w 115)) : ic_C l E mX12_taken 3 0 0 False [ic_pt E 114, .int (nI i), .int (nI k)] SHs (hn w) SHs (ic_qe (nI (if i ≤ 3 ∧ k ≤ 14 ∧ ¬ (6 ≤ k ∧ k ≤ 9) then mo_tk w i k else 4294967295)) (hn w)) := by
  refine ic_intro (by decide +kernel) (Nat.le_of_ble_eq_true rfl) ?_
  show xx l E _ _ 0 [(0, ic_pt E 114), (1, .int (nI i)), (2, .int (nI k))] _ _ _
  have hn0 := hI.n
  refine xx_iload_n (pc := 0) dX12_taken_0 1 rfl rfl ?_
  refine xx_callS0 (pc := 1) (st := []) (cM_isShelf (w := w) (a := i) (by omega)) kX12_isShelf sX12_363 dX12_taken_1 rfl rfl (Nat.le_of_ble_eq_true rfl) ⟨Nat.le_of_ble_eq_true rfl, Nat.le_of_ble_eq_true rfl⟩ ⟨Nat.zero_le _, Nat.zero_le _⟩ (ic_ke ?_)
  refine xx_if_eqB (pc := 4) 33 dX12_taken_4 rfl (fun c1 => ?_) (fun c1 => ?_)
  · refine xx_iconst (pc := 33) dX12_taken_33 cc_iconst_m1 ?_
    exact xx_iret (pc := 34) dX12_taken_34 rfl (rfl) (Nat.le_refl _) (Nat.le_refl _) (ic_re (if_neg (by omega)).symm)
  · have hv := hV i (by omega)
    have hh := mo_ho_le hV (i := i) (by omega)
    refine xx_iload_n (pc := 7) dX12_taken_7 2 rfl rfl ?_
    refine xx_i2l (pc := 8) dX12_taken_8 ?_
    refine xx_lconst (v := 0) (pc := 9) dX12_taken_9 rfl ?_
    refine xx_ldc2 (v := 14) (pc := 10) dX12_taken_10 oX12_366 ?_
    refine xx_callS0 (pc := 13) (st := []) (cM_isIn (0 ≤ k ∧ k ≤ 14) (ll_in (lo := 0) (hi := 14) (by omega) (by decide) (by decide) (by omega))) kX12_isIn sX12_66 dX12_taken_13 rfl rfl (Nat.le_of_ble_eq_true rfl) ⟨Nat.le_of_ble_eq_true rfl, Nat.le_of_ble_eq_true rfl⟩ ⟨Nat.zero_le _, Nat.zero_le _⟩ (ic_ke ?_)
    refine xx_if_eqB (pc := 16) 33 dX12_taken_16 rfl (fun c2 => ?_) (fun c2 => ?_)
    · refine xx_iconst (pc := 33) dX12_taken_33 cc_iconst_m1 ?_
      exact xx_iret (pc := 34) dX12_taken_34 rfl (rfl) (Nat.le_refl _) (Nat.le_refl _) (ic_re (if_neg (by omega)).symm)
    · refine xx_iload_n (pc := 19) dX12_taken_19 2 rfl rfl ?_
      refine xx_i2l (pc := 20) dX12_taken_20 ?_
      refine xx_ldc2 (v := 6) (pc := 21) dX12_taken_21 oX12_368 ?_
      refine xx_ldc2 (v := 9) (pc := 24) dX12_taken_24 oX12_72 ?_
      refine xx_callS0 (pc := 27) (st := []) (cM_isIn (6 ≤ k ∧ k ≤ 9) (ll_in (lo := 6) (hi := 9) (by omega) (by decide) (by decide) (by omega))) kX12_isIn sX12_66 dX12_taken_27 rfl rfl (Nat.le_of_ble_eq_true rfl) ⟨Nat.le_of_ble_eq_true rfl, Nat.le_of_ble_eq_true rfl⟩ ⟨Nat.zero_le _, Nat.zero_le _⟩ (ic_ke ?_)
      refine xx_if_eqB (pc := 30) 35 dX12_taken_30 rfl (fun c3 => ?_) (fun c3 => ?_)
      · refine xx_aload_nP (pc := 35) dX12_taken_35 0 rfl rfl ?_
        refine xx_iload_n (pc := 36) dX12_taken_36 1 rfl rfl ?_
        refine xx_callV0 (pc := 37) (st := []) sh_114 (cM_heldOn (w := w) (i := i) (by omega) hV hI) kX12_heldOn vX12_370_12 dX12_taken_37 rfl rfl (Nat.le_of_ble_eq_true rfl) ⟨Nat.le_of_ble_eq_true rfl, Nat.le_of_ble_eq_true rfl⟩ ⟨Nat.zero_le _, Nat.zero_le _⟩ (ic_ke ?_)
        refine xx_istore_n (L' := [(3, .int (nI (mo_ho w i))), (0, ic_pt E 114), (1, .int (nI i)), (2, .int (nI k))]) (pc := 40) dX12_taken_40 rfl (Nat.le_of_ble_eq_true rfl) rfl ?_
        refine xx_iload_n (pc := 41) dX12_taken_41 0 rfl rfl ?_
        refine xx_if_neN (pc := 42) 48 dX12_taken_42 rfl (by omega) (fun c4 => ?_) (fun c4 => ?_)
        · refine xx_iload_n (pc := 48) dX12_taken_48 3 rfl rfl ?_
          refine xx_bipush (pc := 49) dX12_taken_49 cc_bipush_10 ?_
          refine xx_icmp_geN (pc := 51) 89 dX12_taken_51 rfl (by omega) (by omega) (fun c5 => ?_) (fun c5 => ?_)
          · refine xx_iload_n (pc := 89) dX12_taken_89 0 rfl rfl ?_
            refine xx_iconst (pc := 90) dX12_taken_90 cc_iconst_2 ?_
            refine xx_icmp_neN (pc := 91) 116 dX12_taken_91 rfl (by omega) (by omega) (fun c6 => ?_) (fun c6 => ?_)
            · refine xx_bipush (pc := 116) dX12_taken_116 cc_bipush_m13 ?_
              exact xx_iret (pc := 118) dX12_taken_118 rfl (rfl) (Nat.le_refl _) (Nat.le_refl _) (ic_re (by rw [if_pos (by omega)]; unfold mo_tk; first | exact (if_pos (by omega)).symm | exact ((if_neg (by omega)).trans ((if_pos (by omega)).trans (if_pos ⟨by omega, by assumption⟩))).symm | exact ((if_neg (by omega)).trans ((if_pos (by omega)).trans (if_neg (by rintro ⟨z1, z2⟩; first | omega | contradiction)))).symm | exact ((if_neg (by omega)).trans ((if_neg (by omega)).trans (if_pos (by omega)))).symm | exact ((if_neg (by omega)).trans ((if_neg (by omega)).trans (if_neg (by omega)))).symm))
            · refine xx_aload_nP (pc := 94) dX12_taken_94 1 rfl rfl ?_
              refine xx_getR (pc := 95) 130 dX12_taken_95 sh_114 fX12_55_12 rfl rfl (by decide) ?_
              refine xx_iload_n (pc := 98) dX12_taken_98 2 rfl rfl ?_
              refine xx_ialdN (pc := 99) dX12_taken_99 sh_130 (by omega) (by decide) ?_
              refine xx_iload_n (pc := 100) dX12_taken_100 3 rfl rfl ?_
              refine xx_bipush (pc := 101) dX12_taken_101 cc_bipush_10 ?_
              refine xx_isubN (pc := 103) dX12_taken_103 (by omega) ?_
              refine xx_icmp_neN (pc := 104) 116 dX12_taken_104 rfl (by omega) (by omega) (fun c7 => ?_) (fun c7 => ?_)
              · refine xx_bipush (pc := 116) dX12_taken_116 cc_bipush_m13 ?_
                exact xx_iret (pc := 118) dX12_taken_118 rfl (rfl) (Nat.le_refl _) (Nat.le_refl _) (ic_re (by rw [if_pos (by omega)]; unfold mo_tk; first | exact (if_pos (by omega)).symm | exact ((if_neg (by omega)).trans ((if_pos (by omega)).trans (if_pos ⟨by omega, by assumption⟩))).symm | exact ((if_neg (by omega)).trans ((if_pos (by omega)).trans (if_neg (by rintro ⟨z1, z2⟩; first | omega | contradiction)))).symm | exact ((if_neg (by omega)).trans ((if_neg (by omega)).trans (if_pos (by omega)))).symm | exact ((if_neg (by omega)).trans ((if_neg (by omega)).trans (if_neg (by omega)))).symm))
              · refine xx_aload_nP (pc := 107) dX12_taken_107 1 rfl rfl ?_
                refine xx_getR (pc := 108) 131 dX12_taken_108 sh_114 fX12_58_12 rfl rfl (by decide) ?_
                refine xx_iload_n (pc := 111) dX12_taken_111 2 rfl rfl ?_
                refine xx_ialdN (pc := 112) dX12_taken_112 sh_131 (by omega) (by decide) ?_
                refine xx_goto (pc := 113) 118 dX12_taken_113 rfl ?_
                exact xx_iret (pc := 118) dX12_taken_118 rfl (rfl) (Nat.le_refl _) (Nat.le_refl _) (ic_re (by rw [if_pos (by omega)]; unfold mo_tk; first | exact (if_pos (by omega)).symm | exact ((if_neg (by omega)).trans ((if_pos (by omega)).trans (if_pos ⟨by omega, by assumption⟩))).symm | exact ((if_neg (by omega)).trans ((if_pos (by omega)).trans (if_neg (by rintro ⟨z1, z2⟩; first | omega | contradiction)))).symm | exact ((if_neg (by omega)).trans ((if_neg (by omega)).trans (if_pos (by omega)))).symm | exact ((if_neg (by omega)).trans ((if_neg (by omega)).trans (if_neg (by omega)))).symm))
          · refine xx_iload_n (pc := 54) dX12_taken_54 0 rfl rfl ?_
            refine xx_iconst (pc := 55) dX12_taken_55 cc_iconst_1 ?_
            refine xx_icmp_neN (pc := 56) 86 dX12_taken_56 rfl (by omega) (by omega) (fun c8 => ?_) (fun c8 => ?_)
            · refine xx_bipush (pc := 86) dX12_taken_86 cc_bipush_m13 ?_
              exact xx_iret (pc := 88) dX12_taken_88 rfl (rfl) (Nat.le_refl _) (Nat.le_refl _) (ic_re (by rw [if_pos (by omega)]; unfold mo_tk; first | exact (if_pos (by omega)).symm | exact ((if_neg (by omega)).trans ((if_pos (by omega)).trans (if_pos ⟨by omega, by assumption⟩))).symm | exact ((if_neg (by omega)).trans ((if_pos (by omega)).trans (if_neg (by rintro ⟨z1, z2⟩; first | omega | contradiction)))).symm | exact ((if_neg (by omega)).trans ((if_neg (by omega)).trans (if_pos (by omega)))).symm | exact ((if_neg (by omega)).trans ((if_neg (by omega)).trans (if_neg (by omega)))).symm))
            · have h1 := mo_ho_1 (w := w) (i := i) (by omega)
              have hb := hI.i (o := w 130 i) (by omega)
              refine xx_aload_nP (pc := 59) dX12_taken_59 1 rfl rfl ?_
              refine xx_aload_nP (pc := 60) dX12_taken_60 1 rfl rfl ?_
              refine xx_getR (pc := 61) 130 dX12_taken_61 sh_114 fX12_55_12 rfl rfl (by decide) ?_
              refine xx_iload_n (pc := 64) dX12_taken_64 2 rfl rfl ?_
              refine xx_ialdN (pc := 65) dX12_taken_65 sh_130 (by omega) (by decide) ?_
              refine xx_iconst (pc := 66) dX12_taken_66 cc_iconst_0 ?_
              refine xx_callV0 (pc := 67) (st := []) sh_114 (cM_its (w := w) (o := w 130 i) (k := 0) (by omega) (by omega)) kX12_its vX12_82_12 dX12_taken_67 rfl rfl (Nat.le_of_ble_eq_true rfl) ⟨Nat.le_of_ble_eq_true rfl, Nat.le_of_ble_eq_true rfl⟩ ⟨Nat.zero_le _, Nat.zero_le _⟩ (ic_ke ?_)
              refine xx_iload_n (pc := 70) dX12_taken_70 3 rfl rfl ?_
              refine xx_callS0 (pc := 71) (st := []) (cM_isUnder (w := w) (a := it (w 115) (w 130 i) 0) (b := k) (by omega) (by omega)) kX12_isUnder sX12_103 dX12_taken_71 rfl rfl (Nat.le_of_ble_eq_true rfl) ⟨Nat.le_of_ble_eq_true rfl, Nat.le_of_ble_eq_true rfl⟩ ⟨Nat.zero_le _, Nat.zero_le _⟩ (ic_ke ?_)
              refine xx_if_eqB (pc := 74) 86 dX12_taken_74 rfl (fun c9 => ?_) (fun c9 => ?_)
              · refine xx_bipush (pc := 86) dX12_taken_86 cc_bipush_m13 ?_
                exact xx_iret (pc := 88) dX12_taken_88 rfl (rfl) (Nat.le_refl _) (Nat.le_refl _) (ic_re (by rw [if_pos (by omega)]; unfold mo_tk; first | exact (if_pos (by omega)).symm | exact ((if_neg (by omega)).trans ((if_pos (by omega)).trans (if_pos ⟨by omega, by assumption⟩))).symm | exact ((if_neg (by omega)).trans ((if_pos (by omega)).trans (if_neg (by rintro ⟨z1, z2⟩; first | omega | contradiction)))).symm | exact ((if_neg (by omega)).trans ((if_neg (by omega)).trans (if_pos (by omega)))).symm | exact ((if_neg (by omega)).trans ((if_neg (by omega)).trans (if_neg (by omega)))).symm))
              · refine xx_aload_nP (pc := 77) dX12_taken_77 1 rfl rfl ?_
                refine xx_getR (pc := 78) 130 dX12_taken_78 sh_114 fX12_55_12 rfl rfl (by decide) ?_
                refine xx_iload_n (pc := 81) dX12_taken_81 2 rfl rfl ?_
                refine xx_ialdN (pc := 82) dX12_taken_82 sh_130 (by omega) (by decide) ?_
                refine xx_goto (pc := 83) 88 dX12_taken_83 rfl ?_
                exact xx_iret (pc := 88) dX12_taken_88 rfl (rfl) (Nat.le_refl _) (Nat.le_refl _) (ic_re (by rw [if_pos (by omega)]; unfold mo_tk; first | exact (if_pos (by omega)).symm | exact ((if_neg (by omega)).trans ((if_pos (by omega)).trans (if_pos ⟨by omega, by assumption⟩))).symm | exact ((if_neg (by omega)).trans ((if_pos (by omega)).trans (if_neg (by rintro ⟨z1, z2⟩; first | omega | contradiction)))).symm | exact ((if_neg (by omega)).trans ((if_neg (by omega)).trans (if_pos (by omega)))).symm | exact ((if_neg (by omega)).trans ((if_neg (by omega)).trans (if_neg (by omega)))).symm))
        · refine xx_bipush (pc := 45) dX12_taken_45 cc_bipush_m11 ?_
          exact xx_iret (pc := 47) dX12_taken_47 rfl (rfl) (Nat.le_refl _) (Nat.le_refl _) (ic_re (by rw [if_pos (by omega)]; unfold mo_tk; first | exact (if_pos (by omega)).symm | exact ((if_neg (by omega)).trans ((if_pos (by omega)).trans (if_pos ⟨by omega, by assumption⟩))).symm | exact ((if_neg (by omega)).trans ((if_pos (by omega)).trans (if_neg (by rintro ⟨z1, z2⟩; first | omega | contradiction)))).symm | exact ((if_neg (by omega)).trans ((if_neg (by omega)).trans (if_pos (by omega)))).symm | exact ((if_neg (by omega)).trans ((if_neg (by omega)).trans (if_neg (by omega)))).symm))
      · refine xx_iconst (pc := 33) dX12_taken_33 cc_iconst_m1 ?_
        exact xx_iret (pc := 34) dX12_taken_34 rfl (rfl) (Nat.le_refl _) (Nat.le_refl _) (ic_re (if_neg (by omega)).symm)

