/-! the class: again, with the two rows behind the reports told too -/
set_option maxHeartbeats 4000000 in
set_option maxRecDepth 100000 in
theorem cC_netB_39b {l : Launch} {E : ic_E} {w : ic_w}  : ic_C l E mX5_become 3 0 0 False [ic_pt E 39, ic_pt E 67] SHs (hn w) SHs (ic_qv (fun h_ => ∃ w2, h_ = hn w2 ∧ (∀ a, a < 39 ∨ 62 < a → w2 a = w a) ∧ Nk w2 39 w 67)) := by
  refine ic_intro (by decide +kernel) (Nat.le_of_ble_eq_true rfl) ?_
  show xx l E _ _ 0 [(0, ic_pt E 39), (1, ic_pt E 67)] _ _ _
  refine xx_aload_nP (pc := 0) dX5_become_0 1 rfl rfl ?_
  refine xx_getR (pc := 1) 68 dX5_become_1 sh_67 fX5_9_5 rfl rfl (by decide) ?_
  refine xx_iconst (pc := 4) dX5_become_4 cc_iconst_0 ?_
  refine xx_aload_nP (pc := 5) dX5_become_5 0 rfl rfl ?_
  refine xx_getR (pc := 6) 40 dX5_become_6 sh_39 fX5_9_5 rfl rfl (by decide) ?_
  refine xx_iconst (pc := 9) dX5_become_9 cc_iconst_0 ?_
  refine xx_bipush (pc := 10) dX5_become_10 cc_bipush_16 ?_
  refine xx_copyN (pc := 12) (st := []) rfl dX5_become_12 aX5_68 sh_68 sh_40 (by omega) (by omega) (by decide) ⟨Nat.le_of_ble_eq_true rfl, Nat.le_of_ble_eq_true rfl⟩ ?_
  refine xx_nw (fun w1 ew1 => ?_)
  have fr_w1 : ∀ a, a ≠ 40 → w1 a = w a := fun a h => by rw [ew1, wr_n _ h]
  have cp_w1 : ∀ j, j < 16 → w1 40 j = w 68 j := fun j hj => by rw [ew1, wr_s, cp_at hj]
  refine xx_aload_nP (pc := 15) dX5_become_15 1 rfl rfl ?_
  refine xx_getR (pc := 16) 69 dX5_become_16 sh_67 fX5_15_5 rfl rfl (by decide) ?_
  refine xx_iconst (pc := 19) dX5_become_19 cc_iconst_0 ?_
  refine xx_aload_nP (pc := 20) dX5_become_20 0 rfl rfl ?_
  refine xx_getR (pc := 21) 41 dX5_become_21 sh_39 fX5_15_5 rfl rfl (by decide) ?_
  refine xx_iconst (pc := 24) dX5_become_24 cc_iconst_0 ?_
  refine xx_bipush (pc := 25) dX5_become_25 cc_bipush_6 ?_
  refine xx_copyN (pc := 27) (st := []) rfl dX5_become_27 aX5_68 sh_69 sh_41 (by omega) (by omega) (by decide) ⟨Nat.le_of_ble_eq_true rfl, Nat.le_of_ble_eq_true rfl⟩ ?_
  refine xx_nw (fun w2 ew2 => ?_)
  have fr_w2 : ∀ a, a ≠ 41 → w2 a = w1 a := fun a h => by rw [ew2, wr_n _ h]
  have cp_w2 : ∀ j, j < 6 → w2 41 j = w1 69 j := fun j hj => by rw [ew2, wr_s, cp_at hj]
  refine xx_aload_nP (pc := 30) dX5_become_30 1 rfl rfl ?_
  refine xx_getR (pc := 31) 70 dX5_become_31 sh_67 fX5_18_5 rfl rfl (by decide) ?_
  refine xx_iconst (pc := 34) dX5_become_34 cc_iconst_0 ?_
  refine xx_aload_nP (pc := 35) dX5_become_35 0 rfl rfl ?_
  refine xx_getR (pc := 36) 42 dX5_become_36 sh_39 fX5_18_5 rfl rfl (by decide) ?_
  refine xx_iconst (pc := 39) dX5_become_39 cc_iconst_0 ?_
  refine xx_bipush (pc := 40) dX5_become_40 cc_bipush_6 ?_
  refine xx_copyN (pc := 42) (st := []) rfl dX5_become_42 aX5_68 sh_70 sh_42 (by omega) (by omega) (by decide) ⟨Nat.le_of_ble_eq_true rfl, Nat.le_of_ble_eq_true rfl⟩ ?_
  refine xx_nw (fun w3 ew3 => ?_)
  have fr_w3 : ∀ a, a ≠ 42 → w3 a = w2 a := fun a h => by rw [ew3, wr_n _ h]
  have cp_w3 : ∀ j, j < 6 → w3 42 j = w2 70 j := fun j hj => by rw [ew3, wr_s, cp_at hj]
  refine xx_aload_nP (pc := 45) dX5_become_45 1 rfl rfl ?_
  refine xx_getR (pc := 46) 71 dX5_become_46 sh_67 fX5_21_5 rfl rfl (by decide) ?_
  refine xx_iconst (pc := 49) dX5_become_49 cc_iconst_0 ?_
  refine xx_aload_nP (pc := 50) dX5_become_50 0 rfl rfl ?_
  refine xx_getR (pc := 51) 43 dX5_become_51 sh_39 fX5_21_5 rfl rfl (by decide) ?_
  refine xx_iconst (pc := 54) dX5_become_54 cc_iconst_0 ?_
  refine xx_bipush (pc := 55) dX5_become_55 cc_bipush_6 ?_
  refine xx_copyN (pc := 57) (st := []) rfl dX5_become_57 aX5_68 sh_71 sh_43 (by omega) (by omega) (by decide) ⟨Nat.le_of_ble_eq_true rfl, Nat.le_of_ble_eq_true rfl⟩ ?_
  refine xx_nw (fun w4 ew4 => ?_)
  have fr_w4 : ∀ a, a ≠ 43 → w4 a = w3 a := fun a h => by rw [ew4, wr_n _ h]
  have cp_w4 : ∀ j, j < 6 → w4 43 j = w3 71 j := fun j hj => by rw [ew4, wr_s, cp_at hj]
  refine xx_aload_nP (pc := 60) dX5_become_60 1 rfl rfl ?_
  refine xx_getR (pc := 61) 72 dX5_become_61 sh_67 fX5_24_5 rfl rfl (by decide) ?_
  refine xx_iconst (pc := 64) dX5_become_64 cc_iconst_0 ?_
  refine xx_aload_nP (pc := 65) dX5_become_65 0 rfl rfl ?_
  refine xx_getR (pc := 66) 44 dX5_become_66 sh_39 fX5_24_5 rfl rfl (by decide) ?_
  refine xx_iconst (pc := 69) dX5_become_69 cc_iconst_0 ?_
  refine xx_bipush (pc := 70) dX5_become_70 cc_bipush_6 ?_
  refine xx_copyN (pc := 72) (st := []) rfl dX5_become_72 aX5_68 sh_72 sh_44 (by omega) (by omega) (by decide) ⟨Nat.le_of_ble_eq_true rfl, Nat.le_of_ble_eq_true rfl⟩ ?_
  refine xx_nw (fun w5 ew5 => ?_)
  have fr_w5 : ∀ a, a ≠ 44 → w5 a = w4 a := fun a h => by rw [ew5, wr_n _ h]
  have cp_w5 : ∀ j, j < 6 → w5 44 j = w4 72 j := fun j hj => by rw [ew5, wr_s, cp_at hj]
  refine xx_aload_nP (pc := 75) dX5_become_75 1 rfl rfl ?_
  refine xx_getR (pc := 76) 73 dX5_become_76 sh_67 fX5_27_5 rfl rfl (by decide) ?_
  refine xx_iconst (pc := 79) dX5_become_79 cc_iconst_0 ?_
  refine xx_aload_nP (pc := 80) dX5_become_80 0 rfl rfl ?_
  refine xx_getR (pc := 81) 45 dX5_become_81 sh_39 fX5_27_5 rfl rfl (by decide) ?_
  refine xx_iconst (pc := 84) dX5_become_84 cc_iconst_0 ?_
  refine xx_bipush (pc := 85) dX5_become_85 cc_bipush_6 ?_
  refine xx_copyN (pc := 87) (st := []) rfl dX5_become_87 aX5_68 sh_73 sh_45 (by omega) (by omega) (by decide) ⟨Nat.le_of_ble_eq_true rfl, Nat.le_of_ble_eq_true rfl⟩ ?_
  refine xx_nw (fun w6 ew6 => ?_)
  have fr_w6 : ∀ a, a ≠ 45 → w6 a = w5 a := fun a h => by rw [ew6, wr_n _ h]
  have cp_w6 : ∀ j, j < 6 → w6 45 j = w5 73 j := fun j hj => by rw [ew6, wr_s, cp_at hj]
  refine xx_aload_nP (pc := 90) dX5_become_90 0 rfl rfl ?_
  refine xx_getR (pc := 91) 46 dX5_become_91 sh_39 fX5_33_5 rfl rfl (by decide) ?_
  refine xx_aload_nP (pc := 94) dX5_become_94 1 rfl rfl ?_
  refine xx_getR (pc := 95) 74 dX5_become_95 sh_67 fX5_33_5 rfl rfl (by decide) ?_
  refine xx_callV0 (pc := 98) (st := []) sh_46 (cC_momB_46 (w := w6)) kX4_become vX5_74_4 dX5_become_98 rfl rfl (Nat.le_of_ble_eq_true rfl) ⟨Nat.le_of_ble_eq_true rfl, Nat.le_of_ble_eq_true rfl⟩ ⟨Nat.zero_le _, Nat.zero_le _⟩ (ic_kv (fun h_ qw7 => ?_))
  obtain ⟨w7, rfl, f_w7, k_m⟩ := qw7
  refine xx_aload_nP (pc := 101) dX5_become_101 0 rfl rfl ?_
  refine xx_getR (pc := 102) 49 dX5_become_102 sh_39 fX5_40_5 rfl rfl (by decide) ?_
  refine xx_aload_nP (pc := 105) dX5_become_105 1 rfl rfl ?_
  refine xx_getR (pc := 106) 77 dX5_become_106 sh_67 fX5_40_5 rfl rfl (by decide) ?_
  refine xx_callV0 (pc := 109) (st := []) sh_49 (cC_rulB_49 (w := w7)) kX10_become vX5_78_10 dX5_become_109 rfl rfl (Nat.le_of_ble_eq_true rfl) ⟨Nat.le_of_ble_eq_true rfl, Nat.le_of_ble_eq_true rfl⟩ ⟨Nat.zero_le _, Nat.zero_le _⟩ (ic_kv (fun h_ qw9 => ?_))
  obtain ⟨w9, rfl, f_w9, k_r⟩ := qw9
  refine xx_aload_nP (pc := 112) dX5_become_112 0 rfl rfl ?_
  refine xx_getR (pc := 113) 55 dX5_become_113 sh_39 fX5_47_5 rfl rfl (by decide) ?_
  refine xx_aload_nP (pc := 116) dX5_become_116 1 rfl rfl ?_
  refine xx_getR (pc := 117) 83 dX5_become_117 sh_67 fX5_47_5 rfl rfl (by decide) ?_
  refine xx_callV0 (pc := 120) (st := []) sh_55 (cC_repB_55 (w := w9)) kX8_become vX5_81_8 dX5_become_120 rfl rfl (Nat.le_of_ble_eq_true rfl) ⟨Nat.le_of_ble_eq_true rfl, Nat.le_of_ble_eq_true rfl⟩ ⟨Nat.zero_le _, Nat.zero_le _⟩ (ic_kv (fun h_ qw11 => ?_))
  obtain ⟨w11, rfl, f_w11, k_p⟩ := qw11
  refine xx_aload_nP (pc := 123) dX5_become_123 0 rfl rfl ?_
  refine xx_aload_nP (pc := 124) dX5_become_124 1 rfl rfl ?_
  refine xx_getN (pc := 125) dX5_become_125 sh_67 fX5_84_5 rfl ?_
  refine xx_putN (pc := 128) dX5_become_128 sh_39 fX5_84_5 rfl rfl ?_
  refine xx_nw (fun w13 ew13 => ?_)
  have fr_w13 : ∀ a, a ≠ 39 → w13 a = w11 a := fun a h => by rw [ew13, wu_row _ _ _ h]
  have fk_w13 : ∀ j, j ≠ 10 → w13 39 j = w11 39 j := fun j h => by rw [ew13, wu_k _ _ _ _ h]
  have cv_w13 : w13 39 10 = w11 67 10 := by rw [ew13, wu_s]
  refine xx_aload_nP (pc := 131) dX5_become_131 0 rfl rfl ?_
  refine xx_aload_nP (pc := 132) dX5_become_132 1 rfl rfl ?_
  refine xx_getN (pc := 133) dX5_become_133 sh_67 fX5_51_5 rfl ?_
  refine xx_putN (pc := 136) dX5_become_136 sh_39 fX5_51_5 rfl rfl ?_
  refine xx_nw (fun w14 ew14 => ?_)
  have fr_w14 : ∀ a, a ≠ 39 → w14 a = w13 a := fun a h => by rw [ew14, wu_row _ _ _ h]
  have fk_w14 : ∀ j, j ≠ 11 → w14 39 j = w13 39 j := fun j h => by rw [ew14, wu_k _ _ _ _ h]
  have cv_w14 : w14 39 11 = w13 67 11 := by rw [ew14, wu_s]
  refine xx_aload_nP (pc := 139) dX5_become_139 0 rfl rfl ?_
  refine xx_aload_nP (pc := 140) dX5_become_140 1 rfl rfl ?_
  refine xx_getN (pc := 141) dX5_become_141 sh_67 fX5_87_5 rfl ?_
  refine xx_putN (pc := 144) dX5_become_144 sh_39 fX5_87_5 rfl rfl ?_
  refine xx_nw (fun w15 ew15 => ?_)
  have fr_w15 : ∀ a, a ≠ 39 → w15 a = w14 a := fun a h => by rw [ew15, wu_row _ _ _ h]
  have fk_w15 : ∀ j, j ≠ 12 → w15 39 j = w14 39 j := fun j h => by rw [ew15, wu_k _ _ _ _ h]
  have cv_w15 : w15 39 12 = w14 67 12 := by rw [ew15, wu_s]
  refine xx_aload_nP (pc := 147) dX5_become_147 0 rfl rfl ?_
  refine xx_aload_nP (pc := 148) dX5_become_148 1 rfl rfl ?_
  refine xx_getN (pc := 149) dX5_become_149 sh_67 fX5_55_5 rfl ?_
  refine xx_putN (pc := 152) dX5_become_152 sh_39 fX5_55_5 rfl rfl ?_
  refine xx_nw (fun w16 ew16 => ?_)
  have fr_w16 : ∀ a, a ≠ 39 → w16 a = w15 a := fun a h => by rw [ew16, wu_row _ _ _ h]
  have fk_w16 : ∀ j, j ≠ 13 → w16 39 j = w15 39 j := fun j h => by rw [ew16, wu_k _ _ _ _ h]
  have cv_w16 : w16 39 13 = w15 67 13 := by rw [ew16, wu_s]
  exact xx_vret (pc := 155) dX5_become_155 rfl (Nat.le_refl _) (Nat.le_refl _) (ic_rv0 ⟨w16, rfl, fun a ha => by rw [fr_w16 _ (by omega), fr_w15 _ (by omega), fr_w14 _ (by omega), fr_w13 _ (by omega), f_w11 _ (by omega), f_w9 _ (by omega), f_w7 _ (by omega), fr_w6 _ (by omega), fr_w5 _ (by omega), fr_w4 _ (by omega), fr_w3 _ (by omega), fr_w2 _ (by omega), fr_w1 _ (by omega)], ⟨⟨(show w16 39 10 = w 67 10 by rw [fk_w16 _ (by omega), fk_w15 _ (by omega), fk_w14 _ (by omega), cv_w13, f_w11 _ (by omega), f_w9 _ (by omega), f_w7 _ (by omega), fr_w6 _ (by omega), fr_w5 _ (by omega), fr_w4 _ (by omega), fr_w3 _ (by omega), fr_w2 _ (by omega), fr_w1 _ (by omega)]), (show w16 39 11 = w 67 11 by rw [fk_w16 _ (by omega), fk_w15 _ (by omega), cv_w14, fr_w13 _ (by omega), f_w11 _ (by omega), f_w9 _ (by omega), f_w7 _ (by omega), fr_w6 _ (by omega), fr_w5 _ (by omega), fr_w4 _ (by omega), fr_w3 _ (by omega), fr_w2 _ (by omega), fr_w1 _ (by omega)]), (show w16 39 12 = w 67 12 by rw [fk_w16 _ (by omega), cv_w15, fr_w14 _ (by omega), fr_w13 _ (by omega), f_w11 _ (by omega), f_w9 _ (by omega), f_w7 _ (by omega), fr_w6 _ (by omega), fr_w5 _ (by omega), fr_w4 _ (by omega), fr_w3 _ (by omega), fr_w2 _ (by omega), fr_w1 _ (by omega)]), (show w16 39 13 = w 67 13 by rw [cv_w16, fr_w15 _ (by omega), fr_w14 _ (by omega), fr_w13 _ (by omega), f_w11 _ (by omega), f_w9 _ (by omega), f_w7 _ (by omega), fr_w6 _ (by omega), fr_w5 _ (by omega), fr_w4 _ (by omega), fr_w3 _ (by omega), fr_w2 _ (by omega), fr_w1 _ (by omega)])⟩, fun j hj => (show w16 40 j = w 68 j by rw [fr_w16 _ (by omega), fr_w15 _ (by omega), fr_w14 _ (by omega), fr_w13 _ (by omega), f_w11 _ (by omega), f_w9 _ (by omega), f_w7 _ (by omega), fr_w6 _ (by omega), fr_w5 _ (by omega), fr_w4 _ (by omega), fr_w3 _ (by omega), fr_w2 _ (by omega), cp_w1 _ hj]), fun j hj => ⟨(show w16 41 j = w 69 j by rw [fr_w16 _ (by omega), fr_w15 _ (by omega), fr_w14 _ (by omega), fr_w13 _ (by omega), f_w11 _ (by omega), f_w9 _ (by omega), f_w7 _ (by omega), fr_w6 _ (by omega), fr_w5 _ (by omega), fr_w4 _ (by omega), fr_w3 _ (by omega), cp_w2 _ hj, fr_w1 _ (by omega)]), (show w16 42 j = w 70 j by rw [fr_w16 _ (by omega), fr_w15 _ (by omega), fr_w14 _ (by omega), fr_w13 _ (by omega), f_w11 _ (by omega), f_w9 _ (by omega), f_w7 _ (by omega), fr_w6 _ (by omega), fr_w5 _ (by omega), fr_w4 _ (by omega), cp_w3 _ hj, fr_w2 _ (by omega), fr_w1 _ (by omega)]), (show w16 43 j = w 71 j by rw [fr_w16 _ (by omega), fr_w15 _ (by omega), fr_w14 _ (by omega), fr_w13 _ (by omega), f_w11 _ (by omega), f_w9 _ (by omega), f_w7 _ (by omega), fr_w6 _ (by omega), fr_w5 _ (by omega), cp_w4 _ hj, fr_w3 _ (by omega), fr_w2 _ (by omega), fr_w1 _ (by omega)]), (show w16 44 j = w 72 j by rw [fr_w16 _ (by omega), fr_w15 _ (by omega), fr_w14 _ (by omega), fr_w13 _ (by omega), f_w11 _ (by omega), f_w9 _ (by omega), f_w7 _ (by omega), fr_w6 _ (by omega), cp_w5 _ hj, fr_w4 _ (by omega), fr_w3 _ (by omega), fr_w2 _ (by omega), fr_w1 _ (by omega)]), (show w16 45 j = w 73 j by rw [fr_w16 _ (by omega), fr_w15 _ (by omega), fr_w14 _ (by omega), fr_w13 _ (by omega), f_w11 _ (by omega), f_w9 _ (by omega), f_w7 _ (by omega), cp_w6 _ hj, fr_w5 _ (by omega), fr_w4 _ (by omega), fr_w3 _ (by omega), fr_w2 _ (by omega), fr_w1 _ (by omega)])⟩, k_m.re (fun r hr => by rw [fr_w16 _ (by omega), fr_w15 _ (by omega), fr_w14 _ (by omega), fr_w13 _ (by omega), f_w11 _ (by omega), f_w9 _ (by omega)]) (fun r hr => by rw [fr_w6 _ (by omega), fr_w5 _ (by omega), fr_w4 _ (by omega), fr_w3 _ (by omega), fr_w2 _ (by omega), fr_w1 _ (by omega)]), k_r.re (fun r hr => by rw [fr_w16 _ (by omega), fr_w15 _ (by omega), fr_w14 _ (by omega), fr_w13 _ (by omega), f_w11 _ (by omega)]) (fun r hr => by rw [f_w7 _ (by omega), fr_w6 _ (by omega), fr_w5 _ (by omega), fr_w4 _ (by omega), fr_w3 _ (by omega), fr_w2 _ (by omega), fr_w1 _ (by omega)]), k_p.re (fun r hr => by rw [fr_w16 _ (by omega), fr_w15 _ (by omega), fr_w14 _ (by omega), fr_w13 _ (by omega)]) (fun r hr => by rw [f_w9 _ (by omega), f_w7 _ (by omega), fr_w6 _ (by omega), fr_w5 _ (by omega), fr_w4 _ (by omega), fr_w3 _ (by omega), fr_w2 _ (by omega), fr_w1 _ (by omega)])⟩⟩)
set_option maxHeartbeats 4000000 in
set_option maxRecDepth 100000 in
theorem cC_again9 {l : Launch} {E : ic_E} {w : ic_w} (hk : w 0 2 ≤ 1) : ic_C l E mX11_again 4 0 0 False [ic_pt E 0] SHs (hn w) SHs (ic_qi (fun v_ h_ => v_ = nI (if w 0 2 = 0 then 4294967293 else w 67 10) ∧ ∃ w2, h_ = hn w2 ∧ (∀ a, a < 39 ∨ 62 < a → w2 a = w a) ∧ (w 0 2 = 0 → w2 = w) ∧ (w 0 2 ≠ 0 → Nk w2 39 w 67))) := by
  refine ic_intro (by decide +kernel) (Nat.le_of_ble_eq_true rfl) ?_
  show xx l E _ _ 0 [(0, ic_pt E 0)] _ _ _
  refine xx_aload_nP (pc := 0) dX11_again_0 0 rfl rfl ?_
  refine xx_getN (pc := 1) dX11_again_1 sh_0 fX11_390_11 rfl ?_
  refine xx_if_neN (pc := 4) 10 dX11_again_4 rfl (by omega) (fun c1 => ?_) (fun c1 => ?_)
  · refine xx_aload_nP (pc := 10) dX11_again_10 0 rfl rfl ?_
    refine xx_getR (pc := 11) 39 dX11_again_11 sh_0 fX11_74_11 rfl rfl (by decide) ?_
    refine xx_aload_nP (pc := 14) dX11_again_14 0 rfl rfl ?_
    refine xx_getR (pc := 15) 67 dX11_again_15 sh_0 fX11_78_11 rfl rfl (by decide) ?_
    refine xx_callV0 (pc := 18) (st := []) sh_39 (cC_netB_39b (w := w)) kX5_become vX11_388_5 dX11_again_18 rfl rfl (Nat.le_of_ble_eq_true rfl) ⟨Nat.le_of_ble_eq_true rfl, Nat.le_of_ble_eq_true rfl⟩ ⟨Nat.zero_le _, Nat.zero_le _⟩ (ic_kv (fun h_ qw2 => ?_))
    obtain ⟨w2, rfl, f_w2, k_w2⟩ := qw2
    refine xx_aload_nP (pc := 21) dX11_again_21 0 rfl rfl ?_
    refine xx_getR (pc := 22) 39 dX11_again_22 sh_0 fX11_74_11 rfl rfl (by decide) ?_
    refine xx_getN (pc := 25) dX11_again_25 sh_39 fX11_101_5 rfl ?_
    exact xx_iret (pc := 28) dX11_again_28 rfl (rfl) (Nat.le_refl _) (Nat.le_refl _) (ic_ri ⟨by rw [if_neg (by omega)]; exact congrArg nI k_w2.1.1, w2, rfl, f_w2, fun h => absurd h (by omega), fun _ => k_w2⟩)
  · refine xx_bipush (pc := 7) dX11_again_7 cc_bipush_m3 ?_
    exact xx_iret (pc := 9) dX11_again_9 rfl (rfl) (Nat.le_refl _) (Nat.le_refl _) (ic_ri ⟨by rw [if_pos (by omega)], w, rfl, fun _ _ => rfl, fun _ => rfl, fun h => absurd h (by omega)⟩)
