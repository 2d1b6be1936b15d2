theorem cM_greatest0 {l : Launch} {E : ic_E} {w : ic_w} {a b : Nat} (ha : a < 2 ^ 30) (hb : b < 2 ^ 30) : ic_C l E mX12_greatest 1 0 0 False [.int (nI 0), .int (nI (a + (4294967296 - b)))] SHs (hn w) SHs (ic_qe (nI (a - b)) (hn w)) := by
  by_cases q : b ≤ a
  · have e : nI (a + (4294967296 - b)) = nI (a - b) := by
      have e1 := nI_subW (a := a) (b := b) (by omega)
      rw [pk_sub q] at e1
      exact e1.symm
    have K := cM_greatest (l := l) (E := E) (w := w) (a := 0) (b := a - b) (by omega) (by omega)
    rw [Nat.zero_max] at K
    rw [e]
    exact K
  · refine ic_intro (by decide +kernel) (Nat.le_of_ble_eq_true rfl) ?_
    show xx l E _ _ 0 [(0, .int (nI 0)), (1, .int (nI (a + (4294967296 - b))))] _ _ _
    refine xx_iload_n (pc := 0) dX12_greatest_0 0 rfl rfl ?_
    refine xx_iload_n (pc := 1) dX12_greatest_1 1 rfl rfl ?_
    have hneg : nI (a + (4294967296 - b)) < 0 := (nI_lt0 (by omega)).mpr (by omega)
    refine xx_icmp_le (pc := 2) 9 dX12_greatest_2 rfl (fun c1 => ?_) (fun c1 => ?_)
    · rw [nI_0] at c1
      exact absurd hneg (Int32.not_lt.mpr c1)
    · refine xx_iload_n (pc := 5) dX12_greatest_5 0 rfl rfl ?_
      refine xx_goto (pc := 6) 10 dX12_greatest_6 rfl ?_
      exact xx_iret (pc := 10) dX12_greatest_10 rfl (rfl) (Nat.le_refl _) (Nat.le_refl _) (ic_re (by omega))

set_option maxHeartbeats 4000000 in
set_option maxRecDepth 100000 in
theorem cM_isOne {l : Launch} {E : ic_E} {w : ic_w} {o : Nat} (ho : o < 2 ^ 32) (hI : In (w 115)) : ic_C l E mX12_isOne 1 0 0 False [ic_pt E 114, .int (nI o)] SHs (hn w) SHs (ic_qe (nI (ic_bo (o < w 115 0))) (hn w)) := by
  refine ic_intro (by decide +kernel) (Nat.le_of_ble_eq_true rfl) ?_
  show xx l E _ _ 0 [(0, ic_pt E 114), (1, .int (nI o))] _ _ _
  have hn0 := hI.n
  refine xx_iload_n (pc := 0) dX12_isOne_0 1 rfl rfl ?_
  refine xx_if_ltS (pc := 1) 18 dX12_isOne_1 rfl (by omega) (fun c1 => ?_) (fun c1 => ?_)
  · refine xx_iconst (pc := 18) dX12_isOne_18 cc_iconst_0 ?_
    exact xx_iret (pc := 19) dX12_isOne_19 rfl (rfl) (Nat.le_refl _) (Nat.le_refl _) (ic_re (ic_bo_f (by omega)).symm)
  · refine xx_iload_n (pc := 4) dX12_isOne_4 1 rfl rfl ?_
    refine xx_aload_nP (pc := 5) dX12_isOne_5 0 rfl rfl ?_
    refine xx_getR (pc := 6) 115 dX12_isOne_6 sh_114 fX12_7_12 rfl rfl (by decide) ?_
    refine xx_iconst (pc := 9) dX12_isOne_9 cc_iconst_0 ?_
    refine xx_ialdN (pc := 10) dX12_isOne_10 sh_115 (by omega) (by decide) ?_
    refine xx_icmp_geN (pc := 11) 18 dX12_isOne_11 rfl (by omega) (by omega) (fun c2 => ?_) (fun c2 => ?_)
    · refine xx_iconst (pc := 18) dX12_isOne_18 cc_iconst_0 ?_
      exact xx_iret (pc := 19) dX12_isOne_19 rfl (rfl) (Nat.le_refl _) (Nat.le_refl _) (ic_re (ic_bo_f (by omega)).symm)
    · refine xx_iconst (pc := 14) dX12_isOne_14 cc_iconst_1 ?_
      refine xx_goto (pc := 15) 19 dX12_isOne_15 rfl ?_
      exact xx_iret (pc := 19) dX12_isOne_19 rfl (rfl) (Nat.le_refl _) (Nat.le_refl _) (ic_re (ic_bo_t (by omega)).symm)

set_option maxHeartbeats 4000000 in
set_option maxRecDepth 100000 in
theorem cM_isStop {l : Launch} {E : ic_E} {w : ic_w} {f : Nat} (hf : f < 2 ^ 32) : ic_C l E mX12_isStop 1 0 0 False [.int (nI f)] SHs (hn w) SHs (ic_qe (nI (ic_bo (f < 6))) (hn w)) := by
  refine ic_intro (by decide +kernel) (Nat.le_of_ble_eq_true rfl) ?_
  show xx l E _ _ 0 [(0, .int (nI f))] _ _ _
  refine xx_iload_n (pc := 0) dX12_isStop_0 0 rfl rfl ?_
  refine xx_if_ltS (pc := 1) 14 dX12_isStop_1 rfl (by omega) (fun c1 => ?_) (fun c1 => ?_)
  · refine xx_iconst (pc := 14) dX12_isStop_14 cc_iconst_0 ?_
    exact xx_iret (pc := 15) dX12_isStop_15 rfl (rfl) (Nat.le_refl _) (Nat.le_refl _) (ic_re (ic_bo_f (by omega)).symm)
  · refine xx_iload_n (pc := 4) dX12_isStop_4 0 rfl rfl ?_
    refine xx_bipush (pc := 5) dX12_isStop_5 cc_bipush_6 ?_
    refine xx_icmp_geN (pc := 7) 14 dX12_isStop_7 rfl (by omega) (by omega) (fun c2 => ?_) (fun c2 => ?_)
    · refine xx_iconst (pc := 14) dX12_isStop_14 cc_iconst_0 ?_
      exact xx_iret (pc := 15) dX12_isStop_15 rfl (rfl) (Nat.le_refl _) (Nat.le_refl _) (ic_re (ic_bo_f (by omega)).symm)
    · refine xx_iconst (pc := 10) dX12_isStop_10 cc_iconst_1 ?_
      refine xx_goto (pc := 11) 15 dX12_isStop_11 rfl ?_
      exact xx_iret (pc := 15) dX12_isStop_15 rfl (rfl) (Nat.le_refl _) (Nat.le_refl _) (ic_re (ic_bo_t (by omega)).symm)

set_option maxHeartbeats 4000000 in
set_option maxRecDepth 100000 in
theorem cM_isOver {l : Launch} {E : ic_E} {w : ic_w} (hI : In (w 115)) : ic_C l E mX12_isOver 1 0 0 False [ic_pt E 114] SHs (hn w) SHs (ic_qe (nI (ic_bo (w 115 2 ≤ w 115 1))) (hn w)) := by
  refine ic_intro (by decide +kernel) (Nat.le_of_ble_eq_true rfl) ?_
  show xx l E _ _ 0 [(0, ic_pt E 114)] _ _ _
  have ht := hI.t
  refine xx_aload_nP (pc := 0) dX12_isOver_0 0 rfl rfl ?_
  refine xx_getR (pc := 1) 115 dX12_isOver_1 sh_114 fX12_7_12 rfl rfl (by decide) ?_
  refine xx_iconst (pc := 4) dX12_isOver_4 cc_iconst_1 ?_
  refine xx_ialdN (pc := 5) dX12_isOver_5 sh_115 (by omega) (by decide) ?_
  refine xx_aload_nP (pc := 6) dX12_isOver_6 0 rfl rfl ?_
  refine xx_getR (pc := 7) 115 dX12_isOver_7 sh_114 fX12_7_12 rfl rfl (by decide) ?_
  refine xx_iconst (pc := 10) dX12_isOver_10 cc_iconst_2 ?_
  refine xx_ialdN (pc := 11) dX12_isOver_11 sh_115 (by omega) (by decide) ?_
  refine xx_icmp_ltN (pc := 12) 19 dX12_isOver_12 rfl (by omega) (by omega) (fun c1 => ?_) (fun c1 => ?_)
  · refine xx_iconst (pc := 19) dX12_isOver_19 cc_iconst_0 ?_
    exact xx_iret (pc := 20) dX12_isOver_20 rfl (rfl) (Nat.le_refl _) (Nat.le_refl _) (ic_re (ic_bo_f (by omega)).symm)
  · refine xx_iconst (pc := 15) dX12_isOver_15 cc_iconst_1 ?_
    refine xx_goto (pc := 16) 20 dX12_isOver_16 rfl ?_
    exact xx_iret (pc := 20) dX12_isOver_20 rfl (rfl) (Nat.le_refl _) (Nat.le_refl _) (ic_re (ic_bo_t (by omega)).symm)

set_option maxHeartbeats 4000000 in
set_option maxRecDepth 100000 in
theorem cM_sinks {l : Launch} {E : ic_E} {w : ic_w} {k cr q : Nat} (hk : k ≤ 5) (hc : cr ≤ 15) (hq : q ≤ 6) : ic_C l E mX12_sinks 2 0 0 False [.int (nI k), .int (nI cr), .int (nI q)] SHs (hn w) SHs (ic_qe (nI (mo_sinks k cr q)) (hn w)) := by
  refine ic_intro (by decide +kernel) (Nat.le_of_ble_eq_true rfl) ?_
  show xx l E _ _ 0 [(0, .int (nI k)), (1, .int (nI cr)), (2, .int (nI q))] _ _ _
  rcases (show k = 0 ∨ k = 1 ∨ k = 2 ∨ k = 3 ∨ k = 4 ∨ k = 5 by omega) with rfl | rfl | rfl | rfl | rfl | rfl
  · refine xx_iload_n (pc := 0) dX12_sinks_0 1 rfl rfl ?_
    refine xx_iconst (pc := 1) dX12_sinks_1 cc_iconst_4 ?_
    refine xx_idivN (pc := 2) dX12_sinks_2 (by omega) (by omega) (by omega) ?_
    refine xx_iload_n (pc := 3) dX12_sinks_3 2 rfl rfl ?_
    refine xx_iaddN (pc := 4) dX12_sinks_4 ?_
    refine xx_istore_n (L' := [(3, .int (nI ((cr / 4) + q))), (0, .int (nI 0)), (1, .int (nI cr)), (2, .int (nI q))]) (pc := 5) dX12_sinks_5 rfl (Nat.le_of_ble_eq_true rfl) rfl ?_
    refine xx_iload_n (pc := 6) dX12_sinks_6 2 rfl rfl ?_
    refine xx_iconst (pc := 7) dX12_sinks_7 cc_iconst_4 ?_
    refine xx_iremN (pc := 8) dX12_sinks_8 (by omega) (by omega) (by omega) ?_
    refine xx_istore (L' := [(4, .int (nI (cr % 4))), (3, .int (nI ((cr / 4) + q))), (0, .int (nI 0)), (1, .int (nI cr)), (2, .int (nI q))]) (pc := 9) dX12_sinks_9 (Nat.le_of_ble_eq_true rfl) rfl ?_
    refine xx_iload_n (pc := 11) dX12_sinks_11 2 rfl rfl ?_
    refine xx_tout (pc := 12) 74 dX12_sinks_12 (by decide) rfl ?_
    refine xx_iconst (pc := 74) dX12_sinks_74 cc_iconst_0 ?_
    refine xx_iload_n (pc := 75) dX12_sinks_75 1 rfl rfl ?_
    refine xx_iload (pc := 76) dX12_sinks_76 0 rfl ?_
    refine xx_isubW (pc := 78) dX12_sinks_78 (by omega) ?_
    refine xx_callS0 (pc := 79) (st := []) (cM_greatest0 (w := w) (a := ((cr / 4) + q)) (b := (cr % 4)) (by omega) (by omega)) kX12_greatest sX12_78 dX12_sinks_79 rfl rfl (Nat.le_of_ble_eq_true rfl) ⟨Nat.le_of_ble_eq_true rfl, Nat.le_of_ble_eq_true rfl⟩ ⟨Nat.zero_le _, Nat.zero_le _⟩ (ic_ke ?_)
    refine xx_iconst (pc := 82) dX12_sinks_82 cc_iconst_2 ?_
    refine xx_idivN (pc := 83) dX12_sinks_83 (by omega) (by omega) (by omega) ?_
    exact xx_iret (pc := 84) dX12_sinks_84 rfl (rfl) (Nat.le_refl _) (Nat.le_refl _) (ic_re (by simp [mo_sinks, *]; try omega))
  · refine xx_iload_n (pc := 0) dX12_sinks_0 1 rfl rfl ?_
    refine xx_iconst (pc := 1) dX12_sinks_1 cc_iconst_4 ?_
    refine xx_idivN (pc := 2) dX12_sinks_2 (by omega) (by omega) (by omega) ?_
    refine xx_iload_n (pc := 3) dX12_sinks_3 2 rfl rfl ?_
    refine xx_iaddN (pc := 4) dX12_sinks_4 ?_
    refine xx_istore_n (L' := [(3, .int (nI ((cr / 4) + q))), (0, .int (nI 1)), (1, .int (nI cr)), (2, .int (nI q))]) (pc := 5) dX12_sinks_5 rfl (Nat.le_of_ble_eq_true rfl) rfl ?_
    refine xx_iload_n (pc := 6) dX12_sinks_6 2 rfl rfl ?_
    refine xx_iconst (pc := 7) dX12_sinks_7 cc_iconst_4 ?_
    refine xx_iremN (pc := 8) dX12_sinks_8 (by omega) (by omega) (by omega) ?_
    refine xx_istore (L' := [(4, .int (nI (cr % 4))), (3, .int (nI ((cr / 4) + q))), (0, .int (nI 1)), (1, .int (nI cr)), (2, .int (nI q))]) (pc := 9) dX12_sinks_9 (Nat.le_of_ble_eq_true rfl) rfl ?_
    refine xx_iload_n (pc := 11) dX12_sinks_11 2 rfl rfl ?_
    refine xx_tin (pc := 12) 44 dX12_sinks_12 (by decide) (by decide) rfl rfl ?_
    refine xx_iload (pc := 44) dX12_sinks_44 0 rfl ?_
    refine xx_if_leN (pc := 46) 53 dX12_sinks_46 rfl (by omega) (fun c1 => ?_) (fun c1 => ?_)
    · refine xx_iconst (pc := 53) dX12_sinks_53 cc_iconst_1 ?_
      exact xx_iret (pc := 54) dX12_sinks_54 rfl (rfl) (Nat.le_refl _) (Nat.le_refl _) (ic_re (by simp [mo_sinks, *]; try omega))
    · refine xx_iconst (pc := 49) dX12_sinks_49 cc_iconst_0 ?_
      refine xx_goto (pc := 50) 54 dX12_sinks_50 rfl ?_
      exact xx_iret (pc := 54) dX12_sinks_54 rfl (rfl) (Nat.le_refl _) (Nat.le_refl _) (ic_re (by simp [mo_sinks, *]; try omega))
  · refine xx_iload_n (pc := 0) dX12_sinks_0 1 rfl rfl ?_
    refine xx_iconst (pc := 1) dX12_sinks_1 cc_iconst_4 ?_
    refine xx_idivN (pc := 2) dX12_sinks_2 (by omega) (by omega) (by omega) ?_
    refine xx_iload_n (pc := 3) dX12_sinks_3 2 rfl rfl ?_
    refine xx_iaddN (pc := 4) dX12_sinks_4 ?_
    refine xx_istore_n (L' := [(3, .int (nI ((cr / 4) + q))), (0, .int (nI 2)), (1, .int (nI cr)), (2, .int (nI q))]) (pc := 5) dX12_sinks_5 rfl (Nat.le_of_ble_eq_true rfl) rfl ?_
    refine xx_iload_n (pc := 6) dX12_sinks_6 2 rfl rfl ?_
    refine xx_iconst (pc := 7) dX12_sinks_7 cc_iconst_4 ?_
    refine xx_iremN (pc := 8) dX12_sinks_8 (by omega) (by omega) (by omega) ?_
    refine xx_istore (L' := [(4, .int (nI (cr % 4))), (3, .int (nI ((cr / 4) + q))), (0, .int (nI 2)), (1, .int (nI cr)), (2, .int (nI q))]) (pc := 9) dX12_sinks_9 (Nat.le_of_ble_eq_true rfl) rfl ?_
    refine xx_iload_n (pc := 11) dX12_sinks_11 2 rfl rfl ?_
    refine xx_tin (pc := 12) 55 dX12_sinks_12 (by decide) (by decide) rfl rfl ?_
    refine xx_iconst (pc := 55) dX12_sinks_55 cc_iconst_2 ?_
    refine xx_iload_n (pc := 56) dX12_sinks_56 1 rfl rfl ?_
    refine xx_imulN (pc := 57) dX12_sinks_57 ?_
    exact xx_iret (pc := 58) dX12_sinks_58 rfl (rfl) (Nat.le_refl _) (Nat.le_refl _) (ic_re (by simp [mo_sinks, *]; try omega))
  · refine xx_iload_n (pc := 0) dX12_sinks_0 1 rfl rfl ?_
    refine xx_iconst (pc := 1) dX12_sinks_1 cc_iconst_4 ?_
    refine xx_idivN (pc := 2) dX12_sinks_2 (by omega) (by omega) (by omega) ?_
    refine xx_iload_n (pc := 3) dX12_sinks_3 2 rfl rfl ?_
    refine xx_iaddN (pc := 4) dX12_sinks_4 ?_
    refine xx_istore_n (L' := [(3, .int (nI ((cr / 4) + q))), (0, .int (nI 3)), (1, .int (nI cr)), (2, .int (nI q))]) (pc := 5) dX12_sinks_5 rfl (Nat.le_of_ble_eq_true rfl) rfl ?_
    refine xx_iload_n (pc := 6) dX12_sinks_6 2 rfl rfl ?_
    refine xx_iconst (pc := 7) dX12_sinks_7 cc_iconst_4 ?_
    refine xx_iremN (pc := 8) dX12_sinks_8 (by omega) (by omega) (by omega) ?_
    refine xx_istore (L' := [(4, .int (nI (cr % 4))), (3, .int (nI ((cr / 4) + q))), (0, .int (nI 3)), (1, .int (nI cr)), (2, .int (nI q))]) (pc := 9) dX12_sinks_9 (Nat.le_of_ble_eq_true rfl) rfl ?_
    refine xx_iload_n (pc := 11) dX12_sinks_11 2 rfl rfl ?_
    refine xx_tin (pc := 12) 59 dX12_sinks_12 (by decide) (by decide) rfl rfl ?_
    refine xx_iconst (pc := 59) dX12_sinks_59 cc_iconst_2 ?_
    refine xx_iload_n (pc := 60) dX12_sinks_60 1 rfl rfl ?_
    refine xx_imulN (pc := 61) dX12_sinks_61 ?_
    refine xx_iconst (pc := 62) dX12_sinks_62 cc_iconst_3 ?_
    refine xx_iaddN (pc := 63) dX12_sinks_63 ?_
    exact xx_iret (pc := 64) dX12_sinks_64 rfl (rfl) (Nat.le_refl _) (Nat.le_refl _) (ic_re (by simp [mo_sinks, *]; try omega))
  · refine xx_iload_n (pc := 0) dX12_sinks_0 1 rfl rfl ?_
    refine xx_iconst (pc := 1) dX12_sinks_1 cc_iconst_4 ?_
    refine xx_idivN (pc := 2) dX12_sinks_2 (by omega) (by omega) (by omega) ?_
    refine xx_iload_n (pc := 3) dX12_sinks_3 2 rfl rfl ?_
    refine xx_iaddN (pc := 4) dX12_sinks_4 ?_
    refine xx_istore_n (L' := [(3, .int (nI ((cr / 4) + q))), (0, .int (nI 4)), (1, .int (nI cr)), (2, .int (nI q))]) (pc := 5) dX12_sinks_5 rfl (Nat.le_of_ble_eq_true rfl) rfl ?_
    refine xx_iload_n (pc := 6) dX12_sinks_6 2 rfl rfl ?_
    refine xx_iconst (pc := 7) dX12_sinks_7 cc_iconst_4 ?_
    refine xx_iremN (pc := 8) dX12_sinks_8 (by omega) (by omega) (by omega) ?_
    refine xx_istore (L' := [(4, .int (nI (cr % 4))), (3, .int (nI ((cr / 4) + q))), (0, .int (nI 4)), (1, .int (nI cr)), (2, .int (nI q))]) (pc := 9) dX12_sinks_9 (Nat.le_of_ble_eq_true rfl) rfl ?_
    refine xx_iload_n (pc := 11) dX12_sinks_11 2 rfl rfl ?_
    refine xx_tin (pc := 12) 65 dX12_sinks_12 (by decide) (by decide) rfl rfl ?_
    refine xx_iconst (pc := 65) dX12_sinks_65 cc_iconst_0 ?_
    refine xx_iload_n (pc := 66) dX12_sinks_66 1 rfl rfl ?_
    refine xx_iload (pc := 67) dX12_sinks_67 0 rfl ?_
    refine xx_isubW (pc := 69) dX12_sinks_69 (by omega) ?_
    refine xx_callS0 (pc := 70) (st := []) (cM_greatest0 (w := w) (a := ((cr / 4) + q)) (b := (cr % 4)) (by omega) (by omega)) kX12_greatest sX12_78 dX12_sinks_70 rfl rfl (Nat.le_of_ble_eq_true rfl) ⟨Nat.le_of_ble_eq_true rfl, Nat.le_of_ble_eq_true rfl⟩ ⟨Nat.zero_le _, Nat.zero_le _⟩ (ic_ke ?_)
    exact xx_iret (pc := 73) dX12_sinks_73 rfl (rfl) (Nat.le_refl _) (Nat.le_refl _) (ic_re (by simp [mo_sinks, *]; try omega))
  · refine xx_iload_n (pc := 0) dX12_sinks_0 1 rfl rfl ?_
    refine xx_iconst (pc := 1) dX12_sinks_1 cc_iconst_4 ?_
    refine xx_idivN (pc := 2) dX12_sinks_2 (by omega) (by omega) (by omega) ?_
    refine xx_iload_n (pc := 3) dX12_sinks_3 2 rfl rfl ?_
    refine xx_iaddN (pc := 4) dX12_sinks_4 ?_
    refine xx_istore_n (L' := [(3, .int (nI ((cr / 4) + q))), (0, .int (nI 5)), (1, .int (nI cr)), (2, .int (nI q))]) (pc := 5) dX12_sinks_5 rfl (Nat.le_of_ble_eq_true rfl) rfl ?_
    refine xx_iload_n (pc := 6) dX12_sinks_6 2 rfl rfl ?_
    refine xx_iconst (pc := 7) dX12_sinks_7 cc_iconst_4 ?_
    refine xx_iremN (pc := 8) dX12_sinks_8 (by omega) (by omega) (by omega) ?_
    refine xx_istore (L' := [(4, .int (nI (cr % 4))), (3, .int (nI ((cr / 4) + q))), (0, .int (nI 5)), (1, .int (nI cr)), (2, .int (nI q))]) (pc := 9) dX12_sinks_9 (Nat.le_of_ble_eq_true rfl) rfl ?_
    refine xx_iload_n (pc := 11) dX12_sinks_11 2 rfl rfl ?_
    refine xx_tout (pc := 12) 74 dX12_sinks_12 (by decide) rfl ?_
    refine xx_iconst (pc := 74) dX12_sinks_74 cc_iconst_0 ?_
    refine xx_iload_n (pc := 75) dX12_sinks_75 1 rfl rfl ?_
    refine xx_iload (pc := 76) dX12_sinks_76 0 rfl ?_
    refine xx_isubW (pc := 78) dX12_sinks_78 (by omega) ?_
    refine xx_callS0 (pc := 79) (st := []) (cM_greatest0 (w := w) (a := ((cr / 4) + q)) (b := (cr % 4)) (by omega) (by omega)) kX12_greatest sX12_78 dX12_sinks_79 rfl rfl (Nat.le_of_ble_eq_true rfl) ⟨Nat.le_of_ble_eq_true rfl, Nat.le_of_ble_eq_true rfl⟩ ⟨Nat.zero_le _, Nat.zero_le _⟩ (ic_ke ?_)
    refine xx_iconst (pc := 82) dX12_sinks_82 cc_iconst_2 ?_
    refine xx_idivN (pc := 83) dX12_sinks_83 (by omega) (by omega) (by omega) ?_
    exact xx_iret (pc := 84) dX12_sinks_84 rfl (rfl) (Nat.le_refl _) (Nat.le_refl _) (ic_re (by simp [mo_sinks, *]; try omega))

set_option maxHeartbeats 4000000 in
set_option maxRecDepth 100000 in
theorem cM_drifts {l : Launch} {E : ic_E} {w : ic_w} {k t : Nat} (hk : k ≤ 5) (ht : t < 2 ^ 20) : ic_C l E mX12_drifts 1 0 0 False [.int (nI k), .int (nI t)] SHs (hn w) SHs (ic_qe (nI (mo_drifts k t)) (hn w)) := by
  refine ic_intro (by decide +kernel) (Nat.le_of_ble_eq_true rfl) ?_
  show xx l E _ _ 0 [(0, .int (nI k)), (1, .int (nI t))] _ _ _
  rcases (show k = 0 ∨ k = 1 ∨ k = 2 ∨ k = 3 ∨ k = 4 ∨ k = 5 by omega) with rfl | rfl | rfl | rfl | rfl | rfl
  · refine xx_iload_n (pc := 0) dX12_drifts_0 1 rfl rfl ?_
    refine xx_iconst (pc := 1) dX12_drifts_1 cc_iconst_2 ?_
    refine xx_iremN (pc := 2) dX12_drifts_2 (by omega) (by omega) (by omega) ?_
    refine xx_istore_n (L' := [(2, .int (nI (t % 2))), (0, .int (nI 0)), (1, .int (nI t))]) (pc := 3) dX12_drifts_3 rfl (Nat.le_of_ble_eq_true rfl) rfl ?_
    refine xx_iload_n (pc := 4) dX12_drifts_4 1 rfl rfl ?_
    refine xx_tout (pc := 5) 48 dX12_drifts_5 (by decide) rfl ?_
    refine xx_iconst (pc := 48) dX12_drifts_48 cc_iconst_1 ?_
    refine xx_iload_n (pc := 49) dX12_drifts_49 0 rfl rfl ?_
    refine xx_isubN (pc := 50) dX12_drifts_50 (by omega) ?_
    refine xx_iload_n (pc := 51) dX12_drifts_51 2 rfl rfl ?_
    refine xx_bipush (pc := 52) dX12_drifts_52 cc_bipush_7 ?_
    refine xx_icmp_leN (pc := 54) 61 dX12_drifts_54 rfl (by omega) (by omega) (fun c1 => ?_) (fun c1 => ?_)
    · refine xx_iconst (pc := 61) dX12_drifts_61 cc_iconst_0 ?_
      refine xx_iaddN (pc := 62) dX12_drifts_62 ?_
      exact xx_iret (pc := 63) dX12_drifts_63 rfl (rfl) (Nat.le_refl _) (Nat.le_refl _) (ic_re (by simp [mo_drifts, *]; try omega))
    · refine xx_iconst (pc := 57) dX12_drifts_57 cc_iconst_2 ?_
      refine xx_goto (pc := 58) 62 dX12_drifts_58 rfl ?_
      refine xx_iaddN (pc := 62) dX12_drifts_62 ?_
      exact xx_iret (pc := 63) dX12_drifts_63 rfl (rfl) (Nat.le_refl _) (Nat.le_refl _) (ic_re (by simp [mo_drifts, *]; try omega))
  · refine xx_iload_n (pc := 0) dX12_drifts_0 1 rfl rfl ?_
    refine xx_iconst (pc := 1) dX12_drifts_1 cc_iconst_2 ?_
    refine xx_iremN (pc := 2) dX12_drifts_2 (by omega) (by omega) (by omega) ?_
    refine xx_istore_n (L' := [(2, .int (nI (t % 2))), (0, .int (nI 1)), (1, .int (nI t))]) (pc := 3) dX12_drifts_3 rfl (Nat.le_of_ble_eq_true rfl) rfl ?_
    refine xx_iload_n (pc := 4) dX12_drifts_4 1 rfl rfl ?_
    refine xx_tin (pc := 5) 36 dX12_drifts_5 (by decide) (by decide) rfl rfl ?_
    refine xx_iconst (pc := 36) dX12_drifts_36 cc_iconst_1 ?_
    exact xx_iret (pc := 37) dX12_drifts_37 rfl (rfl) (Nat.le_refl _) (Nat.le_refl _) (ic_re (by simp [mo_drifts, *]; try omega))
  · refine xx_iload_n (pc := 0) dX12_drifts_0 1 rfl rfl ?_
    refine xx_iconst (pc := 1) dX12_drifts_1 cc_iconst_2 ?_
    refine xx_iremN (pc := 2) dX12_drifts_2 (by omega) (by omega) (by omega) ?_
    refine xx_istore_n (L' := [(2, .int (nI (t % 2))), (0, .int (nI 2)), (1, .int (nI t))]) (pc := 3) dX12_drifts_3 rfl (Nat.le_of_ble_eq_true rfl) rfl ?_
    refine xx_iload_n (pc := 4) dX12_drifts_4 1 rfl rfl ?_
    refine xx_tin (pc := 5) 38 dX12_drifts_5 (by decide) (by decide) rfl rfl ?_
    refine xx_iload_n (pc := 38) dX12_drifts_38 0 rfl rfl ?_
    exact xx_iret (pc := 39) dX12_drifts_39 rfl (rfl) (Nat.le_refl _) (Nat.le_refl _) (ic_re (by simp [mo_drifts, *]; try omega))
  · refine xx_iload_n (pc := 0) dX12_drifts_0 1 rfl rfl ?_
    refine xx_iconst (pc := 1) dX12_drifts_1 cc_iconst_2 ?_
    refine xx_iremN (pc := 2) dX12_drifts_2 (by omega) (by omega) (by omega) ?_
    refine xx_istore_n (L' := [(2, .int (nI (t % 2))), (0, .int (nI 3)), (1, .int (nI t))]) (pc := 3) dX12_drifts_3 rfl (Nat.le_of_ble_eq_true rfl) rfl ?_
    refine xx_iload_n (pc := 4) dX12_drifts_4 1 rfl rfl ?_
    refine xx_tin (pc := 5) 40 dX12_drifts_5 (by decide) (by decide) rfl rfl ?_
    refine xx_iconst (pc := 40) dX12_drifts_40 cc_iconst_2 ?_
    refine xx_iload_n (pc := 41) dX12_drifts_41 0 rfl rfl ?_
    refine xx_imulN (pc := 42) dX12_drifts_42 ?_
    exact xx_iret (pc := 43) dX12_drifts_43 rfl (rfl) (Nat.le_refl _) (Nat.le_refl _) (ic_re (by simp [mo_drifts, *]; try omega))
  · refine xx_iload_n (pc := 0) dX12_drifts_0 1 rfl rfl ?_
    refine xx_iconst (pc := 1) dX12_drifts_1 cc_iconst_2 ?_
    refine xx_iremN (pc := 2) dX12_drifts_2 (by omega) (by omega) (by omega) ?_
    refine xx_istore_n (L' := [(2, .int (nI (t % 2))), (0, .int (nI 4)), (1, .int (nI t))]) (pc := 3) dX12_drifts_3 rfl (Nat.le_of_ble_eq_true rfl) rfl ?_
    refine xx_iload_n (pc := 4) dX12_drifts_4 1 rfl rfl ?_
    refine xx_tin (pc := 5) 44 dX12_drifts_5 (by decide) (by decide) rfl rfl ?_
    refine xx_iconst (pc := 44) dX12_drifts_44 cc_iconst_1 ?_
    refine xx_iload_n (pc := 45) dX12_drifts_45 0 rfl rfl ?_
    refine xx_isubN (pc := 46) dX12_drifts_46 (by omega) ?_
    exact xx_iret (pc := 47) dX12_drifts_47 rfl (rfl) (Nat.le_refl _) (Nat.le_refl _) (ic_re (by simp [mo_drifts, *]; try omega))
  · refine xx_iload_n (pc := 0) dX12_drifts_0 1 rfl rfl ?_
    refine xx_iconst (pc := 1) dX12_drifts_1 cc_iconst_2 ?_
    refine xx_iremN (pc := 2) dX12_drifts_2 (by omega) (by omega) (by omega) ?_
    refine xx_istore_n (L' := [(2, .int (nI (t % 2))), (0, .int (nI 5)), (1, .int (nI t))]) (pc := 3) dX12_drifts_3 rfl (Nat.le_of_ble_eq_true rfl) rfl ?_
    refine xx_iload_n (pc := 4) dX12_drifts_4 1 rfl rfl ?_
    refine xx_tout (pc := 5) 48 dX12_drifts_5 (by decide) rfl ?_
    refine xx_iconst (pc := 48) dX12_drifts_48 cc_iconst_1 ?_
    refine xx_iload_n (pc := 49) dX12_drifts_49 0 rfl rfl ?_
    refine xx_isubN (pc := 50) dX12_drifts_50 (by omega) ?_
    refine xx_iload_n (pc := 51) dX12_drifts_51 2 rfl rfl ?_
    refine xx_bipush (pc := 52) dX12_drifts_52 cc_bipush_7 ?_
    refine xx_icmp_leN (pc := 54) 61 dX12_drifts_54 rfl (by omega) (by omega) (fun c1 => ?_) (fun c1 => ?_)
    · refine xx_iconst (pc := 61) dX12_drifts_61 cc_iconst_0 ?_
      refine xx_iaddN (pc := 62) dX12_drifts_62 ?_
      exact xx_iret (pc := 63) dX12_drifts_63 rfl (rfl) (Nat.le_refl _) (Nat.le_refl _) (ic_re (by simp [mo_drifts, *]; try omega))
    · refine xx_iconst (pc := 57) dX12_drifts_57 cc_iconst_2 ?_
      refine xx_goto (pc := 58) 62 dX12_drifts_58 rfl ?_
      refine xx_iaddN (pc := 62) dX12_drifts_62 ?_
      exact xx_iret (pc := 63) dX12_drifts_63 rfl (rfl) (Nat.le_refl _) (Nat.le_refl _) (ic_re (by simp [mo_drifts, *]; try omega))

set_option maxHeartbeats 4000000 in
set_option maxRecDepth 100000 in
theorem cM_others {l : Launch} {E : ic_E} {w : ic_w} {o : Nat} (ho : o < 6) (hI : In (w 115)) : ic_C l E mX12_others 2 0 0 False [ic_pt E 114, .int (nI o)] SHs (hn w) SHs (ic_qe (nI (mo_others (w 115) o)) (hn w)) := by
  refine ic_intro (by decide +kernel) (Nat.le_of_ble_eq_true rfl) ?_
  show xx l E _ _ 0 [(0, ic_pt E 114), (1, .int (nI o))] _ _ _
  have hn0 := hI.n
  have ho5 := hI.i ho
  have lp : ∀ (n_ : Nat) (q c : Nat), q ≤ w 115 0 → c = mo_cnt (fun q => decide (q ≠ o ∧ it (w 115) q 4 = 0 ∧ it (w 115) q 5 = it (w 115) o 5)) q → w 115 0 - q < n_ → xx l E (ic_fr E mX12_others 2 0 0 False SHs (ic_qe (nI (mo_others (w 115) o)) (hn w))) (0, 0) 4 [(3, .int (nI q)), (2, .int (nI c)), (0, ic_pt E 114), (1, .int (nI o))] [] SHs (hn w) := by
    intro n_
    induction n_ with
    | zero => intro q c hq hc hm_; exact absurd hm_ (Nat.not_lt_zero _)
    | succ n_ ih_ =>
      intro q c hq hc hm_
      have hcl := mo_cnt_le (fun q => decide (q ≠ o ∧ it (w 115) q 4 = 0 ∧ it (w 115) q 5 = it (w 115) o 5)) q
      refine xx_iload_n (pc := 4) dX12_others_4 0 rfl rfl ?_
      refine xx_aload_nP (pc := 5) dX12_others_5 2 rfl rfl ?_
      refine xx_getR (pc := 6) 115 dX12_others_6 sh_114 fX12_7_12 rfl rfl (by decide) ?_
      refine xx_iconst (pc := 9) dX12_others_9 cc_iconst_0 ?_
      refine xx_ialdN (pc := 10) dX12_others_10 sh_115 (by omega) (by decide) ?_
      refine xx_icmp_geN (pc := 11) 57 dX12_others_11 rfl (by omega) (by omega) (fun c1 => ?_) (fun c1 => ?_)
      · refine xx_iload_n (pc := 57) dX12_others_57 1 rfl rfl ?_
        exact xx_iret (pc := 58) dX12_others_58 rfl (rfl) (Nat.le_refl _) (Nat.le_refl _) (ic_re (by rw [hc, show q = w 115 0 by omega]; rfl))
      · have hq5 := hI.i (o := q) (by omega)
        refine xx_iload_n (pc := 14) dX12_others_14 1 rfl rfl ?_
        refine xx_iload_n (pc := 15) dX12_others_15 0 rfl rfl ?_
        refine xx_iload_n (pc := 16) dX12_others_16 3 rfl rfl ?_
        refine xx_icmp_eqN (pc := 17) 48 dX12_others_17 rfl (by omega) (by omega) (fun c2 => ?_) (fun c2 => ?_)
        · refine xx_iconst (pc := 48) dX12_others_48 cc_iconst_0 ?_
          refine xx_iaddN (pc := 49) dX12_others_49 ?_
          refine xx_istore_n (L' := [(2, .int (nI (c + 0))), (3, .int (nI q)), (0, ic_pt E 114), (1, .int (nI o))]) (pc := 50) dX12_others_50 rfl (Nat.le_of_ble_eq_true rfl) rfl ?_
          refine xx_iincN (L' := [(3, .int (nI (q + 1))), (2, .int (nI (c + 0))), (0, ic_pt E 114), (1, .int (nI o))]) (pc := 51) dX12_others_51 1 rfl cc_iconst_1 (Nat.le_of_ble_eq_true rfl) rfl ?_
          refine xx_goto (pc := 54) 4 dX12_others_54 rfl ?_
          exact xx_sub [0, 1, 2, 3] rfl (ih_ (q + 1) _ (by omega) (by rw [hc]; exact (mo_cnt_f (by simp; intros; simp_all)).symm) (by omega))
        · refine xx_aload_nP (pc := 20) dX12_others_20 2 rfl rfl ?_
          refine xx_iload_n (pc := 21) dX12_others_21 0 rfl rfl ?_
          refine xx_iconst (pc := 22) dX12_others_22 cc_iconst_4 ?_
          refine xx_callV0 (pc := 23) (st := [.int (nI c)]) sh_114 (cM_its (w := w) (o := q) (k := 4) (by omega) (by omega)) kX12_its vX12_82_12 dX12_others_23 rfl rfl (Nat.le_of_ble_eq_true rfl) ⟨Nat.le_of_ble_eq_true rfl, Nat.le_of_ble_eq_true rfl⟩ ⟨Nat.zero_le _, Nat.zero_le _⟩ (ic_ke ?_)
          refine xx_if_neN (pc := 26) 48 dX12_others_26 rfl (by omega) (fun c3 => ?_) (fun c3 => ?_)
          · refine xx_iconst (pc := 48) dX12_others_48 cc_iconst_0 ?_
            refine xx_iaddN (pc := 49) dX12_others_49 ?_
            refine xx_istore_n (L' := [(2, .int (nI (c + 0))), (3, .int (nI q)), (0, ic_pt E 114), (1, .int (nI o))]) (pc := 50) dX12_others_50 rfl (Nat.le_of_ble_eq_true rfl) rfl ?_
            refine xx_iincN (L' := [(3, .int (nI (q + 1))), (2, .int (nI (c + 0))), (0, ic_pt E 114), (1, .int (nI o))]) (pc := 51) dX12_others_51 1 rfl cc_iconst_1 (Nat.le_of_ble_eq_true rfl) rfl ?_
            refine xx_goto (pc := 54) 4 dX12_others_54 rfl ?_
            exact xx_sub [0, 1, 2, 3] rfl (ih_ (q + 1) _ (by omega) (by rw [hc]; exact (mo_cnt_f (by simp; intros; simp_all)).symm) (by omega))
          · refine xx_aload_nP (pc := 29) dX12_others_29 2 rfl rfl ?_
            refine xx_iload_n (pc := 30) dX12_others_30 0 rfl rfl ?_
            refine xx_iconst (pc := 31) dX12_others_31 cc_iconst_5 ?_
            refine xx_callV0 (pc := 32) (st := [.int (nI c)]) sh_114 (cM_its (w := w) (o := q) (k := 5) (by omega) (by omega)) kX12_its vX12_82_12 dX12_others_32 rfl rfl (Nat.le_of_ble_eq_true rfl) ⟨Nat.le_of_ble_eq_true rfl, Nat.le_of_ble_eq_true rfl⟩ ⟨Nat.zero_le _, Nat.zero_le _⟩ (ic_ke ?_)
            refine xx_aload_nP (pc := 35) dX12_others_35 2 rfl rfl ?_
            refine xx_iload_n (pc := 36) dX12_others_36 3 rfl rfl ?_
            refine xx_iconst (pc := 37) dX12_others_37 cc_iconst_5 ?_
            refine xx_callV0 (pc := 38) (st := [.int (nI (it (w 115) q 5)), .int (nI c)]) sh_114 (cM_its (w := w) (o := o) (k := 5) (by omega) (by omega)) kX12_its vX12_82_12 dX12_others_38 rfl rfl (Nat.le_of_ble_eq_true rfl) ⟨Nat.le_of_ble_eq_true rfl, Nat.le_of_ble_eq_true rfl⟩ ⟨Nat.zero_le _, Nat.zero_le _⟩ (ic_ke ?_)
            refine xx_icmp_neN (pc := 41) 48 dX12_others_41 rfl (by omega) (by omega) (fun c4 => ?_) (fun c4 => ?_)
            · refine xx_iconst (pc := 48) dX12_others_48 cc_iconst_0 ?_
              refine xx_iaddN (pc := 49) dX12_others_49 ?_
              refine xx_istore_n (L' := [(2, .int (nI (c + 0))), (3, .int (nI q)), (0, ic_pt E 114), (1, .int (nI o))]) (pc := 50) dX12_others_50 rfl (Nat.le_of_ble_eq_true rfl) rfl ?_
              refine xx_iincN (L' := [(3, .int (nI (q + 1))), (2, .int (nI (c + 0))), (0, ic_pt E 114), (1, .int (nI o))]) (pc := 51) dX12_others_51 1 rfl cc_iconst_1 (Nat.le_of_ble_eq_true rfl) rfl ?_
              refine xx_goto (pc := 54) 4 dX12_others_54 rfl ?_
              exact xx_sub [0, 1, 2, 3] rfl (ih_ (q + 1) _ (by omega) (by rw [hc]; exact (mo_cnt_f (by simp; intros; simp_all)).symm) (by omega))
            · refine xx_iconst (pc := 44) dX12_others_44 cc_iconst_1 ?_
              refine xx_goto (pc := 45) 49 dX12_others_45 rfl ?_
              refine xx_iaddN (pc := 49) dX12_others_49 ?_
              refine xx_istore_n (L' := [(2, .int (nI (c + 1))), (3, .int (nI q)), (0, ic_pt E 114), (1, .int (nI o))]) (pc := 50) dX12_others_50 rfl (Nat.le_of_ble_eq_true rfl) rfl ?_
              refine xx_iincN (L' := [(3, .int (nI (q + 1))), (2, .int (nI (c + 1))), (0, ic_pt E 114), (1, .int (nI o))]) (pc := 51) dX12_others_51 1 rfl cc_iconst_1 (Nat.le_of_ble_eq_true rfl) rfl ?_
              refine xx_goto (pc := 54) 4 dX12_others_54 rfl ?_
              exact xx_sub [0, 1, 2, 3] rfl (ih_ (q + 1) _ (by omega) (by rw [hc]; exact (mo_cnt_t (by simp [*])).symm) (by omega))
  refine xx_iconst (pc := 0) dX12_others_0 cc_iconst_0 ?_
  refine xx_istore_n (L' := [(2, .int (nI 0)), (0, ic_pt E 114), (1, .int (nI o))]) (pc := 1) dX12_others_1 rfl (Nat.le_of_ble_eq_true rfl) rfl ?_
  refine xx_iconst (pc := 2) dX12_others_2 cc_iconst_0 ?_
  refine xx_istore_n (L' := [(3, .int (nI 0)), (2, .int (nI 0)), (0, ic_pt E 114), (1, .int (nI o))]) (pc := 3) dX12_others_3 rfl (Nat.le_of_ble_eq_true rfl) rfl ?_
  exact xx_sub [0, 1, 2, 3] rfl (lp (w 115 0 + 1) 0 0 (by omega) rfl (by omega))

set_option maxHeartbeats 4000000 in
set_option maxRecDepth 100000 in
theorem cM_sunk {l : Launch} {E : ic_E} {w : ic_w} {o : Nat} (ho : o < 6) (hI : In (w 115)) : ic_C l E mX12_sunk 3 0 0 False [ic_pt E 114, .int (nI o)] SHs (hn w) SHs (ic_qe (nI (mo_sunk (w 115) o)) (hn w)) := by
  refine ic_intro (by decide +kernel) (Nat.le_of_ble_eq_true rfl) ?_
  show xx l E _ _ 0 [(0, ic_pt E 114), (1, .int (nI o))] _ _ _
  have ho5 := hI.i ho
  have hcr := hI.cr (w 115 1)
  have hot := mo_others_le hI o
  have ht := hI.t
  refine xx_aload_nP (pc := 0) dX12_sunk_0 0 rfl rfl ?_
  refine xx_iload_n (pc := 1) dX12_sunk_1 1 rfl rfl ?_
  refine xx_iconst (pc := 2) dX12_sunk_2 cc_iconst_0 ?_
  refine xx_callV0 (pc := 3) (st := []) sh_114 (cM_its (w := w) (o := o) (k := 0) (by omega) (by omega)) kX12_its vX12_82_12 dX12_sunk_3 rfl rfl (Nat.le_of_ble_eq_true rfl) ⟨Nat.le_of_ble_eq_true rfl, Nat.le_of_ble_eq_true rfl⟩ ⟨Nat.zero_le _, Nat.zero_le _⟩ (ic_ke ?_)
  refine xx_aload_nP (pc := 6) dX12_sunk_6 0 rfl rfl ?_
  refine xx_aload_nP (pc := 7) dX12_sunk_7 0 rfl rfl ?_
  refine xx_getR (pc := 8) 115 dX12_sunk_8 sh_114 fX12_7_12 rfl rfl (by decide) ?_
  refine xx_iconst (pc := 11) dX12_sunk_11 cc_iconst_1 ?_
  refine xx_ialdN (pc := 12) dX12_sunk_12 sh_115 (by omega) (by decide) ?_
  refine xx_callV0 (pc := 13) (st := [.int (nI (it (w 115) o 0))]) sh_114 (cM_crowdOf (w := w) (t := w 115 1) (by omega)) kX12_crowdOf vX12_85_12 dX12_sunk_13 rfl rfl (Nat.le_of_ble_eq_true rfl) ⟨Nat.le_of_ble_eq_true rfl, Nat.le_of_ble_eq_true rfl⟩ ⟨Nat.zero_le _, Nat.zero_le _⟩ (ic_ke ?_)
  refine xx_aload_nP (pc := 16) dX12_sunk_16 0 rfl rfl ?_
  refine xx_iload_n (pc := 17) dX12_sunk_17 1 rfl rfl ?_
  refine xx_callV0 (pc := 18) (st := [.int (nI (mo_crowd (w 115) (w 115 1))), .int (nI (it (w 115) o 0))]) sh_114 (cM_others (w := w) (o := o) (by omega) hI) kX12_others vX12_89_12 dX12_sunk_18 rfl rfl (Nat.le_of_ble_eq_true rfl) ⟨Nat.le_of_ble_eq_true rfl, Nat.le_of_ble_eq_true rfl⟩ ⟨Nat.zero_le _, Nat.zero_le _⟩ (ic_ke ?_)
  refine xx_callS0 (pc := 21) (st := []) (cM_sinks (w := w) (k := it (w 115) o 0) (cr := mo_crowd (w 115) (w 115 1)) (q := mo_others (w 115) o) (by omega) (by omega) (by omega)) kX12_sinks sX12_92 dX12_sunk_21 rfl rfl (Nat.le_of_ble_eq_true rfl) ⟨Nat.le_of_ble_eq_true rfl, Nat.le_of_ble_eq_true rfl⟩ ⟨Nat.zero_le _, Nat.zero_le _⟩ (ic_ke ?_)
  exact xx_iret (pc := 24) dX12_sunk_24 rfl (rfl) (Nat.le_refl _) (Nat.le_refl _) (ic_re (by rfl))

set_option maxHeartbeats 4000000 in
set_option maxRecDepth 100000 in
theorem cM_pays {l : Launch} {E : ic_E} {w : ic_w} {o : Nat} (ho : o < 6) (hI : In (w 115)) : ic_C l E mX12_pays 2 0 0 False [ic_pt E 114, .int (nI o)] SHs (hn w) SHs (ic_qe (nI (mo_pays (w 115) o)) (hn w)) := by
  refine ic_intro (by decide +kernel) (Nat.le_of_ble_eq_true rfl) ?_
  show xx l E _ _ 0 [(0, ic_pt E 114), (1, .int (nI o))] _ _ _
  have ho5 := hI.i ho
  have hg := (hI.f (f := it (w 115) o 5) (by omega)).1
  refine xx_aload_nP (pc := 0) dX12_pays_0 0 rfl rfl ?_
  refine xx_iload_n (pc := 1) dX12_pays_1 1 rfl rfl ?_
  refine xx_iconst (pc := 2) dX12_pays_2 cc_iconst_2 ?_
  refine xx_callV0 (pc := 3) (st := []) sh_114 (cM_its (w := w) (o := o) (k := 2) (by omega) (by omega)) kX12_its vX12_82_12 dX12_pays_3 rfl rfl (Nat.le_of_ble_eq_true rfl) ⟨Nat.le_of_ble_eq_true rfl, Nat.le_of_ble_eq_true rfl⟩ ⟨Nat.zero_le _, Nat.zero_le _⟩ (ic_ke ?_)
  refine xx_aload_nP (pc := 6) dX12_pays_6 0 rfl rfl ?_
  refine xx_getR (pc := 7) 115 dX12_pays_7 sh_114 fX12_7_12 rfl rfl (by decide) ?_
  refine xx_bipush (pc := 10) dX12_pays_10 cc_bipush_44 ?_
  refine xx_aload_nP (pc := 12) dX12_pays_12 0 rfl rfl ?_
  refine xx_iload_n (pc := 13) dX12_pays_13 1 rfl rfl ?_
  refine xx_iconst (pc := 14) dX12_pays_14 cc_iconst_5 ?_
  refine xx_callV0 (pc := 15) (st := [.int (nI 44), ic_pt E 115, .int (nI (it (w 115) o 2))]) sh_114 (cM_its (w := w) (o := o) (k := 5) (by omega) (by omega)) kX12_its vX12_82_12 dX12_pays_15 rfl rfl (Nat.le_of_ble_eq_true rfl) ⟨Nat.le_of_ble_eq_true rfl, Nat.le_of_ble_eq_true rfl⟩ ⟨Nat.zero_le _, Nat.zero_le _⟩ (ic_ke ?_)
  refine xx_iaddN (pc := 18) dX12_pays_18 ?_
  refine xx_ialdE (j2 := 44 + it (w 115) o 5) (pc := 19) dX12_pays_19 sh_115 (by omega) (by omega) (by decide) ?_
  refine xx_iaddN (pc := 20) dX12_pays_20 ?_
  refine xx_aload_nP (pc := 21) dX12_pays_21 0 rfl rfl ?_
  refine xx_iload_n (pc := 22) dX12_pays_22 1 rfl rfl ?_
  refine xx_iconst (pc := 23) dX12_pays_23 cc_iconst_5 ?_
  refine xx_callV0 (pc := 24) (st := [.int (nI ((it (w 115) o 2) + (w 115 (44 + it (w 115) o 5))))]) sh_114 (cM_its (w := w) (o := o) (k := 5) (by omega) (by omega)) kX12_its vX12_82_12 dX12_pays_24 rfl rfl (Nat.le_of_ble_eq_true rfl) ⟨Nat.le_of_ble_eq_true rfl, Nat.le_of_ble_eq_true rfl⟩ ⟨Nat.zero_le _, Nat.zero_le _⟩ (ic_ke ?_)
  refine xx_aload_nP (pc := 27) dX12_pays_27 0 rfl rfl ?_
  refine xx_iload_n (pc := 28) dX12_pays_28 1 rfl rfl ?_
  refine xx_iconst (pc := 29) dX12_pays_29 cc_iconst_3 ?_
  refine xx_callV0 (pc := 30) (st := [.int (nI (it (w 115) o 5)), .int (nI ((it (w 115) o 2) + (w 115 (44 + it (w 115) o 5))))]) sh_114 (cM_its (w := w) (o := o) (k := 3) (by omega) (by omega)) kX12_its vX12_82_12 dX12_pays_30 rfl rfl (Nat.le_of_ble_eq_true rfl) ⟨Nat.le_of_ble_eq_true rfl, Nat.le_of_ble_eq_true rfl⟩ ⟨Nat.zero_le _, Nat.zero_le _⟩ (ic_ke ?_)
  refine xx_icmp_neN (pc := 33) 41 dX12_pays_33 rfl (by omega) (by omega) (fun c1 => ?_) (fun c1 => ?_)
  · refine xx_iconst (pc := 41) dX12_pays_41 cc_iconst_2 ?_
    refine xx_iaddN (pc := 42) dX12_pays_42 ?_
    refine xx_istore_n (L' := [(2, .int (nI (((it (w 115) o 2) + (w 115 (44 + it (w 115) o 5))) + 2))), (0, ic_pt E 114), (1, .int (nI o))]) (pc := 43) dX12_pays_43 rfl (Nat.le_of_ble_eq_true rfl) rfl ?_
    refine xx_aload_nP (pc := 44) dX12_pays_44 1 rfl rfl ?_
    refine xx_iload_n (pc := 45) dX12_pays_45 2 rfl rfl ?_
    refine xx_iconst (pc := 46) dX12_pays_46 cc_iconst_4 ?_
    refine xx_callV0 (pc := 47) (st := []) sh_114 (cM_its (w := w) (o := o) (k := 4) (by omega) (by omega)) kX12_its vX12_82_12 dX12_pays_47 rfl rfl (Nat.le_of_ble_eq_true rfl) ⟨Nat.le_of_ble_eq_true rfl, Nat.le_of_ble_eq_true rfl⟩ ⟨Nat.zero_le _, Nat.zero_le _⟩ (ic_ke ?_)
    refine xx_iconst (pc := 50) dX12_pays_50 cc_iconst_1 ?_
    refine xx_icmp_neN (pc := 51) 58 dX12_pays_51 rfl (by omega) (by omega) (fun c2 => ?_) (fun c2 => ?_)
    · refine xx_iconst (pc := 58) dX12_pays_58 cc_iconst_0 ?_
      refine xx_iload_n (pc := 59) dX12_pays_59 0 rfl rfl ?_
      refine xx_aload_nP (pc := 60) dX12_pays_60 1 rfl rfl ?_
      refine xx_iload_n (pc := 61) dX12_pays_61 2 rfl rfl ?_
      refine xx_iconst (pc := 62) dX12_pays_62 cc_iconst_1 ?_
      refine xx_callV0 (pc := 63) (st := [.int (nI (((it (w 115) o 2) + (w 115 (44 + it (w 115) o 5))) + 2)), .int (nI 0)]) sh_114 (cM_its (w := w) (o := o) (k := 1) (by omega) (by omega)) kX12_its vX12_82_12 dX12_pays_63 rfl rfl (Nat.le_of_ble_eq_true rfl) ⟨Nat.le_of_ble_eq_true rfl, Nat.le_of_ble_eq_true rfl⟩ ⟨Nat.zero_le _, Nat.zero_le _⟩ (ic_ke ?_)
      refine xx_bipush (pc := 66) dX12_pays_66 cc_bipush_7 ?_
      refine xx_idivN (pc := 68) dX12_pays_68 (by omega) (by omega) (by omega) ?_
      refine xx_isubW (pc := 69) dX12_pays_69 (by omega) ?_
      refine xx_callS0 (pc := 70) (st := []) (cM_greatest0 (w := w) (a := (((it (w 115) o 2) + (w 115 (44 + it (w 115) o 5))) + 2)) (b := ((it (w 115) o 1) / 7)) (by omega) (by omega)) kX12_greatest sX12_78 dX12_pays_70 rfl rfl (Nat.le_of_ble_eq_true rfl) ⟨Nat.le_of_ble_eq_true rfl, Nat.le_of_ble_eq_true rfl⟩ ⟨Nat.zero_le _, Nat.zero_le _⟩ (ic_ke ?_)
      exact xx_iret (pc := 73) dX12_pays_73 rfl (rfl) (Nat.le_refl _) (Nat.le_refl _) (ic_re (by simp [mo_pays, *]; try omega))
    · refine xx_iconst (pc := 54) dX12_pays_54 cc_iconst_0 ?_
      refine xx_goto (pc := 55) 73 dX12_pays_55 rfl ?_
      exact xx_iret (pc := 73) dX12_pays_73 rfl (rfl) (Nat.le_refl _) (Nat.le_refl _) (ic_re (by simp [mo_pays, *]; try omega))
  · refine xx_bipush (pc := 36) dX12_pays_36 cc_bipush_9 ?_
    refine xx_goto (pc := 38) 42 dX12_pays_38 rfl ?_
    refine xx_iaddN (pc := 42) dX12_pays_42 ?_
    refine xx_istore_n (L' := [(2, .int (nI (((it (w 115) o 2) + (w 115 (44 + it (w 115) o 5))) + 9))), (0, ic_pt E 114), (1, .int (nI o))]) (pc := 43) dX12_pays_43 rfl (Nat.le_of_ble_eq_true rfl) rfl ?_
    refine xx_aload_nP (pc := 44) dX12_pays_44 1 rfl rfl ?_
    refine xx_iload_n (pc := 45) dX12_pays_45 2 rfl rfl ?_
    refine xx_iconst (pc := 46) dX12_pays_46 cc_iconst_4 ?_
    refine xx_callV0 (pc := 47) (st := []) sh_114 (cM_its (w := w) (o := o) (k := 4) (by omega) (by omega)) kX12_its vX12_82_12 dX12_pays_47 rfl rfl (Nat.le_of_ble_eq_true rfl) ⟨Nat.le_of_ble_eq_true rfl, Nat.le_of_ble_eq_true rfl⟩ ⟨Nat.zero_le _, Nat.zero_le _⟩ (ic_ke ?_)
    refine xx_iconst (pc := 50) dX12_pays_50 cc_iconst_1 ?_
    refine xx_icmp_neN (pc := 51) 58 dX12_pays_51 rfl (by omega) (by omega) (fun c3 => ?_) (fun c3 => ?_)
    · refine xx_iconst (pc := 58) dX12_pays_58 cc_iconst_0 ?_
      refine xx_iload_n (pc := 59) dX12_pays_59 0 rfl rfl ?_
      refine xx_aload_nP (pc := 60) dX12_pays_60 1 rfl rfl ?_
      refine xx_iload_n (pc := 61) dX12_pays_61 2 rfl rfl ?_
      refine xx_iconst (pc := 62) dX12_pays_62 cc_iconst_1 ?_
      refine xx_callV0 (pc := 63) (st := [.int (nI (((it (w 115) o 2) + (w 115 (44 + it (w 115) o 5))) + 9)), .int (nI 0)]) sh_114 (cM_its (w := w) (o := o) (k := 1) (by omega) (by omega)) kX12_its vX12_82_12 dX12_pays_63 rfl rfl (Nat.le_of_ble_eq_true rfl) ⟨Nat.le_of_ble_eq_true rfl, Nat.le_of_ble_eq_true rfl⟩ ⟨Nat.zero_le _, Nat.zero_le _⟩ (ic_ke ?_)
      refine xx_bipush (pc := 66) dX12_pays_66 cc_bipush_7 ?_
      refine xx_idivN (pc := 68) dX12_pays_68 (by omega) (by omega) (by omega) ?_
      refine xx_isubW (pc := 69) dX12_pays_69 (by omega) ?_
      refine xx_callS0 (pc := 70) (st := []) (cM_greatest0 (w := w) (a := (((it (w 115) o 2) + (w 115 (44 + it (w 115) o 5))) + 9)) (b := ((it (w 115) o 1) / 7)) (by omega) (by omega)) kX12_greatest sX12_78 dX12_pays_70 rfl rfl (Nat.le_of_ble_eq_true rfl) ⟨Nat.le_of_ble_eq_true rfl, Nat.le_of_ble_eq_true rfl⟩ ⟨Nat.zero_le _, Nat.zero_le _⟩ (ic_ke ?_)
      exact xx_iret (pc := 73) dX12_pays_73 rfl (rfl) (Nat.le_refl _) (Nat.le_refl _) (ic_re (by simp [mo_pays, *]; try omega))
    · refine xx_iconst (pc := 54) dX12_pays_54 cc_iconst_0 ?_
      refine xx_goto (pc := 55) 73 dX12_pays_55 rfl ?_
      exact xx_iret (pc := 73) dX12_pays_73 rfl (rfl) (Nat.le_refl _) (Nat.le_refl _) (ic_re (by simp [mo_pays, *]; try omega))

set_option maxHeartbeats 4000000 in
set_option maxRecDepth 100000 in
theorem cM_isUnder {l : Launch} {E : ic_E} {w : ic_w} {a b : Nat} (ha : a < 2 ^ 32) (hb : b < 2 ^ 32) : ic_C l E mX12_isUnder 1 0 0 False [.int (nI a), .int (nI b)] SHs (hn w) SHs (ic_qe (nI (ic_bo (mo_under a b = true))) (hn w)) := by
  refine ic_intro (by decide +kernel) (Nat.le_of_ble_eq_true rfl) ?_
  show xx l E _ _ 0 [(0, .int (nI a)), (1, .int (nI b))] _ _ _
  refine xx_iload_n (pc := 0) dX12_isUnder_0 1 rfl rfl ?_
  refine xx_if_eqN (pc := 1) 29 dX12_isUnder_1 rfl (by omega) (fun c1 => ?_) (fun c1 => ?_)
  · refine xx_iconst (pc := 29) dX12_isUnder_29 cc_iconst_1 ?_
    refine xx_goto (pc := 30) 34 dX12_isUnder_30 rfl ?_
    exact xx_iret (pc := 34) dX12_isUnder_34 rfl (rfl) (Nat.le_refl _) (Nat.le_refl _) (ic_re (ic_bo_t (by unfold mo_under; simp; omega)).symm)
  · refine xx_iload_n (pc := 4) dX12_isUnder_4 0 rfl rfl ?_
    refine xx_iload_n (pc := 5) dX12_isUnder_5 1 rfl rfl ?_
    refine xx_icmp_eqN (pc := 6) 29 dX12_isUnder_6 rfl (by omega) (by omega) (fun c2 => ?_) (fun c2 => ?_)
    · refine xx_iconst (pc := 29) dX12_isUnder_29 cc_iconst_1 ?_
      refine xx_goto (pc := 30) 34 dX12_isUnder_30 rfl ?_
      exact xx_iret (pc := 34) dX12_isUnder_34 rfl (rfl) (Nat.le_refl _) (Nat.le_refl _) (ic_re (ic_bo_t (by unfold mo_under; simp; omega)).symm)
    · refine xx_iload_n (pc := 9) dX12_isUnder_9 1 rfl rfl ?_
      refine xx_iconst (pc := 10) dX12_isUnder_10 cc_iconst_2 ?_
      refine xx_icmp_neN (pc := 11) 19 dX12_isUnder_11 rfl (by omega) (by omega) (fun c3 => ?_) (fun c3 => ?_)
      · refine xx_iload_n (pc := 19) dX12_isUnder_19 1 rfl rfl ?_
        refine xx_iconst (pc := 20) dX12_isUnder_20 cc_iconst_4 ?_
        refine xx_icmp_neN (pc := 21) 33 dX12_isUnder_21 rfl (by omega) (by omega) (fun c4 => ?_) (fun c4 => ?_)
        · refine xx_iconst (pc := 33) dX12_isUnder_33 cc_iconst_0 ?_
          exact xx_iret (pc := 34) dX12_isUnder_34 rfl (rfl) (Nat.le_refl _) (Nat.le_refl _) (ic_re (ic_bo_f (by unfold mo_under; simp; omega)).symm)
        · refine xx_iload_n (pc := 24) dX12_isUnder_24 0 rfl rfl ?_
          refine xx_iconst (pc := 25) dX12_isUnder_25 cc_iconst_5 ?_
          refine xx_icmp_neN (pc := 26) 33 dX12_isUnder_26 rfl (by omega) (by omega) (fun c5 => ?_) (fun c5 => ?_)
          · refine xx_iconst (pc := 33) dX12_isUnder_33 cc_iconst_0 ?_
            exact xx_iret (pc := 34) dX12_isUnder_34 rfl (rfl) (Nat.le_refl _) (Nat.le_refl _) (ic_re (ic_bo_f (by unfold mo_under; simp; omega)).symm)
          · refine xx_iconst (pc := 29) dX12_isUnder_29 cc_iconst_1 ?_
            refine xx_goto (pc := 30) 34 dX12_isUnder_30 rfl ?_
            exact xx_iret (pc := 34) dX12_isUnder_34 rfl (rfl) (Nat.le_refl _) (Nat.le_refl _) (ic_re (ic_bo_t (by unfold mo_under; simp; omega)).symm)
      · refine xx_iload_n (pc := 14) dX12_isUnder_14 0 rfl rfl ?_
        refine xx_iconst (pc := 15) dX12_isUnder_15 cc_iconst_3 ?_
        refine xx_icmp_eqN (pc := 16) 29 dX12_isUnder_16 rfl (by omega) (by omega) (fun c6 => ?_) (fun c6 => ?_)
        · refine xx_iconst (pc := 29) dX12_isUnder_29 cc_iconst_1 ?_
          refine xx_goto (pc := 30) 34 dX12_isUnder_30 rfl ?_
          exact xx_iret (pc := 34) dX12_isUnder_34 rfl (rfl) (Nat.le_refl _) (Nat.le_refl _) (ic_re (ic_bo_t (by unfold mo_under; simp; omega)).symm)
        · refine xx_iload_n (pc := 19) dX12_isUnder_19 1 rfl rfl ?_
          refine xx_iconst (pc := 20) dX12_isUnder_20 cc_iconst_4 ?_
          refine xx_icmp_neN (pc := 21) 33 dX12_isUnder_21 rfl (by omega) (by omega) (fun c7 => ?_) (fun c7 => ?_)
          · refine xx_iconst (pc := 33) dX12_isUnder_33 cc_iconst_0 ?_
            exact xx_iret (pc := 34) dX12_isUnder_34 rfl (rfl) (Nat.le_refl _) (Nat.le_refl _) (ic_re (ic_bo_f (by unfold mo_under; simp; omega)).symm)
          · refine xx_iload_n (pc := 24) dX12_isUnder_24 0 rfl rfl ?_
            refine xx_iconst (pc := 25) dX12_isUnder_25 cc_iconst_5 ?_
            refine xx_icmp_neN (pc := 26) 33 dX12_isUnder_26 rfl (by omega) (by omega) (fun c8 => ?_) (fun c8 => ?_)
            · refine xx_iconst (pc := 33) dX12_isUnder_33 cc_iconst_0 ?_
              exact xx_iret (pc := 34) dX12_isUnder_34 rfl (rfl) (Nat.le_refl _) (Nat.le_refl _) (ic_re (ic_bo_f (by unfold mo_under; simp; omega)).symm)
            · refine xx_iconst (pc := 29) dX12_isUnder_29 cc_iconst_1 ?_
              refine xx_goto (pc := 30) 34 dX12_isUnder_30 rfl ?_
              exact xx_iret (pc := 34) dX12_isUnder_34 rfl (rfl) (Nat.le_refl _) (Nat.le_refl _) (ic_re (ic_bo_t (by unfold mo_under; simp; omega)).symm)

