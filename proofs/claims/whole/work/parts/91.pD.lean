/-! the reader of the rules: steps -/
def tk_st (w : ic_w) (x y z : Nat) : ic_w := wu (wu (wu (wu w 115 (128 + 3 * w 115 7) x) 115 (129 + 3 * w 115 7) y) 115 (130 + 3 * w 115 7) z) 115 7 (w 115 7 + 1)
theorem tk_st_f (w : ic_w) (x y z : Nat) {a : Nat} (h : a ≠ 115) : tk_st w x y z a = w a := by
  unfold tk_st
  rw [wu_row _ _ _ h, wu_row _ _ _ h, wu_row _ _ _ h, wu_row _ _ _ h]
theorem tk_st_7 (w : ic_w) (x y z : Nat) : tk_st w x y z 115 7 = w 115 7 + 1 := by
  unfold tk_st
  rw [wu_s]
set_option maxHeartbeats 4000000 in
set_option maxRecDepth 100000 in
theorem cM_steps {l : Launch} {E : ic_E} {w : ic_w} {x y z : Nat} (hx : x < 2 ^ 32) (hy : y < 2 ^ 32) (hz_ : z < 2 ^ 32) (h10 : w 114 10 ≤ 1) (h7 : w 115 7 ≤ 140) : ic_C l E mX12_steps 1 0 0 False [ic_pt E 114, .int (nI x), .int (nI y), .int (nI z)] SHs (hn w) SHs (ic_qv (fun h_ => h_ = hn (if w 114 10 = 0 then tk_st w x y z else w))) := by
  refine ic_intro (by decide +kernel) (Nat.le_of_ble_eq_true rfl) ?_
  show xx l E _ _ 0 [(0, ic_pt E 114), (1, .int (nI x)), (2, .int (nI y)), (3, .int (nI z))] _ _ _
  refine xx_aload_nP (pc := 0) dX12_steps_0 0 rfl rfl ?_
  refine xx_getN (pc := 1) dX12_steps_1 sh_114 fX12_180_12 rfl ?_
  refine xx_if_neN (pc := 4) 79 dX12_steps_4 rfl (by omega) (fun c1 => ?_) (fun c1 => ?_)
  · exact xx_vret (pc := 79) dX12_steps_79 rfl (Nat.le_refl _) (Nat.le_refl _) (ic_rv0 (by rw [if_neg (by omega)]))
  · refine xx_aload_nP (pc := 7) dX12_steps_7 0 rfl rfl ?_
    refine xx_getR (pc := 8) 115 dX12_steps_8 sh_114 fX12_7_12 rfl rfl (by decide) ?_
    refine xx_sipush (pc := 11) dX12_steps_11 cc_sipush_128 ?_
    refine xx_iconst (pc := 14) dX12_steps_14 cc_iconst_3 ?_
    refine xx_aload_nP (pc := 15) dX12_steps_15 0 rfl rfl ?_
    refine xx_getR (pc := 16) 115 dX12_steps_16 sh_114 fX12_7_12 rfl rfl (by decide) ?_
    refine xx_bipush (pc := 19) dX12_steps_19 cc_bipush_7 ?_
    refine xx_ialdN (pc := 21) dX12_steps_21 sh_115 (by omega) (by decide) ?_
    refine xx_imulN (pc := 22) dX12_steps_22 ?_
    refine xx_iaddN (pc := 23) dX12_steps_23 ?_
    refine xx_iload_n (pc := 24) dX12_steps_24 1 rfl rfl ?_
    refine xx_iastE (j2 := 128 + 3 * w 115 7) (pc := 25) dX12_steps_25 sh_115 (by omega) (by omega) (by decide) ?_
    refine xx_nw (fun w2 ew2 => ?_)
    have s_w2 : w2 115 7 = w 115 7 := by rw [ew2, wu_k _ _ _ _ (by omega)]
    refine xx_aload_nP (pc := 26) dX12_steps_26 0 rfl rfl ?_
    refine xx_getR (pc := 27) 115 dX12_steps_27 sh_114 fX12_7_12 rfl rfl (by decide) ?_
    refine xx_sipush (pc := 30) dX12_steps_30 cc_sipush_128 ?_
    refine xx_iconst (pc := 33) dX12_steps_33 cc_iconst_3 ?_
    refine xx_aload_nP (pc := 34) dX12_steps_34 0 rfl rfl ?_
    refine xx_getR (pc := 35) 115 dX12_steps_35 sh_114 fX12_7_12 rfl rfl (by decide) ?_
    refine xx_bipush (pc := 38) dX12_steps_38 cc_bipush_7 ?_
    refine xx_ialdN (pc := 40) dX12_steps_40 sh_115 (by omega) (by decide) ?_
    refine xx_eqI (y := nI (w 115 7)) (by rw [s_w2]) ?_
    refine xx_imulN (pc := 41) dX12_steps_41 ?_
    refine xx_iaddN (pc := 42) dX12_steps_42 ?_
    refine xx_iconst (pc := 43) dX12_steps_43 cc_iconst_1 ?_
    refine xx_iaddN (pc := 44) dX12_steps_44 ?_
    refine xx_iload_n (pc := 45) dX12_steps_45 2 rfl rfl ?_
    refine xx_iastE (j2 := 129 + 3 * w 115 7) (pc := 46) dX12_steps_46 sh_115 (by omega) (by omega) (by decide) ?_
    refine xx_nw (fun w3 ew3 => ?_)
    have s_w3 : w3 115 7 = w 115 7 := by rw [ew3, wu_k _ _ _ _ (by omega)]; exact s_w2
    refine xx_aload_nP (pc := 47) dX12_steps_47 0 rfl rfl ?_
    refine xx_getR (pc := 48) 115 dX12_steps_48 sh_114 fX12_7_12 rfl rfl (by decide) ?_
    refine xx_sipush (pc := 51) dX12_steps_51 cc_sipush_128 ?_
    refine xx_iconst (pc := 54) dX12_steps_54 cc_iconst_3 ?_
    refine xx_aload_nP (pc := 55) dX12_steps_55 0 rfl rfl ?_
    refine xx_getR (pc := 56) 115 dX12_steps_56 sh_114 fX12_7_12 rfl rfl (by decide) ?_
    refine xx_bipush (pc := 59) dX12_steps_59 cc_bipush_7 ?_
    refine xx_ialdN (pc := 61) dX12_steps_61 sh_115 (by omega) (by decide) ?_
    refine xx_eqI (y := nI (w 115 7)) (by rw [s_w3]) ?_
    refine xx_imulN (pc := 62) dX12_steps_62 ?_
    refine xx_iaddN (pc := 63) dX12_steps_63 ?_
    refine xx_iconst (pc := 64) dX12_steps_64 cc_iconst_2 ?_
    refine xx_iaddN (pc := 65) dX12_steps_65 ?_
    refine xx_iload_n (pc := 66) dX12_steps_66 3 rfl rfl ?_
    refine xx_iastE (j2 := 130 + 3 * w 115 7) (pc := 67) dX12_steps_67 sh_115 (by omega) (by omega) (by decide) ?_
    refine xx_nw (fun w4 ew4 => ?_)
    have s_w4 : w4 115 7 = w 115 7 := by rw [ew4, wu_k _ _ _ _ (by omega)]; exact s_w3
    refine xx_aload_nP (pc := 68) dX12_steps_68 0 rfl rfl ?_
    refine xx_getR (pc := 69) 115 dX12_steps_69 sh_114 fX12_7_12 rfl rfl (by decide) ?_
    refine xx_bipush (pc := 72) dX12_steps_72 cc_bipush_7 ?_
    refine xx_dup2 (pc := 74) dX12_steps_74 rfl rfl ?_
    refine xx_ialdN (pc := 75) dX12_steps_75 sh_115 (by omega) (by decide) ?_
    refine xx_eqI (y := nI (w 115 7)) (by rw [s_w4]) ?_
    refine xx_iconst (pc := 76) dX12_steps_76 cc_iconst_1 ?_
    refine xx_iaddN (pc := 77) dX12_steps_77 ?_
    refine xx_iastN (pc := 78) dX12_steps_78 sh_115 (by omega) (by decide) ?_
    refine xx_nw (fun w5 ew5 => ?_)
    exact xx_vret (pc := 79) dX12_steps_79 rfl (Nat.le_refl _) (Nat.le_refl _) (ic_rv0 (by rw [if_pos (by omega)]; unfold tk_st; rw [ew5, ew4, ew3, ew2]))

