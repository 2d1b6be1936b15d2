/-! what is fed -/
def mo_bt8 (x : Int64) (k : Nat) : Nat := tn (x >>> ((nI (8 * k)).toInt64 &&& 63) &&& 255).toInt32
theorem mo_bt8_le (x : Int64) (k : Nat) : mo_bt8 x k ≤ 255 := by
  show ((x >>> ((nI (8 * k)).toInt64 &&& 63) &&& 255).toInt32).toBitVec.toNat ≤ 255
  rw [Int64.toBitVec_toInt32, BitVec.signExtend_eq_setWidth_of_le _ (by decide), BitVec.toNat_setWidth, Int64.toBitVec_and, BitVec.toNat_and]
  exact Nat.le_trans (Nat.mod_le _ _) Nat.and_le_right
def mo_fd (f : Nat → Nat) (x : Int64) (t : Nat) : Nat → Nat → Nat
  | 0 => f
  | k + 1 => fu (mo_fd f x t k) (t + k) (mo_bt8 x k)
theorem wu_id (w : ic_w) (o k : Nat) : wu w o k (w o k) = w := by
  funext a j
  unfold wu
  split
  · rename_i h
    rw [h.1, h.2]
  · rfl
theorem feed_s (w : ic_w) (f : Nat → Nat) (c i b d : Nat) : wu (wu (wu (wr w 118 f) 114 5 c) 118 i b) 114 5 d = wu (wr w 118 (fu f i b)) 114 5 d := by
  funext a j
  unfold wu wr fu
  by_cases h1 : a = 114
  · subst h1
    by_cases h2 : j = 5 <;> simp [h2]
  · by_cases h2 : a = 118
    · subst h2
      simp
    · simp [h1, h2]

set_option maxHeartbeats 4000000 in
set_option maxRecDepth 100000 in
theorem cM_feed {l : Launch} {E : ic_E} {w : ic_w} {x : Int64} {m : Nat} (hm_ : m < 2 ^ 32) (h5 : w 114 5 ≤ 200) : ic_C l E mX12_feed 3 0 0 False [ic_pt E 114, .long x, .int (nI m)] SHs (hn w) SHs (ic_qi (fun v_ h_ => v_ = nI (if (1 ≤ m ∧ m ≤ 8) then (if 200 < w 114 5 + m then 4294967294 else w 114 5 + m) else 4294967295) ∧ h_ = hn (if (1 ≤ m ∧ m ≤ 8) ∧ w 114 5 + m ≤ 200 then wu (wr w 118 (mo_fd (w 118) x (w 114 5) m)) 114 5 (w 114 5 + m) else w))) := by
  refine ic_intro (by decide +kernel) (Nat.le_of_ble_eq_true rfl) ?_
  show xx l E _ _ 0 [(0, ic_pt E 114), (1, .long x), (3, .int (nI m))] _ _ _
  have lp : ∀ (n_ : Nat) (k : Nat) (u : ic_w), k ≤ m → u = wu (wr w 118 (mo_fd (w 118) x (w 114 5) k)) 114 5 (w 114 5 + k) → (1 ≤ m ∧ m ≤ 8) → (w 114 5 + m ≤ 200) → m - k < n_ → xx l E (ic_fr E mX12_feed 3 0 0 False SHs (ic_qi (fun v_ h_ => v_ = nI (if (1 ≤ m ∧ m ≤ 8) then (if 200 < w 114 5 + m then 4294967294 else w 114 5 + m) else 4294967295) ∧ h_ = hn (if (1 ≤ m ∧ m ≤ 8) ∧ w 114 5 + m ≤ 200 then wu (wr w 118 (mo_fd (w 118) x (w 114 5) m)) 114 5 (w 114 5 + m) else w)))) (0, 0) 32 [(4, .int (nI k)), (0, ic_pt E 114), (1, .long x), (3, .int (nI m))] [] SHs (hn u) := by
    intro n_
    induction n_ with
    | zero => intro k u hk hu h1 h2 hm_; exact absurd hm_ (Nat.not_lt_zero _)
    | succ n_ ih_ =>
      intro k u hk hu h1 h2 hm_
      have e5 : u 114 5 = w 114 5 + k := by rw [hu, wu_s]
      refine xx_iload (pc := 32) dX12_feed_32 0 rfl ?_
      refine xx_iload_n (pc := 34) dX12_feed_34 3 rfl rfl ?_
      refine xx_icmp_geN (pc := 35) 75 dX12_feed_35 rfl (by omega) (by omega) (fun c1 => ?_) (fun c1 => ?_)
      · refine xx_aload_nP (pc := 75) dX12_feed_75 1 rfl rfl ?_
        refine xx_getN (pc := 76) dX12_feed_76 sh_114 fX12_153_12 rfl ?_
        exact xx_iret (pc := 79) dX12_feed_79 rfl (rfl) (Nat.le_refl _) (Nat.le_refl _) (ic_ri ⟨by rw [if_pos (by omega), if_neg (by omega), e5, show k = m by omega], by rw [if_pos (by omega), hu, show k = m by omega]⟩)
      · refine xx_aload_nP (pc := 38) dX12_feed_38 1 rfl rfl ?_
        refine xx_getR (pc := 39) 118 dX12_feed_39 sh_114 fX12_19_12 rfl rfl (by decide) ?_
        refine xx_aload_nP (pc := 42) dX12_feed_42 1 rfl rfl ?_
        refine xx_getN (pc := 43) dX12_feed_43 sh_114 fX12_153_12 rfl ?_
        refine xx_lload_n (pc := 46) dX12_feed_46 2 rfl rfl ?_
        refine xx_bipush (pc := 47) dX12_feed_47 cc_bipush_8 ?_
        refine xx_iload (pc := 49) dX12_feed_49 0 rfl ?_
        refine xx_imulN (pc := 51) dX12_feed_51 ?_
        refine xx_lshr (pc := 52) dX12_feed_52 ?_
        refine xx_ldc2 (v := 255) (pc := 53) dX12_feed_53 oX12_157 ?_
        refine xx_land (pc := 56) dX12_feed_56 ?_
        refine xx_l2i (pc := 57) dX12_feed_57 ?_
        refine xx_eqI (y := nI (tn ((x >>> ((nI (8 * k)).toInt64 &&& 63)) &&& 255).toInt32)) (nI_tn _).symm ?_
        refine xx_iastN (pc := 58) dX12_feed_58 sh_118 (by omega) (by decide) ?_
        refine xx_nw (fun w2 ew2 => ?_)
        refine xx_aload_nP (pc := 59) dX12_feed_59 1 rfl rfl ?_
        refine xx_dup (pc := 60) dX12_feed_60 rfl ?_
        refine xx_getN (pc := 61) dX12_feed_61 sh_114 fX12_153_12 rfl ?_
        refine xx_iconst (pc := 64) dX12_feed_64 cc_iconst_1 ?_
        refine xx_iaddN (pc := 65) dX12_feed_65 ?_
        refine xx_putN (pc := 66) dX12_feed_66 sh_114 fX12_153_12 rfl rfl ?_
        refine xx_nw (fun w3 ew3 => ?_)
        refine xx_iincN (L' := [(4, .int (nI (k + 1))), (0, ic_pt E 114), (1, .long x), (3, .int (nI m))]) (pc := 69) dX12_feed_69 0 rfl cc_iconst_1 (Nat.le_of_ble_eq_true rfl) rfl ?_
        refine xx_goto (pc := 72) 32 dX12_feed_72 rfl ?_
        have f5 : w2 114 5 = w 114 5 + k := by rw [ew2, wu_o _ _ _ _ (by omega), e5]
        exact xx_sub [0, 1, 2, 3] rfl (ih_ (k + 1) w3 (by omega) (by rw [ew3, f5, ew2, e5, hu, feed_s]; rfl) h1 h2 (by omega))
  refine xx_iload_n (pc := 0) dX12_feed_0 2 rfl rfl ?_
  refine xx_i2l (pc := 1) dX12_feed_1 ?_
  refine xx_lconst (v := 1) (pc := 2) dX12_feed_2 rfl ?_
  refine xx_ldc2 (v := 8) (pc := 3) dX12_feed_3 oX12_151 ?_
  refine xx_callS0 (pc := 6) (st := []) (cM_isIn (1 ≤ m ∧ m ≤ 8) (ll_in (lo := 1) (hi := 8) (by omega) (by decide) (by decide) (by omega))) kX12_isIn sX12_66 dX12_feed_6 rfl rfl (Nat.le_of_ble_eq_true rfl) ⟨Nat.le_of_ble_eq_true rfl, Nat.le_of_ble_eq_true rfl⟩ ⟨Nat.zero_le _, Nat.zero_le _⟩ (ic_ke ?_)
  refine xx_if_neB (pc := 9) 14 dX12_feed_9 rfl (fun c101 => ?_) (fun c101 => ?_)
  · refine xx_aload_nP (pc := 14) dX12_feed_14 0 rfl rfl ?_
    refine xx_getN (pc := 15) dX12_feed_15 sh_114 fX12_153_12 rfl ?_
    refine xx_iload_n (pc := 18) dX12_feed_18 2 rfl rfl ?_
    refine xx_iaddN (pc := 19) dX12_feed_19 ?_
    refine xx_sipush (pc := 20) dX12_feed_20 cc_sipush_200 ?_
    refine xx_icmp_leN (pc := 23) 29 dX12_feed_23 rfl (by omega) (by omega) (fun c102 => ?_) (fun c102 => ?_)
    · refine xx_iconst (pc := 29) dX12_feed_29 cc_iconst_0 ?_
      refine xx_istore (L' := [(4, .int (nI 0)), (0, ic_pt E 114), (1, .long x), (3, .int (nI m))]) (pc := 30) dX12_feed_30 (Nat.le_of_ble_eq_true rfl) rfl ?_
      exact xx_sub [0, 1, 2, 3] rfl (lp (m + 1) 0 w (by omega) (by rw [mo_fd, wr_id, Nat.add_zero, wu_id]) (by omega) (by omega) (by omega))
    · refine xx_bipush (pc := 26) dX12_feed_26 cc_bipush_m2 ?_
      exact xx_iret (pc := 28) dX12_feed_28 rfl (rfl) (Nat.le_refl _) (Nat.le_refl _) (ic_ri ⟨by rw [if_pos (by omega), if_pos (by omega)], by rw [if_neg (by omega)]⟩)
  · refine xx_iconst (pc := 12) dX12_feed_12 cc_iconst_m1 ?_
    exact xx_iret (pc := 13) dX12_feed_13 rfl (rfl) (Nat.le_refl _) (Nat.le_refl _) (ic_ri ⟨by rw [if_neg (by omega)], by rw [if_neg (by omega)]⟩)

