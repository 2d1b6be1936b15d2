/-! the class: what is fed -/
theorem fd_bv (y : BitVec 64) (s : Nat) (hs : s ≤ 56) : ((y >>> s).signExtend 32).signExtend 8 = (((y.sshiftRight s) &&& 255#64).signExtend 32).signExtend 8 := by
  apply BitVec.eq_of_getLsbD_eq
  intro i hi
  rw [BitVec.signExtend_eq_setWidth_of_le _ (by decide), BitVec.signExtend_eq_setWidth_of_le _ (by decide), BitVec.signExtend_eq_setWidth_of_le _ (by decide), BitVec.signExtend_eq_setWidth_of_le _ (by decide)]
  have h255 : (255#64).getLsbD i = true := by
    rcases (show i = 0 ∨ i = 1 ∨ i = 2 ∨ i = 3 ∨ i = 4 ∨ i = 5 ∨ i = 6 ∨ i = 7 by omega) with rfl | rfl | rfl | rfl | rfl | rfl | rfl | rfl <;> rfl
  rw [BitVec.getLsbD_setWidth, BitVec.getLsbD_setWidth, BitVec.getLsbD_setWidth, BitVec.getLsbD_setWidth, BitVec.getLsbD_ushiftRight, BitVec.getLsbD_and, BitVec.getLsbD_sshiftRight, h255]
  simp [show i < 64 by omega, show s + i < 64 by omega, show ¬ 64 ≤ i by omega, hi]
theorem fd_by (x : Int64) {k : Nat} (hk : k < 8) : ((x.toUInt64 >>> ((nI (8 * k)).toInt64.toUInt64 &&& Int64.toUInt64 63)).toInt64).toInt32.toInt8 = (x >>> ((nI (8 * k)).toInt64 &&& 63) &&& 255).toInt32.toInt8 := by
  apply Int8.toBitVec_inj.mp
  rw [Int32.toBitVec_toInt8, Int64.toBitVec_toInt32, Int32.toBitVec_toInt8, Int64.toBitVec_toInt32, Int64.toBitVec_and, UInt64.toBitVec_toInt64, UInt64.toBitVec_shiftRight, Int64.toBitVec_shiftRight]
  rcases (show k = 0 ∨ k = 1 ∨ k = 2 ∨ k = 3 ∨ k = 4 ∨ k = 5 ∨ k = 6 ∨ k = 7 by omega) with rfl | rfl | rfl | rfl | rfl | rfl | rfl | rfl
  · exact fd_bv x.toBitVec 0 (by omega)
  · exact fd_bv x.toBitVec 8 (by omega)
  · exact fd_bv x.toBitVec 16 (by omega)
  · exact fd_bv x.toBitVec 24 (by omega)
  · exact fd_bv x.toBitVec 32 (by omega)
  · exact fd_bv x.toBitVec 40 (by omega)
  · exact fd_bv x.toBitVec 48 (by omega)
  · exact fd_bv x.toBitVec 56 (by omega)
theorem xx_bastN {l : Launch} {E : ic_E} {F : ic_F} {kc : Nat × Nat} {pc : Nat} {L : List (Nat × Value)} {st : List Value} {sh : List ic_S} {w : ic_w} {o n j v : Nat} {rs : List Nat} (hd : decode F.2.2.1 pc = .ok (.bastore, 1)) (hs : sh[o]? = some (101, n, rs)) (hj : j < n) (hn' : n < 2 ^ 31) (hv : vp_nar .byte (nI v) = nI v) (kk : xx l E F kc (pc + 1) L st sh (hn (wu w o j v))) : xx l E F kc pc L (.int (nI v) :: .int (nI j) :: ic_pt E o :: st) sh (hn w) := xx_bast j hd hs rfl hj hn' (by rw [hv, hn_up]; exact kk)
theorem by_nar (v : Nat) : vp_nar .byte (nI (mo_by v)) = nI (mo_by v) := by
  unfold mo_by
  rw [nI_tn]
  show ((nI v).toInt8.toInt32).toInt8.toInt32 = _
  simp
theorem fd_nI (x : Int64) {k : Nat} (hk : k < 8) : nI (mo_by (tn ((x.toUInt64 >>> ((nI (8 * k)).toInt64.toUInt64 &&& Int64.toUInt64 63)).toInt64).toInt32)) = nI (mo_by (mo_bt8 x k)) := by
  unfold mo_by mo_bt8
  simp only [nI_tn, fd_by x hk]
/-- the tape holds the n first of f -/
def Tp (w : ic_w) (f : Nat → Nat) (n : Nat) : Prop := w 0 6 = n ∧ n ≤ 200 ∧ ∀ j, j < n → w 4 j = mo_by (f j)
theorem fd_lo (f : Nat → Nat) (x : Int64) (t : Nat) : ∀ (m : Nat) {j : Nat}, j < t → mo_fd f x t m j = f j := by
  intro m
  induction m with
  | zero => intro j _; rfl
  | succ m ih =>
    intro j h
    unfold mo_fd
    rw [fu_n _ (by omega)]
    exact ih h
theorem fd_hi (f : Nat → Nat) (x : Int64) (t : Nat) : ∀ (m : Nat) {q : Nat}, q < m → mo_fd f x t m (t + q) = mo_bt8 x q := by
  intro m
  induction m with
  | zero => intro q h; omega
  | succ m ih =>
    intro q h
    unfold mo_fd
    by_cases z : q = m
    · rw [z, fu_s]
    · rw [fu_n _ (by omega)]
      exact ih (by omega)
theorem Tp.fd {w u : ic_w} {f : Nat → Nat} {x : Int64} {n m : Nat} (h : Tp w f n) (hm : n + m ≤ 200) (e6 : u 0 6 = n + m) (h1 : ∀ j, j < n → u 4 j = w 4 j) (h2 : ∀ q, q < m → u 4 (n + q) = mo_by (mo_bt8 x q)) : Tp u (mo_fd f x n m) (n + m) := by
  refine ⟨e6, hm, fun j hj => ?_⟩
  by_cases z : j < n
  · rw [h1 j z, h.2.2 j z, fd_lo _ _ _ _ z]
  · obtain ⟨q, rfl⟩ : ∃ q, j = n + q := ⟨j - n, by omega⟩
    rw [h2 q (by omega), fd_hi _ _ _ _ (by omega)]
set_option maxHeartbeats 4000000 in
set_option maxRecDepth 100000 in
theorem cC_feed {l : Launch} {E : ic_E} {w : ic_w} {x : Int64} {m n : Nat} (hm_ : m < 2 ^ 32) {f : Nat → Nat} (hT : Tp w f n) : ic_C l E mX11_feed 3 0 0 False [ic_pt E 0, .long x, .int (nI m)] SHs (hn w) SHs (ic_qi (fun v_ h_ => v_ = nI (if (1 ≤ m ∧ m ≤ 8) then (if 200 < n + m then 4294967294 else n + m) else 4294967295) ∧ ∃ w2, h_ = hn w2 ∧ ((∀ a, a ≠ 0 → a ≠ 4 → w2 a = w a) ∧ ∀ j, j ≠ 6 → w2 0 j = w 0 j) ∧ Tp w2 (if ((1 ≤ m ∧ m ≤ 8) ∧ n + m ≤ 200) then mo_fd f x n m else f) (if ((1 ≤ m ∧ m ≤ 8) ∧ n + m ≤ 200) then n + m else n))) := by
  refine ic_intro (by decide +kernel) (Nat.le_of_ble_eq_true rfl) ?_
  show xx l E _ _ 0 [(0, ic_pt E 0), (1, .long x), (3, .int (nI m))] _ _ _
  have t6 := hT.1
  have tl_ := hT.2.1
  refine xx_iload_n (pc := 0) dX11_feed_0 2 rfl rfl ?_
  refine xx_iconst (pc := 1) dX11_feed_1 cc_iconst_1 ?_
  refine xx_bipush (pc := 2) dX11_feed_2 cc_bipush_8 ?_
  refine xx_callS0 (pc := 4) (st := []) (cC_within (w := w) (v := m) (lo := 1) (hi := 8) (by omega) (by omega) (by omega)) kX11_within sX11_94 dX11_feed_4 rfl rfl (Nat.le_of_ble_eq_true rfl) ⟨Nat.le_of_ble_eq_true rfl, Nat.le_of_ble_eq_true rfl⟩ ⟨Nat.zero_le _, Nat.zero_le _⟩ (ic_ke ?_)
  refine xx_if_neB (pc := 7) 12 dX11_feed_7 rfl (fun c1 => ?_) (fun c1 => ?_)
  · refine xx_aload_nP (pc := 12) dX11_feed_12 0 rfl rfl ?_
    refine xx_getN (pc := 13) dX11_feed_13 sh_0 fX11_199_11 rfl ?_
    refine xx_iload_n (pc := 16) dX11_feed_16 2 rfl rfl ?_
    refine xx_iaddN (pc := 17) dX11_feed_17 ?_
    refine xx_sipush (pc := 18) dX11_feed_18 cc_sipush_200 ?_
    refine xx_icmp_leN (pc := 21) 27 dX11_feed_21 rfl (by omega) (by omega) (fun c2 => ?_) (fun c2 => ?_)
    · refine xx_iconst (pc := 27) dX11_feed_27 cc_iconst_0 ?_
      refine xx_istore (L' := [(4, .int (nI 0)), (0, ic_pt E 0), (1, .long x), (3, .int (nI m))]) (pc := 28) dX11_feed_28 (Nat.le_of_ble_eq_true rfl) rfl ?_
      have lp : ∀ (n_ : Nat) (i : Nat) (u : ic_w), i ≤ m → (∀ a, a ≠ 4 → u a = w a) → (∀ j, j < n → u 4 j = w 4 j) → (∀ q, q < i → u 4 (n + q) = mo_by (mo_bt8 x q)) → m - i < n_ → xx l E (ic_fr E mX11_feed 3 0 0 False SHs (ic_qi (fun v_ h_ => v_ = nI (if (1 ≤ m ∧ m ≤ 8) then (if 200 < n + m then 4294967294 else n + m) else 4294967295) ∧ ∃ w2, h_ = hn w2 ∧ ((∀ a, a ≠ 0 → a ≠ 4 → w2 a = w a) ∧ ∀ j, j ≠ 6 → w2 0 j = w 0 j) ∧ Tp w2 (if ((1 ≤ m ∧ m ≤ 8) ∧ n + m ≤ 200) then mo_fd f x n m else f) (if ((1 ≤ m ∧ m ≤ 8) ∧ n + m ≤ 200) then n + m else n)))) (0, 0) 30 [(4, .int (nI i)), (0, ic_pt E 0), (1, .long x), (3, .int (nI m))] [] SHs (hn u) := by
        intro n_
        induction n_ with
        | zero => intro i u hi hf h1 h2 hm_; exact absurd hm_ (Nat.not_lt_zero _)
        | succ n_ ih_ =>
          intro i u hi hf h1 h2 hm_
          have t6 : u 0 6 = n := by rw [hf 0 (by omega)]; exact hT.1
          refine xx_iload (pc := 30) dX11_feed_30 0 rfl ?_
          refine xx_iload_n (pc := 32) dX11_feed_32 3 rfl rfl ?_
          refine xx_icmp_geN (pc := 33) 63 dX11_feed_33 rfl (by omega) (by omega) (fun c23 => ?_) (fun c23 => ?_)
          · refine xx_aload_nP (pc := 63) dX11_feed_63 1 rfl rfl ?_
            refine xx_dup (pc := 64) dX11_feed_64 rfl ?_
            refine xx_getN (pc := 65) dX11_feed_65 sh_0 fX11_199_11 rfl ?_
            refine xx_iload_n (pc := 68) dX11_feed_68 3 rfl rfl ?_
            refine xx_iaddN (pc := 69) dX11_feed_69 ?_
            refine xx_putN (pc := 70) dX11_feed_70 sh_0 fX11_199_11 rfl rfl ?_
            refine xx_nw (fun w24 ew24 => ?_)
            refine xx_aload_nP (pc := 73) dX11_feed_73 1 rfl rfl ?_
            refine xx_getN (pc := 74) dX11_feed_74 sh_0 fX11_199_11 rfl ?_
            exact xx_iret (pc := 77) dX11_feed_77 rfl (rfl) (Nat.le_refl _) (Nat.le_refl _) (ic_ri ⟨by rw [if_pos (show (1 ≤ m ∧ m ≤ 8) by omega), if_neg (show ¬ 200 < n + m by omega), ew24, wu_s, t6], w24, rfl, ⟨fun a z0 z4 => by rw [ew24, wu_row _ _ _ z0]; exact hf a z4, fun j hj => by rw [ew24, wu_k _ _ _ _ hj, hf 0 (by omega)]⟩, by rw [if_pos (show ((1 ≤ m ∧ m ≤ 8) ∧ n + m ≤ 200) by omega), if_pos (show ((1 ≤ m ∧ m ≤ 8) ∧ n + m ≤ 200) by omega)]; exact hT.fd (by omega) (by rw [ew24, wu_s, t6]) (fun j hj => by rw [ew24, wu_row _ _ _ (by omega)]; exact h1 j hj) (fun q hq => by rw [ew24, wu_row _ _ _ (by omega)]; exact h2 q (by omega))⟩)
          · refine xx_aload_nP (pc := 36) dX11_feed_36 1 rfl rfl ?_
            refine xx_getR (pc := 37) 4 dX11_feed_37 sh_0 fX11_16_11 rfl rfl (by decide) ?_
            refine xx_aload_nP (pc := 40) dX11_feed_40 1 rfl rfl ?_
            refine xx_getN (pc := 41) dX11_feed_41 sh_0 fX11_199_11 rfl ?_
            refine xx_iload (pc := 44) dX11_feed_44 0 rfl ?_
            refine xx_iaddN (pc := 46) dX11_feed_46 ?_
            refine xx_lload_n (pc := 47) dX11_feed_47 2 rfl rfl ?_
            refine xx_bipush (pc := 48) dX11_feed_48 cc_bipush_8 ?_
            refine xx_iload (pc := 50) dX11_feed_50 0 rfl ?_
            refine xx_imulN (pc := 52) dX11_feed_52 ?_
            refine xx_lushr (pc := 53) dX11_feed_53 ?_
            refine xx_l2i (pc := 54) dX11_feed_54 ?_
            refine xx_eqI (y := nI (tn ((x.toUInt64 >>> ((nI (8 * i)).toInt64.toUInt64 &&& Int64.toUInt64 63)).toInt64).toInt32)) (nI_tn _).symm ?_
            refine xx_i2b (pc := 55) dX11_feed_55 ?_
            refine xx_eqI (y := nI (mo_by (tn ((x.toUInt64 >>> ((nI (8 * i)).toInt64.toUInt64 &&& Int64.toUInt64 63)).toInt64).toInt32))) (nI_tn _).symm ?_
            refine xx_eqI (y := nI (mo_by (mo_bt8 x i))) (fd_nI x (by omega)) ?_
            refine xx_bastN (pc := 56) dX11_feed_56 sh_4 (by omega) (by decide) (by_nar _) ?_
            refine xx_nw (fun w25 ew25 => ?_)
            have g_w25 : ∀ a, a ≠ 4 → w25 a = w a := fun a h => by rw [ew25, wu_row _ _ _ h]; exact hf a h
            have y1_ : ∀ j, j < n → w25 4 j = w 4 j := fun j h => by rw [ew25, wu_k _ _ _ _ (by omega)]; exact h1 j h
            have y2_ : ∀ q, q < i + 1 → w25 4 (n + q) = mo_by (mo_bt8 x q) := fun q h => by by_cases z : q = i; rw [z, ew25, ← t6, wu_s]; rw [ew25, wu_k _ _ _ _ (by omega)]; exact h2 q (by omega)
            refine xx_iincN (L' := [(4, .int (nI (i + 1))), (0, ic_pt E 0), (1, .long x), (3, .int (nI m))]) (pc := 57) dX11_feed_57 0 rfl cc_iconst_1 (Nat.le_of_ble_eq_true rfl) rfl ?_
            refine xx_goto (pc := 60) 30 dX11_feed_60 rfl ?_
            exact xx_sub [0, 1, 2, 3] rfl (ih_ (i + 1) w25 (by omega) g_w25 y1_ y2_ (by omega))
      exact xx_sub [0, 1, 2, 3] rfl (lp (m + 1) 0 w (by omega) (fun _ _ => rfl) (fun _ _ => rfl) (fun _ h => absurd h (by omega)) (by omega))
    · refine xx_bipush (pc := 24) dX11_feed_24 cc_bipush_m2 ?_
      exact xx_iret (pc := 26) dX11_feed_26 rfl (rfl) (Nat.le_refl _) (Nat.le_refl _) (ic_ri ⟨by first | (rw [if_neg (show ¬ (1 ≤ m ∧ m ≤ 8) by omega)]; done) | rw [if_pos (show (1 ≤ m ∧ m ≤ 8) by omega), if_pos (by omega)], w, rfl, ⟨fun _ _ _ => rfl, fun _ _ => rfl⟩, by rw [if_neg (show ¬ ((1 ≤ m ∧ m ≤ 8) ∧ n + m ≤ 200) by omega), if_neg (show ¬ ((1 ≤ m ∧ m ≤ 8) ∧ n + m ≤ 200) by omega)]; exact hT⟩)
  · refine xx_iconst (pc := 10) dX11_feed_10 cc_iconst_m1 ?_
    exact xx_iret (pc := 11) dX11_feed_11 rfl (rfl) (Nat.le_refl _) (Nat.le_refl _) (ic_ri ⟨by first | (rw [if_neg (show ¬ (1 ≤ m ∧ m ≤ 8) by omega)]; done) | rw [if_pos (show (1 ≤ m ∧ m ≤ 8) by omega), if_pos (by omega)], w, rfl, ⟨fun _ _ _ => rfl, fun _ _ => rfl⟩, by rw [if_neg (show ¬ ((1 ≤ m ∧ m ≤ 8) ∧ n + m ≤ 200) by omega), if_neg (show ¬ ((1 ≤ m ∧ m ≤ 8) ∧ n + m ≤ 200) by omega)]; exact hT⟩)

