/-! the class: rows of plans -/
/-- the rows are n, and those of R -/
def Cz (w : ic_w) (R : Nat → Nat) (n : Nat) : Prop := w 0 9 = n ∧ n ≤ 4 ∧ ∀ k, k < n → w (12 + k) 0 = R (3 * k) ∧ w (12 + k) 1 = R (1 + 3 * k) ∧ w (12 + k) 2 = R (2 + 3 * k)
theorem rw_at {k : Nat} (h : k < 4) : [13, 14, 15, 16].getD k 0 = 12 + k + 1 := by
  rcases (show k = 0 ∨ k = 1 ∨ k = 2 ∨ k = 3 by omega) with rfl | rfl | rfl | rfl <;> rfl
theorem rw_sh {k : Nat} (h : k < 4) : SHs[12 + k]? = some (100, 3, []) := by
  rcases (show k = 0 ∨ k = 1 ∨ k = 2 ∨ k = 3 by omega) with rfl | rfl | rfl | rfl <;> rfl
theorem Cz.r {w : ic_w} {R : Nat → Nat} {n k b : Nat} (h : Cz w R n) (hk : k < n) (hb : b ≤ 2) : w (12 + k) b = R (3 * k + b) := by
  have := h.2.2 k hk
  rcases (show b = 0 ∨ b = 1 ∨ b = 2 by omega) with rfl | rfl | rfl
  · exact this.1
  · rw [this.2.1, Nat.add_comm]
  · rw [this.2.2, Nat.add_comm]
theorem Cz.of {w u : ic_w} {R : Nat → Nat} {n : Nat} (h : Cz w R n) (e0 : u 0 9 = w 0 9) (e : ∀ a, 12 ≤ a → a ≤ 15 → u a = w a) : Cz u R n := by
  have h4 := h.2.1
  refine ⟨e0.trans h.1, h.2.1, fun k hk => ?_⟩
  rw [e _ (by omega) (by omega)]
  exact h.2.2 k hk
theorem Cz.up {w : ic_w} {R : Nat → Nat} {n k b v : Nat} (h : Cz w R n) (hk : k < n) (hb : b ≤ 2) : Cz (wu w (12 + k) b v) (fu R (3 * k + b) v) n := by
  have h4 := h.2.1
  refine ⟨by rw [wu_o _ _ _ _ (by omega)]; exact h.1, h4, fun j hj => ?_⟩
  have g := h.2.2 j hj
  by_cases z : j = k
  · subst z
    rcases (show b = 0 ∨ b = 1 ∨ b = 2 by omega) with rfl | rfl | rfl
    · exact ⟨by rw [wu_s, Nat.add_zero, fu_s], by rw [wu_k _ _ _ _ (by omega), fu_n _ (by omega)]; exact g.2.1, by rw [wu_k _ _ _ _ (by omega), fu_n _ (by omega)]; exact g.2.2⟩
    · exact ⟨by rw [wu_k _ _ _ _ (by omega), fu_n _ (by omega)]; exact g.1, by rw [wu_s, Nat.add_comm, fu_s], by rw [wu_k _ _ _ _ (by omega), fu_n _ (by omega)]; exact g.2.2⟩
    · exact ⟨by rw [wu_k _ _ _ _ (by omega), fu_n _ (by omega)]; exact g.1, by rw [wu_k _ _ _ _ (by omega), fu_n _ (by omega)]; exact g.2.1, by rw [wu_s, Nat.add_comm, fu_s]⟩
  · rw [wu_row _ _ _ (by omega), fu_n _ (by omega), fu_n _ (by omega), fu_n _ (by omega)]
    exact g
set_option maxHeartbeats 4000000 in
set_option maxRecDepth 100000 in
theorem cC_row {l : Launch} {E : ic_E} {w : ic_w} {k : Nat} (hk_ : k < 2 ^ 32) {b : Nat} (hb_ : b < 2 ^ 32) {R : Nat → Nat} {n : Nat} (hz : Cz w R n) : ic_C l E mX11_row 3 0 0 False [ic_pt E 0, .int (nI k), .int (nI b)] SHs (hn w) SHs (ic_qe (nI (if k < n ∧ b ≤ 2 then R (3 * k + b) else 4294967287)) (hn w)) := by
  refine ic_intro (by decide +kernel) (Nat.le_of_ble_eq_true rfl) ?_
  show xx l E _ _ 0 [(0, ic_pt E 0), (1, .int (nI k)), (2, .int (nI b))] _ _ _
  have z9 := hz.1
  have z4 := hz.2.1
  refine xx_aload_nP (pc := 0) dX11_row_0 0 rfl rfl ?_
  refine xx_iload_n (pc := 1) dX11_row_1 1 rfl rfl ?_
  refine xx_iload_n (pc := 2) dX11_row_2 2 rfl rfl ?_
  refine xx_callV0 (pc := 3) (st := []) sh_0 (cC_isCell (w := w) (k := k) (b := b) (by omega) (by omega) (by omega)) kX11_isCell vX11_324_11 dX11_row_3 rfl rfl (Nat.le_of_ble_eq_true rfl) ⟨Nat.le_of_ble_eq_true rfl, Nat.le_of_ble_eq_true rfl⟩ ⟨Nat.zero_le _, Nat.zero_le _⟩ (ic_ke ?_)
  refine xx_if_eqB (pc := 6) 20 dX11_row_6 rfl (fun c1 => ?_) (fun c1 => ?_)
  · refine xx_bipush (pc := 20) dX11_row_20 cc_bipush_m9 ?_
    exact xx_iret (pc := 22) dX11_row_22 rfl (rfl) (Nat.le_refl _) (Nat.le_refl _) (ic_re (if_neg (by omega)).symm)
  · refine xx_aload_nP (pc := 9) dX11_row_9 0 rfl rfl ?_
    refine xx_getR (pc := 10) 11 dX11_row_10 sh_0 fX11_29_11 rfl rfl (by decide) ?_
    refine xx_iload_n (pc := 13) dX11_row_13 1 rfl rfl ?_
    refine xx_aald (pc := 14) k (12 + k) dX11_row_14 sh_11 (by decide) rfl (by omega) (by decide) (rw_at (by omega)) ?_
    refine xx_iload_n (pc := 15) dX11_row_15 2 rfl rfl ?_
    refine xx_ialdN (pc := 16) dX11_row_16 (rw_sh (by omega)) (by omega) (by decide) ?_
    refine xx_goto (pc := 17) 22 dX11_row_17 rfl ?_
    exact xx_iret (pc := 22) dX11_row_22 rfl (rfl) (Nat.le_refl _) (Nat.le_refl _) (ic_re (by rw [if_pos (by omega)]; exact hz.r (by omega) (by omega)))

set_option maxHeartbeats 4000000 in
set_option maxRecDepth 100000 in
theorem cC_alterRow {l : Launch} {E : ic_E} {w : ic_w} {k : Nat} (hk_ : k < 2 ^ 32) {b : Nat} (hb_ : b < 2 ^ 32) {v : Nat} (hv_ : v < 2 ^ 32) {R : Nat → Nat} {n : Nat} (hz : Cz w R n) : ic_C l E mX11_alterRow 3 0 0 False [ic_pt E 0, .int (nI k), .int (nI b), .int (nI v)] SHs (hn w) SHs (ic_qi (fun v_ h_ => v_ = nI (if k < n ∧ b ≤ 2 then R (3 * k + b) else 4294967287) ∧ ∃ w2, h_ = hn w2 ∧ (∀ a, a < 12 ∨ 15 < a → w2 a = w a) ∧ Cz w2 (if k < n ∧ b ≤ 2 then fu R (3 * k + b) v else R) n)) := by
  refine ic_intro (by decide +kernel) (Nat.le_of_ble_eq_true rfl) ?_
  show xx l E _ _ 0 [(0, ic_pt E 0), (1, .int (nI k)), (2, .int (nI b)), (3, .int (nI v))] _ _ _
  have z9 := hz.1
  have z4 := hz.2.1
  refine xx_aload_nP (pc := 0) dX11_alterRow_0 0 rfl rfl ?_
  refine xx_iload_n (pc := 1) dX11_alterRow_1 1 rfl rfl ?_
  refine xx_iload_n (pc := 2) dX11_alterRow_2 2 rfl rfl ?_
  refine xx_callV0 (pc := 3) (st := []) sh_0 (cC_isCell (w := w) (k := k) (b := b) (by omega) (by omega) (by omega)) kX11_isCell vX11_324_11 dX11_alterRow_3 rfl rfl (Nat.le_of_ble_eq_true rfl) ⟨Nat.le_of_ble_eq_true rfl, Nat.le_of_ble_eq_true rfl⟩ ⟨Nat.zero_le _, Nat.zero_le _⟩ (ic_ke ?_)
  refine xx_if_neB (pc := 6) 12 dX11_alterRow_6 rfl (fun c1 => ?_) (fun c1 => ?_)
  · refine xx_aload_nP (pc := 12) dX11_alterRow_12 0 rfl rfl ?_
    refine xx_getR (pc := 13) 11 dX11_alterRow_13 sh_0 fX11_29_11 rfl rfl (by decide) ?_
    refine xx_iload_n (pc := 16) dX11_alterRow_16 1 rfl rfl ?_
    refine xx_aald (pc := 17) k (12 + k) dX11_alterRow_17 sh_11 (by decide) rfl (by omega) (by decide) (rw_at (by omega)) ?_
    refine xx_iload_n (pc := 18) dX11_alterRow_18 2 rfl rfl ?_
    refine xx_ialdN (pc := 19) dX11_alterRow_19 (rw_sh (by omega)) (by omega) (by decide) ?_
    refine xx_istore (L' := [(4, .int (nI (w (12 + k) b))), (0, ic_pt E 0), (1, .int (nI k)), (2, .int (nI b)), (3, .int (nI v))]) (pc := 20) dX11_alterRow_20 (Nat.le_of_ble_eq_true rfl) rfl ?_
    refine xx_aload_nP (pc := 22) dX11_alterRow_22 1 rfl rfl ?_
    refine xx_getR (pc := 23) 11 dX11_alterRow_23 sh_0 fX11_29_11 rfl rfl (by decide) ?_
    refine xx_iload_n (pc := 26) dX11_alterRow_26 2 rfl rfl ?_
    refine xx_aald (pc := 27) k (12 + k) dX11_alterRow_27 sh_11 (by decide) rfl (by omega) (by decide) (rw_at (by omega)) ?_
    refine xx_iload_n (pc := 28) dX11_alterRow_28 3 rfl rfl ?_
    refine xx_iload_n (pc := 29) dX11_alterRow_29 4 rfl rfl ?_
    refine xx_iastN (pc := 30) dX11_alterRow_30 (rw_sh (by omega)) (by omega) (by decide) ?_
    refine xx_nw (fun w2 ew2 => ?_)
    refine xx_iload (pc := 31) dX11_alterRow_31 0 rfl ?_
    exact xx_iret (pc := 33) dX11_alterRow_33 rfl (rfl) (Nat.le_refl _) (Nat.le_refl _) (ic_ri ⟨by rw [if_pos (by omega)]; exact congrArg nI (hz.r (by omega) (by omega)), w2, rfl, fun a ha => by rw [ew2, wu_row _ _ _ (by omega)], by rw [if_pos (by omega), ew2]; exact hz.up (by omega) (by omega)⟩)
  · refine xx_bipush (pc := 9) dX11_alterRow_9 cc_bipush_m9 ?_
    exact xx_iret (pc := 11) dX11_alterRow_11 rfl (rfl) (Nat.le_refl _) (Nat.le_refl _) (ic_ri ⟨by rw [if_neg (by omega)], w, rfl, fun _ _ => rfl, by rw [if_neg (by omega)]; exact hz⟩)

set_option maxHeartbeats 4000000 in
set_option maxRecDepth 100000 in
theorem cC_judge {l : Launch} {E : ic_E} {w : ic_w} {s : Nat → Nat} (hC : Cw w s) (hIn : In s) (hRu : Ru s) {R : Nat → Nat} {n : Nat} (hz : Cz w R n) (hR32 : ∀ j, j < 12 → R j < 2 ^ 32) : ic_C l E mX11_judge 8 0 0 False [ic_pt E 0] SHs (hn w) SHs (ic_qi (fun v_ h_ => v_ = nI (mo_jd R n s 0) ∧ ∃ w2, h_ = hn w2 ∧ Fp w w2)) := by
  refine ic_intro (by decide +kernel) (Nat.le_of_ble_eq_true rfl) ?_
  show xx l E _ _ 0 [(0, ic_pt E 0)] _ _ _
  have hN := hC.1
  have hm := hC.2.1
  have n5_w := hC.2.2.1
  have n6_w := hC.2.2.2
  have hn0 := hIn.n
  have htt := hIn.t
  have hcr := hIn.cr (s 1)
  have n1_w : w 39 10 = s 0 := hN.n
  have n2_w : w 39 11 = s 2 := hN.e
  have n3_w : w 46 0 = s 1 := hm.t
  have n4_w : w 46 1 = mo_outs s := hm.o
  have z9 := hz.1
  have z4 := hz.2.1
  refine xx_aload_nP (pc := 0) dX11_judge_0 0 rfl rfl ?_
  refine xx_getR (pc := 1) 1 dX11_judge_1 sh_0 fX11_10_11 rfl rfl (by decide) ?_
  refine xx_aload_nP (pc := 4) dX11_judge_4 0 rfl rfl ?_
  refine xx_getR (pc := 5) 39 dX11_judge_5 sh_0 fX11_74_11 rfl rfl (by decide) ?_
  refine xx_getR (pc := 8) 46 dX11_judge_8 sh_39 fX11_112_5 rfl rfl (by decide) ?_
  refine xx_callV0 (pc := 11) (st := []) sh_1 (cC_mbecome (w := w) (m := 1) (p := 46) Mo_1 Mo_46 (by omega)) kX4_become vX11_226_4 dX11_judge_11 rfl rfl (Nat.le_of_ble_eq_true rfl) ⟨Nat.le_of_ble_eq_true rfl, Nat.le_of_ble_eq_true rfl⟩ ⟨Nat.zero_le _, Nat.zero_le _⟩ (ic_kv (fun h_ qw1 => ?_))
  obtain ⟨w1, rfl, b0, b1, bj, gb⟩ := qw1
  have hf_w1 : Fp w w1 := ⟨fun a ha => gb a (by omega) (by omega) (by omega), by rw [gb 55 (by omega) (by omega) (by omega)]⟩
  have hm_w1 : Cs w1 1 s := Cs.bc hm hIn b0 b1 bj
  have hN_w1 : Cn w1 s := hN.fp hf_w1
  refine xx_iconst (pc := 14) dX11_judge_14 cc_iconst_0 ?_
  refine xx_istore_n (L' := [(1, .int (nI 0)), (0, ic_pt E 0)]) (pc := 15) dX11_judge_15 rfl (Nat.le_of_ble_eq_true rfl) rfl ?_
  have lp : ∀ (n_ : Nat) (i : Nat) (t : Nat → Nat) (u : ic_w), i ≤ n → mo_jd R n s 0 = mo_jd R (n - i) t i → Cn u t → Cs u 1 t → In t → Ru t → Fp w u → n - i < n_ → xx l E (ic_fr E mX11_judge 8 0 0 False SHs (ic_qi (fun v_ h_ => v_ = nI (mo_jd R n s 0) ∧ ∃ w2, h_ = hn w2 ∧ Fp w w2))) (0, 0) 16 [(1, .int (nI i)), (0, ic_pt E 0)] [] SHs (hn u) := by
    intro n_
    induction n_ with
    | zero => intro i t u hi hq hN_u hm_u hIn_u hRu_u hf hm_; exact absurd hm_ (Nat.not_lt_zero _)
    | succ n_ ih_ =>
      intro i t u hi hq hN_u hm_u hIn_u hRu_u hf hm_
      have n1_u : u 39 10 = t 0 := hN_u.n
      have n2_u : u 39 11 = t 2 := hN_u.e
      have n3_u : u 1 0 = t 1 := hm_u.t
      have tn0_u := hIn_u.n
      have ttt_u := hIn_u.t
      have hz_u : Cz u R n := hz.of (by rw [hf.1 0 (by omega)]) (fun a h1 h2 => hf.1 a (by omega))
      have z9u := hz_u.1
      refine xx_iload_n (pc := 16) dX11_judge_16 0 rfl rfl ?_
      refine xx_aload_nP (pc := 17) dX11_judge_17 1 rfl rfl ?_
      refine xx_getN (pc := 18) dX11_judge_18 sh_0 fX11_321_11 rfl ?_
      refine xx_icmp_geN (pc := 21) 117 dX11_judge_21 rfl (by omega) (by omega) (fun c23 => ?_) (fun c23 => ?_)
      · refine xx_iconst (pc := 117) dX11_judge_117 cc_iconst_0 ?_
        exact xx_iret (pc := 118) dX11_judge_118 rfl (rfl) (Nat.le_refl _) (Nat.le_refl _) (ic_ri ⟨by rw [hq, show n - i = 0 by omega]; rfl, u, rfl, hf⟩)
      · have zi := hz_u.2.2 i (by omega)
        have b0 := hR32 (3 * i) (by omega)
        have b1 := hR32 (1 + 3 * i) (by omega)
        have b2 := hR32 (2 + 3 * i) (by omega)
        refine xx_aload_nP (pc := 24) dX11_judge_24 1 rfl rfl ?_
        refine xx_aload_nP (pc := 25) dX11_judge_25 1 rfl rfl ?_
        refine xx_getR (pc := 26) 11 dX11_judge_26 sh_0 fX11_29_11 rfl rfl (by decide) ?_
        refine xx_iload_n (pc := 29) dX11_judge_29 0 rfl rfl ?_
        refine xx_aald (pc := 30) i (12 + i) dX11_judge_30 sh_11 (by decide) rfl (by omega) (by decide) (rw_at (by omega)) ?_
        refine xx_iconst (pc := 31) dX11_judge_31 cc_iconst_0 ?_
        refine xx_ialdN (pc := 32) dX11_judge_32 (rw_sh (by omega)) (by omega) (by decide) ?_
        refine xx_eqI (y := nI (R (3 * i))) (by rw [zi.1]) ?_
        refine xx_callV0 (pc := 33) (st := []) sh_0 (cC_isAct (w := u) (k := R (3 * i)) (by omega) (by omega)) kX11_isAct vX11_327_11 dX11_judge_33 rfl rfl (Nat.le_of_ble_eq_true rfl) ⟨Nat.le_of_ble_eq_true rfl, Nat.le_of_ble_eq_true rfl⟩ ⟨Nat.zero_le _, Nat.zero_le _⟩ (ic_ke ?_)
        refine xx_if_eqB (pc := 36) 53 dX11_judge_36 rfl (fun c24 => ?_) (fun c24 => ?_)
        · refine xx_iload_n (pc := 53) dX11_judge_53 0 rfl rfl ?_
          refine xx_iconst (pc := 54) dX11_judge_54 cc_iconst_1 ?_
          refine xx_iaddN (pc := 55) dX11_judge_55 ?_
          exact xx_iret (pc := 56) dX11_judge_56 rfl (rfl) (Nat.le_refl _) (Nat.le_refl _) (ic_ri ⟨by rw [hq, show n - i = (n - (i + 1)) + 1 by omega, mo_jd, if_neg (by omega)], u, rfl, hf⟩)
        · refine xx_aload_nP (pc := 39) dX11_judge_39 1 rfl rfl ?_
          refine xx_getR (pc := 40) 39 dX11_judge_40 sh_0 fX11_74_11 rfl rfl (by decide) ?_
          refine xx_aload_nP (pc := 43) dX11_judge_43 1 rfl rfl ?_
          refine xx_getR (pc := 44) 1 dX11_judge_44 sh_0 fX11_10_11 rfl rfl (by decide) ?_
          refine xx_callV0 (pc := 47) (st := []) sh_39 (cC_isOver (w := u) (m := 1) (s := t) Mo_1 hm_u hN_u hIn_u) kX5_isOver vX11_185_5 dX11_judge_47 rfl rfl (Nat.le_of_ble_eq_true rfl) ⟨Nat.le_of_ble_eq_true rfl, Nat.le_of_ble_eq_true rfl⟩ ⟨Nat.zero_le _, Nat.zero_le _⟩ (ic_ke ?_)
          refine xx_if_eqB (pc := 50) 57 dX11_judge_50 rfl (fun c25 => ?_) (fun c25 => ?_)
          · refine xx_aload_nP (pc := 57) dX11_judge_57 1 rfl rfl ?_
            refine xx_getR (pc := 58) 39 dX11_judge_58 sh_0 fX11_74_11 rfl rfl (by decide) ?_
            refine xx_aload_nP (pc := 61) dX11_judge_61 1 rfl rfl ?_
            refine xx_getR (pc := 62) 1 dX11_judge_62 sh_0 fX11_10_11 rfl rfl (by decide) ?_
            refine xx_aload_nP (pc := 65) dX11_judge_65 1 rfl rfl ?_
            refine xx_getR (pc := 66) 11 dX11_judge_66 sh_0 fX11_29_11 rfl rfl (by decide) ?_
            refine xx_iload_n (pc := 69) dX11_judge_69 0 rfl rfl ?_
            refine xx_aald (pc := 70) i (12 + i) dX11_judge_70 sh_11 (by decide) rfl (by omega) (by decide) (rw_at (by omega)) ?_
            refine xx_iconst (pc := 71) dX11_judge_71 cc_iconst_0 ?_
            refine xx_ialdN (pc := 72) dX11_judge_72 (rw_sh (by omega)) (by omega) (by decide) ?_
            refine xx_eqI (y := nI (R (3 * i))) (by rw [zi.1]) ?_
            have hwl_x26 := mo_worth_le hIn_u (act := R (3 * i)) (by omega)
            refine xx_callV0 (pc := 73) (st := []) sh_39 (cC_goBy (w := u) (m := 1) (act := R (3 * i)) (s := t) Mo_1 hm_u hN_u hIn_u hRu_u (by omega)) kX5_goBy vX11_229_5 dX11_judge_73 rfl rfl (Nat.le_of_ble_eq_true rfl) ⟨Nat.le_of_ble_eq_true rfl, Nat.le_of_ble_eq_true rfl⟩ ⟨Nat.zero_le _, Nat.zero_le _⟩ (ic_ki (fun v28 h_ qw27 => ?_))
            obtain ⟨rfl, w27, rfl, gw27, hm_w27⟩ := qw27
            have hIn_w27 : In (mo_go t (R (3 * i))) := In_go hIn_u (by omega) (by omega)
            have hRu_w27 : Ru (mo_go t (R (3 * i))) := Ru_go hRu_u hIn_u (by omega)
            have hN_w27 : Cn w27 (mo_go t (R (3 * i))) := (hN_u.fm Mo_1 gw27).go hIn_u (by omega)
            have hog := mo_outs_lt hIn_w27.n
            have og := hm_w27.o
            have zg : ∀ a, 12 ≤ a → a ≤ 15 → w27 a = u a := fun a h1 h2 => gw27 a (by omega) (by omega) (by omega) (by omega) (by omega)
            refine xx_istore_n (L' := [(2, .int (nI (mo_worth t (R (3 * i))))), (1, .int (nI i)), (0, ic_pt E 0)]) (pc := 76) dX11_judge_76 rfl (Nat.le_of_ble_eq_true rfl) rfl ?_
            refine xx_aload_nP (pc := 77) dX11_judge_77 2 rfl rfl ?_
            refine xx_getR (pc := 78) 11 dX11_judge_78 sh_0 fX11_29_11 rfl rfl (by decide) ?_
            refine xx_iload_n (pc := 81) dX11_judge_81 1 rfl rfl ?_
            refine xx_aald (pc := 82) i (12 + i) dX11_judge_82 sh_11 (by decide) rfl (by omega) (by decide) (rw_at (by omega)) ?_
            refine xx_iconst (pc := 83) dX11_judge_83 cc_iconst_1 ?_
            refine xx_ialdN (pc := 84) dX11_judge_84 (rw_sh (by omega)) (by omega) (by decide) ?_
            refine xx_eqI (y := nI (R (1 + 3 * i))) (by rw [zg _ (by omega) (by omega), zi.2.1]) ?_
            refine xx_iload_n (pc := 85) dX11_judge_85 0 rfl rfl ?_
            refine xx_icmp_neN (pc := 86) 107 dX11_judge_86 rfl (by omega) (by omega) (fun c29 => ?_) (fun c29 => ?_)
            · refine xx_iload_n (pc := 107) dX11_judge_107 1 rfl rfl ?_
              refine xx_iconst (pc := 108) dX11_judge_108 cc_iconst_1 ?_
              refine xx_iaddN (pc := 109) dX11_judge_109 ?_
              exact xx_iret (pc := 110) dX11_judge_110 rfl (rfl) (Nat.le_refl _) (Nat.le_refl _) (ic_ri ⟨by rw [hq, show n - i = (n - (i + 1)) + 1 by omega, mo_jd, if_neg (by omega)], w27, rfl, hf.tr (gw27.p (by omega))⟩)
            · refine xx_aload_nP (pc := 89) dX11_judge_89 2 rfl rfl ?_
              refine xx_getR (pc := 90) 11 dX11_judge_90 sh_0 fX11_29_11 rfl rfl (by decide) ?_
              refine xx_iload_n (pc := 93) dX11_judge_93 1 rfl rfl ?_
              refine xx_aald (pc := 94) i (12 + i) dX11_judge_94 sh_11 (by decide) rfl (by omega) (by decide) (rw_at (by omega)) ?_
              refine xx_iconst (pc := 95) dX11_judge_95 cc_iconst_2 ?_
              refine xx_ialdN (pc := 96) dX11_judge_96 (rw_sh (by omega)) (by omega) (by decide) ?_
              refine xx_eqI (y := nI (R (2 + 3 * i))) (by rw [zg _ (by omega) (by omega), zi.2.2]) ?_
              refine xx_aload_nP (pc := 97) dX11_judge_97 2 rfl rfl ?_
              refine xx_getR (pc := 98) 1 dX11_judge_98 sh_0 fX11_10_11 rfl rfl (by decide) ?_
              refine xx_getN (pc := 101) dX11_judge_101 sh_1 fX11_189_4 rfl ?_
              refine xx_eqI (y := nI (mo_outs (mo_go t (R (3 * i))))) (congrArg nI og) ?_
              refine xx_icmp_eqN (pc := 104) 111 dX11_judge_104 rfl (by omega) (by omega) (fun c30 => ?_) (fun c30 => ?_)
              · refine xx_iincN (L' := [(1, .int (nI (i + 1))), (2, .int (nI (mo_worth t (R (3 * i))))), (0, ic_pt E 0)]) (pc := 111) dX11_judge_111 1 rfl cc_iconst_1 (Nat.le_of_ble_eq_true rfl) rfl ?_
                refine xx_goto (pc := 114) 16 dX11_judge_114 rfl ?_
                exact xx_sub [0, 2] rfl (ih_ (i + 1) _ w27 (by omega) (by rw [hq, show n - i = (n - (i + 1)) + 1 by omega, mo_jd, if_pos (by omega)]) hN_w27 hm_w27 hIn_w27 hRu_w27 (hf.tr (gw27.p (by omega))) (by omega))
              · refine xx_iload_n (pc := 107) dX11_judge_107 1 rfl rfl ?_
                refine xx_iconst (pc := 108) dX11_judge_108 cc_iconst_1 ?_
                refine xx_iaddN (pc := 109) dX11_judge_109 ?_
                exact xx_iret (pc := 110) dX11_judge_110 rfl (rfl) (Nat.le_refl _) (Nat.le_refl _) (ic_ri ⟨by rw [hq, show n - i = (n - (i + 1)) + 1 by omega, mo_jd, if_neg (by omega)], w27, rfl, hf.tr (gw27.p (by omega))⟩)
          · refine xx_iload_n (pc := 53) dX11_judge_53 0 rfl rfl ?_
            refine xx_iconst (pc := 54) dX11_judge_54 cc_iconst_1 ?_
            refine xx_iaddN (pc := 55) dX11_judge_55 ?_
            exact xx_iret (pc := 56) dX11_judge_56 rfl (rfl) (Nat.le_refl _) (Nat.le_refl _) (ic_ri ⟨by rw [hq, show n - i = (n - (i + 1)) + 1 by omega, mo_jd, if_neg (by omega)], u, rfl, hf⟩)
  exact xx_sub [0, 1] rfl (lp (n + 1) 0 s w1 (by omega) rfl hN_w1 hm_w1 hIn hRu hf_w1 (by omega))

theorem prw_k (q s R : Nat → Nat) : ∀ i j, 3 * i ≤ j → (mo_prw q s R i).2 j = R j
  | 0, _, _ => rfl
  | i + 1, j, h => by
    show fu (fu (fu (mo_prw q s R i).2 (3 * i) _) (1 + 3 * i) _) (2 + 3 * i) _ j = _
    rw [fu_n _ (by omega), fu_n _ (by omega), fu_n _ (by omega)]
    exact prw_k q s R i j (by omega)
/-- rows told so far -/
def Cy (w : ic_w) (R : Nat → Nat) (i : Nat) : Prop := ∀ k, k < i → w (12 + k) 0 = R (3 * k) ∧ w (12 + k) 1 = R (1 + 3 * k) ∧ w (12 + k) 2 = R (2 + 3 * k)
theorem Cy.up {w u : ic_w} {q s R : Nat → Nat} {i : Nat} (h : Cy w (mo_prw q s R i).2 i) (e : ∀ a, 12 ≤ a → a < 12 + i → u a = w a) (e0 : u (12 + i) 0 = q i) (e1 : u (12 + i) 1 = mo_worth (mo_prw q s R i).1 (q i)) (e2 : u (12 + i) 2 = mo_outs (mo_go (mo_prw q s R i).1 (q i))) : Cy u (mo_prw q s R (i + 1)).2 (i + 1) := by
  intro k hk
  show _ = fu (fu (fu (mo_prw q s R i).2 (3 * i) _) (1 + 3 * i) _) (2 + 3 * i) _ _ ∧ _ = fu (fu (fu (mo_prw q s R i).2 (3 * i) _) (1 + 3 * i) _) (2 + 3 * i) _ _ ∧ _ = fu (fu (fu (mo_prw q s R i).2 (3 * i) _) (1 + 3 * i) _) (2 + 3 * i) _ _
  by_cases z : k = i
  · subst z
    rw [fu_n _ (by omega), fu_n _ (by omega), fu_s, fu_n _ (by omega), fu_s, fu_s]
    exact ⟨e0, e1, e2⟩
  · rw [fu_n _ (by omega), fu_n _ (by omega), fu_n _ (by omega), fu_n _ (by omega), fu_n _ (by omega), fu_n _ (by omega), fu_n _ (by omega), fu_n _ (by omega), fu_n _ (by omega), e _ (by omega) (by omega)]
    exact h k (by omega)
set_option maxHeartbeats 4000000 in
set_option maxRecDepth 100000 in
theorem cC_prove {l : Launch} {E : ic_E} {w : ic_w} {n : Nat} (hn_ : n < 2 ^ 32) {s : Nat → Nat} {R : Nat → Nat} (hC : Cw w s) (hIn : In s) (hRu : Ru s) : ic_C l E mX11_prove 15 0 0 False [ic_pt E 0, .int (nI n)] SHs (hn w) SHs (ic_qi (fun v_ h_ => v_ = nI (if n ≤ 4 then (mo_sm s n 0).1 18 else 4294967295) ∧ ∃ w2, h_ = hn w2 ∧ (if n ≤ 4 then ((∀ a, ((4 ≤ a ∧ a ≤ 11) ∨ (16 ≤ a ∧ a ≤ 54) ∨ (56 ≤ a ∧ a ≤ 64) ∨ (67 ≤ a ∧ a ≤ 94) ∨ 114 ≤ a) → w2 a = w a) ∧ w2 55 0 = w 55 0 ∧ (∀ j, j ≠ 9 → w2 0 j = w 0 j) ∧ Cz w2 (mo_prw (mo_sm s n 0).2 s R ((mo_sm s n 0).1 18)).2 ((mo_sm s n 0).1 18)) else w2 = w))) := by
  refine ic_intro (by decide +kernel) (Nat.le_of_ble_eq_true rfl) ?_
  show xx l E _ _ 0 [(0, ic_pt E 0), (1, .int (nI n))] _ _ _
  have hN := hC.1
  have hm := hC.2.1
  have n5_w := hC.2.2.1
  have n6_w := hC.2.2.2
  have hn0 := hIn.n
  have htt := hIn.t
  have hcr := hIn.cr (s 1)
  have n1_w : w 39 10 = s 0 := hN.n
  have n2_w : w 39 11 = s 2 := hN.e
  have n3_w : w 46 0 = s 1 := hm.t
  have n4_w : w 46 1 = mo_outs s := hm.o
  refine xx_iload_n (pc := 0) dX11_prove_0 1 rfl rfl ?_
  refine xx_callS0 (pc := 1) (st := []) (cC_isPlanLength (w := w) (v := n) (by omega)) kX11_isPlanLength sX11_252 dX11_prove_1 rfl rfl (Nat.le_of_ble_eq_true rfl) ⟨Nat.le_of_ble_eq_true rfl, Nat.le_of_ble_eq_true rfl⟩ ⟨Nat.zero_le _, Nat.zero_le _⟩ (ic_ke ?_)
  refine xx_if_neB (pc := 4) 9 dX11_prove_4 rfl (fun c1 => ?_) (fun c1 => ?_)
  · refine xx_aload_nP (pc := 9) dX11_prove_9 0 rfl rfl ?_
    refine xx_getR (pc := 10) 95 dX11_prove_10 sh_0 fX11_86_11 rfl rfl (by decide) ?_
    refine xx_iload_n (pc := 13) dX11_prove_13 1 rfl rfl ?_
    refine xx_iconst (pc := 14) dX11_prove_14 cc_iconst_0 ?_
    refine xx_callV0 (pc := 15) (st := []) sh_95 (cC_tryAll (w := w) (n := n) (want := 0) (s := s) hC hIn hRu (by omega) (by omega)) kX6_tryAll vX11_255_6 dX11_prove_15 rfl rfl (Nat.le_of_ble_eq_true rfl) ⟨Nat.le_of_ble_eq_true rfl, Nat.le_of_ble_eq_true rfl⟩ ⟨Nat.zero_le _, Nat.zero_le _⟩ (ic_kv (fun h_ qw2 => ?_))
    obtain ⟨w2, rfl, fw2, pw2⟩ := qw2
    obtain ⟨p4, p5, p6, p7, p8, p98, pl4, pl16⟩ := pw2
    refine xx_aload_nP (pc := 18) dX11_prove_18 0 rfl rfl ?_
    refine xx_aload_nP (pc := 19) dX11_prove_19 0 rfl rfl ?_
    refine xx_getR (pc := 20) 95 dX11_prove_20 sh_0 fX11_86_11 rfl rfl (by decide) ?_
    refine xx_getN (pc := 23) dX11_prove_23 sh_95 fX11_262_6 rfl ?_
    refine xx_eqI (y := nI ((mo_sm s n 0).1 18)) (by rw [p4]) ?_
    refine xx_putN (pc := 26) dX11_prove_26 sh_0 fX11_321_11 rfl rfl ?_
    refine xx_nw (fun w4 ew4 => ?_)
    have x9_ : w4 0 9 = (mo_sm s n 0).1 18 := by rw [ew4, wu_s]
    have xk_ : ∀ j, j ≠ 9 → w4 0 j = w 0 j := fun j hj => by rw [ew4, wu_k _ _ _ _ hj, fw2.1 0 (by omega)]
    have xr_ : ∀ a, a ≠ 0 → w4 a = w2 a := fun a ha => by rw [ew4, wu_row _ _ _ ha]
    have hC1_ : Cw w2 s := hC.fp fw2
    have hm_w4 : Cs w4 46 s := hC1_.2.1.of (xr_ _ (by omega)) (xr_ _ (by omega)) (xr_ _ (by omega))
    have hN_w4 : Cn w4 s := hC1_.1.of (by rw [xr_ _ (by omega)]) (by rw [xr_ _ (by omega)]) (by rw [xr_ _ (by omega)]) (fun a _ _ _ _ _ _ _ _ => xr_ a (by omega))
    have hok := mo_sm_ok hIn n 0
    have hok2 : s 1 + (mo_sm s n 0).1 18 ≤ s 2 := hok.2
    refine xx_aload_nP (pc := 29) dX11_prove_29 0 rfl rfl ?_
    refine xx_getR (pc := 30) 1 dX11_prove_30 sh_0 fX11_10_11 rfl rfl (by decide) ?_
    refine xx_aload_nP (pc := 33) dX11_prove_33 0 rfl rfl ?_
    refine xx_getR (pc := 34) 39 dX11_prove_34 sh_0 fX11_74_11 rfl rfl (by decide) ?_
    refine xx_getR (pc := 37) 46 dX11_prove_37 sh_39 fX11_112_5 rfl rfl (by decide) ?_
    refine xx_callV0 (pc := 40) (st := []) sh_1 (cC_mbecome (w := w4) (m := 1) (p := 46) Mo_1 Mo_46 (by omega)) kX4_become vX11_226_4 dX11_prove_40 rfl rfl (Nat.le_of_ble_eq_true rfl) ⟨Nat.le_of_ble_eq_true rfl, Nat.le_of_ble_eq_true rfl⟩ ⟨Nat.zero_le _, Nat.zero_le _⟩ (ic_kv (fun h_ qw5 => ?_))
    obtain ⟨w5, rfl, b0, b1, bj, gb⟩ := qw5
    have hf_w5 : Fp w4 w5 := ⟨fun a ha => gb a (by omega) (by omega) (by omega), by rw [gb 55 (by omega) (by omega) (by omega)]⟩
    have hm_w5 : Cs w5 1 s := Cs.bc hm_w4 hIn b0 b1 bj
    have hN_w5 : Cn w5 s := hN_w4.fp hf_w5
    refine xx_iconst (pc := 43) dX11_prove_43 cc_iconst_0 ?_
    refine xx_istore_n (L' := [(2, .int (nI 0)), (0, ic_pt E 0), (1, .int (nI n))]) (pc := 44) dX11_prove_44 rfl (Nat.le_of_ble_eq_true rfl) rfl ?_
    have lp : ∀ (n_ : Nat) (i : Nat) (t : Nat → Nat) (u : ic_w), i ≤ (mo_sm s n 0).1 18 → t = (mo_prw (mo_sm s n 0).2 s R i).1 → t 0 = s 0 ∧ t 1 = s 1 + i ∧ t 2 = s 2 → Cn u t → Cs u 1 t → In t → Ru t → (∀ a, a ≠ 1 → a ≠ 2 → a ≠ 3 → a ≠ 65 → a ≠ 66 → (a < 12 ∨ 15 < a) → u a = w5 a) → Cy u (mo_prw (mo_sm s n 0).2 s R i).2 i → (mo_sm s n 0).1 18 - i < n_ → xx l E (ic_fr E mX11_prove 15 0 0 False SHs (ic_qi (fun v_ h_ => v_ = nI (if n ≤ 4 then (mo_sm s n 0).1 18 else 4294967295) ∧ ∃ w2, h_ = hn w2 ∧ (if n ≤ 4 then ((∀ a, ((4 ≤ a ∧ a ≤ 11) ∨ (16 ≤ a ∧ a ≤ 54) ∨ (56 ≤ a ∧ a ≤ 64) ∨ (67 ≤ a ∧ a ≤ 94) ∨ 114 ≤ a) → w2 a = w a) ∧ w2 55 0 = w 55 0 ∧ (∀ j, j ≠ 9 → w2 0 j = w 0 j) ∧ Cz w2 (mo_prw (mo_sm s n 0).2 s R ((mo_sm s n 0).1 18)).2 ((mo_sm s n 0).1 18)) else w2 = w)))) (0, 0) 45 [(2, .int (nI i)), (0, ic_pt E 0), (1, .int (nI n))] [] SHs (hn u) := by
      intro n_
      induction n_ with
      | zero => intro i t u hi ht h01 hN_u hm_u hIn_u hRu_u hf hcy hm_; exact absurd hm_ (Nat.not_lt_zero _)
      | succ n_ ih_ =>
        intro i t u hi ht h01 hN_u hm_u hIn_u hRu_u hf hcy hm_
        have n1_u : u 39 10 = t 0 := hN_u.n
        have n2_u : u 39 11 = t 2 := hN_u.e
        have n3_u : u 1 0 = t 1 := hm_u.t
        have tn0_u := hIn_u.n
        have ttt_u := hIn_u.t
        have u9_ : u 0 9 = (mo_sm s n 0).1 18 := by rw [hf 0 (by omega) (by omega) (by omega) (by omega) (by omega) (by omega), gb 0 (by omega) (by omega) (by omega)]; exact x9_
        have h98 : ∀ j, j < (mo_sm s n 0).1 18 → u 98 j = (mo_sm s n 0).2 j := fun j hj => by rw [hf 98 (by omega) (by omega) (by omega) (by omega) (by omega) (by omega), gb 98 (by omega) (by omega) (by omega), xr_ 98 (by omega)]; exact p98 j hj
        refine xx_iload_n (pc := 45) dX11_prove_45 0 rfl rfl ?_
        refine xx_aload_nP (pc := 46) dX11_prove_46 1 rfl rfl ?_
        refine xx_getN (pc := 47) dX11_prove_47 sh_0 fX11_321_11 rfl ?_
        refine xx_icmp_geN (pc := 50) 119 dX11_prove_50 rfl (by omega) (by omega) (fun c27 => ?_) (fun c27 => ?_)
        · refine xx_aload_nP (pc := 119) dX11_prove_119 1 rfl rfl ?_
          refine xx_getN (pc := 120) dX11_prove_120 sh_0 fX11_321_11 rfl ?_
          exact xx_iret (pc := 123) dX11_prove_123 rfl (rfl) (Nat.le_refl _) (Nat.le_refl _) (ic_ri ⟨by rw [if_pos (by omega), u9_], u, rfl, by rw [if_pos (by omega)]; exact ⟨fun a ha => by rw [hf a (by omega) (by omega) (by omega) (by omega) (by omega) (by omega), gb a (by omega) (by omega) (by omega), xr_ a (by omega), fw2.1 a (by omega)], by rw [hf 55 (by omega) (by omega) (by omega) (by omega) (by omega) (by omega), gb 55 (by omega) (by omega) (by omega), xr_ 55 (by omega), fw2.2], fun j hj => by rw [hf 0 (by omega) (by omega) (by omega) (by omega) (by omega) (by omega), gb 0 (by omega) (by omega) (by omega)]; exact xk_ j hj, u9_, pl4, by have hz2 := hcy; rw [show i = (mo_sm s n 0).1 18 by omega] at hz2; exact hz2⟩⟩)
        · have hqi := hok.1 i (by omega)
          refine xx_aload_nP (pc := 53) dX11_prove_53 1 rfl rfl ?_
          refine xx_getR (pc := 54) 11 dX11_prove_54 sh_0 fX11_29_11 rfl rfl (by decide) ?_
          refine xx_iload_n (pc := 57) dX11_prove_57 0 rfl rfl ?_
          refine xx_aald (pc := 58) i (12 + i) dX11_prove_58 sh_11 (by decide) rfl (by omega) (by decide) (rw_at (by omega)) ?_
          refine xx_iconst (pc := 59) dX11_prove_59 cc_iconst_0 ?_
          refine xx_aload_nP (pc := 60) dX11_prove_60 1 rfl rfl ?_
          refine xx_getR (pc := 61) 95 dX11_prove_61 sh_0 fX11_86_11 rfl rfl (by decide) ?_
          refine xx_getR (pc := 64) 98 dX11_prove_64 sh_95 fX11_265_6 rfl rfl (by decide) ?_
          refine xx_iload_n (pc := 67) dX11_prove_67 0 rfl rfl ?_
          refine xx_ialdN (pc := 68) dX11_prove_68 sh_98 (by omega) (by decide) ?_
          refine xx_eqI (y := nI ((mo_sm s n 0).2 i)) (by rw [h98 i (by omega)]) ?_
          refine xx_iastN (pc := 69) dX11_prove_69 (rw_sh (by omega)) (by omega) (by decide) ?_
          refine xx_nw (fun w28 ew28 => ?_)
          have hN_w28 : Cn w28 t := hN_u.of (by rw [ew28, wu_row _ _ _ (by omega)]) (by rw [ew28, wu_row _ _ _ (by omega)]) (by rw [ew28, wu_row _ _ _ (by omega)]) (fun a _ _ _ _ _ _ _ _ => by rw [ew28, wu_row _ _ _ (by omega)])
          have hm_w28 : Cs w28 1 t := hm_u.of (by rw [ew28, wu_row _ _ _ (by omega)]) (by rw [ew28, wu_row _ _ _ (by omega)]) (by rw [ew28, wu_row _ _ _ (by omega)])
          have fq_w28 : w28 98 i = (mo_sm s n 0).2 i := by rw [ew28, wu_row _ _ _ (by omega)]; exact h98 i (by omega)
          refine xx_aload_nP (pc := 70) dX11_prove_70 1 rfl rfl ?_
          refine xx_getR (pc := 71) 11 dX11_prove_71 sh_0 fX11_29_11 rfl rfl (by decide) ?_
          refine xx_iload_n (pc := 74) dX11_prove_74 0 rfl rfl ?_
          refine xx_aald (pc := 75) i (12 + i) dX11_prove_75 sh_11 (by decide) rfl (by omega) (by decide) (rw_at (by omega)) ?_
          refine xx_iconst (pc := 76) dX11_prove_76 cc_iconst_1 ?_
          refine xx_aload_nP (pc := 77) dX11_prove_77 1 rfl rfl ?_
          refine xx_getR (pc := 78) 39 dX11_prove_78 sh_0 fX11_74_11 rfl rfl (by decide) ?_
          refine xx_aload_nP (pc := 81) dX11_prove_81 1 rfl rfl ?_
          refine xx_getR (pc := 82) 1 dX11_prove_82 sh_0 fX11_10_11 rfl rfl (by decide) ?_
          refine xx_aload_nP (pc := 85) dX11_prove_85 1 rfl rfl ?_
          refine xx_getR (pc := 86) 95 dX11_prove_86 sh_0 fX11_86_11 rfl rfl (by decide) ?_
          refine xx_getR (pc := 89) 98 dX11_prove_89 sh_95 fX11_265_6 rfl rfl (by decide) ?_
          refine xx_iload_n (pc := 92) dX11_prove_92 0 rfl rfl ?_
          refine xx_ialdN (pc := 93) dX11_prove_93 sh_98 (by omega) (by decide) ?_
          refine xx_eqI (y := nI ((mo_sm s n 0).2 i)) (by rw [fq_w28]) ?_
          have hwl_x29 := mo_worth_le hIn_u (act := (mo_sm s n 0).2 i) (by omega)
          refine xx_callV0 (pc := 94) (st := [.int (nI 1), ic_pt E (12 + i)]) sh_39 (cC_goBy (w := w28) (m := 1) (act := (mo_sm s n 0).2 i) (s := t) Mo_1 hm_w28 hN_w28 hIn_u hRu_u (by omega)) kX5_goBy vX11_229_5 dX11_prove_94 rfl rfl (Nat.le_of_ble_eq_true rfl) ⟨Nat.le_of_ble_eq_true rfl, Nat.le_of_ble_eq_true rfl⟩ ⟨Nat.zero_le _, Nat.zero_le _⟩ (ic_ki (fun v31 h_ qw30 => ?_))
          obtain ⟨rfl, w30, rfl, gw30, hm_w30⟩ := qw30
          have hIn_w30 : In (mo_go t ((mo_sm s n 0).2 i)) := In_go hIn_u (by omega) (by omega)
          have hRu_w30 : Ru (mo_go t ((mo_sm s n 0).2 i)) := Ru_go hRu_u hIn_u (by omega)
          have hN_w30 : Cn w30 (mo_go t ((mo_sm s n 0).2 i)) := (hN_w28.fm Mo_1 gw30).go hIn_u (by omega)
          refine xx_iastN (pc := 97) dX11_prove_97 (rw_sh (by omega)) (by omega) (by decide) ?_
          refine xx_nw (fun w32 ew32 => ?_)
          have og_ : w32 1 1 = mo_outs (mo_go t ((mo_sm s n 0).2 i)) := by rw [ew32, wu_row _ _ _ (by omega)]; exact hm_w30.o
          refine xx_aload_nP (pc := 98) dX11_prove_98 1 rfl rfl ?_
          refine xx_getR (pc := 99) 11 dX11_prove_99 sh_0 fX11_29_11 rfl rfl (by decide) ?_
          refine xx_iload_n (pc := 102) dX11_prove_102 0 rfl rfl ?_
          refine xx_aald (pc := 103) i (12 + i) dX11_prove_103 sh_11 (by decide) rfl (by omega) (by decide) (rw_at (by omega)) ?_
          refine xx_iconst (pc := 104) dX11_prove_104 cc_iconst_2 ?_
          refine xx_aload_nP (pc := 105) dX11_prove_105 1 rfl rfl ?_
          refine xx_getR (pc := 106) 1 dX11_prove_106 sh_0 fX11_10_11 rfl rfl (by decide) ?_
          refine xx_getN (pc := 109) dX11_prove_109 sh_1 fX11_189_4 rfl ?_
          refine xx_eqI (y := nI (mo_outs (mo_go t ((mo_sm s n 0).2 i)))) (by rw [og_]) ?_
          refine xx_iastN (pc := 112) dX11_prove_112 (rw_sh (by omega)) (by omega) (by decide) ?_
          refine xx_nw (fun w33 ew33 => ?_)
          refine xx_iincN (L' := [(2, .int (nI (i + 1))), (0, ic_pt E 0), (1, .int (nI n))]) (pc := 113) dX11_prove_113 0 rfl cc_iconst_1 (Nat.le_of_ble_eq_true rfl) rfl ?_
          refine xx_goto (pc := 116) 45 dX11_prove_116 rfl ?_
          have fr_ : ∀ a, a ≠ 12 + i → a ≠ 1 → a ≠ 2 → a ≠ 3 → a ≠ 65 → a ≠ 66 → w33 a = u a := fun a h1 h2 h3 h4 h5 h6 => by rw [ew33, wu_row _ _ _ h1, ew32, wu_row _ _ _ h1, gw30 a h5 h6 h2 h3 h4, ew28, wu_row _ _ _ h1]
          have ge_ : ∀ j, w30 (12 + i) j = w28 (12 + i) j := fun j => by rw [gw30 _ (by omega) (by omega) (by omega) (by omega) (by omega)]
          have cy_ : Cy w33 (mo_prw (mo_sm s n 0).2 s R (i + 1)).2 (i + 1) := hcy.up (fun a h1 h2 => fr_ a (by omega) (by omega) (by omega) (by omega) (by omega) (by omega)) (by rw [ew33, wu_k _ _ _ _ (by omega), ew32, wu_k _ _ _ _ (by omega), ge_, ew28, wu_s]) (by rw [ew33, wu_k _ _ _ _ (by omega), ew32, wu_s, ← ht]) (by rw [ew33, wu_s, ← ht])
          have go2 : mo_go t ((mo_sm s n 0).2 i) 2 = t 2 ∧ mo_go t ((mo_sm s n 0).2 i) 0 = t 0 := ⟨mo_go_r _ (by omega) (by omega) (by omega), mo_go_r _ (by omega) (by omega) (by omega)⟩
          have go1 := mo_go_1 t ((mo_sm s n 0).2 i)
          exact xx_sub [0, 1, 2] rfl (ih_ (i + 1) _ w33 (by omega) (by rw [ht]; rfl) (by omega) (hN_w30.of (by rw [ew33, wu_row _ _ _ (by omega), ew32, wu_row _ _ _ (by omega)]) (by rw [ew33, wu_row _ _ _ (by omega), ew32, wu_row _ _ _ (by omega)]) (by rw [ew33, wu_row _ _ _ (by omega), ew32, wu_row _ _ _ (by omega)]) (fun a _ _ _ _ _ _ _ _ => by rw [ew33, wu_row _ _ _ (by omega), ew32, wu_row _ _ _ (by omega)])) (hm_w30.of (by rw [ew33, wu_row _ _ _ (by omega), ew32, wu_row _ _ _ (by omega)]) (by rw [ew33, wu_row _ _ _ (by omega), ew32, wu_row _ _ _ (by omega)]) (by rw [ew33, wu_row _ _ _ (by omega), ew32, wu_row _ _ _ (by omega)])) hIn_w30 hRu_w30 (fun a h1 h2 h3 h4 h5 h6 => by rw [fr_ a (by omega) h1 h2 h3 h4 h5]; exact hf a h1 h2 h3 h4 h5 h6) cy_ (by omega))
    exact xx_sub [0, 1, 2] rfl (lp ((mo_sm s n 0).1 18 + 1) 0 s w5 (by omega) rfl (by omega) hN_w5 hm_w5 hIn hRu (fun _ _ _ _ _ _ _ => rfl) (fun _ h => absurd h (by omega)) (by omega))
  · refine xx_iconst (pc := 7) dX11_prove_7 cc_iconst_m1 ?_
    exact xx_iret (pc := 8) dX11_prove_8 rfl (rfl) (Nat.le_refl _) (Nat.le_refl _) (ic_ri ⟨by rw [if_neg (by omega)], w, rfl, by rw [if_neg (by omega)]⟩)

