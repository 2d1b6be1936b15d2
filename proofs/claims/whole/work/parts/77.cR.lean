/-! the class: the game of two -/
def Fg (k : Nat) (w w2 : ic_w) : Prop := (∀ a, a ≠ 65 → a ≠ 66 → a ≠ 95 → a < 102 + 3 * k ∨ 114 ≤ a → w2 a = w a) ∧ (∀ j, j ≠ 10 → w2 95 j = w 95 j) ∧ (k ≠ 0 → w2 95 10 = w 95 10)
theorem Fg.rf (k : Nat) (w : ic_w) : Fg k w w := ⟨fun _ _ _ _ _ => rfl, fun _ _ => rfl, fun _ => rfl⟩
theorem Fg.tr {k : Nat} {w a b : ic_w} (h : Fg k w a) (g : Fg k a b) : Fg k w b := ⟨fun q h1 h2 h3 h4 => (g.1 q h1 h2 h3 h4).trans (h.1 q h1 h2 h3 h4), fun j hj => (g.2.1 j hj).trans (h.2.1 j hj), fun hk => (g.2.2 hk).trans (h.2.2 hk)⟩
theorem Cn.fg {k : Nat} {w a : ic_w} {s : Nat → Nat} (h : Cn w s) (g : Fg k w a) : Cn a s := h.of (by rw [g.1 39 (by omega) (by omega) (by omega) (by omega)]) (by rw [g.1 39 (by omega) (by omega) (by omega) (by omega)]) (by rw [g.1 55 (by omega) (by omega) (by omega) (by omega)]) (fun a _ _ _ _ _ _ _ _ => g.1 a (by omega) (by omega) (by omega) (by omega))
theorem Fg.p0 {w a : ic_w} (h : Fg 0 w a) : Fp w a := ⟨fun q hq => h.1 q (by omega) (by omega) (by omega) (by omega), by rw [h.1 55 (by omega) (by omega) (by omega) (by omega)]⟩
theorem Fg.step {k : Nat} {u wb wc wd : ic_w} (hk3 : k ≤ 3) (hb : ∀ q, q ≠ 99 + 3 * (k + 1) → q ≠ 99 + 3 * (k + 1) + 1 → q ≠ 99 + 3 * (k + 1) + 2 → wb q = u q) (hc : Fm (99 + 3 * (k + 1)) wb wc) (hd : Fg (k + 1) wc wd) : Fg k u wd ∧ wc 95 = u 95 ∧ wd 95 10 = u 95 10 := by
  have e95 : wc 95 = u 95 := (hc 95 (by omega) (by omega) (by omega) (by omega) (by omega)).trans (hb 95 (by omega) (by omega) (by omega))
  have e10 : wd 95 10 = u 95 10 := by rw [hd.2.2 (by omega), e95]
  refine ⟨⟨fun q h1 h2 h3 h4 => ?_, fun j hj => by rw [hd.2.1 j hj, e95], fun _ => e10⟩, e95, e10⟩
  rw [hd.1 q h1 h2 h3 (by omega), hc q h1 h2 (by omega) (by omega) (by omega), hb q (by omega) (by omega) (by omega)]
theorem ab_0 (k : Nat) (f : Nat → Nat) : ∀ n, (k % 2 = 0 → f 0 ≤ f (mo_ab k f n)) ∧ (¬ k % 2 = 0 → f (mo_ab k f n) ≤ f 0)
  | 0 => ⟨fun _ => Nat.le_refl _, fun _ => Nat.le_refl _⟩
  | n + 1 => by
    have := ab_0 k f n
    rw [mo_ab]
    split <;> omega
theorem ab_i {m : Nat} {s : Nat → Nat} {k b : Nat} (hI : In s) (hb : b < s 0) (hd : mo_deed s b = 2) : mo_ab k (mo_gf m s k) (b + 1) = mo_ab k (mo_gf m s k) b := by
  have h0 := hI.n
  obtain ⟨e1, e2⟩ := mo_idle_go (hI.i (o := b) (by omega)).2.2.2.2.1 hd
  have e : mo_gf m s k (b + 1) = mo_gf m s k 0 := by unfold mo_gf; rw [e1, e2]
  have := ab_0 k (mo_gf m s k) b
  rw [mo_ab, if_neg (by omega)]
theorem gv_base {m : Nat} {s : Nat → Nat} {k : Nat} (h : m = 0 ∨ s 2 ≤ s 1) : mo_gv m s k = 0 := by
  cases m with
  | zero => rfl
  | succ m => rw [mo_gv_s, if_pos (by omega)]
def Gv (l : Launch) (E : ic_E) (m : Nat) : Prop := ∀ (w : ic_w) (s : Nat → Nat) (k : Nat), Cs w (99 + 3 * k) s → Cn w s → In s → Ru s → w 95 4 = k + min m (s 2 - s 1) → w 95 4 ≤ 4 → m ≤ 16 → ic_C l E mX6_valueFrom (m + 8) 0 0 False [ic_pt E 95, .int (nI k)] SHs (hn w) SHs (ic_qi (fun v_ h_ => v_ = nI (mo_gv m s k) ∧ ∃ w2, h_ = hn w2 ∧ Fg k w w2 ∧ (k = 0 → ∀ m2, m = m2 + 1 → s 1 < s 2 → w2 95 10 = mo_ab 0 (mo_gf m2 s 0) (s 0))))
set_option maxHeartbeats 4000000 in
set_option maxRecDepth 100000 in
theorem cC_vleaf {l : Launch} {E : ic_E} {w : ic_w} {m d k : Nat} {s : Nat → Nat} (hd : 2 ≤ d) (hz : m = 0 ∨ s 2 ≤ s 1) (hm : Cs w (99 + 3 * k) s) (hN : Cn w s) (hIn : In s) (hRu : Ru s) (hlen : w 95 4 = k + min m (s 2 - s 1)) (hp4 : w 95 4 ≤ 4) (hm16 : m ≤ 16) : ic_C l E mX6_valueFrom d 0 0 False [ic_pt E 95, .int (nI k)] SHs (hn w) SHs (ic_qi (fun v_ h_ => v_ = nI (mo_gv m s k) ∧ ∃ w2, h_ = hn w2 ∧ Fg k w w2 ∧ (k = 0 → ∀ m2, m = m2 + 1 → s 1 < s 2 → w2 95 10 = mo_ab 0 (mo_gf m2 s 0) (s 0)))) := by
  refine ic_intro (by decide +kernel) (Nat.le_of_ble_eq_true rfl) ?_
  show xx l E _ _ 0 [(0, ic_pt E 95), (1, .int (nI k))] _ _ _
  have hk : w 95 4 = k := by omega
  refine xx_iload_n (pc := 0) dX6_valueFrom_0 1 rfl rfl ?_
  refine xx_aload_nP (pc := 1) dX6_valueFrom_1 0 rfl rfl ?_
  refine xx_getN (pc := 2) dX6_valueFrom_2 sh_95 fX6_51_6 rfl ?_
  refine xx_icmp_ltN (pc := 5) 10 dX6_valueFrom_5 rfl (by omega) (by omega) (fun c1 => by exfalso; omega) (fun c1 => ?_)
  refine xx_iconst (pc := 8) dX6_valueFrom_8 cc_iconst_0 ?_
  exact xx_iret (pc := 9) dX6_valueFrom_9 rfl (rfl) (Nat.le_refl _) (Nat.le_refl _) (ic_ri ⟨by rw [gv_base hz], w, rfl, Fg.rf k w, fun _ m2 e hs => by omega⟩)

set_option maxHeartbeats 4000000 in
set_option maxRecDepth 100000 in
theorem cC_vnode {l : Launch} {E : ic_E} {w : ic_w} {m k : Nat} {s : Nat → Nat} (IH : Gv l E m) (hz : s 1 < s 2) (hm : Cs w (99 + 3 * k) s) (hN : Cn w s) (hIn : In s) (hRu : Ru s) (hlen : w 95 4 = k + min (m + 1) (s 2 - s 1)) (hp4 : w 95 4 ≤ 4) (hm16 : m + 1 ≤ 16) : ic_C l E mX6_valueFrom (m + 9) 0 0 False [ic_pt E 95, .int (nI k)] SHs (hn w) SHs (ic_qi (fun v_ h_ => v_ = nI (mo_gv (m + 1) s k) ∧ ∃ w2, h_ = hn w2 ∧ Fg k w w2 ∧ (k = 0 → ∀ m2, m + 1 = m2 + 1 → s 1 < s 2 → w2 95 10 = mo_ab 0 (mo_gf m2 s 0) (s 0)))) := by
  refine ic_intro (by decide +kernel) (Nat.le_of_ble_eq_true rfl) ?_
  show xx l E _ _ 0 [(0, ic_pt E 95), (1, .int (nI k))] _ _ _
  have hn0 := hIn.n
  have htt := hIn.t
  have n1_w : w 39 10 = s 0 := hN.n
  have hk3 : k < w 95 4 := by omega
  have hil_ : mo_idle s < 64 := Nat.lt_of_lt_of_le (mo_set_lt _ _) (mo_p2 hn0)
  refine xx_iload_n (pc := 0) dX6_valueFrom_0 1 rfl rfl ?_
  refine xx_aload_nP (pc := 1) dX6_valueFrom_1 0 rfl rfl ?_
  refine xx_getN (pc := 2) dX6_valueFrom_2 sh_95 fX6_51_6 rfl ?_
  refine xx_icmp_ltN (pc := 5) 10 dX6_valueFrom_5 rfl (by omega) (by omega) (fun c1 => ?_) (fun c1 => by exfalso; omega)
  refine xx_aload_nP (pc := 10) dX6_valueFrom_10 0 rfl rfl ?_
  refine xx_getR (pc := 11) 96 dX6_valueFrom_11 sh_95 fX6_11_6 rfl rfl (by decide) ?_
  refine xx_iload_n (pc := 14) dX6_valueFrom_14 1 rfl rfl ?_
  refine xx_iconst (pc := 15) dX6_valueFrom_15 cc_iconst_1 ?_
  refine xx_iaddN (pc := 16) dX6_valueFrom_16 ?_
  refine xx_aald (pc := 17) (k + 1) (99 + 3 * (k + 1)) dX6_valueFrom_17 sh_96 (by decide) rfl (by omega) (by decide) (pm_at (by omega)) ?_
  refine xx_astore_n (L' := [(2, ic_pt E (99 + 3 * (k + 1))), (0, ic_pt E 95), (1, .int (nI k))]) (pc := 18) dX6_valueFrom_18 rfl (Nat.le_of_ble_eq_true rfl) rfl ?_
  refine xx_aload_nP (pc := 19) dX6_valueFrom_19 1 rfl rfl ?_
  refine xx_getR (pc := 20) 39 dX6_valueFrom_20 sh_95 fX6_24_6 rfl rfl (by decide) ?_
  refine xx_aload_nP (pc := 23) dX6_valueFrom_23 1 rfl rfl ?_
  refine xx_getR (pc := 24) 96 dX6_valueFrom_24 sh_95 fX6_11_6 rfl rfl (by decide) ?_
  refine xx_iload_n (pc := 27) dX6_valueFrom_27 2 rfl rfl ?_
  refine xx_aald (pc := 28) k (99 + 3 * k) dX6_valueFrom_28 sh_96 (by decide) rfl (by omega) (by decide) (pm_at (by omega)) ?_
  refine xx_callV0 (pc := 29) (st := []) sh_39 (cC_idlers (w := w) (m := 99 + 3 * k) (s := s)  (Mo_pl (k := k) (by omega)) hm hN hIn hRu) kX5_idlers vX6_85_5 dX6_valueFrom_29 rfl rfl (Nat.le_of_ble_eq_true rfl) (pl_hR (d := m + 9) (by omega) (Nat.le_of_ble_eq_true rfl)) ⟨Nat.zero_le _, Nat.zero_le _⟩ (ic_ki (fun v3 h_ qw2 => ?_))
  obtain ⟨rfl, w2, rfl, gw2⟩ := qw2
  have hN_w2 : Cn w2 s := hN.fs gw2
  have hm_w2 : Cs w2 (99 + 3 * k) s := hm.fs (Mo_pl (k := k) (by omega)) gw2
  have n1_w2 : w2 39 10 = s 0 := hN_w2.n
  have n2_w2 : w2 39 11 = s 2 := hN_w2.e
  have n3_w2 : w2 (99 + 3 * k) 0 = s 1 := hm_w2.t
  refine xx_istore_n (L' := [(3, .int (nI (mo_idle s))), (2, ic_pt E (99 + 3 * (k + 1))), (0, ic_pt E 95), (1, .int (nI k))]) (pc := 32) dX6_valueFrom_32 rfl (Nat.le_of_ble_eq_true rfl) rfl ?_
  refine xx_iconst (pc := 33) dX6_valueFrom_33 cc_iconst_0 ?_
  refine xx_istore (L' := [(4, .int (nI 0)), (3, .int (nI (mo_idle s))), (2, ic_pt E (99 + 3 * (k + 1))), (0, ic_pt E 95), (1, .int (nI k))]) (pc := 34) dX6_valueFrom_34 (Nat.le_of_ble_eq_true rfl) rfl ?_
  refine xx_iconst (pc := 36) dX6_valueFrom_36 cc_iconst_0 ?_
  refine xx_istore (L' := [(5, .int (nI 0)), (4, .int (nI 0)), (3, .int (nI (mo_idle s))), (2, ic_pt E (99 + 3 * (k + 1))), (0, ic_pt E 95), (1, .int (nI k))]) (pc := 37) dX6_valueFrom_37 (Nat.le_of_ble_eq_true rfl) rfl ?_
  have hp_w2 := hm_w2
  have u4_ : w2 95 4 = w 95 4 := by rw [gw2 95 (by omega) (by omega)]
  refine xx_iload (pc := 39) dX6_valueFrom_39 0 rfl ?_
  refine xx_aload_nP (pc := 41) dX6_valueFrom_41 4 rfl rfl ?_
  refine xx_getR (pc := 42) 39 dX6_valueFrom_42 sh_95 fX6_24_6 rfl rfl (by decide) ?_
  refine xx_getN (pc := 45) dX6_valueFrom_45 sh_39 fX6_89_5 rfl ?_
  refine xx_icmp_gtN (pc := 48) 169 dX6_valueFrom_48 rfl (by omega) (by omega) (fun c4 => by exfalso; omega) (fun c4 => ?_)
  refine xx_iload (pc := 51) dX6_valueFrom_51 0 rfl ?_
  refine xx_if_leN (pc := 53) 70 dX6_valueFrom_53 rfl (by omega) (fun c5 => ?_) (fun c5 => by exfalso; omega)
  refine xx_aload_nP (pc := 70) dX6_valueFrom_70 3 rfl rfl ?_
  refine xx_aload_nP (pc := 71) dX6_valueFrom_71 4 rfl rfl ?_
  refine xx_getR (pc := 72) 96 dX6_valueFrom_72 sh_95 fX6_11_6 rfl rfl (by decide) ?_
  refine xx_iload_n (pc := 75) dX6_valueFrom_75 5 rfl rfl ?_
  refine xx_aald (pc := 76) k (99 + 3 * k) dX6_valueFrom_76 sh_96 (by decide) rfl (by omega) (by decide) (pm_at (by omega)) ?_
  refine xx_callV0 (pc := 77) (st := []) (Mo_pl (by omega)).1 (cC_mbecome (w := w2) (m := 99 + 3 * (k + 1)) (p := 99 + 3 * k) (Mo_pl (by omega)) (Mo_pl (by omega)) (by omega)) kX4_become vX6_54_4 dX6_valueFrom_77 rfl rfl (Nat.le_of_ble_eq_true rfl) (pl_hR (d := m + 9) (by omega) (Nat.le_of_ble_eq_true rfl)) ⟨Nat.zero_le _, Nat.zero_le _⟩ (ic_kv (fun h_ qw6 => ?_))
  obtain ⟨w6, rfl, b0, b1, bj, gb⟩ := qw6
  have hm_w6 : Cs w6 (99 + 3 * (k + 1)) s := Cs.bc hp_w2 hIn b0 b1 bj
  have hN_w6 : Cn w6 s := hN_w2.of (by rw [gb _ (by omega) (by omega) (by omega)]) (by rw [gb _ (by omega) (by omega) (by omega)]) (by rw [gb _ (by omega) (by omega) (by omega)]) (fun b _ _ _ _ _ _ _ _ => by rw [gb _ (by omega) (by omega) (by omega)])
  refine xx_aload_nP (pc := 80) dX6_valueFrom_80 4 rfl rfl ?_
  refine xx_getR (pc := 81) 39 dX6_valueFrom_81 sh_95 fX6_24_6 rfl rfl (by decide) ?_
  refine xx_aload_nP (pc := 84) dX6_valueFrom_84 3 rfl rfl ?_
  refine xx_iload (pc := 85) dX6_valueFrom_85 0 rfl ?_
  have hwl_x8 := mo_worth_le hIn (act := 0) (by omega)
  refine xx_callV0 (pc := 87) (st := []) sh_39 (cC_goBy (w := w6) (m := 99 + 3 * (k + 1)) (act := 0) (s := s) (Mo_pl (k := k + 1) (by omega)) hm_w6 hN_w6 hIn hRu (by omega)) kX5_goBy vX6_96_5 dX6_valueFrom_87 rfl rfl (Nat.le_of_ble_eq_true rfl) (pl_hR (d := m + 9) (by omega) (Nat.le_of_ble_eq_true rfl)) ⟨Nat.zero_le _, Nat.zero_le _⟩ (ic_ki (fun v10 h_ qw9 => ?_))
  obtain ⟨rfl, w9, rfl, gw9, hm_w9⟩ := qw9
  have hIn_w9 : In (mo_go s 0) := In_go hIn (by omega) (by omega)
  have hRu_w9 : Ru (mo_go s 0) := Ru_go hRu hIn (by omega)
  have hN_w9 : Cn w9 (mo_go s 0) := (hN_w6.fm (Mo_pl (k := k + 1) (by omega)) gw9).go hIn (by omega)
  refine xx_istore (L' := [(6, .int (nI (mo_worth s 0))), (5, .int (nI 0)), (4, .int (nI 0)), (3, .int (nI (mo_idle s))), (2, ic_pt E (99 + 3 * (k + 1))), (0, ic_pt E 95), (1, .int (nI k))]) (pc := 90) dX6_valueFrom_90 (Nat.le_of_ble_eq_true rfl) rfl ?_
  refine xx_iload (pc := 92) dX6_valueFrom_92 0 rfl ?_
  refine xx_aload_nP (pc := 94) dX6_valueFrom_94 5 rfl rfl ?_
  refine xx_iload_n (pc := 95) dX6_valueFrom_95 6 rfl rfl ?_
  refine xx_iconst (pc := 96) dX6_valueFrom_96 cc_iconst_1 ?_
  refine xx_iaddN (pc := 97) dX6_valueFrom_97 ?_
  have gt1 := mo_go_1 s 0
  have gt2 : mo_go s 0 2 = s 2 := mo_go_r _ (by omega) (by omega) (by omega)
  have q95_ : w9 95 = w2 95 := by rw [gw9 95 (by omega) (by omega) (by omega) (by omega) (by omega), gb 95 (by omega) (by omega) (by omega)]
  have gl_ := mo_gf_le (m := m) (k := k) hIn hRu (a := 0) (by omega) (by omega)
  have gw_ : mo_worth s 0 + mo_gv m (mo_go s 0) (k + 1) = mo_gf m s k 0 := rfl
  refine xx_callV0 (pc := 98) (st := [.int (nI (mo_worth s 0))]) sh_95 (IH w9 (mo_go s 0) (k + 1) hm_w9 hN_w9 hIn_w9 hRu_w9 (by rw [q95_]; omega) (by rw [q95_]; omega) (by omega)) kX6_valueFrom vX6_118_6 dX6_valueFrom_98 rfl rfl (Nat.le_of_ble_eq_true rfl) (pl_hR (d := m + 9) (by omega) (Nat.le_of_ble_eq_true rfl)) ⟨Nat.zero_le _, Nat.zero_le _⟩ (ic_ki (fun v12 h_ qw11 => ?_))
  obtain ⟨rfl, w11, rfl, fb_, -⟩ := qw11
  obtain ⟨fs_, e95_, e10_⟩ := Fg.step (by omega) gb gw9 fb_
  refine xx_iaddN (pc := 101) dX6_valueFrom_101 ?_
  refine xx_eqI (y := nI (mo_gf m s k 0)) (rfl) ?_
  refine xx_istore (L' := [(6, .int (nI (mo_gf m s k 0))), (5, .int (nI 0)), (4, .int (nI 0)), (3, .int (nI (mo_idle s))), (2, ic_pt E (99 + 3 * (k + 1))), (0, ic_pt E 95), (1, .int (nI k))]) (pc := 102) dX6_valueFrom_102 (Nat.le_of_ble_eq_true rfl) rfl ?_
  refine xx_iload_n (pc := 104) dX6_valueFrom_104 6 rfl rfl ?_
  refine xx_iconst (pc := 105) dX6_valueFrom_105 cc_iconst_2 ?_
  refine xx_iremN (pc := 106) dX6_valueFrom_106 (by omega) (by omega) (by omega) ?_
  refine xx_if_neN (pc := 107) 125 dX6_valueFrom_107 rfl (by omega) (fun c13 => ?_) (fun c13 => ?_)
  · refine xx_iload (pc := 125) dX6_valueFrom_125 0 rfl ?_
    refine xx_iload (pc := 127) dX6_valueFrom_127 2 rfl ?_
    refine xx_icmp_geN (pc := 129) 136 dX6_valueFrom_129 rfl (by omega) (by omega) (fun c14 => ?_) (fun c14 => ?_)
    · refine xx_iconst (pc := 136) dX6_valueFrom_136 cc_iconst_0 ?_
      refine xx_istore (L' := [(7, .int (nI 0)), (6, .int (nI (mo_gf m s k 0))), (5, .int (nI 0)), (4, .int (nI 0)), (3, .int (nI (mo_idle s))), (2, ic_pt E (99 + 3 * (k + 1))), (0, ic_pt E 95), (1, .int (nI k))]) (pc := 137) dX6_valueFrom_137 (Nat.le_of_ble_eq_true rfl) rfl ?_
      refine xx_iload (pc := 139) dX6_valueFrom_139 2 rfl ?_
      refine xx_if_eqN (pc := 141) 149 dX6_valueFrom_141 rfl (by omega) (fun c15 => ?_) (fun c15 => by exfalso; omega)
      refine xx_iload (pc := 149) dX6_valueFrom_149 1 rfl ?_
      refine xx_istore (L' := [(4, .int (nI (mo_gf m s k 0))), (7, .int (nI 0)), (6, .int (nI (mo_gf m s k 0))), (5, .int (nI 0)), (3, .int (nI (mo_idle s))), (2, ic_pt E (99 + 3 * (k + 1))), (0, ic_pt E 95), (1, .int (nI k))]) (pc := 151) dX6_valueFrom_151 (Nat.le_of_ble_eq_true rfl) rfl ?_
      refine xx_iload_n (pc := 153) dX6_valueFrom_153 7 rfl rfl ?_
      refine xx_if_neN (pc := 154) 163 dX6_valueFrom_154 rfl (by omega) (fun c16 => ?_) (fun c16 => ?_)
      · refine xx_iincN (L' := [(5, .int (nI 1)), (4, .int (nI (mo_gf m s k 0))), (7, .int (nI 0)), (6, .int (nI (mo_gf m s k 0))), (3, .int (nI (mo_idle s))), (2, ic_pt E (99 + 3 * (k + 1))), (0, ic_pt E 95), (1, .int (nI k))]) (pc := 163) dX6_valueFrom_163 3 rfl cc_iconst_1 (Nat.le_of_ble_eq_true rfl) rfl ?_
        refine xx_goto (pc := 166) 39 dX6_valueFrom_166 rfl ?_
        have hf0_ : Fg k w w2 := ⟨fun q h1 h2 _ _ => gw2 q h1 h2, fun j _ => by rw [gw2 95 (by omega) (by omega)], fun _ => by rw [gw2 95 (by omega) (by omega)]⟩
        have lp : ∀ (n_ : Nat) (a v : Nat) (u : ic_w), 1 ≤ a ∧ a ≤ s 0 + 1 → Fg k w u → v = mo_gf m s k (mo_ab k (mo_gf m s k) (a - 1)) → (k = 0 → u 95 10 = mo_ab k (mo_gf m s k) (a - 1)) → s 0 + 1 - a < n_ → xx l E (ic_fr E mX6_valueFrom (m + 9) 0 0 False SHs (ic_qi (fun v_ h_ => v_ = nI (mo_gv (m + 1) s k) ∧ ∃ w2, h_ = hn w2 ∧ Fg k w w2 ∧ (k = 0 → ∀ m2, m + 1 = m2 + 1 → s 1 < s 2 → w2 95 10 = mo_ab 0 (mo_gf m2 s 0) (s 0))))) (0, 0) 39 [(5, .int (nI a)), (4, .int (nI v)), (0, ic_pt E 95), (1, .int (nI k)), (2, ic_pt E (99 + 3 * (k + 1))), (3, .int (nI (mo_idle s)))] [] SHs (hn u) := by
          intro n_
          induction n_ with
          | zero => intro a v u ha hfb hv ho hm_; exact absurd hm_ (Nat.not_lt_zero _)
          | succ n_ ih_ =>
            intro a v u ha hfb hv ho hm_
            have hN_u : Cn u s := hN.fg hfb
            have n1_u : u 39 10 = s 0 := hN_u.n
            have hp_u : Cs u (99 + 3 * k) s := hm.of (hfb.1 _ (by omega) (by omega) (by omega) (by omega)) (hfb.1 _ (by omega) (by omega) (by omega) (by omega)) (hfb.1 _ (by omega) (by omega) (by omega) (by omega))
            have u4_ := hfb.2.1 4 (by omega)
            have hal := mo_ab_le k (mo_gf m s k) (a - 1)
            have hvl := mo_gf_le (m := m) (k := k) hIn hRu (a := mo_ab k (mo_gf m s k) (a - 1)) (by omega) (by omega)
            refine xx_iload (pc := 39) dX6_valueFrom_39 0 rfl ?_
            refine xx_aload_nP (pc := 41) dX6_valueFrom_41 2 rfl rfl ?_
            refine xx_getR (pc := 42) 39 dX6_valueFrom_42 sh_95 fX6_24_6 rfl rfl (by decide) ?_
            refine xx_getN (pc := 45) dX6_valueFrom_45 sh_39 fX6_89_5 rfl ?_
            refine xx_icmp_gtN (pc := 48) 169 dX6_valueFrom_48 rfl (by omega) (by omega) (fun c37 => ?_) (fun c37 => ?_)
            · refine xx_iload (pc := 169) dX6_valueFrom_169 1 rfl ?_
              exact xx_iret (pc := 171) dX6_valueFrom_171 rfl (rfl) (Nat.le_refl _) (Nat.le_refl _) (ic_ri ⟨by rw [mo_gv_s, if_neg (by omega), hv, show a - 1 = s 0 by omega], u, rfl, hfb, fun hk0 m2 e _ => by obtain rfl : m2 = m := (by omega); have := ho hk0; rw [show a - 1 = s 0 by omega] at this; rw [this, hk0]⟩)
            · refine xx_iload (pc := 51) dX6_valueFrom_51 0 rfl ?_
              refine xx_if_leN (pc := 53) 70 dX6_valueFrom_53 rfl (by omega) (fun c38 => by exfalso; omega) (fun c38 => ?_)
              have hid_ : mo_idle s / 2 ^ (a - 1) % 2 = if a - 1 < s 0 ∧ decide (mo_deed s (a - 1) = 2) = true then 1 else 0 := mo_set_bit (fun q => decide (mo_deed s q = 2)) (a - 1) (s 0)
              have hil_ : mo_idle s < 64 := Nat.lt_of_lt_of_le (mo_set_lt _ _) (mo_p2 hn0)
              refine xx_iload_n (pc := 56) dX6_valueFrom_56 5 rfl rfl ?_
              refine xx_iload (pc := 57) dX6_valueFrom_57 0 rfl ?_
              refine xx_iconst (pc := 59) dX6_valueFrom_59 cc_iconst_1 ?_
              refine xx_isubN (pc := 60) dX6_valueFrom_60 (by omega) ?_
              refine xx_callSN0 (pc := 61) (st := []) (cC_has (w := u) (t := mo_idle s) (k := a - 1) (by omega) (by omega)) kX11_has nX6_92 (by exact s_X11_has) dX6_valueFrom_61 rfl rfl (Nat.le_of_ble_eq_true rfl) (pl_hR (d := m + 9) (by omega) (Nat.le_of_ble_eq_true rfl)) ⟨Nat.zero_le _, Nat.zero_le _⟩ (ic_ke ?_)
              refine xx_if_eqB (pc := 64) 70 dX6_valueFrom_64 rfl (fun c39 => ?_) (fun c39 => ?_)
              · refine xx_aload_nP (pc := 70) dX6_valueFrom_70 4 rfl rfl ?_
                refine xx_aload_nP (pc := 71) dX6_valueFrom_71 2 rfl rfl ?_
                refine xx_getR (pc := 72) 96 dX6_valueFrom_72 sh_95 fX6_11_6 rfl rfl (by decide) ?_
                refine xx_iload_n (pc := 75) dX6_valueFrom_75 3 rfl rfl ?_
                refine xx_aald (pc := 76) k (99 + 3 * k) dX6_valueFrom_76 sh_96 (by decide) rfl (by omega) (by decide) (pm_at (by omega)) ?_
                refine xx_callV0 (pc := 77) (st := []) (Mo_pl (by omega)).1 (cC_mbecome (w := u) (m := 99 + 3 * (k + 1)) (p := 99 + 3 * k) (Mo_pl (by omega)) (Mo_pl (by omega)) (by omega)) kX4_become vX6_54_4 dX6_valueFrom_77 rfl rfl (Nat.le_of_ble_eq_true rfl) (pl_hR (d := m + 9) (by omega) (Nat.le_of_ble_eq_true rfl)) ⟨Nat.zero_le _, Nat.zero_le _⟩ (ic_kv (fun h_ qw40 => ?_))
                obtain ⟨w40, rfl, b0, b1, bj, gb⟩ := qw40
                have hm_w40 : Cs w40 (99 + 3 * (k + 1)) s := Cs.bc hp_u hIn b0 b1 bj
                have hN_w40 : Cn w40 s := hN_u.of (by rw [gb _ (by omega) (by omega) (by omega)]) (by rw [gb _ (by omega) (by omega) (by omega)]) (by rw [gb _ (by omega) (by omega) (by omega)]) (fun b _ _ _ _ _ _ _ _ => by rw [gb _ (by omega) (by omega) (by omega)])
                refine xx_aload_nP (pc := 80) dX6_valueFrom_80 2 rfl rfl ?_
                refine xx_getR (pc := 81) 39 dX6_valueFrom_81 sh_95 fX6_24_6 rfl rfl (by decide) ?_
                refine xx_aload_nP (pc := 84) dX6_valueFrom_84 4 rfl rfl ?_
                refine xx_iload (pc := 85) dX6_valueFrom_85 0 rfl ?_
                have hwl_x42 := mo_worth_le hIn (act := a) (by omega)
                refine xx_callV0 (pc := 87) (st := []) sh_39 (cC_goBy (w := w40) (m := 99 + 3 * (k + 1)) (act := a) (s := s) (Mo_pl (k := k + 1) (by omega)) hm_w40 hN_w40 hIn hRu (by omega)) kX5_goBy vX6_96_5 dX6_valueFrom_87 rfl rfl (Nat.le_of_ble_eq_true rfl) (pl_hR (d := m + 9) (by omega) (Nat.le_of_ble_eq_true rfl)) ⟨Nat.zero_le _, Nat.zero_le _⟩ (ic_ki (fun v44 h_ qw43 => ?_))
                obtain ⟨rfl, w43, rfl, gw43, hm_w43⟩ := qw43
                have hIn_w43 : In (mo_go s a) := In_go hIn (by omega) (by omega)
                have hRu_w43 : Ru (mo_go s a) := Ru_go hRu hIn (by omega)
                have hN_w43 : Cn w43 (mo_go s a) := (hN_w40.fm (Mo_pl (k := k + 1) (by omega)) gw43).go hIn (by omega)
                refine xx_istore (L' := [(6, .int (nI (mo_worth s a))), (5, .int (nI a)), (4, .int (nI v)), (0, ic_pt E 95), (1, .int (nI k)), (2, ic_pt E (99 + 3 * (k + 1))), (3, .int (nI (mo_idle s)))]) (pc := 90) dX6_valueFrom_90 (Nat.le_of_ble_eq_true rfl) rfl ?_
                refine xx_iload (pc := 92) dX6_valueFrom_92 0 rfl ?_
                refine xx_aload_nP (pc := 94) dX6_valueFrom_94 3 rfl rfl ?_
                refine xx_iload_n (pc := 95) dX6_valueFrom_95 4 rfl rfl ?_
                refine xx_iconst (pc := 96) dX6_valueFrom_96 cc_iconst_1 ?_
                refine xx_iaddN (pc := 97) dX6_valueFrom_97 ?_
                have gt1 := mo_go_1 s a
                have gt2 : mo_go s a 2 = s 2 := mo_go_r _ (by omega) (by omega) (by omega)
                have q95_ : w43 95 = u 95 := by rw [gw43 95 (by omega) (by omega) (by omega) (by omega) (by omega), gb 95 (by omega) (by omega) (by omega)]
                have gl_ := mo_gf_le (m := m) (k := k) hIn hRu (a := a) (by omega) (by omega)
                have gw_ : mo_worth s a + mo_gv m (mo_go s a) (k + 1) = mo_gf m s k a := rfl
                refine xx_callV0 (pc := 98) (st := [.int (nI (mo_worth s a))]) sh_95 (IH w43 (mo_go s a) (k + 1) hm_w43 hN_w43 hIn_w43 hRu_w43 (by rw [q95_]; omega) (by rw [q95_]; omega) (by omega)) kX6_valueFrom vX6_118_6 dX6_valueFrom_98 rfl rfl (Nat.le_of_ble_eq_true rfl) (pl_hR (d := m + 9) (by omega) (Nat.le_of_ble_eq_true rfl)) ⟨Nat.zero_le _, Nat.zero_le _⟩ (ic_ki (fun v46 h_ qw45 => ?_))
                obtain ⟨rfl, w45, rfl, fb_, -⟩ := qw45
                obtain ⟨fs_, e95_, e10_⟩ := Fg.step (by omega) gb gw43 fb_
                refine xx_iaddN (pc := 101) dX6_valueFrom_101 ?_
                refine xx_eqI (y := nI (mo_gf m s k a)) (rfl) ?_
                refine xx_istore (L' := [(6, .int (nI (mo_gf m s k a))), (5, .int (nI a)), (4, .int (nI v)), (0, ic_pt E 95), (1, .int (nI k)), (2, ic_pt E (99 + 3 * (k + 1))), (3, .int (nI (mo_idle s)))]) (pc := 102) dX6_valueFrom_102 (Nat.le_of_ble_eq_true rfl) rfl ?_
                refine xx_iload_n (pc := 104) dX6_valueFrom_104 4 rfl rfl ?_
                refine xx_iconst (pc := 105) dX6_valueFrom_105 cc_iconst_2 ?_
                refine xx_iremN (pc := 106) dX6_valueFrom_106 (by omega) (by omega) (by omega) ?_
                refine xx_if_neN (pc := 107) 125 dX6_valueFrom_107 rfl (by omega) (fun c47 => ?_) (fun c47 => ?_)
                · refine xx_iload (pc := 125) dX6_valueFrom_125 0 rfl ?_
                  refine xx_iload (pc := 127) dX6_valueFrom_127 2 rfl ?_
                  refine xx_icmp_geN (pc := 129) 136 dX6_valueFrom_129 rfl (by omega) (by omega) (fun c48 => ?_) (fun c48 => ?_)
                  · refine xx_iconst (pc := 136) dX6_valueFrom_136 cc_iconst_0 ?_
                    refine xx_istore (L' := [(7, .int (nI 0)), (6, .int (nI (mo_gf m s k a))), (5, .int (nI a)), (4, .int (nI v)), (0, ic_pt E 95), (1, .int (nI k)), (2, ic_pt E (99 + 3 * (k + 1))), (3, .int (nI (mo_idle s)))]) (pc := 137) dX6_valueFrom_137 (Nat.le_of_ble_eq_true rfl) rfl ?_
                    refine xx_iload (pc := 139) dX6_valueFrom_139 2 rfl ?_
                    refine xx_if_eqN (pc := 141) 149 dX6_valueFrom_141 rfl (by omega) (fun c49 => by exfalso; omega) (fun c49 => ?_)
                    refine xx_iload (pc := 144) dX6_valueFrom_144 0 rfl ?_
                    refine xx_if_eqN (pc := 146) 163 dX6_valueFrom_146 rfl (by omega) (fun c50 => ?_) (fun c50 => by exfalso; omega)
                    refine xx_iincN (L' := [(5, .int (nI (a + 1))), (7, .int (nI 0)), (6, .int (nI (mo_gf m s k a))), (4, .int (nI v)), (0, ic_pt E 95), (1, .int (nI k)), (2, ic_pt E (99 + 3 * (k + 1))), (3, .int (nI (mo_idle s)))]) (pc := 163) dX6_valueFrom_163 2 rfl cc_iconst_1 (Nat.le_of_ble_eq_true rfl) rfl ?_
                    refine xx_goto (pc := 166) 39 dX6_valueFrom_166 rfl ?_
                    have hk_ : mo_ab k (mo_gf m s k) (a + 1 - 1) = mo_ab k (mo_gf m s k) (a - 1) := by rw [show a + 1 - 1 = (a - 1) + 1 by omega, mo_ab, show a - 1 + 1 = a by omega, if_neg (by rw [← hv]; omega)]
                    exact xx_sub [0, 3, 4, 5, 6, 7] rfl (ih_ (a + 1) v w45 (by omega) (hfb.tr fs_) (by rw [hk_]; exact hv) (fun z => by rw [hk_, e10_]; exact ho z) (by omega))
                  · refine xx_iconst (pc := 132) dX6_valueFrom_132 cc_iconst_1 ?_
                    refine xx_goto (pc := 133) 137 dX6_valueFrom_133 rfl ?_
                    refine xx_istore (L' := [(7, .int (nI 1)), (6, .int (nI (mo_gf m s k a))), (5, .int (nI a)), (4, .int (nI v)), (0, ic_pt E 95), (1, .int (nI k)), (2, ic_pt E (99 + 3 * (k + 1))), (3, .int (nI (mo_idle s)))]) (pc := 137) dX6_valueFrom_137 (Nat.le_of_ble_eq_true rfl) rfl ?_
                    refine xx_iload (pc := 139) dX6_valueFrom_139 2 rfl ?_
                    refine xx_if_eqN (pc := 141) 149 dX6_valueFrom_141 rfl (by omega) (fun c51 => by exfalso; omega) (fun c51 => ?_)
                    refine xx_iload (pc := 144) dX6_valueFrom_144 0 rfl ?_
                    refine xx_if_eqN (pc := 146) 163 dX6_valueFrom_146 rfl (by omega) (fun c52 => by exfalso; omega) (fun c52 => ?_)
                    refine xx_iload (pc := 149) dX6_valueFrom_149 1 rfl ?_
                    refine xx_istore (L' := [(4, .int (nI (mo_gf m s k a))), (7, .int (nI 1)), (6, .int (nI (mo_gf m s k a))), (5, .int (nI a)), (0, ic_pt E 95), (1, .int (nI k)), (2, ic_pt E (99 + 3 * (k + 1))), (3, .int (nI (mo_idle s)))]) (pc := 151) dX6_valueFrom_151 (Nat.le_of_ble_eq_true rfl) rfl ?_
                    refine xx_iload_n (pc := 153) dX6_valueFrom_153 5 rfl rfl ?_
                    refine xx_if_neN (pc := 154) 163 dX6_valueFrom_154 rfl (by omega) (fun c53 => ?_) (fun c53 => ?_)
                    · refine xx_iincN (L' := [(5, .int (nI (a + 1))), (4, .int (nI (mo_gf m s k a))), (7, .int (nI 1)), (6, .int (nI (mo_gf m s k a))), (0, ic_pt E 95), (1, .int (nI k)), (2, ic_pt E (99 + 3 * (k + 1))), (3, .int (nI (mo_idle s)))]) (pc := 163) dX6_valueFrom_163 3 rfl cc_iconst_1 (Nat.le_of_ble_eq_true rfl) rfl ?_
                      refine xx_goto (pc := 166) 39 dX6_valueFrom_166 rfl ?_
                      have hk_ : mo_ab k (mo_gf m s k) (a + 1 - 1) = a := by rw [show a + 1 - 1 = (a - 1) + 1 by omega, mo_ab, show a - 1 + 1 = a by omega, if_pos (by rw [← hv]; omega)]
                      exact xx_sub [0, 1, 4, 5, 6, 7] rfl (ih_ (a + 1) _ w45 (by omega) (hfb.tr fs_) (by rw [hk_]) (fun z => absurd z (by omega)) (by omega))
                    · refine xx_aload_nP (pc := 157) dX6_valueFrom_157 4 rfl rfl ?_
                      refine xx_iload (pc := 158) dX6_valueFrom_158 3 rfl ?_
                      refine xx_putN (pc := 160) dX6_valueFrom_160 sh_95 fX6_115_6 rfl rfl ?_
                      refine xx_nw (fun w54 ew54 => ?_)
                      have fo_ : Fg k w45 w54 := ⟨fun q _ _ h3 _ => by rw [ew54, wu_row _ _ _ h3], fun j hj => by rw [ew54, wu_k _ _ _ _ hj], fun z => absurd (by omega) z⟩
                      have v10_ : w54 95 10 = a := by rw [ew54, wu_s]
                      refine xx_iincN (L' := [(5, .int (nI (a + 1))), (4, .int (nI (mo_gf m s k a))), (7, .int (nI 1)), (6, .int (nI (mo_gf m s k a))), (0, ic_pt E 95), (1, .int (nI k)), (2, ic_pt E (99 + 3 * (k + 1))), (3, .int (nI (mo_idle s)))]) (pc := 163) dX6_valueFrom_163 3 rfl cc_iconst_1 (Nat.le_of_ble_eq_true rfl) rfl ?_
                      refine xx_goto (pc := 166) 39 dX6_valueFrom_166 rfl ?_
                      have hk_ : mo_ab k (mo_gf m s k) (a + 1 - 1) = a := by rw [show a + 1 - 1 = (a - 1) + 1 by omega, mo_ab, show a - 1 + 1 = a by omega, if_pos (by rw [← hv]; omega)]
                      exact xx_sub [0, 1, 4, 5, 6, 7] rfl (ih_ (a + 1) _ w54 (by omega) ((hfb.tr fs_).tr fo_) (by rw [hk_]) (fun _ => by rw [hk_]; exact v10_) (by omega))
                · refine xx_iload (pc := 110) dX6_valueFrom_110 0 rfl ?_
                  refine xx_iload (pc := 112) dX6_valueFrom_112 2 rfl ?_
                  refine xx_icmp_leN (pc := 114) 121 dX6_valueFrom_114 rfl (by omega) (by omega) (fun c55 => ?_) (fun c55 => ?_)
                  · refine xx_iconst (pc := 121) dX6_valueFrom_121 cc_iconst_0 ?_
                    refine xx_goto (pc := 122) 137 dX6_valueFrom_122 rfl ?_
                    refine xx_istore (L' := [(7, .int (nI 0)), (6, .int (nI (mo_gf m s k a))), (5, .int (nI a)), (4, .int (nI v)), (0, ic_pt E 95), (1, .int (nI k)), (2, ic_pt E (99 + 3 * (k + 1))), (3, .int (nI (mo_idle s)))]) (pc := 137) dX6_valueFrom_137 (Nat.le_of_ble_eq_true rfl) rfl ?_
                    refine xx_iload (pc := 139) dX6_valueFrom_139 2 rfl ?_
                    refine xx_if_eqN (pc := 141) 149 dX6_valueFrom_141 rfl (by omega) (fun c56 => by exfalso; omega) (fun c56 => ?_)
                    refine xx_iload (pc := 144) dX6_valueFrom_144 0 rfl ?_
                    refine xx_if_eqN (pc := 146) 163 dX6_valueFrom_146 rfl (by omega) (fun c57 => ?_) (fun c57 => by exfalso; omega)
                    refine xx_iincN (L' := [(5, .int (nI (a + 1))), (7, .int (nI 0)), (6, .int (nI (mo_gf m s k a))), (4, .int (nI v)), (0, ic_pt E 95), (1, .int (nI k)), (2, ic_pt E (99 + 3 * (k + 1))), (3, .int (nI (mo_idle s)))]) (pc := 163) dX6_valueFrom_163 2 rfl cc_iconst_1 (Nat.le_of_ble_eq_true rfl) rfl ?_
                    refine xx_goto (pc := 166) 39 dX6_valueFrom_166 rfl ?_
                    have hk_ : mo_ab k (mo_gf m s k) (a + 1 - 1) = mo_ab k (mo_gf m s k) (a - 1) := by rw [show a + 1 - 1 = (a - 1) + 1 by omega, mo_ab, show a - 1 + 1 = a by omega, if_neg (by rw [← hv]; omega)]
                    exact xx_sub [0, 3, 4, 5, 6, 7] rfl (ih_ (a + 1) v w45 (by omega) (hfb.tr fs_) (by rw [hk_]; exact hv) (fun z => by rw [hk_, e10_]; exact ho z) (by omega))
                  · refine xx_iconst (pc := 117) dX6_valueFrom_117 cc_iconst_1 ?_
                    refine xx_goto (pc := 118) 137 dX6_valueFrom_118 rfl ?_
                    refine xx_istore (L' := [(7, .int (nI 1)), (6, .int (nI (mo_gf m s k a))), (5, .int (nI a)), (4, .int (nI v)), (0, ic_pt E 95), (1, .int (nI k)), (2, ic_pt E (99 + 3 * (k + 1))), (3, .int (nI (mo_idle s)))]) (pc := 137) dX6_valueFrom_137 (Nat.le_of_ble_eq_true rfl) rfl ?_
                    refine xx_iload (pc := 139) dX6_valueFrom_139 2 rfl ?_
                    refine xx_if_eqN (pc := 141) 149 dX6_valueFrom_141 rfl (by omega) (fun c58 => by exfalso; omega) (fun c58 => ?_)
                    refine xx_iload (pc := 144) dX6_valueFrom_144 0 rfl ?_
                    refine xx_if_eqN (pc := 146) 163 dX6_valueFrom_146 rfl (by omega) (fun c59 => by exfalso; omega) (fun c59 => ?_)
                    refine xx_iload (pc := 149) dX6_valueFrom_149 1 rfl ?_
                    refine xx_istore (L' := [(4, .int (nI (mo_gf m s k a))), (7, .int (nI 1)), (6, .int (nI (mo_gf m s k a))), (5, .int (nI a)), (0, ic_pt E 95), (1, .int (nI k)), (2, ic_pt E (99 + 3 * (k + 1))), (3, .int (nI (mo_idle s)))]) (pc := 151) dX6_valueFrom_151 (Nat.le_of_ble_eq_true rfl) rfl ?_
                    refine xx_iload_n (pc := 153) dX6_valueFrom_153 5 rfl rfl ?_
                    refine xx_if_neN (pc := 154) 163 dX6_valueFrom_154 rfl (by omega) (fun c60 => ?_) (fun c60 => ?_)
                    · refine xx_iincN (L' := [(5, .int (nI (a + 1))), (4, .int (nI (mo_gf m s k a))), (7, .int (nI 1)), (6, .int (nI (mo_gf m s k a))), (0, ic_pt E 95), (1, .int (nI k)), (2, ic_pt E (99 + 3 * (k + 1))), (3, .int (nI (mo_idle s)))]) (pc := 163) dX6_valueFrom_163 3 rfl cc_iconst_1 (Nat.le_of_ble_eq_true rfl) rfl ?_
                      refine xx_goto (pc := 166) 39 dX6_valueFrom_166 rfl ?_
                      have hk_ : mo_ab k (mo_gf m s k) (a + 1 - 1) = a := by rw [show a + 1 - 1 = (a - 1) + 1 by omega, mo_ab, show a - 1 + 1 = a by omega, if_pos (by rw [← hv]; omega)]
                      exact xx_sub [0, 1, 4, 5, 6, 7] rfl (ih_ (a + 1) _ w45 (by omega) (hfb.tr fs_) (by rw [hk_]) (fun z => absurd z (by omega)) (by omega))
                    · refine xx_aload_nP (pc := 157) dX6_valueFrom_157 4 rfl rfl ?_
                      refine xx_iload (pc := 158) dX6_valueFrom_158 3 rfl ?_
                      refine xx_putN (pc := 160) dX6_valueFrom_160 sh_95 fX6_115_6 rfl rfl ?_
                      refine xx_nw (fun w61 ew61 => ?_)
                      have fo_ : Fg k w45 w61 := ⟨fun q _ _ h3 _ => by rw [ew61, wu_row _ _ _ h3], fun j hj => by rw [ew61, wu_k _ _ _ _ hj], fun z => absurd (by omega) z⟩
                      have v10_ : w61 95 10 = a := by rw [ew61, wu_s]
                      refine xx_iincN (L' := [(5, .int (nI (a + 1))), (4, .int (nI (mo_gf m s k a))), (7, .int (nI 1)), (6, .int (nI (mo_gf m s k a))), (0, ic_pt E 95), (1, .int (nI k)), (2, ic_pt E (99 + 3 * (k + 1))), (3, .int (nI (mo_idle s)))]) (pc := 163) dX6_valueFrom_163 3 rfl cc_iconst_1 (Nat.le_of_ble_eq_true rfl) rfl ?_
                      refine xx_goto (pc := 166) 39 dX6_valueFrom_166 rfl ?_
                      have hk_ : mo_ab k (mo_gf m s k) (a + 1 - 1) = a := by rw [show a + 1 - 1 = (a - 1) + 1 by omega, mo_ab, show a - 1 + 1 = a by omega, if_pos (by rw [← hv]; omega)]
                      exact xx_sub [0, 1, 4, 5, 6, 7] rfl (ih_ (a + 1) _ w61 (by omega) ((hfb.tr fs_).tr fo_) (by rw [hk_]) (fun _ => by rw [hk_]; exact v10_) (by omega))
              · refine xx_goto (pc := 67) 163 dX6_valueFrom_67 rfl ?_
                refine xx_iincN (L' := [(5, .int (nI (a + 1))), (4, .int (nI v)), (0, ic_pt E 95), (1, .int (nI k)), (2, ic_pt E (99 + 3 * (k + 1))), (3, .int (nI (mo_idle s)))]) (pc := 163) dX6_valueFrom_163 0 rfl cc_iconst_1 (Nat.le_of_ble_eq_true rfl) rfl ?_
                refine xx_goto (pc := 166) 39 dX6_valueFrom_166 rfl ?_
                have hdd : mo_deed s (a - 1) = 2 := by by_cases z : mo_deed s (a - 1) = 2; exact z; exfalso; rw [if_neg (fun y => z (of_decide_eq_true y.2))] at hid_; omega
                have hai := ab_i (m := m) (k := k) hIn (b := a - 1) (by omega) hdd
                exact xx_sub [0, 1, 2, 3, 4, 5] rfl (ih_ (a + 1) v u (by omega) hfb (by rw [show a + 1 - 1 = (a - 1) + 1 by omega, hai]; exact hv) (by rw [show a + 1 - 1 = (a - 1) + 1 by omega, hai]; exact ho) (by omega))
        exact xx_sub [0, 1, 6, 7, 5, 4] rfl (lp (s 0 + 2) 1 _ w11 (by omega) (hf0_.tr fs_) rfl (fun z => absurd z (by omega)) (by omega))
      · refine xx_aload_nP (pc := 157) dX6_valueFrom_157 6 rfl rfl ?_
        refine xx_iload (pc := 158) dX6_valueFrom_158 3 rfl ?_
        refine xx_putN (pc := 160) dX6_valueFrom_160 sh_95 fX6_115_6 rfl rfl ?_
        refine xx_nw (fun w17 ew17 => ?_)
        have fo_ : Fg k w11 w17 := ⟨fun q _ _ h3 _ => by rw [ew17, wu_row _ _ _ h3], fun j hj => by rw [ew17, wu_k _ _ _ _ hj], fun z => absurd (by omega) z⟩
        have v10_ : w17 95 10 = 0 := by rw [ew17, wu_s]
        refine xx_iincN (L' := [(5, .int (nI 1)), (4, .int (nI (mo_gf m s k 0))), (7, .int (nI 0)), (6, .int (nI (mo_gf m s k 0))), (3, .int (nI (mo_idle s))), (2, ic_pt E (99 + 3 * (k + 1))), (0, ic_pt E 95), (1, .int (nI k))]) (pc := 163) dX6_valueFrom_163 3 rfl cc_iconst_1 (Nat.le_of_ble_eq_true rfl) rfl ?_
        refine xx_goto (pc := 166) 39 dX6_valueFrom_166 rfl ?_
        have hf0_ : Fg k w w2 := ⟨fun q h1 h2 _ _ => gw2 q h1 h2, fun j _ => by rw [gw2 95 (by omega) (by omega)], fun _ => by rw [gw2 95 (by omega) (by omega)]⟩
        have lp : ∀ (n_ : Nat) (a v : Nat) (u : ic_w), 1 ≤ a ∧ a ≤ s 0 + 1 → Fg k w u → v = mo_gf m s k (mo_ab k (mo_gf m s k) (a - 1)) → (k = 0 → u 95 10 = mo_ab k (mo_gf m s k) (a - 1)) → s 0 + 1 - a < n_ → xx l E (ic_fr E mX6_valueFrom (m + 9) 0 0 False SHs (ic_qi (fun v_ h_ => v_ = nI (mo_gv (m + 1) s k) ∧ ∃ w2, h_ = hn w2 ∧ Fg k w w2 ∧ (k = 0 → ∀ m2, m + 1 = m2 + 1 → s 1 < s 2 → w2 95 10 = mo_ab 0 (mo_gf m2 s 0) (s 0))))) (0, 0) 39 [(5, .int (nI a)), (4, .int (nI v)), (0, ic_pt E 95), (1, .int (nI k)), (2, ic_pt E (99 + 3 * (k + 1))), (3, .int (nI (mo_idle s)))] [] SHs (hn u) := by
          intro n_
          induction n_ with
          | zero => intro a v u ha hfb hv ho hm_; exact absurd hm_ (Nat.not_lt_zero _)
          | succ n_ ih_ =>
            intro a v u ha hfb hv ho hm_
            have hN_u : Cn u s := hN.fg hfb
            have n1_u : u 39 10 = s 0 := hN_u.n
            have hp_u : Cs u (99 + 3 * k) s := hm.of (hfb.1 _ (by omega) (by omega) (by omega) (by omega)) (hfb.1 _ (by omega) (by omega) (by omega) (by omega)) (hfb.1 _ (by omega) (by omega) (by omega) (by omega))
            have u4_ := hfb.2.1 4 (by omega)
            have hal := mo_ab_le k (mo_gf m s k) (a - 1)
            have hvl := mo_gf_le (m := m) (k := k) hIn hRu (a := mo_ab k (mo_gf m s k) (a - 1)) (by omega) (by omega)
            refine xx_iload (pc := 39) dX6_valueFrom_39 0 rfl ?_
            refine xx_aload_nP (pc := 41) dX6_valueFrom_41 2 rfl rfl ?_
            refine xx_getR (pc := 42) 39 dX6_valueFrom_42 sh_95 fX6_24_6 rfl rfl (by decide) ?_
            refine xx_getN (pc := 45) dX6_valueFrom_45 sh_39 fX6_89_5 rfl ?_
            refine xx_icmp_gtN (pc := 48) 169 dX6_valueFrom_48 rfl (by omega) (by omega) (fun c38 => ?_) (fun c38 => ?_)
            · refine xx_iload (pc := 169) dX6_valueFrom_169 1 rfl ?_
              exact xx_iret (pc := 171) dX6_valueFrom_171 rfl (rfl) (Nat.le_refl _) (Nat.le_refl _) (ic_ri ⟨by rw [mo_gv_s, if_neg (by omega), hv, show a - 1 = s 0 by omega], u, rfl, hfb, fun hk0 m2 e _ => by obtain rfl : m2 = m := (by omega); have := ho hk0; rw [show a - 1 = s 0 by omega] at this; rw [this, hk0]⟩)
            · refine xx_iload (pc := 51) dX6_valueFrom_51 0 rfl ?_
              refine xx_if_leN (pc := 53) 70 dX6_valueFrom_53 rfl (by omega) (fun c39 => by exfalso; omega) (fun c39 => ?_)
              have hid_ : mo_idle s / 2 ^ (a - 1) % 2 = if a - 1 < s 0 ∧ decide (mo_deed s (a - 1) = 2) = true then 1 else 0 := mo_set_bit (fun q => decide (mo_deed s q = 2)) (a - 1) (s 0)
              have hil_ : mo_idle s < 64 := Nat.lt_of_lt_of_le (mo_set_lt _ _) (mo_p2 hn0)
              refine xx_iload_n (pc := 56) dX6_valueFrom_56 5 rfl rfl ?_
              refine xx_iload (pc := 57) dX6_valueFrom_57 0 rfl ?_
              refine xx_iconst (pc := 59) dX6_valueFrom_59 cc_iconst_1 ?_
              refine xx_isubN (pc := 60) dX6_valueFrom_60 (by omega) ?_
              refine xx_callSN0 (pc := 61) (st := []) (cC_has (w := u) (t := mo_idle s) (k := a - 1) (by omega) (by omega)) kX11_has nX6_92 (by exact s_X11_has) dX6_valueFrom_61 rfl rfl (Nat.le_of_ble_eq_true rfl) (pl_hR (d := m + 9) (by omega) (Nat.le_of_ble_eq_true rfl)) ⟨Nat.zero_le _, Nat.zero_le _⟩ (ic_ke ?_)
              refine xx_if_eqB (pc := 64) 70 dX6_valueFrom_64 rfl (fun c40 => ?_) (fun c40 => ?_)
              · refine xx_aload_nP (pc := 70) dX6_valueFrom_70 4 rfl rfl ?_
                refine xx_aload_nP (pc := 71) dX6_valueFrom_71 2 rfl rfl ?_
                refine xx_getR (pc := 72) 96 dX6_valueFrom_72 sh_95 fX6_11_6 rfl rfl (by decide) ?_
                refine xx_iload_n (pc := 75) dX6_valueFrom_75 3 rfl rfl ?_
                refine xx_aald (pc := 76) k (99 + 3 * k) dX6_valueFrom_76 sh_96 (by decide) rfl (by omega) (by decide) (pm_at (by omega)) ?_
                refine xx_callV0 (pc := 77) (st := []) (Mo_pl (by omega)).1 (cC_mbecome (w := u) (m := 99 + 3 * (k + 1)) (p := 99 + 3 * k) (Mo_pl (by omega)) (Mo_pl (by omega)) (by omega)) kX4_become vX6_54_4 dX6_valueFrom_77 rfl rfl (Nat.le_of_ble_eq_true rfl) (pl_hR (d := m + 9) (by omega) (Nat.le_of_ble_eq_true rfl)) ⟨Nat.zero_le _, Nat.zero_le _⟩ (ic_kv (fun h_ qw41 => ?_))
                obtain ⟨w41, rfl, b0, b1, bj, gb⟩ := qw41
                have hm_w41 : Cs w41 (99 + 3 * (k + 1)) s := Cs.bc hp_u hIn b0 b1 bj
                have hN_w41 : Cn w41 s := hN_u.of (by rw [gb _ (by omega) (by omega) (by omega)]) (by rw [gb _ (by omega) (by omega) (by omega)]) (by rw [gb _ (by omega) (by omega) (by omega)]) (fun b _ _ _ _ _ _ _ _ => by rw [gb _ (by omega) (by omega) (by omega)])
                refine xx_aload_nP (pc := 80) dX6_valueFrom_80 2 rfl rfl ?_
                refine xx_getR (pc := 81) 39 dX6_valueFrom_81 sh_95 fX6_24_6 rfl rfl (by decide) ?_
                refine xx_aload_nP (pc := 84) dX6_valueFrom_84 4 rfl rfl ?_
                refine xx_iload (pc := 85) dX6_valueFrom_85 0 rfl ?_
                have hwl_x43 := mo_worth_le hIn (act := a) (by omega)
                refine xx_callV0 (pc := 87) (st := []) sh_39 (cC_goBy (w := w41) (m := 99 + 3 * (k + 1)) (act := a) (s := s) (Mo_pl (k := k + 1) (by omega)) hm_w41 hN_w41 hIn hRu (by omega)) kX5_goBy vX6_96_5 dX6_valueFrom_87 rfl rfl (Nat.le_of_ble_eq_true rfl) (pl_hR (d := m + 9) (by omega) (Nat.le_of_ble_eq_true rfl)) ⟨Nat.zero_le _, Nat.zero_le _⟩ (ic_ki (fun v45 h_ qw44 => ?_))
                obtain ⟨rfl, w44, rfl, gw44, hm_w44⟩ := qw44
                have hIn_w44 : In (mo_go s a) := In_go hIn (by omega) (by omega)
                have hRu_w44 : Ru (mo_go s a) := Ru_go hRu hIn (by omega)
                have hN_w44 : Cn w44 (mo_go s a) := (hN_w41.fm (Mo_pl (k := k + 1) (by omega)) gw44).go hIn (by omega)
                refine xx_istore (L' := [(6, .int (nI (mo_worth s a))), (5, .int (nI a)), (4, .int (nI v)), (0, ic_pt E 95), (1, .int (nI k)), (2, ic_pt E (99 + 3 * (k + 1))), (3, .int (nI (mo_idle s)))]) (pc := 90) dX6_valueFrom_90 (Nat.le_of_ble_eq_true rfl) rfl ?_
                refine xx_iload (pc := 92) dX6_valueFrom_92 0 rfl ?_
                refine xx_aload_nP (pc := 94) dX6_valueFrom_94 3 rfl rfl ?_
                refine xx_iload_n (pc := 95) dX6_valueFrom_95 4 rfl rfl ?_
                refine xx_iconst (pc := 96) dX6_valueFrom_96 cc_iconst_1 ?_
                refine xx_iaddN (pc := 97) dX6_valueFrom_97 ?_
                have gt1 := mo_go_1 s a
                have gt2 : mo_go s a 2 = s 2 := mo_go_r _ (by omega) (by omega) (by omega)
                have q95_ : w44 95 = u 95 := by rw [gw44 95 (by omega) (by omega) (by omega) (by omega) (by omega), gb 95 (by omega) (by omega) (by omega)]
                have gl_ := mo_gf_le (m := m) (k := k) hIn hRu (a := a) (by omega) (by omega)
                have gw_ : mo_worth s a + mo_gv m (mo_go s a) (k + 1) = mo_gf m s k a := rfl
                refine xx_callV0 (pc := 98) (st := [.int (nI (mo_worth s a))]) sh_95 (IH w44 (mo_go s a) (k + 1) hm_w44 hN_w44 hIn_w44 hRu_w44 (by rw [q95_]; omega) (by rw [q95_]; omega) (by omega)) kX6_valueFrom vX6_118_6 dX6_valueFrom_98 rfl rfl (Nat.le_of_ble_eq_true rfl) (pl_hR (d := m + 9) (by omega) (Nat.le_of_ble_eq_true rfl)) ⟨Nat.zero_le _, Nat.zero_le _⟩ (ic_ki (fun v47 h_ qw46 => ?_))
                obtain ⟨rfl, w46, rfl, fb_, -⟩ := qw46
                obtain ⟨fs_, e95_, e10_⟩ := Fg.step (by omega) gb gw44 fb_
                refine xx_iaddN (pc := 101) dX6_valueFrom_101 ?_
                refine xx_eqI (y := nI (mo_gf m s k a)) (rfl) ?_
                refine xx_istore (L' := [(6, .int (nI (mo_gf m s k a))), (5, .int (nI a)), (4, .int (nI v)), (0, ic_pt E 95), (1, .int (nI k)), (2, ic_pt E (99 + 3 * (k + 1))), (3, .int (nI (mo_idle s)))]) (pc := 102) dX6_valueFrom_102 (Nat.le_of_ble_eq_true rfl) rfl ?_
                refine xx_iload_n (pc := 104) dX6_valueFrom_104 4 rfl rfl ?_
                refine xx_iconst (pc := 105) dX6_valueFrom_105 cc_iconst_2 ?_
                refine xx_iremN (pc := 106) dX6_valueFrom_106 (by omega) (by omega) (by omega) ?_
                refine xx_if_neN (pc := 107) 125 dX6_valueFrom_107 rfl (by omega) (fun c48 => ?_) (fun c48 => ?_)
                · refine xx_iload (pc := 125) dX6_valueFrom_125 0 rfl ?_
                  refine xx_iload (pc := 127) dX6_valueFrom_127 2 rfl ?_
                  refine xx_icmp_geN (pc := 129) 136 dX6_valueFrom_129 rfl (by omega) (by omega) (fun c49 => ?_) (fun c49 => ?_)
                  · refine xx_iconst (pc := 136) dX6_valueFrom_136 cc_iconst_0 ?_
                    refine xx_istore (L' := [(7, .int (nI 0)), (6, .int (nI (mo_gf m s k a))), (5, .int (nI a)), (4, .int (nI v)), (0, ic_pt E 95), (1, .int (nI k)), (2, ic_pt E (99 + 3 * (k + 1))), (3, .int (nI (mo_idle s)))]) (pc := 137) dX6_valueFrom_137 (Nat.le_of_ble_eq_true rfl) rfl ?_
                    refine xx_iload (pc := 139) dX6_valueFrom_139 2 rfl ?_
                    refine xx_if_eqN (pc := 141) 149 dX6_valueFrom_141 rfl (by omega) (fun c50 => by exfalso; omega) (fun c50 => ?_)
                    refine xx_iload (pc := 144) dX6_valueFrom_144 0 rfl ?_
                    refine xx_if_eqN (pc := 146) 163 dX6_valueFrom_146 rfl (by omega) (fun c51 => ?_) (fun c51 => by exfalso; omega)
                    refine xx_iincN (L' := [(5, .int (nI (a + 1))), (7, .int (nI 0)), (6, .int (nI (mo_gf m s k a))), (4, .int (nI v)), (0, ic_pt E 95), (1, .int (nI k)), (2, ic_pt E (99 + 3 * (k + 1))), (3, .int (nI (mo_idle s)))]) (pc := 163) dX6_valueFrom_163 2 rfl cc_iconst_1 (Nat.le_of_ble_eq_true rfl) rfl ?_
                    refine xx_goto (pc := 166) 39 dX6_valueFrom_166 rfl ?_
                    have hk_ : mo_ab k (mo_gf m s k) (a + 1 - 1) = mo_ab k (mo_gf m s k) (a - 1) := by rw [show a + 1 - 1 = (a - 1) + 1 by omega, mo_ab, show a - 1 + 1 = a by omega, if_neg (by rw [← hv]; omega)]
                    exact xx_sub [0, 3, 4, 5, 6, 7] rfl (ih_ (a + 1) v w46 (by omega) (hfb.tr fs_) (by rw [hk_]; exact hv) (fun z => by rw [hk_, e10_]; exact ho z) (by omega))
                  · refine xx_iconst (pc := 132) dX6_valueFrom_132 cc_iconst_1 ?_
                    refine xx_goto (pc := 133) 137 dX6_valueFrom_133 rfl ?_
                    refine xx_istore (L' := [(7, .int (nI 1)), (6, .int (nI (mo_gf m s k a))), (5, .int (nI a)), (4, .int (nI v)), (0, ic_pt E 95), (1, .int (nI k)), (2, ic_pt E (99 + 3 * (k + 1))), (3, .int (nI (mo_idle s)))]) (pc := 137) dX6_valueFrom_137 (Nat.le_of_ble_eq_true rfl) rfl ?_
                    refine xx_iload (pc := 139) dX6_valueFrom_139 2 rfl ?_
                    refine xx_if_eqN (pc := 141) 149 dX6_valueFrom_141 rfl (by omega) (fun c52 => by exfalso; omega) (fun c52 => ?_)
                    refine xx_iload (pc := 144) dX6_valueFrom_144 0 rfl ?_
                    refine xx_if_eqN (pc := 146) 163 dX6_valueFrom_146 rfl (by omega) (fun c53 => by exfalso; omega) (fun c53 => ?_)
                    refine xx_iload (pc := 149) dX6_valueFrom_149 1 rfl ?_
                    refine xx_istore (L' := [(4, .int (nI (mo_gf m s k a))), (7, .int (nI 1)), (6, .int (nI (mo_gf m s k a))), (5, .int (nI a)), (0, ic_pt E 95), (1, .int (nI k)), (2, ic_pt E (99 + 3 * (k + 1))), (3, .int (nI (mo_idle s)))]) (pc := 151) dX6_valueFrom_151 (Nat.le_of_ble_eq_true rfl) rfl ?_
                    refine xx_iload_n (pc := 153) dX6_valueFrom_153 5 rfl rfl ?_
                    refine xx_if_neN (pc := 154) 163 dX6_valueFrom_154 rfl (by omega) (fun c54 => ?_) (fun c54 => ?_)
                    · refine xx_iincN (L' := [(5, .int (nI (a + 1))), (4, .int (nI (mo_gf m s k a))), (7, .int (nI 1)), (6, .int (nI (mo_gf m s k a))), (0, ic_pt E 95), (1, .int (nI k)), (2, ic_pt E (99 + 3 * (k + 1))), (3, .int (nI (mo_idle s)))]) (pc := 163) dX6_valueFrom_163 3 rfl cc_iconst_1 (Nat.le_of_ble_eq_true rfl) rfl ?_
                      refine xx_goto (pc := 166) 39 dX6_valueFrom_166 rfl ?_
                      have hk_ : mo_ab k (mo_gf m s k) (a + 1 - 1) = a := by rw [show a + 1 - 1 = (a - 1) + 1 by omega, mo_ab, show a - 1 + 1 = a by omega, if_pos (by rw [← hv]; omega)]
                      exact xx_sub [0, 1, 4, 5, 6, 7] rfl (ih_ (a + 1) _ w46 (by omega) (hfb.tr fs_) (by rw [hk_]) (fun z => absurd z (by omega)) (by omega))
                    · refine xx_aload_nP (pc := 157) dX6_valueFrom_157 4 rfl rfl ?_
                      refine xx_iload (pc := 158) dX6_valueFrom_158 3 rfl ?_
                      refine xx_putN (pc := 160) dX6_valueFrom_160 sh_95 fX6_115_6 rfl rfl ?_
                      refine xx_nw (fun w55 ew55 => ?_)
                      have fo_ : Fg k w46 w55 := ⟨fun q _ _ h3 _ => by rw [ew55, wu_row _ _ _ h3], fun j hj => by rw [ew55, wu_k _ _ _ _ hj], fun z => absurd (by omega) z⟩
                      have v10_ : w55 95 10 = a := by rw [ew55, wu_s]
                      refine xx_iincN (L' := [(5, .int (nI (a + 1))), (4, .int (nI (mo_gf m s k a))), (7, .int (nI 1)), (6, .int (nI (mo_gf m s k a))), (0, ic_pt E 95), (1, .int (nI k)), (2, ic_pt E (99 + 3 * (k + 1))), (3, .int (nI (mo_idle s)))]) (pc := 163) dX6_valueFrom_163 3 rfl cc_iconst_1 (Nat.le_of_ble_eq_true rfl) rfl ?_
                      refine xx_goto (pc := 166) 39 dX6_valueFrom_166 rfl ?_
                      have hk_ : mo_ab k (mo_gf m s k) (a + 1 - 1) = a := by rw [show a + 1 - 1 = (a - 1) + 1 by omega, mo_ab, show a - 1 + 1 = a by omega, if_pos (by rw [← hv]; omega)]
                      exact xx_sub [0, 1, 4, 5, 6, 7] rfl (ih_ (a + 1) _ w55 (by omega) ((hfb.tr fs_).tr fo_) (by rw [hk_]) (fun _ => by rw [hk_]; exact v10_) (by omega))
                · refine xx_iload (pc := 110) dX6_valueFrom_110 0 rfl ?_
                  refine xx_iload (pc := 112) dX6_valueFrom_112 2 rfl ?_
                  refine xx_icmp_leN (pc := 114) 121 dX6_valueFrom_114 rfl (by omega) (by omega) (fun c56 => ?_) (fun c56 => ?_)
                  · refine xx_iconst (pc := 121) dX6_valueFrom_121 cc_iconst_0 ?_
                    refine xx_goto (pc := 122) 137 dX6_valueFrom_122 rfl ?_
                    refine xx_istore (L' := [(7, .int (nI 0)), (6, .int (nI (mo_gf m s k a))), (5, .int (nI a)), (4, .int (nI v)), (0, ic_pt E 95), (1, .int (nI k)), (2, ic_pt E (99 + 3 * (k + 1))), (3, .int (nI (mo_idle s)))]) (pc := 137) dX6_valueFrom_137 (Nat.le_of_ble_eq_true rfl) rfl ?_
                    refine xx_iload (pc := 139) dX6_valueFrom_139 2 rfl ?_
                    refine xx_if_eqN (pc := 141) 149 dX6_valueFrom_141 rfl (by omega) (fun c57 => by exfalso; omega) (fun c57 => ?_)
                    refine xx_iload (pc := 144) dX6_valueFrom_144 0 rfl ?_
                    refine xx_if_eqN (pc := 146) 163 dX6_valueFrom_146 rfl (by omega) (fun c58 => ?_) (fun c58 => by exfalso; omega)
                    refine xx_iincN (L' := [(5, .int (nI (a + 1))), (7, .int (nI 0)), (6, .int (nI (mo_gf m s k a))), (4, .int (nI v)), (0, ic_pt E 95), (1, .int (nI k)), (2, ic_pt E (99 + 3 * (k + 1))), (3, .int (nI (mo_idle s)))]) (pc := 163) dX6_valueFrom_163 2 rfl cc_iconst_1 (Nat.le_of_ble_eq_true rfl) rfl ?_
                    refine xx_goto (pc := 166) 39 dX6_valueFrom_166 rfl ?_
                    have hk_ : mo_ab k (mo_gf m s k) (a + 1 - 1) = mo_ab k (mo_gf m s k) (a - 1) := by rw [show a + 1 - 1 = (a - 1) + 1 by omega, mo_ab, show a - 1 + 1 = a by omega, if_neg (by rw [← hv]; omega)]
                    exact xx_sub [0, 3, 4, 5, 6, 7] rfl (ih_ (a + 1) v w46 (by omega) (hfb.tr fs_) (by rw [hk_]; exact hv) (fun z => by rw [hk_, e10_]; exact ho z) (by omega))
                  · refine xx_iconst (pc := 117) dX6_valueFrom_117 cc_iconst_1 ?_
                    refine xx_goto (pc := 118) 137 dX6_valueFrom_118 rfl ?_
                    refine xx_istore (L' := [(7, .int (nI 1)), (6, .int (nI (mo_gf m s k a))), (5, .int (nI a)), (4, .int (nI v)), (0, ic_pt E 95), (1, .int (nI k)), (2, ic_pt E (99 + 3 * (k + 1))), (3, .int (nI (mo_idle s)))]) (pc := 137) dX6_valueFrom_137 (Nat.le_of_ble_eq_true rfl) rfl ?_
                    refine xx_iload (pc := 139) dX6_valueFrom_139 2 rfl ?_
                    refine xx_if_eqN (pc := 141) 149 dX6_valueFrom_141 rfl (by omega) (fun c59 => by exfalso; omega) (fun c59 => ?_)
                    refine xx_iload (pc := 144) dX6_valueFrom_144 0 rfl ?_
                    refine xx_if_eqN (pc := 146) 163 dX6_valueFrom_146 rfl (by omega) (fun c60 => by exfalso; omega) (fun c60 => ?_)
                    refine xx_iload (pc := 149) dX6_valueFrom_149 1 rfl ?_
                    refine xx_istore (L' := [(4, .int (nI (mo_gf m s k a))), (7, .int (nI 1)), (6, .int (nI (mo_gf m s k a))), (5, .int (nI a)), (0, ic_pt E 95), (1, .int (nI k)), (2, ic_pt E (99 + 3 * (k + 1))), (3, .int (nI (mo_idle s)))]) (pc := 151) dX6_valueFrom_151 (Nat.le_of_ble_eq_true rfl) rfl ?_
                    refine xx_iload_n (pc := 153) dX6_valueFrom_153 5 rfl rfl ?_
                    refine xx_if_neN (pc := 154) 163 dX6_valueFrom_154 rfl (by omega) (fun c61 => ?_) (fun c61 => ?_)
                    · refine xx_iincN (L' := [(5, .int (nI (a + 1))), (4, .int (nI (mo_gf m s k a))), (7, .int (nI 1)), (6, .int (nI (mo_gf m s k a))), (0, ic_pt E 95), (1, .int (nI k)), (2, ic_pt E (99 + 3 * (k + 1))), (3, .int (nI (mo_idle s)))]) (pc := 163) dX6_valueFrom_163 3 rfl cc_iconst_1 (Nat.le_of_ble_eq_true rfl) rfl ?_
                      refine xx_goto (pc := 166) 39 dX6_valueFrom_166 rfl ?_
                      have hk_ : mo_ab k (mo_gf m s k) (a + 1 - 1) = a := by rw [show a + 1 - 1 = (a - 1) + 1 by omega, mo_ab, show a - 1 + 1 = a by omega, if_pos (by rw [← hv]; omega)]
                      exact xx_sub [0, 1, 4, 5, 6, 7] rfl (ih_ (a + 1) _ w46 (by omega) (hfb.tr fs_) (by rw [hk_]) (fun z => absurd z (by omega)) (by omega))
                    · refine xx_aload_nP (pc := 157) dX6_valueFrom_157 4 rfl rfl ?_
                      refine xx_iload (pc := 158) dX6_valueFrom_158 3 rfl ?_
                      refine xx_putN (pc := 160) dX6_valueFrom_160 sh_95 fX6_115_6 rfl rfl ?_
                      refine xx_nw (fun w62 ew62 => ?_)
                      have fo_ : Fg k w46 w62 := ⟨fun q _ _ h3 _ => by rw [ew62, wu_row _ _ _ h3], fun j hj => by rw [ew62, wu_k _ _ _ _ hj], fun z => absurd (by omega) z⟩
                      have v10_ : w62 95 10 = a := by rw [ew62, wu_s]
                      refine xx_iincN (L' := [(5, .int (nI (a + 1))), (4, .int (nI (mo_gf m s k a))), (7, .int (nI 1)), (6, .int (nI (mo_gf m s k a))), (0, ic_pt E 95), (1, .int (nI k)), (2, ic_pt E (99 + 3 * (k + 1))), (3, .int (nI (mo_idle s)))]) (pc := 163) dX6_valueFrom_163 3 rfl cc_iconst_1 (Nat.le_of_ble_eq_true rfl) rfl ?_
                      refine xx_goto (pc := 166) 39 dX6_valueFrom_166 rfl ?_
                      have hk_ : mo_ab k (mo_gf m s k) (a + 1 - 1) = a := by rw [show a + 1 - 1 = (a - 1) + 1 by omega, mo_ab, show a - 1 + 1 = a by omega, if_pos (by rw [← hv]; omega)]
                      exact xx_sub [0, 1, 4, 5, 6, 7] rfl (ih_ (a + 1) _ w62 (by omega) ((hfb.tr fs_).tr fo_) (by rw [hk_]) (fun _ => by rw [hk_]; exact v10_) (by omega))
              · refine xx_goto (pc := 67) 163 dX6_valueFrom_67 rfl ?_
                refine xx_iincN (L' := [(5, .int (nI (a + 1))), (4, .int (nI v)), (0, ic_pt E 95), (1, .int (nI k)), (2, ic_pt E (99 + 3 * (k + 1))), (3, .int (nI (mo_idle s)))]) (pc := 163) dX6_valueFrom_163 0 rfl cc_iconst_1 (Nat.le_of_ble_eq_true rfl) rfl ?_
                refine xx_goto (pc := 166) 39 dX6_valueFrom_166 rfl ?_
                have hdd : mo_deed s (a - 1) = 2 := by by_cases z : mo_deed s (a - 1) = 2; exact z; exfalso; rw [if_neg (fun y => z (of_decide_eq_true y.2))] at hid_; omega
                have hai := ab_i (m := m) (k := k) hIn (b := a - 1) (by omega) hdd
                exact xx_sub [0, 1, 2, 3, 4, 5] rfl (ih_ (a + 1) v u (by omega) hfb (by rw [show a + 1 - 1 = (a - 1) + 1 by omega, hai]; exact hv) (by rw [show a + 1 - 1 = (a - 1) + 1 by omega, hai]; exact ho) (by omega))
        exact xx_sub [0, 1, 6, 7, 5, 4] rfl (lp (s 0 + 2) 1 _ w17 (by omega) ((hf0_.tr fs_).tr fo_) rfl (fun _ => v10_) (by omega))
    · refine xx_iconst (pc := 132) dX6_valueFrom_132 cc_iconst_1 ?_
      refine xx_goto (pc := 133) 137 dX6_valueFrom_133 rfl ?_
      refine xx_istore (L' := [(7, .int (nI 1)), (6, .int (nI (mo_gf m s k 0))), (5, .int (nI 0)), (4, .int (nI 0)), (3, .int (nI (mo_idle s))), (2, ic_pt E (99 + 3 * (k + 1))), (0, ic_pt E 95), (1, .int (nI k))]) (pc := 137) dX6_valueFrom_137 (Nat.le_of_ble_eq_true rfl) rfl ?_
      refine xx_iload (pc := 139) dX6_valueFrom_139 2 rfl ?_
      refine xx_if_eqN (pc := 141) 149 dX6_valueFrom_141 rfl (by omega) (fun c18 => ?_) (fun c18 => by exfalso; omega)
      refine xx_iload (pc := 149) dX6_valueFrom_149 1 rfl ?_
      refine xx_istore (L' := [(4, .int (nI (mo_gf m s k 0))), (7, .int (nI 1)), (6, .int (nI (mo_gf m s k 0))), (5, .int (nI 0)), (3, .int (nI (mo_idle s))), (2, ic_pt E (99 + 3 * (k + 1))), (0, ic_pt E 95), (1, .int (nI k))]) (pc := 151) dX6_valueFrom_151 (Nat.le_of_ble_eq_true rfl) rfl ?_
      refine xx_iload_n (pc := 153) dX6_valueFrom_153 7 rfl rfl ?_
      refine xx_if_neN (pc := 154) 163 dX6_valueFrom_154 rfl (by omega) (fun c19 => ?_) (fun c19 => ?_)
      · refine xx_iincN (L' := [(5, .int (nI 1)), (4, .int (nI (mo_gf m s k 0))), (7, .int (nI 1)), (6, .int (nI (mo_gf m s k 0))), (3, .int (nI (mo_idle s))), (2, ic_pt E (99 + 3 * (k + 1))), (0, ic_pt E 95), (1, .int (nI k))]) (pc := 163) dX6_valueFrom_163 3 rfl cc_iconst_1 (Nat.le_of_ble_eq_true rfl) rfl ?_
        refine xx_goto (pc := 166) 39 dX6_valueFrom_166 rfl ?_
        have hf0_ : Fg k w w2 := ⟨fun q h1 h2 _ _ => gw2 q h1 h2, fun j _ => by rw [gw2 95 (by omega) (by omega)], fun _ => by rw [gw2 95 (by omega) (by omega)]⟩
        have lp : ∀ (n_ : Nat) (a v : Nat) (u : ic_w), 1 ≤ a ∧ a ≤ s 0 + 1 → Fg k w u → v = mo_gf m s k (mo_ab k (mo_gf m s k) (a - 1)) → (k = 0 → u 95 10 = mo_ab k (mo_gf m s k) (a - 1)) → s 0 + 1 - a < n_ → xx l E (ic_fr E mX6_valueFrom (m + 9) 0 0 False SHs (ic_qi (fun v_ h_ => v_ = nI (mo_gv (m + 1) s k) ∧ ∃ w2, h_ = hn w2 ∧ Fg k w w2 ∧ (k = 0 → ∀ m2, m + 1 = m2 + 1 → s 1 < s 2 → w2 95 10 = mo_ab 0 (mo_gf m2 s 0) (s 0))))) (0, 0) 39 [(5, .int (nI a)), (4, .int (nI v)), (0, ic_pt E 95), (1, .int (nI k)), (2, ic_pt E (99 + 3 * (k + 1))), (3, .int (nI (mo_idle s)))] [] SHs (hn u) := by
          intro n_
          induction n_ with
          | zero => intro a v u ha hfb hv ho hm_; exact absurd hm_ (Nat.not_lt_zero _)
          | succ n_ ih_ =>
            intro a v u ha hfb hv ho hm_
            have hN_u : Cn u s := hN.fg hfb
            have n1_u : u 39 10 = s 0 := hN_u.n
            have hp_u : Cs u (99 + 3 * k) s := hm.of (hfb.1 _ (by omega) (by omega) (by omega) (by omega)) (hfb.1 _ (by omega) (by omega) (by omega) (by omega)) (hfb.1 _ (by omega) (by omega) (by omega) (by omega))
            have u4_ := hfb.2.1 4 (by omega)
            have hal := mo_ab_le k (mo_gf m s k) (a - 1)
            have hvl := mo_gf_le (m := m) (k := k) hIn hRu (a := mo_ab k (mo_gf m s k) (a - 1)) (by omega) (by omega)
            refine xx_iload (pc := 39) dX6_valueFrom_39 0 rfl ?_
            refine xx_aload_nP (pc := 41) dX6_valueFrom_41 2 rfl rfl ?_
            refine xx_getR (pc := 42) 39 dX6_valueFrom_42 sh_95 fX6_24_6 rfl rfl (by decide) ?_
            refine xx_getN (pc := 45) dX6_valueFrom_45 sh_39 fX6_89_5 rfl ?_
            refine xx_icmp_gtN (pc := 48) 169 dX6_valueFrom_48 rfl (by omega) (by omega) (fun c40 => ?_) (fun c40 => ?_)
            · refine xx_iload (pc := 169) dX6_valueFrom_169 1 rfl ?_
              exact xx_iret (pc := 171) dX6_valueFrom_171 rfl (rfl) (Nat.le_refl _) (Nat.le_refl _) (ic_ri ⟨by rw [mo_gv_s, if_neg (by omega), hv, show a - 1 = s 0 by omega], u, rfl, hfb, fun hk0 m2 e _ => by obtain rfl : m2 = m := (by omega); have := ho hk0; rw [show a - 1 = s 0 by omega] at this; rw [this, hk0]⟩)
            · refine xx_iload (pc := 51) dX6_valueFrom_51 0 rfl ?_
              refine xx_if_leN (pc := 53) 70 dX6_valueFrom_53 rfl (by omega) (fun c41 => by exfalso; omega) (fun c41 => ?_)
              have hid_ : mo_idle s / 2 ^ (a - 1) % 2 = if a - 1 < s 0 ∧ decide (mo_deed s (a - 1) = 2) = true then 1 else 0 := mo_set_bit (fun q => decide (mo_deed s q = 2)) (a - 1) (s 0)
              have hil_ : mo_idle s < 64 := Nat.lt_of_lt_of_le (mo_set_lt _ _) (mo_p2 hn0)
              refine xx_iload_n (pc := 56) dX6_valueFrom_56 5 rfl rfl ?_
              refine xx_iload (pc := 57) dX6_valueFrom_57 0 rfl ?_
              refine xx_iconst (pc := 59) dX6_valueFrom_59 cc_iconst_1 ?_
              refine xx_isubN (pc := 60) dX6_valueFrom_60 (by omega) ?_
              refine xx_callSN0 (pc := 61) (st := []) (cC_has (w := u) (t := mo_idle s) (k := a - 1) (by omega) (by omega)) kX11_has nX6_92 (by exact s_X11_has) dX6_valueFrom_61 rfl rfl (Nat.le_of_ble_eq_true rfl) (pl_hR (d := m + 9) (by omega) (Nat.le_of_ble_eq_true rfl)) ⟨Nat.zero_le _, Nat.zero_le _⟩ (ic_ke ?_)
              refine xx_if_eqB (pc := 64) 70 dX6_valueFrom_64 rfl (fun c42 => ?_) (fun c42 => ?_)
              · refine xx_aload_nP (pc := 70) dX6_valueFrom_70 4 rfl rfl ?_
                refine xx_aload_nP (pc := 71) dX6_valueFrom_71 2 rfl rfl ?_
                refine xx_getR (pc := 72) 96 dX6_valueFrom_72 sh_95 fX6_11_6 rfl rfl (by decide) ?_
                refine xx_iload_n (pc := 75) dX6_valueFrom_75 3 rfl rfl ?_
                refine xx_aald (pc := 76) k (99 + 3 * k) dX6_valueFrom_76 sh_96 (by decide) rfl (by omega) (by decide) (pm_at (by omega)) ?_
                refine xx_callV0 (pc := 77) (st := []) (Mo_pl (by omega)).1 (cC_mbecome (w := u) (m := 99 + 3 * (k + 1)) (p := 99 + 3 * k) (Mo_pl (by omega)) (Mo_pl (by omega)) (by omega)) kX4_become vX6_54_4 dX6_valueFrom_77 rfl rfl (Nat.le_of_ble_eq_true rfl) (pl_hR (d := m + 9) (by omega) (Nat.le_of_ble_eq_true rfl)) ⟨Nat.zero_le _, Nat.zero_le _⟩ (ic_kv (fun h_ qw43 => ?_))
                obtain ⟨w43, rfl, b0, b1, bj, gb⟩ := qw43
                have hm_w43 : Cs w43 (99 + 3 * (k + 1)) s := Cs.bc hp_u hIn b0 b1 bj
                have hN_w43 : Cn w43 s := hN_u.of (by rw [gb _ (by omega) (by omega) (by omega)]) (by rw [gb _ (by omega) (by omega) (by omega)]) (by rw [gb _ (by omega) (by omega) (by omega)]) (fun b _ _ _ _ _ _ _ _ => by rw [gb _ (by omega) (by omega) (by omega)])
                refine xx_aload_nP (pc := 80) dX6_valueFrom_80 2 rfl rfl ?_
                refine xx_getR (pc := 81) 39 dX6_valueFrom_81 sh_95 fX6_24_6 rfl rfl (by decide) ?_
                refine xx_aload_nP (pc := 84) dX6_valueFrom_84 4 rfl rfl ?_
                refine xx_iload (pc := 85) dX6_valueFrom_85 0 rfl ?_
                have hwl_x45 := mo_worth_le hIn (act := a) (by omega)
                refine xx_callV0 (pc := 87) (st := []) sh_39 (cC_goBy (w := w43) (m := 99 + 3 * (k + 1)) (act := a) (s := s) (Mo_pl (k := k + 1) (by omega)) hm_w43 hN_w43 hIn hRu (by omega)) kX5_goBy vX6_96_5 dX6_valueFrom_87 rfl rfl (Nat.le_of_ble_eq_true rfl) (pl_hR (d := m + 9) (by omega) (Nat.le_of_ble_eq_true rfl)) ⟨Nat.zero_le _, Nat.zero_le _⟩ (ic_ki (fun v47 h_ qw46 => ?_))
                obtain ⟨rfl, w46, rfl, gw46, hm_w46⟩ := qw46
                have hIn_w46 : In (mo_go s a) := In_go hIn (by omega) (by omega)
                have hRu_w46 : Ru (mo_go s a) := Ru_go hRu hIn (by omega)
                have hN_w46 : Cn w46 (mo_go s a) := (hN_w43.fm (Mo_pl (k := k + 1) (by omega)) gw46).go hIn (by omega)
                refine xx_istore (L' := [(6, .int (nI (mo_worth s a))), (5, .int (nI a)), (4, .int (nI v)), (0, ic_pt E 95), (1, .int (nI k)), (2, ic_pt E (99 + 3 * (k + 1))), (3, .int (nI (mo_idle s)))]) (pc := 90) dX6_valueFrom_90 (Nat.le_of_ble_eq_true rfl) rfl ?_
                refine xx_iload (pc := 92) dX6_valueFrom_92 0 rfl ?_
                refine xx_aload_nP (pc := 94) dX6_valueFrom_94 3 rfl rfl ?_
                refine xx_iload_n (pc := 95) dX6_valueFrom_95 4 rfl rfl ?_
                refine xx_iconst (pc := 96) dX6_valueFrom_96 cc_iconst_1 ?_
                refine xx_iaddN (pc := 97) dX6_valueFrom_97 ?_
                have gt1 := mo_go_1 s a
                have gt2 : mo_go s a 2 = s 2 := mo_go_r _ (by omega) (by omega) (by omega)
                have q95_ : w46 95 = u 95 := by rw [gw46 95 (by omega) (by omega) (by omega) (by omega) (by omega), gb 95 (by omega) (by omega) (by omega)]
                have gl_ := mo_gf_le (m := m) (k := k) hIn hRu (a := a) (by omega) (by omega)
                have gw_ : mo_worth s a + mo_gv m (mo_go s a) (k + 1) = mo_gf m s k a := rfl
                refine xx_callV0 (pc := 98) (st := [.int (nI (mo_worth s a))]) sh_95 (IH w46 (mo_go s a) (k + 1) hm_w46 hN_w46 hIn_w46 hRu_w46 (by rw [q95_]; omega) (by rw [q95_]; omega) (by omega)) kX6_valueFrom vX6_118_6 dX6_valueFrom_98 rfl rfl (Nat.le_of_ble_eq_true rfl) (pl_hR (d := m + 9) (by omega) (Nat.le_of_ble_eq_true rfl)) ⟨Nat.zero_le _, Nat.zero_le _⟩ (ic_ki (fun v49 h_ qw48 => ?_))
                obtain ⟨rfl, w48, rfl, fb_, -⟩ := qw48
                obtain ⟨fs_, e95_, e10_⟩ := Fg.step (by omega) gb gw46 fb_
                refine xx_iaddN (pc := 101) dX6_valueFrom_101 ?_
                refine xx_eqI (y := nI (mo_gf m s k a)) (rfl) ?_
                refine xx_istore (L' := [(6, .int (nI (mo_gf m s k a))), (5, .int (nI a)), (4, .int (nI v)), (0, ic_pt E 95), (1, .int (nI k)), (2, ic_pt E (99 + 3 * (k + 1))), (3, .int (nI (mo_idle s)))]) (pc := 102) dX6_valueFrom_102 (Nat.le_of_ble_eq_true rfl) rfl ?_
                refine xx_iload_n (pc := 104) dX6_valueFrom_104 4 rfl rfl ?_
                refine xx_iconst (pc := 105) dX6_valueFrom_105 cc_iconst_2 ?_
                refine xx_iremN (pc := 106) dX6_valueFrom_106 (by omega) (by omega) (by omega) ?_
                refine xx_if_neN (pc := 107) 125 dX6_valueFrom_107 rfl (by omega) (fun c50 => ?_) (fun c50 => ?_)
                · refine xx_iload (pc := 125) dX6_valueFrom_125 0 rfl ?_
                  refine xx_iload (pc := 127) dX6_valueFrom_127 2 rfl ?_
                  refine xx_icmp_geN (pc := 129) 136 dX6_valueFrom_129 rfl (by omega) (by omega) (fun c51 => ?_) (fun c51 => ?_)
                  · refine xx_iconst (pc := 136) dX6_valueFrom_136 cc_iconst_0 ?_
                    refine xx_istore (L' := [(7, .int (nI 0)), (6, .int (nI (mo_gf m s k a))), (5, .int (nI a)), (4, .int (nI v)), (0, ic_pt E 95), (1, .int (nI k)), (2, ic_pt E (99 + 3 * (k + 1))), (3, .int (nI (mo_idle s)))]) (pc := 137) dX6_valueFrom_137 (Nat.le_of_ble_eq_true rfl) rfl ?_
                    refine xx_iload (pc := 139) dX6_valueFrom_139 2 rfl ?_
                    refine xx_if_eqN (pc := 141) 149 dX6_valueFrom_141 rfl (by omega) (fun c52 => by exfalso; omega) (fun c52 => ?_)
                    refine xx_iload (pc := 144) dX6_valueFrom_144 0 rfl ?_
                    refine xx_if_eqN (pc := 146) 163 dX6_valueFrom_146 rfl (by omega) (fun c53 => ?_) (fun c53 => by exfalso; omega)
                    refine xx_iincN (L' := [(5, .int (nI (a + 1))), (7, .int (nI 0)), (6, .int (nI (mo_gf m s k a))), (4, .int (nI v)), (0, ic_pt E 95), (1, .int (nI k)), (2, ic_pt E (99 + 3 * (k + 1))), (3, .int (nI (mo_idle s)))]) (pc := 163) dX6_valueFrom_163 2 rfl cc_iconst_1 (Nat.le_of_ble_eq_true rfl) rfl ?_
                    refine xx_goto (pc := 166) 39 dX6_valueFrom_166 rfl ?_
                    have hk_ : mo_ab k (mo_gf m s k) (a + 1 - 1) = mo_ab k (mo_gf m s k) (a - 1) := by rw [show a + 1 - 1 = (a - 1) + 1 by omega, mo_ab, show a - 1 + 1 = a by omega, if_neg (by rw [← hv]; omega)]
                    exact xx_sub [0, 3, 4, 5, 6, 7] rfl (ih_ (a + 1) v w48 (by omega) (hfb.tr fs_) (by rw [hk_]; exact hv) (fun z => by rw [hk_, e10_]; exact ho z) (by omega))
                  · refine xx_iconst (pc := 132) dX6_valueFrom_132 cc_iconst_1 ?_
                    refine xx_goto (pc := 133) 137 dX6_valueFrom_133 rfl ?_
                    refine xx_istore (L' := [(7, .int (nI 1)), (6, .int (nI (mo_gf m s k a))), (5, .int (nI a)), (4, .int (nI v)), (0, ic_pt E 95), (1, .int (nI k)), (2, ic_pt E (99 + 3 * (k + 1))), (3, .int (nI (mo_idle s)))]) (pc := 137) dX6_valueFrom_137 (Nat.le_of_ble_eq_true rfl) rfl ?_
                    refine xx_iload (pc := 139) dX6_valueFrom_139 2 rfl ?_
                    refine xx_if_eqN (pc := 141) 149 dX6_valueFrom_141 rfl (by omega) (fun c54 => by exfalso; omega) (fun c54 => ?_)
                    refine xx_iload (pc := 144) dX6_valueFrom_144 0 rfl ?_
                    refine xx_if_eqN (pc := 146) 163 dX6_valueFrom_146 rfl (by omega) (fun c55 => by exfalso; omega) (fun c55 => ?_)
                    refine xx_iload (pc := 149) dX6_valueFrom_149 1 rfl ?_
                    refine xx_istore (L' := [(4, .int (nI (mo_gf m s k a))), (7, .int (nI 1)), (6, .int (nI (mo_gf m s k a))), (5, .int (nI a)), (0, ic_pt E 95), (1, .int (nI k)), (2, ic_pt E (99 + 3 * (k + 1))), (3, .int (nI (mo_idle s)))]) (pc := 151) dX6_valueFrom_151 (Nat.le_of_ble_eq_true rfl) rfl ?_
                    refine xx_iload_n (pc := 153) dX6_valueFrom_153 5 rfl rfl ?_
                    refine xx_if_neN (pc := 154) 163 dX6_valueFrom_154 rfl (by omega) (fun c56 => ?_) (fun c56 => ?_)
                    · refine xx_iincN (L' := [(5, .int (nI (a + 1))), (4, .int (nI (mo_gf m s k a))), (7, .int (nI 1)), (6, .int (nI (mo_gf m s k a))), (0, ic_pt E 95), (1, .int (nI k)), (2, ic_pt E (99 + 3 * (k + 1))), (3, .int (nI (mo_idle s)))]) (pc := 163) dX6_valueFrom_163 3 rfl cc_iconst_1 (Nat.le_of_ble_eq_true rfl) rfl ?_
                      refine xx_goto (pc := 166) 39 dX6_valueFrom_166 rfl ?_
                      have hk_ : mo_ab k (mo_gf m s k) (a + 1 - 1) = a := by rw [show a + 1 - 1 = (a - 1) + 1 by omega, mo_ab, show a - 1 + 1 = a by omega, if_pos (by rw [← hv]; omega)]
                      exact xx_sub [0, 1, 4, 5, 6, 7] rfl (ih_ (a + 1) _ w48 (by omega) (hfb.tr fs_) (by rw [hk_]) (fun z => absurd z (by omega)) (by omega))
                    · refine xx_aload_nP (pc := 157) dX6_valueFrom_157 4 rfl rfl ?_
                      refine xx_iload (pc := 158) dX6_valueFrom_158 3 rfl ?_
                      refine xx_putN (pc := 160) dX6_valueFrom_160 sh_95 fX6_115_6 rfl rfl ?_
                      refine xx_nw (fun w57 ew57 => ?_)
                      have fo_ : Fg k w48 w57 := ⟨fun q _ _ h3 _ => by rw [ew57, wu_row _ _ _ h3], fun j hj => by rw [ew57, wu_k _ _ _ _ hj], fun z => absurd (by omega) z⟩
                      have v10_ : w57 95 10 = a := by rw [ew57, wu_s]
                      refine xx_iincN (L' := [(5, .int (nI (a + 1))), (4, .int (nI (mo_gf m s k a))), (7, .int (nI 1)), (6, .int (nI (mo_gf m s k a))), (0, ic_pt E 95), (1, .int (nI k)), (2, ic_pt E (99 + 3 * (k + 1))), (3, .int (nI (mo_idle s)))]) (pc := 163) dX6_valueFrom_163 3 rfl cc_iconst_1 (Nat.le_of_ble_eq_true rfl) rfl ?_
                      refine xx_goto (pc := 166) 39 dX6_valueFrom_166 rfl ?_
                      have hk_ : mo_ab k (mo_gf m s k) (a + 1 - 1) = a := by rw [show a + 1 - 1 = (a - 1) + 1 by omega, mo_ab, show a - 1 + 1 = a by omega, if_pos (by rw [← hv]; omega)]
                      exact xx_sub [0, 1, 4, 5, 6, 7] rfl (ih_ (a + 1) _ w57 (by omega) ((hfb.tr fs_).tr fo_) (by rw [hk_]) (fun _ => by rw [hk_]; exact v10_) (by omega))
                · refine xx_iload (pc := 110) dX6_valueFrom_110 0 rfl ?_
                  refine xx_iload (pc := 112) dX6_valueFrom_112 2 rfl ?_
                  refine xx_icmp_leN (pc := 114) 121 dX6_valueFrom_114 rfl (by omega) (by omega) (fun c58 => ?_) (fun c58 => ?_)
                  · refine xx_iconst (pc := 121) dX6_valueFrom_121 cc_iconst_0 ?_
                    refine xx_goto (pc := 122) 137 dX6_valueFrom_122 rfl ?_
                    refine xx_istore (L' := [(7, .int (nI 0)), (6, .int (nI (mo_gf m s k a))), (5, .int (nI a)), (4, .int (nI v)), (0, ic_pt E 95), (1, .int (nI k)), (2, ic_pt E (99 + 3 * (k + 1))), (3, .int (nI (mo_idle s)))]) (pc := 137) dX6_valueFrom_137 (Nat.le_of_ble_eq_true rfl) rfl ?_
                    refine xx_iload (pc := 139) dX6_valueFrom_139 2 rfl ?_
                    refine xx_if_eqN (pc := 141) 149 dX6_valueFrom_141 rfl (by omega) (fun c59 => by exfalso; omega) (fun c59 => ?_)
                    refine xx_iload (pc := 144) dX6_valueFrom_144 0 rfl ?_
                    refine xx_if_eqN (pc := 146) 163 dX6_valueFrom_146 rfl (by omega) (fun c60 => ?_) (fun c60 => by exfalso; omega)
                    refine xx_iincN (L' := [(5, .int (nI (a + 1))), (7, .int (nI 0)), (6, .int (nI (mo_gf m s k a))), (4, .int (nI v)), (0, ic_pt E 95), (1, .int (nI k)), (2, ic_pt E (99 + 3 * (k + 1))), (3, .int (nI (mo_idle s)))]) (pc := 163) dX6_valueFrom_163 2 rfl cc_iconst_1 (Nat.le_of_ble_eq_true rfl) rfl ?_
                    refine xx_goto (pc := 166) 39 dX6_valueFrom_166 rfl ?_
                    have hk_ : mo_ab k (mo_gf m s k) (a + 1 - 1) = mo_ab k (mo_gf m s k) (a - 1) := by rw [show a + 1 - 1 = (a - 1) + 1 by omega, mo_ab, show a - 1 + 1 = a by omega, if_neg (by rw [← hv]; omega)]
                    exact xx_sub [0, 3, 4, 5, 6, 7] rfl (ih_ (a + 1) v w48 (by omega) (hfb.tr fs_) (by rw [hk_]; exact hv) (fun z => by rw [hk_, e10_]; exact ho z) (by omega))
                  · refine xx_iconst (pc := 117) dX6_valueFrom_117 cc_iconst_1 ?_
                    refine xx_goto (pc := 118) 137 dX6_valueFrom_118 rfl ?_
                    refine xx_istore (L' := [(7, .int (nI 1)), (6, .int (nI (mo_gf m s k a))), (5, .int (nI a)), (4, .int (nI v)), (0, ic_pt E 95), (1, .int (nI k)), (2, ic_pt E (99 + 3 * (k + 1))), (3, .int (nI (mo_idle s)))]) (pc := 137) dX6_valueFrom_137 (Nat.le_of_ble_eq_true rfl) rfl ?_
                    refine xx_iload (pc := 139) dX6_valueFrom_139 2 rfl ?_
                    refine xx_if_eqN (pc := 141) 149 dX6_valueFrom_141 rfl (by omega) (fun c61 => by exfalso; omega) (fun c61 => ?_)
                    refine xx_iload (pc := 144) dX6_valueFrom_144 0 rfl ?_
                    refine xx_if_eqN (pc := 146) 163 dX6_valueFrom_146 rfl (by omega) (fun c62 => by exfalso; omega) (fun c62 => ?_)
                    refine xx_iload (pc := 149) dX6_valueFrom_149 1 rfl ?_
                    refine xx_istore (L' := [(4, .int (nI (mo_gf m s k a))), (7, .int (nI 1)), (6, .int (nI (mo_gf m s k a))), (5, .int (nI a)), (0, ic_pt E 95), (1, .int (nI k)), (2, ic_pt E (99 + 3 * (k + 1))), (3, .int (nI (mo_idle s)))]) (pc := 151) dX6_valueFrom_151 (Nat.le_of_ble_eq_true rfl) rfl ?_
                    refine xx_iload_n (pc := 153) dX6_valueFrom_153 5 rfl rfl ?_
                    refine xx_if_neN (pc := 154) 163 dX6_valueFrom_154 rfl (by omega) (fun c63 => ?_) (fun c63 => ?_)
                    · refine xx_iincN (L' := [(5, .int (nI (a + 1))), (4, .int (nI (mo_gf m s k a))), (7, .int (nI 1)), (6, .int (nI (mo_gf m s k a))), (0, ic_pt E 95), (1, .int (nI k)), (2, ic_pt E (99 + 3 * (k + 1))), (3, .int (nI (mo_idle s)))]) (pc := 163) dX6_valueFrom_163 3 rfl cc_iconst_1 (Nat.le_of_ble_eq_true rfl) rfl ?_
                      refine xx_goto (pc := 166) 39 dX6_valueFrom_166 rfl ?_
                      have hk_ : mo_ab k (mo_gf m s k) (a + 1 - 1) = a := by rw [show a + 1 - 1 = (a - 1) + 1 by omega, mo_ab, show a - 1 + 1 = a by omega, if_pos (by rw [← hv]; omega)]
                      exact xx_sub [0, 1, 4, 5, 6, 7] rfl (ih_ (a + 1) _ w48 (by omega) (hfb.tr fs_) (by rw [hk_]) (fun z => absurd z (by omega)) (by omega))
                    · refine xx_aload_nP (pc := 157) dX6_valueFrom_157 4 rfl rfl ?_
                      refine xx_iload (pc := 158) dX6_valueFrom_158 3 rfl ?_
                      refine xx_putN (pc := 160) dX6_valueFrom_160 sh_95 fX6_115_6 rfl rfl ?_
                      refine xx_nw (fun w64 ew64 => ?_)
                      have fo_ : Fg k w48 w64 := ⟨fun q _ _ h3 _ => by rw [ew64, wu_row _ _ _ h3], fun j hj => by rw [ew64, wu_k _ _ _ _ hj], fun z => absurd (by omega) z⟩
                      have v10_ : w64 95 10 = a := by rw [ew64, wu_s]
                      refine xx_iincN (L' := [(5, .int (nI (a + 1))), (4, .int (nI (mo_gf m s k a))), (7, .int (nI 1)), (6, .int (nI (mo_gf m s k a))), (0, ic_pt E 95), (1, .int (nI k)), (2, ic_pt E (99 + 3 * (k + 1))), (3, .int (nI (mo_idle s)))]) (pc := 163) dX6_valueFrom_163 3 rfl cc_iconst_1 (Nat.le_of_ble_eq_true rfl) rfl ?_
                      refine xx_goto (pc := 166) 39 dX6_valueFrom_166 rfl ?_
                      have hk_ : mo_ab k (mo_gf m s k) (a + 1 - 1) = a := by rw [show a + 1 - 1 = (a - 1) + 1 by omega, mo_ab, show a - 1 + 1 = a by omega, if_pos (by rw [← hv]; omega)]
                      exact xx_sub [0, 1, 4, 5, 6, 7] rfl (ih_ (a + 1) _ w64 (by omega) ((hfb.tr fs_).tr fo_) (by rw [hk_]) (fun _ => by rw [hk_]; exact v10_) (by omega))
              · refine xx_goto (pc := 67) 163 dX6_valueFrom_67 rfl ?_
                refine xx_iincN (L' := [(5, .int (nI (a + 1))), (4, .int (nI v)), (0, ic_pt E 95), (1, .int (nI k)), (2, ic_pt E (99 + 3 * (k + 1))), (3, .int (nI (mo_idle s)))]) (pc := 163) dX6_valueFrom_163 0 rfl cc_iconst_1 (Nat.le_of_ble_eq_true rfl) rfl ?_
                refine xx_goto (pc := 166) 39 dX6_valueFrom_166 rfl ?_
                have hdd : mo_deed s (a - 1) = 2 := by by_cases z : mo_deed s (a - 1) = 2; exact z; exfalso; rw [if_neg (fun y => z (of_decide_eq_true y.2))] at hid_; omega
                have hai := ab_i (m := m) (k := k) hIn (b := a - 1) (by omega) hdd
                exact xx_sub [0, 1, 2, 3, 4, 5] rfl (ih_ (a + 1) v u (by omega) hfb (by rw [show a + 1 - 1 = (a - 1) + 1 by omega, hai]; exact hv) (by rw [show a + 1 - 1 = (a - 1) + 1 by omega, hai]; exact ho) (by omega))
        exact xx_sub [0, 1, 6, 7, 5, 4] rfl (lp (s 0 + 2) 1 _ w11 (by omega) (hf0_.tr fs_) rfl (fun z => absurd z (by omega)) (by omega))
      · refine xx_aload_nP (pc := 157) dX6_valueFrom_157 6 rfl rfl ?_
        refine xx_iload (pc := 158) dX6_valueFrom_158 3 rfl ?_
        refine xx_putN (pc := 160) dX6_valueFrom_160 sh_95 fX6_115_6 rfl rfl ?_
        refine xx_nw (fun w20 ew20 => ?_)
        have fo_ : Fg k w11 w20 := ⟨fun q _ _ h3 _ => by rw [ew20, wu_row _ _ _ h3], fun j hj => by rw [ew20, wu_k _ _ _ _ hj], fun z => absurd (by omega) z⟩
        have v10_ : w20 95 10 = 0 := by rw [ew20, wu_s]
        refine xx_iincN (L' := [(5, .int (nI 1)), (4, .int (nI (mo_gf m s k 0))), (7, .int (nI 1)), (6, .int (nI (mo_gf m s k 0))), (3, .int (nI (mo_idle s))), (2, ic_pt E (99 + 3 * (k + 1))), (0, ic_pt E 95), (1, .int (nI k))]) (pc := 163) dX6_valueFrom_163 3 rfl cc_iconst_1 (Nat.le_of_ble_eq_true rfl) rfl ?_
        refine xx_goto (pc := 166) 39 dX6_valueFrom_166 rfl ?_
        have hf0_ : Fg k w w2 := ⟨fun q h1 h2 _ _ => gw2 q h1 h2, fun j _ => by rw [gw2 95 (by omega) (by omega)], fun _ => by rw [gw2 95 (by omega) (by omega)]⟩
        have lp : ∀ (n_ : Nat) (a v : Nat) (u : ic_w), 1 ≤ a ∧ a ≤ s 0 + 1 → Fg k w u → v = mo_gf m s k (mo_ab k (mo_gf m s k) (a - 1)) → (k = 0 → u 95 10 = mo_ab k (mo_gf m s k) (a - 1)) → s 0 + 1 - a < n_ → xx l E (ic_fr E mX6_valueFrom (m + 9) 0 0 False SHs (ic_qi (fun v_ h_ => v_ = nI (mo_gv (m + 1) s k) ∧ ∃ w2, h_ = hn w2 ∧ Fg k w w2 ∧ (k = 0 → ∀ m2, m + 1 = m2 + 1 → s 1 < s 2 → w2 95 10 = mo_ab 0 (mo_gf m2 s 0) (s 0))))) (0, 0) 39 [(5, .int (nI a)), (4, .int (nI v)), (0, ic_pt E 95), (1, .int (nI k)), (2, ic_pt E (99 + 3 * (k + 1))), (3, .int (nI (mo_idle s)))] [] SHs (hn u) := by
          intro n_
          induction n_ with
          | zero => intro a v u ha hfb hv ho hm_; exact absurd hm_ (Nat.not_lt_zero _)
          | succ n_ ih_ =>
            intro a v u ha hfb hv ho hm_
            have hN_u : Cn u s := hN.fg hfb
            have n1_u : u 39 10 = s 0 := hN_u.n
            have hp_u : Cs u (99 + 3 * k) s := hm.of (hfb.1 _ (by omega) (by omega) (by omega) (by omega)) (hfb.1 _ (by omega) (by omega) (by omega) (by omega)) (hfb.1 _ (by omega) (by omega) (by omega) (by omega))
            have u4_ := hfb.2.1 4 (by omega)
            have hal := mo_ab_le k (mo_gf m s k) (a - 1)
            have hvl := mo_gf_le (m := m) (k := k) hIn hRu (a := mo_ab k (mo_gf m s k) (a - 1)) (by omega) (by omega)
            refine xx_iload (pc := 39) dX6_valueFrom_39 0 rfl ?_
            refine xx_aload_nP (pc := 41) dX6_valueFrom_41 2 rfl rfl ?_
            refine xx_getR (pc := 42) 39 dX6_valueFrom_42 sh_95 fX6_24_6 rfl rfl (by decide) ?_
            refine xx_getN (pc := 45) dX6_valueFrom_45 sh_39 fX6_89_5 rfl ?_
            refine xx_icmp_gtN (pc := 48) 169 dX6_valueFrom_48 rfl (by omega) (by omega) (fun c41 => ?_) (fun c41 => ?_)
            · refine xx_iload (pc := 169) dX6_valueFrom_169 1 rfl ?_
              exact xx_iret (pc := 171) dX6_valueFrom_171 rfl (rfl) (Nat.le_refl _) (Nat.le_refl _) (ic_ri ⟨by rw [mo_gv_s, if_neg (by omega), hv, show a - 1 = s 0 by omega], u, rfl, hfb, fun hk0 m2 e _ => by obtain rfl : m2 = m := (by omega); have := ho hk0; rw [show a - 1 = s 0 by omega] at this; rw [this, hk0]⟩)
            · refine xx_iload (pc := 51) dX6_valueFrom_51 0 rfl ?_
              refine xx_if_leN (pc := 53) 70 dX6_valueFrom_53 rfl (by omega) (fun c42 => by exfalso; omega) (fun c42 => ?_)
              have hid_ : mo_idle s / 2 ^ (a - 1) % 2 = if a - 1 < s 0 ∧ decide (mo_deed s (a - 1) = 2) = true then 1 else 0 := mo_set_bit (fun q => decide (mo_deed s q = 2)) (a - 1) (s 0)
              have hil_ : mo_idle s < 64 := Nat.lt_of_lt_of_le (mo_set_lt _ _) (mo_p2 hn0)
              refine xx_iload_n (pc := 56) dX6_valueFrom_56 5 rfl rfl ?_
              refine xx_iload (pc := 57) dX6_valueFrom_57 0 rfl ?_
              refine xx_iconst (pc := 59) dX6_valueFrom_59 cc_iconst_1 ?_
              refine xx_isubN (pc := 60) dX6_valueFrom_60 (by omega) ?_
              refine xx_callSN0 (pc := 61) (st := []) (cC_has (w := u) (t := mo_idle s) (k := a - 1) (by omega) (by omega)) kX11_has nX6_92 (by exact s_X11_has) dX6_valueFrom_61 rfl rfl (Nat.le_of_ble_eq_true rfl) (pl_hR (d := m + 9) (by omega) (Nat.le_of_ble_eq_true rfl)) ⟨Nat.zero_le _, Nat.zero_le _⟩ (ic_ke ?_)
              refine xx_if_eqB (pc := 64) 70 dX6_valueFrom_64 rfl (fun c43 => ?_) (fun c43 => ?_)
              · refine xx_aload_nP (pc := 70) dX6_valueFrom_70 4 rfl rfl ?_
                refine xx_aload_nP (pc := 71) dX6_valueFrom_71 2 rfl rfl ?_
                refine xx_getR (pc := 72) 96 dX6_valueFrom_72 sh_95 fX6_11_6 rfl rfl (by decide) ?_
                refine xx_iload_n (pc := 75) dX6_valueFrom_75 3 rfl rfl ?_
                refine xx_aald (pc := 76) k (99 + 3 * k) dX6_valueFrom_76 sh_96 (by decide) rfl (by omega) (by decide) (pm_at (by omega)) ?_
                refine xx_callV0 (pc := 77) (st := []) (Mo_pl (by omega)).1 (cC_mbecome (w := u) (m := 99 + 3 * (k + 1)) (p := 99 + 3 * k) (Mo_pl (by omega)) (Mo_pl (by omega)) (by omega)) kX4_become vX6_54_4 dX6_valueFrom_77 rfl rfl (Nat.le_of_ble_eq_true rfl) (pl_hR (d := m + 9) (by omega) (Nat.le_of_ble_eq_true rfl)) ⟨Nat.zero_le _, Nat.zero_le _⟩ (ic_kv (fun h_ qw44 => ?_))
                obtain ⟨w44, rfl, b0, b1, bj, gb⟩ := qw44
                have hm_w44 : Cs w44 (99 + 3 * (k + 1)) s := Cs.bc hp_u hIn b0 b1 bj
                have hN_w44 : Cn w44 s := hN_u.of (by rw [gb _ (by omega) (by omega) (by omega)]) (by rw [gb _ (by omega) (by omega) (by omega)]) (by rw [gb _ (by omega) (by omega) (by omega)]) (fun b _ _ _ _ _ _ _ _ => by rw [gb _ (by omega) (by omega) (by omega)])
                refine xx_aload_nP (pc := 80) dX6_valueFrom_80 2 rfl rfl ?_
                refine xx_getR (pc := 81) 39 dX6_valueFrom_81 sh_95 fX6_24_6 rfl rfl (by decide) ?_
                refine xx_aload_nP (pc := 84) dX6_valueFrom_84 4 rfl rfl ?_
                refine xx_iload (pc := 85) dX6_valueFrom_85 0 rfl ?_
                have hwl_x46 := mo_worth_le hIn (act := a) (by omega)
                refine xx_callV0 (pc := 87) (st := []) sh_39 (cC_goBy (w := w44) (m := 99 + 3 * (k + 1)) (act := a) (s := s) (Mo_pl (k := k + 1) (by omega)) hm_w44 hN_w44 hIn hRu (by omega)) kX5_goBy vX6_96_5 dX6_valueFrom_87 rfl rfl (Nat.le_of_ble_eq_true rfl) (pl_hR (d := m + 9) (by omega) (Nat.le_of_ble_eq_true rfl)) ⟨Nat.zero_le _, Nat.zero_le _⟩ (ic_ki (fun v48 h_ qw47 => ?_))
                obtain ⟨rfl, w47, rfl, gw47, hm_w47⟩ := qw47
                have hIn_w47 : In (mo_go s a) := In_go hIn (by omega) (by omega)
                have hRu_w47 : Ru (mo_go s a) := Ru_go hRu hIn (by omega)
                have hN_w47 : Cn w47 (mo_go s a) := (hN_w44.fm (Mo_pl (k := k + 1) (by omega)) gw47).go hIn (by omega)
                refine xx_istore (L' := [(6, .int (nI (mo_worth s a))), (5, .int (nI a)), (4, .int (nI v)), (0, ic_pt E 95), (1, .int (nI k)), (2, ic_pt E (99 + 3 * (k + 1))), (3, .int (nI (mo_idle s)))]) (pc := 90) dX6_valueFrom_90 (Nat.le_of_ble_eq_true rfl) rfl ?_
                refine xx_iload (pc := 92) dX6_valueFrom_92 0 rfl ?_
                refine xx_aload_nP (pc := 94) dX6_valueFrom_94 3 rfl rfl ?_
                refine xx_iload_n (pc := 95) dX6_valueFrom_95 4 rfl rfl ?_
                refine xx_iconst (pc := 96) dX6_valueFrom_96 cc_iconst_1 ?_
                refine xx_iaddN (pc := 97) dX6_valueFrom_97 ?_
                have gt1 := mo_go_1 s a
                have gt2 : mo_go s a 2 = s 2 := mo_go_r _ (by omega) (by omega) (by omega)
                have q95_ : w47 95 = u 95 := by rw [gw47 95 (by omega) (by omega) (by omega) (by omega) (by omega), gb 95 (by omega) (by omega) (by omega)]
                have gl_ := mo_gf_le (m := m) (k := k) hIn hRu (a := a) (by omega) (by omega)
                have gw_ : mo_worth s a + mo_gv m (mo_go s a) (k + 1) = mo_gf m s k a := rfl
                refine xx_callV0 (pc := 98) (st := [.int (nI (mo_worth s a))]) sh_95 (IH w47 (mo_go s a) (k + 1) hm_w47 hN_w47 hIn_w47 hRu_w47 (by rw [q95_]; omega) (by rw [q95_]; omega) (by omega)) kX6_valueFrom vX6_118_6 dX6_valueFrom_98 rfl rfl (Nat.le_of_ble_eq_true rfl) (pl_hR (d := m + 9) (by omega) (Nat.le_of_ble_eq_true rfl)) ⟨Nat.zero_le _, Nat.zero_le _⟩ (ic_ki (fun v50 h_ qw49 => ?_))
                obtain ⟨rfl, w49, rfl, fb_, -⟩ := qw49
                obtain ⟨fs_, e95_, e10_⟩ := Fg.step (by omega) gb gw47 fb_
                refine xx_iaddN (pc := 101) dX6_valueFrom_101 ?_
                refine xx_eqI (y := nI (mo_gf m s k a)) (rfl) ?_
                refine xx_istore (L' := [(6, .int (nI (mo_gf m s k a))), (5, .int (nI a)), (4, .int (nI v)), (0, ic_pt E 95), (1, .int (nI k)), (2, ic_pt E (99 + 3 * (k + 1))), (3, .int (nI (mo_idle s)))]) (pc := 102) dX6_valueFrom_102 (Nat.le_of_ble_eq_true rfl) rfl ?_
                refine xx_iload_n (pc := 104) dX6_valueFrom_104 4 rfl rfl ?_
                refine xx_iconst (pc := 105) dX6_valueFrom_105 cc_iconst_2 ?_
                refine xx_iremN (pc := 106) dX6_valueFrom_106 (by omega) (by omega) (by omega) ?_
                refine xx_if_neN (pc := 107) 125 dX6_valueFrom_107 rfl (by omega) (fun c51 => ?_) (fun c51 => ?_)
                · refine xx_iload (pc := 125) dX6_valueFrom_125 0 rfl ?_
                  refine xx_iload (pc := 127) dX6_valueFrom_127 2 rfl ?_
                  refine xx_icmp_geN (pc := 129) 136 dX6_valueFrom_129 rfl (by omega) (by omega) (fun c52 => ?_) (fun c52 => ?_)
                  · refine xx_iconst (pc := 136) dX6_valueFrom_136 cc_iconst_0 ?_
                    refine xx_istore (L' := [(7, .int (nI 0)), (6, .int (nI (mo_gf m s k a))), (5, .int (nI a)), (4, .int (nI v)), (0, ic_pt E 95), (1, .int (nI k)), (2, ic_pt E (99 + 3 * (k + 1))), (3, .int (nI (mo_idle s)))]) (pc := 137) dX6_valueFrom_137 (Nat.le_of_ble_eq_true rfl) rfl ?_
                    refine xx_iload (pc := 139) dX6_valueFrom_139 2 rfl ?_
                    refine xx_if_eqN (pc := 141) 149 dX6_valueFrom_141 rfl (by omega) (fun c53 => by exfalso; omega) (fun c53 => ?_)
                    refine xx_iload (pc := 144) dX6_valueFrom_144 0 rfl ?_
                    refine xx_if_eqN (pc := 146) 163 dX6_valueFrom_146 rfl (by omega) (fun c54 => ?_) (fun c54 => by exfalso; omega)
                    refine xx_iincN (L' := [(5, .int (nI (a + 1))), (7, .int (nI 0)), (6, .int (nI (mo_gf m s k a))), (4, .int (nI v)), (0, ic_pt E 95), (1, .int (nI k)), (2, ic_pt E (99 + 3 * (k + 1))), (3, .int (nI (mo_idle s)))]) (pc := 163) dX6_valueFrom_163 2 rfl cc_iconst_1 (Nat.le_of_ble_eq_true rfl) rfl ?_
                    refine xx_goto (pc := 166) 39 dX6_valueFrom_166 rfl ?_
                    have hk_ : mo_ab k (mo_gf m s k) (a + 1 - 1) = mo_ab k (mo_gf m s k) (a - 1) := by rw [show a + 1 - 1 = (a - 1) + 1 by omega, mo_ab, show a - 1 + 1 = a by omega, if_neg (by rw [← hv]; omega)]
                    exact xx_sub [0, 3, 4, 5, 6, 7] rfl (ih_ (a + 1) v w49 (by omega) (hfb.tr fs_) (by rw [hk_]; exact hv) (fun z => by rw [hk_, e10_]; exact ho z) (by omega))
                  · refine xx_iconst (pc := 132) dX6_valueFrom_132 cc_iconst_1 ?_
                    refine xx_goto (pc := 133) 137 dX6_valueFrom_133 rfl ?_
                    refine xx_istore (L' := [(7, .int (nI 1)), (6, .int (nI (mo_gf m s k a))), (5, .int (nI a)), (4, .int (nI v)), (0, ic_pt E 95), (1, .int (nI k)), (2, ic_pt E (99 + 3 * (k + 1))), (3, .int (nI (mo_idle s)))]) (pc := 137) dX6_valueFrom_137 (Nat.le_of_ble_eq_true rfl) rfl ?_
                    refine xx_iload (pc := 139) dX6_valueFrom_139 2 rfl ?_
                    refine xx_if_eqN (pc := 141) 149 dX6_valueFrom_141 rfl (by omega) (fun c55 => by exfalso; omega) (fun c55 => ?_)
                    refine xx_iload (pc := 144) dX6_valueFrom_144 0 rfl ?_
                    refine xx_if_eqN (pc := 146) 163 dX6_valueFrom_146 rfl (by omega) (fun c56 => by exfalso; omega) (fun c56 => ?_)
                    refine xx_iload (pc := 149) dX6_valueFrom_149 1 rfl ?_
                    refine xx_istore (L' := [(4, .int (nI (mo_gf m s k a))), (7, .int (nI 1)), (6, .int (nI (mo_gf m s k a))), (5, .int (nI a)), (0, ic_pt E 95), (1, .int (nI k)), (2, ic_pt E (99 + 3 * (k + 1))), (3, .int (nI (mo_idle s)))]) (pc := 151) dX6_valueFrom_151 (Nat.le_of_ble_eq_true rfl) rfl ?_
                    refine xx_iload_n (pc := 153) dX6_valueFrom_153 5 rfl rfl ?_
                    refine xx_if_neN (pc := 154) 163 dX6_valueFrom_154 rfl (by omega) (fun c57 => ?_) (fun c57 => ?_)
                    · refine xx_iincN (L' := [(5, .int (nI (a + 1))), (4, .int (nI (mo_gf m s k a))), (7, .int (nI 1)), (6, .int (nI (mo_gf m s k a))), (0, ic_pt E 95), (1, .int (nI k)), (2, ic_pt E (99 + 3 * (k + 1))), (3, .int (nI (mo_idle s)))]) (pc := 163) dX6_valueFrom_163 3 rfl cc_iconst_1 (Nat.le_of_ble_eq_true rfl) rfl ?_
                      refine xx_goto (pc := 166) 39 dX6_valueFrom_166 rfl ?_
                      have hk_ : mo_ab k (mo_gf m s k) (a + 1 - 1) = a := by rw [show a + 1 - 1 = (a - 1) + 1 by omega, mo_ab, show a - 1 + 1 = a by omega, if_pos (by rw [← hv]; omega)]
                      exact xx_sub [0, 1, 4, 5, 6, 7] rfl (ih_ (a + 1) _ w49 (by omega) (hfb.tr fs_) (by rw [hk_]) (fun z => absurd z (by omega)) (by omega))
                    · refine xx_aload_nP (pc := 157) dX6_valueFrom_157 4 rfl rfl ?_
                      refine xx_iload (pc := 158) dX6_valueFrom_158 3 rfl ?_
                      refine xx_putN (pc := 160) dX6_valueFrom_160 sh_95 fX6_115_6 rfl rfl ?_
                      refine xx_nw (fun w58 ew58 => ?_)
                      have fo_ : Fg k w49 w58 := ⟨fun q _ _ h3 _ => by rw [ew58, wu_row _ _ _ h3], fun j hj => by rw [ew58, wu_k _ _ _ _ hj], fun z => absurd (by omega) z⟩
                      have v10_ : w58 95 10 = a := by rw [ew58, wu_s]
                      refine xx_iincN (L' := [(5, .int (nI (a + 1))), (4, .int (nI (mo_gf m s k a))), (7, .int (nI 1)), (6, .int (nI (mo_gf m s k a))), (0, ic_pt E 95), (1, .int (nI k)), (2, ic_pt E (99 + 3 * (k + 1))), (3, .int (nI (mo_idle s)))]) (pc := 163) dX6_valueFrom_163 3 rfl cc_iconst_1 (Nat.le_of_ble_eq_true rfl) rfl ?_
                      refine xx_goto (pc := 166) 39 dX6_valueFrom_166 rfl ?_
                      have hk_ : mo_ab k (mo_gf m s k) (a + 1 - 1) = a := by rw [show a + 1 - 1 = (a - 1) + 1 by omega, mo_ab, show a - 1 + 1 = a by omega, if_pos (by rw [← hv]; omega)]
                      exact xx_sub [0, 1, 4, 5, 6, 7] rfl (ih_ (a + 1) _ w58 (by omega) ((hfb.tr fs_).tr fo_) (by rw [hk_]) (fun _ => by rw [hk_]; exact v10_) (by omega))
                · refine xx_iload (pc := 110) dX6_valueFrom_110 0 rfl ?_
                  refine xx_iload (pc := 112) dX6_valueFrom_112 2 rfl ?_
                  refine xx_icmp_leN (pc := 114) 121 dX6_valueFrom_114 rfl (by omega) (by omega) (fun c59 => ?_) (fun c59 => ?_)
                  · refine xx_iconst (pc := 121) dX6_valueFrom_121 cc_iconst_0 ?_
                    refine xx_goto (pc := 122) 137 dX6_valueFrom_122 rfl ?_
                    refine xx_istore (L' := [(7, .int (nI 0)), (6, .int (nI (mo_gf m s k a))), (5, .int (nI a)), (4, .int (nI v)), (0, ic_pt E 95), (1, .int (nI k)), (2, ic_pt E (99 + 3 * (k + 1))), (3, .int (nI (mo_idle s)))]) (pc := 137) dX6_valueFrom_137 (Nat.le_of_ble_eq_true rfl) rfl ?_
                    refine xx_iload (pc := 139) dX6_valueFrom_139 2 rfl ?_
                    refine xx_if_eqN (pc := 141) 149 dX6_valueFrom_141 rfl (by omega) (fun c60 => by exfalso; omega) (fun c60 => ?_)
                    refine xx_iload (pc := 144) dX6_valueFrom_144 0 rfl ?_
                    refine xx_if_eqN (pc := 146) 163 dX6_valueFrom_146 rfl (by omega) (fun c61 => ?_) (fun c61 => by exfalso; omega)
                    refine xx_iincN (L' := [(5, .int (nI (a + 1))), (7, .int (nI 0)), (6, .int (nI (mo_gf m s k a))), (4, .int (nI v)), (0, ic_pt E 95), (1, .int (nI k)), (2, ic_pt E (99 + 3 * (k + 1))), (3, .int (nI (mo_idle s)))]) (pc := 163) dX6_valueFrom_163 2 rfl cc_iconst_1 (Nat.le_of_ble_eq_true rfl) rfl ?_
                    refine xx_goto (pc := 166) 39 dX6_valueFrom_166 rfl ?_
                    have hk_ : mo_ab k (mo_gf m s k) (a + 1 - 1) = mo_ab k (mo_gf m s k) (a - 1) := by rw [show a + 1 - 1 = (a - 1) + 1 by omega, mo_ab, show a - 1 + 1 = a by omega, if_neg (by rw [← hv]; omega)]
                    exact xx_sub [0, 3, 4, 5, 6, 7] rfl (ih_ (a + 1) v w49 (by omega) (hfb.tr fs_) (by rw [hk_]; exact hv) (fun z => by rw [hk_, e10_]; exact ho z) (by omega))
                  · refine xx_iconst (pc := 117) dX6_valueFrom_117 cc_iconst_1 ?_
                    refine xx_goto (pc := 118) 137 dX6_valueFrom_118 rfl ?_
                    refine xx_istore (L' := [(7, .int (nI 1)), (6, .int (nI (mo_gf m s k a))), (5, .int (nI a)), (4, .int (nI v)), (0, ic_pt E 95), (1, .int (nI k)), (2, ic_pt E (99 + 3 * (k + 1))), (3, .int (nI (mo_idle s)))]) (pc := 137) dX6_valueFrom_137 (Nat.le_of_ble_eq_true rfl) rfl ?_
                    refine xx_iload (pc := 139) dX6_valueFrom_139 2 rfl ?_
                    refine xx_if_eqN (pc := 141) 149 dX6_valueFrom_141 rfl (by omega) (fun c62 => by exfalso; omega) (fun c62 => ?_)
                    refine xx_iload (pc := 144) dX6_valueFrom_144 0 rfl ?_
                    refine xx_if_eqN (pc := 146) 163 dX6_valueFrom_146 rfl (by omega) (fun c63 => by exfalso; omega) (fun c63 => ?_)
                    refine xx_iload (pc := 149) dX6_valueFrom_149 1 rfl ?_
                    refine xx_istore (L' := [(4, .int (nI (mo_gf m s k a))), (7, .int (nI 1)), (6, .int (nI (mo_gf m s k a))), (5, .int (nI a)), (0, ic_pt E 95), (1, .int (nI k)), (2, ic_pt E (99 + 3 * (k + 1))), (3, .int (nI (mo_idle s)))]) (pc := 151) dX6_valueFrom_151 (Nat.le_of_ble_eq_true rfl) rfl ?_
                    refine xx_iload_n (pc := 153) dX6_valueFrom_153 5 rfl rfl ?_
                    refine xx_if_neN (pc := 154) 163 dX6_valueFrom_154 rfl (by omega) (fun c64 => ?_) (fun c64 => ?_)
                    · refine xx_iincN (L' := [(5, .int (nI (a + 1))), (4, .int (nI (mo_gf m s k a))), (7, .int (nI 1)), (6, .int (nI (mo_gf m s k a))), (0, ic_pt E 95), (1, .int (nI k)), (2, ic_pt E (99 + 3 * (k + 1))), (3, .int (nI (mo_idle s)))]) (pc := 163) dX6_valueFrom_163 3 rfl cc_iconst_1 (Nat.le_of_ble_eq_true rfl) rfl ?_
                      refine xx_goto (pc := 166) 39 dX6_valueFrom_166 rfl ?_
                      have hk_ : mo_ab k (mo_gf m s k) (a + 1 - 1) = a := by rw [show a + 1 - 1 = (a - 1) + 1 by omega, mo_ab, show a - 1 + 1 = a by omega, if_pos (by rw [← hv]; omega)]
                      exact xx_sub [0, 1, 4, 5, 6, 7] rfl (ih_ (a + 1) _ w49 (by omega) (hfb.tr fs_) (by rw [hk_]) (fun z => absurd z (by omega)) (by omega))
                    · refine xx_aload_nP (pc := 157) dX6_valueFrom_157 4 rfl rfl ?_
                      refine xx_iload (pc := 158) dX6_valueFrom_158 3 rfl ?_
                      refine xx_putN (pc := 160) dX6_valueFrom_160 sh_95 fX6_115_6 rfl rfl ?_
                      refine xx_nw (fun w65 ew65 => ?_)
                      have fo_ : Fg k w49 w65 := ⟨fun q _ _ h3 _ => by rw [ew65, wu_row _ _ _ h3], fun j hj => by rw [ew65, wu_k _ _ _ _ hj], fun z => absurd (by omega) z⟩
                      have v10_ : w65 95 10 = a := by rw [ew65, wu_s]
                      refine xx_iincN (L' := [(5, .int (nI (a + 1))), (4, .int (nI (mo_gf m s k a))), (7, .int (nI 1)), (6, .int (nI (mo_gf m s k a))), (0, ic_pt E 95), (1, .int (nI k)), (2, ic_pt E (99 + 3 * (k + 1))), (3, .int (nI (mo_idle s)))]) (pc := 163) dX6_valueFrom_163 3 rfl cc_iconst_1 (Nat.le_of_ble_eq_true rfl) rfl ?_
                      refine xx_goto (pc := 166) 39 dX6_valueFrom_166 rfl ?_
                      have hk_ : mo_ab k (mo_gf m s k) (a + 1 - 1) = a := by rw [show a + 1 - 1 = (a - 1) + 1 by omega, mo_ab, show a - 1 + 1 = a by omega, if_pos (by rw [← hv]; omega)]
                      exact xx_sub [0, 1, 4, 5, 6, 7] rfl (ih_ (a + 1) _ w65 (by omega) ((hfb.tr fs_).tr fo_) (by rw [hk_]) (fun _ => by rw [hk_]; exact v10_) (by omega))
              · refine xx_goto (pc := 67) 163 dX6_valueFrom_67 rfl ?_
                refine xx_iincN (L' := [(5, .int (nI (a + 1))), (4, .int (nI v)), (0, ic_pt E 95), (1, .int (nI k)), (2, ic_pt E (99 + 3 * (k + 1))), (3, .int (nI (mo_idle s)))]) (pc := 163) dX6_valueFrom_163 0 rfl cc_iconst_1 (Nat.le_of_ble_eq_true rfl) rfl ?_
                refine xx_goto (pc := 166) 39 dX6_valueFrom_166 rfl ?_
                have hdd : mo_deed s (a - 1) = 2 := by by_cases z : mo_deed s (a - 1) = 2; exact z; exfalso; rw [if_neg (fun y => z (of_decide_eq_true y.2))] at hid_; omega
                have hai := ab_i (m := m) (k := k) hIn (b := a - 1) (by omega) hdd
                exact xx_sub [0, 1, 2, 3, 4, 5] rfl (ih_ (a + 1) v u (by omega) hfb (by rw [show a + 1 - 1 = (a - 1) + 1 by omega, hai]; exact hv) (by rw [show a + 1 - 1 = (a - 1) + 1 by omega, hai]; exact ho) (by omega))
        exact xx_sub [0, 1, 6, 7, 5, 4] rfl (lp (s 0 + 2) 1 _ w20 (by omega) ((hf0_.tr fs_).tr fo_) rfl (fun _ => v10_) (by omega))
  · refine xx_iload (pc := 110) dX6_valueFrom_110 0 rfl ?_
    refine xx_iload (pc := 112) dX6_valueFrom_112 2 rfl ?_
    refine xx_icmp_leN (pc := 114) 121 dX6_valueFrom_114 rfl (by omega) (by omega) (fun c21 => ?_) (fun c21 => ?_)
    · refine xx_iconst (pc := 121) dX6_valueFrom_121 cc_iconst_0 ?_
      refine xx_goto (pc := 122) 137 dX6_valueFrom_122 rfl ?_
      refine xx_istore (L' := [(7, .int (nI 0)), (6, .int (nI (mo_gf m s k 0))), (5, .int (nI 0)), (4, .int (nI 0)), (3, .int (nI (mo_idle s))), (2, ic_pt E (99 + 3 * (k + 1))), (0, ic_pt E 95), (1, .int (nI k))]) (pc := 137) dX6_valueFrom_137 (Nat.le_of_ble_eq_true rfl) rfl ?_
      refine xx_iload (pc := 139) dX6_valueFrom_139 2 rfl ?_
      refine xx_if_eqN (pc := 141) 149 dX6_valueFrom_141 rfl (by omega) (fun c22 => ?_) (fun c22 => by exfalso; omega)
      refine xx_iload (pc := 149) dX6_valueFrom_149 1 rfl ?_
      refine xx_istore (L' := [(4, .int (nI (mo_gf m s k 0))), (7, .int (nI 0)), (6, .int (nI (mo_gf m s k 0))), (5, .int (nI 0)), (3, .int (nI (mo_idle s))), (2, ic_pt E (99 + 3 * (k + 1))), (0, ic_pt E 95), (1, .int (nI k))]) (pc := 151) dX6_valueFrom_151 (Nat.le_of_ble_eq_true rfl) rfl ?_
      refine xx_iload_n (pc := 153) dX6_valueFrom_153 7 rfl rfl ?_
      refine xx_if_neN (pc := 154) 163 dX6_valueFrom_154 rfl (by omega) (fun c23 => ?_) (fun c23 => ?_)
      · refine xx_iincN (L' := [(5, .int (nI 1)), (4, .int (nI (mo_gf m s k 0))), (7, .int (nI 0)), (6, .int (nI (mo_gf m s k 0))), (3, .int (nI (mo_idle s))), (2, ic_pt E (99 + 3 * (k + 1))), (0, ic_pt E 95), (1, .int (nI k))]) (pc := 163) dX6_valueFrom_163 3 rfl cc_iconst_1 (Nat.le_of_ble_eq_true rfl) rfl ?_
        refine xx_goto (pc := 166) 39 dX6_valueFrom_166 rfl ?_
        have hf0_ : Fg k w w2 := ⟨fun q h1 h2 _ _ => gw2 q h1 h2, fun j _ => by rw [gw2 95 (by omega) (by omega)], fun _ => by rw [gw2 95 (by omega) (by omega)]⟩
        have lp : ∀ (n_ : Nat) (a v : Nat) (u : ic_w), 1 ≤ a ∧ a ≤ s 0 + 1 → Fg k w u → v = mo_gf m s k (mo_ab k (mo_gf m s k) (a - 1)) → (k = 0 → u 95 10 = mo_ab k (mo_gf m s k) (a - 1)) → s 0 + 1 - a < n_ → xx l E (ic_fr E mX6_valueFrom (m + 9) 0 0 False SHs (ic_qi (fun v_ h_ => v_ = nI (mo_gv (m + 1) s k) ∧ ∃ w2, h_ = hn w2 ∧ Fg k w w2 ∧ (k = 0 → ∀ m2, m + 1 = m2 + 1 → s 1 < s 2 → w2 95 10 = mo_ab 0 (mo_gf m2 s 0) (s 0))))) (0, 0) 39 [(5, .int (nI a)), (4, .int (nI v)), (0, ic_pt E 95), (1, .int (nI k)), (2, ic_pt E (99 + 3 * (k + 1))), (3, .int (nI (mo_idle s)))] [] SHs (hn u) := by
          intro n_
          induction n_ with
          | zero => intro a v u ha hfb hv ho hm_; exact absurd hm_ (Nat.not_lt_zero _)
          | succ n_ ih_ =>
            intro a v u ha hfb hv ho hm_
            have hN_u : Cn u s := hN.fg hfb
            have n1_u : u 39 10 = s 0 := hN_u.n
            have hp_u : Cs u (99 + 3 * k) s := hm.of (hfb.1 _ (by omega) (by omega) (by omega) (by omega)) (hfb.1 _ (by omega) (by omega) (by omega) (by omega)) (hfb.1 _ (by omega) (by omega) (by omega) (by omega))
            have u4_ := hfb.2.1 4 (by omega)
            have hal := mo_ab_le k (mo_gf m s k) (a - 1)
            have hvl := mo_gf_le (m := m) (k := k) hIn hRu (a := mo_ab k (mo_gf m s k) (a - 1)) (by omega) (by omega)
            refine xx_iload (pc := 39) dX6_valueFrom_39 0 rfl ?_
            refine xx_aload_nP (pc := 41) dX6_valueFrom_41 2 rfl rfl ?_
            refine xx_getR (pc := 42) 39 dX6_valueFrom_42 sh_95 fX6_24_6 rfl rfl (by decide) ?_
            refine xx_getN (pc := 45) dX6_valueFrom_45 sh_39 fX6_89_5 rfl ?_
            refine xx_icmp_gtN (pc := 48) 169 dX6_valueFrom_48 rfl (by omega) (by omega) (fun c44 => ?_) (fun c44 => ?_)
            · refine xx_iload (pc := 169) dX6_valueFrom_169 1 rfl ?_
              exact xx_iret (pc := 171) dX6_valueFrom_171 rfl (rfl) (Nat.le_refl _) (Nat.le_refl _) (ic_ri ⟨by rw [mo_gv_s, if_neg (by omega), hv, show a - 1 = s 0 by omega], u, rfl, hfb, fun hk0 m2 e _ => by obtain rfl : m2 = m := (by omega); have := ho hk0; rw [show a - 1 = s 0 by omega] at this; rw [this, hk0]⟩)
            · refine xx_iload (pc := 51) dX6_valueFrom_51 0 rfl ?_
              refine xx_if_leN (pc := 53) 70 dX6_valueFrom_53 rfl (by omega) (fun c45 => by exfalso; omega) (fun c45 => ?_)
              have hid_ : mo_idle s / 2 ^ (a - 1) % 2 = if a - 1 < s 0 ∧ decide (mo_deed s (a - 1) = 2) = true then 1 else 0 := mo_set_bit (fun q => decide (mo_deed s q = 2)) (a - 1) (s 0)
              have hil_ : mo_idle s < 64 := Nat.lt_of_lt_of_le (mo_set_lt _ _) (mo_p2 hn0)
              refine xx_iload_n (pc := 56) dX6_valueFrom_56 5 rfl rfl ?_
              refine xx_iload (pc := 57) dX6_valueFrom_57 0 rfl ?_
              refine xx_iconst (pc := 59) dX6_valueFrom_59 cc_iconst_1 ?_
              refine xx_isubN (pc := 60) dX6_valueFrom_60 (by omega) ?_
              refine xx_callSN0 (pc := 61) (st := []) (cC_has (w := u) (t := mo_idle s) (k := a - 1) (by omega) (by omega)) kX11_has nX6_92 (by exact s_X11_has) dX6_valueFrom_61 rfl rfl (Nat.le_of_ble_eq_true rfl) (pl_hR (d := m + 9) (by omega) (Nat.le_of_ble_eq_true rfl)) ⟨Nat.zero_le _, Nat.zero_le _⟩ (ic_ke ?_)
              refine xx_if_eqB (pc := 64) 70 dX6_valueFrom_64 rfl (fun c46 => ?_) (fun c46 => ?_)
              · refine xx_aload_nP (pc := 70) dX6_valueFrom_70 4 rfl rfl ?_
                refine xx_aload_nP (pc := 71) dX6_valueFrom_71 2 rfl rfl ?_
                refine xx_getR (pc := 72) 96 dX6_valueFrom_72 sh_95 fX6_11_6 rfl rfl (by decide) ?_
                refine xx_iload_n (pc := 75) dX6_valueFrom_75 3 rfl rfl ?_
                refine xx_aald (pc := 76) k (99 + 3 * k) dX6_valueFrom_76 sh_96 (by decide) rfl (by omega) (by decide) (pm_at (by omega)) ?_
                refine xx_callV0 (pc := 77) (st := []) (Mo_pl (by omega)).1 (cC_mbecome (w := u) (m := 99 + 3 * (k + 1)) (p := 99 + 3 * k) (Mo_pl (by omega)) (Mo_pl (by omega)) (by omega)) kX4_become vX6_54_4 dX6_valueFrom_77 rfl rfl (Nat.le_of_ble_eq_true rfl) (pl_hR (d := m + 9) (by omega) (Nat.le_of_ble_eq_true rfl)) ⟨Nat.zero_le _, Nat.zero_le _⟩ (ic_kv (fun h_ qw47 => ?_))
                obtain ⟨w47, rfl, b0, b1, bj, gb⟩ := qw47
                have hm_w47 : Cs w47 (99 + 3 * (k + 1)) s := Cs.bc hp_u hIn b0 b1 bj
                have hN_w47 : Cn w47 s := hN_u.of (by rw [gb _ (by omega) (by omega) (by omega)]) (by rw [gb _ (by omega) (by omega) (by omega)]) (by rw [gb _ (by omega) (by omega) (by omega)]) (fun b _ _ _ _ _ _ _ _ => by rw [gb _ (by omega) (by omega) (by omega)])
                refine xx_aload_nP (pc := 80) dX6_valueFrom_80 2 rfl rfl ?_
                refine xx_getR (pc := 81) 39 dX6_valueFrom_81 sh_95 fX6_24_6 rfl rfl (by decide) ?_
                refine xx_aload_nP (pc := 84) dX6_valueFrom_84 4 rfl rfl ?_
                refine xx_iload (pc := 85) dX6_valueFrom_85 0 rfl ?_
                have hwl_x49 := mo_worth_le hIn (act := a) (by omega)
                refine xx_callV0 (pc := 87) (st := []) sh_39 (cC_goBy (w := w47) (m := 99 + 3 * (k + 1)) (act := a) (s := s) (Mo_pl (k := k + 1) (by omega)) hm_w47 hN_w47 hIn hRu (by omega)) kX5_goBy vX6_96_5 dX6_valueFrom_87 rfl rfl (Nat.le_of_ble_eq_true rfl) (pl_hR (d := m + 9) (by omega) (Nat.le_of_ble_eq_true rfl)) ⟨Nat.zero_le _, Nat.zero_le _⟩ (ic_ki (fun v51 h_ qw50 => ?_))
                obtain ⟨rfl, w50, rfl, gw50, hm_w50⟩ := qw50
                have hIn_w50 : In (mo_go s a) := In_go hIn (by omega) (by omega)
                have hRu_w50 : Ru (mo_go s a) := Ru_go hRu hIn (by omega)
                have hN_w50 : Cn w50 (mo_go s a) := (hN_w47.fm (Mo_pl (k := k + 1) (by omega)) gw50).go hIn (by omega)
                refine xx_istore (L' := [(6, .int (nI (mo_worth s a))), (5, .int (nI a)), (4, .int (nI v)), (0, ic_pt E 95), (1, .int (nI k)), (2, ic_pt E (99 + 3 * (k + 1))), (3, .int (nI (mo_idle s)))]) (pc := 90) dX6_valueFrom_90 (Nat.le_of_ble_eq_true rfl) rfl ?_
                refine xx_iload (pc := 92) dX6_valueFrom_92 0 rfl ?_
                refine xx_aload_nP (pc := 94) dX6_valueFrom_94 3 rfl rfl ?_
                refine xx_iload_n (pc := 95) dX6_valueFrom_95 4 rfl rfl ?_
                refine xx_iconst (pc := 96) dX6_valueFrom_96 cc_iconst_1 ?_
                refine xx_iaddN (pc := 97) dX6_valueFrom_97 ?_
                have gt1 := mo_go_1 s a
                have gt2 : mo_go s a 2 = s 2 := mo_go_r _ (by omega) (by omega) (by omega)
                have q95_ : w50 95 = u 95 := by rw [gw50 95 (by omega) (by omega) (by omega) (by omega) (by omega), gb 95 (by omega) (by omega) (by omega)]
                have gl_ := mo_gf_le (m := m) (k := k) hIn hRu (a := a) (by omega) (by omega)
                have gw_ : mo_worth s a + mo_gv m (mo_go s a) (k + 1) = mo_gf m s k a := rfl
                refine xx_callV0 (pc := 98) (st := [.int (nI (mo_worth s a))]) sh_95 (IH w50 (mo_go s a) (k + 1) hm_w50 hN_w50 hIn_w50 hRu_w50 (by rw [q95_]; omega) (by rw [q95_]; omega) (by omega)) kX6_valueFrom vX6_118_6 dX6_valueFrom_98 rfl rfl (Nat.le_of_ble_eq_true rfl) (pl_hR (d := m + 9) (by omega) (Nat.le_of_ble_eq_true rfl)) ⟨Nat.zero_le _, Nat.zero_le _⟩ (ic_ki (fun v53 h_ qw52 => ?_))
                obtain ⟨rfl, w52, rfl, fb_, -⟩ := qw52
                obtain ⟨fs_, e95_, e10_⟩ := Fg.step (by omega) gb gw50 fb_
                refine xx_iaddN (pc := 101) dX6_valueFrom_101 ?_
                refine xx_eqI (y := nI (mo_gf m s k a)) (rfl) ?_
                refine xx_istore (L' := [(6, .int (nI (mo_gf m s k a))), (5, .int (nI a)), (4, .int (nI v)), (0, ic_pt E 95), (1, .int (nI k)), (2, ic_pt E (99 + 3 * (k + 1))), (3, .int (nI (mo_idle s)))]) (pc := 102) dX6_valueFrom_102 (Nat.le_of_ble_eq_true rfl) rfl ?_
                refine xx_iload_n (pc := 104) dX6_valueFrom_104 4 rfl rfl ?_
                refine xx_iconst (pc := 105) dX6_valueFrom_105 cc_iconst_2 ?_
                refine xx_iremN (pc := 106) dX6_valueFrom_106 (by omega) (by omega) (by omega) ?_
                refine xx_if_neN (pc := 107) 125 dX6_valueFrom_107 rfl (by omega) (fun c54 => ?_) (fun c54 => ?_)
                · refine xx_iload (pc := 125) dX6_valueFrom_125 0 rfl ?_
                  refine xx_iload (pc := 127) dX6_valueFrom_127 2 rfl ?_
                  refine xx_icmp_geN (pc := 129) 136 dX6_valueFrom_129 rfl (by omega) (by omega) (fun c55 => ?_) (fun c55 => ?_)
                  · refine xx_iconst (pc := 136) dX6_valueFrom_136 cc_iconst_0 ?_
                    refine xx_istore (L' := [(7, .int (nI 0)), (6, .int (nI (mo_gf m s k a))), (5, .int (nI a)), (4, .int (nI v)), (0, ic_pt E 95), (1, .int (nI k)), (2, ic_pt E (99 + 3 * (k + 1))), (3, .int (nI (mo_idle s)))]) (pc := 137) dX6_valueFrom_137 (Nat.le_of_ble_eq_true rfl) rfl ?_
                    refine xx_iload (pc := 139) dX6_valueFrom_139 2 rfl ?_
                    refine xx_if_eqN (pc := 141) 149 dX6_valueFrom_141 rfl (by omega) (fun c56 => by exfalso; omega) (fun c56 => ?_)
                    refine xx_iload (pc := 144) dX6_valueFrom_144 0 rfl ?_
                    refine xx_if_eqN (pc := 146) 163 dX6_valueFrom_146 rfl (by omega) (fun c57 => ?_) (fun c57 => by exfalso; omega)
                    refine xx_iincN (L' := [(5, .int (nI (a + 1))), (7, .int (nI 0)), (6, .int (nI (mo_gf m s k a))), (4, .int (nI v)), (0, ic_pt E 95), (1, .int (nI k)), (2, ic_pt E (99 + 3 * (k + 1))), (3, .int (nI (mo_idle s)))]) (pc := 163) dX6_valueFrom_163 2 rfl cc_iconst_1 (Nat.le_of_ble_eq_true rfl) rfl ?_
                    refine xx_goto (pc := 166) 39 dX6_valueFrom_166 rfl ?_
                    have hk_ : mo_ab k (mo_gf m s k) (a + 1 - 1) = mo_ab k (mo_gf m s k) (a - 1) := by rw [show a + 1 - 1 = (a - 1) + 1 by omega, mo_ab, show a - 1 + 1 = a by omega, if_neg (by rw [← hv]; omega)]
                    exact xx_sub [0, 3, 4, 5, 6, 7] rfl (ih_ (a + 1) v w52 (by omega) (hfb.tr fs_) (by rw [hk_]; exact hv) (fun z => by rw [hk_, e10_]; exact ho z) (by omega))
                  · refine xx_iconst (pc := 132) dX6_valueFrom_132 cc_iconst_1 ?_
                    refine xx_goto (pc := 133) 137 dX6_valueFrom_133 rfl ?_
                    refine xx_istore (L' := [(7, .int (nI 1)), (6, .int (nI (mo_gf m s k a))), (5, .int (nI a)), (4, .int (nI v)), (0, ic_pt E 95), (1, .int (nI k)), (2, ic_pt E (99 + 3 * (k + 1))), (3, .int (nI (mo_idle s)))]) (pc := 137) dX6_valueFrom_137 (Nat.le_of_ble_eq_true rfl) rfl ?_
                    refine xx_iload (pc := 139) dX6_valueFrom_139 2 rfl ?_
                    refine xx_if_eqN (pc := 141) 149 dX6_valueFrom_141 rfl (by omega) (fun c58 => by exfalso; omega) (fun c58 => ?_)
                    refine xx_iload (pc := 144) dX6_valueFrom_144 0 rfl ?_
                    refine xx_if_eqN (pc := 146) 163 dX6_valueFrom_146 rfl (by omega) (fun c59 => by exfalso; omega) (fun c59 => ?_)
                    refine xx_iload (pc := 149) dX6_valueFrom_149 1 rfl ?_
                    refine xx_istore (L' := [(4, .int (nI (mo_gf m s k a))), (7, .int (nI 1)), (6, .int (nI (mo_gf m s k a))), (5, .int (nI a)), (0, ic_pt E 95), (1, .int (nI k)), (2, ic_pt E (99 + 3 * (k + 1))), (3, .int (nI (mo_idle s)))]) (pc := 151) dX6_valueFrom_151 (Nat.le_of_ble_eq_true rfl) rfl ?_
                    refine xx_iload_n (pc := 153) dX6_valueFrom_153 5 rfl rfl ?_
                    refine xx_if_neN (pc := 154) 163 dX6_valueFrom_154 rfl (by omega) (fun c60 => ?_) (fun c60 => ?_)
                    · refine xx_iincN (L' := [(5, .int (nI (a + 1))), (4, .int (nI (mo_gf m s k a))), (7, .int (nI 1)), (6, .int (nI (mo_gf m s k a))), (0, ic_pt E 95), (1, .int (nI k)), (2, ic_pt E (99 + 3 * (k + 1))), (3, .int (nI (mo_idle s)))]) (pc := 163) dX6_valueFrom_163 3 rfl cc_iconst_1 (Nat.le_of_ble_eq_true rfl) rfl ?_
                      refine xx_goto (pc := 166) 39 dX6_valueFrom_166 rfl ?_
                      have hk_ : mo_ab k (mo_gf m s k) (a + 1 - 1) = a := by rw [show a + 1 - 1 = (a - 1) + 1 by omega, mo_ab, show a - 1 + 1 = a by omega, if_pos (by rw [← hv]; omega)]
                      exact xx_sub [0, 1, 4, 5, 6, 7] rfl (ih_ (a + 1) _ w52 (by omega) (hfb.tr fs_) (by rw [hk_]) (fun z => absurd z (by omega)) (by omega))
                    · refine xx_aload_nP (pc := 157) dX6_valueFrom_157 4 rfl rfl ?_
                      refine xx_iload (pc := 158) dX6_valueFrom_158 3 rfl ?_
                      refine xx_putN (pc := 160) dX6_valueFrom_160 sh_95 fX6_115_6 rfl rfl ?_
                      refine xx_nw (fun w61 ew61 => ?_)
                      have fo_ : Fg k w52 w61 := ⟨fun q _ _ h3 _ => by rw [ew61, wu_row _ _ _ h3], fun j hj => by rw [ew61, wu_k _ _ _ _ hj], fun z => absurd (by omega) z⟩
                      have v10_ : w61 95 10 = a := by rw [ew61, wu_s]
                      refine xx_iincN (L' := [(5, .int (nI (a + 1))), (4, .int (nI (mo_gf m s k a))), (7, .int (nI 1)), (6, .int (nI (mo_gf m s k a))), (0, ic_pt E 95), (1, .int (nI k)), (2, ic_pt E (99 + 3 * (k + 1))), (3, .int (nI (mo_idle s)))]) (pc := 163) dX6_valueFrom_163 3 rfl cc_iconst_1 (Nat.le_of_ble_eq_true rfl) rfl ?_
                      refine xx_goto (pc := 166) 39 dX6_valueFrom_166 rfl ?_
                      have hk_ : mo_ab k (mo_gf m s k) (a + 1 - 1) = a := by rw [show a + 1 - 1 = (a - 1) + 1 by omega, mo_ab, show a - 1 + 1 = a by omega, if_pos (by rw [← hv]; omega)]
                      exact xx_sub [0, 1, 4, 5, 6, 7] rfl (ih_ (a + 1) _ w61 (by omega) ((hfb.tr fs_).tr fo_) (by rw [hk_]) (fun _ => by rw [hk_]; exact v10_) (by omega))
                · refine xx_iload (pc := 110) dX6_valueFrom_110 0 rfl ?_
                  refine xx_iload (pc := 112) dX6_valueFrom_112 2 rfl ?_
                  refine xx_icmp_leN (pc := 114) 121 dX6_valueFrom_114 rfl (by omega) (by omega) (fun c62 => ?_) (fun c62 => ?_)
                  · refine xx_iconst (pc := 121) dX6_valueFrom_121 cc_iconst_0 ?_
                    refine xx_goto (pc := 122) 137 dX6_valueFrom_122 rfl ?_
                    refine xx_istore (L' := [(7, .int (nI 0)), (6, .int (nI (mo_gf m s k a))), (5, .int (nI a)), (4, .int (nI v)), (0, ic_pt E 95), (1, .int (nI k)), (2, ic_pt E (99 + 3 * (k + 1))), (3, .int (nI (mo_idle s)))]) (pc := 137) dX6_valueFrom_137 (Nat.le_of_ble_eq_true rfl) rfl ?_
                    refine xx_iload (pc := 139) dX6_valueFrom_139 2 rfl ?_
                    refine xx_if_eqN (pc := 141) 149 dX6_valueFrom_141 rfl (by omega) (fun c63 => by exfalso; omega) (fun c63 => ?_)
                    refine xx_iload (pc := 144) dX6_valueFrom_144 0 rfl ?_
                    refine xx_if_eqN (pc := 146) 163 dX6_valueFrom_146 rfl (by omega) (fun c64 => ?_) (fun c64 => by exfalso; omega)
                    refine xx_iincN (L' := [(5, .int (nI (a + 1))), (7, .int (nI 0)), (6, .int (nI (mo_gf m s k a))), (4, .int (nI v)), (0, ic_pt E 95), (1, .int (nI k)), (2, ic_pt E (99 + 3 * (k + 1))), (3, .int (nI (mo_idle s)))]) (pc := 163) dX6_valueFrom_163 2 rfl cc_iconst_1 (Nat.le_of_ble_eq_true rfl) rfl ?_
                    refine xx_goto (pc := 166) 39 dX6_valueFrom_166 rfl ?_
                    have hk_ : mo_ab k (mo_gf m s k) (a + 1 - 1) = mo_ab k (mo_gf m s k) (a - 1) := by rw [show a + 1 - 1 = (a - 1) + 1 by omega, mo_ab, show a - 1 + 1 = a by omega, if_neg (by rw [← hv]; omega)]
                    exact xx_sub [0, 3, 4, 5, 6, 7] rfl (ih_ (a + 1) v w52 (by omega) (hfb.tr fs_) (by rw [hk_]; exact hv) (fun z => by rw [hk_, e10_]; exact ho z) (by omega))
                  · refine xx_iconst (pc := 117) dX6_valueFrom_117 cc_iconst_1 ?_
                    refine xx_goto (pc := 118) 137 dX6_valueFrom_118 rfl ?_
                    refine xx_istore (L' := [(7, .int (nI 1)), (6, .int (nI (mo_gf m s k a))), (5, .int (nI a)), (4, .int (nI v)), (0, ic_pt E 95), (1, .int (nI k)), (2, ic_pt E (99 + 3 * (k + 1))), (3, .int (nI (mo_idle s)))]) (pc := 137) dX6_valueFrom_137 (Nat.le_of_ble_eq_true rfl) rfl ?_
                    refine xx_iload (pc := 139) dX6_valueFrom_139 2 rfl ?_
                    refine xx_if_eqN (pc := 141) 149 dX6_valueFrom_141 rfl (by omega) (fun c65 => by exfalso; omega) (fun c65 => ?_)
                    refine xx_iload (pc := 144) dX6_valueFrom_144 0 rfl ?_
                    refine xx_if_eqN (pc := 146) 163 dX6_valueFrom_146 rfl (by omega) (fun c66 => by exfalso; omega) (fun c66 => ?_)
                    refine xx_iload (pc := 149) dX6_valueFrom_149 1 rfl ?_
                    refine xx_istore (L' := [(4, .int (nI (mo_gf m s k a))), (7, .int (nI 1)), (6, .int (nI (mo_gf m s k a))), (5, .int (nI a)), (0, ic_pt E 95), (1, .int (nI k)), (2, ic_pt E (99 + 3 * (k + 1))), (3, .int (nI (mo_idle s)))]) (pc := 151) dX6_valueFrom_151 (Nat.le_of_ble_eq_true rfl) rfl ?_
                    refine xx_iload_n (pc := 153) dX6_valueFrom_153 5 rfl rfl ?_
                    refine xx_if_neN (pc := 154) 163 dX6_valueFrom_154 rfl (by omega) (fun c67 => ?_) (fun c67 => ?_)
                    · refine xx_iincN (L' := [(5, .int (nI (a + 1))), (4, .int (nI (mo_gf m s k a))), (7, .int (nI 1)), (6, .int (nI (mo_gf m s k a))), (0, ic_pt E 95), (1, .int (nI k)), (2, ic_pt E (99 + 3 * (k + 1))), (3, .int (nI (mo_idle s)))]) (pc := 163) dX6_valueFrom_163 3 rfl cc_iconst_1 (Nat.le_of_ble_eq_true rfl) rfl ?_
                      refine xx_goto (pc := 166) 39 dX6_valueFrom_166 rfl ?_
                      have hk_ : mo_ab k (mo_gf m s k) (a + 1 - 1) = a := by rw [show a + 1 - 1 = (a - 1) + 1 by omega, mo_ab, show a - 1 + 1 = a by omega, if_pos (by rw [← hv]; omega)]
                      exact xx_sub [0, 1, 4, 5, 6, 7] rfl (ih_ (a + 1) _ w52 (by omega) (hfb.tr fs_) (by rw [hk_]) (fun z => absurd z (by omega)) (by omega))
                    · refine xx_aload_nP (pc := 157) dX6_valueFrom_157 4 rfl rfl ?_
                      refine xx_iload (pc := 158) dX6_valueFrom_158 3 rfl ?_
                      refine xx_putN (pc := 160) dX6_valueFrom_160 sh_95 fX6_115_6 rfl rfl ?_
                      refine xx_nw (fun w68 ew68 => ?_)
                      have fo_ : Fg k w52 w68 := ⟨fun q _ _ h3 _ => by rw [ew68, wu_row _ _ _ h3], fun j hj => by rw [ew68, wu_k _ _ _ _ hj], fun z => absurd (by omega) z⟩
                      have v10_ : w68 95 10 = a := by rw [ew68, wu_s]
                      refine xx_iincN (L' := [(5, .int (nI (a + 1))), (4, .int (nI (mo_gf m s k a))), (7, .int (nI 1)), (6, .int (nI (mo_gf m s k a))), (0, ic_pt E 95), (1, .int (nI k)), (2, ic_pt E (99 + 3 * (k + 1))), (3, .int (nI (mo_idle s)))]) (pc := 163) dX6_valueFrom_163 3 rfl cc_iconst_1 (Nat.le_of_ble_eq_true rfl) rfl ?_
                      refine xx_goto (pc := 166) 39 dX6_valueFrom_166 rfl ?_
                      have hk_ : mo_ab k (mo_gf m s k) (a + 1 - 1) = a := by rw [show a + 1 - 1 = (a - 1) + 1 by omega, mo_ab, show a - 1 + 1 = a by omega, if_pos (by rw [← hv]; omega)]
                      exact xx_sub [0, 1, 4, 5, 6, 7] rfl (ih_ (a + 1) _ w68 (by omega) ((hfb.tr fs_).tr fo_) (by rw [hk_]) (fun _ => by rw [hk_]; exact v10_) (by omega))
              · refine xx_goto (pc := 67) 163 dX6_valueFrom_67 rfl ?_
                refine xx_iincN (L' := [(5, .int (nI (a + 1))), (4, .int (nI v)), (0, ic_pt E 95), (1, .int (nI k)), (2, ic_pt E (99 + 3 * (k + 1))), (3, .int (nI (mo_idle s)))]) (pc := 163) dX6_valueFrom_163 0 rfl cc_iconst_1 (Nat.le_of_ble_eq_true rfl) rfl ?_
                refine xx_goto (pc := 166) 39 dX6_valueFrom_166 rfl ?_
                have hdd : mo_deed s (a - 1) = 2 := by by_cases z : mo_deed s (a - 1) = 2; exact z; exfalso; rw [if_neg (fun y => z (of_decide_eq_true y.2))] at hid_; omega
                have hai := ab_i (m := m) (k := k) hIn (b := a - 1) (by omega) hdd
                exact xx_sub [0, 1, 2, 3, 4, 5] rfl (ih_ (a + 1) v u (by omega) hfb (by rw [show a + 1 - 1 = (a - 1) + 1 by omega, hai]; exact hv) (by rw [show a + 1 - 1 = (a - 1) + 1 by omega, hai]; exact ho) (by omega))
        exact xx_sub [0, 1, 6, 7, 5, 4] rfl (lp (s 0 + 2) 1 _ w11 (by omega) (hf0_.tr fs_) rfl (fun z => absurd z (by omega)) (by omega))
      · refine xx_aload_nP (pc := 157) dX6_valueFrom_157 6 rfl rfl ?_
        refine xx_iload (pc := 158) dX6_valueFrom_158 3 rfl ?_
        refine xx_putN (pc := 160) dX6_valueFrom_160 sh_95 fX6_115_6 rfl rfl ?_
        refine xx_nw (fun w24 ew24 => ?_)
        have fo_ : Fg k w11 w24 := ⟨fun q _ _ h3 _ => by rw [ew24, wu_row _ _ _ h3], fun j hj => by rw [ew24, wu_k _ _ _ _ hj], fun z => absurd (by omega) z⟩
        have v10_ : w24 95 10 = 0 := by rw [ew24, wu_s]
        refine xx_iincN (L' := [(5, .int (nI 1)), (4, .int (nI (mo_gf m s k 0))), (7, .int (nI 0)), (6, .int (nI (mo_gf m s k 0))), (3, .int (nI (mo_idle s))), (2, ic_pt E (99 + 3 * (k + 1))), (0, ic_pt E 95), (1, .int (nI k))]) (pc := 163) dX6_valueFrom_163 3 rfl cc_iconst_1 (Nat.le_of_ble_eq_true rfl) rfl ?_
        refine xx_goto (pc := 166) 39 dX6_valueFrom_166 rfl ?_
        have hf0_ : Fg k w w2 := ⟨fun q h1 h2 _ _ => gw2 q h1 h2, fun j _ => by rw [gw2 95 (by omega) (by omega)], fun _ => by rw [gw2 95 (by omega) (by omega)]⟩
        have lp : ∀ (n_ : Nat) (a v : Nat) (u : ic_w), 1 ≤ a ∧ a ≤ s 0 + 1 → Fg k w u → v = mo_gf m s k (mo_ab k (mo_gf m s k) (a - 1)) → (k = 0 → u 95 10 = mo_ab k (mo_gf m s k) (a - 1)) → s 0 + 1 - a < n_ → xx l E (ic_fr E mX6_valueFrom (m + 9) 0 0 False SHs (ic_qi (fun v_ h_ => v_ = nI (mo_gv (m + 1) s k) ∧ ∃ w2, h_ = hn w2 ∧ Fg k w w2 ∧ (k = 0 → ∀ m2, m + 1 = m2 + 1 → s 1 < s 2 → w2 95 10 = mo_ab 0 (mo_gf m2 s 0) (s 0))))) (0, 0) 39 [(5, .int (nI a)), (4, .int (nI v)), (0, ic_pt E 95), (1, .int (nI k)), (2, ic_pt E (99 + 3 * (k + 1))), (3, .int (nI (mo_idle s)))] [] SHs (hn u) := by
          intro n_
          induction n_ with
          | zero => intro a v u ha hfb hv ho hm_; exact absurd hm_ (Nat.not_lt_zero _)
          | succ n_ ih_ =>
            intro a v u ha hfb hv ho hm_
            have hN_u : Cn u s := hN.fg hfb
            have n1_u : u 39 10 = s 0 := hN_u.n
            have hp_u : Cs u (99 + 3 * k) s := hm.of (hfb.1 _ (by omega) (by omega) (by omega) (by omega)) (hfb.1 _ (by omega) (by omega) (by omega) (by omega)) (hfb.1 _ (by omega) (by omega) (by omega) (by omega))
            have u4_ := hfb.2.1 4 (by omega)
            have hal := mo_ab_le k (mo_gf m s k) (a - 1)
            have hvl := mo_gf_le (m := m) (k := k) hIn hRu (a := mo_ab k (mo_gf m s k) (a - 1)) (by omega) (by omega)
            refine xx_iload (pc := 39) dX6_valueFrom_39 0 rfl ?_
            refine xx_aload_nP (pc := 41) dX6_valueFrom_41 2 rfl rfl ?_
            refine xx_getR (pc := 42) 39 dX6_valueFrom_42 sh_95 fX6_24_6 rfl rfl (by decide) ?_
            refine xx_getN (pc := 45) dX6_valueFrom_45 sh_39 fX6_89_5 rfl ?_
            refine xx_icmp_gtN (pc := 48) 169 dX6_valueFrom_48 rfl (by omega) (by omega) (fun c45 => ?_) (fun c45 => ?_)
            · refine xx_iload (pc := 169) dX6_valueFrom_169 1 rfl ?_
              exact xx_iret (pc := 171) dX6_valueFrom_171 rfl (rfl) (Nat.le_refl _) (Nat.le_refl _) (ic_ri ⟨by rw [mo_gv_s, if_neg (by omega), hv, show a - 1 = s 0 by omega], u, rfl, hfb, fun hk0 m2 e _ => by obtain rfl : m2 = m := (by omega); have := ho hk0; rw [show a - 1 = s 0 by omega] at this; rw [this, hk0]⟩)
            · refine xx_iload (pc := 51) dX6_valueFrom_51 0 rfl ?_
              refine xx_if_leN (pc := 53) 70 dX6_valueFrom_53 rfl (by omega) (fun c46 => by exfalso; omega) (fun c46 => ?_)
              have hid_ : mo_idle s / 2 ^ (a - 1) % 2 = if a - 1 < s 0 ∧ decide (mo_deed s (a - 1) = 2) = true then 1 else 0 := mo_set_bit (fun q => decide (mo_deed s q = 2)) (a - 1) (s 0)
              have hil_ : mo_idle s < 64 := Nat.lt_of_lt_of_le (mo_set_lt _ _) (mo_p2 hn0)
              refine xx_iload_n (pc := 56) dX6_valueFrom_56 5 rfl rfl ?_
              refine xx_iload (pc := 57) dX6_valueFrom_57 0 rfl ?_
              refine xx_iconst (pc := 59) dX6_valueFrom_59 cc_iconst_1 ?_
              refine xx_isubN (pc := 60) dX6_valueFrom_60 (by omega) ?_
              refine xx_callSN0 (pc := 61) (st := []) (cC_has (w := u) (t := mo_idle s) (k := a - 1) (by omega) (by omega)) kX11_has nX6_92 (by exact s_X11_has) dX6_valueFrom_61 rfl rfl (Nat.le_of_ble_eq_true rfl) (pl_hR (d := m + 9) (by omega) (Nat.le_of_ble_eq_true rfl)) ⟨Nat.zero_le _, Nat.zero_le _⟩ (ic_ke ?_)
              refine xx_if_eqB (pc := 64) 70 dX6_valueFrom_64 rfl (fun c47 => ?_) (fun c47 => ?_)
              · refine xx_aload_nP (pc := 70) dX6_valueFrom_70 4 rfl rfl ?_
                refine xx_aload_nP (pc := 71) dX6_valueFrom_71 2 rfl rfl ?_
                refine xx_getR (pc := 72) 96 dX6_valueFrom_72 sh_95 fX6_11_6 rfl rfl (by decide) ?_
                refine xx_iload_n (pc := 75) dX6_valueFrom_75 3 rfl rfl ?_
                refine xx_aald (pc := 76) k (99 + 3 * k) dX6_valueFrom_76 sh_96 (by decide) rfl (by omega) (by decide) (pm_at (by omega)) ?_
                refine xx_callV0 (pc := 77) (st := []) (Mo_pl (by omega)).1 (cC_mbecome (w := u) (m := 99 + 3 * (k + 1)) (p := 99 + 3 * k) (Mo_pl (by omega)) (Mo_pl (by omega)) (by omega)) kX4_become vX6_54_4 dX6_valueFrom_77 rfl rfl (Nat.le_of_ble_eq_true rfl) (pl_hR (d := m + 9) (by omega) (Nat.le_of_ble_eq_true rfl)) ⟨Nat.zero_le _, Nat.zero_le _⟩ (ic_kv (fun h_ qw48 => ?_))
                obtain ⟨w48, rfl, b0, b1, bj, gb⟩ := qw48
                have hm_w48 : Cs w48 (99 + 3 * (k + 1)) s := Cs.bc hp_u hIn b0 b1 bj
                have hN_w48 : Cn w48 s := hN_u.of (by rw [gb _ (by omega) (by omega) (by omega)]) (by rw [gb _ (by omega) (by omega) (by omega)]) (by rw [gb _ (by omega) (by omega) (by omega)]) (fun b _ _ _ _ _ _ _ _ => by rw [gb _ (by omega) (by omega) (by omega)])
                refine xx_aload_nP (pc := 80) dX6_valueFrom_80 2 rfl rfl ?_
                refine xx_getR (pc := 81) 39 dX6_valueFrom_81 sh_95 fX6_24_6 rfl rfl (by decide) ?_
                refine xx_aload_nP (pc := 84) dX6_valueFrom_84 4 rfl rfl ?_
                refine xx_iload (pc := 85) dX6_valueFrom_85 0 rfl ?_
                have hwl_x50 := mo_worth_le hIn (act := a) (by omega)
                refine xx_callV0 (pc := 87) (st := []) sh_39 (cC_goBy (w := w48) (m := 99 + 3 * (k + 1)) (act := a) (s := s) (Mo_pl (k := k + 1) (by omega)) hm_w48 hN_w48 hIn hRu (by omega)) kX5_goBy vX6_96_5 dX6_valueFrom_87 rfl rfl (Nat.le_of_ble_eq_true rfl) (pl_hR (d := m + 9) (by omega) (Nat.le_of_ble_eq_true rfl)) ⟨Nat.zero_le _, Nat.zero_le _⟩ (ic_ki (fun v52 h_ qw51 => ?_))
                obtain ⟨rfl, w51, rfl, gw51, hm_w51⟩ := qw51
                have hIn_w51 : In (mo_go s a) := In_go hIn (by omega) (by omega)
                have hRu_w51 : Ru (mo_go s a) := Ru_go hRu hIn (by omega)
                have hN_w51 : Cn w51 (mo_go s a) := (hN_w48.fm (Mo_pl (k := k + 1) (by omega)) gw51).go hIn (by omega)
                refine xx_istore (L' := [(6, .int (nI (mo_worth s a))), (5, .int (nI a)), (4, .int (nI v)), (0, ic_pt E 95), (1, .int (nI k)), (2, ic_pt E (99 + 3 * (k + 1))), (3, .int (nI (mo_idle s)))]) (pc := 90) dX6_valueFrom_90 (Nat.le_of_ble_eq_true rfl) rfl ?_
                refine xx_iload (pc := 92) dX6_valueFrom_92 0 rfl ?_
                refine xx_aload_nP (pc := 94) dX6_valueFrom_94 3 rfl rfl ?_
                refine xx_iload_n (pc := 95) dX6_valueFrom_95 4 rfl rfl ?_
                refine xx_iconst (pc := 96) dX6_valueFrom_96 cc_iconst_1 ?_
                refine xx_iaddN (pc := 97) dX6_valueFrom_97 ?_
                have gt1 := mo_go_1 s a
                have gt2 : mo_go s a 2 = s 2 := mo_go_r _ (by omega) (by omega) (by omega)
                have q95_ : w51 95 = u 95 := by rw [gw51 95 (by omega) (by omega) (by omega) (by omega) (by omega), gb 95 (by omega) (by omega) (by omega)]
                have gl_ := mo_gf_le (m := m) (k := k) hIn hRu (a := a) (by omega) (by omega)
                have gw_ : mo_worth s a + mo_gv m (mo_go s a) (k + 1) = mo_gf m s k a := rfl
                refine xx_callV0 (pc := 98) (st := [.int (nI (mo_worth s a))]) sh_95 (IH w51 (mo_go s a) (k + 1) hm_w51 hN_w51 hIn_w51 hRu_w51 (by rw [q95_]; omega) (by rw [q95_]; omega) (by omega)) kX6_valueFrom vX6_118_6 dX6_valueFrom_98 rfl rfl (Nat.le_of_ble_eq_true rfl) (pl_hR (d := m + 9) (by omega) (Nat.le_of_ble_eq_true rfl)) ⟨Nat.zero_le _, Nat.zero_le _⟩ (ic_ki (fun v54 h_ qw53 => ?_))
                obtain ⟨rfl, w53, rfl, fb_, -⟩ := qw53
                obtain ⟨fs_, e95_, e10_⟩ := Fg.step (by omega) gb gw51 fb_
                refine xx_iaddN (pc := 101) dX6_valueFrom_101 ?_
                refine xx_eqI (y := nI (mo_gf m s k a)) (rfl) ?_
                refine xx_istore (L' := [(6, .int (nI (mo_gf m s k a))), (5, .int (nI a)), (4, .int (nI v)), (0, ic_pt E 95), (1, .int (nI k)), (2, ic_pt E (99 + 3 * (k + 1))), (3, .int (nI (mo_idle s)))]) (pc := 102) dX6_valueFrom_102 (Nat.le_of_ble_eq_true rfl) rfl ?_
                refine xx_iload_n (pc := 104) dX6_valueFrom_104 4 rfl rfl ?_
                refine xx_iconst (pc := 105) dX6_valueFrom_105 cc_iconst_2 ?_
                refine xx_iremN (pc := 106) dX6_valueFrom_106 (by omega) (by omega) (by omega) ?_
                refine xx_if_neN (pc := 107) 125 dX6_valueFrom_107 rfl (by omega) (fun c55 => ?_) (fun c55 => ?_)
                · refine xx_iload (pc := 125) dX6_valueFrom_125 0 rfl ?_
                  refine xx_iload (pc := 127) dX6_valueFrom_127 2 rfl ?_
                  refine xx_icmp_geN (pc := 129) 136 dX6_valueFrom_129 rfl (by omega) (by omega) (fun c56 => ?_) (fun c56 => ?_)
                  · refine xx_iconst (pc := 136) dX6_valueFrom_136 cc_iconst_0 ?_
                    refine xx_istore (L' := [(7, .int (nI 0)), (6, .int (nI (mo_gf m s k a))), (5, .int (nI a)), (4, .int (nI v)), (0, ic_pt E 95), (1, .int (nI k)), (2, ic_pt E (99 + 3 * (k + 1))), (3, .int (nI (mo_idle s)))]) (pc := 137) dX6_valueFrom_137 (Nat.le_of_ble_eq_true rfl) rfl ?_
                    refine xx_iload (pc := 139) dX6_valueFrom_139 2 rfl ?_
                    refine xx_if_eqN (pc := 141) 149 dX6_valueFrom_141 rfl (by omega) (fun c57 => by exfalso; omega) (fun c57 => ?_)
                    refine xx_iload (pc := 144) dX6_valueFrom_144 0 rfl ?_
                    refine xx_if_eqN (pc := 146) 163 dX6_valueFrom_146 rfl (by omega) (fun c58 => ?_) (fun c58 => by exfalso; omega)
                    refine xx_iincN (L' := [(5, .int (nI (a + 1))), (7, .int (nI 0)), (6, .int (nI (mo_gf m s k a))), (4, .int (nI v)), (0, ic_pt E 95), (1, .int (nI k)), (2, ic_pt E (99 + 3 * (k + 1))), (3, .int (nI (mo_idle s)))]) (pc := 163) dX6_valueFrom_163 2 rfl cc_iconst_1 (Nat.le_of_ble_eq_true rfl) rfl ?_
                    refine xx_goto (pc := 166) 39 dX6_valueFrom_166 rfl ?_
                    have hk_ : mo_ab k (mo_gf m s k) (a + 1 - 1) = mo_ab k (mo_gf m s k) (a - 1) := by rw [show a + 1 - 1 = (a - 1) + 1 by omega, mo_ab, show a - 1 + 1 = a by omega, if_neg (by rw [← hv]; omega)]
                    exact xx_sub [0, 3, 4, 5, 6, 7] rfl (ih_ (a + 1) v w53 (by omega) (hfb.tr fs_) (by rw [hk_]; exact hv) (fun z => by rw [hk_, e10_]; exact ho z) (by omega))
                  · refine xx_iconst (pc := 132) dX6_valueFrom_132 cc_iconst_1 ?_
                    refine xx_goto (pc := 133) 137 dX6_valueFrom_133 rfl ?_
                    refine xx_istore (L' := [(7, .int (nI 1)), (6, .int (nI (mo_gf m s k a))), (5, .int (nI a)), (4, .int (nI v)), (0, ic_pt E 95), (1, .int (nI k)), (2, ic_pt E (99 + 3 * (k + 1))), (3, .int (nI (mo_idle s)))]) (pc := 137) dX6_valueFrom_137 (Nat.le_of_ble_eq_true rfl) rfl ?_
                    refine xx_iload (pc := 139) dX6_valueFrom_139 2 rfl ?_
                    refine xx_if_eqN (pc := 141) 149 dX6_valueFrom_141 rfl (by omega) (fun c59 => by exfalso; omega) (fun c59 => ?_)
                    refine xx_iload (pc := 144) dX6_valueFrom_144 0 rfl ?_
                    refine xx_if_eqN (pc := 146) 163 dX6_valueFrom_146 rfl (by omega) (fun c60 => by exfalso; omega) (fun c60 => ?_)
                    refine xx_iload (pc := 149) dX6_valueFrom_149 1 rfl ?_
                    refine xx_istore (L' := [(4, .int (nI (mo_gf m s k a))), (7, .int (nI 1)), (6, .int (nI (mo_gf m s k a))), (5, .int (nI a)), (0, ic_pt E 95), (1, .int (nI k)), (2, ic_pt E (99 + 3 * (k + 1))), (3, .int (nI (mo_idle s)))]) (pc := 151) dX6_valueFrom_151 (Nat.le_of_ble_eq_true rfl) rfl ?_
                    refine xx_iload_n (pc := 153) dX6_valueFrom_153 5 rfl rfl ?_
                    refine xx_if_neN (pc := 154) 163 dX6_valueFrom_154 rfl (by omega) (fun c61 => ?_) (fun c61 => ?_)
                    · refine xx_iincN (L' := [(5, .int (nI (a + 1))), (4, .int (nI (mo_gf m s k a))), (7, .int (nI 1)), (6, .int (nI (mo_gf m s k a))), (0, ic_pt E 95), (1, .int (nI k)), (2, ic_pt E (99 + 3 * (k + 1))), (3, .int (nI (mo_idle s)))]) (pc := 163) dX6_valueFrom_163 3 rfl cc_iconst_1 (Nat.le_of_ble_eq_true rfl) rfl ?_
                      refine xx_goto (pc := 166) 39 dX6_valueFrom_166 rfl ?_
                      have hk_ : mo_ab k (mo_gf m s k) (a + 1 - 1) = a := by rw [show a + 1 - 1 = (a - 1) + 1 by omega, mo_ab, show a - 1 + 1 = a by omega, if_pos (by rw [← hv]; omega)]
                      exact xx_sub [0, 1, 4, 5, 6, 7] rfl (ih_ (a + 1) _ w53 (by omega) (hfb.tr fs_) (by rw [hk_]) (fun z => absurd z (by omega)) (by omega))
                    · refine xx_aload_nP (pc := 157) dX6_valueFrom_157 4 rfl rfl ?_
                      refine xx_iload (pc := 158) dX6_valueFrom_158 3 rfl ?_
                      refine xx_putN (pc := 160) dX6_valueFrom_160 sh_95 fX6_115_6 rfl rfl ?_
                      refine xx_nw (fun w62 ew62 => ?_)
                      have fo_ : Fg k w53 w62 := ⟨fun q _ _ h3 _ => by rw [ew62, wu_row _ _ _ h3], fun j hj => by rw [ew62, wu_k _ _ _ _ hj], fun z => absurd (by omega) z⟩
                      have v10_ : w62 95 10 = a := by rw [ew62, wu_s]
                      refine xx_iincN (L' := [(5, .int (nI (a + 1))), (4, .int (nI (mo_gf m s k a))), (7, .int (nI 1)), (6, .int (nI (mo_gf m s k a))), (0, ic_pt E 95), (1, .int (nI k)), (2, ic_pt E (99 + 3 * (k + 1))), (3, .int (nI (mo_idle s)))]) (pc := 163) dX6_valueFrom_163 3 rfl cc_iconst_1 (Nat.le_of_ble_eq_true rfl) rfl ?_
                      refine xx_goto (pc := 166) 39 dX6_valueFrom_166 rfl ?_
                      have hk_ : mo_ab k (mo_gf m s k) (a + 1 - 1) = a := by rw [show a + 1 - 1 = (a - 1) + 1 by omega, mo_ab, show a - 1 + 1 = a by omega, if_pos (by rw [← hv]; omega)]
                      exact xx_sub [0, 1, 4, 5, 6, 7] rfl (ih_ (a + 1) _ w62 (by omega) ((hfb.tr fs_).tr fo_) (by rw [hk_]) (fun _ => by rw [hk_]; exact v10_) (by omega))
                · refine xx_iload (pc := 110) dX6_valueFrom_110 0 rfl ?_
                  refine xx_iload (pc := 112) dX6_valueFrom_112 2 rfl ?_
                  refine xx_icmp_leN (pc := 114) 121 dX6_valueFrom_114 rfl (by omega) (by omega) (fun c63 => ?_) (fun c63 => ?_)
                  · refine xx_iconst (pc := 121) dX6_valueFrom_121 cc_iconst_0 ?_
                    refine xx_goto (pc := 122) 137 dX6_valueFrom_122 rfl ?_
                    refine xx_istore (L' := [(7, .int (nI 0)), (6, .int (nI (mo_gf m s k a))), (5, .int (nI a)), (4, .int (nI v)), (0, ic_pt E 95), (1, .int (nI k)), (2, ic_pt E (99 + 3 * (k + 1))), (3, .int (nI (mo_idle s)))]) (pc := 137) dX6_valueFrom_137 (Nat.le_of_ble_eq_true rfl) rfl ?_
                    refine xx_iload (pc := 139) dX6_valueFrom_139 2 rfl ?_
                    refine xx_if_eqN (pc := 141) 149 dX6_valueFrom_141 rfl (by omega) (fun c64 => by exfalso; omega) (fun c64 => ?_)
                    refine xx_iload (pc := 144) dX6_valueFrom_144 0 rfl ?_
                    refine xx_if_eqN (pc := 146) 163 dX6_valueFrom_146 rfl (by omega) (fun c65 => ?_) (fun c65 => by exfalso; omega)
                    refine xx_iincN (L' := [(5, .int (nI (a + 1))), (7, .int (nI 0)), (6, .int (nI (mo_gf m s k a))), (4, .int (nI v)), (0, ic_pt E 95), (1, .int (nI k)), (2, ic_pt E (99 + 3 * (k + 1))), (3, .int (nI (mo_idle s)))]) (pc := 163) dX6_valueFrom_163 2 rfl cc_iconst_1 (Nat.le_of_ble_eq_true rfl) rfl ?_
                    refine xx_goto (pc := 166) 39 dX6_valueFrom_166 rfl ?_
                    have hk_ : mo_ab k (mo_gf m s k) (a + 1 - 1) = mo_ab k (mo_gf m s k) (a - 1) := by rw [show a + 1 - 1 = (a - 1) + 1 by omega, mo_ab, show a - 1 + 1 = a by omega, if_neg (by rw [← hv]; omega)]
                    exact xx_sub [0, 3, 4, 5, 6, 7] rfl (ih_ (a + 1) v w53 (by omega) (hfb.tr fs_) (by rw [hk_]; exact hv) (fun z => by rw [hk_, e10_]; exact ho z) (by omega))
                  · refine xx_iconst (pc := 117) dX6_valueFrom_117 cc_iconst_1 ?_
                    refine xx_goto (pc := 118) 137 dX6_valueFrom_118 rfl ?_
                    refine xx_istore (L' := [(7, .int (nI 1)), (6, .int (nI (mo_gf m s k a))), (5, .int (nI a)), (4, .int (nI v)), (0, ic_pt E 95), (1, .int (nI k)), (2, ic_pt E (99 + 3 * (k + 1))), (3, .int (nI (mo_idle s)))]) (pc := 137) dX6_valueFrom_137 (Nat.le_of_ble_eq_true rfl) rfl ?_
                    refine xx_iload (pc := 139) dX6_valueFrom_139 2 rfl ?_
                    refine xx_if_eqN (pc := 141) 149 dX6_valueFrom_141 rfl (by omega) (fun c66 => by exfalso; omega) (fun c66 => ?_)
                    refine xx_iload (pc := 144) dX6_valueFrom_144 0 rfl ?_
                    refine xx_if_eqN (pc := 146) 163 dX6_valueFrom_146 rfl (by omega) (fun c67 => by exfalso; omega) (fun c67 => ?_)
                    refine xx_iload (pc := 149) dX6_valueFrom_149 1 rfl ?_
                    refine xx_istore (L' := [(4, .int (nI (mo_gf m s k a))), (7, .int (nI 1)), (6, .int (nI (mo_gf m s k a))), (5, .int (nI a)), (0, ic_pt E 95), (1, .int (nI k)), (2, ic_pt E (99 + 3 * (k + 1))), (3, .int (nI (mo_idle s)))]) (pc := 151) dX6_valueFrom_151 (Nat.le_of_ble_eq_true rfl) rfl ?_
                    refine xx_iload_n (pc := 153) dX6_valueFrom_153 5 rfl rfl ?_
                    refine xx_if_neN (pc := 154) 163 dX6_valueFrom_154 rfl (by omega) (fun c68 => ?_) (fun c68 => ?_)
                    · refine xx_iincN (L' := [(5, .int (nI (a + 1))), (4, .int (nI (mo_gf m s k a))), (7, .int (nI 1)), (6, .int (nI (mo_gf m s k a))), (0, ic_pt E 95), (1, .int (nI k)), (2, ic_pt E (99 + 3 * (k + 1))), (3, .int (nI (mo_idle s)))]) (pc := 163) dX6_valueFrom_163 3 rfl cc_iconst_1 (Nat.le_of_ble_eq_true rfl) rfl ?_
                      refine xx_goto (pc := 166) 39 dX6_valueFrom_166 rfl ?_
                      have hk_ : mo_ab k (mo_gf m s k) (a + 1 - 1) = a := by rw [show a + 1 - 1 = (a - 1) + 1 by omega, mo_ab, show a - 1 + 1 = a by omega, if_pos (by rw [← hv]; omega)]
                      exact xx_sub [0, 1, 4, 5, 6, 7] rfl (ih_ (a + 1) _ w53 (by omega) (hfb.tr fs_) (by rw [hk_]) (fun z => absurd z (by omega)) (by omega))
                    · refine xx_aload_nP (pc := 157) dX6_valueFrom_157 4 rfl rfl ?_
                      refine xx_iload (pc := 158) dX6_valueFrom_158 3 rfl ?_
                      refine xx_putN (pc := 160) dX6_valueFrom_160 sh_95 fX6_115_6 rfl rfl ?_
                      refine xx_nw (fun w69 ew69 => ?_)
                      have fo_ : Fg k w53 w69 := ⟨fun q _ _ h3 _ => by rw [ew69, wu_row _ _ _ h3], fun j hj => by rw [ew69, wu_k _ _ _ _ hj], fun z => absurd (by omega) z⟩
                      have v10_ : w69 95 10 = a := by rw [ew69, wu_s]
                      refine xx_iincN (L' := [(5, .int (nI (a + 1))), (4, .int (nI (mo_gf m s k a))), (7, .int (nI 1)), (6, .int (nI (mo_gf m s k a))), (0, ic_pt E 95), (1, .int (nI k)), (2, ic_pt E (99 + 3 * (k + 1))), (3, .int (nI (mo_idle s)))]) (pc := 163) dX6_valueFrom_163 3 rfl cc_iconst_1 (Nat.le_of_ble_eq_true rfl) rfl ?_
                      refine xx_goto (pc := 166) 39 dX6_valueFrom_166 rfl ?_
                      have hk_ : mo_ab k (mo_gf m s k) (a + 1 - 1) = a := by rw [show a + 1 - 1 = (a - 1) + 1 by omega, mo_ab, show a - 1 + 1 = a by omega, if_pos (by rw [← hv]; omega)]
                      exact xx_sub [0, 1, 4, 5, 6, 7] rfl (ih_ (a + 1) _ w69 (by omega) ((hfb.tr fs_).tr fo_) (by rw [hk_]) (fun _ => by rw [hk_]; exact v10_) (by omega))
              · refine xx_goto (pc := 67) 163 dX6_valueFrom_67 rfl ?_
                refine xx_iincN (L' := [(5, .int (nI (a + 1))), (4, .int (nI v)), (0, ic_pt E 95), (1, .int (nI k)), (2, ic_pt E (99 + 3 * (k + 1))), (3, .int (nI (mo_idle s)))]) (pc := 163) dX6_valueFrom_163 0 rfl cc_iconst_1 (Nat.le_of_ble_eq_true rfl) rfl ?_
                refine xx_goto (pc := 166) 39 dX6_valueFrom_166 rfl ?_
                have hdd : mo_deed s (a - 1) = 2 := by by_cases z : mo_deed s (a - 1) = 2; exact z; exfalso; rw [if_neg (fun y => z (of_decide_eq_true y.2))] at hid_; omega
                have hai := ab_i (m := m) (k := k) hIn (b := a - 1) (by omega) hdd
                exact xx_sub [0, 1, 2, 3, 4, 5] rfl (ih_ (a + 1) v u (by omega) hfb (by rw [show a + 1 - 1 = (a - 1) + 1 by omega, hai]; exact hv) (by rw [show a + 1 - 1 = (a - 1) + 1 by omega, hai]; exact ho) (by omega))
        exact xx_sub [0, 1, 6, 7, 5, 4] rfl (lp (s 0 + 2) 1 _ w24 (by omega) ((hf0_.tr fs_).tr fo_) rfl (fun _ => v10_) (by omega))
    · refine xx_iconst (pc := 117) dX6_valueFrom_117 cc_iconst_1 ?_
      refine xx_goto (pc := 118) 137 dX6_valueFrom_118 rfl ?_
      refine xx_istore (L' := [(7, .int (nI 1)), (6, .int (nI (mo_gf m s k 0))), (5, .int (nI 0)), (4, .int (nI 0)), (3, .int (nI (mo_idle s))), (2, ic_pt E (99 + 3 * (k + 1))), (0, ic_pt E 95), (1, .int (nI k))]) (pc := 137) dX6_valueFrom_137 (Nat.le_of_ble_eq_true rfl) rfl ?_
      refine xx_iload (pc := 139) dX6_valueFrom_139 2 rfl ?_
      refine xx_if_eqN (pc := 141) 149 dX6_valueFrom_141 rfl (by omega) (fun c25 => ?_) (fun c25 => by exfalso; omega)
      refine xx_iload (pc := 149) dX6_valueFrom_149 1 rfl ?_
      refine xx_istore (L' := [(4, .int (nI (mo_gf m s k 0))), (7, .int (nI 1)), (6, .int (nI (mo_gf m s k 0))), (5, .int (nI 0)), (3, .int (nI (mo_idle s))), (2, ic_pt E (99 + 3 * (k + 1))), (0, ic_pt E 95), (1, .int (nI k))]) (pc := 151) dX6_valueFrom_151 (Nat.le_of_ble_eq_true rfl) rfl ?_
      refine xx_iload_n (pc := 153) dX6_valueFrom_153 7 rfl rfl ?_
      refine xx_if_neN (pc := 154) 163 dX6_valueFrom_154 rfl (by omega) (fun c26 => ?_) (fun c26 => ?_)
      · refine xx_iincN (L' := [(5, .int (nI 1)), (4, .int (nI (mo_gf m s k 0))), (7, .int (nI 1)), (6, .int (nI (mo_gf m s k 0))), (3, .int (nI (mo_idle s))), (2, ic_pt E (99 + 3 * (k + 1))), (0, ic_pt E 95), (1, .int (nI k))]) (pc := 163) dX6_valueFrom_163 3 rfl cc_iconst_1 (Nat.le_of_ble_eq_true rfl) rfl ?_
        refine xx_goto (pc := 166) 39 dX6_valueFrom_166 rfl ?_
        have hf0_ : Fg k w w2 := ⟨fun q h1 h2 _ _ => gw2 q h1 h2, fun j _ => by rw [gw2 95 (by omega) (by omega)], fun _ => by rw [gw2 95 (by omega) (by omega)]⟩
        have lp : ∀ (n_ : Nat) (a v : Nat) (u : ic_w), 1 ≤ a ∧ a ≤ s 0 + 1 → Fg k w u → v = mo_gf m s k (mo_ab k (mo_gf m s k) (a - 1)) → (k = 0 → u 95 10 = mo_ab k (mo_gf m s k) (a - 1)) → s 0 + 1 - a < n_ → xx l E (ic_fr E mX6_valueFrom (m + 9) 0 0 False SHs (ic_qi (fun v_ h_ => v_ = nI (mo_gv (m + 1) s k) ∧ ∃ w2, h_ = hn w2 ∧ Fg k w w2 ∧ (k = 0 → ∀ m2, m + 1 = m2 + 1 → s 1 < s 2 → w2 95 10 = mo_ab 0 (mo_gf m2 s 0) (s 0))))) (0, 0) 39 [(5, .int (nI a)), (4, .int (nI v)), (0, ic_pt E 95), (1, .int (nI k)), (2, ic_pt E (99 + 3 * (k + 1))), (3, .int (nI (mo_idle s)))] [] SHs (hn u) := by
          intro n_
          induction n_ with
          | zero => intro a v u ha hfb hv ho hm_; exact absurd hm_ (Nat.not_lt_zero _)
          | succ n_ ih_ =>
            intro a v u ha hfb hv ho hm_
            have hN_u : Cn u s := hN.fg hfb
            have n1_u : u 39 10 = s 0 := hN_u.n
            have hp_u : Cs u (99 + 3 * k) s := hm.of (hfb.1 _ (by omega) (by omega) (by omega) (by omega)) (hfb.1 _ (by omega) (by omega) (by omega) (by omega)) (hfb.1 _ (by omega) (by omega) (by omega) (by omega))
            have u4_ := hfb.2.1 4 (by omega)
            have hal := mo_ab_le k (mo_gf m s k) (a - 1)
            have hvl := mo_gf_le (m := m) (k := k) hIn hRu (a := mo_ab k (mo_gf m s k) (a - 1)) (by omega) (by omega)
            refine xx_iload (pc := 39) dX6_valueFrom_39 0 rfl ?_
            refine xx_aload_nP (pc := 41) dX6_valueFrom_41 2 rfl rfl ?_
            refine xx_getR (pc := 42) 39 dX6_valueFrom_42 sh_95 fX6_24_6 rfl rfl (by decide) ?_
            refine xx_getN (pc := 45) dX6_valueFrom_45 sh_39 fX6_89_5 rfl ?_
            refine xx_icmp_gtN (pc := 48) 169 dX6_valueFrom_48 rfl (by omega) (by omega) (fun c47 => ?_) (fun c47 => ?_)
            · refine xx_iload (pc := 169) dX6_valueFrom_169 1 rfl ?_
              exact xx_iret (pc := 171) dX6_valueFrom_171 rfl (rfl) (Nat.le_refl _) (Nat.le_refl _) (ic_ri ⟨by rw [mo_gv_s, if_neg (by omega), hv, show a - 1 = s 0 by omega], u, rfl, hfb, fun hk0 m2 e _ => by obtain rfl : m2 = m := (by omega); have := ho hk0; rw [show a - 1 = s 0 by omega] at this; rw [this, hk0]⟩)
            · refine xx_iload (pc := 51) dX6_valueFrom_51 0 rfl ?_
              refine xx_if_leN (pc := 53) 70 dX6_valueFrom_53 rfl (by omega) (fun c48 => by exfalso; omega) (fun c48 => ?_)
              have hid_ : mo_idle s / 2 ^ (a - 1) % 2 = if a - 1 < s 0 ∧ decide (mo_deed s (a - 1) = 2) = true then 1 else 0 := mo_set_bit (fun q => decide (mo_deed s q = 2)) (a - 1) (s 0)
              have hil_ : mo_idle s < 64 := Nat.lt_of_lt_of_le (mo_set_lt _ _) (mo_p2 hn0)
              refine xx_iload_n (pc := 56) dX6_valueFrom_56 5 rfl rfl ?_
              refine xx_iload (pc := 57) dX6_valueFrom_57 0 rfl ?_
              refine xx_iconst (pc := 59) dX6_valueFrom_59 cc_iconst_1 ?_
              refine xx_isubN (pc := 60) dX6_valueFrom_60 (by omega) ?_
              refine xx_callSN0 (pc := 61) (st := []) (cC_has (w := u) (t := mo_idle s) (k := a - 1) (by omega) (by omega)) kX11_has nX6_92 (by exact s_X11_has) dX6_valueFrom_61 rfl rfl (Nat.le_of_ble_eq_true rfl) (pl_hR (d := m + 9) (by omega) (Nat.le_of_ble_eq_true rfl)) ⟨Nat.zero_le _, Nat.zero_le _⟩ (ic_ke ?_)
              refine xx_if_eqB (pc := 64) 70 dX6_valueFrom_64 rfl (fun c49 => ?_) (fun c49 => ?_)
              · refine xx_aload_nP (pc := 70) dX6_valueFrom_70 4 rfl rfl ?_
                refine xx_aload_nP (pc := 71) dX6_valueFrom_71 2 rfl rfl ?_
                refine xx_getR (pc := 72) 96 dX6_valueFrom_72 sh_95 fX6_11_6 rfl rfl (by decide) ?_
                refine xx_iload_n (pc := 75) dX6_valueFrom_75 3 rfl rfl ?_
                refine xx_aald (pc := 76) k (99 + 3 * k) dX6_valueFrom_76 sh_96 (by decide) rfl (by omega) (by decide) (pm_at (by omega)) ?_
                refine xx_callV0 (pc := 77) (st := []) (Mo_pl (by omega)).1 (cC_mbecome (w := u) (m := 99 + 3 * (k + 1)) (p := 99 + 3 * k) (Mo_pl (by omega)) (Mo_pl (by omega)) (by omega)) kX4_become vX6_54_4 dX6_valueFrom_77 rfl rfl (Nat.le_of_ble_eq_true rfl) (pl_hR (d := m + 9) (by omega) (Nat.le_of_ble_eq_true rfl)) ⟨Nat.zero_le _, Nat.zero_le _⟩ (ic_kv (fun h_ qw50 => ?_))
                obtain ⟨w50, rfl, b0, b1, bj, gb⟩ := qw50
                have hm_w50 : Cs w50 (99 + 3 * (k + 1)) s := Cs.bc hp_u hIn b0 b1 bj
                have hN_w50 : Cn w50 s := hN_u.of (by rw [gb _ (by omega) (by omega) (by omega)]) (by rw [gb _ (by omega) (by omega) (by omega)]) (by rw [gb _ (by omega) (by omega) (by omega)]) (fun b _ _ _ _ _ _ _ _ => by rw [gb _ (by omega) (by omega) (by omega)])
                refine xx_aload_nP (pc := 80) dX6_valueFrom_80 2 rfl rfl ?_
                refine xx_getR (pc := 81) 39 dX6_valueFrom_81 sh_95 fX6_24_6 rfl rfl (by decide) ?_
                refine xx_aload_nP (pc := 84) dX6_valueFrom_84 4 rfl rfl ?_
                refine xx_iload (pc := 85) dX6_valueFrom_85 0 rfl ?_
                have hwl_x52 := mo_worth_le hIn (act := a) (by omega)
                refine xx_callV0 (pc := 87) (st := []) sh_39 (cC_goBy (w := w50) (m := 99 + 3 * (k + 1)) (act := a) (s := s) (Mo_pl (k := k + 1) (by omega)) hm_w50 hN_w50 hIn hRu (by omega)) kX5_goBy vX6_96_5 dX6_valueFrom_87 rfl rfl (Nat.le_of_ble_eq_true rfl) (pl_hR (d := m + 9) (by omega) (Nat.le_of_ble_eq_true rfl)) ⟨Nat.zero_le _, Nat.zero_le _⟩ (ic_ki (fun v54 h_ qw53 => ?_))
                obtain ⟨rfl, w53, rfl, gw53, hm_w53⟩ := qw53
                have hIn_w53 : In (mo_go s a) := In_go hIn (by omega) (by omega)
                have hRu_w53 : Ru (mo_go s a) := Ru_go hRu hIn (by omega)
                have hN_w53 : Cn w53 (mo_go s a) := (hN_w50.fm (Mo_pl (k := k + 1) (by omega)) gw53).go hIn (by omega)
                refine xx_istore (L' := [(6, .int (nI (mo_worth s a))), (5, .int (nI a)), (4, .int (nI v)), (0, ic_pt E 95), (1, .int (nI k)), (2, ic_pt E (99 + 3 * (k + 1))), (3, .int (nI (mo_idle s)))]) (pc := 90) dX6_valueFrom_90 (Nat.le_of_ble_eq_true rfl) rfl ?_
                refine xx_iload (pc := 92) dX6_valueFrom_92 0 rfl ?_
                refine xx_aload_nP (pc := 94) dX6_valueFrom_94 3 rfl rfl ?_
                refine xx_iload_n (pc := 95) dX6_valueFrom_95 4 rfl rfl ?_
                refine xx_iconst (pc := 96) dX6_valueFrom_96 cc_iconst_1 ?_
                refine xx_iaddN (pc := 97) dX6_valueFrom_97 ?_
                have gt1 := mo_go_1 s a
                have gt2 : mo_go s a 2 = s 2 := mo_go_r _ (by omega) (by omega) (by omega)
                have q95_ : w53 95 = u 95 := by rw [gw53 95 (by omega) (by omega) (by omega) (by omega) (by omega), gb 95 (by omega) (by omega) (by omega)]
                have gl_ := mo_gf_le (m := m) (k := k) hIn hRu (a := a) (by omega) (by omega)
                have gw_ : mo_worth s a + mo_gv m (mo_go s a) (k + 1) = mo_gf m s k a := rfl
                refine xx_callV0 (pc := 98) (st := [.int (nI (mo_worth s a))]) sh_95 (IH w53 (mo_go s a) (k + 1) hm_w53 hN_w53 hIn_w53 hRu_w53 (by rw [q95_]; omega) (by rw [q95_]; omega) (by omega)) kX6_valueFrom vX6_118_6 dX6_valueFrom_98 rfl rfl (Nat.le_of_ble_eq_true rfl) (pl_hR (d := m + 9) (by omega) (Nat.le_of_ble_eq_true rfl)) ⟨Nat.zero_le _, Nat.zero_le _⟩ (ic_ki (fun v56 h_ qw55 => ?_))
                obtain ⟨rfl, w55, rfl, fb_, -⟩ := qw55
                obtain ⟨fs_, e95_, e10_⟩ := Fg.step (by omega) gb gw53 fb_
                refine xx_iaddN (pc := 101) dX6_valueFrom_101 ?_
                refine xx_eqI (y := nI (mo_gf m s k a)) (rfl) ?_
                refine xx_istore (L' := [(6, .int (nI (mo_gf m s k a))), (5, .int (nI a)), (4, .int (nI v)), (0, ic_pt E 95), (1, .int (nI k)), (2, ic_pt E (99 + 3 * (k + 1))), (3, .int (nI (mo_idle s)))]) (pc := 102) dX6_valueFrom_102 (Nat.le_of_ble_eq_true rfl) rfl ?_
                refine xx_iload_n (pc := 104) dX6_valueFrom_104 4 rfl rfl ?_
                refine xx_iconst (pc := 105) dX6_valueFrom_105 cc_iconst_2 ?_
                refine xx_iremN (pc := 106) dX6_valueFrom_106 (by omega) (by omega) (by omega) ?_
                refine xx_if_neN (pc := 107) 125 dX6_valueFrom_107 rfl (by omega) (fun c57 => ?_) (fun c57 => ?_)
                · refine xx_iload (pc := 125) dX6_valueFrom_125 0 rfl ?_
                  refine xx_iload (pc := 127) dX6_valueFrom_127 2 rfl ?_
                  refine xx_icmp_geN (pc := 129) 136 dX6_valueFrom_129 rfl (by omega) (by omega) (fun c58 => ?_) (fun c58 => ?_)
                  · refine xx_iconst (pc := 136) dX6_valueFrom_136 cc_iconst_0 ?_
                    refine xx_istore (L' := [(7, .int (nI 0)), (6, .int (nI (mo_gf m s k a))), (5, .int (nI a)), (4, .int (nI v)), (0, ic_pt E 95), (1, .int (nI k)), (2, ic_pt E (99 + 3 * (k + 1))), (3, .int (nI (mo_idle s)))]) (pc := 137) dX6_valueFrom_137 (Nat.le_of_ble_eq_true rfl) rfl ?_
                    refine xx_iload (pc := 139) dX6_valueFrom_139 2 rfl ?_
                    refine xx_if_eqN (pc := 141) 149 dX6_valueFrom_141 rfl (by omega) (fun c59 => by exfalso; omega) (fun c59 => ?_)
                    refine xx_iload (pc := 144) dX6_valueFrom_144 0 rfl ?_
                    refine xx_if_eqN (pc := 146) 163 dX6_valueFrom_146 rfl (by omega) (fun c60 => ?_) (fun c60 => by exfalso; omega)
                    refine xx_iincN (L' := [(5, .int (nI (a + 1))), (7, .int (nI 0)), (6, .int (nI (mo_gf m s k a))), (4, .int (nI v)), (0, ic_pt E 95), (1, .int (nI k)), (2, ic_pt E (99 + 3 * (k + 1))), (3, .int (nI (mo_idle s)))]) (pc := 163) dX6_valueFrom_163 2 rfl cc_iconst_1 (Nat.le_of_ble_eq_true rfl) rfl ?_
                    refine xx_goto (pc := 166) 39 dX6_valueFrom_166 rfl ?_
                    have hk_ : mo_ab k (mo_gf m s k) (a + 1 - 1) = mo_ab k (mo_gf m s k) (a - 1) := by rw [show a + 1 - 1 = (a - 1) + 1 by omega, mo_ab, show a - 1 + 1 = a by omega, if_neg (by rw [← hv]; omega)]
                    exact xx_sub [0, 3, 4, 5, 6, 7] rfl (ih_ (a + 1) v w55 (by omega) (hfb.tr fs_) (by rw [hk_]; exact hv) (fun z => by rw [hk_, e10_]; exact ho z) (by omega))
                  · refine xx_iconst (pc := 132) dX6_valueFrom_132 cc_iconst_1 ?_
                    refine xx_goto (pc := 133) 137 dX6_valueFrom_133 rfl ?_
                    refine xx_istore (L' := [(7, .int (nI 1)), (6, .int (nI (mo_gf m s k a))), (5, .int (nI a)), (4, .int (nI v)), (0, ic_pt E 95), (1, .int (nI k)), (2, ic_pt E (99 + 3 * (k + 1))), (3, .int (nI (mo_idle s)))]) (pc := 137) dX6_valueFrom_137 (Nat.le_of_ble_eq_true rfl) rfl ?_
                    refine xx_iload (pc := 139) dX6_valueFrom_139 2 rfl ?_
                    refine xx_if_eqN (pc := 141) 149 dX6_valueFrom_141 rfl (by omega) (fun c61 => by exfalso; omega) (fun c61 => ?_)
                    refine xx_iload (pc := 144) dX6_valueFrom_144 0 rfl ?_
                    refine xx_if_eqN (pc := 146) 163 dX6_valueFrom_146 rfl (by omega) (fun c62 => by exfalso; omega) (fun c62 => ?_)
                    refine xx_iload (pc := 149) dX6_valueFrom_149 1 rfl ?_
                    refine xx_istore (L' := [(4, .int (nI (mo_gf m s k a))), (7, .int (nI 1)), (6, .int (nI (mo_gf m s k a))), (5, .int (nI a)), (0, ic_pt E 95), (1, .int (nI k)), (2, ic_pt E (99 + 3 * (k + 1))), (3, .int (nI (mo_idle s)))]) (pc := 151) dX6_valueFrom_151 (Nat.le_of_ble_eq_true rfl) rfl ?_
                    refine xx_iload_n (pc := 153) dX6_valueFrom_153 5 rfl rfl ?_
                    refine xx_if_neN (pc := 154) 163 dX6_valueFrom_154 rfl (by omega) (fun c63 => ?_) (fun c63 => ?_)
                    · refine xx_iincN (L' := [(5, .int (nI (a + 1))), (4, .int (nI (mo_gf m s k a))), (7, .int (nI 1)), (6, .int (nI (mo_gf m s k a))), (0, ic_pt E 95), (1, .int (nI k)), (2, ic_pt E (99 + 3 * (k + 1))), (3, .int (nI (mo_idle s)))]) (pc := 163) dX6_valueFrom_163 3 rfl cc_iconst_1 (Nat.le_of_ble_eq_true rfl) rfl ?_
                      refine xx_goto (pc := 166) 39 dX6_valueFrom_166 rfl ?_
                      have hk_ : mo_ab k (mo_gf m s k) (a + 1 - 1) = a := by rw [show a + 1 - 1 = (a - 1) + 1 by omega, mo_ab, show a - 1 + 1 = a by omega, if_pos (by rw [← hv]; omega)]
                      exact xx_sub [0, 1, 4, 5, 6, 7] rfl (ih_ (a + 1) _ w55 (by omega) (hfb.tr fs_) (by rw [hk_]) (fun z => absurd z (by omega)) (by omega))
                    · refine xx_aload_nP (pc := 157) dX6_valueFrom_157 4 rfl rfl ?_
                      refine xx_iload (pc := 158) dX6_valueFrom_158 3 rfl ?_
                      refine xx_putN (pc := 160) dX6_valueFrom_160 sh_95 fX6_115_6 rfl rfl ?_
                      refine xx_nw (fun w64 ew64 => ?_)
                      have fo_ : Fg k w55 w64 := ⟨fun q _ _ h3 _ => by rw [ew64, wu_row _ _ _ h3], fun j hj => by rw [ew64, wu_k _ _ _ _ hj], fun z => absurd (by omega) z⟩
                      have v10_ : w64 95 10 = a := by rw [ew64, wu_s]
                      refine xx_iincN (L' := [(5, .int (nI (a + 1))), (4, .int (nI (mo_gf m s k a))), (7, .int (nI 1)), (6, .int (nI (mo_gf m s k a))), (0, ic_pt E 95), (1, .int (nI k)), (2, ic_pt E (99 + 3 * (k + 1))), (3, .int (nI (mo_idle s)))]) (pc := 163) dX6_valueFrom_163 3 rfl cc_iconst_1 (Nat.le_of_ble_eq_true rfl) rfl ?_
                      refine xx_goto (pc := 166) 39 dX6_valueFrom_166 rfl ?_
                      have hk_ : mo_ab k (mo_gf m s k) (a + 1 - 1) = a := by rw [show a + 1 - 1 = (a - 1) + 1 by omega, mo_ab, show a - 1 + 1 = a by omega, if_pos (by rw [← hv]; omega)]
                      exact xx_sub [0, 1, 4, 5, 6, 7] rfl (ih_ (a + 1) _ w64 (by omega) ((hfb.tr fs_).tr fo_) (by rw [hk_]) (fun _ => by rw [hk_]; exact v10_) (by omega))
                · refine xx_iload (pc := 110) dX6_valueFrom_110 0 rfl ?_
                  refine xx_iload (pc := 112) dX6_valueFrom_112 2 rfl ?_
                  refine xx_icmp_leN (pc := 114) 121 dX6_valueFrom_114 rfl (by omega) (by omega) (fun c65 => ?_) (fun c65 => ?_)
                  · refine xx_iconst (pc := 121) dX6_valueFrom_121 cc_iconst_0 ?_
                    refine xx_goto (pc := 122) 137 dX6_valueFrom_122 rfl ?_
                    refine xx_istore (L' := [(7, .int (nI 0)), (6, .int (nI (mo_gf m s k a))), (5, .int (nI a)), (4, .int (nI v)), (0, ic_pt E 95), (1, .int (nI k)), (2, ic_pt E (99 + 3 * (k + 1))), (3, .int (nI (mo_idle s)))]) (pc := 137) dX6_valueFrom_137 (Nat.le_of_ble_eq_true rfl) rfl ?_
                    refine xx_iload (pc := 139) dX6_valueFrom_139 2 rfl ?_
                    refine xx_if_eqN (pc := 141) 149 dX6_valueFrom_141 rfl (by omega) (fun c66 => by exfalso; omega) (fun c66 => ?_)
                    refine xx_iload (pc := 144) dX6_valueFrom_144 0 rfl ?_
                    refine xx_if_eqN (pc := 146) 163 dX6_valueFrom_146 rfl (by omega) (fun c67 => ?_) (fun c67 => by exfalso; omega)
                    refine xx_iincN (L' := [(5, .int (nI (a + 1))), (7, .int (nI 0)), (6, .int (nI (mo_gf m s k a))), (4, .int (nI v)), (0, ic_pt E 95), (1, .int (nI k)), (2, ic_pt E (99 + 3 * (k + 1))), (3, .int (nI (mo_idle s)))]) (pc := 163) dX6_valueFrom_163 2 rfl cc_iconst_1 (Nat.le_of_ble_eq_true rfl) rfl ?_
                    refine xx_goto (pc := 166) 39 dX6_valueFrom_166 rfl ?_
                    have hk_ : mo_ab k (mo_gf m s k) (a + 1 - 1) = mo_ab k (mo_gf m s k) (a - 1) := by rw [show a + 1 - 1 = (a - 1) + 1 by omega, mo_ab, show a - 1 + 1 = a by omega, if_neg (by rw [← hv]; omega)]
                    exact xx_sub [0, 3, 4, 5, 6, 7] rfl (ih_ (a + 1) v w55 (by omega) (hfb.tr fs_) (by rw [hk_]; exact hv) (fun z => by rw [hk_, e10_]; exact ho z) (by omega))
                  · refine xx_iconst (pc := 117) dX6_valueFrom_117 cc_iconst_1 ?_
                    refine xx_goto (pc := 118) 137 dX6_valueFrom_118 rfl ?_
                    refine xx_istore (L' := [(7, .int (nI 1)), (6, .int (nI (mo_gf m s k a))), (5, .int (nI a)), (4, .int (nI v)), (0, ic_pt E 95), (1, .int (nI k)), (2, ic_pt E (99 + 3 * (k + 1))), (3, .int (nI (mo_idle s)))]) (pc := 137) dX6_valueFrom_137 (Nat.le_of_ble_eq_true rfl) rfl ?_
                    refine xx_iload (pc := 139) dX6_valueFrom_139 2 rfl ?_
                    refine xx_if_eqN (pc := 141) 149 dX6_valueFrom_141 rfl (by omega) (fun c68 => by exfalso; omega) (fun c68 => ?_)
                    refine xx_iload (pc := 144) dX6_valueFrom_144 0 rfl ?_
                    refine xx_if_eqN (pc := 146) 163 dX6_valueFrom_146 rfl (by omega) (fun c69 => by exfalso; omega) (fun c69 => ?_)
                    refine xx_iload (pc := 149) dX6_valueFrom_149 1 rfl ?_
                    refine xx_istore (L' := [(4, .int (nI (mo_gf m s k a))), (7, .int (nI 1)), (6, .int (nI (mo_gf m s k a))), (5, .int (nI a)), (0, ic_pt E 95), (1, .int (nI k)), (2, ic_pt E (99 + 3 * (k + 1))), (3, .int (nI (mo_idle s)))]) (pc := 151) dX6_valueFrom_151 (Nat.le_of_ble_eq_true rfl) rfl ?_
                    refine xx_iload_n (pc := 153) dX6_valueFrom_153 5 rfl rfl ?_
                    refine xx_if_neN (pc := 154) 163 dX6_valueFrom_154 rfl (by omega) (fun c70 => ?_) (fun c70 => ?_)
                    · refine xx_iincN (L' := [(5, .int (nI (a + 1))), (4, .int (nI (mo_gf m s k a))), (7, .int (nI 1)), (6, .int (nI (mo_gf m s k a))), (0, ic_pt E 95), (1, .int (nI k)), (2, ic_pt E (99 + 3 * (k + 1))), (3, .int (nI (mo_idle s)))]) (pc := 163) dX6_valueFrom_163 3 rfl cc_iconst_1 (Nat.le_of_ble_eq_true rfl) rfl ?_
                      refine xx_goto (pc := 166) 39 dX6_valueFrom_166 rfl ?_
                      have hk_ : mo_ab k (mo_gf m s k) (a + 1 - 1) = a := by rw [show a + 1 - 1 = (a - 1) + 1 by omega, mo_ab, show a - 1 + 1 = a by omega, if_pos (by rw [← hv]; omega)]
                      exact xx_sub [0, 1, 4, 5, 6, 7] rfl (ih_ (a + 1) _ w55 (by omega) (hfb.tr fs_) (by rw [hk_]) (fun z => absurd z (by omega)) (by omega))
                    · refine xx_aload_nP (pc := 157) dX6_valueFrom_157 4 rfl rfl ?_
                      refine xx_iload (pc := 158) dX6_valueFrom_158 3 rfl ?_
                      refine xx_putN (pc := 160) dX6_valueFrom_160 sh_95 fX6_115_6 rfl rfl ?_
                      refine xx_nw (fun w71 ew71 => ?_)
                      have fo_ : Fg k w55 w71 := ⟨fun q _ _ h3 _ => by rw [ew71, wu_row _ _ _ h3], fun j hj => by rw [ew71, wu_k _ _ _ _ hj], fun z => absurd (by omega) z⟩
                      have v10_ : w71 95 10 = a := by rw [ew71, wu_s]
                      refine xx_iincN (L' := [(5, .int (nI (a + 1))), (4, .int (nI (mo_gf m s k a))), (7, .int (nI 1)), (6, .int (nI (mo_gf m s k a))), (0, ic_pt E 95), (1, .int (nI k)), (2, ic_pt E (99 + 3 * (k + 1))), (3, .int (nI (mo_idle s)))]) (pc := 163) dX6_valueFrom_163 3 rfl cc_iconst_1 (Nat.le_of_ble_eq_true rfl) rfl ?_
                      refine xx_goto (pc := 166) 39 dX6_valueFrom_166 rfl ?_
                      have hk_ : mo_ab k (mo_gf m s k) (a + 1 - 1) = a := by rw [show a + 1 - 1 = (a - 1) + 1 by omega, mo_ab, show a - 1 + 1 = a by omega, if_pos (by rw [← hv]; omega)]
                      exact xx_sub [0, 1, 4, 5, 6, 7] rfl (ih_ (a + 1) _ w71 (by omega) ((hfb.tr fs_).tr fo_) (by rw [hk_]) (fun _ => by rw [hk_]; exact v10_) (by omega))
              · refine xx_goto (pc := 67) 163 dX6_valueFrom_67 rfl ?_
                refine xx_iincN (L' := [(5, .int (nI (a + 1))), (4, .int (nI v)), (0, ic_pt E 95), (1, .int (nI k)), (2, ic_pt E (99 + 3 * (k + 1))), (3, .int (nI (mo_idle s)))]) (pc := 163) dX6_valueFrom_163 0 rfl cc_iconst_1 (Nat.le_of_ble_eq_true rfl) rfl ?_
                refine xx_goto (pc := 166) 39 dX6_valueFrom_166 rfl ?_
                have hdd : mo_deed s (a - 1) = 2 := by by_cases z : mo_deed s (a - 1) = 2; exact z; exfalso; rw [if_neg (fun y => z (of_decide_eq_true y.2))] at hid_; omega
                have hai := ab_i (m := m) (k := k) hIn (b := a - 1) (by omega) hdd
                exact xx_sub [0, 1, 2, 3, 4, 5] rfl (ih_ (a + 1) v u (by omega) hfb (by rw [show a + 1 - 1 = (a - 1) + 1 by omega, hai]; exact hv) (by rw [show a + 1 - 1 = (a - 1) + 1 by omega, hai]; exact ho) (by omega))
        exact xx_sub [0, 1, 6, 7, 5, 4] rfl (lp (s 0 + 2) 1 _ w11 (by omega) (hf0_.tr fs_) rfl (fun z => absurd z (by omega)) (by omega))
      · refine xx_aload_nP (pc := 157) dX6_valueFrom_157 6 rfl rfl ?_
        refine xx_iload (pc := 158) dX6_valueFrom_158 3 rfl ?_
        refine xx_putN (pc := 160) dX6_valueFrom_160 sh_95 fX6_115_6 rfl rfl ?_
        refine xx_nw (fun w27 ew27 => ?_)
        have fo_ : Fg k w11 w27 := ⟨fun q _ _ h3 _ => by rw [ew27, wu_row _ _ _ h3], fun j hj => by rw [ew27, wu_k _ _ _ _ hj], fun z => absurd (by omega) z⟩
        have v10_ : w27 95 10 = 0 := by rw [ew27, wu_s]
        refine xx_iincN (L' := [(5, .int (nI 1)), (4, .int (nI (mo_gf m s k 0))), (7, .int (nI 1)), (6, .int (nI (mo_gf m s k 0))), (3, .int (nI (mo_idle s))), (2, ic_pt E (99 + 3 * (k + 1))), (0, ic_pt E 95), (1, .int (nI k))]) (pc := 163) dX6_valueFrom_163 3 rfl cc_iconst_1 (Nat.le_of_ble_eq_true rfl) rfl ?_
        refine xx_goto (pc := 166) 39 dX6_valueFrom_166 rfl ?_
        have hf0_ : Fg k w w2 := ⟨fun q h1 h2 _ _ => gw2 q h1 h2, fun j _ => by rw [gw2 95 (by omega) (by omega)], fun _ => by rw [gw2 95 (by omega) (by omega)]⟩
        have lp : ∀ (n_ : Nat) (a v : Nat) (u : ic_w), 1 ≤ a ∧ a ≤ s 0 + 1 → Fg k w u → v = mo_gf m s k (mo_ab k (mo_gf m s k) (a - 1)) → (k = 0 → u 95 10 = mo_ab k (mo_gf m s k) (a - 1)) → s 0 + 1 - a < n_ → xx l E (ic_fr E mX6_valueFrom (m + 9) 0 0 False SHs (ic_qi (fun v_ h_ => v_ = nI (mo_gv (m + 1) s k) ∧ ∃ w2, h_ = hn w2 ∧ Fg k w w2 ∧ (k = 0 → ∀ m2, m + 1 = m2 + 1 → s 1 < s 2 → w2 95 10 = mo_ab 0 (mo_gf m2 s 0) (s 0))))) (0, 0) 39 [(5, .int (nI a)), (4, .int (nI v)), (0, ic_pt E 95), (1, .int (nI k)), (2, ic_pt E (99 + 3 * (k + 1))), (3, .int (nI (mo_idle s)))] [] SHs (hn u) := by
          intro n_
          induction n_ with
          | zero => intro a v u ha hfb hv ho hm_; exact absurd hm_ (Nat.not_lt_zero _)
          | succ n_ ih_ =>
            intro a v u ha hfb hv ho hm_
            have hN_u : Cn u s := hN.fg hfb
            have n1_u : u 39 10 = s 0 := hN_u.n
            have hp_u : Cs u (99 + 3 * k) s := hm.of (hfb.1 _ (by omega) (by omega) (by omega) (by omega)) (hfb.1 _ (by omega) (by omega) (by omega) (by omega)) (hfb.1 _ (by omega) (by omega) (by omega) (by omega))
            have u4_ := hfb.2.1 4 (by omega)
            have hal := mo_ab_le k (mo_gf m s k) (a - 1)
            have hvl := mo_gf_le (m := m) (k := k) hIn hRu (a := mo_ab k (mo_gf m s k) (a - 1)) (by omega) (by omega)
            refine xx_iload (pc := 39) dX6_valueFrom_39 0 rfl ?_
            refine xx_aload_nP (pc := 41) dX6_valueFrom_41 2 rfl rfl ?_
            refine xx_getR (pc := 42) 39 dX6_valueFrom_42 sh_95 fX6_24_6 rfl rfl (by decide) ?_
            refine xx_getN (pc := 45) dX6_valueFrom_45 sh_39 fX6_89_5 rfl ?_
            refine xx_icmp_gtN (pc := 48) 169 dX6_valueFrom_48 rfl (by omega) (by omega) (fun c48 => ?_) (fun c48 => ?_)
            · refine xx_iload (pc := 169) dX6_valueFrom_169 1 rfl ?_
              exact xx_iret (pc := 171) dX6_valueFrom_171 rfl (rfl) (Nat.le_refl _) (Nat.le_refl _) (ic_ri ⟨by rw [mo_gv_s, if_neg (by omega), hv, show a - 1 = s 0 by omega], u, rfl, hfb, fun hk0 m2 e _ => by obtain rfl : m2 = m := (by omega); have := ho hk0; rw [show a - 1 = s 0 by omega] at this; rw [this, hk0]⟩)
            · refine xx_iload (pc := 51) dX6_valueFrom_51 0 rfl ?_
              refine xx_if_leN (pc := 53) 70 dX6_valueFrom_53 rfl (by omega) (fun c49 => by exfalso; omega) (fun c49 => ?_)
              have hid_ : mo_idle s / 2 ^ (a - 1) % 2 = if a - 1 < s 0 ∧ decide (mo_deed s (a - 1) = 2) = true then 1 else 0 := mo_set_bit (fun q => decide (mo_deed s q = 2)) (a - 1) (s 0)
              have hil_ : mo_idle s < 64 := Nat.lt_of_lt_of_le (mo_set_lt _ _) (mo_p2 hn0)
              refine xx_iload_n (pc := 56) dX6_valueFrom_56 5 rfl rfl ?_
              refine xx_iload (pc := 57) dX6_valueFrom_57 0 rfl ?_
              refine xx_iconst (pc := 59) dX6_valueFrom_59 cc_iconst_1 ?_
              refine xx_isubN (pc := 60) dX6_valueFrom_60 (by omega) ?_
              refine xx_callSN0 (pc := 61) (st := []) (cC_has (w := u) (t := mo_idle s) (k := a - 1) (by omega) (by omega)) kX11_has nX6_92 (by exact s_X11_has) dX6_valueFrom_61 rfl rfl (Nat.le_of_ble_eq_true rfl) (pl_hR (d := m + 9) (by omega) (Nat.le_of_ble_eq_true rfl)) ⟨Nat.zero_le _, Nat.zero_le _⟩ (ic_ke ?_)
              refine xx_if_eqB (pc := 64) 70 dX6_valueFrom_64 rfl (fun c50 => ?_) (fun c50 => ?_)
              · refine xx_aload_nP (pc := 70) dX6_valueFrom_70 4 rfl rfl ?_
                refine xx_aload_nP (pc := 71) dX6_valueFrom_71 2 rfl rfl ?_
                refine xx_getR (pc := 72) 96 dX6_valueFrom_72 sh_95 fX6_11_6 rfl rfl (by decide) ?_
                refine xx_iload_n (pc := 75) dX6_valueFrom_75 3 rfl rfl ?_
                refine xx_aald (pc := 76) k (99 + 3 * k) dX6_valueFrom_76 sh_96 (by decide) rfl (by omega) (by decide) (pm_at (by omega)) ?_
                refine xx_callV0 (pc := 77) (st := []) (Mo_pl (by omega)).1 (cC_mbecome (w := u) (m := 99 + 3 * (k + 1)) (p := 99 + 3 * k) (Mo_pl (by omega)) (Mo_pl (by omega)) (by omega)) kX4_become vX6_54_4 dX6_valueFrom_77 rfl rfl (Nat.le_of_ble_eq_true rfl) (pl_hR (d := m + 9) (by omega) (Nat.le_of_ble_eq_true rfl)) ⟨Nat.zero_le _, Nat.zero_le _⟩ (ic_kv (fun h_ qw51 => ?_))
                obtain ⟨w51, rfl, b0, b1, bj, gb⟩ := qw51
                have hm_w51 : Cs w51 (99 + 3 * (k + 1)) s := Cs.bc hp_u hIn b0 b1 bj
                have hN_w51 : Cn w51 s := hN_u.of (by rw [gb _ (by omega) (by omega) (by omega)]) (by rw [gb _ (by omega) (by omega) (by omega)]) (by rw [gb _ (by omega) (by omega) (by omega)]) (fun b _ _ _ _ _ _ _ _ => by rw [gb _ (by omega) (by omega) (by omega)])
                refine xx_aload_nP (pc := 80) dX6_valueFrom_80 2 rfl rfl ?_
                refine xx_getR (pc := 81) 39 dX6_valueFrom_81 sh_95 fX6_24_6 rfl rfl (by decide) ?_
                refine xx_aload_nP (pc := 84) dX6_valueFrom_84 4 rfl rfl ?_
                refine xx_iload (pc := 85) dX6_valueFrom_85 0 rfl ?_
                have hwl_x53 := mo_worth_le hIn (act := a) (by omega)
                refine xx_callV0 (pc := 87) (st := []) sh_39 (cC_goBy (w := w51) (m := 99 + 3 * (k + 1)) (act := a) (s := s) (Mo_pl (k := k + 1) (by omega)) hm_w51 hN_w51 hIn hRu (by omega)) kX5_goBy vX6_96_5 dX6_valueFrom_87 rfl rfl (Nat.le_of_ble_eq_true rfl) (pl_hR (d := m + 9) (by omega) (Nat.le_of_ble_eq_true rfl)) ⟨Nat.zero_le _, Nat.zero_le _⟩ (ic_ki (fun v55 h_ qw54 => ?_))
                obtain ⟨rfl, w54, rfl, gw54, hm_w54⟩ := qw54
                have hIn_w54 : In (mo_go s a) := In_go hIn (by omega) (by omega)
                have hRu_w54 : Ru (mo_go s a) := Ru_go hRu hIn (by omega)
                have hN_w54 : Cn w54 (mo_go s a) := (hN_w51.fm (Mo_pl (k := k + 1) (by omega)) gw54).go hIn (by omega)
                refine xx_istore (L' := [(6, .int (nI (mo_worth s a))), (5, .int (nI a)), (4, .int (nI v)), (0, ic_pt E 95), (1, .int (nI k)), (2, ic_pt E (99 + 3 * (k + 1))), (3, .int (nI (mo_idle s)))]) (pc := 90) dX6_valueFrom_90 (Nat.le_of_ble_eq_true rfl) rfl ?_
                refine xx_iload (pc := 92) dX6_valueFrom_92 0 rfl ?_
                refine xx_aload_nP (pc := 94) dX6_valueFrom_94 3 rfl rfl ?_
                refine xx_iload_n (pc := 95) dX6_valueFrom_95 4 rfl rfl ?_
                refine xx_iconst (pc := 96) dX6_valueFrom_96 cc_iconst_1 ?_
                refine xx_iaddN (pc := 97) dX6_valueFrom_97 ?_
                have gt1 := mo_go_1 s a
                have gt2 : mo_go s a 2 = s 2 := mo_go_r _ (by omega) (by omega) (by omega)
                have q95_ : w54 95 = u 95 := by rw [gw54 95 (by omega) (by omega) (by omega) (by omega) (by omega), gb 95 (by omega) (by omega) (by omega)]
                have gl_ := mo_gf_le (m := m) (k := k) hIn hRu (a := a) (by omega) (by omega)
                have gw_ : mo_worth s a + mo_gv m (mo_go s a) (k + 1) = mo_gf m s k a := rfl
                refine xx_callV0 (pc := 98) (st := [.int (nI (mo_worth s a))]) sh_95 (IH w54 (mo_go s a) (k + 1) hm_w54 hN_w54 hIn_w54 hRu_w54 (by rw [q95_]; omega) (by rw [q95_]; omega) (by omega)) kX6_valueFrom vX6_118_6 dX6_valueFrom_98 rfl rfl (Nat.le_of_ble_eq_true rfl) (pl_hR (d := m + 9) (by omega) (Nat.le_of_ble_eq_true rfl)) ⟨Nat.zero_le _, Nat.zero_le _⟩ (ic_ki (fun v57 h_ qw56 => ?_))
                obtain ⟨rfl, w56, rfl, fb_, -⟩ := qw56
                obtain ⟨fs_, e95_, e10_⟩ := Fg.step (by omega) gb gw54 fb_
                refine xx_iaddN (pc := 101) dX6_valueFrom_101 ?_
                refine xx_eqI (y := nI (mo_gf m s k a)) (rfl) ?_
                refine xx_istore (L' := [(6, .int (nI (mo_gf m s k a))), (5, .int (nI a)), (4, .int (nI v)), (0, ic_pt E 95), (1, .int (nI k)), (2, ic_pt E (99 + 3 * (k + 1))), (3, .int (nI (mo_idle s)))]) (pc := 102) dX6_valueFrom_102 (Nat.le_of_ble_eq_true rfl) rfl ?_
                refine xx_iload_n (pc := 104) dX6_valueFrom_104 4 rfl rfl ?_
                refine xx_iconst (pc := 105) dX6_valueFrom_105 cc_iconst_2 ?_
                refine xx_iremN (pc := 106) dX6_valueFrom_106 (by omega) (by omega) (by omega) ?_
                refine xx_if_neN (pc := 107) 125 dX6_valueFrom_107 rfl (by omega) (fun c58 => ?_) (fun c58 => ?_)
                · refine xx_iload (pc := 125) dX6_valueFrom_125 0 rfl ?_
                  refine xx_iload (pc := 127) dX6_valueFrom_127 2 rfl ?_
                  refine xx_icmp_geN (pc := 129) 136 dX6_valueFrom_129 rfl (by omega) (by omega) (fun c59 => ?_) (fun c59 => ?_)
                  · refine xx_iconst (pc := 136) dX6_valueFrom_136 cc_iconst_0 ?_
                    refine xx_istore (L' := [(7, .int (nI 0)), (6, .int (nI (mo_gf m s k a))), (5, .int (nI a)), (4, .int (nI v)), (0, ic_pt E 95), (1, .int (nI k)), (2, ic_pt E (99 + 3 * (k + 1))), (3, .int (nI (mo_idle s)))]) (pc := 137) dX6_valueFrom_137 (Nat.le_of_ble_eq_true rfl) rfl ?_
                    refine xx_iload (pc := 139) dX6_valueFrom_139 2 rfl ?_
                    refine xx_if_eqN (pc := 141) 149 dX6_valueFrom_141 rfl (by omega) (fun c60 => by exfalso; omega) (fun c60 => ?_)
                    refine xx_iload (pc := 144) dX6_valueFrom_144 0 rfl ?_
                    refine xx_if_eqN (pc := 146) 163 dX6_valueFrom_146 rfl (by omega) (fun c61 => ?_) (fun c61 => by exfalso; omega)
                    refine xx_iincN (L' := [(5, .int (nI (a + 1))), (7, .int (nI 0)), (6, .int (nI (mo_gf m s k a))), (4, .int (nI v)), (0, ic_pt E 95), (1, .int (nI k)), (2, ic_pt E (99 + 3 * (k + 1))), (3, .int (nI (mo_idle s)))]) (pc := 163) dX6_valueFrom_163 2 rfl cc_iconst_1 (Nat.le_of_ble_eq_true rfl) rfl ?_
                    refine xx_goto (pc := 166) 39 dX6_valueFrom_166 rfl ?_
                    have hk_ : mo_ab k (mo_gf m s k) (a + 1 - 1) = mo_ab k (mo_gf m s k) (a - 1) := by rw [show a + 1 - 1 = (a - 1) + 1 by omega, mo_ab, show a - 1 + 1 = a by omega, if_neg (by rw [← hv]; omega)]
                    exact xx_sub [0, 3, 4, 5, 6, 7] rfl (ih_ (a + 1) v w56 (by omega) (hfb.tr fs_) (by rw [hk_]; exact hv) (fun z => by rw [hk_, e10_]; exact ho z) (by omega))
                  · refine xx_iconst (pc := 132) dX6_valueFrom_132 cc_iconst_1 ?_
                    refine xx_goto (pc := 133) 137 dX6_valueFrom_133 rfl ?_
                    refine xx_istore (L' := [(7, .int (nI 1)), (6, .int (nI (mo_gf m s k a))), (5, .int (nI a)), (4, .int (nI v)), (0, ic_pt E 95), (1, .int (nI k)), (2, ic_pt E (99 + 3 * (k + 1))), (3, .int (nI (mo_idle s)))]) (pc := 137) dX6_valueFrom_137 (Nat.le_of_ble_eq_true rfl) rfl ?_
                    refine xx_iload (pc := 139) dX6_valueFrom_139 2 rfl ?_
                    refine xx_if_eqN (pc := 141) 149 dX6_valueFrom_141 rfl (by omega) (fun c62 => by exfalso; omega) (fun c62 => ?_)
                    refine xx_iload (pc := 144) dX6_valueFrom_144 0 rfl ?_
                    refine xx_if_eqN (pc := 146) 163 dX6_valueFrom_146 rfl (by omega) (fun c63 => by exfalso; omega) (fun c63 => ?_)
                    refine xx_iload (pc := 149) dX6_valueFrom_149 1 rfl ?_
                    refine xx_istore (L' := [(4, .int (nI (mo_gf m s k a))), (7, .int (nI 1)), (6, .int (nI (mo_gf m s k a))), (5, .int (nI a)), (0, ic_pt E 95), (1, .int (nI k)), (2, ic_pt E (99 + 3 * (k + 1))), (3, .int (nI (mo_idle s)))]) (pc := 151) dX6_valueFrom_151 (Nat.le_of_ble_eq_true rfl) rfl ?_
                    refine xx_iload_n (pc := 153) dX6_valueFrom_153 5 rfl rfl ?_
                    refine xx_if_neN (pc := 154) 163 dX6_valueFrom_154 rfl (by omega) (fun c64 => ?_) (fun c64 => ?_)
                    · refine xx_iincN (L' := [(5, .int (nI (a + 1))), (4, .int (nI (mo_gf m s k a))), (7, .int (nI 1)), (6, .int (nI (mo_gf m s k a))), (0, ic_pt E 95), (1, .int (nI k)), (2, ic_pt E (99 + 3 * (k + 1))), (3, .int (nI (mo_idle s)))]) (pc := 163) dX6_valueFrom_163 3 rfl cc_iconst_1 (Nat.le_of_ble_eq_true rfl) rfl ?_
                      refine xx_goto (pc := 166) 39 dX6_valueFrom_166 rfl ?_
                      have hk_ : mo_ab k (mo_gf m s k) (a + 1 - 1) = a := by rw [show a + 1 - 1 = (a - 1) + 1 by omega, mo_ab, show a - 1 + 1 = a by omega, if_pos (by rw [← hv]; omega)]
                      exact xx_sub [0, 1, 4, 5, 6, 7] rfl (ih_ (a + 1) _ w56 (by omega) (hfb.tr fs_) (by rw [hk_]) (fun z => absurd z (by omega)) (by omega))
                    · refine xx_aload_nP (pc := 157) dX6_valueFrom_157 4 rfl rfl ?_
                      refine xx_iload (pc := 158) dX6_valueFrom_158 3 rfl ?_
                      refine xx_putN (pc := 160) dX6_valueFrom_160 sh_95 fX6_115_6 rfl rfl ?_
                      refine xx_nw (fun w65 ew65 => ?_)
                      have fo_ : Fg k w56 w65 := ⟨fun q _ _ h3 _ => by rw [ew65, wu_row _ _ _ h3], fun j hj => by rw [ew65, wu_k _ _ _ _ hj], fun z => absurd (by omega) z⟩
                      have v10_ : w65 95 10 = a := by rw [ew65, wu_s]
                      refine xx_iincN (L' := [(5, .int (nI (a + 1))), (4, .int (nI (mo_gf m s k a))), (7, .int (nI 1)), (6, .int (nI (mo_gf m s k a))), (0, ic_pt E 95), (1, .int (nI k)), (2, ic_pt E (99 + 3 * (k + 1))), (3, .int (nI (mo_idle s)))]) (pc := 163) dX6_valueFrom_163 3 rfl cc_iconst_1 (Nat.le_of_ble_eq_true rfl) rfl ?_
                      refine xx_goto (pc := 166) 39 dX6_valueFrom_166 rfl ?_
                      have hk_ : mo_ab k (mo_gf m s k) (a + 1 - 1) = a := by rw [show a + 1 - 1 = (a - 1) + 1 by omega, mo_ab, show a - 1 + 1 = a by omega, if_pos (by rw [← hv]; omega)]
                      exact xx_sub [0, 1, 4, 5, 6, 7] rfl (ih_ (a + 1) _ w65 (by omega) ((hfb.tr fs_).tr fo_) (by rw [hk_]) (fun _ => by rw [hk_]; exact v10_) (by omega))
                · refine xx_iload (pc := 110) dX6_valueFrom_110 0 rfl ?_
                  refine xx_iload (pc := 112) dX6_valueFrom_112 2 rfl ?_
                  refine xx_icmp_leN (pc := 114) 121 dX6_valueFrom_114 rfl (by omega) (by omega) (fun c66 => ?_) (fun c66 => ?_)
                  · refine xx_iconst (pc := 121) dX6_valueFrom_121 cc_iconst_0 ?_
                    refine xx_goto (pc := 122) 137 dX6_valueFrom_122 rfl ?_
                    refine xx_istore (L' := [(7, .int (nI 0)), (6, .int (nI (mo_gf m s k a))), (5, .int (nI a)), (4, .int (nI v)), (0, ic_pt E 95), (1, .int (nI k)), (2, ic_pt E (99 + 3 * (k + 1))), (3, .int (nI (mo_idle s)))]) (pc := 137) dX6_valueFrom_137 (Nat.le_of_ble_eq_true rfl) rfl ?_
                    refine xx_iload (pc := 139) dX6_valueFrom_139 2 rfl ?_
                    refine xx_if_eqN (pc := 141) 149 dX6_valueFrom_141 rfl (by omega) (fun c67 => by exfalso; omega) (fun c67 => ?_)
                    refine xx_iload (pc := 144) dX6_valueFrom_144 0 rfl ?_
                    refine xx_if_eqN (pc := 146) 163 dX6_valueFrom_146 rfl (by omega) (fun c68 => ?_) (fun c68 => by exfalso; omega)
                    refine xx_iincN (L' := [(5, .int (nI (a + 1))), (7, .int (nI 0)), (6, .int (nI (mo_gf m s k a))), (4, .int (nI v)), (0, ic_pt E 95), (1, .int (nI k)), (2, ic_pt E (99 + 3 * (k + 1))), (3, .int (nI (mo_idle s)))]) (pc := 163) dX6_valueFrom_163 2 rfl cc_iconst_1 (Nat.le_of_ble_eq_true rfl) rfl ?_
                    refine xx_goto (pc := 166) 39 dX6_valueFrom_166 rfl ?_
                    have hk_ : mo_ab k (mo_gf m s k) (a + 1 - 1) = mo_ab k (mo_gf m s k) (a - 1) := by rw [show a + 1 - 1 = (a - 1) + 1 by omega, mo_ab, show a - 1 + 1 = a by omega, if_neg (by rw [← hv]; omega)]
                    exact xx_sub [0, 3, 4, 5, 6, 7] rfl (ih_ (a + 1) v w56 (by omega) (hfb.tr fs_) (by rw [hk_]; exact hv) (fun z => by rw [hk_, e10_]; exact ho z) (by omega))
                  · refine xx_iconst (pc := 117) dX6_valueFrom_117 cc_iconst_1 ?_
                    refine xx_goto (pc := 118) 137 dX6_valueFrom_118 rfl ?_
                    refine xx_istore (L' := [(7, .int (nI 1)), (6, .int (nI (mo_gf m s k a))), (5, .int (nI a)), (4, .int (nI v)), (0, ic_pt E 95), (1, .int (nI k)), (2, ic_pt E (99 + 3 * (k + 1))), (3, .int (nI (mo_idle s)))]) (pc := 137) dX6_valueFrom_137 (Nat.le_of_ble_eq_true rfl) rfl ?_
                    refine xx_iload (pc := 139) dX6_valueFrom_139 2 rfl ?_
                    refine xx_if_eqN (pc := 141) 149 dX6_valueFrom_141 rfl (by omega) (fun c69 => by exfalso; omega) (fun c69 => ?_)
                    refine xx_iload (pc := 144) dX6_valueFrom_144 0 rfl ?_
                    refine xx_if_eqN (pc := 146) 163 dX6_valueFrom_146 rfl (by omega) (fun c70 => by exfalso; omega) (fun c70 => ?_)
                    refine xx_iload (pc := 149) dX6_valueFrom_149 1 rfl ?_
                    refine xx_istore (L' := [(4, .int (nI (mo_gf m s k a))), (7, .int (nI 1)), (6, .int (nI (mo_gf m s k a))), (5, .int (nI a)), (0, ic_pt E 95), (1, .int (nI k)), (2, ic_pt E (99 + 3 * (k + 1))), (3, .int (nI (mo_idle s)))]) (pc := 151) dX6_valueFrom_151 (Nat.le_of_ble_eq_true rfl) rfl ?_
                    refine xx_iload_n (pc := 153) dX6_valueFrom_153 5 rfl rfl ?_
                    refine xx_if_neN (pc := 154) 163 dX6_valueFrom_154 rfl (by omega) (fun c71 => ?_) (fun c71 => ?_)
                    · refine xx_iincN (L' := [(5, .int (nI (a + 1))), (4, .int (nI (mo_gf m s k a))), (7, .int (nI 1)), (6, .int (nI (mo_gf m s k a))), (0, ic_pt E 95), (1, .int (nI k)), (2, ic_pt E (99 + 3 * (k + 1))), (3, .int (nI (mo_idle s)))]) (pc := 163) dX6_valueFrom_163 3 rfl cc_iconst_1 (Nat.le_of_ble_eq_true rfl) rfl ?_
                      refine xx_goto (pc := 166) 39 dX6_valueFrom_166 rfl ?_
                      have hk_ : mo_ab k (mo_gf m s k) (a + 1 - 1) = a := by rw [show a + 1 - 1 = (a - 1) + 1 by omega, mo_ab, show a - 1 + 1 = a by omega, if_pos (by rw [← hv]; omega)]
                      exact xx_sub [0, 1, 4, 5, 6, 7] rfl (ih_ (a + 1) _ w56 (by omega) (hfb.tr fs_) (by rw [hk_]) (fun z => absurd z (by omega)) (by omega))
                    · refine xx_aload_nP (pc := 157) dX6_valueFrom_157 4 rfl rfl ?_
                      refine xx_iload (pc := 158) dX6_valueFrom_158 3 rfl ?_
                      refine xx_putN (pc := 160) dX6_valueFrom_160 sh_95 fX6_115_6 rfl rfl ?_
                      refine xx_nw (fun w72 ew72 => ?_)
                      have fo_ : Fg k w56 w72 := ⟨fun q _ _ h3 _ => by rw [ew72, wu_row _ _ _ h3], fun j hj => by rw [ew72, wu_k _ _ _ _ hj], fun z => absurd (by omega) z⟩
                      have v10_ : w72 95 10 = a := by rw [ew72, wu_s]
                      refine xx_iincN (L' := [(5, .int (nI (a + 1))), (4, .int (nI (mo_gf m s k a))), (7, .int (nI 1)), (6, .int (nI (mo_gf m s k a))), (0, ic_pt E 95), (1, .int (nI k)), (2, ic_pt E (99 + 3 * (k + 1))), (3, .int (nI (mo_idle s)))]) (pc := 163) dX6_valueFrom_163 3 rfl cc_iconst_1 (Nat.le_of_ble_eq_true rfl) rfl ?_
                      refine xx_goto (pc := 166) 39 dX6_valueFrom_166 rfl ?_
                      have hk_ : mo_ab k (mo_gf m s k) (a + 1 - 1) = a := by rw [show a + 1 - 1 = (a - 1) + 1 by omega, mo_ab, show a - 1 + 1 = a by omega, if_pos (by rw [← hv]; omega)]
                      exact xx_sub [0, 1, 4, 5, 6, 7] rfl (ih_ (a + 1) _ w72 (by omega) ((hfb.tr fs_).tr fo_) (by rw [hk_]) (fun _ => by rw [hk_]; exact v10_) (by omega))
              · refine xx_goto (pc := 67) 163 dX6_valueFrom_67 rfl ?_
                refine xx_iincN (L' := [(5, .int (nI (a + 1))), (4, .int (nI v)), (0, ic_pt E 95), (1, .int (nI k)), (2, ic_pt E (99 + 3 * (k + 1))), (3, .int (nI (mo_idle s)))]) (pc := 163) dX6_valueFrom_163 0 rfl cc_iconst_1 (Nat.le_of_ble_eq_true rfl) rfl ?_
                refine xx_goto (pc := 166) 39 dX6_valueFrom_166 rfl ?_
                have hdd : mo_deed s (a - 1) = 2 := by by_cases z : mo_deed s (a - 1) = 2; exact z; exfalso; rw [if_neg (fun y => z (of_decide_eq_true y.2))] at hid_; omega
                have hai := ab_i (m := m) (k := k) hIn (b := a - 1) (by omega) hdd
                exact xx_sub [0, 1, 2, 3, 4, 5] rfl (ih_ (a + 1) v u (by omega) hfb (by rw [show a + 1 - 1 = (a - 1) + 1 by omega, hai]; exact hv) (by rw [show a + 1 - 1 = (a - 1) + 1 by omega, hai]; exact ho) (by omega))
        exact xx_sub [0, 1, 6, 7, 5, 4] rfl (lp (s 0 + 2) 1 _ w27 (by omega) ((hf0_.tr fs_).tr fo_) rfl (fun _ => v10_) (by omega))

theorem cC_valueFrom {l : Launch} {E : ic_E} : ∀ m, Gv l E m
  | 0 => fun _ _ _ h1 h2 h3 h4 h5 h6 h7 => cC_vleaf (by omega) (Or.inl rfl) h1 h2 h3 h4 h5 h6 h7
  | m + 1 => fun _ s _ h1 h2 h3 h4 h5 h6 h7 => by
    by_cases z : s 2 ≤ s 1
    · exact cC_vleaf (by omega) (Or.inr z) h1 h2 h3 h4 h5 h6 h7
    · exact cC_vnode (cC_valueFrom m) (by omega) h1 h2 h3 h4 h5 h6 h7
set_option maxHeartbeats 4000000 in
set_option maxRecDepth 100000 in
theorem cC_contest {l : Launch} {E : ic_E} {w : ic_w} {n : Nat} {s : Nat → Nat} (hC : Cw w s) (hIn : In s) (hRu : Ru s) (hn4 : n ≤ 4) : ic_C l E mX6_contest 14 0 0 False [ic_pt E 95, .int (nI n)] SHs (hn w) SHs (ic_qi (fun v_ h_ => v_ = nI (mo_gv n s 0) ∧ ∃ w2, h_ = hn w2 ∧ Fp w w2 ∧ (∀ m2, n = m2 + 1 → s 1 < s 2 → w2 95 10 = mo_ab 0 (mo_gf m2 s 0) (s 0)))) := by
  refine ic_intro (by decide +kernel) (Nat.le_of_ble_eq_true rfl) ?_
  show xx l E _ _ 0 [(0, ic_pt E 95), (1, .int (nI n))] _ _ _
  have hN := hC.1
  have hm := hC.2.1
  have n5_w := hC.2.2.1
  have n6_w := hC.2.2.2
  have hn0 := hIn.n
  have htt := hIn.t
  have hcr := hIn.cr (s 1)
  have n1_w : w 39 10 = s 0 := hN.n
  have n2_w : w 39 11 = s 2 := hN.e
  have n3_w : w 46 0 = s 1 := hm.t
  have n4_w : w 46 1 = mo_outs s := hm.o
  refine xx_aload_nP (pc := 0) dX6_contest_0 0 rfl rfl ?_
  refine xx_iload_n (pc := 1) dX6_contest_1 1 rfl rfl ?_
  refine xx_callV0 (pc := 2) (st := []) sh_95 (cC_begin (w := w) (n := n) (s := s) hC hIn (by omega)) kX6_begin vX6_58_6 dX6_contest_2 rfl rfl (Nat.le_of_ble_eq_true rfl) (pl_hR (d := 14) (by omega) (Nat.le_of_ble_eq_true rfl)) ⟨Nat.zero_le _, Nat.zero_le _⟩ (ic_kv (fun h_ qw1 => ?_))
  obtain ⟨w1, rfl, b4, bk, hm99, bf⟩ := qw1
  refine xx_aload_nP (pc := 5) dX6_contest_5 0 rfl rfl ?_
  refine xx_iconst (pc := 6) dX6_contest_6 cc_iconst_0 ?_
  refine xx_putN (pc := 7) dX6_contest_7 sh_95 fX6_115_6 rfl rfl ?_
  refine xx_nw (fun w3 ew3 => ?_)
  refine xx_aload_nP (pc := 10) dX6_contest_10 0 rfl rfl ?_
  refine xx_iconst (pc := 11) dX6_contest_11 cc_iconst_0 ?_
  have r_ : ∀ a, a ≠ 95 → w3 a = w1 a := fun a ha => by rw [ew3, wu_row _ _ _ ha]
  have v4_ : w3 95 4 = min n (s 2 - s 1) := by rw [ew3, wu_k _ _ _ _ (by omega)]; exact b4
  refine xx_callV0 (pc := 12) (st := []) sh_95 (cC_valueFrom n w3 s 0 (hm99.of (r_ _ (by omega)) (r_ _ (by omega)) (r_ _ (by omega))) (hN.of (by rw [r_ _ (by omega), bf _ (by omega) (by omega) (by omega) (by omega)]) (by rw [r_ _ (by omega), bf _ (by omega) (by omega) (by omega) (by omega)]) (by rw [r_ _ (by omega), bf _ (by omega) (by omega) (by omega) (by omega)]) (fun a _ _ _ _ _ _ _ _ => by rw [r_ _ (by omega), bf _ (by omega) (by omega) (by omega) (by omega)])) hIn hRu (by omega) (by omega) (by omega)) kX6_valueFrom vX6_118_6 dX6_contest_12 rfl rfl (Nat.le_of_ble_eq_true rfl) (pl_hR (d := 14) (by omega) (Nat.le_of_ble_eq_true rfl)) ⟨Nat.zero_le _, Nat.zero_le _⟩ (ic_ki (fun v5 h_ qw4 => ?_))
  obtain ⟨rfl, w4, rfl, fb_, vo_⟩ := qw4
  exact xx_iret (pc := 15) dX6_contest_15 rfl (rfl) (Nat.le_refl _) (Nat.le_refl _) (ic_ri ⟨rfl, w4, rfl, Fp.tr ⟨fun a ha => by rw [r_ a (by omega), bf a (by omega) (by omega) (by omega) (by omega)], by rw [r_ 55 (by omega), bf 55 (by omega) (by omega) (by omega) (by omega)]⟩ fb_.p0, vo_ rfl⟩)

set_option maxHeartbeats 4000000 in
set_option maxRecDepth 100000 in
theorem cC_game {l : Launch} {E : ic_E} {w : ic_w} {n : Nat} (hn_ : n < 2 ^ 32) {s : Nat → Nat} (hC : Cw w s) (hIn : In s) (hRu : Ru s) : ic_C l E mX11_game 15 0 0 False [ic_pt E 0, .int (nI n)] SHs (hn w) SHs (ic_qi (fun v_ h_ => v_ = nI (if 1 ≤ n ∧ n ≤ 4 then mo_gv n s 0 else 4294967295) ∧ ∃ w2, h_ = hn w2 ∧ Fp w w2)) := by
  refine ic_intro (by decide +kernel) (Nat.le_of_ble_eq_true rfl) ?_
  show xx l E _ _ 0 [(0, ic_pt E 0), (1, .int (nI n))] _ _ _
  have hN := hC.1
  have hm := hC.2.1
  have n5_w := hC.2.2.1
  have n6_w := hC.2.2.2
  have hn0 := hIn.n
  have htt := hIn.t
  have hcr := hIn.cr (s 1)
  have n1_w : w 39 10 = s 0 := hN.n
  have n2_w : w 39 11 = s 2 := hN.e
  have n3_w : w 46 0 = s 1 := hm.t
  have n4_w : w 46 1 = mo_outs s := hm.o
  refine xx_iload_n (pc := 0) dX11_game_0 1 rfl rfl ?_
  refine xx_iconst (pc := 1) dX11_game_1 cc_iconst_1 ?_
  refine xx_iconst (pc := 2) dX11_game_2 cc_iconst_4 ?_
  refine xx_callS0 (pc := 3) (st := []) (cC_within (w := w) (v := n) (lo := 1) (hi := 4) (by omega) (by omega) (by omega)) kX11_within sX11_94 dX11_game_3 rfl rfl (Nat.le_of_ble_eq_true rfl) ⟨Nat.le_of_ble_eq_true rfl, Nat.le_of_ble_eq_true rfl⟩ ⟨Nat.zero_le _, Nat.zero_le _⟩ (ic_ke ?_)
  refine xx_if_neB (pc := 6) 11 dX11_game_6 rfl (fun c1 => ?_) (fun c1 => ?_)
  · refine xx_aload_nP (pc := 11) dX11_game_11 0 rfl rfl ?_
    refine xx_getR (pc := 12) 95 dX11_game_12 sh_0 fX11_86_11 rfl rfl (by decide) ?_
    refine xx_iload_n (pc := 15) dX11_game_15 1 rfl rfl ?_
    refine xx_callV0 (pc := 16) (st := []) sh_95 (cC_contest (w := w) (n := n) (s := s) hC hIn hRu (by omega)) kX6_contest vX11_280_6 dX11_game_16 rfl rfl (Nat.le_of_ble_eq_true rfl) ⟨Nat.le_of_ble_eq_true rfl, Nat.le_of_ble_eq_true rfl⟩ ⟨Nat.zero_le _, Nat.zero_le _⟩ (ic_ki (fun v3 h_ qw2 => ?_))
    obtain ⟨rfl, w2, rfl, fw2, vo_⟩ := qw2
    exact xx_iret (pc := 19) dX11_game_19 rfl (rfl) (Nat.le_refl _) (Nat.le_refl _) (ic_ri ⟨by rw [if_pos (by omega)], w2, rfl, fw2⟩)
  · refine xx_iconst (pc := 9) dX11_game_9 cc_iconst_m1 ?_
    exact xx_iret (pc := 10) dX11_game_10 rfl (rfl) (Nat.le_refl _) (Nat.le_refl _) (ic_ri ⟨by rw [if_neg (by omega)], w, rfl, Fp.rf w⟩)

set_option maxHeartbeats 4000000 in
set_option maxRecDepth 100000 in
theorem cC_play {l : Launch} {E : ic_E} {w : ic_w} {n : Nat} (hn_ : n < 2 ^ 32) {s : Nat → Nat} (hC : Cw w s) (hIn : In s) (hRu : Ru s) : ic_C l E mX11_play 15 0 0 False [ic_pt E 0, .int (nI n)] SHs (hn w) SHs (ic_qi (fun v_ h_ => v_ = nI (if 1 ≤ n ∧ n ≤ 4 then (if s 2 ≤ s 1 then 4294967293 else mo_ab 0 (mo_gf (n - 1) s 0) (s 0)) else 4294967295) ∧ ∃ w2, h_ = hn w2 ∧ Fp w w2)) := by
  refine ic_intro (by decide +kernel) (Nat.le_of_ble_eq_true rfl) ?_
  show xx l E _ _ 0 [(0, ic_pt E 0), (1, .int (nI n))] _ _ _
  have hN := hC.1
  have hm := hC.2.1
  have n5_w := hC.2.2.1
  have n6_w := hC.2.2.2
  have hn0 := hIn.n
  have htt := hIn.t
  have hcr := hIn.cr (s 1)
  have n1_w : w 39 10 = s 0 := hN.n
  have n2_w : w 39 11 = s 2 := hN.e
  have n3_w : w 46 0 = s 1 := hm.t
  have n4_w : w 46 1 = mo_outs s := hm.o
  refine xx_iload_n (pc := 0) dX11_play_0 1 rfl rfl ?_
  refine xx_iconst (pc := 1) dX11_play_1 cc_iconst_1 ?_
  refine xx_iconst (pc := 2) dX11_play_2 cc_iconst_4 ?_
  refine xx_callS0 (pc := 3) (st := []) (cC_within (w := w) (v := n) (lo := 1) (hi := 4) (by omega) (by omega) (by omega)) kX11_within sX11_94 dX11_play_3 rfl rfl (Nat.le_of_ble_eq_true rfl) ⟨Nat.le_of_ble_eq_true rfl, Nat.le_of_ble_eq_true rfl⟩ ⟨Nat.zero_le _, Nat.zero_le _⟩ (ic_ke ?_)
  refine xx_if_neB (pc := 6) 11 dX11_play_6 rfl (fun c1 => ?_) (fun c1 => ?_)
  · refine xx_aload_nP (pc := 11) dX11_play_11 0 rfl rfl ?_
    refine xx_getR (pc := 12) 39 dX11_play_12 sh_0 fX11_74_11 rfl rfl (by decide) ?_
    refine xx_aload_nP (pc := 15) dX11_play_15 0 rfl rfl ?_
    refine xx_getR (pc := 16) 39 dX11_play_16 sh_0 fX11_74_11 rfl rfl (by decide) ?_
    refine xx_getR (pc := 19) 46 dX11_play_19 sh_39 fX11_112_5 rfl rfl (by decide) ?_
    refine xx_callV0 (pc := 22) (st := []) sh_39 (cC_isOver (w := w) (m := 46) (s := s) Mo_46 hm hN hIn) kX5_isOver vX11_185_5 dX11_play_22 rfl rfl (Nat.le_of_ble_eq_true rfl) ⟨Nat.le_of_ble_eq_true rfl, Nat.le_of_ble_eq_true rfl⟩ ⟨Nat.zero_le _, Nat.zero_le _⟩ (ic_ke ?_)
    refine xx_if_eqB (pc := 25) 31 dX11_play_25 rfl (fun c2 => ?_) (fun c2 => ?_)
    · refine xx_aload_nP (pc := 31) dX11_play_31 0 rfl rfl ?_
      refine xx_getR (pc := 32) 95 dX11_play_32 sh_0 fX11_86_11 rfl rfl (by decide) ?_
      refine xx_iload_n (pc := 35) dX11_play_35 1 rfl rfl ?_
      refine xx_callV0 (pc := 36) (st := []) sh_95 (cC_contest (w := w) (n := n) (s := s) hC hIn hRu (by omega)) kX6_contest vX11_280_6 dX11_play_36 rfl rfl (Nat.le_of_ble_eq_true rfl) ⟨Nat.le_of_ble_eq_true rfl, Nat.le_of_ble_eq_true rfl⟩ ⟨Nat.zero_le _, Nat.zero_le _⟩ (ic_ki (fun v4 h_ qw3 => ?_))
      obtain ⟨rfl, w3, rfl, fw3, vo_⟩ := qw3
      refine xx_pop (pc := 39) dX11_play_39 rfl ?_
      refine xx_aload_nP (pc := 40) dX11_play_40 0 rfl rfl ?_
      refine xx_getR (pc := 41) 95 dX11_play_41 sh_0 fX11_86_11 rfl rfl (by decide) ?_
      refine xx_getN (pc := 44) dX11_play_44 sh_95 fX11_283_6 rfl ?_
      exact xx_iret (pc := 47) dX11_play_47 rfl (rfl) (Nat.le_refl _) (Nat.le_refl _) (ic_ri ⟨by rw [if_pos (by omega), if_neg (by omega), vo_ (n - 1) (by omega) (by omega)], w3, rfl, fw3⟩)
    · refine xx_bipush (pc := 28) dX11_play_28 cc_bipush_m3 ?_
      exact xx_iret (pc := 30) dX11_play_30 rfl (rfl) (Nat.le_refl _) (Nat.le_refl _) (ic_ri ⟨by rw [if_pos (by omega), if_pos (by omega)], w, rfl, Fp.rf w⟩)
  · refine xx_iconst (pc := 9) dX11_play_9 cc_iconst_m1 ?_
    exact xx_iret (pc := 10) dX11_play_10 rfl (rfl) (Nat.le_refl _) (Nat.le_refl _) (ic_ri ⟨by rw [if_neg (by omega)], w, rfl, Fp.rf w⟩)

