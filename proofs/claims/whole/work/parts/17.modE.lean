/-! a train goes by -/
def mo_cp (g : Nat → Nat) (d : Nat) (f : Nat → Nat) (b n : Nat) : Nat → Nat := fun j => if d ≤ j ∧ j < d + n then f (b + (j - d)) else g j
theorem mo_cp_0 (g : Nat → Nat) (d : Nat) (f : Nat → Nat) (b : Nat) : mo_cp g d f b 0 = g := by
  funext j
  unfold mo_cp
  rw [if_neg (by omega)]
theorem mo_cp_s (g : Nat → Nat) (d : Nat) (f : Nat → Nat) (b n : Nat) : fu (mo_cp g d f b n) (d + n) (f (b + n)) = mo_cp g d f b (n + 1) := by
  funext j
  unfold fu mo_cp
  by_cases h : j = d + n
  · subst h
    rw [if_pos rfl, if_pos (by omega), show d + n - d = n by omega]
  · rw [if_neg h]
    by_cases h2 : d ≤ j ∧ j < d + n
    · rw [if_pos h2, if_pos (by omega)]
    · rw [if_neg h2, if_neg (by omega)]
def mo_doesW (s : Nat → Nat) (o wl : Nat) : Nat := if wl = 0 then mo_pays s o else if wl = 2 then 0 else if 0 < mo_crowd s (s 1) % 4 then 1 else 0
def mo_doesS (s : Nat → Nat) (o wl : Nat) : Nat → Nat :=
  if wl = 0 then fu s (12 + 6 * o) (if 0 < mo_pays s o then 1 else 0) else if wl = 2 then s else fu (fu s (13 + 6 * o) ((it s o 5 + 1) % 6)) (9 + 6 * o) (it s o 1 - s (50 + (it s o 5 + 1) % 6))
def mo_s1 (s : Nat → Nat) (act : Nat) : Nat → Nat := if act = 0 then s else if it s (act - 1) 4 = 0 then mo_doesS s (act - 1) (mo_will s (act - 1)) else s
def mo_w1 (s : Nat → Nat) (act : Nat) : Nat := if act = 0 then 0 else if it s (act - 1) 4 = 0 then mo_doesW s (act - 1) (mo_will s (act - 1)) else 0
def mo_sk (s : Nat → Nat) (n : Nat) : Nat → Nat := fun k =>
  if 8 ≤ k ∧ k < 8 + 6 * n ∧ it s ((k - 8) / 6) 4 = 0 then
    (if (k - 8) % 6 = 1 then min 99 (s k + mo_sunk s ((k - 8) / 6)) else if (k - 8) % 6 = 5 then (s k + mo_drifts (it s ((k - 8) / 6) 0) (s 1)) % 6 else s k) else s k
def mo_w2 (s : Nat → Nat) (n : Nat) : Nat := mo_cnt (fun o => decide (it s o 4 = 0 ∧ (it s o 5 + mo_drifts (it s o 0) (s 1)) % 6 = it s o 3)) n
def mo_worth (s : Nat → Nat) (act : Nat) : Nat := mo_w1 s act + mo_w2 (mo_s1 s act) (s 0)
def mo_go (s : Nat → Nat) (act : Nat) : Nat → Nat := fun k => if k = 1 then s 1 + 1 else if k = 3 then (s 3 + mo_worth s act) % 2 ^ 32 else mo_sk (mo_s1 s act) (s 0) k
theorem mo_sk_hi (s : Nat → Nat) {n k : Nat} (h : k < 8 ∨ 8 + 6 * n ≤ k) : mo_sk s n k = s k := by
  unfold mo_sk
  rw [if_neg (by omega)]
theorem mo_sk_it (s : Nat → Nat) {n o j : Nat} (h : n ≤ o) : it (mo_sk s n) o j = it s o j := mo_sk_hi s (Or.inr (by omega))
theorem mo_sk_f {s : Nat → Nat} {o : Nat} (h : ¬ it s o 4 = 0) : mo_sk s (o + 1) = mo_sk s o := by
  funext k
  unfold mo_sk
  by_cases q : 8 ≤ k ∧ k < 8 + 6 * o ∧ it s ((k - 8) / 6) 4 = 0
  · rw [if_pos q, if_pos ⟨q.1, by omega, q.2.2⟩]
  · rw [if_neg q, if_neg (fun z => ?_)]
    by_cases z2 : k < 8 + 6 * o
    · exact q ⟨z.1, z2, z.2.2⟩
    · have : (k - 8) / 6 = o := by omega
      rw [this] at z
      exact h z.2.2
theorem mo_sk_t {s : Nat → Nat} {o : Nat} (h : it s o 4 = 0) : mo_sk s (o + 1) = fu (fu (mo_sk s o) (9 + 6 * o) (min 99 (it s o 1 + mo_sunk s o))) (13 + 6 * o) ((it s o 5 + mo_drifts (it s o 0) (s 1)) % 6) := by
  funext k
  by_cases k5 : k = 13 + 6 * o
  · subst k5
    rw [fu_s]
    unfold mo_sk
    have e1 : (13 + 6 * o - 8) / 6 = o := by omega
    have e2 : (13 + 6 * o - 8) % 6 = 5 := by omega
    rw [e1, e2, if_pos ⟨by omega, by omega, h⟩, if_neg (by omega), if_pos rfl, show 13 + 6 * o = 8 + 6 * o + 5 by omega]
    rfl
  · rw [fu_n _ k5]
    by_cases k1 : k = 9 + 6 * o
    · subst k1
      rw [fu_s]
      unfold mo_sk
      have e1 : (9 + 6 * o - 8) / 6 = o := by omega
      have e2 : (9 + 6 * o - 8) % 6 = 1 := by omega
      rw [e1, e2, if_pos ⟨by omega, by omega, h⟩, if_pos rfl, show 9 + 6 * o = 8 + 6 * o + 1 by omega]
      rfl
    · rw [fu_n _ k1]
      unfold mo_sk
      by_cases q : 8 ≤ k ∧ k < 8 + 6 * o ∧ it s ((k - 8) / 6) 4 = 0
      · rw [if_pos q, if_pos ⟨q.1, by omega, q.2.2⟩]
      · rw [if_neg q]
        by_cases z : 8 ≤ k ∧ k < 8 + 6 * (o + 1) ∧ it s ((k - 8) / 6) 4 = 0
        · have z2 : ¬ k < 8 + 6 * o := fun y => q ⟨z.1, y, z.2.2⟩
          rw [if_pos z, if_neg (by omega), if_neg (by omega)]
        · rw [if_neg z]
theorem mo_doesS_r (s : Nat → Nat) {o wl k : Nat} (ho : o < 6) (h : k < 8 ∨ 44 ≤ k) : mo_doesS s o wl k = s k := by
  unfold mo_doesS
  split
  · exact fu_n _ (by omega)
  · split
    · rfl
    · rw [fu_n _ (by omega), fu_n _ (by omega)]
theorem it_fu {s : Nat → Nat} {k v o j : Nat} (h : 8 + 6 * o + j ≠ k) : it (fu s k v) o j = it s o j := fu_n v h
theorem In_of {s t : Nat → Nat} (h : In s) (h8 : ∀ k, k < 8 ∨ 44 ≤ k → t k = s k) (hi : ∀ o, o < 6 → it t o 0 ≤ 5 ∧ it t o 1 ≤ 99 ∧ it t o 2 ≤ 9 ∧ it t o 3 ≤ 5 ∧ it t o 4 ≤ 1 ∧ it t o 5 ≤ 5) : In t := by
  obtain ⟨a, ⟨b1, b2, b3⟩, ⟨c1, c2, c3⟩, d, e, f, g⟩ := h
  refine ⟨by rw [h8 0 (by omega)]; exact a, ⟨by rw [h8 1 (by omega), h8 2 (by omega)]; exact b1, by rw [h8 2 (by omega)]; exact b2, by rw [h8 2 (by omega)]; exact b3⟩, ⟨by rw [h8 5 (by omega)]; exact c1, by rw [h8 6 (by omega)]; exact c2, by rw [h8 7 (by omega)]; exact c3⟩, hi,
    fun q hq => by rw [h8 _ (by omega), h8 _ (by omega)]; exact e q hq, fun q hq => by rw [h8 _ (by omega)]; exact f q hq, fun k hk => ?_⟩
  by_cases z : k < 8 ∨ 44 ≤ k
  · rw [h8 k z]
    exact g k hk
  · have h1 := hi ((k - 8) / 6) (by omega)
    have e : k = 8 + 6 * ((k - 8) / 6) + (k - 8) % 6 := by omega
    have h2 : it t ((k - 8) / 6) ((k - 8) % 6) = t k := by unfold it; rw [← e]
    rcases (show (k - 8) % 6 = 0 ∨ (k - 8) % 6 = 1 ∨ (k - 8) % 6 = 2 ∨ (k - 8) % 6 = 3 ∨ (k - 8) % 6 = 4 ∨ (k - 8) % 6 = 5 by omega) with y | y | y | y | y | y <;> rw [y] at h2 <;> omega
theorem Ru_of {s t : Nat → Nat} (h : Ru s) (h8 : ∀ k, k < 8 ∨ 44 ≤ k → t k = s k) : Ru t := by
  have hd : ∀ b n, mo_dp t b n = mo_dp s b n := by
    intro b n
    induction n with
    | zero => rfl
    | succ n ih => rw [mo_dp, mo_dp, ih, h8 _ (by omega)]
  refine ⟨fun r hr => ?_, fun k hk => ?_⟩
  · rw [h8 5 (by omega)] at hr
    rw [h8 _ (by omega), h8 _ (by omega), h8 _ (by omega), h8 _ (by omega), h8 7 (by omega)]
    have := h.1 r hr
    refine ⟨this.1, this.2.1, this.2.2.1, this.2.2.2.1, fun n hn => by rw [hd]; exact this.2.2.2.2 n hn⟩
  · rw [h8 7 (by omega)] at hk
    rw [h8 _ (by omega), h8 _ (by omega), h8 _ (by omega)]
    exact h.2 k hk
theorem it_fu2 {s : Nat → Nat} {o j v q k m : Nat} (hj : j < 6) (hk : k < 6) (e : m = 8 + 6 * o + j) : it (fu s m v) q k = if q = o ∧ k = j then v else it s q k := by
  subst e
  by_cases h : q = o ∧ k = j
  · rw [if_pos h, h.1, h.2]
    exact fu_s _ _ _
  · rw [if_neg h]
    exact it_fu (fun z => h (by omega))
theorem mo_crowd_congr {s t : Nat → Nat} (n : Nat) (h : ∀ k, 56 ≤ k → k < 72 → t k = s k) : mo_crowd t n = mo_crowd s n := by
  unfold mo_crowd
  split
  · exact h _ (by omega) (by omega)
  · rfl
theorem In_does {s : Nat → Nat} (h : In s) {o wl : Nat} (ho : o < 6) : In (mo_doesS s o wl) := by
  refine In_of h (fun k hk => mo_doesS_r s ho hk) (fun q hq => ?_)
  have b := h.i hq
  have b2 := h.i ho
  unfold mo_doesS
  split
  · have key : ∀ k, k < 6 → it (fu s (12 + 6 * o) (if 0 < mo_pays s o then 1 else 0)) q k = if q = o ∧ k = 4 then (if 0 < mo_pays s o then 1 else 0) else it s q k := fun k hk => it_fu2 (by omega) hk (by omega)
    rw [key 0 (by omega), key 1 (by omega), key 2 (by omega), key 3 (by omega), key 4 (by omega), key 5 (by omega)]
    rw [if_neg (by omega), if_neg (by omega), if_neg (by omega), if_neg (by omega), if_neg (show ¬ (q = o ∧ 5 = 4) by omega)]
    refine ⟨b.1, b.2.1, b.2.2.1, b.2.2.2.1, ?_, b.2.2.2.2.2⟩
    repeat' split
    all_goals omega
  · split
    · exact b
    · have key : ∀ k, k < 6 → it (fu (fu s (13 + 6 * o) ((it s o 5 + 1) % 6)) (9 + 6 * o) (it s o 1 - s (50 + (it s o 5 + 1) % 6))) q k = if q = o ∧ k = 1 then (it s o 1 - s (50 + (it s o 5 + 1) % 6)) else if q = o ∧ k = 5 then (it s o 5 + 1) % 6 else it s q k := fun k hk => by
        rw [it_fu2 (o := o) (j := 1) (by omega) hk (by omega), it_fu2 (o := o) (j := 5) (by omega) hk (by omega)]
      rw [key 0 (by omega), key 1 (by omega), key 2 (by omega), key 3 (by omega), key 4 (by omega), key 5 (by omega)]
      refine ⟨?_, ?_, ?_, ?_, ?_, ?_⟩ <;> repeat' split
      all_goals omega


set_option maxHeartbeats 4000000 in
set_option maxRecDepth 100000 in
theorem cM_laysAside {l : Launch} {E : ic_E} {w : ic_w} {lv : Nat} (hl : lv < 5) : ic_C l E mX12_laysAside 1 0 0 False [ic_pt E 114, .int (nI lv)] SHs (hn w) SHs (ic_qv (fun h_ => h_ = hn (wr w 117 (mo_cp (w 117) (44 * lv) (w 115) (0) 44)))) := by
  refine ic_intro (by decide +kernel) (Nat.le_of_ble_eq_true rfl) ?_
  show xx l E _ _ 0 [(0, ic_pt E 114), (1, .int (nI lv))] _ _ _
  have lp : ∀ (n_ : Nat) (k : Nat) (u : ic_w), k ≤ 44 → u = wr w 117 (mo_cp (w 117) (44 * lv) (w 115) (0) k) → 44 - k < n_ → xx l E (ic_fr E mX12_laysAside 1 0 0 False SHs (ic_qv (fun h_ => h_ = hn (wr w 117 (mo_cp (w 117) (44 * lv) (w 115) (0) 44))))) (0, 0) 2 [(2, .int (nI k)), (0, ic_pt E 114), (1, .int (nI lv))] [] SHs (hn u) := by
    intro n_
    induction n_ with
    | zero => intro k u hk hu hm_; exact absurd hm_ (Nat.not_lt_zero _)
    | succ n_ ih_ =>
      intro k u hk hu hm_
      refine xx_iload_n (pc := 2) dX12_laysAside_2 0 rfl rfl ?_
      refine xx_bipush (pc := 3) dX12_laysAside_3 cc_bipush_44 ?_
      refine xx_icmp_geN (pc := 5) 31 dX12_laysAside_5 rfl (by omega) (by omega) (fun c1 => ?_) (fun c1 => ?_)
      · exact xx_vret (pc := 31) dX12_laysAside_31 rfl (Nat.le_refl _) (Nat.le_refl _) (ic_rv0 (by rw [hu, show k = 44 by omega]))
      · refine xx_aload_nP (pc := 8) dX12_laysAside_8 1 rfl rfl ?_
        refine xx_getR (pc := 9) 117 dX12_laysAside_9 sh_114 fX12_16_12 rfl rfl (by decide) ?_
        refine xx_bipush (pc := 12) dX12_laysAside_12 cc_bipush_44 ?_
        refine xx_iload_n (pc := 14) dX12_laysAside_14 2 rfl rfl ?_
        refine xx_imulN (pc := 15) dX12_laysAside_15 ?_
        refine xx_iload_n (pc := 16) dX12_laysAside_16 0 rfl rfl ?_
        refine xx_iaddN (pc := 17) dX12_laysAside_17 ?_
        refine xx_aload_nP (pc := 18) dX12_laysAside_18 1 rfl rfl ?_
        refine xx_getR (pc := 19) 115 dX12_laysAside_19 sh_114 fX12_7_12 rfl rfl (by decide) ?_
        refine xx_iload_n (pc := 22) dX12_laysAside_22 0 rfl rfl ?_
        refine xx_ialdN (pc := 23) dX12_laysAside_23 sh_115 (by omega) (by decide) ?_
        refine xx_iastE (j2 := k + 44 * lv) (pc := 24) dX12_laysAside_24 sh_117 (by omega) (by omega) (by decide) ?_
        refine xx_nw (fun w2 ew2 => ?_)
        refine xx_iincN (L' := [(2, .int (nI (k + 1))), (0, ic_pt E 114), (1, .int (nI lv))]) (pc := 25) dX12_laysAside_25 0 rfl cc_iconst_1 (Nat.le_of_ble_eq_true rfl) rfl ?_
        refine xx_goto (pc := 28) 2 dX12_laysAside_28 rfl ?_
        exact xx_sub [0, 1, 2] rfl (ih_ (k + 1) _ (by omega) (by rw [ew2, wu_wr, hu, wr_wr, wr_s, wr_n _ (by omega)]; congr 1; have := mo_cp_s (w 117) (44 * lv) (w 115) (0) k; rw [← this]; congr 1 <;> (first | rfl | (congr 1; omega) | omega)) (by omega))
  refine xx_iconst (pc := 0) dX12_laysAside_0 cc_iconst_0 ?_
  refine xx_istore_n (L' := [(2, .int (nI 0)), (0, ic_pt E 114), (1, .int (nI lv))]) (pc := 1) dX12_laysAside_1 rfl (Nat.le_of_ble_eq_true rfl) rfl ?_
  exact xx_sub [0, 1, 2] rfl (lp 45 0 w (by omega) (by rw [mo_cp_0, wr_id]) (by omega))

set_option maxHeartbeats 4000000 in
set_option maxRecDepth 100000 in
theorem cM_laysBack {l : Launch} {E : ic_E} {w : ic_w} {lv : Nat} (hl : lv < 5) : ic_C l E mX12_laysBack 1 0 0 False [ic_pt E 114, .int (nI lv)] SHs (hn w) SHs (ic_qv (fun h_ => h_ = hn (wr w 115 (mo_cp (w 115) (0) (w 117) (44 * lv) 44)))) := by
  refine ic_intro (by decide +kernel) (Nat.le_of_ble_eq_true rfl) ?_
  show xx l E _ _ 0 [(0, ic_pt E 114), (1, .int (nI lv))] _ _ _
  have lp : ∀ (n_ : Nat) (k : Nat) (u : ic_w), k ≤ 44 → u = wr w 115 (mo_cp (w 115) (0) (w 117) (44 * lv) k) → 44 - k < n_ → xx l E (ic_fr E mX12_laysBack 1 0 0 False SHs (ic_qv (fun h_ => h_ = hn (wr w 115 (mo_cp (w 115) (0) (w 117) (44 * lv) 44))))) (0, 0) 2 [(2, .int (nI k)), (0, ic_pt E 114), (1, .int (nI lv))] [] SHs (hn u) := by
    intro n_
    induction n_ with
    | zero => intro k u hk hu hm_; exact absurd hm_ (Nat.not_lt_zero _)
    | succ n_ ih_ =>
      intro k u hk hu hm_
      refine xx_iload_n (pc := 2) dX12_laysBack_2 0 rfl rfl ?_
      refine xx_bipush (pc := 3) dX12_laysBack_3 cc_bipush_44 ?_
      refine xx_icmp_geN (pc := 5) 31 dX12_laysBack_5 rfl (by omega) (by omega) (fun c1 => ?_) (fun c1 => ?_)
      · exact xx_vret (pc := 31) dX12_laysBack_31 rfl (Nat.le_refl _) (Nat.le_refl _) (ic_rv0 (by rw [hu, show k = 44 by omega]))
      · refine xx_aload_nP (pc := 8) dX12_laysBack_8 1 rfl rfl ?_
        refine xx_getR (pc := 9) 115 dX12_laysBack_9 sh_114 fX12_7_12 rfl rfl (by decide) ?_
        refine xx_iload_n (pc := 12) dX12_laysBack_12 0 rfl rfl ?_
        refine xx_aload_nP (pc := 13) dX12_laysBack_13 1 rfl rfl ?_
        refine xx_getR (pc := 14) 117 dX12_laysBack_14 sh_114 fX12_16_12 rfl rfl (by decide) ?_
        refine xx_bipush (pc := 17) dX12_laysBack_17 cc_bipush_44 ?_
        refine xx_iload_n (pc := 19) dX12_laysBack_19 2 rfl rfl ?_
        refine xx_imulN (pc := 20) dX12_laysBack_20 ?_
        refine xx_iload_n (pc := 21) dX12_laysBack_21 0 rfl rfl ?_
        refine xx_iaddN (pc := 22) dX12_laysBack_22 ?_
        refine xx_ialdE (j2 := k + 44 * lv) (pc := 23) dX12_laysBack_23 sh_117 (by omega) (by omega) (by decide) ?_
        refine xx_iastN (pc := 24) dX12_laysBack_24 sh_115 (by omega) (by decide) ?_
        refine xx_nw (fun w2 ew2 => ?_)
        refine xx_iincN (L' := [(2, .int (nI (k + 1))), (0, ic_pt E 114), (1, .int (nI lv))]) (pc := 25) dX12_laysBack_25 0 rfl cc_iconst_1 (Nat.le_of_ble_eq_true rfl) rfl ?_
        refine xx_goto (pc := 28) 2 dX12_laysBack_28 rfl ?_
        exact xx_sub [0, 1, 2] rfl (ih_ (k + 1) _ (by omega) (by rw [ew2, wu_wr, hu, wr_wr, wr_s, wr_n _ (by omega)]; congr 1; have := mo_cp_s (w 115) (0) (w 117) (44 * lv) k; rw [← this]; congr 1 <;> (first | rfl | (congr 1; omega) | omega)) (by omega))
  refine xx_iconst (pc := 0) dX12_laysBack_0 cc_iconst_0 ?_
  refine xx_istore_n (L' := [(2, .int (nI 0)), (0, ic_pt E 114), (1, .int (nI lv))]) (pc := 1) dX12_laysBack_1 rfl (Nat.le_of_ble_eq_true rfl) rfl ?_
  exact xx_sub [0, 1, 2] rfl (lp 45 0 w (by omega) (by rw [mo_cp_0, wr_id]) (by omega))

set_option maxHeartbeats 4000000 in
set_option maxRecDepth 100000 in
theorem cM_does {l : Launch} {E : ic_E} {w : ic_w} {o wl : Nat} (ho : o < 6) (hwl : wl ≤ 2) (hI : In (w 115)) : ic_C l E mX12_does 3 0 0 False [ic_pt E 114, .int (nI o), .int (nI wl)] SHs (hn w) SHs (ic_qr (mo_doesW (w 115) o wl) w (mo_doesS (w 115) o wl)) := by
  refine ic_intro (by decide +kernel) (Nat.le_of_ble_eq_true rfl) ?_
  show xx l E _ _ 0 [(0, ic_pt E 114), (1, .int (nI o)), (2, .int (nI wl))] _ _ _
  have ho5 := hI.i ho
  have hp := mo_pays_le hI ho
  have hcr := hI.cr (w 115 1)
  have ht := hI.t
  have hpo := (hI.f (f := (it (w 115) o 5 + 1) % 6) (by omega)).2
  rcases (show wl = 0 ∨ wl = 1 ∨ wl = 2 by omega) with rfl | rfl | rfl
  · refine xx_bipush (pc := 0) dX12_does_0 cc_bipush_8 ?_
    refine xx_bipush (pc := 2) dX12_does_2 cc_bipush_6 ?_
    refine xx_iload_n (pc := 4) dX12_does_4 1 rfl rfl ?_
    refine xx_imulN (pc := 5) dX12_does_5 ?_
    refine xx_iaddN (pc := 6) dX12_does_6 ?_
    refine xx_istore_n (L' := [(3, .int (nI (8 + (6 * o)))), (0, ic_pt E 114), (1, .int (nI o)), (2, .int (nI 0))]) (pc := 7) dX12_does_7 rfl (Nat.le_of_ble_eq_true rfl) rfl ?_
    refine xx_iload_n (pc := 8) dX12_does_8 3 rfl rfl ?_
    refine xx_if_neN (pc := 9) 40 dX12_does_9 rfl (by omega) (fun c1 => by exfalso; omega) (fun c1 => ?_)
    refine xx_aload_nP (pc := 12) dX12_does_12 1 rfl rfl ?_
    refine xx_iload_n (pc := 13) dX12_does_13 2 rfl rfl ?_
    refine xx_callV0 (pc := 14) (st := []) sh_114 (cM_pays (w := w) (o := o) (by omega) hI) kX12_pays vX12_110_12 dX12_does_14 rfl rfl (Nat.le_of_ble_eq_true rfl) ⟨Nat.le_of_ble_eq_true rfl, Nat.le_of_ble_eq_true rfl⟩ ⟨Nat.zero_le _, Nat.zero_le _⟩ (ic_ke ?_)
    refine xx_istore (L' := [(4, .int (nI (mo_pays (w 115) o))), (3, .int (nI (8 + (6 * o)))), (0, ic_pt E 114), (1, .int (nI o)), (2, .int (nI 0))]) (pc := 17) dX12_does_17 (Nat.le_of_ble_eq_true rfl) rfl ?_
    refine xx_aload_nP (pc := 19) dX12_does_19 2 rfl rfl ?_
    refine xx_getR (pc := 20) 115 dX12_does_20 sh_114 fX12_7_12 rfl rfl (by decide) ?_
    refine xx_iload_n (pc := 23) dX12_does_23 1 rfl rfl ?_
    refine xx_iconst (pc := 24) dX12_does_24 cc_iconst_4 ?_
    refine xx_iaddN (pc := 25) dX12_does_25 ?_
    refine xx_iload (pc := 26) dX12_does_26 0 rfl ?_
    refine xx_if_leN (pc := 28) 35 dX12_does_28 rfl (by omega) (fun c2 => ?_) (fun c2 => ?_)
    · refine xx_iconst (pc := 35) dX12_does_35 cc_iconst_0 ?_
      refine xx_iastE (j2 := 12 + 6 * o) (pc := 36) dX12_does_36 sh_115 (by omega) (by omega) (by decide) ?_
      refine xx_nw (fun w3 ew3 => ?_)
      refine xx_iload (pc := 37) dX12_does_37 0 rfl ?_
      exact xx_iret (pc := 39) dX12_does_39 rfl (rfl) (Nat.le_refl _) (Nat.le_refl _) (ic_rr rfl (by subst_vars; rw [wu_wr]; unfold mo_doesS; simp [*]))
    · refine xx_iconst (pc := 31) dX12_does_31 cc_iconst_1 ?_
      refine xx_goto (pc := 32) 36 dX12_does_32 rfl ?_
      refine xx_iastE (j2 := 12 + 6 * o) (pc := 36) dX12_does_36 sh_115 (by omega) (by omega) (by decide) ?_
      refine xx_nw (fun w4 ew4 => ?_)
      refine xx_iload (pc := 37) dX12_does_37 0 rfl ?_
      exact xx_iret (pc := 39) dX12_does_39 rfl (rfl) (Nat.le_refl _) (Nat.le_refl _) (ic_rr rfl (by subst_vars; rw [wu_wr]; unfold mo_doesS; simp [*]))
  · refine xx_bipush (pc := 0) dX12_does_0 cc_bipush_8 ?_
    refine xx_bipush (pc := 2) dX12_does_2 cc_bipush_6 ?_
    refine xx_iload_n (pc := 4) dX12_does_4 1 rfl rfl ?_
    refine xx_imulN (pc := 5) dX12_does_5 ?_
    refine xx_iaddN (pc := 6) dX12_does_6 ?_
    refine xx_istore_n (L' := [(3, .int (nI (8 + (6 * o)))), (0, ic_pt E 114), (1, .int (nI o)), (2, .int (nI 1))]) (pc := 7) dX12_does_7 rfl (Nat.le_of_ble_eq_true rfl) rfl ?_
    refine xx_iload_n (pc := 8) dX12_does_8 3 rfl rfl ?_
    refine xx_if_neN (pc := 9) 40 dX12_does_9 rfl (by omega) (fun c1 => ?_) (fun c1 => by exfalso; omega)
    refine xx_iload_n (pc := 40) dX12_does_40 3 rfl rfl ?_
    refine xx_iconst (pc := 41) dX12_does_41 cc_iconst_2 ?_
    refine xx_icmp_neN (pc := 42) 47 dX12_does_42 rfl (by omega) (by omega) (fun c2 => ?_) (fun c2 => by exfalso; omega)
    refine xx_aload_nP (pc := 47) dX12_does_47 1 rfl rfl ?_
    refine xx_getR (pc := 48) 115 dX12_does_48 sh_114 fX12_7_12 rfl rfl (by decide) ?_
    refine xx_iload_n (pc := 51) dX12_does_51 0 rfl rfl ?_
    refine xx_iconst (pc := 52) dX12_does_52 cc_iconst_5 ?_
    refine xx_iaddN (pc := 53) dX12_does_53 ?_
    refine xx_aload_nP (pc := 54) dX12_does_54 1 rfl rfl ?_
    refine xx_getR (pc := 55) 115 dX12_does_55 sh_114 fX12_7_12 rfl rfl (by decide) ?_
    refine xx_iload_n (pc := 58) dX12_does_58 0 rfl rfl ?_
    refine xx_iconst (pc := 59) dX12_does_59 cc_iconst_5 ?_
    refine xx_iaddN (pc := 60) dX12_does_60 ?_
    refine xx_ialdE (j2 := 8 + 6 * o + 5) (pc := 61) dX12_does_61 sh_115 (by omega) (by omega) (by decide) ?_
    refine xx_eqI (y := nI (it (w 115) o 5)) rfl ?_
    refine xx_iconst (pc := 62) dX12_does_62 cc_iconst_1 ?_
    refine xx_iaddN (pc := 63) dX12_does_63 ?_
    refine xx_bipush (pc := 64) dX12_does_64 cc_bipush_6 ?_
    refine xx_iremN (pc := 66) dX12_does_66 (by omega) (by omega) (by omega) ?_
    refine xx_iastE (j2 := 13 + 6 * o) (pc := 67) dX12_does_67 sh_115 (by omega) (by omega) (by decide) ?_
    refine xx_nw (fun w3 ew3 => ?_)
    have g1 : it (w3 115) o 1 = it (w 115) o 1 := by rw [ew3, wu_wr, wr_s]; exact it_fu (by omega)
    have g5 : it (w3 115) o 5 = (it (w 115) o 5 + 1) % 6 := by rw [ew3, wu_wr, wr_s]; show fu _ _ _ (8 + 6 * o + 5) = _; rw [show 8 + 6 * o + 5 = 13 + 6 * o by omega, fu_s]
    have gp : w3 115 (50 + it (w3 115) o 5) = w 115 (50 + (it (w 115) o 5 + 1) % 6) := by rw [g5, ew3, wu_wr, wr_s, fu_n _ (by omega)]
    have gc : w3 115 1 = w 115 1 := by rw [ew3, wu_wr, wr_s, fu_n _ (by omega)]
    refine xx_aload_nP (pc := 68) dX12_does_68 1 rfl rfl ?_
    refine xx_getR (pc := 69) 115 dX12_does_69 sh_114 fX12_7_12 rfl rfl (by decide) ?_
    refine xx_iload_n (pc := 72) dX12_does_72 0 rfl rfl ?_
    refine xx_iconst (pc := 73) dX12_does_73 cc_iconst_1 ?_
    refine xx_iaddN (pc := 74) dX12_does_74 ?_
    refine xx_iconst (pc := 75) dX12_does_75 cc_iconst_0 ?_
    refine xx_aload_nP (pc := 76) dX12_does_76 1 rfl rfl ?_
    refine xx_getR (pc := 77) 115 dX12_does_77 sh_114 fX12_7_12 rfl rfl (by decide) ?_
    refine xx_iload_n (pc := 80) dX12_does_80 0 rfl rfl ?_
    refine xx_iconst (pc := 81) dX12_does_81 cc_iconst_1 ?_
    refine xx_iaddN (pc := 82) dX12_does_82 ?_
    refine xx_ialdE (j2 := 8 + 6 * o + 1) (pc := 83) dX12_does_83 sh_115 (by omega) (by omega) (by decide) ?_
    refine xx_eqI (y := nI (it (w3 115) o 1)) rfl ?_
    refine xx_aload_nP (pc := 84) dX12_does_84 1 rfl rfl ?_
    refine xx_getR (pc := 85) 115 dX12_does_85 sh_114 fX12_7_12 rfl rfl (by decide) ?_
    refine xx_bipush (pc := 88) dX12_does_88 cc_bipush_50 ?_
    refine xx_aload_nP (pc := 90) dX12_does_90 1 rfl rfl ?_
    refine xx_getR (pc := 91) 115 dX12_does_91 sh_114 fX12_7_12 rfl rfl (by decide) ?_
    refine xx_iload_n (pc := 94) dX12_does_94 0 rfl rfl ?_
    refine xx_iconst (pc := 95) dX12_does_95 cc_iconst_5 ?_
    refine xx_iaddN (pc := 96) dX12_does_96 ?_
    refine xx_ialdE (j2 := 8 + 6 * o + 5) (pc := 97) dX12_does_97 sh_115 (by omega) (by omega) (by decide) ?_
    refine xx_eqI (y := nI (it (w3 115) o 5)) rfl ?_
    refine xx_iaddN (pc := 98) dX12_does_98 ?_
    refine xx_ialdE (j2 := 50 + it (w3 115) o 5) (pc := 99) dX12_does_99 sh_115 (by omega) (by omega) (by decide) ?_
    refine xx_isubW (pc := 100) dX12_does_100 (by omega) ?_
    refine xx_callS0 (pc := 101) (st := [.int (nI ((8 + (6 * o)) + 1)), ic_pt E 115]) (cM_greatest0 (w := w3) (a := (it (w3 115) o 1)) (b := (w3 115 (50 + it (w3 115) o 5))) (by omega) (by omega)) kX12_greatest sX12_78 dX12_does_101 rfl rfl (Nat.le_of_ble_eq_true rfl) ⟨Nat.le_of_ble_eq_true rfl, Nat.le_of_ble_eq_true rfl⟩ ⟨Nat.zero_le _, Nat.zero_le _⟩ (ic_ke ?_)
    refine xx_iastE (j2 := 9 + 6 * o) (pc := 104) dX12_does_104 sh_115 (by omega) (by omega) (by decide) ?_
    refine xx_nw (fun w4 ew4 => ?_)
    have gc2 : w4 115 1 = w 115 1 := by rw [ew4, wu_wr, wr_s, fu_n _ (by omega), gc]
    have gcr : mo_crowd (w4 115) (w4 115 1) = mo_crowd (w 115) (w 115 1) := by rw [gc2]; exact mo_crowd_congr _ (fun k h1 h2 => by rw [ew4, wu_wr, wr_s, fu_n _ (by omega), ew3, wu_wr, wr_s, fu_n _ (by omega)])
    refine xx_aload_nP (pc := 105) dX12_does_105 1 rfl rfl ?_
    refine xx_aload_nP (pc := 106) dX12_does_106 1 rfl rfl ?_
    refine xx_getR (pc := 107) 115 dX12_does_107 sh_114 fX12_7_12 rfl rfl (by decide) ?_
    refine xx_iconst (pc := 110) dX12_does_110 cc_iconst_1 ?_
    refine xx_ialdN (pc := 111) dX12_does_111 sh_115 (by omega) (by decide) ?_
    refine xx_callV0 (pc := 112) (st := []) sh_114 (cM_crowdOf (w := w4) (t := w4 115 1) (by omega)) kX12_crowdOf vX12_85_12 dX12_does_112 rfl rfl (Nat.le_of_ble_eq_true rfl) ⟨Nat.le_of_ble_eq_true rfl, Nat.le_of_ble_eq_true rfl⟩ ⟨Nat.zero_le _, Nat.zero_le _⟩ (ic_ke ?_)
    refine xx_iconst (pc := 115) dX12_does_115 cc_iconst_4 ?_
    refine xx_iremN (pc := 116) dX12_does_116 (by omega) (by omega) (by omega) ?_
    refine xx_if_leN (pc := 117) 124 dX12_does_117 rfl (by omega) (fun c5 => ?_) (fun c5 => ?_)
    · refine xx_iconst (pc := 124) dX12_does_124 cc_iconst_0 ?_
      exact xx_iret (pc := 125) dX12_does_125 rfl (rfl) (Nat.le_refl _) (Nat.le_refl _) (ic_rr (by unfold mo_doesW; rw [← gcr, if_neg (by omega), if_neg (by omega)]; first | rw [if_pos (by omega)] | rw [if_neg (by omega)]) (by rw [ew4, g1, gp, wu_wr, ew3, wu_wr, wr_wr, wr_s]; unfold mo_doesS; simp))
    · refine xx_iconst (pc := 120) dX12_does_120 cc_iconst_1 ?_
      refine xx_goto (pc := 121) 125 dX12_does_121 rfl ?_
      exact xx_iret (pc := 125) dX12_does_125 rfl (rfl) (Nat.le_refl _) (Nat.le_refl _) (ic_rr (by unfold mo_doesW; rw [← gcr, if_neg (by omega), if_neg (by omega)]; first | rw [if_pos (by omega)] | rw [if_neg (by omega)]) (by rw [ew4, g1, gp, wu_wr, ew3, wu_wr, wr_wr, wr_s]; unfold mo_doesS; simp))
  · refine xx_bipush (pc := 0) dX12_does_0 cc_bipush_8 ?_
    refine xx_bipush (pc := 2) dX12_does_2 cc_bipush_6 ?_
    refine xx_iload_n (pc := 4) dX12_does_4 1 rfl rfl ?_
    refine xx_imulN (pc := 5) dX12_does_5 ?_
    refine xx_iaddN (pc := 6) dX12_does_6 ?_
    refine xx_istore_n (L' := [(3, .int (nI (8 + (6 * o)))), (0, ic_pt E 114), (1, .int (nI o)), (2, .int (nI 2))]) (pc := 7) dX12_does_7 rfl (Nat.le_of_ble_eq_true rfl) rfl ?_
    refine xx_iload_n (pc := 8) dX12_does_8 3 rfl rfl ?_
    refine xx_if_neN (pc := 9) 40 dX12_does_9 rfl (by omega) (fun c1 => ?_) (fun c1 => by exfalso; omega)
    refine xx_iload_n (pc := 40) dX12_does_40 3 rfl rfl ?_
    refine xx_iconst (pc := 41) dX12_does_41 cc_iconst_2 ?_
    refine xx_icmp_neN (pc := 42) 47 dX12_does_42 rfl (by omega) (by omega) (fun c2 => by exfalso; omega) (fun c2 => ?_)
    refine xx_iconst (pc := 45) dX12_does_45 cc_iconst_0 ?_
    exact xx_iret (pc := 46) dX12_does_46 rfl (rfl) (Nat.le_refl _) (Nat.le_refl _) (ic_rr rfl (by unfold mo_doesS; simp [wr_id]))

theorem mo_s1_r (s : Nat → Nat) {act k : Nat} (ha : act ≤ 6) (h : k < 8 ∨ 44 ≤ k) : mo_s1 s act k = s k := by
  unfold mo_s1
  split
  · rfl
  · split
    · exact mo_doesS_r s (by omega) h
    · rfl
theorem In_s1 {s : Nat → Nat} (h : In s) {act : Nat} (ha : act ≤ 6) : In (mo_s1 s act) := by
  unfold mo_s1
  split
  · exact h
  · split
    · exact In_does h (by omega)
    · exact h
theorem Ru_s1 {s : Nat → Nat} (h : Ru s) {act : Nat} (ha : act ≤ 6) : Ru (mo_s1 s act) := Ru_of h (fun _ hk => mo_s1_r s ha hk)
theorem In_sk {s : Nat → Nat} (h : In s) {n : Nat} (hn : n ≤ 6) : In (mo_sk s n) := by
  refine In_of h (fun k hk => mo_sk_hi s (by omega)) (fun q hq => ?_)
  have b := h.i hq
  have e0 : (8 + 6 * q + 0 - 8) / 6 = q ∧ (8 + 6 * q + 0 - 8) % 6 = 0 := by omega
  have e1 : (8 + 6 * q + 1 - 8) / 6 = q ∧ (8 + 6 * q + 1 - 8) % 6 = 1 := by omega
  have e2 : (8 + 6 * q + 2 - 8) / 6 = q ∧ (8 + 6 * q + 2 - 8) % 6 = 2 := by omega
  have e3 : (8 + 6 * q + 3 - 8) / 6 = q ∧ (8 + 6 * q + 3 - 8) % 6 = 3 := by omega
  have e4 : (8 + 6 * q + 4 - 8) / 6 = q ∧ (8 + 6 * q + 4 - 8) % 6 = 4 := by omega
  have e5 : (8 + 6 * q + 5 - 8) / 6 = q ∧ (8 + 6 * q + 5 - 8) % 6 = 5 := by omega
  unfold it at b
  unfold it mo_sk
  rw [e0.1, e0.2, e1.1, e1.2, e2.1, e2.2, e3.1, e3.2, e4.1, e4.2, e5.1, e5.2]
  refine ⟨?_, ?_, ?_, ?_, ?_, ?_⟩ <;> repeat' split
  all_goals omega
theorem mo_w1_le {s : Nat → Nat} (h : In s) {act : Nat} (ha : act ≤ 6) : mo_w1 s act ≤ 27 := by
  unfold mo_w1
  split
  · omega
  · split
    · have := mo_pays_le h (o := act - 1) (by omega)
      unfold mo_doesW
      repeat' split
      all_goals omega
    · omega
theorem mo_w2_le (s : Nat → Nat) {n : Nat} (hn : n ≤ 6) : mo_w2 s n ≤ 6 := Nat.le_trans (mo_cnt_le _ n) hn
theorem mo_worth_le {s : Nat → Nat} (h : In s) {act : Nat} (ha : act ≤ 6) : mo_worth s act ≤ 33 := by
  have := mo_w1_le h ha
  have := mo_w2_le (mo_s1 s act) h.n
  unfold mo_worth
  omega
theorem mo_go_r (s : Nat → Nat) {act k : Nat} (ha : act ≤ 6) (hn : s 0 ≤ 6) (h : k ≠ 1 ∧ k ≠ 3 ∧ (k < 8 ∨ 44 ≤ k)) : mo_go s act k = s k := by
  unfold mo_go
  rw [if_neg h.1, if_neg h.2.1, mo_sk_hi _ (by omega), mo_s1_r s ha h.2.2]
theorem mo_go_it (s : Nat → Nat) (act o j : Nat) : it (mo_go s act) o j = it (mo_sk (mo_s1 s act) (s 0)) o j := by
  unfold it mo_go
  rw [if_neg (by omega), if_neg (by omega)]
theorem mo_go_1 (s : Nat → Nat) (act : Nat) : mo_go s act 1 = s 1 + 1 := by unfold mo_go; rw [if_pos rfl]
theorem In_go {s : Nat → Nat} (h : In s) {act : Nat} (ha : act ≤ 6) (ht : s 1 < s 2) : In (mo_go s act) := by
  have h2 := In_sk (In_s1 h ha) h.n
  have e : ∀ k, k ≠ 1 → k ≠ 3 → mo_go s act k = mo_sk (mo_s1 s act) (s 0) k := fun k h1 h3 => by unfold mo_go; rw [if_neg h1, if_neg h3]
  have e2 : mo_go s act 2 = s 2 := mo_go_r s ha h.n (by omega)
  obtain ⟨a, ⟨b1, b2, b3⟩, ⟨c1, c2, c3⟩, d, f1, f2, g⟩ := h2
  have ht2 := h.t
  refine ⟨by rw [e 0 (by omega) (by omega)]; exact a, ⟨by rw [mo_go_1, e2]; omega, by rw [e2]; omega, by rw [e2]; omega⟩, ⟨by rw [e 5 (by omega) (by omega)]; exact c1, by rw [e 6 (by omega) (by omega)]; exact c2, by rw [e 7 (by omega) (by omega)]; exact c3⟩,
    fun o ho => by rw [mo_go_it, mo_go_it, mo_go_it, mo_go_it, mo_go_it, mo_go_it]; exact d o ho, fun f hf => by rw [e _ (by omega) (by omega), e _ (by omega) (by omega)]; exact f1 f hf, fun t ht => by rw [e _ (by omega) (by omega)]; exact f2 t ht, fun k hk => ?_⟩
  by_cases z1 : k = 1
  · subst z1
    rw [mo_go_1]
    omega
  · by_cases z3 : k = 3
    · subst z3
      unfold mo_go
      rw [if_neg z1, if_pos rfl]
      exact Nat.mod_lt _ (by decide)
    · rw [e k z1 z3]
      exact g k hk
theorem Ru_go {s : Nat → Nat} (h : Ru s) (hi : In s) {act : Nat} (ha : act ≤ 6) : Ru (mo_go s act) := by
  have hd : ∀ b n, mo_dp (mo_go s act) b n = mo_dp s b n := by
    intro b n
    induction n with
    | zero => rfl
    | succ n ih => rw [mo_dp, mo_dp, ih, mo_go_r s ha hi.n (by omega)]
  refine ⟨fun r hr => ?_, fun k hk => ?_⟩
  · rw [mo_go_r s ha hi.n (by omega)] at hr
    rw [mo_go_r s ha hi.n (by omega), mo_go_r s ha hi.n (by omega), mo_go_r s ha hi.n (by omega), mo_go_r s ha hi.n (by omega), mo_go_r s ha hi.n (k := 7) (by omega)]
    have := h.1 r hr
    exact ⟨this.1, this.2.1, this.2.2.1, this.2.2.2.1, fun n hn => by rw [hd]; exact this.2.2.2.2 n hn⟩
  · rw [mo_go_r s ha hi.n (by omega)] at hk
    rw [mo_go_r s ha hi.n (by omega), mo_go_r s ha hi.n (by omega), mo_go_r s ha hi.n (by omega)]
    exact h.2 k hk
/-- a train has gone by in the reference: the row of numbers is the one behind it; the row of what they sink is scratch -/
def mo_gone (w : ic_w) (act : Nat) (w2 : ic_w) : Prop := w2 115 = mo_go (w 115) act ∧ ∀ a, a ≠ 115 → a ≠ 120 → w2 a = w a
theorem hn_eq {w w2 : ic_w} (h : ∀ a k, nI (w a k) = nI (w2 a k)) : hn w = hn w2 := funext fun a => funext fun k => h a k
set_option maxHeartbeats 4000000 in
set_option maxRecDepth 100000 in
theorem cM_goesWith {l : Launch} {E : ic_E} {w : ic_w} {act : Nat} (ha : act ≤ 6) (han : act ≤ w 115 0) (hI : In (w 115)) (hR : Ru (w 115)) (htt : w 115 1 < w 115 2) : ic_C l E mX12_goesWith 5 0 0 False [ic_pt E 114, .int (nI act)] SHs (hn w) SHs (ic_qi (fun v_ h_ => v_ = nI (mo_worth (w 115) act) ∧ ∃ w2, h_ = hn w2 ∧ mo_gone w act w2)) := by
  refine ic_intro (by decide +kernel) (Nat.le_of_ble_eq_true rfl) ?_
  show xx l E _ _ 0 [(0, ic_pt E 114), (1, .int (nI act))] _ _ _
  have hn0 := hI.n
  have lp2 : ∀ (n_ : Nat) (o c : Nat) (u : ic_w), o ≤ w 115 0 → u 115 = mo_sk (mo_s1 (w 115) act) o → (∀ a, a ≠ 115 → a ≠ 120 → u a = w a) → (∀ j, j < w 115 0 → u 120 j = mo_sunk (mo_s1 (w 115) act) j) → c = mo_w1 (w 115) act + mo_w2 (mo_s1 (w 115) act) o → w 115 0 - o < n_ → xx l E (ic_fr E mX12_goesWith 5 0 0 False SHs (ic_qi (fun v_ h_ => v_ = nI (mo_worth (w 115) act) ∧ ∃ w2, h_ = hn w2 ∧ mo_gone w act w2))) (0, 0) 68 [(4, .int (nI o)), (3, .int (nI c)), (0, ic_pt E 114)] [] SHs (hn u) := by
    intro n_
    induction n_ with
    | zero => intro o c u ho hu hr hv hc hm_; exact absurd hm_ (Nat.not_lt_zero _)
    | succ n_ ih_ =>
      intro o c u ho hu hr hv hc hm_
      have hI1 := In_s1 hI ha
      have hI_u : In (u 115) := by rw [hu]; exact In_sk hI1 (by omega)
      have e0 : u 115 0 = w 115 0 := by rw [hu, mo_sk_hi _ (by omega), mo_s1_r _ ha (by omega)]
      have e1 : u 115 1 = w 115 1 := by rw [hu, mo_sk_hi _ (by omega), mo_s1_r _ ha (by omega)]
      have ht := hI.t
      have hw2l := mo_w2_le (mo_s1 (w 115) act) (n := o) (by omega)
      have hw1l := mo_w1_le hI ha
      refine xx_iload (pc := 68) dX12_goesWith_68 0 rfl ?_
      refine xx_aload_nP (pc := 70) dX12_goesWith_70 2 rfl rfl ?_
      refine xx_getR (pc := 71) 115 dX12_goesWith_71 sh_114 fX12_7_12 rfl rfl (by decide) ?_
      refine xx_iconst (pc := 74) dX12_goesWith_74 cc_iconst_0 ?_
      refine xx_ialdN (pc := 75) dX12_goesWith_75 sh_115 (by omega) (by decide) ?_
      refine xx_icmp_geN (pc := 76) 205 dX12_goesWith_76 rfl (by omega) (by omega) (fun c1 => ?_) (fun c1 => ?_)
      · refine xx_aload_nP (pc := 205) dX12_goesWith_205 2 rfl rfl ?_
        refine xx_getR (pc := 206) 115 dX12_goesWith_206 sh_114 fX12_7_12 rfl rfl (by decide) ?_
        refine xx_iconst (pc := 209) dX12_goesWith_209 cc_iconst_1 ?_
        refine xx_dup2 (pc := 210) dX12_goesWith_210 rfl rfl ?_
        refine xx_ialdN (pc := 211) dX12_goesWith_211 sh_115 (by omega) (by decide) ?_
        refine xx_iconst (pc := 212) dX12_goesWith_212 cc_iconst_1 ?_
        refine xx_iaddN (pc := 213) dX12_goesWith_213 ?_
        refine xx_iastN (pc := 214) dX12_goesWith_214 sh_115 (by omega) (by decide) ?_
        refine xx_nw (fun w2 ew2 => ?_)
        refine xx_aload_nP (pc := 215) dX12_goesWith_215 2 rfl rfl ?_
        refine xx_getR (pc := 216) 115 dX12_goesWith_216 sh_114 fX12_7_12 rfl rfl (by decide) ?_
        refine xx_iconst (pc := 219) dX12_goesWith_219 cc_iconst_3 ?_
        refine xx_dup2 (pc := 220) dX12_goesWith_220 rfl rfl ?_
        refine xx_ialdN (pc := 221) dX12_goesWith_221 sh_115 (by omega) (by decide) ?_
        refine xx_iload_n (pc := 222) dX12_goesWith_222 1 rfl rfl ?_
        refine xx_iaddN (pc := 223) dX12_goesWith_223 ?_
        refine xx_iastN (pc := 224) dX12_goesWith_224 sh_115 (by omega) (by decide) ?_
        refine xx_nw (fun w3 ew3 => ?_)
        refine xx_iload_n (pc := 225) dX12_goesWith_225 1 rfl rfl ?_
        have ho : o = w 115 0 := by omega
        have hcw : c = mo_worth (w 115) act := by rw [hc, ho]; rfl
        refine xx_iret (pc := 226) dX12_goesWith_226 rfl rfl (Nat.le_refl _) (Nat.le_refl _) ⟨_, rfl, by rw [hcw], wr w3 115 (mo_go (w 115) act), hn_eq (fun a k => ?_), wr_s _ _ _, fun a q1 q2 => ?_⟩
        · unfold wr
          by_cases q : a = 115
          · subst q
            rw [if_pos rfl, ew3, wu_wr, wr_s, ew2, wu_wr, wr_s]
            unfold mo_go
            by_cases z3 : k = 3
            · subst z3
              rw [fu_s, if_neg (by omega), if_pos rfl, nI_mod, fu_n _ (by omega), hu, mo_sk_hi _ (by omega), mo_s1_r _ ha (by omega), hcw]
            · rw [fu_n _ z3, if_neg z3]
              by_cases z1 : k = 1
              · subst z1
                rw [fu_s, if_pos rfl, e1]
              · rw [fu_n _ z1, if_neg z1, hu, ho]
          · rw [if_neg q]
        · rw [wr_n _ q1, ew3, wu_row _ _ _ q1, ew2, wu_row _ _ _ q1]
          exact hr a q1 q2
      · have b := hI1.i (o := o) (by omega)
        have g0 : it (u 115) o 0 = it (mo_s1 (w 115) act) o 0 := by rw [hu]; exact mo_sk_it _ (Nat.le_refl _)
        have g1 : it (u 115) o 1 = it (mo_s1 (w 115) act) o 1 := by rw [hu]; exact mo_sk_it _ (Nat.le_refl _)
        have g2 : it (u 115) o 2 = it (mo_s1 (w 115) act) o 2 := by rw [hu]; exact mo_sk_it _ (Nat.le_refl _)
        have g3 : it (u 115) o 3 = it (mo_s1 (w 115) act) o 3 := by rw [hu]; exact mo_sk_it _ (Nat.le_refl _)
        have g4 : it (u 115) o 4 = it (mo_s1 (w 115) act) o 4 := by rw [hu]; exact mo_sk_it _ (Nat.le_refl _)
        have g5 : it (u 115) o 5 = it (mo_s1 (w 115) act) o 5 := by rw [hu]; exact mo_sk_it _ (Nat.le_refl _)
        have hs := hv o (by omega)
        have hsl := mo_sunk_le hI1 o
        have e11 : mo_s1 (w 115) act 1 = w 115 1 := mo_s1_r _ ha (by omega)
        have hdl := mo_drifts_le (it (mo_s1 (w 115) act) o 0) (w 115 1)
        refine xx_bipush (pc := 79) dX12_goesWith_79 cc_bipush_8 ?_
        refine xx_bipush (pc := 81) dX12_goesWith_81 cc_bipush_6 ?_
        refine xx_iload (pc := 83) dX12_goesWith_83 0 rfl ?_
        refine xx_imulN (pc := 85) dX12_goesWith_85 ?_
        refine xx_iaddN (pc := 86) dX12_goesWith_86 ?_
        refine xx_istore (L' := [(5, .int (nI (8 + (6 * o)))), (4, .int (nI o)), (3, .int (nI c)), (0, ic_pt E 114)]) (pc := 87) dX12_goesWith_87 (Nat.le_of_ble_eq_true rfl) rfl ?_
        refine xx_aload_nP (pc := 89) dX12_goesWith_89 3 rfl rfl ?_
        refine xx_getR (pc := 90) 115 dX12_goesWith_90 sh_114 fX12_7_12 rfl rfl (by decide) ?_
        refine xx_iload (pc := 93) dX12_goesWith_93 0 rfl ?_
        refine xx_iconst (pc := 95) dX12_goesWith_95 cc_iconst_4 ?_
        refine xx_iaddN (pc := 96) dX12_goesWith_96 ?_
        refine xx_ialdE (j2 := 8 + 6 * o + 4) (pc := 97) dX12_goesWith_97 sh_115 (by omega) (by omega) (by decide) ?_
        refine xx_eqI (y := nI (it (u 115) o 4)) rfl ?_
        refine xx_if_neN (pc := 98) 199 dX12_goesWith_98 rfl (by omega) (fun c4 => ?_) (fun c4 => ?_)
        · refine xx_iincN (L' := [(4, .int (nI (o + 1))), (5, .int (nI (8 + (6 * o)))), (3, .int (nI c)), (0, ic_pt E 114)]) (pc := 199) dX12_goesWith_199 1 rfl cc_iconst_1 (Nat.le_of_ble_eq_true rfl) rfl ?_
          refine xx_goto (pc := 202) 68 dX12_goesWith_202 rfl ?_
          have g4n : ¬ it (mo_s1 (w 115) act) o 4 = 0 := by rw [← g4]; assumption
          exact xx_sub [0, 2, 3] rfl (ih_ (o + 1) _ u (by omega) (by rw [mo_sk_f g4n]; exact hu) hr hv (by rw [hc]; congr 1; exact (mo_cnt_f (by simp [g4n])).symm) (by omega))
        · refine xx_aload_nP (pc := 101) dX12_goesWith_101 3 rfl rfl ?_
          refine xx_getR (pc := 102) 115 dX12_goesWith_102 sh_114 fX12_7_12 rfl rfl (by decide) ?_
          refine xx_iload (pc := 105) dX12_goesWith_105 0 rfl ?_
          refine xx_iconst (pc := 107) dX12_goesWith_107 cc_iconst_1 ?_
          refine xx_iaddN (pc := 108) dX12_goesWith_108 ?_
          refine xx_bipush (pc := 109) dX12_goesWith_109 cc_bipush_99 ?_
          refine xx_aload_nP (pc := 111) dX12_goesWith_111 3 rfl rfl ?_
          refine xx_getR (pc := 112) 115 dX12_goesWith_112 sh_114 fX12_7_12 rfl rfl (by decide) ?_
          refine xx_iload (pc := 115) dX12_goesWith_115 0 rfl ?_
          refine xx_iconst (pc := 117) dX12_goesWith_117 cc_iconst_1 ?_
          refine xx_iaddN (pc := 118) dX12_goesWith_118 ?_
          refine xx_ialdE (j2 := 8 + 6 * o + 1) (pc := 119) dX12_goesWith_119 sh_115 (by omega) (by omega) (by decide) ?_
          refine xx_eqI (y := nI (it (u 115) o 1)) rfl ?_
          refine xx_aload_nP (pc := 120) dX12_goesWith_120 3 rfl rfl ?_
          refine xx_getR (pc := 121) 120 dX12_goesWith_121 sh_114 fX12_25_12 rfl rfl (by decide) ?_
          refine xx_iload (pc := 124) dX12_goesWith_124 1 rfl ?_
          refine xx_ialdN (pc := 126) dX12_goesWith_126 sh_120 (by omega) (by decide) ?_
          refine xx_iaddN (pc := 127) dX12_goesWith_127 ?_
          refine xx_callS0 (pc := 128) (st := [.int (nI ((8 + (6 * o)) + 1)), ic_pt E 115]) (cM_least (w := u) (a := 99) (b := (it (u 115) o 1) + (u 120 o)) (by omega) (by omega)) kX12_least sX12_242 dX12_goesWith_128 rfl rfl (Nat.le_of_ble_eq_true rfl) ⟨Nat.le_of_ble_eq_true rfl, Nat.le_of_ble_eq_true rfl⟩ ⟨Nat.zero_le _, Nat.zero_le _⟩ (ic_ke ?_)
          refine xx_iastE (j2 := 9 + 6 * o) (pc := 131) dX12_goesWith_131 sh_115 (by omega) (by omega) (by decide) ?_
          refine xx_nw (fun w5 ew5 => ?_)
          have hI_w5 : In (w5 115) := by
            rw [ew5, wu_wr, wr_s]
            refine In_of hI_u (fun k hk => fu_n _ (by omega)) (fun q hq => ?_)
            have bb := hI_u.i hq
            have key : ∀ k, k < 6 → it (fu (u 115) (9 + 6 * o) (min 99 (it (u 115) o 1 + u 120 o))) q k = if q = o ∧ k = 1 then min 99 (it (u 115) o 1 + u 120 o) else it (u 115) q k := fun k hk => it_fu2 (by omega) hk (by omega)
            rw [key 0 (by omega), key 1 (by omega), key 2 (by omega), key 3 (by omega), key 4 (by omega), key 5 (by omega)]
            refine ⟨?_, ?_, ?_, ?_, ?_, ?_⟩ <;> repeat' split
            all_goals omega
          have k0 : it (w5 115) o 0 = it (mo_s1 (w 115) act) o 0 := by rw [ew5, wu_wr, wr_s, it_fu (by omega), g0]
          have k3 : it (w5 115) o 3 = it (mo_s1 (w 115) act) o 3 := by rw [ew5, wu_wr, wr_s, it_fu (by omega), g3]
          have k5 : it (w5 115) o 5 = it (mo_s1 (w 115) act) o 5 := by rw [ew5, wu_wr, wr_s, it_fu (by omega), g5]
          have k_1 : w5 115 1 = w 115 1 := by rw [ew5, wu_wr, wr_s, fu_n _ (by omega), e1]
          have hdk : mo_drifts (it (w5 115) o 0) (w5 115 1) = mo_drifts (it (mo_s1 (w 115) act) o 0) (w 115 1) := by rw [k0, k_1]
          refine xx_aload_nP (pc := 132) dX12_goesWith_132 3 rfl rfl ?_
          refine xx_getR (pc := 133) 115 dX12_goesWith_133 sh_114 fX12_7_12 rfl rfl (by decide) ?_
          refine xx_iload (pc := 136) dX12_goesWith_136 0 rfl ?_
          refine xx_iconst (pc := 138) dX12_goesWith_138 cc_iconst_5 ?_
          refine xx_iaddN (pc := 139) dX12_goesWith_139 ?_
          refine xx_aload_nP (pc := 140) dX12_goesWith_140 3 rfl rfl ?_
          refine xx_getR (pc := 141) 115 dX12_goesWith_141 sh_114 fX12_7_12 rfl rfl (by decide) ?_
          refine xx_iload (pc := 144) dX12_goesWith_144 0 rfl ?_
          refine xx_iconst (pc := 146) dX12_goesWith_146 cc_iconst_5 ?_
          refine xx_iaddN (pc := 147) dX12_goesWith_147 ?_
          refine xx_ialdE (j2 := 8 + 6 * o + 5) (pc := 148) dX12_goesWith_148 sh_115 (by omega) (by omega) (by decide) ?_
          refine xx_eqI (y := nI (it (w5 115) o 5)) rfl ?_
          refine xx_aload_nP (pc := 149) dX12_goesWith_149 3 rfl rfl ?_
          refine xx_getR (pc := 150) 115 dX12_goesWith_150 sh_114 fX12_7_12 rfl rfl (by decide) ?_
          refine xx_iload (pc := 153) dX12_goesWith_153 0 rfl ?_
          refine xx_ialdE (j2 := 8 + 6 * o + 0) (pc := 155) dX12_goesWith_155 sh_115 (by omega) (by omega) (by decide) ?_
          refine xx_eqI (y := nI (it (w5 115) o 0)) rfl ?_
          refine xx_aload_nP (pc := 156) dX12_goesWith_156 3 rfl rfl ?_
          refine xx_getR (pc := 157) 115 dX12_goesWith_157 sh_114 fX12_7_12 rfl rfl (by decide) ?_
          refine xx_iconst (pc := 160) dX12_goesWith_160 cc_iconst_1 ?_
          refine xx_ialdN (pc := 161) dX12_goesWith_161 sh_115 (by omega) (by decide) ?_
          refine xx_callS0 (pc := 162) (st := [.int (nI (it (w5 115) o 5)), .int (nI ((8 + (6 * o)) + 5)), ic_pt E 115]) (cM_drifts (w := w5) (k := it (w5 115) o 0) (t := w5 115 1) (by omega) (by omega)) kX12_drifts sX12_124 dX12_goesWith_162 rfl rfl (Nat.le_of_ble_eq_true rfl) ⟨Nat.le_of_ble_eq_true rfl, Nat.le_of_ble_eq_true rfl⟩ ⟨Nat.zero_le _, Nat.zero_le _⟩ (ic_ke ?_)
          refine xx_iaddN (pc := 165) dX12_goesWith_165 ?_
          refine xx_bipush (pc := 166) dX12_goesWith_166 cc_bipush_6 ?_
          refine xx_iremN (pc := 168) dX12_goesWith_168 (by omega) (by omega) (by omega) ?_
          refine xx_iastE (j2 := 13 + 6 * o) (pc := 169) dX12_goesWith_169 sh_115 (by omega) (by omega) (by decide) ?_
          refine xx_nw (fun w6 ew6 => ?_)
          have m5 : it (w6 115) o 5 = (it (mo_s1 (w 115) act) o 5 + mo_drifts (it (mo_s1 (w 115) act) o 0) (w 115 1)) % 6 := by rw [ew6, wu_wr, wr_s, ← hdk, ← k5]; show fu _ _ _ (8 + 6 * o + 5) = _; rw [show 8 + 6 * o + 5 = 13 + 6 * o by omega, fu_s]
          have m3 : it (w6 115) o 3 = it (mo_s1 (w 115) act) o 3 := by rw [ew6, wu_wr, wr_s, it_fu (by omega), k3]
          refine xx_iload_n (pc := 170) dX12_goesWith_170 2 rfl rfl ?_
          refine xx_aload_nP (pc := 171) dX12_goesWith_171 3 rfl rfl ?_
          refine xx_getR (pc := 172) 115 dX12_goesWith_172 sh_114 fX12_7_12 rfl rfl (by decide) ?_
          refine xx_iload (pc := 175) dX12_goesWith_175 0 rfl ?_
          refine xx_iconst (pc := 177) dX12_goesWith_177 cc_iconst_5 ?_
          refine xx_iaddN (pc := 178) dX12_goesWith_178 ?_
          refine xx_ialdE (j2 := 8 + 6 * o + 5) (pc := 179) dX12_goesWith_179 sh_115 (by omega) (by omega) (by decide) ?_
          refine xx_eqI (y := nI (it (w6 115) o 5)) rfl ?_
          refine xx_aload_nP (pc := 180) dX12_goesWith_180 3 rfl rfl ?_
          refine xx_getR (pc := 181) 115 dX12_goesWith_181 sh_114 fX12_7_12 rfl rfl (by decide) ?_
          refine xx_iload (pc := 184) dX12_goesWith_184 0 rfl ?_
          refine xx_iconst (pc := 186) dX12_goesWith_186 cc_iconst_3 ?_
          refine xx_iaddN (pc := 187) dX12_goesWith_187 ?_
          refine xx_ialdE (j2 := 8 + 6 * o + 3) (pc := 188) dX12_goesWith_188 sh_115 (by omega) (by omega) (by decide) ?_
          refine xx_eqI (y := nI (it (w6 115) o 3)) rfl ?_
          refine xx_icmp_neN (pc := 189) 196 dX12_goesWith_189 rfl (by omega) (by omega) (fun c7 => ?_) (fun c7 => ?_)
          · refine xx_iconst (pc := 196) dX12_goesWith_196 cc_iconst_0 ?_
            refine xx_iaddN (pc := 197) dX12_goesWith_197 ?_
            refine xx_istore_n (L' := [(3, .int (nI (c + 0))), (5, .int (nI (8 + (6 * o)))), (4, .int (nI o)), (0, ic_pt E 114)]) (pc := 198) dX12_goesWith_198 rfl (Nat.le_of_ble_eq_true rfl) rfl ?_
            refine xx_iincN (L' := [(4, .int (nI (o + 1))), (3, .int (nI (c + 0))), (5, .int (nI (8 + (6 * o)))), (0, ic_pt E 114)]) (pc := 199) dX12_goesWith_199 2 rfl cc_iconst_1 (Nat.le_of_ble_eq_true rfl) rfl ?_
            refine xx_goto (pc := 202) 68 dX12_goesWith_202 rfl ?_
            have g4z : it (mo_s1 (w 115) act) o 4 = 0 := by rw [← g4]; assumption
            have hu2 : w6 115 = mo_sk (mo_s1 (w 115) act) (o + 1) := by rw [ew6, wu_wr, wr_s, ew5, wu_wr, wr_s, mo_sk_t g4z, ← hu, g1, hs, e11, ← hdk, ← k5, ew5, wu_wr, wr_s, g1, hs]
            exact xx_sub [0, 1, 3] rfl (ih_ (o + 1) _ w6 (by omega) hu2 (fun a q1 q2 => by rw [ew6, wu_row _ _ _ q1, ew5, wu_row _ _ _ q1]; exact hr a q1 q2) (fun j hj => by rw [ew6, wu_o _ _ _ _ (by omega), ew5, wu_o _ _ _ _ (by omega)]; exact hv j hj) (by rw [hc]; show mo_w1 (w 115) act + mo_w2 _ o + 0 = _; rw [Nat.add_assoc]; congr 1; exact (mo_cnt_f (by have := m5; have := m3; simp [g4z, e11]; omega)).symm) (by omega))
          · refine xx_iconst (pc := 192) dX12_goesWith_192 cc_iconst_1 ?_
            refine xx_goto (pc := 193) 197 dX12_goesWith_193 rfl ?_
            refine xx_iaddN (pc := 197) dX12_goesWith_197 ?_
            refine xx_istore_n (L' := [(3, .int (nI (c + 1))), (5, .int (nI (8 + (6 * o)))), (4, .int (nI o)), (0, ic_pt E 114)]) (pc := 198) dX12_goesWith_198 rfl (Nat.le_of_ble_eq_true rfl) rfl ?_
            refine xx_iincN (L' := [(4, .int (nI (o + 1))), (3, .int (nI (c + 1))), (5, .int (nI (8 + (6 * o)))), (0, ic_pt E 114)]) (pc := 199) dX12_goesWith_199 2 rfl cc_iconst_1 (Nat.le_of_ble_eq_true rfl) rfl ?_
            refine xx_goto (pc := 202) 68 dX12_goesWith_202 rfl ?_
            have g4z : it (mo_s1 (w 115) act) o 4 = 0 := by rw [← g4]; assumption
            have hu2 : w6 115 = mo_sk (mo_s1 (w 115) act) (o + 1) := by rw [ew6, wu_wr, wr_s, ew5, wu_wr, wr_s, mo_sk_t g4z, ← hu, g1, hs, e11, ← hdk, ← k5, ew5, wu_wr, wr_s, g1, hs]
            exact xx_sub [0, 1, 3] rfl (ih_ (o + 1) _ w6 (by omega) hu2 (fun a q1 q2 => by rw [ew6, wu_row _ _ _ q1, ew5, wu_row _ _ _ q1]; exact hr a q1 q2) (fun j hj => by rw [ew6, wu_o _ _ _ _ (by omega), ew5, wu_o _ _ _ _ (by omega)]; exact hv j hj) (by rw [hc]; show mo_w1 (w 115) act + mo_w2 _ o + 1 = _; rw [Nat.add_assoc]; congr 1; exact (mo_cnt_t (by have := m5; have := m3; simp [g4z, e11]; omega)).symm) (by omega))
  have lp1 : ∀ (c : Nat) (hc : c = mo_w1 (w 115) act) (n_ : Nat) (o : Nat) (u : ic_w), o ≤ w 115 0 → u 115 = mo_s1 (w 115) act → (∀ a, a ≠ 115 → a ≠ 120 → u a = w a) → (∀ j, j < o → u 120 j = mo_sunk (mo_s1 (w 115) act) j) → w 115 0 - o < n_ → xx l E (ic_fr E mX12_goesWith 5 0 0 False SHs (ic_qi (fun v_ h_ => v_ = nI (mo_worth (w 115) act) ∧ ∃ w2, h_ = hn w2 ∧ mo_gone w act w2))) (0, 0) 35 [(4, .int (nI o)), (3, .int (nI c)), (0, ic_pt E 114)] [] SHs (hn u) := by
    intro c hc n_
    induction n_ with
    | zero => intro o u ho hu hr hv hm_; exact absurd hm_ (Nat.not_lt_zero _)
    | succ n_ ih_ =>
      intro o u ho hu hr hv hm_
      have hI_u : In (u 115) := by rw [hu]; exact In_s1 hI ha
      have e0 : u 115 0 = w 115 0 := by rw [hu, mo_s1_r _ ha (by omega)]
      refine xx_iload (pc := 35) dX12_goesWith_35 0 rfl ?_
      refine xx_aload_nP (pc := 37) dX12_goesWith_37 2 rfl rfl ?_
      refine xx_getR (pc := 38) 115 dX12_goesWith_38 sh_114 fX12_7_12 rfl rfl (by decide) ?_
      refine xx_iconst (pc := 41) dX12_goesWith_41 cc_iconst_0 ?_
      refine xx_ialdN (pc := 42) dX12_goesWith_42 sh_115 (by omega) (by decide) ?_
      refine xx_icmp_geN (pc := 43) 65 dX12_goesWith_43 rfl (by omega) (by omega) (fun c1 => ?_) (fun c1 => ?_)
      · refine xx_iconst (pc := 65) dX12_goesWith_65 cc_iconst_0 ?_
        refine xx_istore (L' := [(4, .int (nI 0)), (3, .int (nI c)), (0, ic_pt E 114)]) (pc := 66) dX12_goesWith_66 (Nat.le_of_ble_eq_true rfl) rfl ?_
        exact xx_sub [0, 1, 2] rfl (lp2 (w 115 0 + 1) 0 _ u (by omega) (by rw [hu]; funext k; rw [mo_sk_hi _ (by omega)]) hr (fun j hj => hv j (by omega)) (by rw [hc]; rfl) (by omega))
      · refine xx_aload_nP (pc := 46) dX12_goesWith_46 2 rfl rfl ?_
        refine xx_getR (pc := 47) 120 dX12_goesWith_47 sh_114 fX12_25_12 rfl rfl (by decide) ?_
        refine xx_iload (pc := 50) dX12_goesWith_50 0 rfl ?_
        refine xx_aload_nP (pc := 52) dX12_goesWith_52 2 rfl rfl ?_
        refine xx_iload (pc := 53) dX12_goesWith_53 0 rfl ?_
        refine xx_callV0 (pc := 55) (st := [.int (nI o), ic_pt E 120]) sh_114 (cM_sunk (w := u) (o := o) (by omega) hI_u) kX12_sunk vX12_121_12 dX12_goesWith_55 rfl rfl (Nat.le_of_ble_eq_true rfl) ⟨Nat.le_of_ble_eq_true rfl, Nat.le_of_ble_eq_true rfl⟩ ⟨Nat.zero_le _, Nat.zero_le _⟩ (ic_ke ?_)
        refine xx_iastN (pc := 58) dX12_goesWith_58 sh_120 (by omega) (by decide) ?_
        refine xx_nw (fun w2 ew2 => ?_)
        refine xx_iincN (L' := [(4, .int (nI (o + 1))), (3, .int (nI c)), (0, ic_pt E 114)]) (pc := 59) dX12_goesWith_59 0 rfl cc_iconst_1 (Nat.le_of_ble_eq_true rfl) rfl ?_
        refine xx_goto (pc := 62) 35 dX12_goesWith_62 rfl ?_
        have hv2 : ∀ j, j < o + 1 → w2 120 j = mo_sunk (mo_s1 (w 115) act) j := by
          intro j hj
          rw [ew2]
          by_cases q : j = o
          · rw [q, wu_s, hu]
          · rw [wu_k _ _ _ _ q]
            exact hv j (by omega)
        exact xx_sub [0, 1, 2] rfl (ih_ (o + 1) w2 (by omega) (by rw [ew2, wu_row _ _ _ (by omega)]; exact hu) (fun a q1 q2 => by rw [ew2, wu_row _ _ _ q2]; exact hr a q1 q2) hv2 (by omega))
  rcases (show act = 0 ∨ ∃ o, act = o + 1 by rcases act with _ | o; exact Or.inl rfl; exact Or.inr ⟨o, rfl⟩) with rfl | ⟨o, rfl⟩
  · refine xx_iload_n (pc := 0) dX12_goesWith_0 1 rfl rfl ?_
    refine xx_iconst (pc := 1) dX12_goesWith_1 cc_iconst_1 ?_
    refine xx_isubW (pc := 2) dX12_goesWith_2 (by omega) ?_
    refine xx_eqI (y := nI 4294967295) (by decide +kernel) ?_
    refine xx_istore_n (L' := [(2, .int (nI 4294967295)), (0, ic_pt E 114), (1, .int (nI 0))]) (pc := 3) dX12_goesWith_3 rfl (Nat.le_of_ble_eq_true rfl) rfl ?_
    refine xx_iload_n (pc := 4) dX12_goesWith_4 0 rfl rfl ?_
    refine xx_if_ltS (pc := 5) 30 dX12_goesWith_5 rfl (by omega) (fun c1 => ?_) (fun c1 => by exfalso; omega)
    refine xx_iconst (pc := 30) dX12_goesWith_30 cc_iconst_0 ?_
    refine xx_istore_n (L' := [(3, .int (nI 0)), (2, .int (nI 4294967295)), (0, ic_pt E 114), (1, .int (nI 0))]) (pc := 31) dX12_goesWith_31 rfl (Nat.le_of_ble_eq_true rfl) rfl ?_
    refine xx_iconst (pc := 32) dX12_goesWith_32 cc_iconst_0 ?_
    refine xx_istore (L' := [(4, .int (nI 0)), (3, .int (nI 0)), (2, .int (nI 4294967295)), (0, ic_pt E 114), (1, .int (nI 0))]) (pc := 33) dX12_goesWith_33 (Nat.le_of_ble_eq_true rfl) rfl ?_
    exact xx_sub [0, 1, 3] rfl (lp1 _ rfl (w 115 0 + 1) 0 w (by omega) rfl (fun _ _ _ => rfl) (fun j hj => absurd hj (Nat.not_lt_zero _)) (by omega))
  · have ho5 := hI.i (o := o) (by omega)
    have hwl := mo_will_le hR o
    refine xx_iload_n (pc := 0) dX12_goesWith_0 1 rfl rfl ?_
    refine xx_iconst (pc := 1) dX12_goesWith_1 cc_iconst_1 ?_
    refine xx_isubN (pc := 2) dX12_goesWith_2 (by omega) ?_
    refine xx_eqI (y := nI o) (by rw [Nat.add_sub_cancel]) ?_
    refine xx_istore_n (L' := [(2, .int (nI o)), (0, ic_pt E 114), (1, .int (nI (o + 1)))]) (pc := 3) dX12_goesWith_3 rfl (Nat.le_of_ble_eq_true rfl) rfl ?_
    refine xx_iload_n (pc := 4) dX12_goesWith_4 0 rfl rfl ?_
    refine xx_if_ltS (pc := 5) 30 dX12_goesWith_5 rfl (by omega) (fun c1 => by exfalso; omega) (fun c1 => ?_)
    refine xx_aload_nP (pc := 8) dX12_goesWith_8 1 rfl rfl ?_
    refine xx_iload_n (pc := 9) dX12_goesWith_9 0 rfl rfl ?_
    refine xx_iconst (pc := 10) dX12_goesWith_10 cc_iconst_4 ?_
    refine xx_callV0 (pc := 11) (st := []) sh_114 (cM_its (w := w) (o := o) (k := 4) (by omega) (by omega)) kX12_its vX12_82_12 dX12_goesWith_11 rfl rfl (Nat.le_of_ble_eq_true rfl) ⟨Nat.le_of_ble_eq_true rfl, Nat.le_of_ble_eq_true rfl⟩ ⟨Nat.zero_le _, Nat.zero_le _⟩ (ic_ke ?_)
    refine xx_if_neN (pc := 14) 30 dX12_goesWith_14 rfl (by omega) (fun c2 => ?_) (fun c2 => ?_)
    · refine xx_iconst (pc := 30) dX12_goesWith_30 cc_iconst_0 ?_
      refine xx_istore_n (L' := [(3, .int (nI 0)), (2, .int (nI o)), (0, ic_pt E 114), (1, .int (nI (o + 1)))]) (pc := 31) dX12_goesWith_31 rfl (Nat.le_of_ble_eq_true rfl) rfl ?_
      refine xx_iconst (pc := 32) dX12_goesWith_32 cc_iconst_0 ?_
      refine xx_istore (L' := [(4, .int (nI 0)), (3, .int (nI 0)), (2, .int (nI o)), (0, ic_pt E 114), (1, .int (nI (o + 1)))]) (pc := 33) dX12_goesWith_33 (Nat.le_of_ble_eq_true rfl) rfl ?_
      exact xx_sub [0, 1, 3] rfl (lp1 _ (by unfold mo_w1; rw [if_neg (by omega), Nat.add_sub_cancel, if_neg (by assumption)]) (w 115 0 + 1) 0 w (by omega) (by unfold mo_s1; rw [if_neg (by omega), Nat.add_sub_cancel, if_neg (by assumption)]) (fun _ _ _ => rfl) (fun j hj => absurd hj (Nat.not_lt_zero _)) (by omega))
    · refine xx_aload_nP (pc := 17) dX12_goesWith_17 1 rfl rfl ?_
      refine xx_iload_n (pc := 18) dX12_goesWith_18 0 rfl rfl ?_
      refine xx_aload_nP (pc := 19) dX12_goesWith_19 1 rfl rfl ?_
      refine xx_iload_n (pc := 20) dX12_goesWith_20 0 rfl rfl ?_
      refine xx_callV0 (pc := 21) (st := [.int (nI o), ic_pt E 114]) sh_114 (cM_will (w := w) (o := o) (by omega) hI hR) kX12_will vX12_113_12 dX12_goesWith_21 rfl rfl (Nat.le_of_ble_eq_true rfl) ⟨Nat.le_of_ble_eq_true rfl, Nat.le_of_ble_eq_true rfl⟩ ⟨Nat.zero_le _, Nat.zero_le _⟩ (ic_ke ?_)
      refine xx_callV0 (pc := 24) (st := []) sh_114 (cM_does (w := w) (o := o) (wl := mo_will (w 115) o) (by omega) (by omega) hI) kX12_does vX12_239_12 dX12_goesWith_24 rfl rfl (Nat.le_of_ble_eq_true rfl) ⟨Nat.le_of_ble_eq_true rfl, Nat.le_of_ble_eq_true rfl⟩ ⟨Nat.zero_le _, Nat.zero_le _⟩ (ic_ki (fun v4 h_ qw3 => ?_))
      obtain ⟨rfl, rfl⟩ := qw3
      refine xx_nw (fun w3 ew3 => ?_)
      refine xx_goto (pc := 27) 31 dX12_goesWith_27 rfl ?_
      refine xx_istore_n (L' := [(3, .int (nI (mo_doesW (w 115) o (mo_will (w 115) o)))), (2, .int (nI o)), (0, ic_pt E 114), (1, .int (nI (o + 1)))]) (pc := 31) dX12_goesWith_31 rfl (Nat.le_of_ble_eq_true rfl) rfl ?_
      refine xx_iconst (pc := 32) dX12_goesWith_32 cc_iconst_0 ?_
      refine xx_istore (L' := [(4, .int (nI 0)), (3, .int (nI (mo_doesW (w 115) o (mo_will (w 115) o)))), (2, .int (nI o)), (0, ic_pt E 114), (1, .int (nI (o + 1)))]) (pc := 33) dX12_goesWith_33 (Nat.le_of_ble_eq_true rfl) rfl ?_
      exact xx_sub [0, 1, 3] rfl (lp1 _ (by unfold mo_w1; rw [if_neg (by omega), Nat.add_sub_cancel, if_pos (by assumption)]) (w 115 0 + 1) 0 w3 (by omega) (by rw [ew3, wr_s]; unfold mo_s1; rw [if_neg (by omega), Nat.add_sub_cancel, if_pos (by assumption)]) (fun a q1 _ => by rw [ew3, wr_n _ q1]) (fun j hj => absurd hj (Nat.not_lt_zero _)) (by omega))

