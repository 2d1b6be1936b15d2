/-! the class: plans, branch by branch -/
def pl_c (m : Nat) (s : Nat → Nat) (a : Nat) : Nat := pl_ct m (mo_go s a)
def pl_g (want m : Nat) (s : Nat → Nat) (a : Nat) : Nat := (if a = 0 then 0 else 1) + pl_fw want m (mo_go s a)
def pl_h (m : Nat) (s : Nat → Nat) (a : Nat) : Nat := pl_ev m (mo_go s a)
def pl_id (s : Nat → Nat) (q : Nat) : Bool := decide (mo_deed s q = 2)
def pl_W (m : Nat) (s : Nat → Nat) (b : Nat) : Nat := pl_cn (pl_f m s) (pl_c m s) b + (if pl_f m s 0 = pl_f m s (mo_am (pl_f m s) b) then (mo_cnt (pl_id s) (s 0) - mo_cnt (pl_id s) b) * pl_c m s 0 else 0)
def pl_a (m : Nat) (s : Nat → Nat) (k : Nat) (acts : Nat → Nat) (a : Nat) : Nat → Nat := fun j => if j < k then acts j else if j = k then a else pl_fi m (mo_go s a) (j - (k + 1))
def pl_Q (m : Nat) (s : Nat → Nat) (k sum few wt len want : Nat) (acts : Nat → Nat) (x y : mo_X) (b : Nat) : Prop := pl_P x y (sum + pl_f m s (mo_am (pl_f m s) b)) (wt * pl_W m s b) len (few + pl_mn (pl_g want m s) b) (pl_or (pl_h m s) b) (pl_a m s k acts (mo_am (pl_f m s) b))
theorem pl_Q_0 {m : Nat} {s : Nat → Nat} {k sum few wt len want : Nat} {acts : Nat → Nat} {x y : mo_X} {fi : Nat → Nat} (h : pl_P x y ((sum + mo_worth s 0) + pl_mx m (mo_go s 0)) ((wt * (1 + mo_cnt (pl_id s) (s 0))) * pl_ct m (mo_go s 0)) len (few + pl_fw want m (mo_go s 0)) (pl_ev m (mo_go s 0)) fi) (hf : ∀ j, j < len → fi j = pl_a m s k acts 0 j) : pl_Q m s k sum few wt len want acts x y 0 := by
  refine pl_P_e h ?_ ?_ rfl ?_ rfl hf
  · show _ = sum + (mo_worth s 0 + pl_mx m (mo_go s 0))
    omega
  · show _ = wt * (pl_c m s 0 + (if pl_f m s 0 = pl_f m s 0 then (mo_cnt (pl_id s) (s 0) - 0) * pl_c m s 0 else 0))
    rw [if_pos rfl, Nat.sub_zero, Nat.mul_assoc, Nat.add_mul, Nat.one_mul]
    rfl
  · show _ = few + ((if 0 = 0 then 0 else 1) + pl_fw want m (mo_go s 0))
    rw [if_pos rfl, Nat.zero_add]
theorem pl_mn_0 (g : Nat → Nat) : ∀ n, pl_mn g n ≤ g 0
  | 0 => Nat.le_refl _
  | n + 1 => by
    have := pl_mn_0 g n
    rw [pl_mn]
    omega
theorem pl_or_0 (h : Nat → Nat) : ∀ n, pl_or h n ||| h 0 = pl_or h n
  | 0 => Nat.or_self _
  | n + 1 => by rw [pl_or, Nat.or_assoc, Nat.or_comm (h (n + 1)), ← Nat.or_assoc, pl_or_0 h n]
theorem pl_Q_i {m : Nat} {s : Nat → Nat} {k sum few wt len want : Nat} {acts : Nat → Nat} {x y : mo_X} {b : Nat} (h : pl_Q m s k sum few wt len want acts x y b) (hI : In s) (hb : b < s 0) (hd : mo_deed s b = 2) : pl_Q m s k sum few wt len want acts x y (b + 1) := by
  have h0 := hI.n
  have hid : ∀ q, q < s 0 → pl_id s q = true → pl_f m s (q + 1) = pl_f m s 0 ∧ pl_c m s (q + 1) = pl_c m s 0 := fun q hq z => by
    obtain ⟨e1, e2⟩ := mo_idle_go (hI.i (o := q) (by omega)).2.2.2.2.1 (of_decide_eq_true z)
    unfold pl_f pl_c
    rw [e1, e2]
    exact ⟨rfl, rfl⟩
  obtain ⟨e1, e2⟩ := mo_idle_go (hI.i (o := b) (by omega)).2.2.2.2.1 hd
  obtain ⟨c1, c2⟩ := pl_cw (f := pl_f m s) (c := pl_c m s) (idl := pl_id s) (n := s 0) hid b hb (decide_eq_true hd)
  refine pl_P_e h (by rw [c2]) ?_ rfl ?_ ?_ (fun j _ => by rw [c2])
  · unfold pl_W
    rw [c1]
  · rw [pl_mn]
    have g0 := pl_mn_0 (pl_g want m s) b
    have g1 : pl_g want m s (b + 1) = 1 + pl_fw want m (mo_go s 0) := by unfold pl_g; rw [if_neg (by omega), e1]
    have g2 : pl_g want m s 0 = 0 + pl_fw want m (mo_go s 0) := by unfold pl_g; rw [if_pos rfl]
    omega
  · rw [pl_or, show pl_h m s (b + 1) = pl_h m s 0 by unfold pl_h; rw [e1], pl_or_0]
theorem pl_am_0 (f : Nat → Nat) : ∀ j, f 0 ≤ f (mo_am f j)
  | 0 => Nat.le_refl _
  | j + 1 => by
    have := pl_am_0 f j
    rw [mo_am]
    split <;> omega
theorem pl_Q_s {m : Nat} {s : Nat → Nat} {k sum few wt len want : Nat} {acts : Nat → Nat} {x y z : mo_X} {fi : Nat → Nat} {b : Nat} (h : pl_Q m s k sum few wt len want acts x y b) (hd : ¬ mo_deed s b = 2) (g : pl_P y z ((sum + mo_worth s (b + 1)) + pl_mx m (mo_go s (b + 1))) (wt * pl_ct m (mo_go s (b + 1))) len ((few + 1) + pl_fw want m (mo_go s (b + 1))) (pl_ev m (mo_go s (b + 1))) fi) (hf : ∀ j, j < len → fi j = pl_a m s k acts (b + 1) j) (b1 : sum + pl_f m s (mo_am (pl_f m s) b) < 4294967295) (b2 : sum + pl_f m s (b + 1) < 4294967295) : pl_Q m s k sum few wt len want acts x z (b + 1) := by
  have g2 := pl_P_e g (v2 := sum + pl_f m s (b + 1)) (by unfold pl_f; omega) rfl rfl rfl rfl hf
  have mg := pl_P_m h g2 b1 b2
  have hc : mo_cnt (pl_id s) (b + 1) = mo_cnt (pl_id s) b := mo_cnt_f (by unfold pl_id; simpa using hd)
  have hz := pl_am_0 (pl_f m s) b
  refine pl_P_e mg ?_ ?_ rfl ?_ rfl (fun j _ => ?_)
  · rw [mo_am]
    by_cases t : pl_f m s (mo_am (pl_f m s) b) < pl_f m s (b + 1)
    · rw [if_pos t, if_pos (by omega)]
    · rw [if_neg t, if_neg (by omega)]
  · show _ = wt * (pl_cn (pl_f m s) (pl_c m s) (b + 1) + (if pl_f m s 0 = pl_f m s (mo_am (pl_f m s) (b + 1)) then (mo_cnt (pl_id s) (s 0) - mo_cnt (pl_id s) (b + 1)) * pl_c m s 0 else 0))
    rw [hc, pl_cn, mo_am]
    by_cases t : pl_f m s (mo_am (pl_f m s) b) < pl_f m s (b + 1)
    · rw [if_pos t, if_pos t, if_pos (by omega), if_neg (by omega), Nat.add_zero]
      rfl
    · rw [if_neg t, if_neg t, if_neg (by omega)]
      by_cases e : pl_f m s (b + 1) = pl_f m s (mo_am (pl_f m s) b)
      · rw [if_pos e, if_pos (by omega)]
        unfold pl_W
        rw [← Nat.mul_add]
        show wt * (_ + pl_c m s (b + 1)) = _
        congr 1
        omega
      · rw [if_neg e, if_neg (by omega)]
        rfl
  · rw [pl_mn]
    have : pl_g want m s (b + 1) = 1 + pl_fw want m (mo_go s (b + 1)) := by unfold pl_g; rw [if_neg (by omega)]
    omega
  · rw [mo_am]
    by_cases t : pl_f m s (mo_am (pl_f m s) b) < pl_f m s (b + 1)
    · rw [if_pos t, if_pos (by omega)]
    · rw [if_neg t, if_neg (by omega)]
theorem pl_Q_e {m : Nat} {s : Nat → Nat} {k sum few wt len want : Nat} {acts : Nat → Nat} {x y : mo_X} (h : pl_Q m s k sum few wt len want acts x y (s 0)) (ht : ¬ s 2 ≤ s 1) : pl_P x y (sum + pl_mx (m + 1) s) (wt * pl_ct (m + 1) s) len (few + pl_fw want (m + 1) s) (pl_ev (m + 1) s) (fun j => if j < k then acts j else pl_fi (m + 1) s (j - k)) := by
  refine pl_P_e h (by rw [pl_mx_s, if_neg ht]) ?_ rfl (by rw [pl_fw, if_neg ht]; rfl) (by rw [pl_ev, if_neg ht]; rfl) (fun j _ => ?_)
  · unfold pl_W
    rw [pl_ct, if_neg ht, Nat.sub_self, Nat.zero_mul]
    split <;> rfl
  · unfold pl_a
    rw [pl_fi, if_neg ht]
    by_cases y : j < k
    · rw [if_pos y, if_pos y]
    · rw [if_neg y, if_neg y]
      by_cases t : j = k
      · rw [if_pos t, if_pos (by omega)]
      · rw [if_neg t, if_neg (by omega), show j - (k + 1) = j - k - 1 by omega]
theorem pl_base {want m : Nat} {s : Nat → Nat} (h : m = 0 ∨ s 2 ≤ s 1) : pl_mx m s = 0 ∧ pl_ct m s = 1 ∧ pl_fw want m s = (if want &&& (mo_outs s ^^^ 4294967295) = 0 then 0 else 100) ∧ pl_ev m s = mo_outs s := by
  cases m with
  | zero => exact ⟨rfl, rfl, rfl, rfl⟩
  | succ m =>
    have h : s 2 ≤ s 1 := by omega
    exact ⟨by rw [pl_mx_s, if_pos h], by rw [pl_ct, if_pos h], by rw [pl_fw, if_pos h], by rw [pl_ev, if_pos h]⟩
theorem cl_x_e {w u : ic_w} (e1 : u 95 = w 95) (e2 : u 98 = w 98) : cl_x u = cl_x w := by
  unfold cl_x
  rw [e1, e2]
/-- what one branch comes to -/
def Br (l : Launch) (E : ic_E) (m : Nat) : Prop := ∀ (w : ic_w) (s : Nat → Nat) (k sum few wt : Nat), Pk w → Cs w (99 + 3 * k) s → Cn w s → In s → Ru s → w 95 4 = k + min m (s 2 - s 1) → sum ≤ 33 * k → few ≤ k → m ≤ 16 → ic_C l E mX6_branch (m + 8) 0 0 False [ic_pt E 95, .int (nI k), .int (nI sum), .int (nI few), .int (nI wt)] SHs (hn w) SHs (ic_qv (fun h_ => ∃ w2, h_ = hn w2 ∧ Fb k w w2 ∧ Pk w2 ∧ pl_P (cl_x w) (cl_x w2) (sum + pl_mx m s) (wt * pl_ct m s) (w 95 4) (few + pl_fw (w 95 9) m s) (pl_ev m s) (fun j => if j < k then w 97 j else pl_fi m s (j - k))))
theorem Pk.of {w u : ic_w} {v c few ev : Nat} {fi : Nat → Nat} (h : Pk w) (g : pl_P (cl_x w) (cl_x u) v c (w 95 4) few ev fi) (hv : v ≤ 132) (h4 : u 95 4 = w 95 4) (h9 : u 95 9 = w 95 9) (h8 : u 95 8 = 4294967293 ∨ u 95 8 ≤ 4) : Pk u := by
  obtain ⟨a, b, c, d⟩ := h
  refine ⟨by rw [h4]; exact a, ?_, h8, by rw [h9]; exact d⟩
  have g1 := g.1
  have e : u 95 5 = (if mo_bt (cl_x w).1 v then v else w 95 5) := g1
  rw [e]
  split
  · exact Or.inr hv
  · exact b
set_option maxHeartbeats 4000000 in
set_option maxRecDepth 100000 in
theorem cC_leaf {l : Launch} {E : ic_E} {w : ic_w} {m d k sum few wt : Nat} {s : Nat → Nat} (hd : 2 ≤ d) (hz : m = 0 ∨ s 2 ≤ s 1) (hPk : Pk w) (hm : Cs w (99 + 3 * k) s) (hN : Cn w s) (hIn : In s) (hRu : Ru s) (hlen : w 95 4 = k + min m (s 2 - s 1)) (hsm : sum ≤ 33 * k) (hfe : few ≤ k) (hm16 : m ≤ 16) : ic_C l E mX6_branch d 0 0 False [ic_pt E 95, .int (nI k), .int (nI sum), .int (nI few), .int (nI wt)] SHs (hn w) SHs (ic_qv (fun h_ => ∃ w2, h_ = hn w2 ∧ Fb k w w2 ∧ Pk w2 ∧ pl_P (cl_x w) (cl_x w2) (sum + pl_mx m s) (wt * pl_ct m s) (w 95 4) (few + pl_fw (w 95 9) m s) (pl_ev m s) (fun j => if j < k then w 97 j else pl_fi m s (j - k)))) := by
  refine ic_intro (by decide +kernel) (Nat.le_of_ble_eq_true rfl) ?_
  show xx l E _ _ 0 [(0, ic_pt E 95), (1, .int (nI k)), (2, .int (nI sum)), (3, .int (nI few)), (4, .int (nI wt))] _ _ _
  have hp4 := hPk.1
  have hb := pl_base (want := w 95 9) hz
  have hk : w 95 4 = k := by omega
  refine xx_iload_n (pc := 0) dX6_branch_0 1 rfl rfl ?_
  refine xx_aload_nP (pc := 1) dX6_branch_1 0 rfl rfl ?_
  refine xx_getN (pc := 2) dX6_branch_2 sh_95 fX6_51_6 rfl ?_
  refine xx_icmp_ltN (pc := 5) 17 dX6_branch_5 rfl (by omega) (by omega) (fun c1 => by exfalso; omega) (fun c1 => ?_)
  refine xx_aload_nP (pc := 8) dX6_branch_8 0 rfl rfl ?_
  refine xx_iload_n (pc := 9) dX6_branch_9 2 rfl rfl ?_
  refine xx_iload_n (pc := 10) dX6_branch_10 3 rfl rfl ?_
  refine xx_iload (pc := 11) dX6_branch_11 4 rfl ?_
  refine xx_callV0 (pc := 13) (st := []) sh_95 (cC_arrive (w := w) (sum := sum) (few := few) (wt := wt) (s := s) hPk (by rw [hk]; exact hm) hIn (by omega) (by omega)) kX6_arrive vX6_81_6 dX6_branch_13 rfl rfl (Nat.le_of_ble_eq_true rfl) (pl_hR (d := d) (by omega) (Nat.le_of_ble_eq_true rfl)) ⟨Nat.zero_le _, Nat.zero_le _⟩ (ic_kv (fun h_ qw2 => ?_))
  obtain ⟨w2, rfl, a1, a2, a3, a4⟩ := qw2
  exact xx_vret (pc := 16) dX6_branch_16 rfl (Nat.le_refl _) (Nat.le_refl _) (ic_rv0 ⟨w2, rfl, ⟨fun a h1 h2 h3 h4 h5 h6 => a1 a h3 h5, a2 4 (by omega) (by omega) (by omega) (by omega), a2 9 (by omega) (by omega) (by omega) (by omega), fun j _ => by rw [a1 97 (by omega) (by omega)]⟩, hPk.of a4 (by omega) (a2 4 (by omega) (by omega) (by omega) (by omega)) (a2 9 (by omega) (by omega) (by omega) (by omega)) a3, pl_P_e a4 (by rw [hb.1, Nat.add_zero]) (by rw [hb.2.1, Nat.mul_one]) rfl (by rw [hb.2.2.1]) (by rw [hb.2.2.2]) (fun j hj => by rw [if_pos (by omega)])⟩)

theorem Fb.step {k a : Nat} {u wa wb wc wd : ic_w} (hk3 : k ≤ 3) (ea : wa = wu u 97 k a) (hb : ∀ q, q ≠ 99 + 3 * (k + 1) → q ≠ 99 + 3 * (k + 1) + 1 → q ≠ 99 + 3 * (k + 1) + 2 → wb q = wa q) (hc : Fm (99 + 3 * (k + 1)) wb wc) (hd : Fb (k + 1) wc wd) : Fb k u wd ∧ wc 95 = u 95 ∧ wc 98 = u 98 ∧ (∀ j, j < k → wc 97 j = u 97 j) ∧ wc 97 k = a := by
  have f : ∀ q, q < 99 → q ≠ 65 → q ≠ 66 → wc q = wa q := fun q h1 h2 h3 => (hc q h2 h3 (by omega) (by omega) (by omega)).trans (hb q (by omega) (by omega) (by omega))
  have e95 : wc 95 = u 95 := by rw [f 95 (by omega) (by omega) (by omega), ea, wu_row _ _ _ (by omega)]
  have e98 : wc 98 = u 98 := by rw [f 98 (by omega) (by omega) (by omega), ea, wu_row _ _ _ (by omega)]
  have e97 : ∀ j, j ≠ k → wc 97 j = u 97 j := fun j hj => by rw [f 97 (by omega) (by omega) (by omega), ea, wu_k _ _ _ _ hj]
  refine ⟨⟨fun q h1 h2 h3 h4 h5 h6 => ?_, by rw [hd.2.1, e95], by rw [hd.2.2.1, e95], fun j hj => by rw [hd.2.2.2 j (by omega), e97 j (by omega)]⟩, e95, e98, fun j hj => e97 j (by omega), by rw [f 97 (by omega) (by omega) (by omega), ea, wu_s]⟩
  rw [hd.1 q h1 h2 h3 h4 h5 (by omega), hc q h1 h2 (by omega) (by omega) (by omega), hb q (by omega) (by omega) (by omega), ea, wu_row _ _ _ h4]
set_option maxHeartbeats 4000000 in
set_option maxRecDepth 100000 in
theorem cC_node {l : Launch} {E : ic_E} {w : ic_w} {m k sum few wt : Nat} {s : Nat → Nat} (IH : Br l E m) (hz : s 1 < s 2) (hPk : Pk w) (hm : Cs w (99 + 3 * k) s) (hN : Cn w s) (hIn : In s) (hRu : Ru s) (hlen : w 95 4 = k + min (m + 1) (s 2 - s 1)) (hsm : sum ≤ 33 * k) (hfe : few ≤ k) (hm16 : m + 1 ≤ 16) : ic_C l E mX6_branch (m + 9) 0 0 False [ic_pt E 95, .int (nI k), .int (nI sum), .int (nI few), .int (nI wt)] SHs (hn w) SHs (ic_qv (fun h_ => ∃ w2, h_ = hn w2 ∧ Fb k w w2 ∧ Pk w2 ∧ pl_P (cl_x w) (cl_x w2) (sum + pl_mx (m + 1) s) (wt * pl_ct (m + 1) s) (w 95 4) (few + pl_fw (w 95 9) (m + 1) s) (pl_ev (m + 1) s) (fun j => if j < k then w 97 j else pl_fi (m + 1) s (j - k)))) := by
  refine ic_intro (by decide +kernel) (Nat.le_of_ble_eq_true rfl) ?_
  show xx l E _ _ 0 [(0, ic_pt E 95), (1, .int (nI k)), (2, .int (nI sum)), (3, .int (nI few)), (4, .int (nI wt))] _ _ _
  have hp4 := hPk.1
  have hn0 := hIn.n
  have htt := hIn.t
  have n1_w : w 39 10 = s 0 := hN.n
  have hk3 : k < w 95 4 := by omega
  have hil_ : mo_idle s < 64 := Nat.lt_of_lt_of_le (mo_set_lt _ _) (mo_p2 hn0)
  refine xx_iload_n (pc := 0) dX6_branch_0 1 rfl rfl ?_
  refine xx_aload_nP (pc := 1) dX6_branch_1 0 rfl rfl ?_
  refine xx_getN (pc := 2) dX6_branch_2 sh_95 fX6_51_6 rfl ?_
  refine xx_icmp_ltN (pc := 5) 17 dX6_branch_5 rfl (by omega) (by omega) (fun c1 => ?_) (fun c1 => by exfalso; omega)
  refine xx_aload_nP (pc := 17) dX6_branch_17 0 rfl rfl ?_
  refine xx_getR (pc := 18) 96 dX6_branch_18 sh_95 fX6_11_6 rfl rfl (by decide) ?_
  refine xx_iload_n (pc := 21) dX6_branch_21 1 rfl rfl ?_
  refine xx_iconst (pc := 22) dX6_branch_22 cc_iconst_1 ?_
  refine xx_iaddN (pc := 23) dX6_branch_23 ?_
  refine xx_aald (pc := 24) (k + 1) (99 + 3 * (k + 1)) dX6_branch_24 sh_96 (by decide) rfl (by omega) (by decide) (pm_at (by omega)) ?_
  refine xx_astore (L' := [(5, ic_pt E (99 + 3 * (k + 1))), (0, ic_pt E 95), (1, .int (nI k)), (2, .int (nI sum)), (3, .int (nI few)), (4, .int (nI wt))]) (pc := 25) dX6_branch_25 (Nat.le_of_ble_eq_true rfl) rfl ?_
  refine xx_aload_nP (pc := 27) dX6_branch_27 1 rfl rfl ?_
  refine xx_getR (pc := 28) 39 dX6_branch_28 sh_95 fX6_24_6 rfl rfl (by decide) ?_
  refine xx_aload_nP (pc := 31) dX6_branch_31 1 rfl rfl ?_
  refine xx_getR (pc := 32) 96 dX6_branch_32 sh_95 fX6_11_6 rfl rfl (by decide) ?_
  refine xx_iload_n (pc := 35) dX6_branch_35 2 rfl rfl ?_
  refine xx_aald (pc := 36) k (99 + 3 * k) dX6_branch_36 sh_96 (by decide) rfl (by omega) (by decide) (pm_at (by omega)) ?_
  refine xx_callV0 (pc := 37) (st := []) sh_39 (cC_idlers (w := w) (m := 99 + 3 * k) (s := s)  (Mo_pl (k := k) (by omega)) hm hN hIn hRu) kX5_idlers vX6_85_5 dX6_branch_37 rfl rfl (Nat.le_of_ble_eq_true rfl) (pl_hR (d := m + 9) (by omega) (Nat.le_of_ble_eq_true rfl)) ⟨Nat.zero_le _, Nat.zero_le _⟩ (ic_ki (fun v3 h_ qw2 => ?_))
  obtain ⟨rfl, w2, rfl, gw2⟩ := qw2
  have hN_w2 : Cn w2 s := hN.fs gw2
  have hm_w2 : Cs w2 (99 + 3 * k) s := hm.fs (Mo_pl (k := k) (by omega)) gw2
  have n1_w2 : w2 39 10 = s 0 := hN_w2.n
  have n2_w2 : w2 39 11 = s 2 := hN_w2.e
  have n3_w2 : w2 (99 + 3 * k) 0 = s 1 := hm_w2.t
  refine xx_istore (L' := [(6, .int (nI (mo_idle s))), (5, ic_pt E (99 + 3 * (k + 1))), (0, ic_pt E 95), (1, .int (nI k)), (2, .int (nI sum)), (3, .int (nI few)), (4, .int (nI wt))]) (pc := 40) dX6_branch_40 (Nat.le_of_ble_eq_true rfl) rfl ?_
  refine xx_iconst (pc := 42) dX6_branch_42 cc_iconst_0 ?_
  refine xx_istore (L' := [(7, .int (nI 0)), (6, .int (nI (mo_idle s))), (5, ic_pt E (99 + 3 * (k + 1))), (0, ic_pt E 95), (1, .int (nI k)), (2, .int (nI sum)), (3, .int (nI few)), (4, .int (nI wt))]) (pc := 43) dX6_branch_43 (Nat.le_of_ble_eq_true rfl) rfl ?_
  have hp_w2 := hm_w2
  have hpk_w2 : Pk w2 := by unfold Pk; rw [gw2 95 (by omega) (by omega)]; exact hPk
  have u4_ : w2 95 4 = w 95 4 := by rw [gw2 95 (by omega) (by omega)]
  refine xx_iload (pc := 45) dX6_branch_45 0 rfl ?_
  refine xx_aload_nP (pc := 47) dX6_branch_47 3 rfl rfl ?_
  refine xx_getR (pc := 48) 39 dX6_branch_48 sh_95 fX6_24_6 rfl rfl (by decide) ?_
  refine xx_getN (pc := 51) dX6_branch_51 sh_39 fX6_89_5 rfl ?_
  refine xx_icmp_gtN (pc := 54) 161 dX6_branch_54 rfl (by omega) (by omega) (fun c4 => by exfalso; omega) (fun c4 => ?_)
  refine xx_iload (pc := 57) dX6_branch_57 0 rfl ?_
  refine xx_if_leN (pc := 59) 77 dX6_branch_59 rfl (by omega) (fun c5 => ?_) (fun c5 => by exfalso; omega)
  refine xx_aload_nP (pc := 77) dX6_branch_77 3 rfl rfl ?_
  refine xx_getR (pc := 78) 97 dX6_branch_78 sh_95 fX6_17_6 rfl rfl (by decide) ?_
  refine xx_iload_n (pc := 81) dX6_branch_81 4 rfl rfl ?_
  refine xx_iload (pc := 82) dX6_branch_82 0 rfl ?_
  refine xx_iastN (pc := 84) dX6_branch_84 sh_97 (by omega) (by decide) ?_
  refine xx_nw (fun w6 ew6 => ?_)
  refine xx_aloadP (pc := 85) dX6_branch_85 2 rfl ?_
  refine xx_aload_nP (pc := 87) dX6_branch_87 3 rfl rfl ?_
  refine xx_getR (pc := 88) 96 dX6_branch_88 sh_95 fX6_11_6 rfl rfl (by decide) ?_
  refine xx_iload_n (pc := 91) dX6_branch_91 4 rfl rfl ?_
  refine xx_aald (pc := 92) k (99 + 3 * k) dX6_branch_92 sh_96 (by decide) rfl (by omega) (by decide) (pm_at (by omega)) ?_
  refine xx_callV0 (pc := 93) (st := []) (Mo_pl (by omega)).1 (cC_mbecome (w := w6) (m := 99 + 3 * (k + 1)) (p := 99 + 3 * k) (Mo_pl (by omega)) (Mo_pl (by omega)) (by omega)) kX4_become vX6_54_4 dX6_branch_93 rfl rfl (Nat.le_of_ble_eq_true rfl) (pl_hR (d := m + 9) (by omega) (Nat.le_of_ble_eq_true rfl)) ⟨Nat.zero_le _, Nat.zero_le _⟩ (ic_kv (fun h_ qw7 => ?_))
  obtain ⟨w7, rfl, b0, b1, bj, gb⟩ := qw7
  have hm_w7 : Cs w7 (99 + 3 * (k + 1)) s := Cs.bc (show Cs w6 (99 + 3 * k) s from hp_w2.of (by rw [ew6, wu_row _ _ _ (by omega)]) (by rw [ew6, wu_row _ _ _ (by omega)]) (by rw [ew6, wu_row _ _ _ (by omega)])) hIn b0 b1 bj
  have hN_w7 : Cn w7 s := hN_w2.of (by rw [gb _ (by omega) (by omega) (by omega), ew6, wu_row _ _ _ (by omega)]) (by rw [gb _ (by omega) (by omega) (by omega), ew6, wu_row _ _ _ (by omega)]) (by rw [gb _ (by omega) (by omega) (by omega), ew6, wu_row _ _ _ (by omega)]) (fun b _ _ _ _ _ _ _ _ => by rw [gb _ (by omega) (by omega) (by omega), ew6, wu_row _ _ _ (by omega)])
  refine xx_aload_nP (pc := 96) dX6_branch_96 3 rfl rfl ?_
  refine xx_getR (pc := 97) 39 dX6_branch_97 sh_95 fX6_24_6 rfl rfl (by decide) ?_
  refine xx_aloadP (pc := 100) dX6_branch_100 2 rfl ?_
  refine xx_iload (pc := 102) dX6_branch_102 0 rfl ?_
  have hwl_x9 := mo_worth_le hIn (act := 0) (by omega)
  refine xx_callV0 (pc := 104) (st := []) sh_39 (cC_goBy (w := w7) (m := 99 + 3 * (k + 1)) (act := 0) (s := s) (Mo_pl (k := k + 1) (by omega)) hm_w7 hN_w7 hIn hRu (by omega)) kX5_goBy vX6_96_5 dX6_branch_104 rfl rfl (Nat.le_of_ble_eq_true rfl) (pl_hR (d := m + 9) (by omega) (Nat.le_of_ble_eq_true rfl)) ⟨Nat.zero_le _, Nat.zero_le _⟩ (ic_ki (fun v11 h_ qw10 => ?_))
  obtain ⟨rfl, w10, rfl, gw10, hm_w10⟩ := qw10
  have hIn_w10 : In (mo_go s 0) := In_go hIn (by omega) (by omega)
  have hRu_w10 : Ru (mo_go s 0) := Ru_go hRu hIn (by omega)
  have hN_w10 : Cn w10 (mo_go s 0) := (hN_w7.fm (Mo_pl (k := k + 1) (by omega)) gw10).go hIn (by omega)
  refine xx_istore (L' := [(8, .int (nI (mo_worth s 0))), (7, .int (nI 0)), (6, .int (nI (mo_idle s))), (5, ic_pt E (99 + 3 * (k + 1))), (0, ic_pt E 95), (1, .int (nI k)), (2, .int (nI sum)), (3, .int (nI few)), (4, .int (nI wt))]) (pc := 107) dX6_branch_107 (Nat.le_of_ble_eq_true rfl) rfl ?_
  refine xx_iload (pc := 109) dX6_branch_109 1 rfl ?_
  refine xx_if_neN (pc := 111) 139 dX6_branch_111 rfl (by omega) (fun c12 => by exfalso; omega) (fun c12 => ?_)
  refine xx_aload_nP (pc := 114) dX6_branch_114 4 rfl rfl ?_
  refine xx_iload_n (pc := 115) dX6_branch_115 5 rfl rfl ?_
  refine xx_iconst (pc := 116) dX6_branch_116 cc_iconst_1 ?_
  refine xx_iaddN (pc := 117) dX6_branch_117 ?_
  refine xx_iload_n (pc := 118) dX6_branch_118 6 rfl rfl ?_
  refine xx_iload (pc := 119) dX6_branch_119 0 rfl ?_
  refine xx_iaddN (pc := 121) dX6_branch_121 ?_
  refine xx_iload_n (pc := 122) dX6_branch_122 7 rfl rfl ?_
  refine xx_iload (pc := 123) dX6_branch_123 8 rfl ?_
  refine xx_iconst (pc := 125) dX6_branch_125 cc_iconst_1 ?_
  refine xx_iload (pc := 126) dX6_branch_126 2 rfl ?_
  have hsz_x13 := size_le (mo_idle s) (by omega)
  refine xx_callS0 (pc := 128) (st := [.int (nI 1), .int (nI wt), .int (nI few), .int (nI (sum + (mo_worth s 0))), .int (nI (k + 1)), ic_pt E 95]) (cC_bitCount (w := w10) (n := mo_idle s) (by omega)) kJ6_bitCount_0f7a4 sX6_100 dX6_branch_128 rfl rfl (Nat.le_of_ble_eq_true rfl) (pl_hR (d := m + 9) (by omega) (Nat.le_of_ble_eq_true rfl)) ⟨Nat.zero_le _, Nat.zero_le _⟩ (ic_ke ?_)
  refine xx_iaddN (pc := 131) dX6_branch_131 ?_
  refine xx_imulN (pc := 132) dX6_branch_132 ?_
  have gt1 := mo_go_1 s 0
  have gt2 : mo_go s 0 2 = s 2 := mo_go_r _ (by omega) (by omega) (by omega)
  have q95_ : w10 95 = w2 95 := by rw [gw10 95 (by omega) (by omega) (by omega) (by omega) (by omega), gb 95 (by omega) (by omega) (by omega), ew6, wu_row _ _ _ (by omega)]
  refine xx_callV0 (pc := 133) (st := []) sh_95 (IH w10 (mo_go s 0) (k + 1) (sum + (mo_worth s 0)) (few) (wt * (1 + (mo_size (mo_idle s)))) (by unfold Pk; rw [q95_]; exact hpk_w2) hm_w10 hN_w10 hIn_w10 hRu_w10 (by rw [q95_]; omega) (by omega) (by omega) (by omega)) kX6_branch vX6_77_6 dX6_branch_133 rfl rfl (Nat.le_of_ble_eq_true rfl) (pl_hR (d := m + 9) (by omega) (Nat.le_of_ble_eq_true rfl)) ⟨Nat.zero_le _, Nat.zero_le _⟩ (ic_kv (fun h_ qw14 => ?_))
  obtain ⟨w14, rfl, fb_, pk_, pp_⟩ := qw14
  obtain ⟨fs_, e95_, e98_, e97_, ek_⟩ := Fb.step (by omega) ew6 gb gw10 fb_
  rw [cl_x_e e95_ e98_, e95_] at pp_
  refine xx_goto (pc := 136) 155 dX6_branch_136 rfl ?_
  refine xx_iincN (L' := [(7, .int (nI 1)), (8, .int (nI (mo_worth s 0))), (6, .int (nI (mo_idle s))), (5, ic_pt E (99 + 3 * (k + 1))), (0, ic_pt E 95), (1, .int (nI k)), (2, .int (nI sum)), (3, .int (nI few)), (4, .int (nI wt))]) (pc := 155) dX6_branch_155 1 rfl cc_iconst_1 (Nat.le_of_ble_eq_true rfl) rfl ?_
  refine xx_goto (pc := 158) 45 dX6_branch_158 rfl ?_
  have q0_ : pl_Q m s k sum few wt (w 95 4) (w 95 9) (fun j => w 97 j) (cl_x w) (cl_x w14) 0 := by
    refine pl_Q_0 (fi := fun j => if j < k + 1 then w10 97 j else pl_fi m (mo_go s 0) (j - (k + 1))) ?_ ?_
    · have ew_ : cl_x w2 = cl_x w := cl_x_e (gw2 95 (by omega) (by omega)) (gw2 98 (by omega) (by omega))
      have ec_ : mo_size (mo_idle s) = mo_cnt (pl_id s) (s 0) := size_set _ _ hn0
      rw [ew_, gw2 95 (by omega) (by omega), ec_] at pp_
      exact pp_
    · intro j hj
      unfold pl_a
      by_cases y : j < k
      · rw [if_pos (by omega), if_pos y]
        exact (e97_ j y).trans (by rw [gw2 97 (by omega) (by omega)])
      · rw [if_neg y]
        by_cases t : j = k
        · rw [if_pos (by omega), if_pos t, t]
          exact ek_
        · rw [if_neg (by omega), if_neg t]
  have hf0_ : Fb k w w2 := ⟨fun q h1 h2 _ _ _ _ => gw2 q h1 h2, by rw [gw2 95 (by omega) (by omega)], by rw [gw2 95 (by omega) (by omega)], fun j _ => by rw [gw2 97 (by omega) (by omega)]⟩
  have lp : ∀ (n_ : Nat) (a : Nat) (u : ic_w), 1 ≤ a ∧ a ≤ s 0 + 1 → Fb k w u → Pk u → pl_Q m s k sum few wt (w 95 4) (w 95 9) (fun j => w 97 j) (cl_x w) (cl_x u) (a - 1) → s 0 + 1 - a < n_ → xx l E (ic_fr E mX6_branch (m + 9) 0 0 False SHs (ic_qv (fun h_ => ∃ w2, h_ = hn w2 ∧ Fb k w w2 ∧ Pk w2 ∧ pl_P (cl_x w) (cl_x w2) (sum + pl_mx (m + 1) s) (wt * pl_ct (m + 1) s) (w 95 4) (few + pl_fw (w 95 9) (m + 1) s) (pl_ev (m + 1) s) (fun j => if j < k then w 97 j else pl_fi (m + 1) s (j - k))))) (0, 0) 45 [(7, .int (nI a)), (0, ic_pt E 95), (1, .int (nI k)), (2, .int (nI sum)), (3, .int (nI few)), (4, .int (nI wt)), (5, ic_pt E (99 + 3 * (k + 1))), (6, .int (nI (mo_idle s)))] [] SHs (hn u) := by
    intro n_
    induction n_ with
    | zero => intro a u ha hfb hpk_u hqq hm_; exact absurd hm_ (Nat.not_lt_zero _)
    | succ n_ ih_ =>
      intro a u ha hfb hpk_u hqq hm_
      have hN_u : Cn u s := hN.fb hfb
      have n1_u : u 39 10 = s 0 := hN_u.n
      have hp_u : Cs u (99 + 3 * k) s := hm.of (hfb.1 _ (by omega) (by omega) (by omega) (by omega) (by omega) (by omega)) (hfb.1 _ (by omega) (by omega) (by omega) (by omega) (by omega) (by omega)) (hfb.1 _ (by omega) (by omega) (by omega) (by omega) (by omega) (by omega))
      have u4_ := hfb.2.1
      refine xx_iload (pc := 45) dX6_branch_45 0 rfl ?_
      refine xx_aload_nP (pc := 47) dX6_branch_47 1 rfl rfl ?_
      refine xx_getR (pc := 48) 39 dX6_branch_48 sh_95 fX6_24_6 rfl rfl (by decide) ?_
      refine xx_getN (pc := 51) dX6_branch_51 sh_39 fX6_89_5 rfl ?_
      refine xx_icmp_gtN (pc := 54) 161 dX6_branch_54 rfl (by omega) (by omega) (fun c36 => ?_) (fun c36 => ?_)
      · exact xx_vret (pc := 161) dX6_branch_161 rfl (Nat.le_refl _) (Nat.le_refl _) (ic_rv0 ⟨u, rfl, hfb, hpk_u, pl_Q_e (by rw [show a - 1 = s 0 by omega] at hqq; exact hqq) (by omega)⟩)
      · refine xx_iload (pc := 57) dX6_branch_57 0 rfl ?_
        refine xx_if_leN (pc := 59) 77 dX6_branch_59 rfl (by omega) (fun c37 => by exfalso; omega) (fun c37 => ?_)
        have hid_ : mo_idle s / 2 ^ (a - 1) % 2 = if a - 1 < s 0 ∧ decide (mo_deed s (a - 1) = 2) = true then 1 else 0 := mo_set_bit (fun q => decide (mo_deed s q = 2)) (a - 1) (s 0)
        have hil_ : mo_idle s < 64 := Nat.lt_of_lt_of_le (mo_set_lt _ _) (mo_p2 hn0)
        refine xx_iload (pc := 62) dX6_branch_62 7 rfl ?_
        refine xx_iload (pc := 64) dX6_branch_64 0 rfl ?_
        refine xx_iconst (pc := 66) dX6_branch_66 cc_iconst_1 ?_
        refine xx_isubN (pc := 67) dX6_branch_67 (by omega) ?_
        refine xx_callSN0 (pc := 68) (st := []) (cC_has (w := u) (t := mo_idle s) (k := a - 1) (by omega) (by omega)) kX11_has nX6_92 (by exact s_X11_has) dX6_branch_68 rfl rfl (Nat.le_of_ble_eq_true rfl) (pl_hR (d := m + 9) (by omega) (Nat.le_of_ble_eq_true rfl)) ⟨Nat.zero_le _, Nat.zero_le _⟩ (ic_ke ?_)
        refine xx_if_eqB (pc := 71) 77 dX6_branch_71 rfl (fun c38 => ?_) (fun c38 => ?_)
        · refine xx_aload_nP (pc := 77) dX6_branch_77 1 rfl rfl ?_
          refine xx_getR (pc := 78) 97 dX6_branch_78 sh_95 fX6_17_6 rfl rfl (by decide) ?_
          refine xx_iload_n (pc := 81) dX6_branch_81 2 rfl rfl ?_
          refine xx_iload (pc := 82) dX6_branch_82 0 rfl ?_
          refine xx_iastN (pc := 84) dX6_branch_84 sh_97 (by omega) (by decide) ?_
          refine xx_nw (fun w39 ew39 => ?_)
          refine xx_aloadP (pc := 85) dX6_branch_85 6 rfl ?_
          refine xx_aload_nP (pc := 87) dX6_branch_87 1 rfl rfl ?_
          refine xx_getR (pc := 88) 96 dX6_branch_88 sh_95 fX6_11_6 rfl rfl (by decide) ?_
          refine xx_iload_n (pc := 91) dX6_branch_91 2 rfl rfl ?_
          refine xx_aald (pc := 92) k (99 + 3 * k) dX6_branch_92 sh_96 (by decide) rfl (by omega) (by decide) (pm_at (by omega)) ?_
          refine xx_callV0 (pc := 93) (st := []) (Mo_pl (by omega)).1 (cC_mbecome (w := w39) (m := 99 + 3 * (k + 1)) (p := 99 + 3 * k) (Mo_pl (by omega)) (Mo_pl (by omega)) (by omega)) kX4_become vX6_54_4 dX6_branch_93 rfl rfl (Nat.le_of_ble_eq_true rfl) (pl_hR (d := m + 9) (by omega) (Nat.le_of_ble_eq_true rfl)) ⟨Nat.zero_le _, Nat.zero_le _⟩ (ic_kv (fun h_ qw40 => ?_))
          obtain ⟨w40, rfl, b0, b1, bj, gb⟩ := qw40
          have hm_w40 : Cs w40 (99 + 3 * (k + 1)) s := Cs.bc (show Cs w39 (99 + 3 * k) s from hp_u.of (by rw [ew39, wu_row _ _ _ (by omega)]) (by rw [ew39, wu_row _ _ _ (by omega)]) (by rw [ew39, wu_row _ _ _ (by omega)])) hIn b0 b1 bj
          have hN_w40 : Cn w40 s := hN_u.of (by rw [gb _ (by omega) (by omega) (by omega), ew39, wu_row _ _ _ (by omega)]) (by rw [gb _ (by omega) (by omega) (by omega), ew39, wu_row _ _ _ (by omega)]) (by rw [gb _ (by omega) (by omega) (by omega), ew39, wu_row _ _ _ (by omega)]) (fun b _ _ _ _ _ _ _ _ => by rw [gb _ (by omega) (by omega) (by omega), ew39, wu_row _ _ _ (by omega)])
          refine xx_aload_nP (pc := 96) dX6_branch_96 1 rfl rfl ?_
          refine xx_getR (pc := 97) 39 dX6_branch_97 sh_95 fX6_24_6 rfl rfl (by decide) ?_
          refine xx_aloadP (pc := 100) dX6_branch_100 6 rfl ?_
          refine xx_iload (pc := 102) dX6_branch_102 0 rfl ?_
          have hwl_x42 := mo_worth_le hIn (act := a) (by omega)
          refine xx_callV0 (pc := 104) (st := []) sh_39 (cC_goBy (w := w40) (m := 99 + 3 * (k + 1)) (act := a) (s := s) (Mo_pl (k := k + 1) (by omega)) hm_w40 hN_w40 hIn hRu (by omega)) kX5_goBy vX6_96_5 dX6_branch_104 rfl rfl (Nat.le_of_ble_eq_true rfl) (pl_hR (d := m + 9) (by omega) (Nat.le_of_ble_eq_true rfl)) ⟨Nat.zero_le _, Nat.zero_le _⟩ (ic_ki (fun v44 h_ qw43 => ?_))
          obtain ⟨rfl, w43, rfl, gw43, hm_w43⟩ := qw43
          have hIn_w43 : In (mo_go s a) := In_go hIn (by omega) (by omega)
          have hRu_w43 : Ru (mo_go s a) := Ru_go hRu hIn (by omega)
          have hN_w43 : Cn w43 (mo_go s a) := (hN_w40.fm (Mo_pl (k := k + 1) (by omega)) gw43).go hIn (by omega)
          refine xx_istore (L' := [(8, .int (nI (mo_worth s a))), (7, .int (nI a)), (0, ic_pt E 95), (1, .int (nI k)), (2, .int (nI sum)), (3, .int (nI few)), (4, .int (nI wt)), (5, ic_pt E (99 + 3 * (k + 1))), (6, .int (nI (mo_idle s)))]) (pc := 107) dX6_branch_107 (Nat.le_of_ble_eq_true rfl) rfl ?_
          refine xx_iload (pc := 109) dX6_branch_109 1 rfl ?_
          refine xx_if_neN (pc := 111) 139 dX6_branch_111 rfl (by omega) (fun c45 => ?_) (fun c45 => by exfalso; omega)
          refine xx_aload_nP (pc := 139) dX6_branch_139 2 rfl rfl ?_
          refine xx_iload_n (pc := 140) dX6_branch_140 3 rfl rfl ?_
          refine xx_iconst (pc := 141) dX6_branch_141 cc_iconst_1 ?_
          refine xx_iaddN (pc := 142) dX6_branch_142 ?_
          refine xx_iload_n (pc := 143) dX6_branch_143 4 rfl rfl ?_
          refine xx_iload (pc := 144) dX6_branch_144 0 rfl ?_
          refine xx_iaddN (pc := 146) dX6_branch_146 ?_
          refine xx_iload_n (pc := 147) dX6_branch_147 5 rfl rfl ?_
          refine xx_iconst (pc := 148) dX6_branch_148 cc_iconst_1 ?_
          refine xx_iaddN (pc := 149) dX6_branch_149 ?_
          refine xx_iload (pc := 150) dX6_branch_150 6 rfl ?_
          have gt1 := mo_go_1 s a
          have gt2 : mo_go s a 2 = s 2 := mo_go_r _ (by omega) (by omega) (by omega)
          have q95_ : w43 95 = u 95 := by rw [gw43 95 (by omega) (by omega) (by omega) (by omega) (by omega), gb 95 (by omega) (by omega) (by omega), ew39, wu_row _ _ _ (by omega)]
          refine xx_callV0 (pc := 152) (st := []) sh_95 (IH w43 (mo_go s a) (k + 1) (sum + (mo_worth s a)) (few + 1) (wt) (by unfold Pk; rw [q95_]; exact hpk_u) hm_w43 hN_w43 hIn_w43 hRu_w43 (by rw [q95_]; omega) (by omega) (by omega) (by omega)) kX6_branch vX6_77_6 dX6_branch_152 rfl rfl (Nat.le_of_ble_eq_true rfl) (pl_hR (d := m + 9) (by omega) (Nat.le_of_ble_eq_true rfl)) ⟨Nat.zero_le _, Nat.zero_le _⟩ (ic_kv (fun h_ qw46 => ?_))
          obtain ⟨w46, rfl, fb_, pk_, pp_⟩ := qw46
          obtain ⟨fs_, e95_, e98_, e97_, ek_⟩ := Fb.step (by omega) ew39 gb gw43 fb_
          rw [cl_x_e e95_ e98_, e95_] at pp_
          refine xx_iincN (L' := [(7, .int (nI (a + 1))), (8, .int (nI (mo_worth s a))), (0, ic_pt E 95), (1, .int (nI k)), (2, .int (nI sum)), (3, .int (nI few)), (4, .int (nI wt)), (5, ic_pt E (99 + 3 * (k + 1))), (6, .int (nI (mo_idle s)))]) (pc := 155) dX6_branch_155 1 rfl cc_iconst_1 (Nat.le_of_ble_eq_true rfl) rfl ?_
          refine xx_goto (pc := 158) 45 dX6_branch_158 rfl ?_
          have hdd : ¬ mo_deed s (a - 1) = 2 := fun z => by rw [if_pos ⟨by omega, decide_eq_true z⟩] at hid_; omega
          have hl1 := pl_f_le hIn hRu (m := m) (a := mo_am (pl_f m s) (a - 1)) (by have := mo_am_le (pl_f m s) (a - 1); omega) (by omega)
          have hl2 := pl_f_le hIn hRu (m := m) (a := a) (by omega) (by omega)
          have pq_ : pl_Q m s k sum few wt (w 95 4) (w 95 9) (fun j => w 97 j) (cl_x w) (cl_x w46) (a - 1 + 1) := by
            refine pl_Q_s hqq hdd (fi := fun j => if j < k + 1 then w43 97 j else pl_fi m (mo_go s a) (j - (k + 1))) ?_ ?_ (by omega) (by rw [show a - 1 + 1 = a by omega]; omega)
            · rw [show a - 1 + 1 = a by omega, ← hfb.2.1, ← hfb.2.2.1]
              exact pp_
            · intro j hj
              unfold pl_a
              rw [show a - 1 + 1 = a by omega]
              by_cases y : j < k
              · rw [if_pos (by omega), if_pos y]
                exact (e97_ j y).trans (hfb.2.2.2 j y)
              · rw [if_neg y]
                by_cases t : j = k
                · rw [if_pos (by omega), if_pos t, t]
                  exact ek_
                · rw [if_neg (by omega), if_neg t]
          exact xx_sub [0, 2, 3, 4, 5, 6, 7, 8] rfl (ih_ (a + 1) _ (by omega) (hfb.tr fs_) pk_ (by rw [show a + 1 - 1 = a - 1 + 1 by omega]; exact pq_) (by omega))
        · refine xx_goto (pc := 74) 155 dX6_branch_74 rfl ?_
          refine xx_iincN (L' := [(7, .int (nI (a + 1))), (0, ic_pt E 95), (1, .int (nI k)), (2, .int (nI sum)), (3, .int (nI few)), (4, .int (nI wt)), (5, ic_pt E (99 + 3 * (k + 1))), (6, .int (nI (mo_idle s)))]) (pc := 155) dX6_branch_155 0 rfl cc_iconst_1 (Nat.le_of_ble_eq_true rfl) rfl ?_
          refine xx_goto (pc := 158) 45 dX6_branch_158 rfl ?_
          have hdd : mo_deed s (a - 1) = 2 := by by_cases z : mo_deed s (a - 1) = 2; exact z; exfalso; rw [if_neg (fun y => z (of_decide_eq_true y.2))] at hid_; omega
          exact xx_sub [0, 1, 2, 3, 4, 5, 6, 7] rfl (ih_ (a + 1) u (by omega) hfb hpk_u (by rw [show a + 1 - 1 = (a - 1) + 1 by omega]; exact pl_Q_i hqq hIn (by omega) hdd) (by omega))
  exact xx_sub [0, 4, 5, 6, 7, 8, 3, 2] rfl (lp (s 0 + 2) 1 w14 (by omega) (hf0_.tr fs_) pk_ q0_ (by omega))

theorem cC_branch {l : Launch} {E : ic_E} : ∀ m, Br l E m
  | 0 => fun _ _ _ _ _ _ h1 h2 h3 h4 h5 h6 h7 h8 h9 => cC_leaf (by omega) (Or.inl rfl) h1 h2 h3 h4 h5 h6 h7 h8 h9
  | m + 1 => fun _ s _ _ _ _ h1 h2 h3 h4 h5 h6 h7 h8 h9 => by
    by_cases z : s 2 ≤ s 1
    · exact cC_leaf (by omega) (Or.inr z) h1 h2 h3 h4 h5 h6 h7 h8 h9
    · exact cC_node (cC_branch m) (by omega) h1 h2 h3 h4 h5 h6 h7 h8 h9
