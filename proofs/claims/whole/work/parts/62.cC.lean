/-! the class: what is read off the net -/
theorem cnt_t {s g : Nat → Nat} {k j : Nat} (hj : j = it s k 5) (ho : it s k 4 = 0) (h : ∀ f, f < 6 → g f = mo_cnt (fun o => decide (it s o 4 = 0 ∧ it s o 5 = f)) k) : ∀ f, f < 6 → fu g j (g j + 1) f = mo_cnt (fun o => decide (it s o 4 = 0 ∧ it s o 5 = f)) (k + 1) := by
  intro f hf
  by_cases z : f = j
  · subst z
    rw [fu_s, h _ hf]
    exact (mo_cnt_t (by simp [ho, hj])).symm
  · rw [fu_n _ z, h _ hf]
    exact (mo_cnt_f (by simp [ho]; intro q; exact z (q.symm.trans hj.symm))).symm
theorem cnt_f {s g : Nat → Nat} {k : Nat} (ho : ¬ it s k 4 = 0) (h : ∀ f, f < 6 → g f = mo_cnt (fun o => decide (it s o 4 = 0 ∧ it s o 5 = f)) k) : ∀ f, f < 6 → g f = mo_cnt (fun o => decide (it s o 4 = 0 ∧ it s o 5 = f)) (k + 1) := by
  intro f hf
  rw [h _ hf]
  exact (mo_cnt_f (by simp [ho])).symm
theorem mo_ot (s : Nat → Nat) (o : Nat) : ∀ n, mo_cnt (fun q => decide (it s q 4 = 0 ∧ it s q 5 = it s o 5)) n = mo_cnt (fun q => decide (q ≠ o ∧ it s q 4 = 0 ∧ it s q 5 = it s o 5)) n + (if o < n ∧ it s o 4 = 0 then 1 else 0)
  | 0 => by rw [mo_cnt, mo_cnt, if_neg (by omega)]
  | n + 1 => by
    rw [mo_cnt, mo_cnt, mo_ot s o n]
    by_cases h : n = o
    · subst h
      by_cases z : it s n 4 = 0 <;> simp [z]
    · have e : (o < n + 1) ↔ (o < n) := by omega
      simp only [h, ne_eq, not_false_eq_true, true_and, e]
      omega
theorem mo_mo {s : Nat → Nat} {o : Nat} (h : o < s 0) : mo_many s (it s o 5) = mo_others s o + (if it s o 4 = 0 then 1 else 0) := by
  have := mo_ot s o (s 0)
  unfold mo_many mo_others
  rw [this]
  by_cases z : it s o 4 = 0
  · rw [if_pos ⟨h, z⟩, if_pos z]
  · rw [if_neg (fun q => z q.2), if_neg z]
/-- what it comes to when one is told -/
def mo_deed (s : Nat → Nat) (k : Nat) : Nat := if it s k 4 = 1 then 2 else if mo_will s k = 0 ∧ mo_pays s k = 0 then 2 else mo_will s k
theorem mo_deed_le {s : Nat → Nat} (h : Ru s) (k : Nat) : mo_deed s k ≤ 2 := by
  have := mo_will_le h k
  unfold mo_deed
  repeat' split
  all_goals omega
theorem mo_deed_0 {s : Nat → Nat} {k : Nat} (h1 : it s k 4 ≤ 1) : mo_deed s k = 0 ↔ (0 < mo_pays s k ∧ mo_will s k = 0) := by
  unfold mo_deed mo_pays
  repeat' split
  all_goals omega
theorem ho_ev {x : Nat} (h : x < 2 ^ 32) : x &&& 4294967294 = x - x % 2 := by
  have h1 := Nat.and_div_two (a := x) (b := 4294967294)
  have h2 : x / 2 &&& 4294967294 / 2 = x / 2 % 2 ^ 31 := Nat.and_two_pow_sub_one_eq_mod (x / 2) 31
  have h3 : ¬ (x &&& 4294967294) % 2 = 1 := fun z => by have := (Nat.and_mod_two_eq_one.mp z).2; omega
  rw [h2] at h1
  omega
theorem ho_ev2 {x : Nat} (h : x < 2 ^ 63) : x &&& 18446744073709551614 = x - x % 2 := by
  have h1 := Nat.and_div_two (a := x) (b := 18446744073709551614)
  have h2 : x / 2 &&& 18446744073709551614 / 2 = x / 2 % 2 ^ 63 := Nat.and_two_pow_sub_one_eq_mod (x / 2) 63
  have h3 : ¬ (x &&& 18446744073709551614) % 2 = 1 := fun z => by have := (Nat.and_mod_two_eq_one.mp z).2; omega
  rw [h2] at h1
  omega
theorem ho_or {x : Nat} (h : x < 2 ^ 31) : x ||| 4294967294 = 4294967294 + x % 2 := by
  have h1 := Nat.or_div_two (a := x) (b := 4294967294)
  have h2 : x / 2 ||| 4294967294 / 2 < 2 ^ 31 := Nat.or_lt_two_pow (by omega) (by omega)
  have h3 : 4294967294 / 2 ≤ x / 2 ||| 4294967294 / 2 := Nat.right_le_or
  have h4 := Nat.or_mod_two_eq_one (a := x) (b := 4294967294)
  by_cases z : x % 2 = 1
  · have := h4.mpr (Or.inl z)
    omega
  · have : ¬ (x ||| 4294967294) % 2 = 1 := fun q => by rcases h4.mp q with y | y <;> omega
    omega
theorem ho_and {t : Nat} (h : t < 2 ^ 31) : t / 2 ^ 1 &&& (t ||| 4294967294) = if t &&& 1 = 1 then t / 2 else t / 2 &&& 18446744073709551614 := by
  rw [ho_or h, mo_and1, ho_ev2 (by omega)]
  split
  · rw [show 4294967294 + t % 2 = 2 ^ 32 - 1 by omega, Nat.and_two_pow_sub_one_eq_mod]
    omega
  · rw [show 4294967294 + t % 2 = 4294967294 by omega, ho_ev (by omega)]
theorem ho_m14 (x : Nat) : x &&& 16383 = x % 16384 := Nat.and_two_pow_sub_one_eq_mod x 14
/-- what the rules may know of one -/
def Kn (w : ic_w) (s : Nat → Nat) (o : Nat) : Prop := w 66 0 = s 1 ∧ w 66 1 = it s o 1 ∧ w 66 2 = it s o 2 ∧ w 66 3 = mo_crowd s (s 1) / 4 ∧ w 66 4 = o
theorem Kn.v {w : ic_w} {s : Nat → Nat} {o v : Nat} (h : Kn w s o) (h1 : 10000 ≤ v) (h2 : v ≤ 10004) : w 66 (v - 10000) = mo_val s v o := by
  obtain ⟨a0, a1, a2, a3, a4⟩ := h
  rcases (show v = 10000 ∨ v = 10001 ∨ v = 10002 ∨ v = 10003 ∨ v = 10004 by omega) with rfl | rfl | rfl | rfl | rfl
  · exact a0
  · exact a1
  · exact a2
  · exact a3
  · exact a4
theorem mo_val_n {s : Nat → Nat} {o v : Nat} (h : v < 10000) : v = mo_val s v o := by
  unfold mo_val
  rw [if_neg (by omega), if_neg (by omega), if_neg (by omega), if_neg (by omega), if_neg (by omega)]
theorem mo_en_c {a b c : Nat} (h : a ≤ 5) : (a < 3 ∧ mo_en a b c = b + c * 16384 + a * 268435456) ∨ (a = 3 ∧ mo_en a b c = 4294967295) ∨ (a = 4 ∧ mo_en a b c = 4294967294) ∨ (a = 5 ∧ mo_en a b c = 4294967293) := by
  unfold mo_en
  rcases (show a < 3 ∨ a = 3 ∨ a = 4 ∨ a = 5 by omega) with h | h | h | h
  · exact Or.inl ⟨h, by rw [if_neg (by omega), if_neg (by omega), if_neg (by omega)]⟩
  · exact Or.inr (Or.inl ⟨h, if_pos h⟩)
  · exact Or.inr (Or.inr (Or.inl ⟨h, by rw [if_neg (by omega), if_pos h]⟩))
  · exact Or.inr (Or.inr (Or.inr ⟨h, by rw [if_neg (by omega), if_neg (by omega), if_pos h]⟩))
theorem mo_cmp_b (sort a b : Nat) : (if mo_cmp sort a b = true then 1 else 0) = if (if sort = 0 then a < b else if sort = 1 then a = b else b < a) then 1 else 0 := by
  unfold mo_cmp
  by_cases h0 : sort = 0
  · simp [h0]
  · by_cases h1 : sort = 1 <;> simp [h0, h1]
theorem ho_b {t b : Nat} (h : b ≤ 1) : t * 2 ^ 1 ||| b = 2 * t + b := by
  have := Nat.two_pow_add_eq_or_of_lt (i := 1) (b := b) (by omega) t
  rw [Nat.mul_comm t, ← this]

set_option maxHeartbeats 4000000 in
set_option maxRecDepth 100000 in
theorem cC_count {l : Launch} {E : ic_E} {w : ic_w} {m : Nat} {s : Nat → Nat} (hM : Mo m) (hm : Cs w m s) (hN : Cn w s) (hIn : In s) : ic_C l E mX5_count 2 0 0 False [ic_pt E 39, ic_pt E m] SHs (hn w) SHs (ic_qv (fun h_ => ∃ w2, h_ = hn w2 ∧ (∀ a, a ≠ 65 → w2 a = w a) ∧ ∀ f, f < 6 → w2 65 f = mo_many s f)) := by
  refine ic_intro (by decide +kernel) (Nat.le_of_ble_eq_true rfl) ?_
  show xx l E _ _ 0 [(0, ic_pt E 39), (1, ic_pt E m)] _ _ _
  have hMb := hM.2.2.2
  have hn0 := hIn.n
  have htt := hIn.t
  have hcr := hIn.cr (s 1)
  have n1_w : w 39 10 = s 0 := hN.n
  have n2_w : w 39 11 = s 2 := hN.e
  have n3_w : w m 0 = s 1 := hm.t
  have lq : ∀ (n_ : Nat) (k : Nat) (u : ic_w), k ≤ s 0 → (∀ a, a ≠ 65 → u a = w a) → (∀ f, f < 6 → u 65 f = mo_cnt (fun o => decide (it s o 4 = 0 ∧ it s o 5 = f)) k) → s 0 - k < n_ → xx l E (ic_fr E mX5_count 2 0 0 False SHs (ic_qv (fun h_ => ∃ w2, h_ = hn w2 ∧ (∀ a, a ≠ 65 → w2 a = w a) ∧ ∀ f, f < 6 → w2 65 f = mo_many s f))) (0, 0) 23 [(2, .int (nI k)), (0, ic_pt E 39), (1, ic_pt E m)] [] SHs (hn u) := by
    intro n_
    induction n_ with
    | zero => intro k u hk hr hc hm_; exact absurd hm_ (Nat.not_lt_zero _)
    | succ n_ ih_ =>
      intro k u hk hr hc hm_
      have hN_u : Cn u s := hN.of (by rw [hr _ (by omega)]) (by rw [hr _ (by omega)]) (by rw [hr _ (by omega)]) (fun a _ _ _ _ _ _ _ _ => hr a (by omega))
      have hm_u : Cs u m s := hm.of (hr _ (by omega)) (hr _ (by omega)) (hr _ (by omega))
      have n1_u : u 39 10 = s 0 := hN_u.n
      have n2_u : u 39 11 = s 2 := hN_u.e
      have n3_u : u m 0 = s 1 := hm_u.t
      refine xx_iload_n (pc := 23) dX5_count_23 0 rfl rfl ?_
      refine xx_aload_nP (pc := 24) dX5_count_24 1 rfl rfl ?_
      refine xx_getN (pc := 25) dX5_count_25 sh_39 fX5_84_5 rfl ?_
      refine xx_icmp_geN (pc := 28) 60 dX5_count_28 rfl (by omega) (by omega) (fun c1 => ?_) (fun c1 => ?_)
      · exact xx_vret (pc := 60) dX5_count_60 rfl (Nat.le_refl _) (Nat.le_refl _) (ic_rv0 ⟨u, rfl, hr, fun f hf => by rw [hc f hf, show k = s 0 by omega]; rfl⟩)
      · refine xx_aload_nP (pc := 31) dX5_count_31 2 rfl rfl ?_
        refine xx_iload_n (pc := 32) dX5_count_32 0 rfl rfl ?_
        refine xx_callV0 (pc := 33) (st := []) hM.1 (cC_isOut (w := u) (m := m) (s := s) (k := k) hM hm_u (by omega) hIn) kX4_isOut vX5_102_4 dX5_count_33 rfl rfl (Nat.le_of_ble_eq_true rfl) ⟨Nat.le_of_ble_eq_true rfl, Nat.le_of_ble_eq_true rfl⟩ ⟨Nat.zero_le _, Nat.zero_le _⟩ (ic_ke ?_)
        refine xx_if_neB (pc := 36) 54 dX5_count_36 rfl (fun c2 => ?_) (fun c2 => ?_)
        · have i5 := hIn.i (o := k) (by omega)
          refine xx_iincN (L' := [(2, .int (nI (k + 1))), (0, ic_pt E 39), (1, ic_pt E m)]) (pc := 54) dX5_count_54 0 rfl cc_iconst_1 (Nat.le_of_ble_eq_true rfl) rfl ?_
          refine xx_goto (pc := 57) 23 dX5_count_57 rfl ?_
          exact xx_sub [0, 1, 2] rfl (ih_ (k + 1) u (by omega) hr (cnt_f (by omega) hc) (by omega))
        · have a5 := hm_u.a (k := k) (by omega)
          have i5 := hIn.i (o := k) (by omega)
          refine xx_aload_nP (pc := 39) dX5_count_39 1 rfl rfl ?_
          refine xx_getR (pc := 40) 65 dX5_count_40 sh_39 fX5_58_5 rfl rfl (by decide) ?_
          refine xx_aload_nP (pc := 43) dX5_count_43 2 rfl rfl ?_
          refine xx_getR (pc := 44) (m + 2) dX5_count_44 hM.1 fX5_93_4 rfl (by rfl) (by omega) ?_
          refine xx_iload_n (pc := 47) dX5_count_47 0 rfl rfl ?_
          refine xx_ialdN (pc := 48) dX5_count_48 hM.2.2.1 (by omega) (by decide) ?_
          refine xx_dup2 (pc := 49) dX5_count_49 rfl rfl ?_
          refine xx_ialdN (pc := 50) dX5_count_50 sh_65 (by omega) (by decide) ?_
          refine xx_iconst (pc := 51) dX5_count_51 cc_iconst_1 ?_
          refine xx_iaddN (pc := 52) dX5_count_52 ?_
          refine xx_iastN (pc := 53) dX5_count_53 sh_65 (by omega) (by decide) ?_
          refine xx_nw (fun w3 ew3 => ?_)
          refine xx_iincN (L' := [(2, .int (nI (k + 1))), (0, ic_pt E 39), (1, ic_pt E m)]) (pc := 54) dX5_count_54 0 rfl cc_iconst_1 (Nat.le_of_ble_eq_true rfl) rfl ?_
          refine xx_goto (pc := 57) 23 dX5_count_57 rfl ?_
          exact xx_sub [0, 1, 2] rfl (ih_ (k + 1) w3 (by omega) (fun a h => by rw [ew3, wu_row _ _ _ h]; exact hr a h) (by rw [ew3, wu_wr, wr_s]; exact cnt_t a5 (by omega) hc) (by omega))
  have lp : ∀ (n_ : Nat) (k : Nat) (u : ic_w), k ≤ 6 → (∀ a, a ≠ 65 → u a = w a) → (∀ f, f < k → u 65 f = 0) → 6 - k < n_ → xx l E (ic_fr E mX5_count 2 0 0 False SHs (ic_qv (fun h_ => ∃ w2, h_ = hn w2 ∧ (∀ a, a ≠ 65 → w2 a = w a) ∧ ∀ f, f < 6 → w2 65 f = mo_many s f))) (0, 0) 2 [(2, .int (nI k)), (0, ic_pt E 39), (1, ic_pt E m)] [] SHs (hn u) := by
    intro n_
    induction n_ with
    | zero => intro k u hk hr hz hm_; exact absurd hm_ (Nat.not_lt_zero _)
    | succ n_ ih_ =>
      intro k u hk hr hz hm_
      refine xx_iload_n (pc := 2) dX5_count_2 0 rfl rfl ?_
      refine xx_bipush (pc := 3) dX5_count_3 cc_bipush_6 ?_
      refine xx_icmp_geN (pc := 5) 21 dX5_count_5 rfl (by omega) (by omega) (fun c4 => ?_) (fun c4 => ?_)
      · refine xx_iconst (pc := 21) dX5_count_21 cc_iconst_0 ?_
        refine xx_istore_n (L' := [(2, .int (nI 0)), (0, ic_pt E 39), (1, ic_pt E m)]) (pc := 22) dX5_count_22 rfl (Nat.le_of_ble_eq_true rfl) rfl ?_
        exact xx_sub [0, 1, 2] rfl (lq (s 0 + 1) 0 u (by omega) hr (fun f hf => hz f (by omega)) (by omega))
      · refine xx_aload_nP (pc := 8) dX5_count_8 1 rfl rfl ?_
        refine xx_getR (pc := 9) 65 dX5_count_9 sh_39 fX5_58_5 rfl rfl (by decide) ?_
        refine xx_iload_n (pc := 12) dX5_count_12 0 rfl rfl ?_
        refine xx_iconst (pc := 13) dX5_count_13 cc_iconst_0 ?_
        refine xx_iastN (pc := 14) dX5_count_14 sh_65 (by omega) (by decide) ?_
        refine xx_nw (fun w5 ew5 => ?_)
        refine xx_iincN (L' := [(2, .int (nI (k + 1))), (0, ic_pt E 39), (1, ic_pt E m)]) (pc := 15) dX5_count_15 0 rfl cc_iconst_1 (Nat.le_of_ble_eq_true rfl) rfl ?_
        refine xx_goto (pc := 18) 2 dX5_count_18 rfl ?_
        exact xx_sub [0, 1, 2] rfl (ih_ (k + 1) w5 (by omega) (fun a h => by rw [ew5, wu_row _ _ _ h]; exact hr a h) (fun f hf => by rw [ew5, wu_wr, wr_s]; by_cases z : f = k; rw [z, fu_s]; rw [fu_n _ z]; exact hz f (by omega)) (by omega))
  refine xx_iconst (pc := 0) dX5_count_0 cc_iconst_0 ?_
  refine xx_istore_n (L' := [(2, .int (nI 0)), (0, ic_pt E 39), (1, ic_pt E m)]) (pc := 1) dX5_count_1 rfl (Nat.le_of_ble_eq_true rfl) rfl ?_
  exact xx_sub [0, 1, 2] rfl (lp 7 0 w (by omega) (fun _ _ => rfl) (fun _ h => absurd h (by omega)) (by omega))

set_option maxHeartbeats 4000000 in
set_option maxRecDepth 100000 in
theorem cC_sinking {l : Launch} {E : ic_E} {w : ic_w} {m k : Nat} {s : Nat → Nat} (hM : Mo m) (hm : Cs w m s) (hN : Cn w s) (hIn : In s) (hk : k < s 0) : ic_C l E mX5_sinking 4 0 0 False [ic_pt E 39, ic_pt E m, .int (nI k)] SHs (hn w) SHs (ic_qi (fun v_ h_ => v_ = nI (mo_sunk s k) ∧ ∃ w2, h_ = hn w2 ∧ Fs w w2)) := by
  refine ic_intro (by decide +kernel) (Nat.le_of_ble_eq_true rfl) ?_
  show xx l E _ _ 0 [(0, ic_pt E 39), (1, ic_pt E m), (2, .int (nI k))] _ _ _
  have hMb := hM.2.2.2
  have hn0 := hIn.n
  have htt := hIn.t
  have hcr := hIn.cr (s 1)
  have n1_w : w 39 10 = s 0 := hN.n
  have n2_w : w 39 11 = s 2 := hN.e
  have n3_w : w m 0 = s 1 := hm.t
  have hik := hIn.i (o := k) (by omega)
  have hk1 := hN.k1 hk
  have hml := mo_many_le hIn (it s k 5)
  have hmo := mo_mo hk
  have hol := mo_others_le hIn k
  refine xx_aload_nP (pc := 0) dX5_sinking_0 0 rfl rfl ?_
  refine xx_aload_nP (pc := 1) dX5_sinking_1 1 rfl rfl ?_
  refine xx_callV0 (pc := 2) (st := []) sh_39 (cC_count (w := w) (m := m) (s := s) hM hm hN hIn) kX5_count vX5_106_5 dX5_sinking_2 rfl rfl (Nat.le_of_ble_eq_true rfl) ⟨Nat.le_of_ble_eq_true rfl, Nat.le_of_ble_eq_true rfl⟩ ⟨Nat.zero_le _, Nat.zero_le _⟩ (ic_kv (fun h_ qw1 => ?_))
  obtain ⟨w1, rfl, kw1, cw1⟩ := qw1
  have gw1 : Fs w w1 := fun a h1 _ => kw1 a h1
  have hN_w1 : Cn w1 s := hN.fs gw1
  have hm_w1 : Cs w1 m s := hm.fs hM gw1
  have n1_w1 : w1 39 10 = s 0 := hN_w1.n
  have n2_w1 : w1 39 11 = s 2 := hN_w1.e
  have n3_w1 : w1 m 0 = s 1 := hm_w1.t
  refine xx_aload_nP (pc := 5) dX5_sinking_5 0 rfl rfl ?_
  refine xx_getR (pc := 6) 65 dX5_sinking_6 sh_39 fX5_58_5 rfl rfl (by decide) ?_
  refine xx_aload_nP (pc := 9) dX5_sinking_9 1 rfl rfl ?_
  refine xx_getR (pc := 10) (m + 2) dX5_sinking_10 hM.1 fX5_93_4 rfl (by rfl) (by omega) ?_
  refine xx_iload_n (pc := 13) dX5_sinking_13 2 rfl rfl ?_
  refine xx_ialdN (pc := 14) dX5_sinking_14 hM.2.2.1 (by omega) (by decide) ?_
  refine xx_eqI (y := nI (it s k 5)) (by rw [hm_w1.a hk]) ?_
  refine xx_ialdN (pc := 15) dX5_sinking_15 sh_65 (by omega) (by decide) ?_
  refine xx_eqI (y := nI (mo_many s (it s k 5))) (congrArg nI (cw1 _ (by omega))) ?_
  refine xx_aload_nP (pc := 16) dX5_sinking_16 1 rfl rfl ?_
  refine xx_iload_n (pc := 17) dX5_sinking_17 2 rfl rfl ?_
  refine xx_callV0 (pc := 18) (st := [.int (nI (mo_many s (it s k 5)))]) hM.1 (cC_isOut (w := w1) (m := m) (s := s) (k := k) hM hm_w1 (by omega) hIn) kX4_isOut vX5_102_4 dX5_sinking_18 rfl rfl (Nat.le_of_ble_eq_true rfl) ⟨Nat.le_of_ble_eq_true rfl, Nat.le_of_ble_eq_true rfl⟩ ⟨Nat.zero_le _, Nat.zero_le _⟩ (ic_ke ?_)
  refine xx_if_eqB (pc := 21) 28 dX5_sinking_21 rfl (fun c3 => ?_) (fun c3 => ?_)
  · refine xx_iconst (pc := 28) dX5_sinking_28 cc_iconst_1 ?_
    refine xx_isubN (pc := 29) dX5_sinking_29 (by first | omega | (rw [if_pos (by omega)] at hmo; omega)) ?_
    refine xx_eqI (y := nI (mo_others s k)) (by congr 1; split at hmo <;> omega) ?_
    refine xx_istore_n (L' := [(3, .int (nI (mo_others s k))), (0, ic_pt E 39), (1, ic_pt E m), (2, .int (nI k))]) (pc := 30) dX5_sinking_30 rfl (Nat.le_of_ble_eq_true rfl) rfl ?_
    refine xx_aload_nP (pc := 31) dX5_sinking_31 1 rfl rfl ?_
    refine xx_aload_nP (pc := 32) dX5_sinking_32 2 rfl rfl ?_
    refine xx_getN (pc := 33) dX5_sinking_33 hM.1 fX5_99_4 rfl ?_
    refine xx_callV0 (pc := 36) (st := []) sh_39 (cC_crowdOf (w := w1) (t := w1 m 0) (s := s) (by omega) hN_w1) kX5_crowdOf vX5_115_5 dX5_sinking_36 rfl rfl (Nat.le_of_ble_eq_true rfl) ⟨Nat.le_of_ble_eq_true rfl, Nat.le_of_ble_eq_true rfl⟩ ⟨Nat.zero_le _, Nat.zero_le _⟩ (ic_ke ?_)
    refine xx_eqI (y := nI (mo_crowd s (s 1))) (by rw [hm_w1.t]) ?_
    refine xx_istore (L' := [(4, .int (nI (mo_crowd s (s 1)))), (3, .int (nI (mo_others s k))), (0, ic_pt E 39), (1, ic_pt E m), (2, .int (nI k))]) (pc := 39) dX5_sinking_39 (Nat.le_of_ble_eq_true rfl) rfl ?_
    refine xx_aload_nP (pc := 41) dX5_sinking_41 2 rfl rfl ?_
    refine xx_getR (pc := 42) 26 dX5_sinking_42 sh_39 fX5_64_5 rfl rfl (by decide) ?_
    refine xx_aload_nP (pc := 45) dX5_sinking_45 2 rfl rfl ?_
    refine xx_getR (pc := 46) 43 dX5_sinking_46 sh_39 fX5_21_5 rfl rfl (by decide) ?_
    refine xx_iload_n (pc := 49) dX5_sinking_49 4 rfl rfl ?_
    refine xx_ialdN (pc := 50) dX5_sinking_50 sh_43 (by omega) (by decide) ?_
    refine xx_eqI (y := nI (it s k 0)) (by rw [hN_w1.kd hk]) ?_
    refine xx_aald (pc := 51) (it s k 0) (27 + 2 * (it s k 0)) dX5_sinking_51 sh_26 (by decide) rfl (by omega) (by decide) (kn_at hik.1) ?_
    refine xx_iload (pc := 52) dX5_sinking_52 0 rfl ?_
    refine xx_iconst (pc := 54) dX5_sinking_54 cc_iconst_2 ?_
    refine xx_ishrN (pc := 55) dX5_sinking_55 (by omega) (by omega) ?_
    refine xx_iload (pc := 56) dX5_sinking_56 0 rfl ?_
    refine xx_iconst (pc := 58) dX5_sinking_58 cc_iconst_3 ?_
    refine xx_iandN (pc := 59) dX5_sinking_59 ?_
    refine xx_iload_n (pc := 60) dX5_sinking_60 1 rfl rfl ?_
    refine xx_sinks5 (pc := 61) (st := []) (kd := (it s k 0)) (r := (mo_crowd s (s 1)) / 2 ^ 2) (lm := (mo_crowd s (s 1)) &&& 3) (q := mo_others s k) (by omega) (by have := Nat.and_le_right (n := mo_crowd s (s 1)) (m := 3); omega) (by omega) rfl rfl ⟨hk1, hik.1⟩ dX5_sinking_61 (Nat.le_of_ble_eq_true rfl) ⟨Nat.le_of_ble_eq_true rfl, Nat.le_of_ble_eq_true rfl⟩ ⟨Nat.zero_le _, Nat.zero_le _⟩ ?_
    refine xx_eqI (y := nI (mo_sinks (it s k 0) (mo_crowd s (s 1)) (mo_others s k))) (by rw [mo_cr4]) ?_
    exact xx_iret (pc := 64) dX5_sinking_64 rfl (rfl) (Nat.le_refl _) (Nat.le_refl _) (ic_ri ⟨rfl, w1, rfl, gw1⟩)
  · refine xx_iconst (pc := 24) dX5_sinking_24 cc_iconst_0 ?_
    refine xx_goto (pc := 25) 29 dX5_sinking_25 rfl ?_
    refine xx_isubN (pc := 29) dX5_sinking_29 (by first | omega | (rw [if_pos (by omega)] at hmo; omega)) ?_
    refine xx_eqI (y := nI (mo_others s k)) (by congr 1; split at hmo <;> omega) ?_
    refine xx_istore_n (L' := [(3, .int (nI (mo_others s k))), (0, ic_pt E 39), (1, ic_pt E m), (2, .int (nI k))]) (pc := 30) dX5_sinking_30 rfl (Nat.le_of_ble_eq_true rfl) rfl ?_
    refine xx_aload_nP (pc := 31) dX5_sinking_31 1 rfl rfl ?_
    refine xx_aload_nP (pc := 32) dX5_sinking_32 2 rfl rfl ?_
    refine xx_getN (pc := 33) dX5_sinking_33 hM.1 fX5_99_4 rfl ?_
    refine xx_callV0 (pc := 36) (st := []) sh_39 (cC_crowdOf (w := w1) (t := w1 m 0) (s := s) (by omega) hN_w1) kX5_crowdOf vX5_115_5 dX5_sinking_36 rfl rfl (Nat.le_of_ble_eq_true rfl) ⟨Nat.le_of_ble_eq_true rfl, Nat.le_of_ble_eq_true rfl⟩ ⟨Nat.zero_le _, Nat.zero_le _⟩ (ic_ke ?_)
    refine xx_eqI (y := nI (mo_crowd s (s 1))) (by rw [hm_w1.t]) ?_
    refine xx_istore (L' := [(4, .int (nI (mo_crowd s (s 1)))), (3, .int (nI (mo_others s k))), (0, ic_pt E 39), (1, ic_pt E m), (2, .int (nI k))]) (pc := 39) dX5_sinking_39 (Nat.le_of_ble_eq_true rfl) rfl ?_
    refine xx_aload_nP (pc := 41) dX5_sinking_41 2 rfl rfl ?_
    refine xx_getR (pc := 42) 26 dX5_sinking_42 sh_39 fX5_64_5 rfl rfl (by decide) ?_
    refine xx_aload_nP (pc := 45) dX5_sinking_45 2 rfl rfl ?_
    refine xx_getR (pc := 46) 43 dX5_sinking_46 sh_39 fX5_21_5 rfl rfl (by decide) ?_
    refine xx_iload_n (pc := 49) dX5_sinking_49 4 rfl rfl ?_
    refine xx_ialdN (pc := 50) dX5_sinking_50 sh_43 (by omega) (by decide) ?_
    refine xx_eqI (y := nI (it s k 0)) (by rw [hN_w1.kd hk]) ?_
    refine xx_aald (pc := 51) (it s k 0) (27 + 2 * (it s k 0)) dX5_sinking_51 sh_26 (by decide) rfl (by omega) (by decide) (kn_at hik.1) ?_
    refine xx_iload (pc := 52) dX5_sinking_52 0 rfl ?_
    refine xx_iconst (pc := 54) dX5_sinking_54 cc_iconst_2 ?_
    refine xx_ishrN (pc := 55) dX5_sinking_55 (by omega) (by omega) ?_
    refine xx_iload (pc := 56) dX5_sinking_56 0 rfl ?_
    refine xx_iconst (pc := 58) dX5_sinking_58 cc_iconst_3 ?_
    refine xx_iandN (pc := 59) dX5_sinking_59 ?_
    refine xx_iload_n (pc := 60) dX5_sinking_60 1 rfl rfl ?_
    refine xx_sinks5 (pc := 61) (st := []) (kd := (it s k 0)) (r := (mo_crowd s (s 1)) / 2 ^ 2) (lm := (mo_crowd s (s 1)) &&& 3) (q := mo_others s k) (by omega) (by have := Nat.and_le_right (n := mo_crowd s (s 1)) (m := 3); omega) (by omega) rfl rfl ⟨hk1, hik.1⟩ dX5_sinking_61 (Nat.le_of_ble_eq_true rfl) ⟨Nat.le_of_ble_eq_true rfl, Nat.le_of_ble_eq_true rfl⟩ ⟨Nat.zero_le _, Nat.zero_le _⟩ ?_
    refine xx_eqI (y := nI (mo_sinks (it s k 0) (mo_crowd s (s 1)) (mo_others s k))) (by rw [mo_cr4]) ?_
    exact xx_iret (pc := 64) dX5_sinking_64 rfl (rfl) (Nat.le_refl _) (Nat.le_refl _) (ic_ri ⟨rfl, w1, rfl, gw1⟩)

set_option maxHeartbeats 4000000 in
set_option maxRecDepth 100000 in
theorem cC_drifting {l : Launch} {E : ic_E} {w : ic_w} {k t : Nat} {s : Nat → Nat} (hN : Cn w s) (hIn : In s) (hk : k < s 0) (ht : t < 2 ^ 20) : ic_C l E mX5_drifting 4 0 0 False [ic_pt E 39, .int (nI k), .int (nI t)] SHs (hn w) SHs (ic_qe (nI (mo_drifts (it s k 0) t)) (hn w)) := by
  refine ic_intro (by decide +kernel) (Nat.le_of_ble_eq_true rfl) ?_
  show xx l E _ _ 0 [(0, ic_pt E 39), (1, .int (nI k)), (2, .int (nI t))] _ _ _
  have hn0 := hIn.n
  have hik := hIn.i (o := k) (by omega)
  have hk1 := hN.k1 hk
  refine xx_aload_nP (pc := 0) dX5_drifting_0 0 rfl rfl ?_
  refine xx_getR (pc := 1) 26 dX5_drifting_1 sh_39 fX5_64_5 rfl rfl (by decide) ?_
  refine xx_aload_nP (pc := 4) dX5_drifting_4 0 rfl rfl ?_
  refine xx_getR (pc := 5) 43 dX5_drifting_5 sh_39 fX5_21_5 rfl rfl (by decide) ?_
  refine xx_iload_n (pc := 8) dX5_drifting_8 1 rfl rfl ?_
  refine xx_ialdN (pc := 9) dX5_drifting_9 sh_43 (by omega) (by decide) ?_
  refine xx_eqI (y := nI (it s k 0)) (by rw [hN.kd hk]) ?_
  refine xx_aald (pc := 10) (it s k 0) (27 + 2 * (it s k 0)) dX5_drifting_10 sh_26 (by decide) rfl (by omega) (by decide) (kn_at hik.1) ?_
  refine xx_iload_n (pc := 11) dX5_drifting_11 2 rfl rfl ?_
  refine xx_drifts5 (pc := 12) (st := []) (kd := (it s k 0)) (t := t) (by omega) rfl rfl ⟨hk1, hik.1⟩ dX5_drifting_12 (Nat.le_of_ble_eq_true rfl) ⟨Nat.le_of_ble_eq_true rfl, Nat.le_of_ble_eq_true rfl⟩ ⟨Nat.zero_le _, Nat.zero_le _⟩ ?_
  exact xx_iret (pc := 15) dX5_drifting_15 rfl (rfl) (Nat.le_refl _) (Nat.le_refl _) (ic_re rfl)

set_option maxHeartbeats 4000000 in
set_option maxRecDepth 100000 in
theorem cC_pays {l : Launch} {E : ic_E} {w : ic_w} {m k : Nat} {s : Nat → Nat} (hM : Mo m) (hm : Cs w m s) (hN : Cn w s) (hIn : In s) (hk : k < s 0) : ic_C l E mX5_pays 3 0 0 False [ic_pt E 39, ic_pt E m, .int (nI k)] SHs (hn w) SHs (ic_qe (nI (mo_pays s k)) (hn w)) := by
  refine ic_intro (by decide +kernel) (Nat.le_of_ble_eq_true rfl) ?_
  show xx l E _ _ 0 [(0, ic_pt E 39), (1, ic_pt E m), (2, .int (nI k))] _ _ _
  have hMb := hM.2.2.2
  have hn0 := hIn.n
  have htt := hIn.t
  have hcr := hIn.cr (s 1)
  have n1_w : w 39 10 = s 0 := hN.n
  have n2_w : w 39 11 = s 2 := hN.e
  have n3_w : w m 0 = s 1 := hm.t
  have hik := hIn.i (o := k) (by omega)
  have hk1 := hN.k1 hk
  have hg := hN.g (f := it s k 5) (by omega)
  have hgb := (hIn.f (f := it s k 5) (by omega)).1
  have hd_ := hm.d hk
  have hw_ := hN.ws hk
  have hh_ := hN.hm hk
  refine xx_aload_nP (pc := 0) dX5_pays_0 1 rfl rfl ?_
  refine xx_iload_n (pc := 1) dX5_pays_1 2 rfl rfl ?_
  refine xx_callV0 (pc := 2) (st := []) hM.1 (cC_isOut (w := w) (m := m) (s := s) (k := k) hM hm (by omega) hIn) kX4_isOut vX5_102_4 dX5_pays_2 rfl rfl (Nat.le_of_ble_eq_true rfl) ⟨Nat.le_of_ble_eq_true rfl, Nat.le_of_ble_eq_true rfl⟩ ⟨Nat.zero_le _, Nat.zero_le _⟩ (ic_ke ?_)
  refine xx_if_eqB (pc := 5) 10 dX5_pays_5 rfl (fun c1 => ?_) (fun c1 => ?_)
  · refine xx_aload_nP (pc := 10) dX5_pays_10 1 rfl rfl ?_
    refine xx_getR (pc := 11) (m + 2) dX5_pays_11 hM.1 fX5_93_4 rfl (by rfl) (by omega) ?_
    refine xx_iload_n (pc := 14) dX5_pays_14 2 rfl rfl ?_
    refine xx_ialdN (pc := 15) dX5_pays_15 hM.2.2.1 (by omega) (by decide) ?_
    refine xx_eqI (y := nI (it s k 5)) (by rw [hm.a hk]) ?_
    refine xx_istore_n (L' := [(3, .int (nI (it s k 5))), (0, ic_pt E 39), (1, ic_pt E m), (2, .int (nI k))]) (pc := 16) dX5_pays_16 rfl (Nat.le_of_ble_eq_true rfl) rfl ?_
    refine xx_aload_nP (pc := 17) dX5_pays_17 1 rfl rfl ?_
    refine xx_getR (pc := 18) 44 dX5_pays_18 sh_39 fX5_24_5 rfl rfl (by decide) ?_
    refine xx_iload_n (pc := 21) dX5_pays_21 3 rfl rfl ?_
    refine xx_ialdN (pc := 22) dX5_pays_22 sh_44 (by omega) (by decide) ?_
    refine xx_aload_nP (pc := 23) dX5_pays_23 1 rfl rfl ?_
    refine xx_getR (pc := 24) 41 dX5_pays_24 sh_39 fX5_15_5 rfl rfl (by decide) ?_
    refine xx_iload_n (pc := 27) dX5_pays_27 0 rfl rfl ?_
    refine xx_ialdN (pc := 28) dX5_pays_28 sh_41 (by omega) (by decide) ?_
    refine xx_iaddN (pc := 29) dX5_pays_29 ?_
    refine xx_iload_n (pc := 30) dX5_pays_30 0 rfl rfl ?_
    refine xx_aload_nP (pc := 31) dX5_pays_31 1 rfl rfl ?_
    refine xx_getR (pc := 32) 45 dX5_pays_32 sh_39 fX5_27_5 rfl rfl (by decide) ?_
    refine xx_iload_n (pc := 35) dX5_pays_35 3 rfl rfl ?_
    refine xx_ialdN (pc := 36) dX5_pays_36 sh_45 (by omega) (by decide) ?_
    refine xx_icmp_neN (pc := 37) 45 dX5_pays_37 rfl (by omega) (by omega) (fun c2 => ?_) (fun c2 => ?_)
    · refine xx_iconst (pc := 45) dX5_pays_45 cc_iconst_2 ?_
      refine xx_iaddN (pc := 46) dX5_pays_46 ?_
      refine xx_istore (L' := [(4, .int (nI (((w 44 k) + (w 41 (it s k 5))) + 2))), (3, .int (nI (it s k 5))), (0, ic_pt E 39), (1, ic_pt E m), (2, .int (nI k))]) (pc := 47) dX5_pays_47 (Nat.le_of_ble_eq_true rfl) rfl ?_
      refine xx_iconst (pc := 49) dX5_pays_49 cc_iconst_0 ?_
      refine xx_iload (pc := 50) dX5_pays_50 0 rfl ?_
      refine xx_aload_nP (pc := 52) dX5_pays_52 3 rfl rfl ?_
      refine xx_getR (pc := 53) (m + 1) dX5_pays_53 hM.1 fX5_90_4 rfl (by rfl) (by omega) ?_
      refine xx_iload_n (pc := 56) dX5_pays_56 4 rfl rfl ?_
      refine xx_ialdN (pc := 57) dX5_pays_57 hM.2.1 (by omega) (by decide) ?_
      refine xx_bipush (pc := 58) dX5_pays_58 cc_bipush_7 ?_
      refine xx_idivN (pc := 60) dX5_pays_60 (by omega) (by omega) (by omega) ?_
      refine xx_isubW (pc := 61) dX5_pays_61 (by omega) ?_
      refine xx_callS0 (pc := 62) (st := []) (cC_max0 (w := w) (a := (((w 44 k) + (w 41 (it s k 5))) + 2)) (b := ((w (m + 1) k) / 7)) (by omega) (by omega)) kJ9_max_7cf53 sX5_127 dX5_pays_62 rfl rfl (Nat.le_of_ble_eq_true rfl) ⟨Nat.le_of_ble_eq_true rfl, Nat.le_of_ble_eq_true rfl⟩ ⟨Nat.zero_le _, Nat.zero_le _⟩ (ic_ke ?_)
      exact xx_iret (pc := 65) dX5_pays_65 rfl (rfl) (Nat.le_refl _) (Nat.le_refl _) (ic_re (by unfold mo_pays; rw [if_neg (by omega), hg, hd_, hw_]; first | rw [if_pos (by omega)] | rw [if_neg (by omega)]))
    · refine xx_bipush (pc := 40) dX5_pays_40 cc_bipush_9 ?_
      refine xx_goto (pc := 42) 46 dX5_pays_42 rfl ?_
      refine xx_iaddN (pc := 46) dX5_pays_46 ?_
      refine xx_istore (L' := [(4, .int (nI (((w 44 k) + (w 41 (it s k 5))) + 9))), (3, .int (nI (it s k 5))), (0, ic_pt E 39), (1, ic_pt E m), (2, .int (nI k))]) (pc := 47) dX5_pays_47 (Nat.le_of_ble_eq_true rfl) rfl ?_
      refine xx_iconst (pc := 49) dX5_pays_49 cc_iconst_0 ?_
      refine xx_iload (pc := 50) dX5_pays_50 0 rfl ?_
      refine xx_aload_nP (pc := 52) dX5_pays_52 3 rfl rfl ?_
      refine xx_getR (pc := 53) (m + 1) dX5_pays_53 hM.1 fX5_90_4 rfl (by rfl) (by omega) ?_
      refine xx_iload_n (pc := 56) dX5_pays_56 4 rfl rfl ?_
      refine xx_ialdN (pc := 57) dX5_pays_57 hM.2.1 (by omega) (by decide) ?_
      refine xx_bipush (pc := 58) dX5_pays_58 cc_bipush_7 ?_
      refine xx_idivN (pc := 60) dX5_pays_60 (by omega) (by omega) (by omega) ?_
      refine xx_isubW (pc := 61) dX5_pays_61 (by omega) ?_
      refine xx_callS0 (pc := 62) (st := []) (cC_max0 (w := w) (a := (((w 44 k) + (w 41 (it s k 5))) + 9)) (b := ((w (m + 1) k) / 7)) (by omega) (by omega)) kJ9_max_7cf53 sX5_127 dX5_pays_62 rfl rfl (Nat.le_of_ble_eq_true rfl) ⟨Nat.le_of_ble_eq_true rfl, Nat.le_of_ble_eq_true rfl⟩ ⟨Nat.zero_le _, Nat.zero_le _⟩ (ic_ke ?_)
      exact xx_iret (pc := 65) dX5_pays_65 rfl (rfl) (Nat.le_refl _) (Nat.le_refl _) (ic_re (by unfold mo_pays; rw [if_neg (by omega), hg, hd_, hw_]; first | rw [if_pos (by omega)] | rw [if_neg (by omega)]))
  · refine xx_iconst (pc := 8) dX5_pays_8 cc_iconst_0 ?_
    exact xx_iret (pc := 9) dX5_pays_9 rfl (rfl) (Nat.le_refl _) (Nat.le_refl _) (ic_re (by unfold mo_pays; rw [if_pos (by omega)]))

set_option maxHeartbeats 4000000 in
set_option maxRecDepth 100000 in
theorem cC_holds {l : Launch} {E : ic_E} {w : ic_w} {i q : Nat} {s : Nat → Nat} (hi : i < s 5) (hq6 : q < 6) (hN : Cn w s) (hIn : In s) (hRu : Ru s) (hKn : Kn w s q) : ic_C l E mX10_holds 1 0 0 False [ic_pt E 49, .int (nI i), ic_pt E 66] SHs (hn w) SHs (ic_qe (nI (ic_bo (mo_hold s i q = true))) (hn w)) := by
  refine ic_intro (by decide +kernel) (Nat.le_of_ble_eq_true rfl) ?_
  show xx l E _ _ 0 [(0, ic_pt E 49), (1, .int (nI i)), (2, ic_pt E 66)] _ _ _
  have h5 := hIn.2.2.1
  have hr5 := hRu.1 i hi
  have hri := hN.rk hi
  have hri2 := hri.2.2.2
  have lp : ∀ (n_ : Nat) (k t : Nat), s (74 + 4 * i) ≤ k → k ≤ s (75 + 4 * i) → t = mo_tr s q (s (74 + 4 * i)) (k - s (74 + 4 * i)) → s (75 + 4 * i) - k < n_ → xx l E (ic_fr E mX10_holds 1 0 0 False SHs (ic_qe (nI (ic_bo (mo_hold s i q = true))) (hn w))) (0, 0) 23 [(5, .int (nI k)), (4, .int (nI t)), (0, ic_pt E 49), (1, .int (nI i)), (2, ic_pt E 66)] [] SHs (hn w) := by
    intro n_
    induction n_ with
    | zero => intro k t hb0 he hq hm_; exact absurd hm_ (Nat.not_lt_zero _)
    | succ n_ ih_ =>
      intro k t hb0 he hq hm_
      have htl := mo_tr_lt s q (s (74 + 4 * i)) (k - s (74 + 4 * i))
      have hdp := hr5.2.2.2.2 (k - s (74 + 4 * i)) (by omega)
      have ht30 : t < 2 ^ 30 := by rw [hq]; exact Nat.lt_of_lt_of_le htl (Nat.pow_le_pow_right (by omega) (by omega))
      refine xx_iload (pc := 23) dX10_holds_23 0 rfl ?_
      refine xx_aload_nP (pc := 25) dX10_holds_25 2 rfl rfl ?_
      refine xx_getR (pc := 26) 52 dX10_holds_26 sh_49 fX10_18_10 rfl rfl (by decide) ?_
      refine xx_iload_n (pc := 29) dX10_holds_29 3 rfl rfl ?_
      refine xx_ialdN (pc := 30) dX10_holds_30 sh_52 (by omega) (by decide) ?_
      refine xx_icmp_geN (pc := 31) 241 dX10_holds_31 rfl (by omega) (by omega) (fun c1 => ?_) (fun c1 => ?_)
      · refine xx_iload (pc := 241) dX10_holds_241 1 rfl ?_
        refine xx_iconst (pc := 243) dX10_holds_243 cc_iconst_1 ?_
        refine xx_iandN (pc := 244) dX10_holds_244 ?_
        refine xx_if_eqN (pc := 245) 252 dX10_holds_245 rfl (by have := mo_and1 t; omega) (fun c2 => ?_) (fun c2 => ?_)
        · refine xx_iconst (pc := 252) dX10_holds_252 cc_iconst_0 ?_
          exact xx_iret (pc := 253) dX10_holds_253 rfl (rfl) (Nat.le_refl _) (Nat.le_refl _) (ic_re (ic_bo_f (by unfold mo_hold; rw [show mo_tr s q (s (74 + 4 * i)) (s (75 + 4 * i) - s (74 + 4 * i)) = t by rw [hq, show k = s (75 + 4 * i) by omega]]; have := mo_and1 t; exact fun z => by have := of_decide_eq_true z; omega)).symm)
        · refine xx_iconst (pc := 248) dX10_holds_248 cc_iconst_1 ?_
          refine xx_goto (pc := 249) 253 dX10_holds_249 rfl ?_
          exact xx_iret (pc := 253) dX10_holds_253 rfl (rfl) (Nat.le_refl _) (Nat.le_refl _) (ic_re (ic_bo_t (by unfold mo_hold; rw [show mo_tr s q (s (74 + 4 * i)) (s (75 + 4 * i) - s (74 + 4 * i)) = t by rw [hq, show k = s (75 + 4 * i) by omega]]; have := mo_and1 t; exact decide_eq_true (by omega))).symm)
      · have hk7 := hRu.2 k (by omega)
        have hco := hN.rc (k := k) (by omega)
        have hcs := mo_en_c (a := s (128 + 3 * k)) (b := s (129 + 3 * k)) (c := s (130 + 3 * k)) hk7.1
        rw [← hco] at hcs
        have hma := ho_m14 (w 53 k)
        have hmb := ho_m14 (w 53 k / 2 ^ 14)
        have hva := mo_val_le hIn (v := s (129 + 3 * k)) (o := q) hk7.2.1 hq6
        have hvb := mo_val_le hIn (v := s (130 + 3 * k)) (o := q) hk7.2.2 hq6
        refine xx_aload_nP (pc := 34) dX10_holds_34 2 rfl rfl ?_
        refine xx_getR (pc := 35) 53 dX10_holds_35 sh_49 fX10_21_10 rfl rfl (by decide) ?_
        refine xx_iload (pc := 38) dX10_holds_38 0 rfl ?_
        refine xx_ialdN (pc := 40) dX10_holds_40 sh_53 (by omega) (by decide) ?_
        refine xx_istore (L' := [(6, .int (nI (w 53 k))), (5, .int (nI k)), (4, .int (nI t)), (0, ic_pt E 49), (1, .int (nI i)), (2, ic_pt E 66)]) (pc := 41) dX10_holds_41 (Nat.le_of_ble_eq_true rfl) rfl ?_
        refine xx_iload (pc := 43) dX10_holds_43 0 rfl ?_
        refine xx_iconst (pc := 45) dX10_holds_45 cc_iconst_m1 ?_
        refine xx_icmp_neN (pc := 46) 58 dX10_holds_46 rfl (by omega) (by omega) (fun c3 => ?_) (fun c3 => ?_)
        · refine xx_iload (pc := 58) dX10_holds_58 0 rfl ?_
          refine xx_bipush (pc := 60) dX10_holds_60 cc_bipush_m2 ?_
          refine xx_icmp_neN (pc := 62) 80 dX10_holds_62 rfl (by omega) (by omega) (fun c4 => ?_) (fun c4 => ?_)
          · refine xx_iload (pc := 80) dX10_holds_80 0 rfl ?_
            refine xx_bipush (pc := 82) dX10_holds_82 cc_bipush_m3 ?_
            refine xx_icmp_neN (pc := 84) 101 dX10_holds_84 rfl (by omega) (by omega) (fun c5 => ?_) (fun c5 => ?_)
            · have j216 : ∀ (b : Nat), b = (if mo_cmp (s (128 + 3 * k)) (mo_val s (s (129 + 3 * k)) q) (mo_val s (s (130 + 3 * k)) q) = true then 1 else 0) → xx l E (ic_fr E mX10_holds 1 0 0 False SHs (ic_qe (nI (ic_bo (mo_hold s i q = true))) (hn w))) (0, 0) 216 [(0, ic_pt E 49), (1, .int (nI i)), (2, ic_pt E 66), (4, .int (nI t)), (5, .int (nI k))] [.int (nI b)] SHs (hn w) := by
                intro b hb
                have hb1 : b ≤ 1 := by rw [hb]; split <;> omega
                refine xx_istore (L' := [(10, .int (nI b)), (0, ic_pt E 49), (1, .int (nI i)), (2, ic_pt E 66), (4, .int (nI t)), (5, .int (nI k))]) (pc := 216) dX10_holds_216 (Nat.le_of_ble_eq_true rfl) rfl ?_
                refine xx_iload (pc := 218) dX10_holds_218 4 rfl ?_
                refine xx_iconst (pc := 220) dX10_holds_220 cc_iconst_1 ?_
                refine xx_ishlN (pc := 221) dX10_holds_221 (by omega) (by omega) ?_
                refine xx_iload (pc := 222) dX10_holds_222 0 rfl ?_
                refine xx_if_eqN (pc := 224) 231 dX10_holds_224 rfl (by omega) (fun c6 => ?_) (fun c6 => ?_)
                · refine xx_iconst (pc := 231) dX10_holds_231 cc_iconst_0 ?_
                  refine xx_iorN (pc := 232) dX10_holds_232 ?_
                  refine xx_istore (L' := [(4, .int (nI ((t * 2 ^ 1) ||| 0))), (10, .int (nI b)), (0, ic_pt E 49), (1, .int (nI i)), (2, ic_pt E 66), (5, .int (nI k))]) (pc := 233) dX10_holds_233 (Nat.le_of_ble_eq_true rfl) rfl ?_
                  refine xx_iincN (L' := [(5, .int (nI (k + 1))), (4, .int (nI ((t * 2 ^ 1) ||| 0))), (10, .int (nI b)), (0, ic_pt E 49), (1, .int (nI i)), (2, ic_pt E 66)]) (pc := 235) dX10_holds_235 5 rfl cc_iconst_1 (Nat.le_of_ble_eq_true rfl) rfl ?_
                  refine xx_goto (pc := 238) 23 dX10_holds_238 rfl ?_
                  exact xx_sub [0, 1, 3, 4, 5] rfl (ih_ (k + 1) _ (by omega) (by omega) (by rw [show k + 1 - s (74 + 4 * i) = (k - s (74 + 4 * i)) + 1 by omega, mo_tr, ← hq, show s (74 + 4 * i) + (k - s (74 + 4 * i)) = k by omega]; exact (show mo_st s q k t = (t * 2 ^ 1) ||| 0 by unfold mo_st; rw [if_pos (by omega), ← hb, ho_b (by omega)]; omega).symm) (by omega))
                · refine xx_iconst (pc := 227) dX10_holds_227 cc_iconst_1 ?_
                  refine xx_goto (pc := 228) 232 dX10_holds_228 rfl ?_
                  refine xx_iorN (pc := 232) dX10_holds_232 ?_
                  refine xx_istore (L' := [(4, .int (nI ((t * 2 ^ 1) ||| 1))), (10, .int (nI b)), (0, ic_pt E 49), (1, .int (nI i)), (2, ic_pt E 66), (5, .int (nI k))]) (pc := 233) dX10_holds_233 (Nat.le_of_ble_eq_true rfl) rfl ?_
                  refine xx_iincN (L' := [(5, .int (nI (k + 1))), (4, .int (nI ((t * 2 ^ 1) ||| 1))), (10, .int (nI b)), (0, ic_pt E 49), (1, .int (nI i)), (2, ic_pt E 66)]) (pc := 235) dX10_holds_235 5 rfl cc_iconst_1 (Nat.le_of_ble_eq_true rfl) rfl ?_
                  refine xx_goto (pc := 238) 23 dX10_holds_238 rfl ?_
                  exact xx_sub [0, 1, 3, 4, 5] rfl (ih_ (k + 1) _ (by omega) (by omega) (by rw [show k + 1 - s (74 + 4 * i) = (k - s (74 + 4 * i)) + 1 by omega, mo_tr, ← hq, show s (74 + 4 * i) + (k - s (74 + 4 * i)) = k by omega]; exact (show mo_st s q k t = (t * 2 ^ 1) ||| 1 by unfold mo_st; rw [if_pos (by omega), ← hb, ho_b (by omega)]; omega).symm) (by omega))
              have j156 : ∀ (x y : Nat), x = mo_val s (s (129 + 3 * k)) q → y = mo_val s (s (130 + 3 * k)) q → xx l E (ic_fr E mX10_holds 1 0 0 False SHs (ic_qe (nI (ic_bo (mo_hold s i q = true))) (hn w))) (0, 0) 156 [(0, ic_pt E 49), (1, .int (nI i)), (2, ic_pt E 66), (4, .int (nI t)), (5, .int (nI k)), (6, .int (nI (w 53 k))), (7, .int (nI x)), (8, .int (nI y))] [] SHs (hn w) := by
                intro x y hx hy
                refine xx_iload (pc := 156) dX10_holds_156 5 rfl ?_
                refine xx_bipush (pc := 158) dX10_holds_158 cc_bipush_28 ?_
                refine xx_ishrN (pc := 160) dX10_holds_160 (by omega) (by omega) ?_
                refine xx_eqI (y := nI (s (128 + 3 * k))) (by congr 1; omega) ?_
                refine xx_istore (L' := [(9, .int (nI (s (128 + 3 * k)))), (0, ic_pt E 49), (1, .int (nI i)), (2, ic_pt E 66), (4, .int (nI t)), (5, .int (nI k)), (6, .int (nI (w 53 k))), (7, .int (nI x)), (8, .int (nI y))]) (pc := 161) dX10_holds_161 (Nat.le_of_ble_eq_true rfl) rfl ?_
                refine xx_iload (pc := 163) dX10_holds_163 0 rfl ?_
                refine xx_if_neN (pc := 165) 183 dX10_holds_165 rfl (by omega) (fun c7 => ?_) (fun c7 => ?_)
                · refine xx_iload (pc := 183) dX10_holds_183 0 rfl ?_
                  refine xx_iconst (pc := 185) dX10_holds_185 cc_iconst_1 ?_
                  refine xx_icmp_neN (pc := 186) 204 dX10_holds_186 rfl (by omega) (by omega) (fun c8 => ?_) (fun c8 => ?_)
                  · refine xx_iload (pc := 204) dX10_holds_204 7 rfl ?_
                    refine xx_iload (pc := 206) dX10_holds_206 8 rfl ?_
                    refine xx_icmp_leN (pc := 208) 215 dX10_holds_208 rfl (by omega) (by omega) (fun c9 => ?_) (fun c9 => ?_)
                    · refine xx_iconst (pc := 215) dX10_holds_215 cc_iconst_0 ?_
                      exact xx_sub [1, 2, 3, 4, 5] rfl (j216 0 (by rw [mo_cmp_b]; first | exact (if_pos (by rw [if_pos (by omega)]; omega)).symm | exact (if_neg (by rw [if_pos (by omega)]; omega)).symm | exact (if_pos (by rw [if_neg (by omega), if_pos (by omega)]; omega)).symm | exact (if_neg (by rw [if_neg (by omega), if_pos (by omega)]; omega)).symm | exact (if_pos (by rw [if_neg (by omega), if_neg (by omega)]; omega)).symm | exact (if_neg (by rw [if_neg (by omega), if_neg (by omega)]; omega)).symm))
                    · refine xx_iconst (pc := 211) dX10_holds_211 cc_iconst_1 ?_
                      refine xx_goto (pc := 212) 216 dX10_holds_212 rfl ?_
                      exact xx_sub [1, 2, 3, 4, 5] rfl (j216 1 (by rw [mo_cmp_b]; first | exact (if_pos (by rw [if_pos (by omega)]; omega)).symm | exact (if_neg (by rw [if_pos (by omega)]; omega)).symm | exact (if_pos (by rw [if_neg (by omega), if_pos (by omega)]; omega)).symm | exact (if_neg (by rw [if_neg (by omega), if_pos (by omega)]; omega)).symm | exact (if_pos (by rw [if_neg (by omega), if_neg (by omega)]; omega)).symm | exact (if_neg (by rw [if_neg (by omega), if_neg (by omega)]; omega)).symm))
                  · refine xx_iload (pc := 189) dX10_holds_189 7 rfl ?_
                    refine xx_iload (pc := 191) dX10_holds_191 8 rfl ?_
                    refine xx_icmp_neN (pc := 193) 200 dX10_holds_193 rfl (by omega) (by omega) (fun c10 => ?_) (fun c10 => ?_)
                    · refine xx_iconst (pc := 200) dX10_holds_200 cc_iconst_0 ?_
                      refine xx_goto (pc := 201) 216 dX10_holds_201 rfl ?_
                      exact xx_sub [1, 2, 3, 4, 5] rfl (j216 0 (by rw [mo_cmp_b]; first | exact (if_pos (by rw [if_pos (by omega)]; omega)).symm | exact (if_neg (by rw [if_pos (by omega)]; omega)).symm | exact (if_pos (by rw [if_neg (by omega), if_pos (by omega)]; omega)).symm | exact (if_neg (by rw [if_neg (by omega), if_pos (by omega)]; omega)).symm | exact (if_pos (by rw [if_neg (by omega), if_neg (by omega)]; omega)).symm | exact (if_neg (by rw [if_neg (by omega), if_neg (by omega)]; omega)).symm))
                    · refine xx_iconst (pc := 196) dX10_holds_196 cc_iconst_1 ?_
                      refine xx_goto (pc := 197) 216 dX10_holds_197 rfl ?_
                      exact xx_sub [1, 2, 3, 4, 5] rfl (j216 1 (by rw [mo_cmp_b]; first | exact (if_pos (by rw [if_pos (by omega)]; omega)).symm | exact (if_neg (by rw [if_pos (by omega)]; omega)).symm | exact (if_pos (by rw [if_neg (by omega), if_pos (by omega)]; omega)).symm | exact (if_neg (by rw [if_neg (by omega), if_pos (by omega)]; omega)).symm | exact (if_pos (by rw [if_neg (by omega), if_neg (by omega)]; omega)).symm | exact (if_neg (by rw [if_neg (by omega), if_neg (by omega)]; omega)).symm))
                · refine xx_iload (pc := 168) dX10_holds_168 7 rfl ?_
                  refine xx_iload (pc := 170) dX10_holds_170 8 rfl ?_
                  refine xx_icmp_geN (pc := 172) 179 dX10_holds_172 rfl (by omega) (by omega) (fun c11 => ?_) (fun c11 => ?_)
                  · refine xx_iconst (pc := 179) dX10_holds_179 cc_iconst_0 ?_
                    refine xx_goto (pc := 180) 216 dX10_holds_180 rfl ?_
                    exact xx_sub [1, 2, 3, 4, 5] rfl (j216 0 (by rw [mo_cmp_b]; first | exact (if_pos (by rw [if_pos (by omega)]; omega)).symm | exact (if_neg (by rw [if_pos (by omega)]; omega)).symm | exact (if_pos (by rw [if_neg (by omega), if_pos (by omega)]; omega)).symm | exact (if_neg (by rw [if_neg (by omega), if_pos (by omega)]; omega)).symm | exact (if_pos (by rw [if_neg (by omega), if_neg (by omega)]; omega)).symm | exact (if_neg (by rw [if_neg (by omega), if_neg (by omega)]; omega)).symm))
                  · refine xx_iconst (pc := 175) dX10_holds_175 cc_iconst_1 ?_
                    refine xx_goto (pc := 176) 216 dX10_holds_176 rfl ?_
                    exact xx_sub [1, 2, 3, 4, 5] rfl (j216 1 (by rw [mo_cmp_b]; first | exact (if_pos (by rw [if_pos (by omega)]; omega)).symm | exact (if_neg (by rw [if_pos (by omega)]; omega)).symm | exact (if_pos (by rw [if_neg (by omega), if_pos (by omega)]; omega)).symm | exact (if_neg (by rw [if_neg (by omega), if_pos (by omega)]; omega)).symm | exact (if_pos (by rw [if_neg (by omega), if_neg (by omega)]; omega)).symm | exact (if_neg (by rw [if_neg (by omega), if_neg (by omega)]; omega)).symm))
              have j138 : ∀ (x : Nat), x = mo_val s (s (129 + 3 * k)) q → xx l E (ic_fr E mX10_holds 1 0 0 False SHs (ic_qe (nI (ic_bo (mo_hold s i q = true))) (hn w))) (0, 0) 138 [(0, ic_pt E 49), (1, .int (nI i)), (2, ic_pt E 66), (4, .int (nI t)), (5, .int (nI k)), (6, .int (nI (w 53 k))), (7, .int (nI x)), (8, .int (nI (s (130 + 3 * k))))] [] SHs (hn w) := by
                intro x hx
                refine xx_iload (pc := 138) dX10_holds_138 7 rfl ?_
                refine xx_sipush (pc := 140) dX10_holds_140 cc_sipush_10000 ?_
                refine xx_icmp_ltN (pc := 143) 156 dX10_holds_143 rfl (by omega) (by omega) (fun c12 => ?_) (fun c12 => ?_)
                · exact xx_sub [0, 1, 2, 3, 4, 5, 6, 7] rfl (j156 _ _ hx (mo_val_n (by omega)))
                · refine xx_aload_nP (pc := 146) dX10_holds_146 2 rfl rfl ?_
                  refine xx_iload (pc := 147) dX10_holds_147 7 rfl ?_
                  refine xx_sipush (pc := 149) dX10_holds_149 cc_sipush_10000 ?_
                  refine xx_isubN (pc := 152) dX10_holds_152 (by omega) ?_
                  refine xx_ialdN (pc := 153) dX10_holds_153 sh_66 (by omega) (by decide) ?_
                  refine xx_eqI (y := nI (mo_val s (s (130 + 3 * k)) q)) (congrArg nI (hKn.v (by omega) (by omega))) ?_
                  refine xx_istore (L' := [(8, .int (nI (mo_val s (s (130 + 3 * k)) q))), (0, ic_pt E 49), (1, .int (nI i)), (2, ic_pt E 66), (4, .int (nI t)), (5, .int (nI k)), (6, .int (nI (w 53 k))), (7, .int (nI x))]) (pc := 154) dX10_holds_154 (Nat.le_of_ble_eq_true rfl) rfl ?_
                  exact xx_sub [1, 2, 3, 4, 5, 6, 7, 0] rfl (j156 _ _ hx rfl)
              refine xx_iload (pc := 101) dX10_holds_101 0 rfl ?_
              refine xx_sipush (pc := 103) dX10_holds_103 cc_sipush_16383 ?_
              refine xx_iandN (pc := 106) dX10_holds_106 ?_
              refine xx_eqI (y := nI (s (129 + 3 * k))) (by congr 1; omega) ?_
              refine xx_istore (L' := [(7, .int (nI (s (129 + 3 * k)))), (6, .int (nI (w 53 k))), (5, .int (nI k)), (4, .int (nI t)), (0, ic_pt E 49), (1, .int (nI i)), (2, ic_pt E 66)]) (pc := 107) dX10_holds_107 (Nat.le_of_ble_eq_true rfl) rfl ?_
              refine xx_iload (pc := 109) dX10_holds_109 1 rfl ?_
              refine xx_bipush (pc := 111) dX10_holds_111 cc_bipush_14 ?_
              refine xx_ishrN (pc := 113) dX10_holds_113 (by omega) (by omega) ?_
              refine xx_sipush (pc := 114) dX10_holds_114 cc_sipush_16383 ?_
              refine xx_iandN (pc := 117) dX10_holds_117 ?_
              refine xx_eqI (y := nI (s (130 + 3 * k))) (by congr 1; omega) ?_
              refine xx_istore (L' := [(8, .int (nI (s (130 + 3 * k)))), (7, .int (nI (s (129 + 3 * k)))), (6, .int (nI (w 53 k))), (5, .int (nI k)), (4, .int (nI t)), (0, ic_pt E 49), (1, .int (nI i)), (2, ic_pt E 66)]) (pc := 118) dX10_holds_118 (Nat.le_of_ble_eq_true rfl) rfl ?_
              refine xx_iload (pc := 120) dX10_holds_120 1 rfl ?_
              refine xx_sipush (pc := 122) dX10_holds_122 cc_sipush_10000 ?_
              refine xx_icmp_ltN (pc := 125) 138 dX10_holds_125 rfl (by omega) (by omega) (fun c13 => ?_) (fun c13 => ?_)
              · exact xx_sub [5, 6, 7, 4, 3, 2, 1, 0] rfl (j138 _ (mo_val_n (by omega)))
              · refine xx_aload_nP (pc := 128) dX10_holds_128 7 rfl rfl ?_
                refine xx_iload (pc := 129) dX10_holds_129 1 rfl ?_
                refine xx_sipush (pc := 131) dX10_holds_131 cc_sipush_10000 ?_
                refine xx_isubN (pc := 134) dX10_holds_134 (by omega) ?_
                refine xx_ialdN (pc := 135) dX10_holds_135 sh_66 (by omega) (by decide) ?_
                refine xx_eqI (y := nI (mo_val s (s (129 + 3 * k)) q)) (congrArg nI (hKn.v (by omega) (by omega))) ?_
                refine xx_istore (L' := [(7, .int (nI (mo_val s (s (129 + 3 * k)) q))), (8, .int (nI (s (130 + 3 * k)))), (6, .int (nI (w 53 k))), (5, .int (nI k)), (4, .int (nI t)), (0, ic_pt E 49), (1, .int (nI i)), (2, ic_pt E 66)]) (pc := 136) dX10_holds_136 (Nat.le_of_ble_eq_true rfl) rfl ?_
                exact xx_sub [5, 6, 7, 4, 3, 2, 0, 1] rfl (j138 _ rfl)
            · refine xx_iload (pc := 87) dX10_holds_87 2 rfl ?_
              refine xx_iconst (pc := 89) dX10_holds_89 cc_iconst_1 ?_
              refine xx_ishrN (pc := 90) dX10_holds_90 (by omega) (by omega) ?_
              refine xx_iload (pc := 91) dX10_holds_91 2 rfl ?_
              refine xx_iconst (pc := 93) dX10_holds_93 cc_iconst_1 ?_
              refine xx_iandN (pc := 94) dX10_holds_94 ?_
              refine xx_iorN (pc := 95) dX10_holds_95 ?_
              refine xx_istore (L' := [(4, .int (nI ((t / 2 ^ 1) ||| (t &&& 1)))), (6, .int (nI (w 53 k))), (5, .int (nI k)), (0, ic_pt E 49), (1, .int (nI i)), (2, ic_pt E 66)]) (pc := 96) dX10_holds_96 (Nat.le_of_ble_eq_true rfl) rfl ?_
              refine xx_goto (pc := 98) 235 dX10_holds_98 rfl ?_
              refine xx_iincN (L' := [(5, .int (nI (k + 1))), (4, .int (nI ((t / 2 ^ 1) ||| (t &&& 1)))), (6, .int (nI (w 53 k))), (0, ic_pt E 49), (1, .int (nI i)), (2, ic_pt E 66)]) (pc := 235) dX10_holds_235 2 rfl cc_iconst_1 (Nat.le_of_ble_eq_true rfl) rfl ?_
              refine xx_goto (pc := 238) 23 dX10_holds_238 rfl ?_
              exact xx_sub [0, 1, 3, 4, 5] rfl (ih_ (k + 1) _ (by omega) (by omega) (by rw [show k + 1 - s (74 + 4 * i) = (k - s (74 + 4 * i)) + 1 by omega, mo_tr, ← hq, show s (74 + 4 * i) + (k - s (74 + 4 * i)) = k by omega]; exact (show mo_st s q k t = (t / 2 ^ 1) ||| (t &&& 1) by unfold mo_st; rw [if_neg (by omega), if_neg (by omega), if_neg (by omega), Nat.pow_one]).symm) (by omega))
          · refine xx_iload (pc := 65) dX10_holds_65 2 rfl ?_
            refine xx_iconst (pc := 67) dX10_holds_67 cc_iconst_1 ?_
            refine xx_ishrN (pc := 68) dX10_holds_68 (by omega) (by omega) ?_
            refine xx_iload (pc := 69) dX10_holds_69 2 rfl ?_
            refine xx_bipush (pc := 71) dX10_holds_71 cc_bipush_m2 ?_
            refine xx_iorN (pc := 73) dX10_holds_73 ?_
            refine xx_iandN (pc := 74) dX10_holds_74 ?_
            refine xx_eqI (y := nI (if t &&& 1 = 1 then t / 2 else t / 2 &&& 18446744073709551614)) (congrArg nI (ho_and (by omega))) ?_
            refine xx_istore (L' := [(4, .int (nI (if t &&& 1 = 1 then t / 2 else t / 2 &&& 18446744073709551614))), (6, .int (nI (w 53 k))), (5, .int (nI k)), (0, ic_pt E 49), (1, .int (nI i)), (2, ic_pt E 66)]) (pc := 75) dX10_holds_75 (Nat.le_of_ble_eq_true rfl) rfl ?_
            refine xx_goto (pc := 77) 235 dX10_holds_77 rfl ?_
            refine xx_iincN (L' := [(5, .int (nI (k + 1))), (4, .int (nI (if t &&& 1 = 1 then t / 2 else t / 2 &&& 18446744073709551614))), (6, .int (nI (w 53 k))), (0, ic_pt E 49), (1, .int (nI i)), (2, ic_pt E 66)]) (pc := 235) dX10_holds_235 2 rfl cc_iconst_1 (Nat.le_of_ble_eq_true rfl) rfl ?_
            refine xx_goto (pc := 238) 23 dX10_holds_238 rfl ?_
            exact xx_sub [0, 1, 3, 4, 5] rfl (ih_ (k + 1) _ (by omega) (by omega) (by rw [show k + 1 - s (74 + 4 * i) = (k - s (74 + 4 * i)) + 1 by omega, mo_tr, ← hq, show s (74 + 4 * i) + (k - s (74 + 4 * i)) = k by omega]; exact (show mo_st s q k t = if t &&& 1 = 1 then t / 2 else t / 2 &&& 18446744073709551614 by unfold mo_st; rw [if_neg (by omega), if_neg (by omega), if_pos (by omega)]).symm) (by omega))
        · refine xx_iload (pc := 49) dX10_holds_49 2 rfl ?_
          refine xx_iconst (pc := 51) dX10_holds_51 cc_iconst_1 ?_
          refine xx_ixorN (pc := 52) dX10_holds_52 ?_
          refine xx_istore (L' := [(4, .int (nI (t ^^^ 1))), (6, .int (nI (w 53 k))), (5, .int (nI k)), (0, ic_pt E 49), (1, .int (nI i)), (2, ic_pt E 66)]) (pc := 53) dX10_holds_53 (Nat.le_of_ble_eq_true rfl) rfl ?_
          refine xx_goto (pc := 55) 235 dX10_holds_55 rfl ?_
          refine xx_iincN (L' := [(5, .int (nI (k + 1))), (4, .int (nI (t ^^^ 1))), (6, .int (nI (w 53 k))), (0, ic_pt E 49), (1, .int (nI i)), (2, ic_pt E 66)]) (pc := 235) dX10_holds_235 2 rfl cc_iconst_1 (Nat.le_of_ble_eq_true rfl) rfl ?_
          refine xx_goto (pc := 238) 23 dX10_holds_238 rfl ?_
          exact xx_sub [0, 1, 3, 4, 5] rfl (ih_ (k + 1) _ (by omega) (by omega) (by rw [show k + 1 - s (74 + 4 * i) = (k - s (74 + 4 * i)) + 1 by omega, mo_tr, ← hq, show s (74 + 4 * i) + (k - s (74 + 4 * i)) = k by omega]; exact (show mo_st s q k t = t ^^^ 1 by unfold mo_st; rw [if_neg (by omega), if_pos (by omega)]).symm) (by omega))
  refine xx_iload_n (pc := 0) dX10_holds_0 1 rfl rfl ?_
  refine xx_if_neN (pc := 1) 8 dX10_holds_1 rfl (by omega) (fun c14 => ?_) (fun c14 => ?_)
  · refine xx_aload_nP (pc := 8) dX10_holds_8 0 rfl rfl ?_
    refine xx_getR (pc := 9) 52 dX10_holds_9 sh_49 fX10_18_10 rfl rfl (by decide) ?_
    refine xx_iload_n (pc := 12) dX10_holds_12 1 rfl rfl ?_
    refine xx_iconst (pc := 13) dX10_holds_13 cc_iconst_1 ?_
    refine xx_isubN (pc := 14) dX10_holds_14 (by omega) ?_
    refine xx_ialdN (pc := 15) dX10_holds_15 sh_52 (by omega) (by decide) ?_
    refine xx_istore_n (L' := [(3, .int (nI (w 52 (i - 1)))), (0, ic_pt E 49), (1, .int (nI i)), (2, ic_pt E 66)]) (pc := 16) dX10_holds_16 rfl (Nat.le_of_ble_eq_true rfl) rfl ?_
    refine xx_iconst (pc := 17) dX10_holds_17 cc_iconst_1 ?_
    refine xx_istore (L' := [(4, .int (nI 1)), (3, .int (nI (w 52 (i - 1)))), (0, ic_pt E 49), (1, .int (nI i)), (2, ic_pt E 66)]) (pc := 18) dX10_holds_18 (Nat.le_of_ble_eq_true rfl) rfl ?_
    refine xx_iload_n (pc := 20) dX10_holds_20 1 rfl rfl ?_
    refine xx_istore (L' := [(5, .int (nI (w 52 (i - 1)))), (4, .int (nI 1)), (3, .int (nI (w 52 (i - 1)))), (0, ic_pt E 49), (1, .int (nI i)), (2, ic_pt E 66)]) (pc := 21) dX10_holds_21 (Nat.le_of_ble_eq_true rfl) rfl ?_
    have hk0 : w 52 (i - 1) = s (74 + 4 * i) := by first | (rw [if_pos (by omega)] at hri2; omega) | (rw [if_neg (by omega), ← (hN.rk (i := i - 1) (by omega)).2.2.1] at hri2; exact hri2.symm)
    exact xx_sub [0, 1, 3, 4, 5] rfl (lp (s (75 + 4 * i) + 1) _ 1 (by omega) (by omega) (by rw [hk0, Nat.sub_self]; rfl) (by omega))
  · refine xx_iconst (pc := 4) dX10_holds_4 cc_iconst_0 ?_
    refine xx_goto (pc := 5) 16 dX10_holds_5 rfl ?_
    refine xx_istore_n (L' := [(3, .int (nI 0)), (0, ic_pt E 49), (1, .int (nI i)), (2, ic_pt E 66)]) (pc := 16) dX10_holds_16 rfl (Nat.le_of_ble_eq_true rfl) rfl ?_
    refine xx_iconst (pc := 17) dX10_holds_17 cc_iconst_1 ?_
    refine xx_istore (L' := [(4, .int (nI 1)), (3, .int (nI 0)), (0, ic_pt E 49), (1, .int (nI i)), (2, ic_pt E 66)]) (pc := 18) dX10_holds_18 (Nat.le_of_ble_eq_true rfl) rfl ?_
    refine xx_iload_n (pc := 20) dX10_holds_20 1 rfl rfl ?_
    refine xx_istore (L' := [(5, .int (nI 0)), (4, .int (nI 1)), (3, .int (nI 0)), (0, ic_pt E 49), (1, .int (nI i)), (2, ic_pt E 66)]) (pc := 21) dX10_holds_21 (Nat.le_of_ble_eq_true rfl) rfl ?_
    have hk0 : 0 = s (74 + 4 * i) := by first | (rw [if_pos (by omega)] at hri2; omega) | (rw [if_neg (by omega), ← (hN.rk (i := i - 1) (by omega)).2.2.1] at hri2; exact hri2.symm)
    exact xx_sub [0, 1, 3, 4, 5] rfl (lp (s (75 + 4 * i) + 1) _ 1 (by omega) (by omega) (by rw [hk0, Nat.sub_self]; rfl) (by omega))

