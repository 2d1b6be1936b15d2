/-! the class: what is tried -/
theorem Cs.e {w : ic_w} {m : Nat} {s t : Nat → Nat} (h : Cs w m s) (e : ∀ j, j ≠ 4 → t j = s j) : Cs w m t := by
  refine ⟨by rw [e 1 (by omega)]; exact h.t, by rw [mo_outs_congr (e 0 (by omega)) (fun q _ => e _ (by omega))]; exact h.o, fun k hk => ?_⟩
  rw [e 0 (by omega)] at hk
  rw [show it t k 1 = it s k 1 from e _ (by omega), show it t k 5 = it s k 5 from e _ (by omega)]
  exact h.2.2 k hk
theorem Cn.z {w : ic_w} {s t : Nat → Nat} (h : Cn w s) (hI : In s) (e : ∀ j, j ≠ 4 → t j = s j) : Cn w t := h.to hI (fun k hk => e k (by omega)) (fun k _ => ⟨e _ (by omega), e _ (by omega), e _ (by omega)⟩)
theorem Fp.up {w u : ic_w} {r k x v : Nat} (h : Fp (wu w r k x) u) (hr : r = 44 ∨ r = 45) : Fp (wu w r k v) (wu u r k v) := by
  refine ⟨fun a ha => ?_, by rw [wu_o _ _ _ _ (by omega), h.2, wu_o _ _ _ _ (by omega), wu_o _ _ _ _ (by omega)]⟩
  have := h.1 a ha
  by_cases z : a = r
  · subst z
    funext j
    by_cases y : j = k
    · rw [y, wu_s, wu_s]
    · rw [wu_k _ _ _ _ y, this, wu_k _ _ _ _ y, wu_k _ _ _ _ y]
  · rw [wu_row _ _ _ z, wu_row _ _ _ z, this, wu_row _ _ _ z]
theorem Fp.back {w u : ic_w} {r k x : Nat} (h : Fp (wu w r k x) u) (hr : r = 44 ∨ r = 45) : Fp w (wu u r k (w r k)) := by
  have e : wu w r k (w r k) = w := by
    funext a j
    unfold wu
    split
    · rename_i z
      rw [z.1, z.2]
    · rfl
  have := h.up (v := w r k) hr
  rwa [e] at this
set_option maxHeartbeats 4000000 in
set_option maxRecDepth 100000 in
theorem cC_tryRest {l : Launch} {E : ic_E} {w : ic_w} {n : Nat} {s : Nat → Nat} (hC : Cw w s) (hIn : In s) (hRu : Ru s) (hn16 : n ≤ 16) : ic_C l E mX11_tryRest 8 0 0 False [ic_pt E 0, .int (nI n)] SHs (hn w) SHs (ic_qi (fun v_ h_ => v_ = nI (mo_on s n) ∧ ∃ w2, h_ = hn w2 ∧ Fp w w2 ∧ Cs w2 1 (mo_itn s n) ∧ Cn w2 (mo_itn s n) ∧ In (mo_itn s n))) := by
  refine ic_intro (by decide +kernel) (Nat.le_of_ble_eq_true rfl) ?_
  show xx l E _ _ 0 [(0, ic_pt E 0), (1, .int (nI n))] _ _ _
  have hN := hC.1
  have hm := hC.2.1
  have n5_w := hC.2.2.1
  have n6_w := hC.2.2.2
  have hn0 := hIn.n
  have htt := hIn.t
  have hcr := hIn.cr (s 1)
  have n1_w : w 39 10 = s 0 := hN.n
  have n2_w : w 39 11 = s 2 := hN.e
  have n3_w : w 46 0 = s 1 := hm.t
  have n4_w : w 46 1 = mo_outs s := hm.o
  refine xx_aload_nP (pc := 0) dX11_tryRest_0 0 rfl rfl ?_
  refine xx_getR (pc := 1) 1 dX11_tryRest_1 sh_0 fX11_10_11 rfl rfl (by decide) ?_
  refine xx_aload_nP (pc := 4) dX11_tryRest_4 0 rfl rfl ?_
  refine xx_getR (pc := 5) 39 dX11_tryRest_5 sh_0 fX11_74_11 rfl rfl (by decide) ?_
  refine xx_getR (pc := 8) 46 dX11_tryRest_8 sh_39 fX11_112_5 rfl rfl (by decide) ?_
  refine xx_callV0 (pc := 11) (st := []) sh_1 (cC_mbecome (w := w) (m := 1) (p := 46) Mo_1 Mo_46 (by omega)) kX4_become vX11_226_4 dX11_tryRest_11 rfl rfl (Nat.le_of_ble_eq_true rfl) ⟨Nat.le_of_ble_eq_true rfl, Nat.le_of_ble_eq_true rfl⟩ ⟨Nat.zero_le _, Nat.zero_le _⟩ (ic_kv (fun h_ qw1 => ?_))
  obtain ⟨w1, rfl, b0, b1, bj, gb⟩ := qw1
  have hf_w1 : Fp w w1 := ⟨fun a ha => gb a (by omega) (by omega) (by omega), by rw [gb 55 (by omega) (by omega) (by omega)]⟩
  have hm_w1 : Cs w1 1 s := Cs.bc hm hIn b0 b1 bj
  have hN_w1 : Cn w1 s := hN.fp hf_w1
  refine xx_iconst (pc := 14) dX11_tryRest_14 cc_iconst_0 ?_
  refine xx_istore_n (L' := [(2, .int (nI 0)), (0, ic_pt E 0), (1, .int (nI n))]) (pc := 15) dX11_tryRest_15 rfl (Nat.le_of_ble_eq_true rfl) rfl ?_
  refine xx_iconst (pc := 16) dX11_tryRest_16 cc_iconst_0 ?_
  refine xx_istore_n (L' := [(3, .int (nI 0)), (2, .int (nI 0)), (0, ic_pt E 0), (1, .int (nI n))]) (pc := 17) dX11_tryRest_17 rfl (Nat.le_of_ble_eq_true rfl) rfl ?_
  have lp : ∀ (n_ : Nat) (k v : Nat) (t : Nat → Nat) (u : ic_w), k ≤ n → mo_on s n = v + mo_on t (n - k) → mo_itn s n = mo_itn t (n - k) → Cn u t → Cs u 1 t → In t → Ru t → Fp w u → n - k < n_ → xx l E (ic_fr E mX11_tryRest 8 0 0 False SHs (ic_qi (fun v_ h_ => v_ = nI (mo_on s n) ∧ ∃ w2, h_ = hn w2 ∧ Fp w w2 ∧ Cs w2 1 (mo_itn s n) ∧ Cn w2 (mo_itn s n) ∧ In (mo_itn s n)))) (0, 0) 18 [(3, .int (nI k)), (2, .int (nI v)), (0, ic_pt E 0), (1, .int (nI n))] [] SHs (hn u) := by
    intro n_
    induction n_ with
    | zero => intro k v t u hk hs ht hN_u hm_u hIn_u hRu_u hf hm_; exact absurd hm_ (Nat.not_lt_zero _)
    | succ n_ ih_ =>
      intro k v t u hk hs ht hN_u hm_u hIn_u hRu_u hf hm_
      have n1_u : u 39 10 = t 0 := hN_u.n
      have n2_u : u 39 11 = t 2 := hN_u.e
      have n3_u : u 1 0 = t 1 := hm_u.t
      have tn0_u := hIn_u.n
      have ttt_u := hIn_u.t
      have trl_u := mo_rest_le t
      refine xx_iload_n (pc := 18) dX11_tryRest_18 0 rfl rfl ?_
      refine xx_iload_n (pc := 19) dX11_tryRest_19 3 rfl rfl ?_
      refine xx_icmp_geN (pc := 20) 68 dX11_tryRest_20 rfl (by omega) (by omega) (fun c23 => ?_) (fun c23 => ?_)
      · have hz : v + mo_on t (n - k) = v ∧ mo_itn t (n - k) = t := by rw [show n - k = 0 by omega]; exact ⟨rfl, rfl⟩
        refine xx_iload_n (pc := 68) dX11_tryRest_68 1 rfl rfl ?_
        exact xx_iret (pc := 69) dX11_tryRest_69 rfl (rfl) (Nat.le_refl _) (Nat.le_refl _) (ic_ri ⟨by rw [hs, hz.1], u, rfl, hf, by rw [ht, hz.2]; exact hm_u, by rw [ht, hz.2]; exact hN_u, by rw [ht, hz.2]; exact hIn_u⟩)
      · refine xx_aload_nP (pc := 23) dX11_tryRest_23 2 rfl rfl ?_
        refine xx_getR (pc := 24) 39 dX11_tryRest_24 sh_0 fX11_74_11 rfl rfl (by decide) ?_
        refine xx_aload_nP (pc := 27) dX11_tryRest_27 2 rfl rfl ?_
        refine xx_getR (pc := 28) 1 dX11_tryRest_28 sh_0 fX11_10_11 rfl rfl (by decide) ?_
        refine xx_callV0 (pc := 31) (st := []) sh_39 (cC_isOver (w := u) (m := 1) (s := t) Mo_1 hm_u hN_u hIn_u) kX5_isOver vX11_185_5 dX11_tryRest_31 rfl rfl (Nat.le_of_ble_eq_true rfl) ⟨Nat.le_of_ble_eq_true rfl, Nat.le_of_ble_eq_true rfl⟩ ⟨Nat.zero_le _, Nat.zero_le _⟩ (ic_ke ?_)
        refine xx_if_neB (pc := 34) 68 dX11_tryRest_34 rfl (fun c24 => ?_) (fun c24 => ?_)
        · have hz : v + mo_on t (n - k) = v ∧ mo_itn t (n - k) = t := by rw [show n - k = (n - (k + 1)) + 1 by omega, mo_on, mo_itn, if_pos (by omega), if_pos (by omega)]; exact ⟨rfl, rfl⟩
          refine xx_iload_n (pc := 68) dX11_tryRest_68 1 rfl rfl ?_
          exact xx_iret (pc := 69) dX11_tryRest_69 rfl (rfl) (Nat.le_refl _) (Nat.le_refl _) (ic_ri ⟨by rw [hs, hz.1], u, rfl, hf, by rw [ht, hz.2]; exact hm_u, by rw [ht, hz.2]; exact hN_u, by rw [ht, hz.2]; exact hIn_u⟩)
        · refine xx_iload_n (pc := 37) dX11_tryRest_37 1 rfl rfl ?_
          refine xx_aload_nP (pc := 38) dX11_tryRest_38 2 rfl rfl ?_
          refine xx_getR (pc := 39) 39 dX11_tryRest_39 sh_0 fX11_74_11 rfl rfl (by decide) ?_
          refine xx_aload_nP (pc := 42) dX11_tryRest_42 2 rfl rfl ?_
          refine xx_getR (pc := 43) 1 dX11_tryRest_43 sh_0 fX11_10_11 rfl rfl (by decide) ?_
          refine xx_aload_nP (pc := 46) dX11_tryRest_46 2 rfl rfl ?_
          refine xx_getR (pc := 47) 39 dX11_tryRest_47 sh_0 fX11_74_11 rfl rfl (by decide) ?_
          refine xx_aload_nP (pc := 50) dX11_tryRest_50 2 rfl rfl ?_
          refine xx_getR (pc := 51) 1 dX11_tryRest_51 sh_0 fX11_10_11 rfl rfl (by decide) ?_
          have x25 := mo_rest_le t
          refine xx_callV0 (pc := 54) (st := [ic_pt E 1, ic_pt E 39, .int (nI v)]) sh_39 (cC_actOfRest (w := u) (m := 1) (s := t)  Mo_1 hm_u hN_u hIn_u hRu_u) kX5_actOfRest vX11_216_5 dX11_tryRest_54 rfl rfl (Nat.le_of_ble_eq_true rfl) ⟨Nat.le_of_ble_eq_true rfl, Nat.le_of_ble_eq_true rfl⟩ ⟨Nat.zero_le _, Nat.zero_le _⟩ (ic_ki (fun v27 h_ qw26 => ?_))
          obtain ⟨rfl, w26, rfl, gw26⟩ := qw26
          have hN_w26 : Cn w26 t := hN_u.fs gw26
          have hm_w26 : Cs w26 1 t := hm_u.fs Mo_1 gw26
          have n1_w26 : w26 39 10 = t 0 := hN_w26.n
          have n2_w26 : w26 39 11 = t 2 := hN_w26.e
          have n3_w26 : w26 1 0 = t 1 := hm_w26.t
          have hwl_x28 := mo_worth_le hIn_u (act := mo_rest t) (by omega)
          refine xx_callV0 (pc := 57) (st := [.int (nI v)]) sh_39 (cC_goBy (w := w26) (m := 1) (act := mo_rest t) (s := t) Mo_1 hm_w26 hN_w26 hIn_u hRu_u (by omega)) kX5_goBy vX11_229_5 dX11_tryRest_57 rfl rfl (Nat.le_of_ble_eq_true rfl) ⟨Nat.le_of_ble_eq_true rfl, Nat.le_of_ble_eq_true rfl⟩ ⟨Nat.zero_le _, Nat.zero_le _⟩ (ic_ki (fun v30 h_ qw29 => ?_))
          obtain ⟨rfl, w29, rfl, gw29, hm_w29⟩ := qw29
          have hIn_w29 : In (mo_go t (mo_rest t)) := In_go hIn_u (by omega) (by omega)
          have hRu_w29 : Ru (mo_go t (mo_rest t)) := Ru_go hRu_u hIn_u (by omega)
          have hN_w29 : Cn w29 (mo_go t (mo_rest t)) := (hN_w26.fm Mo_1 gw29).go hIn_u (by omega)
          refine xx_iaddN (pc := 60) dX11_tryRest_60 ?_
          refine xx_istore_n (L' := [(2, .int (nI (v + (mo_worth t (mo_rest t))))), (3, .int (nI k)), (0, ic_pt E 0), (1, .int (nI n))]) (pc := 61) dX11_tryRest_61 rfl (Nat.le_of_ble_eq_true rfl) rfl ?_
          refine xx_iincN (L' := [(3, .int (nI (k + 1))), (2, .int (nI (v + (mo_worth t (mo_rest t))))), (0, ic_pt E 0), (1, .int (nI n))]) (pc := 62) dX11_tryRest_62 1 rfl cc_iconst_1 (Nat.le_of_ble_eq_true rfl) rfl ?_
          refine xx_goto (pc := 65) 18 dX11_tryRest_65 rfl ?_
          exact xx_sub [0, 1, 2, 3] rfl (ih_ (k + 1) _ _ w29 (by omega) (by rw [hs, show n - k = (n - (k + 1)) + 1 by omega, mo_on, if_neg (by omega), Nat.add_assoc]) (by rw [ht, show n - k = (n - (k + 1)) + 1 by omega, mo_itn, if_neg (by omega)]) hN_w29 hm_w29 hIn_w29 hRu_w29 (hf.tr ((gw26.p).tr (gw29.p (by omega)))) (by omega))
  exact xx_sub [0, 1, 2, 3] rfl (lp (n + 1) 0 0 s w1 (by omega) (by rw [Nat.zero_add]; rfl) rfl hN_w1 hm_w1 hIn hRu hf_w1 (by omega))

set_option maxHeartbeats 4000000 in
set_option maxRecDepth 100000 in
theorem cC_on {l : Launch} {E : ic_E} {w : ic_w} {n : Nat} (hn_ : n < 2 ^ 32) {s : Nat → Nat} (hC : Cw w s) (hIn : In s) (hRu : Ru s) : ic_C l E mX11_on 9 0 0 False [ic_pt E 0, .int (nI n)] SHs (hn w) SHs (ic_qi (fun v_ h_ => v_ = nI (if n ≤ 16 then mo_on s n else 4294967295) ∧ ∃ w2, h_ = hn w2 ∧ Fp w w2)) := by
  refine ic_intro (by decide +kernel) (Nat.le_of_ble_eq_true rfl) ?_
  show xx l E _ _ 0 [(0, ic_pt E 0), (1, .int (nI n))] _ _ _
  have hN := hC.1
  have hm := hC.2.1
  have n5_w := hC.2.2.1
  have n6_w := hC.2.2.2
  have hn0 := hIn.n
  have htt := hIn.t
  have hcr := hIn.cr (s 1)
  have n1_w : w 39 10 = s 0 := hN.n
  have n2_w : w 39 11 = s 2 := hN.e
  have n3_w : w 46 0 = s 1 := hm.t
  have n4_w : w 46 1 = mo_outs s := hm.o
  refine xx_iload_n (pc := 0) dX11_on_0 1 rfl rfl ?_
  refine xx_iconst (pc := 1) dX11_on_1 cc_iconst_0 ?_
  refine xx_bipush (pc := 2) dX11_on_2 cc_bipush_16 ?_
  refine xx_callS0 (pc := 4) (st := []) (cC_within (w := w) (v := n) (lo := 0) (hi := 16) (by omega) (by omega) (by omega)) kX11_within sX11_94 dX11_on_4 rfl rfl (Nat.le_of_ble_eq_true rfl) ⟨Nat.le_of_ble_eq_true rfl, Nat.le_of_ble_eq_true rfl⟩ ⟨Nat.zero_le _, Nat.zero_le _⟩ (ic_ke ?_)
  refine xx_if_neB (pc := 7) 12 dX11_on_7 rfl (fun c1 => ?_) (fun c1 => ?_)
  · refine xx_aload_nP (pc := 12) dX11_on_12 0 rfl rfl ?_
    refine xx_iload_n (pc := 13) dX11_on_13 1 rfl rfl ?_
    have hon_x2 := mo_on_le (s := s) n s hIn hRu
    refine xx_callV0 (pc := 14) (st := []) sh_0 (cC_tryRest (w := w) (n := n) (s := s) hC hIn hRu (by omega)) kX11_tryRest vX11_223_11 dX11_on_14 rfl rfl (Nat.le_of_ble_eq_true rfl) ⟨Nat.le_of_ble_eq_true rfl, Nat.le_of_ble_eq_true rfl⟩ ⟨Nat.zero_le _, Nat.zero_le _⟩ (ic_ki (fun v4 h_ qw3 => ?_))
    obtain ⟨rfl, w3, rfl, hf_w3, ht_w3, hT_w3, hIt_w3⟩ := qw3
    exact xx_iret (pc := 17) dX11_on_17 rfl (rfl) (Nat.le_refl _) (Nat.le_refl _) (ic_ri ⟨by rw [if_pos (by omega)], w3, rfl, hf_w3⟩)
  · refine xx_iconst (pc := 10) dX11_on_10 cc_iconst_m1 ?_
    exact xx_iret (pc := 11) dX11_on_11 rfl (rfl) (Nat.le_refl _) (Nat.le_refl _) (ic_ri ⟨by rw [if_neg (by omega)], w, rfl, Fp.rf w⟩)

set_option maxHeartbeats 4000000 in
set_option maxRecDepth 100000 in
theorem cC_when {l : Launch} {E : ic_E} {w : ic_w} {k : Nat} (hk_ : k < 2 ^ 32) {s : Nat → Nat} (hC : Cw w s) (hIn : In s) (hRu : Ru s) : ic_C l E mX11_when 8 0 0 False [ic_pt E 0, .int (nI k)] SHs (hn w) SHs (ic_qi (fun v_ h_ => v_ = nI (if k < s 0 then mo_when s k else 4294967295) ∧ ∃ w2, h_ = hn w2 ∧ Fp w w2)) := by
  refine ic_intro (by decide +kernel) (Nat.le_of_ble_eq_true rfl) ?_
  show xx l E _ _ 0 [(0, ic_pt E 0), (1, .int (nI k))] _ _ _
  have hN := hC.1
  have hm := hC.2.1
  have n5_w := hC.2.2.1
  have n6_w := hC.2.2.2
  have hn0 := hIn.n
  have htt := hIn.t
  have hcr := hIn.cr (s 1)
  have n1_w : w 39 10 = s 0 := hN.n
  have n2_w : w 39 11 = s 2 := hN.e
  have n3_w : w 46 0 = s 1 := hm.t
  have n4_w : w 46 1 = mo_outs s := hm.o
  refine xx_aload_nP (pc := 0) dX11_when_0 0 rfl rfl ?_
  refine xx_iload_n (pc := 1) dX11_when_1 1 rfl rfl ?_
  refine xx_callV0 (pc := 2) (st := []) sh_0 (cC_isRider (w := w) (k := k) (by omega) (by omega)) kX11_isRider vX11_109_11 dX11_when_2 rfl rfl (Nat.le_of_ble_eq_true rfl) ⟨Nat.le_of_ble_eq_true rfl, Nat.le_of_ble_eq_true rfl⟩ ⟨Nat.zero_le _, Nat.zero_le _⟩ (ic_ke ?_)
  refine xx_if_neB (pc := 5) 10 dX11_when_5 rfl (fun c1 => ?_) (fun c1 => ?_)
  · have ik := hIn.i (o := k) (by omega)
    refine xx_aload_nP (pc := 10) dX11_when_10 0 rfl rfl ?_
    refine xx_getR (pc := 11) 39 dX11_when_11 sh_0 fX11_74_11 rfl rfl (by decide) ?_
    refine xx_getR (pc := 14) 46 dX11_when_14 sh_39 fX11_112_5 rfl rfl (by decide) ?_
    refine xx_iload_n (pc := 17) dX11_when_17 1 rfl rfl ?_
    refine xx_callV0 (pc := 18) (st := []) sh_46 (cC_isOut (w := w) (m := 46) (s := s) (k := k) Mo_46 hm (by omega) hIn) kX4_isOut vX11_127_4 dX11_when_18 rfl rfl (Nat.le_of_ble_eq_true rfl) ⟨Nat.le_of_ble_eq_true rfl, Nat.le_of_ble_eq_true rfl⟩ ⟨Nat.zero_le _, Nat.zero_le _⟩ (ic_ke ?_)
    refine xx_if_eqB (pc := 21) 27 dX11_when_21 rfl (fun c2 => ?_) (fun c2 => ?_)
    · refine xx_aload_nP (pc := 27) dX11_when_27 0 rfl rfl ?_
      refine xx_getR (pc := 28) 1 dX11_when_28 sh_0 fX11_10_11 rfl rfl (by decide) ?_
      refine xx_aload_nP (pc := 31) dX11_when_31 0 rfl rfl ?_
      refine xx_getR (pc := 32) 39 dX11_when_32 sh_0 fX11_74_11 rfl rfl (by decide) ?_
      refine xx_getR (pc := 35) 46 dX11_when_35 sh_39 fX11_112_5 rfl rfl (by decide) ?_
      refine xx_callV0 (pc := 38) (st := []) sh_1 (cC_mbecome (w := w) (m := 1) (p := 46) Mo_1 Mo_46 (by omega)) kX4_become vX11_226_4 dX11_when_38 rfl rfl (Nat.le_of_ble_eq_true rfl) ⟨Nat.le_of_ble_eq_true rfl, Nat.le_of_ble_eq_true rfl⟩ ⟨Nat.zero_le _, Nat.zero_le _⟩ (ic_kv (fun h_ qw3 => ?_))
      obtain ⟨w3, rfl, b0, b1, bj, gb⟩ := qw3
      have hf_w3 : Fp w w3 := ⟨fun a ha => gb a (by omega) (by omega) (by omega), by rw [gb 55 (by omega) (by omega) (by omega)]⟩
      have hm_w3 : Cs w3 1 s := Cs.bc hm hIn b0 b1 bj
      have hN_w3 : Cn w3 s := hN.fp hf_w3
      refine xx_iconst (pc := 41) dX11_when_41 cc_iconst_0 ?_
      refine xx_istore_n (L' := [(2, .int (nI 0)), (0, ic_pt E 0), (1, .int (nI k))]) (pc := 42) dX11_when_42 rfl (Nat.le_of_ble_eq_true rfl) rfl ?_
      have lp : ∀ (n_ : Nat) (i m : Nat) (t : Nat → Nat) (u : ic_w), i ≤ 16 ∧ m = 17 - i → mo_run (mo_pw k) s 17 = mo_run (mo_pw k) t m → t 0 = s 0 ∧ t 1 = s 1 + i ∧ t 2 = s 2 → it t k 4 = 0 → Cn u t → Cs u 1 t → In t → Ru t → Fp w u → 17 - i < n_ → xx l E (ic_fr E mX11_when 8 0 0 False SHs (ic_qi (fun v_ h_ => v_ = nI (if k < s 0 then mo_when s k else 4294967295) ∧ ∃ w2, h_ = hn w2 ∧ Fp w w2))) (0, 0) 43 [(2, .int (nI i)), (0, ic_pt E 0), (1, .int (nI k))] [] SHs (hn u) := by
        intro n_
        induction n_ with
        | zero => intro i m t u hi hq h0 h4 hN_u hm_u hIn_u hRu_u hf hm_; exact absurd hm_ (Nat.not_lt_zero _)
        | succ n_ ih_ =>
          intro i m t u hi hq h0 h4 hN_u hm_u hIn_u hRu_u hf hm_
          have n1_u : u 39 10 = t 0 := hN_u.n
          have n2_u : u 39 11 = t 2 := hN_u.e
          have n3_u : u 1 0 = t 1 := hm_u.t
          have tn0_u := hIn_u.n
          have ttt_u := hIn_u.t
          have trl_u := mo_rest_le t
          refine xx_iload_n (pc := 43) dX11_when_43 0 rfl rfl ?_
          refine xx_bipush (pc := 44) dX11_when_44 cc_bipush_16 ?_
          refine xx_icmp_geN (pc := 46) 113 dX11_when_46 rfl (by omega) (by omega) (fun c25 => ?_) (fun c25 => ?_)
          · refine xx_bipush (pc := 113) dX11_when_113 cc_bipush_m3 ?_
            exact xx_iret (pc := 115) dX11_when_115 rfl (rfl) (Nat.le_refl _) (Nat.le_refl _) (ic_ri ⟨by rw [if_pos (by omega)]; unfold mo_when; rw [if_neg (by omega), show mo_run (mo_pw k) s 17 = t by rw [hq]; exact mo_run_p (by unfold mo_pw mo_over; simp; omega) (by omega), if_neg (by omega)], u, rfl, hf⟩)
          · refine xx_aload_nP (pc := 49) dX11_when_49 1 rfl rfl ?_
            refine xx_getR (pc := 50) 39 dX11_when_50 sh_0 fX11_74_11 rfl rfl (by decide) ?_
            refine xx_aload_nP (pc := 53) dX11_when_53 1 rfl rfl ?_
            refine xx_getR (pc := 54) 1 dX11_when_54 sh_0 fX11_10_11 rfl rfl (by decide) ?_
            refine xx_callV0 (pc := 57) (st := []) sh_39 (cC_isOver (w := u) (m := 1) (s := t) Mo_1 hm_u hN_u hIn_u) kX5_isOver vX11_185_5 dX11_when_57 rfl rfl (Nat.le_of_ble_eq_true rfl) ⟨Nat.le_of_ble_eq_true rfl, Nat.le_of_ble_eq_true rfl⟩ ⟨Nat.zero_le _, Nat.zero_le _⟩ (ic_ke ?_)
            refine xx_if_neB (pc := 60) 113 dX11_when_60 rfl (fun c26 => ?_) (fun c26 => ?_)
            · refine xx_bipush (pc := 113) dX11_when_113 cc_bipush_m3 ?_
              exact xx_iret (pc := 115) dX11_when_115 rfl (rfl) (Nat.le_refl _) (Nat.le_refl _) (ic_ri ⟨by rw [if_pos (by omega)]; unfold mo_when; rw [if_neg (by omega), show mo_run (mo_pw k) s 17 = t by rw [hq]; exact mo_run_p (by unfold mo_pw mo_over; simp; omega) (by omega), if_neg (by omega)], u, rfl, hf⟩)
            · refine xx_aload_nP (pc := 63) dX11_when_63 1 rfl rfl ?_
              refine xx_getR (pc := 64) 1 dX11_when_64 sh_0 fX11_10_11 rfl rfl (by decide) ?_
              refine xx_getN (pc := 67) dX11_when_67 sh_1 fX11_137_4 rfl ?_
              refine xx_istore_n (L' := [(3, .int (nI (u 1 0))), (2, .int (nI i)), (0, ic_pt E 0), (1, .int (nI k))]) (pc := 70) dX11_when_70 rfl (Nat.le_of_ble_eq_true rfl) rfl ?_
              refine xx_aload_nP (pc := 71) dX11_when_71 2 rfl rfl ?_
              refine xx_getR (pc := 72) 39 dX11_when_72 sh_0 fX11_74_11 rfl rfl (by decide) ?_
              refine xx_aload_nP (pc := 75) dX11_when_75 2 rfl rfl ?_
              refine xx_getR (pc := 76) 1 dX11_when_76 sh_0 fX11_10_11 rfl rfl (by decide) ?_
              refine xx_aload_nP (pc := 79) dX11_when_79 2 rfl rfl ?_
              refine xx_getR (pc := 80) 39 dX11_when_80 sh_0 fX11_74_11 rfl rfl (by decide) ?_
              refine xx_aload_nP (pc := 83) dX11_when_83 2 rfl rfl ?_
              refine xx_getR (pc := 84) 1 dX11_when_84 sh_0 fX11_10_11 rfl rfl (by decide) ?_
              have x27 := mo_rest_le t
              refine xx_callV0 (pc := 87) (st := [ic_pt E 1, ic_pt E 39]) sh_39 (cC_actOfRest (w := u) (m := 1) (s := t)  Mo_1 hm_u hN_u hIn_u hRu_u) kX5_actOfRest vX11_216_5 dX11_when_87 rfl rfl (Nat.le_of_ble_eq_true rfl) ⟨Nat.le_of_ble_eq_true rfl, Nat.le_of_ble_eq_true rfl⟩ ⟨Nat.zero_le _, Nat.zero_le _⟩ (ic_ki (fun v29 h_ qw28 => ?_))
              obtain ⟨rfl, w28, rfl, gw28⟩ := qw28
              have hN_w28 : Cn w28 t := hN_u.fs gw28
              have hm_w28 : Cs w28 1 t := hm_u.fs Mo_1 gw28
              have n1_w28 : w28 39 10 = t 0 := hN_w28.n
              have n2_w28 : w28 39 11 = t 2 := hN_w28.e
              have n3_w28 : w28 1 0 = t 1 := hm_w28.t
              have hwl_x30 := mo_worth_le hIn_u (act := mo_rest t) (by omega)
              refine xx_callV0 (pc := 90) (st := []) sh_39 (cC_goBy (w := w28) (m := 1) (act := mo_rest t) (s := t) Mo_1 hm_w28 hN_w28 hIn_u hRu_u (by omega)) kX5_goBy vX11_229_5 dX11_when_90 rfl rfl (Nat.le_of_ble_eq_true rfl) ⟨Nat.le_of_ble_eq_true rfl, Nat.le_of_ble_eq_true rfl⟩ ⟨Nat.zero_le _, Nat.zero_le _⟩ (ic_ki (fun v32 h_ qw31 => ?_))
              obtain ⟨rfl, w31, rfl, gw31, hm_w31⟩ := qw31
              have hIn_w31 : In (mo_go t (mo_rest t)) := In_go hIn_u (by omega) (by omega)
              have hRu_w31 : Ru (mo_go t (mo_rest t)) := Ru_go hRu_u hIn_u (by omega)
              have hN_w31 : Cn w31 (mo_go t (mo_rest t)) := (hN_w28.fm Mo_1 gw31).go hIn_u (by omega)
              have e0_ : mo_go t (mo_rest t) 0 = t 0 := mo_go_r _ (by omega) (by omega) (by omega)
              have i4_ := (hIn_w31.i (o := k) (by omega)).2.2.2.2.1
              refine xx_pop (pc := 93) dX11_when_93 rfl ?_
              refine xx_aload_nP (pc := 94) dX11_when_94 2 rfl rfl ?_
              refine xx_getR (pc := 95) 1 dX11_when_95 sh_0 fX11_10_11 rfl rfl (by decide) ?_
              refine xx_iload_n (pc := 98) dX11_when_98 3 rfl rfl ?_
              refine xx_callV0 (pc := 99) (st := []) sh_1 (cC_isOut (w := w31) (m := 1) (s := (mo_go t (mo_rest t))) (k := k) Mo_1 hm_w31 (by omega) hIn_w31) kX4_isOut vX11_127_4 dX11_when_99 rfl rfl (Nat.le_of_ble_eq_true rfl) ⟨Nat.le_of_ble_eq_true rfl, Nat.le_of_ble_eq_true rfl⟩ ⟨Nat.zero_le _, Nat.zero_le _⟩ (ic_ke ?_)
              refine xx_if_eqB (pc := 102) 107 dX11_when_102 rfl (fun c33 => ?_) (fun c33 => ?_)
              · refine xx_iincN (L' := [(2, .int (nI (i + 1))), (3, .int (nI (u 1 0))), (0, ic_pt E 0), (1, .int (nI k))]) (pc := 107) dX11_when_107 1 rfl cc_iconst_1 (Nat.le_of_ble_eq_true rfl) rfl ?_
                refine xx_goto (pc := 110) 43 dX11_when_110 rfl ?_
                have e2_ : mo_go t (mo_rest t) 2 = t 2 ∧ mo_go t (mo_rest t) 0 = t 0 := ⟨mo_go_r _ (by omega) (by omega) (by omega), mo_go_r _ (by omega) (by omega) (by omega)⟩
                have e1_ := mo_go_1 t (mo_rest t)
                exact xx_sub [0, 2, 3] rfl (ih_ (i + 1) (m - 1) _ w31 (by omega) (by rw [hq, show m = (m - 1) + 1 by omega, mo_run, if_neg (by unfold mo_pw mo_over; simp; omega), Nat.add_sub_cancel]) (by omega) (by omega) hN_w31 hm_w31 hIn_w31 hRu_w31 (hf.tr ((gw28.p).tr (gw31.p (by omega)))) (by omega))
              · refine xx_iload_n (pc := 105) dX11_when_105 0 rfl rfl ?_
                exact xx_iret (pc := 106) dX11_when_106 rfl (rfl) (Nat.le_refl _) (Nat.le_refl _) (ic_ri ⟨by rw [if_pos (by omega)]; unfold mo_when; rw [if_neg (by omega), show mo_run (mo_pw k) s 17 = (mo_go t (mo_rest t)) by rw [hq, show m = (m - 1) + 1 by omega, mo_run, if_neg (by unfold mo_pw mo_over; simp; omega)]; exact mo_run_p (by unfold mo_pw mo_over; simp; omega) (by omega), if_pos (by omega), mo_go_1, n3_u, Nat.add_sub_cancel], w31, rfl, hf.tr ((gw28.p).tr (gw31.p (by omega)))⟩)
      exact xx_sub [0, 1, 2] rfl (lp 18 0 17 s w3 (by omega) rfl (by omega) (by omega) hN_w3 hm_w3 hIn hRu hf_w3 (by omega))
    · refine xx_bipush (pc := 24) dX11_when_24 cc_bipush_m3 ?_
      exact xx_iret (pc := 26) dX11_when_26 rfl (rfl) (Nat.le_refl _) (Nat.le_refl _) (ic_ri ⟨by rw [if_pos (by omega)]; unfold mo_when; rw [if_pos (by omega)], w, rfl, Fp.rf w⟩)
  · refine xx_iconst (pc := 8) dX11_when_8 cc_iconst_m1 ?_
    exact xx_iret (pc := 9) dX11_when_9 rfl (rfl) (Nat.le_refl _) (Nat.le_refl _) (ic_ri ⟨by rw [if_neg (by omega)], w, rfl, Fp.rf w⟩)

set_option maxHeartbeats 4000000 in
set_option maxRecDepth 100000 in
theorem cC_lost {l : Launch} {E : ic_E} {w : ic_w} {k : Nat} (hk_ : k < 2 ^ 32) {s : Nat → Nat} (hC : Cw w s) (hIn : In s) (hRu : Ru s) : ic_C l E mX11_lost 8 0 0 False [ic_pt E 0, .int (nI k)] SHs (hn w) SHs (ic_qi (fun v_ h_ => v_ = nI (if k < s 0 then mo_lost s k else 4294967295) ∧ ∃ w2, h_ = hn w2 ∧ Fp w w2)) := by
  refine ic_intro (by decide +kernel) (Nat.le_of_ble_eq_true rfl) ?_
  show xx l E _ _ 0 [(0, ic_pt E 0), (1, .int (nI k))] _ _ _
  have hN := hC.1
  have hm := hC.2.1
  have n5_w := hC.2.2.1
  have n6_w := hC.2.2.2
  have hn0 := hIn.n
  have htt := hIn.t
  have hcr := hIn.cr (s 1)
  have n1_w : w 39 10 = s 0 := hN.n
  have n2_w : w 39 11 = s 2 := hN.e
  have n3_w : w 46 0 = s 1 := hm.t
  have n4_w : w 46 1 = mo_outs s := hm.o
  refine xx_aload_nP (pc := 0) dX11_lost_0 0 rfl rfl ?_
  refine xx_iload_n (pc := 1) dX11_lost_1 1 rfl rfl ?_
  refine xx_callV0 (pc := 2) (st := []) sh_0 (cC_isRider (w := w) (k := k) (by omega) (by omega)) kX11_isRider vX11_109_11 dX11_lost_2 rfl rfl (Nat.le_of_ble_eq_true rfl) ⟨Nat.le_of_ble_eq_true rfl, Nat.le_of_ble_eq_true rfl⟩ ⟨Nat.zero_le _, Nat.zero_le _⟩ (ic_ke ?_)
  refine xx_if_neB (pc := 5) 10 dX11_lost_5 rfl (fun c1 => ?_) (fun c1 => ?_)
  · have ik := hIn.i (o := k) (by omega)
    refine xx_aload_nP (pc := 10) dX11_lost_10 0 rfl rfl ?_
    refine xx_getR (pc := 11) 1 dX11_lost_11 sh_0 fX11_10_11 rfl rfl (by decide) ?_
    refine xx_aload_nP (pc := 14) dX11_lost_14 0 rfl rfl ?_
    refine xx_getR (pc := 15) 39 dX11_lost_15 sh_0 fX11_74_11 rfl rfl (by decide) ?_
    refine xx_getR (pc := 18) 46 dX11_lost_18 sh_39 fX11_112_5 rfl rfl (by decide) ?_
    refine xx_callV0 (pc := 21) (st := []) sh_1 (cC_mbecome (w := w) (m := 1) (p := 46) Mo_1 Mo_46 (by omega)) kX4_become vX11_226_4 dX11_lost_21 rfl rfl (Nat.le_of_ble_eq_true rfl) ⟨Nat.le_of_ble_eq_true rfl, Nat.le_of_ble_eq_true rfl⟩ ⟨Nat.zero_le _, Nat.zero_le _⟩ (ic_kv (fun h_ qw2 => ?_))
    obtain ⟨w2, rfl, b0, b1, bj, gb⟩ := qw2
    have hf_w2 : Fp w w2 := ⟨fun a ha => gb a (by omega) (by omega) (by omega), by rw [gb 55 (by omega) (by omega) (by omega)]⟩
    have hm_w2 : Cs w2 1 s := Cs.bc hm hIn b0 b1 bj
    have hN_w2 : Cn w2 s := hN.fp hf_w2
    refine xx_iconst (pc := 24) dX11_lost_24 cc_iconst_0 ?_
    refine xx_istore_n (L' := [(2, .int (nI 0)), (0, ic_pt E 0), (1, .int (nI k))]) (pc := 25) dX11_lost_25 rfl (Nat.le_of_ble_eq_true rfl) rfl ?_
    have lp : ∀ (n_ : Nat) (i m : Nat) (t : Nat → Nat) (u : ic_w), i ≤ 17 ∧ m + i = 17 → mo_run (mo_pl k) s 17 = mo_run (mo_pl k) t m → t 0 = s 0 ∧ t 1 = s 1 + i ∧ t 2 = s 2 → Cn u t → Cs u 1 t → In t → Ru t → Fp w u → 18 - i < n_ → xx l E (ic_fr E mX11_lost 8 0 0 False SHs (ic_qi (fun v_ h_ => v_ = nI (if k < s 0 then mo_lost s k else 4294967295) ∧ ∃ w2, h_ = hn w2 ∧ Fp w w2))) (0, 0) 26 [(2, .int (nI i)), (0, ic_pt E 0), (1, .int (nI k))] [] SHs (hn u) := by
      intro n_
      induction n_ with
      | zero => intro i m t u hi hq h0 hN_u hm_u hIn_u hRu_u hf hm_; exact absurd hm_ (Nat.not_lt_zero _)
      | succ n_ ih_ =>
        intro i m t u hi hq h0 hN_u hm_u hIn_u hRu_u hf hm_
        have n1_u : u 39 10 = t 0 := hN_u.n
        have n2_u : u 39 11 = t 2 := hN_u.e
        have n3_u : u 1 0 = t 1 := hm_u.t
        have tn0_u := hIn_u.n
        have ttt_u := hIn_u.t
        have trl_u := mo_rest_le t
        refine xx_iload_n (pc := 26) dX11_lost_26 0 rfl rfl ?_
        refine xx_bipush (pc := 27) dX11_lost_27 cc_bipush_16 ?_
        refine xx_icmp_gtN (pc := 29) 100 dX11_lost_29 rfl (by omega) (by omega) (fun c24 => by exfalso; omega) (fun c24 => ?_)
        have hd1 : u 2 k = it t k 1 := hm_u.d (by omega)
        have it1 := hIn_u.i (o := k) (by omega)
        refine xx_aload_nP (pc := 32) dX11_lost_32 1 rfl rfl ?_
        refine xx_getR (pc := 33) 1 dX11_lost_33 sh_0 fX11_10_11 rfl rfl (by decide) ?_
        refine xx_getR (pc := 36) 2 dX11_lost_36 sh_1 fX11_118_4 rfl rfl (by decide) ?_
        refine xx_iload_n (pc := 39) dX11_lost_39 2 rfl rfl ?_
        refine xx_ialdN (pc := 40) dX11_lost_40 sh_2 (by omega) (by decide) ?_
        refine xx_bipush (pc := 41) dX11_lost_41 cc_bipush_50 ?_
        refine xx_icmp_ltN (pc := 43) 54 dX11_lost_43 rfl (by omega) (by omega) (fun c25 => ?_) (fun c25 => ?_)
        · refine xx_aload_nP (pc := 54) dX11_lost_54 1 rfl rfl ?_
          refine xx_getR (pc := 55) 39 dX11_lost_55 sh_0 fX11_74_11 rfl rfl (by decide) ?_
          refine xx_aload_nP (pc := 58) dX11_lost_58 1 rfl rfl ?_
          refine xx_getR (pc := 59) 1 dX11_lost_59 sh_0 fX11_10_11 rfl rfl (by decide) ?_
          refine xx_callV0 (pc := 62) (st := []) sh_39 (cC_isOver (w := u) (m := 1) (s := t) Mo_1 hm_u hN_u hIn_u) kX5_isOver vX11_185_5 dX11_lost_62 rfl rfl (Nat.le_of_ble_eq_true rfl) ⟨Nat.le_of_ble_eq_true rfl, Nat.le_of_ble_eq_true rfl⟩ ⟨Nat.zero_le _, Nat.zero_le _⟩ (ic_ke ?_)
          refine xx_if_eqB (pc := 65) 71 dX11_lost_65 rfl (fun c26 => ?_) (fun c26 => ?_)
          · refine xx_aload_nP (pc := 71) dX11_lost_71 1 rfl rfl ?_
            refine xx_getR (pc := 72) 39 dX11_lost_72 sh_0 fX11_74_11 rfl rfl (by decide) ?_
            refine xx_aload_nP (pc := 75) dX11_lost_75 1 rfl rfl ?_
            refine xx_getR (pc := 76) 1 dX11_lost_76 sh_0 fX11_10_11 rfl rfl (by decide) ?_
            refine xx_aload_nP (pc := 79) dX11_lost_79 1 rfl rfl ?_
            refine xx_getR (pc := 80) 39 dX11_lost_80 sh_0 fX11_74_11 rfl rfl (by decide) ?_
            refine xx_aload_nP (pc := 83) dX11_lost_83 1 rfl rfl ?_
            refine xx_getR (pc := 84) 1 dX11_lost_84 sh_0 fX11_10_11 rfl rfl (by decide) ?_
            have x27 := mo_rest_le t
            refine xx_callV0 (pc := 87) (st := [ic_pt E 1, ic_pt E 39]) sh_39 (cC_actOfRest (w := u) (m := 1) (s := t)  Mo_1 hm_u hN_u hIn_u hRu_u) kX5_actOfRest vX11_216_5 dX11_lost_87 rfl rfl (Nat.le_of_ble_eq_true rfl) ⟨Nat.le_of_ble_eq_true rfl, Nat.le_of_ble_eq_true rfl⟩ ⟨Nat.zero_le _, Nat.zero_le _⟩ (ic_ki (fun v29 h_ qw28 => ?_))
            obtain ⟨rfl, w28, rfl, gw28⟩ := qw28
            have hN_w28 : Cn w28 t := hN_u.fs gw28
            have hm_w28 : Cs w28 1 t := hm_u.fs Mo_1 gw28
            have n1_w28 : w28 39 10 = t 0 := hN_w28.n
            have n2_w28 : w28 39 11 = t 2 := hN_w28.e
            have n3_w28 : w28 1 0 = t 1 := hm_w28.t
            have hwl_x30 := mo_worth_le hIn_u (act := mo_rest t) (by omega)
            refine xx_callV0 (pc := 90) (st := []) sh_39 (cC_goBy (w := w28) (m := 1) (act := mo_rest t) (s := t) Mo_1 hm_w28 hN_w28 hIn_u hRu_u (by omega)) kX5_goBy vX11_229_5 dX11_lost_90 rfl rfl (Nat.le_of_ble_eq_true rfl) ⟨Nat.le_of_ble_eq_true rfl, Nat.le_of_ble_eq_true rfl⟩ ⟨Nat.zero_le _, Nat.zero_le _⟩ (ic_ki (fun v32 h_ qw31 => ?_))
            obtain ⟨rfl, w31, rfl, gw31, hm_w31⟩ := qw31
            have hIn_w31 : In (mo_go t (mo_rest t)) := In_go hIn_u (by omega) (by omega)
            have hRu_w31 : Ru (mo_go t (mo_rest t)) := Ru_go hRu_u hIn_u (by omega)
            have hN_w31 : Cn w31 (mo_go t (mo_rest t)) := (hN_w28.fm Mo_1 gw31).go hIn_u (by omega)
            refine xx_pop (pc := 93) dX11_lost_93 rfl ?_
            refine xx_iincN (L' := [(2, .int (nI (i + 1))), (0, ic_pt E 0), (1, .int (nI k))]) (pc := 94) dX11_lost_94 0 rfl cc_iconst_1 (Nat.le_of_ble_eq_true rfl) rfl ?_
            refine xx_goto (pc := 97) 26 dX11_lost_97 rfl ?_
            have e2_ : mo_go t (mo_rest t) 2 = t 2 ∧ mo_go t (mo_rest t) 0 = t 0 := ⟨mo_go_r _ (by omega) (by omega) (by omega), mo_go_r _ (by omega) (by omega) (by omega)⟩
            have e1_ := mo_go_1 t (mo_rest t)
            exact xx_sub [0, 1, 2] rfl (ih_ (i + 1) (m - 1) _ w31 (by omega) (by rw [hq, show m = (m - 1) + 1 by omega, mo_run, if_neg (by unfold mo_pl mo_over; simp; omega), Nat.add_sub_cancel]) (by omega) hN_w31 hm_w31 hIn_w31 hRu_w31 (hf.tr ((gw28.p).tr (gw31.p (by omega)))) (by omega))
          · refine xx_bipush (pc := 68) dX11_lost_68 cc_bipush_m3 ?_
            exact xx_iret (pc := 70) dX11_lost_70 rfl (rfl) (Nat.le_refl _) (Nat.le_refl _) (ic_ri ⟨by rw [if_pos (by omega)]; unfold mo_lost; rw [show mo_run (mo_pl k) s 17 = t by rw [hq]; exact mo_run_p (by unfold mo_pl mo_over; simp; omega) (by omega), if_neg (by omega)], u, rfl, hf⟩)
        · refine xx_aload_nP (pc := 46) dX11_lost_46 1 rfl rfl ?_
          refine xx_getR (pc := 47) 1 dX11_lost_47 sh_0 fX11_10_11 rfl rfl (by decide) ?_
          refine xx_getN (pc := 50) dX11_lost_50 sh_1 fX11_137_4 rfl ?_
          exact xx_iret (pc := 53) dX11_lost_53 rfl (rfl) (Nat.le_refl _) (Nat.le_refl _) (ic_ri ⟨by rw [if_pos (by omega)]; unfold mo_lost; rw [show mo_run (mo_pl k) s 17 = t by rw [hq]; exact mo_run_p (by unfold mo_pl mo_over; simp; omega) (by omega), if_pos (by omega), n3_u], u, rfl, hf⟩)
    exact xx_sub [0, 1, 2] rfl (lp 19 0 17 s w2 (by omega) rfl (by omega) hN_w2 hm_w2 hIn hRu hf_w2 (by omega))
  · refine xx_iconst (pc := 8) dX11_lost_8 cc_iconst_m1 ?_
    exact xx_iret (pc := 9) dX11_lost_9 rfl (rfl) (Nat.le_refl _) (Nat.le_refl _) (ic_ri ⟨by rw [if_neg (by omega)], w, rfl, Fp.rf w⟩)

set_option maxHeartbeats 4000000 in
set_option maxRecDepth 100000 in
theorem cC_press {l : Launch} {E : ic_E} {w : ic_w} {n : Nat} (hn_ : n < 2 ^ 32) {a : Nat} (ha_ : a < 2 ^ 32) {s : Nat → Nat} (hC : Cw w s) (hIn : In s) (hRu : Ru s) : ic_C l E mX11_press 9 0 0 False [ic_pt E 0, .int (nI n), .int (nI a)] SHs (hn w) SHs (ic_qi (fun v_ h_ => v_ = nI (if n ≤ 16 ∧ a ≤ 1 then mo_press s n a else 4294967295) ∧ ∃ w2, h_ = hn w2 ∧ Fp w w2)) := by
  refine ic_intro (by decide +kernel) (Nat.le_of_ble_eq_true rfl) ?_
  show xx l E _ _ 0 [(0, ic_pt E 0), (1, .int (nI n)), (2, .int (nI a))] _ _ _
  have hN := hC.1
  have hm := hC.2.1
  have n5_w := hC.2.2.1
  have n6_w := hC.2.2.2
  have hn0 := hIn.n
  have htt := hIn.t
  have hcr := hIn.cr (s 1)
  have n1_w : w 39 10 = s 0 := hN.n
  have n2_w : w 39 11 = s 2 := hN.e
  have n3_w : w 46 0 = s 1 := hm.t
  have n4_w : w 46 1 = mo_outs s := hm.o
  refine xx_iload_n (pc := 0) dX11_press_0 1 rfl rfl ?_
  refine xx_iconst (pc := 1) dX11_press_1 cc_iconst_0 ?_
  refine xx_bipush (pc := 2) dX11_press_2 cc_bipush_16 ?_
  refine xx_callS0 (pc := 4) (st := []) (cC_within (w := w) (v := n) (lo := 0) (hi := 16) (by omega) (by omega) (by omega)) kX11_within sX11_94 dX11_press_4 rfl rfl (Nat.le_of_ble_eq_true rfl) ⟨Nat.le_of_ble_eq_true rfl, Nat.le_of_ble_eq_true rfl⟩ ⟨Nat.zero_le _, Nat.zero_le _⟩ (ic_ke ?_)
  refine xx_if_eqB (pc := 7) 19 dX11_press_7 rfl (fun c1 => ?_) (fun c1 => ?_)
  · refine xx_iconst (pc := 19) dX11_press_19 cc_iconst_m1 ?_
    exact xx_iret (pc := 20) dX11_press_20 rfl (rfl) (Nat.le_refl _) (Nat.le_refl _) (ic_ri ⟨by rw [if_neg (by omega)], w, rfl, Fp.rf w⟩)
  · refine xx_iload_n (pc := 10) dX11_press_10 2 rfl rfl ?_
    refine xx_iconst (pc := 11) dX11_press_11 cc_iconst_0 ?_
    refine xx_iconst (pc := 12) dX11_press_12 cc_iconst_1 ?_
    refine xx_callS0 (pc := 13) (st := []) (cC_within (w := w) (v := a) (lo := 0) (hi := 1) (by omega) (by omega) (by omega)) kX11_within sX11_94 dX11_press_13 rfl rfl (Nat.le_of_ble_eq_true rfl) ⟨Nat.le_of_ble_eq_true rfl, Nat.le_of_ble_eq_true rfl⟩ ⟨Nat.zero_le _, Nat.zero_le _⟩ (ic_ke ?_)
    refine xx_if_neB (pc := 16) 21 dX11_press_16 rfl (fun c2 => ?_) (fun c2 => ?_)
    · refine xx_aload_nP (pc := 21) dX11_press_21 0 rfl rfl ?_
      refine xx_iload_n (pc := 22) dX11_press_22 1 rfl rfl ?_
      have hon_x3 := mo_on_le (s := s) n s hIn hRu
      refine xx_callV0 (pc := 23) (st := []) sh_0 (cC_tryRest (w := w) (n := n) (s := s) hC hIn hRu (by omega)) kX11_tryRest vX11_223_11 dX11_press_23 rfl rfl (Nat.le_of_ble_eq_true rfl) ⟨Nat.le_of_ble_eq_true rfl, Nat.le_of_ble_eq_true rfl⟩ ⟨Nat.zero_le _, Nat.zero_le _⟩ (ic_ki (fun v5 h_ qw4 => ?_))
      obtain ⟨rfl, w4, rfl, hf_w4, ht_w4, hT_w4, hIt_w4⟩ := qw4
      refine xx_pop (pc := 26) dX11_press_26 rfl ?_
      refine xx_aload_nP (pc := 27) dX11_press_27 0 rfl rfl ?_
      refine xx_getR (pc := 28) 39 dX11_press_28 sh_0 fX11_74_11 rfl rfl (by decide) ?_
      refine xx_aload_nP (pc := 31) dX11_press_31 0 rfl rfl ?_
      refine xx_getR (pc := 32) 1 dX11_press_32 sh_0 fX11_10_11 rfl rfl (by decide) ?_
      have hal_ := mo_am_le (mo_many (mo_itn s n)) 5
      refine xx_callV0 (pc := 35) (st := []) sh_39 (cC_fullest (w := w4) (m := 1) (s := mo_itn s n) Mo_1 ht_w4 hT_w4 hIt_w4) kX5_fullest vX11_246_5 dX11_press_35 rfl rfl (Nat.le_of_ble_eq_true rfl) ⟨Nat.le_of_ble_eq_true rfl, Nat.le_of_ble_eq_true rfl⟩ ⟨Nat.zero_le _, Nat.zero_le _⟩ (ic_ki (fun v7 h_ qw6 => ?_))
      obtain ⟨rfl, w6, rfl, gw6, cw6⟩ := qw6
      have hf_w6 := hf_w4.tr gw6.p
      refine xx_istore_n (L' := [(3, .int (nI (mo_am (mo_many (mo_itn s n)) 5))), (0, ic_pt E 0), (1, .int (nI n)), (2, .int (nI a))]) (pc := 38) dX11_press_38 rfl (Nat.le_of_ble_eq_true rfl) rfl ?_
      refine xx_iload_n (pc := 39) dX11_press_39 3 rfl rfl ?_
      refine xx_if_neN (pc := 40) 47 dX11_press_40 rfl (by omega) (fun c8 => ?_) (fun c8 => ?_)
      · refine xx_aload_nP (pc := 47) dX11_press_47 1 rfl rfl ?_
        refine xx_getR (pc := 48) 39 dX11_press_48 sh_0 fX11_74_11 rfl rfl (by decide) ?_
        refine xx_getR (pc := 51) 65 dX11_press_51 sh_39 fX11_249_5 rfl rfl (by decide) ?_
        refine xx_iload_n (pc := 54) dX11_press_54 0 rfl rfl ?_
        refine xx_ialdN (pc := 55) dX11_press_55 sh_65 (by omega) (by decide) ?_
        exact xx_iret (pc := 56) dX11_press_56 rfl (rfl) (Nat.le_refl _) (Nat.le_refl _) (ic_ri ⟨by rw [if_pos (by omega)]; unfold mo_press; first | exact congrArg nI (if_pos (by omega)).symm | (rw [if_neg (by omega)]; exact congrArg nI (cw6 _ (by omega))), w6, rfl, hf_w6⟩)
      · refine xx_iload_n (pc := 43) dX11_press_43 0 rfl rfl ?_
        refine xx_goto (pc := 44) 56 dX11_press_44 rfl ?_
        exact xx_iret (pc := 56) dX11_press_56 rfl (rfl) (Nat.le_refl _) (Nat.le_refl _) (ic_ri ⟨by rw [if_pos (by omega)]; unfold mo_press; first | exact congrArg nI (if_pos (by omega)).symm | (rw [if_neg (by omega)]; exact congrArg nI (cw6 _ (by omega))), w6, rfl, hf_w6⟩)
    · refine xx_iconst (pc := 19) dX11_press_19 cc_iconst_m1 ?_
      exact xx_iret (pc := 20) dX11_press_20 rfl (rfl) (Nat.le_refl _) (Nat.le_refl _) (ic_ri ⟨by rw [if_neg (by omega)], w, rfl, Fp.rf w⟩)

set_option maxHeartbeats 4000000 in
set_option maxRecDepth 100000 in
theorem cC_bestFor2 {l : Launch} {E : ic_E} {w : ic_w} {k : Nat} {s : Nat → Nat} (hC : Cw w s) (hIn : In s) (hRu : Ru s) (hk : k < s 0) : ic_C l E mX11_bestFor 9 0 0 False [ic_pt E 0, .int (nI k), ic_pt E 44, .int (nI 9)] SHs (hn w) SHs (ic_qi (fun v_ h_ => v_ = nI (mo_bv s k 2) ∧ ∃ w2, h_ = hn w2 ∧ Fp w w2)) := by
  refine ic_intro (by decide +kernel) (Nat.le_of_ble_eq_true rfl) ?_
  show xx l E _ _ 0 [(0, ic_pt E 0), (1, .int (nI k)), (2, ic_pt E 44), (3, .int (nI 9))] _ _ _
  have hN := hC.1
  have hm := hC.2.1
  have n5_w := hC.2.2.1
  have n6_w := hC.2.2.2
  have hn0 := hIn.n
  have htt := hIn.t
  have hcr := hIn.cr (s 1)
  have n1_w : w 39 10 = s 0 := hN.n
  have n2_w : w 39 11 = s 2 := hN.e
  have n3_w : w 46 0 = s 1 := hm.t
  have n4_w : w 46 1 = mo_outs s := hm.o
  refine xx_aload_nP (pc := 0) dX11_bestFor_0 2 rfl rfl ?_
  refine xx_iload_n (pc := 1) dX11_bestFor_1 1 rfl rfl ?_
  refine xx_ialdN (pc := 2) dX11_bestFor_2 sh_44 (by omega) (by decide) ?_
  refine xx_istore (L' := [(4, .int (nI (w 44 k))), (0, ic_pt E 0), (1, .int (nI k)), (2, ic_pt E 44), (3, .int (nI 9))]) (pc := 3) dX11_bestFor_3 (Nat.le_of_ble_eq_true rfl) rfl ?_
  refine xx_iconst (pc := 5) dX11_bestFor_5 cc_iconst_m1 ?_
  refine xx_istore (L' := [(5, .int (nI 4294967295)), (4, .int (nI (w 44 k))), (0, ic_pt E 0), (1, .int (nI k)), (2, ic_pt E 44), (3, .int (nI 9))]) (pc := 6) dX11_bestFor_6 (Nat.le_of_ble_eq_true rfl) rfl ?_
  refine xx_iconst (pc := 8) dX11_bestFor_8 cc_iconst_0 ?_
  refine xx_istore (L' := [(6, .int (nI 0)), (5, .int (nI 4294967295)), (4, .int (nI (w 44 k))), (0, ic_pt E 0), (1, .int (nI k)), (2, ic_pt E 44), (3, .int (nI 9))]) (pc := 9) dX11_bestFor_9 (Nat.le_of_ble_eq_true rfl) rfl ?_
  refine xx_iconst (pc := 11) dX11_bestFor_11 cc_iconst_0 ?_
  refine xx_istore (L' := [(7, .int (nI 0)), (6, .int (nI 0)), (5, .int (nI 4294967295)), (4, .int (nI (w 44 k))), (0, ic_pt E 0), (1, .int (nI k)), (2, ic_pt E 44), (3, .int (nI 9))]) (pc := 12) dX11_bestFor_12 (Nat.le_of_ble_eq_true rfl) rfl ?_
  refine xx_iload (pc := 14) dX11_bestFor_14 0 rfl ?_
  refine xx_iload_n (pc := 16) dX11_bestFor_16 7 rfl rfl ?_
  refine xx_icmp_gtN (pc := 17) 54 dX11_bestFor_17 rfl (by omega) (by omega) (fun c1 => by exfalso; omega) (fun c1 => ?_)
  refine xx_aload_nP (pc := 20) dX11_bestFor_20 6 rfl rfl ?_
  refine xx_iload_n (pc := 21) dX11_bestFor_21 5 rfl rfl ?_
  refine xx_iload (pc := 22) dX11_bestFor_22 0 rfl ?_
  refine xx_iastN (pc := 24) dX11_bestFor_24 sh_44 (by omega) (by decide) ?_
  refine xx_nw (fun w2 ew2 => ?_)
  have fq_ : Fp (wu w 44 k 0) w2 := by rw [ew2]; exact Fp.rf _
  have hC_w2 : Cw w2 (fu s (8 + 6 * k + 2) 0) := (show Cw (wu w 44 k 0) (fu s (8 + 6 * k + 2) 0) by rw [show 8 + 6 * k + 2 = 10 + 6 * k by omega]; exact hC.up hIn (Lc_2 hk) (by omega) (by omega)).fp fq_
  have hInf : In (fu s (8 + 6 * k + 2) 0) := In_fu hIn (by omega) (by omega) (by show 0 ≤ 9; omega)
  have hRuf : Ru (fu s (8 + 6 * k + 2) 0) := Ru_fu hRu (by omega)
  have hvl : mo_on (fu s (8 + 6 * k + 2) 0) 16 = mo_vf s k 2 0 := rfl
  refine xx_aload_nP (pc := 25) dX11_bestFor_25 4 rfl rfl ?_
  refine xx_bipush (pc := 26) dX11_bestFor_26 cc_bipush_16 ?_
  have hon_x3 := mo_on_le (s := (fu s (8 + 6 * k + 2) 0)) 16 (fu s (8 + 6 * k + 2) 0) hInf hRuf
  refine xx_callV0 (pc := 28) (st := []) sh_0 (cC_tryRest (w := w2) (n := 16) (s := (fu s (8 + 6 * k + 2) 0)) hC_w2 hInf hRuf (by omega)) kX11_tryRest vX11_223_11 dX11_bestFor_28 rfl rfl (Nat.le_of_ble_eq_true rfl) ⟨Nat.le_of_ble_eq_true rfl, Nat.le_of_ble_eq_true rfl⟩ ⟨Nat.zero_le _, Nat.zero_le _⟩ (ic_ki (fun v5 h_ qw4 => ?_))
  obtain ⟨rfl, w4, rfl, hf_w4, ht_w4, hT_w4, hIt_w4⟩ := qw4
  refine xx_istore (L' := [(8, .int (nI (mo_on ((fu s (8 + 6 * k + 2) 0)) 16))), (7, .int (nI 0)), (6, .int (nI 0)), (5, .int (nI 4294967295)), (4, .int (nI (w 44 k))), (0, ic_pt E 0), (1, .int (nI k)), (2, ic_pt E 44), (3, .int (nI 9))]) (pc := 31) dX11_bestFor_31 (Nat.le_of_ble_eq_true rfl) rfl ?_
  refine xx_iload (pc := 33) dX11_bestFor_33 0 rfl ?_
  refine xx_iload (pc := 35) dX11_bestFor_35 3 rfl ?_
  refine xx_icmp_leZ (pc := 37) 48 dX11_bestFor_37 rfl (by omega) (by omega) (fun c6 => by exfalso; omega) (fun c6 => ?_)
  refine xx_iload (pc := 40) dX11_bestFor_40 0 rfl ?_
  refine xx_istore (L' := [(5, .int (nI (mo_on ((fu s (8 + 6 * k + 2) 0)) 16))), (8, .int (nI (mo_on ((fu s (8 + 6 * k + 2) 0)) 16))), (7, .int (nI 0)), (6, .int (nI 0)), (4, .int (nI (w 44 k))), (0, ic_pt E 0), (1, .int (nI k)), (2, ic_pt E 44), (3, .int (nI 9))]) (pc := 42) dX11_bestFor_42 (Nat.le_of_ble_eq_true rfl) rfl ?_
  refine xx_iload (pc := 44) dX11_bestFor_44 2 rfl ?_
  refine xx_istore (L' := [(6, .int (nI 0)), (5, .int (nI (mo_on ((fu s (8 + 6 * k + 2) 0)) 16))), (8, .int (nI (mo_on ((fu s (8 + 6 * k + 2) 0)) 16))), (7, .int (nI 0)), (4, .int (nI (w 44 k))), (0, ic_pt E 0), (1, .int (nI k)), (2, ic_pt E 44), (3, .int (nI 9))]) (pc := 46) dX11_bestFor_46 (Nat.le_of_ble_eq_true rfl) rfl ?_
  refine xx_iincN (L' := [(7, .int (nI 1)), (6, .int (nI 0)), (5, .int (nI (mo_on ((fu s (8 + 6 * k + 2) 0)) 16))), (8, .int (nI (mo_on ((fu s (8 + 6 * k + 2) 0)) 16))), (4, .int (nI (w 44 k))), (0, ic_pt E 0), (1, .int (nI k)), (2, ic_pt E 44), (3, .int (nI 9))]) (pc := 48) dX11_bestFor_48 3 rfl cc_iconst_1 (Nat.le_of_ble_eq_true rfl) rfl ?_
  refine xx_goto (pc := 51) 14 dX11_bestFor_51 rfl ?_
  have lp : ∀ (n_ : Nat) (v bs ms : Nat) (u : ic_w), 1 ≤ v ∧ v ≤ 10 → bs = mo_am (mo_vf s k 2) (v - 1) → ms = (mo_vf s k 2) bs → (∃ x, Fp (wu w 44 k x) u) → 10 - v < n_ → xx l E (ic_fr E mX11_bestFor 9 0 0 False SHs (ic_qi (fun v_ h_ => v_ = nI (mo_bv s k 2) ∧ ∃ w2, h_ = hn w2 ∧ Fp w w2))) (0, 0) 14 [(7, .int (nI v)), (6, .int (nI bs)), (5, .int (nI ms)), (4, .int (nI (w 44 k))), (0, ic_pt E 0), (1, .int (nI k)), (2, ic_pt E 44), (3, .int (nI 9))] [] SHs (hn u) := by
    intro n_
    induction n_ with
    | zero => intro v bs ms u h1 hb hms hf hm_; exact absurd hm_ (Nat.not_lt_zero _)
    | succ n_ ih_ =>
      intro v bs ms u h1 hb hms hf hm_
      obtain ⟨x_, hfx⟩ := hf
      have hbl := mo_am_le (mo_vf s k 2) (v - 1)
      have hvf := mo_vf_le hIn hRu (o := k) (k := 2) (v := bs) (by omega) (by omega) (by show bs ≤ 9; omega)
      refine xx_iload (pc := 14) dX11_bestFor_14 0 rfl ?_
      refine xx_iload_n (pc := 16) dX11_bestFor_16 7 rfl rfl ?_
      refine xx_icmp_gtN (pc := 17) 54 dX11_bestFor_17 rfl (by omega) (by omega) (fun c27 => ?_) (fun c27 => ?_)
      · refine xx_aload_nP (pc := 54) dX11_bestFor_54 6 rfl rfl ?_
        refine xx_iload_n (pc := 55) dX11_bestFor_55 5 rfl rfl ?_
        refine xx_iload (pc := 56) dX11_bestFor_56 3 rfl ?_
        refine xx_iastN (pc := 58) dX11_bestFor_58 sh_44 (by omega) (by decide) ?_
        refine xx_nw (fun w28 ew28 => ?_)
        refine xx_iload (pc := 59) dX11_bestFor_59 1 rfl ?_
        exact xx_iret (pc := 61) dX11_bestFor_61 rfl (rfl) (Nat.le_refl _) (Nat.le_refl _) (ic_ri ⟨by rw [hb, show v - 1 = 9 by omega]; rfl, w28, rfl, by rw [ew28]; exact hfx.back (by omega)⟩)
      · refine xx_aload_nP (pc := 20) dX11_bestFor_20 6 rfl rfl ?_
        refine xx_iload_n (pc := 21) dX11_bestFor_21 5 rfl rfl ?_
        refine xx_iload (pc := 22) dX11_bestFor_22 0 rfl ?_
        refine xx_iastN (pc := 24) dX11_bestFor_24 sh_44 (by omega) (by decide) ?_
        refine xx_nw (fun w29 ew29 => ?_)
        have fq_ : Fp (wu w 44 k v) w29 := by rw [ew29]; exact hfx.up (by omega)
        have hC_w29 : Cw w29 (fu s (8 + 6 * k + 2) v) := (show Cw (wu w 44 k v) (fu s (8 + 6 * k + 2) v) by rw [show 8 + 6 * k + 2 = 10 + 6 * k by omega]; exact hC.up hIn (Lc_2 hk) (by omega) (by omega)).fp fq_
        have hInf : In (fu s (8 + 6 * k + 2) v) := In_fu hIn (by omega) (by omega) (by show v ≤ 9; omega)
        have hRuf : Ru (fu s (8 + 6 * k + 2) v) := Ru_fu hRu (by omega)
        have hvl : mo_on (fu s (8 + 6 * k + 2) v) 16 = mo_vf s k 2 v := rfl
        refine xx_aload_nP (pc := 25) dX11_bestFor_25 4 rfl rfl ?_
        refine xx_bipush (pc := 26) dX11_bestFor_26 cc_bipush_16 ?_
        have hon_x30 := mo_on_le (s := (fu s (8 + 6 * k + 2) v)) 16 (fu s (8 + 6 * k + 2) v) hInf hRuf
        refine xx_callV0 (pc := 28) (st := []) sh_0 (cC_tryRest (w := w29) (n := 16) (s := (fu s (8 + 6 * k + 2) v)) hC_w29 hInf hRuf (by omega)) kX11_tryRest vX11_223_11 dX11_bestFor_28 rfl rfl (Nat.le_of_ble_eq_true rfl) ⟨Nat.le_of_ble_eq_true rfl, Nat.le_of_ble_eq_true rfl⟩ ⟨Nat.zero_le _, Nat.zero_le _⟩ (ic_ki (fun v32 h_ qw31 => ?_))
        obtain ⟨rfl, w31, rfl, hf_w31, ht_w31, hT_w31, hIt_w31⟩ := qw31
        refine xx_istore (L' := [(8, .int (nI (mo_on ((fu s (8 + 6 * k + 2) v)) 16))), (7, .int (nI v)), (6, .int (nI bs)), (5, .int (nI ms)), (4, .int (nI (w 44 k))), (0, ic_pt E 0), (1, .int (nI k)), (2, ic_pt E 44), (3, .int (nI 9))]) (pc := 31) dX11_bestFor_31 (Nat.le_of_ble_eq_true rfl) rfl ?_
        refine xx_iload (pc := 33) dX11_bestFor_33 0 rfl ?_
        refine xx_iload (pc := 35) dX11_bestFor_35 3 rfl ?_
        refine xx_icmp_leN (pc := 37) 48 dX11_bestFor_37 rfl (by omega) (by omega) (fun c33 => ?_) (fun c33 => ?_)
        · refine xx_iincN (L' := [(7, .int (nI (v + 1))), (8, .int (nI (mo_on ((fu s (8 + 6 * k + 2) v)) 16))), (6, .int (nI bs)), (5, .int (nI ms)), (4, .int (nI (w 44 k))), (0, ic_pt E 0), (1, .int (nI k)), (2, ic_pt E 44), (3, .int (nI 9))]) (pc := 48) dX11_bestFor_48 1 rfl cc_iconst_1 (Nat.le_of_ble_eq_true rfl) rfl ?_
          refine xx_goto (pc := 51) 14 dX11_bestFor_51 rfl ?_
          exact xx_sub [0, 2, 3, 4, 5, 6, 7, 8] rfl (ih_ (v + 1) bs _ w31 (by omega) (by rw [show v + 1 - 1 = (v - 1) + 1 by omega, mo_am, ← hb, show v - 1 + 1 = v by omega, if_neg (by omega)]) hms (fq_.tr hf_w31 |> fun z => ⟨_, z⟩) (by omega))
        · refine xx_iload (pc := 40) dX11_bestFor_40 0 rfl ?_
          refine xx_istore (L' := [(5, .int (nI (mo_on ((fu s (8 + 6 * k + 2) v)) 16))), (8, .int (nI (mo_on ((fu s (8 + 6 * k + 2) v)) 16))), (7, .int (nI v)), (6, .int (nI bs)), (4, .int (nI (w 44 k))), (0, ic_pt E 0), (1, .int (nI k)), (2, ic_pt E 44), (3, .int (nI 9))]) (pc := 42) dX11_bestFor_42 (Nat.le_of_ble_eq_true rfl) rfl ?_
          refine xx_iload (pc := 44) dX11_bestFor_44 2 rfl ?_
          refine xx_istore (L' := [(6, .int (nI v)), (5, .int (nI (mo_on ((fu s (8 + 6 * k + 2) v)) 16))), (8, .int (nI (mo_on ((fu s (8 + 6 * k + 2) v)) 16))), (7, .int (nI v)), (4, .int (nI (w 44 k))), (0, ic_pt E 0), (1, .int (nI k)), (2, ic_pt E 44), (3, .int (nI 9))]) (pc := 46) dX11_bestFor_46 (Nat.le_of_ble_eq_true rfl) rfl ?_
          refine xx_iincN (L' := [(7, .int (nI (v + 1))), (6, .int (nI v)), (5, .int (nI (mo_on ((fu s (8 + 6 * k + 2) v)) 16))), (8, .int (nI (mo_on ((fu s (8 + 6 * k + 2) v)) 16))), (4, .int (nI (w 44 k))), (0, ic_pt E 0), (1, .int (nI k)), (2, ic_pt E 44), (3, .int (nI 9))]) (pc := 48) dX11_bestFor_48 3 rfl cc_iconst_1 (Nat.le_of_ble_eq_true rfl) rfl ?_
          refine xx_goto (pc := 51) 14 dX11_bestFor_51 rfl ?_
          exact xx_sub [0, 1, 2, 4, 5, 6, 7, 8] rfl (ih_ (v + 1) v _ w31 (by omega) (by rw [show v + 1 - 1 = (v - 1) + 1 by omega, mo_am, ← hb, show v - 1 + 1 = v by omega, if_pos (by omega)]) (by omega) (fq_.tr hf_w31 |> fun z => ⟨_, z⟩) (by omega))
  exact xx_sub [0, 1, 2, 4, 5, 6, 7, 8] rfl (lp 10 1 0 _ w4 (by omega) rfl rfl (fq_.tr hf_w4 |> fun z => ⟨_, z⟩) (by omega))

set_option maxHeartbeats 4000000 in
set_option maxRecDepth 100000 in
theorem cC_bestFor3 {l : Launch} {E : ic_E} {w : ic_w} {k : Nat} {s : Nat → Nat} (hC : Cw w s) (hIn : In s) (hRu : Ru s) (hk : k < s 0) : ic_C l E mX11_bestFor 9 0 0 False [ic_pt E 0, .int (nI k), ic_pt E 45, .int (nI 5)] SHs (hn w) SHs (ic_qi (fun v_ h_ => v_ = nI (mo_bv s k 3) ∧ ∃ w2, h_ = hn w2 ∧ Fp w w2)) := by
  refine ic_intro (by decide +kernel) (Nat.le_of_ble_eq_true rfl) ?_
  show xx l E _ _ 0 [(0, ic_pt E 0), (1, .int (nI k)), (2, ic_pt E 45), (3, .int (nI 5))] _ _ _
  have hN := hC.1
  have hm := hC.2.1
  have n5_w := hC.2.2.1
  have n6_w := hC.2.2.2
  have hn0 := hIn.n
  have htt := hIn.t
  have hcr := hIn.cr (s 1)
  have n1_w : w 39 10 = s 0 := hN.n
  have n2_w : w 39 11 = s 2 := hN.e
  have n3_w : w 46 0 = s 1 := hm.t
  have n4_w : w 46 1 = mo_outs s := hm.o
  refine xx_aload_nP (pc := 0) dX11_bestFor_0 2 rfl rfl ?_
  refine xx_iload_n (pc := 1) dX11_bestFor_1 1 rfl rfl ?_
  refine xx_ialdN (pc := 2) dX11_bestFor_2 sh_45 (by omega) (by decide) ?_
  refine xx_istore (L' := [(4, .int (nI (w 45 k))), (0, ic_pt E 0), (1, .int (nI k)), (2, ic_pt E 45), (3, .int (nI 5))]) (pc := 3) dX11_bestFor_3 (Nat.le_of_ble_eq_true rfl) rfl ?_
  refine xx_iconst (pc := 5) dX11_bestFor_5 cc_iconst_m1 ?_
  refine xx_istore (L' := [(5, .int (nI 4294967295)), (4, .int (nI (w 45 k))), (0, ic_pt E 0), (1, .int (nI k)), (2, ic_pt E 45), (3, .int (nI 5))]) (pc := 6) dX11_bestFor_6 (Nat.le_of_ble_eq_true rfl) rfl ?_
  refine xx_iconst (pc := 8) dX11_bestFor_8 cc_iconst_0 ?_
  refine xx_istore (L' := [(6, .int (nI 0)), (5, .int (nI 4294967295)), (4, .int (nI (w 45 k))), (0, ic_pt E 0), (1, .int (nI k)), (2, ic_pt E 45), (3, .int (nI 5))]) (pc := 9) dX11_bestFor_9 (Nat.le_of_ble_eq_true rfl) rfl ?_
  refine xx_iconst (pc := 11) dX11_bestFor_11 cc_iconst_0 ?_
  refine xx_istore (L' := [(7, .int (nI 0)), (6, .int (nI 0)), (5, .int (nI 4294967295)), (4, .int (nI (w 45 k))), (0, ic_pt E 0), (1, .int (nI k)), (2, ic_pt E 45), (3, .int (nI 5))]) (pc := 12) dX11_bestFor_12 (Nat.le_of_ble_eq_true rfl) rfl ?_
  refine xx_iload (pc := 14) dX11_bestFor_14 0 rfl ?_
  refine xx_iload_n (pc := 16) dX11_bestFor_16 7 rfl rfl ?_
  refine xx_icmp_gtN (pc := 17) 54 dX11_bestFor_17 rfl (by omega) (by omega) (fun c1 => by exfalso; omega) (fun c1 => ?_)
  refine xx_aload_nP (pc := 20) dX11_bestFor_20 6 rfl rfl ?_
  refine xx_iload_n (pc := 21) dX11_bestFor_21 5 rfl rfl ?_
  refine xx_iload (pc := 22) dX11_bestFor_22 0 rfl ?_
  refine xx_iastN (pc := 24) dX11_bestFor_24 sh_45 (by omega) (by decide) ?_
  refine xx_nw (fun w2 ew2 => ?_)
  have fq_ : Fp (wu w 45 k 0) w2 := by rw [ew2]; exact Fp.rf _
  have hC_w2 : Cw w2 (fu s (8 + 6 * k + 3) 0) := (show Cw (wu w 45 k 0) (fu s (8 + 6 * k + 3) 0) by rw [show 8 + 6 * k + 3 = 11 + 6 * k by omega]; exact hC.up hIn (Lc_3 hk) (by omega) (by omega)).fp fq_
  have hInf : In (fu s (8 + 6 * k + 3) 0) := In_fu hIn (by omega) (by omega) (by show 0 ≤ 5; omega)
  have hRuf : Ru (fu s (8 + 6 * k + 3) 0) := Ru_fu hRu (by omega)
  have hvl : mo_on (fu s (8 + 6 * k + 3) 0) 16 = mo_vf s k 3 0 := rfl
  refine xx_aload_nP (pc := 25) dX11_bestFor_25 4 rfl rfl ?_
  refine xx_bipush (pc := 26) dX11_bestFor_26 cc_bipush_16 ?_
  have hon_x3 := mo_on_le (s := (fu s (8 + 6 * k + 3) 0)) 16 (fu s (8 + 6 * k + 3) 0) hInf hRuf
  refine xx_callV0 (pc := 28) (st := []) sh_0 (cC_tryRest (w := w2) (n := 16) (s := (fu s (8 + 6 * k + 3) 0)) hC_w2 hInf hRuf (by omega)) kX11_tryRest vX11_223_11 dX11_bestFor_28 rfl rfl (Nat.le_of_ble_eq_true rfl) ⟨Nat.le_of_ble_eq_true rfl, Nat.le_of_ble_eq_true rfl⟩ ⟨Nat.zero_le _, Nat.zero_le _⟩ (ic_ki (fun v5 h_ qw4 => ?_))
  obtain ⟨rfl, w4, rfl, hf_w4, ht_w4, hT_w4, hIt_w4⟩ := qw4
  refine xx_istore (L' := [(8, .int (nI (mo_on ((fu s (8 + 6 * k + 3) 0)) 16))), (7, .int (nI 0)), (6, .int (nI 0)), (5, .int (nI 4294967295)), (4, .int (nI (w 45 k))), (0, ic_pt E 0), (1, .int (nI k)), (2, ic_pt E 45), (3, .int (nI 5))]) (pc := 31) dX11_bestFor_31 (Nat.le_of_ble_eq_true rfl) rfl ?_
  refine xx_iload (pc := 33) dX11_bestFor_33 0 rfl ?_
  refine xx_iload (pc := 35) dX11_bestFor_35 3 rfl ?_
  refine xx_icmp_leZ (pc := 37) 48 dX11_bestFor_37 rfl (by omega) (by omega) (fun c6 => by exfalso; omega) (fun c6 => ?_)
  refine xx_iload (pc := 40) dX11_bestFor_40 0 rfl ?_
  refine xx_istore (L' := [(5, .int (nI (mo_on ((fu s (8 + 6 * k + 3) 0)) 16))), (8, .int (nI (mo_on ((fu s (8 + 6 * k + 3) 0)) 16))), (7, .int (nI 0)), (6, .int (nI 0)), (4, .int (nI (w 45 k))), (0, ic_pt E 0), (1, .int (nI k)), (2, ic_pt E 45), (3, .int (nI 5))]) (pc := 42) dX11_bestFor_42 (Nat.le_of_ble_eq_true rfl) rfl ?_
  refine xx_iload (pc := 44) dX11_bestFor_44 2 rfl ?_
  refine xx_istore (L' := [(6, .int (nI 0)), (5, .int (nI (mo_on ((fu s (8 + 6 * k + 3) 0)) 16))), (8, .int (nI (mo_on ((fu s (8 + 6 * k + 3) 0)) 16))), (7, .int (nI 0)), (4, .int (nI (w 45 k))), (0, ic_pt E 0), (1, .int (nI k)), (2, ic_pt E 45), (3, .int (nI 5))]) (pc := 46) dX11_bestFor_46 (Nat.le_of_ble_eq_true rfl) rfl ?_
  refine xx_iincN (L' := [(7, .int (nI 1)), (6, .int (nI 0)), (5, .int (nI (mo_on ((fu s (8 + 6 * k + 3) 0)) 16))), (8, .int (nI (mo_on ((fu s (8 + 6 * k + 3) 0)) 16))), (4, .int (nI (w 45 k))), (0, ic_pt E 0), (1, .int (nI k)), (2, ic_pt E 45), (3, .int (nI 5))]) (pc := 48) dX11_bestFor_48 3 rfl cc_iconst_1 (Nat.le_of_ble_eq_true rfl) rfl ?_
  refine xx_goto (pc := 51) 14 dX11_bestFor_51 rfl ?_
  have lp : ∀ (n_ : Nat) (v bs ms : Nat) (u : ic_w), 1 ≤ v ∧ v ≤ 6 → bs = mo_am (mo_vf s k 3) (v - 1) → ms = (mo_vf s k 3) bs → (∃ x, Fp (wu w 45 k x) u) → 6 - v < n_ → xx l E (ic_fr E mX11_bestFor 9 0 0 False SHs (ic_qi (fun v_ h_ => v_ = nI (mo_bv s k 3) ∧ ∃ w2, h_ = hn w2 ∧ Fp w w2))) (0, 0) 14 [(7, .int (nI v)), (6, .int (nI bs)), (5, .int (nI ms)), (4, .int (nI (w 45 k))), (0, ic_pt E 0), (1, .int (nI k)), (2, ic_pt E 45), (3, .int (nI 5))] [] SHs (hn u) := by
    intro n_
    induction n_ with
    | zero => intro v bs ms u h1 hb hms hf hm_; exact absurd hm_ (Nat.not_lt_zero _)
    | succ n_ ih_ =>
      intro v bs ms u h1 hb hms hf hm_
      obtain ⟨x_, hfx⟩ := hf
      have hbl := mo_am_le (mo_vf s k 3) (v - 1)
      have hvf := mo_vf_le hIn hRu (o := k) (k := 3) (v := bs) (by omega) (by omega) (by show bs ≤ 5; omega)
      refine xx_iload (pc := 14) dX11_bestFor_14 0 rfl ?_
      refine xx_iload_n (pc := 16) dX11_bestFor_16 7 rfl rfl ?_
      refine xx_icmp_gtN (pc := 17) 54 dX11_bestFor_17 rfl (by omega) (by omega) (fun c27 => ?_) (fun c27 => ?_)
      · refine xx_aload_nP (pc := 54) dX11_bestFor_54 6 rfl rfl ?_
        refine xx_iload_n (pc := 55) dX11_bestFor_55 5 rfl rfl ?_
        refine xx_iload (pc := 56) dX11_bestFor_56 3 rfl ?_
        refine xx_iastN (pc := 58) dX11_bestFor_58 sh_45 (by omega) (by decide) ?_
        refine xx_nw (fun w28 ew28 => ?_)
        refine xx_iload (pc := 59) dX11_bestFor_59 1 rfl ?_
        exact xx_iret (pc := 61) dX11_bestFor_61 rfl (rfl) (Nat.le_refl _) (Nat.le_refl _) (ic_ri ⟨by rw [hb, show v - 1 = 5 by omega]; rfl, w28, rfl, by rw [ew28]; exact hfx.back (by omega)⟩)
      · refine xx_aload_nP (pc := 20) dX11_bestFor_20 6 rfl rfl ?_
        refine xx_iload_n (pc := 21) dX11_bestFor_21 5 rfl rfl ?_
        refine xx_iload (pc := 22) dX11_bestFor_22 0 rfl ?_
        refine xx_iastN (pc := 24) dX11_bestFor_24 sh_45 (by omega) (by decide) ?_
        refine xx_nw (fun w29 ew29 => ?_)
        have fq_ : Fp (wu w 45 k v) w29 := by rw [ew29]; exact hfx.up (by omega)
        have hC_w29 : Cw w29 (fu s (8 + 6 * k + 3) v) := (show Cw (wu w 45 k v) (fu s (8 + 6 * k + 3) v) by rw [show 8 + 6 * k + 3 = 11 + 6 * k by omega]; exact hC.up hIn (Lc_3 hk) (by omega) (by omega)).fp fq_
        have hInf : In (fu s (8 + 6 * k + 3) v) := In_fu hIn (by omega) (by omega) (by show v ≤ 5; omega)
        have hRuf : Ru (fu s (8 + 6 * k + 3) v) := Ru_fu hRu (by omega)
        have hvl : mo_on (fu s (8 + 6 * k + 3) v) 16 = mo_vf s k 3 v := rfl
        refine xx_aload_nP (pc := 25) dX11_bestFor_25 4 rfl rfl ?_
        refine xx_bipush (pc := 26) dX11_bestFor_26 cc_bipush_16 ?_
        have hon_x30 := mo_on_le (s := (fu s (8 + 6 * k + 3) v)) 16 (fu s (8 + 6 * k + 3) v) hInf hRuf
        refine xx_callV0 (pc := 28) (st := []) sh_0 (cC_tryRest (w := w29) (n := 16) (s := (fu s (8 + 6 * k + 3) v)) hC_w29 hInf hRuf (by omega)) kX11_tryRest vX11_223_11 dX11_bestFor_28 rfl rfl (Nat.le_of_ble_eq_true rfl) ⟨Nat.le_of_ble_eq_true rfl, Nat.le_of_ble_eq_true rfl⟩ ⟨Nat.zero_le _, Nat.zero_le _⟩ (ic_ki (fun v32 h_ qw31 => ?_))
        obtain ⟨rfl, w31, rfl, hf_w31, ht_w31, hT_w31, hIt_w31⟩ := qw31
        refine xx_istore (L' := [(8, .int (nI (mo_on ((fu s (8 + 6 * k + 3) v)) 16))), (7, .int (nI v)), (6, .int (nI bs)), (5, .int (nI ms)), (4, .int (nI (w 45 k))), (0, ic_pt E 0), (1, .int (nI k)), (2, ic_pt E 45), (3, .int (nI 5))]) (pc := 31) dX11_bestFor_31 (Nat.le_of_ble_eq_true rfl) rfl ?_
        refine xx_iload (pc := 33) dX11_bestFor_33 0 rfl ?_
        refine xx_iload (pc := 35) dX11_bestFor_35 3 rfl ?_
        refine xx_icmp_leN (pc := 37) 48 dX11_bestFor_37 rfl (by omega) (by omega) (fun c33 => ?_) (fun c33 => ?_)
        · refine xx_iincN (L' := [(7, .int (nI (v + 1))), (8, .int (nI (mo_on ((fu s (8 + 6 * k + 3) v)) 16))), (6, .int (nI bs)), (5, .int (nI ms)), (4, .int (nI (w 45 k))), (0, ic_pt E 0), (1, .int (nI k)), (2, ic_pt E 45), (3, .int (nI 5))]) (pc := 48) dX11_bestFor_48 1 rfl cc_iconst_1 (Nat.le_of_ble_eq_true rfl) rfl ?_
          refine xx_goto (pc := 51) 14 dX11_bestFor_51 rfl ?_
          exact xx_sub [0, 2, 3, 4, 5, 6, 7, 8] rfl (ih_ (v + 1) bs _ w31 (by omega) (by rw [show v + 1 - 1 = (v - 1) + 1 by omega, mo_am, ← hb, show v - 1 + 1 = v by omega, if_neg (by omega)]) hms (fq_.tr hf_w31 |> fun z => ⟨_, z⟩) (by omega))
        · refine xx_iload (pc := 40) dX11_bestFor_40 0 rfl ?_
          refine xx_istore (L' := [(5, .int (nI (mo_on ((fu s (8 + 6 * k + 3) v)) 16))), (8, .int (nI (mo_on ((fu s (8 + 6 * k + 3) v)) 16))), (7, .int (nI v)), (6, .int (nI bs)), (4, .int (nI (w 45 k))), (0, ic_pt E 0), (1, .int (nI k)), (2, ic_pt E 45), (3, .int (nI 5))]) (pc := 42) dX11_bestFor_42 (Nat.le_of_ble_eq_true rfl) rfl ?_
          refine xx_iload (pc := 44) dX11_bestFor_44 2 rfl ?_
          refine xx_istore (L' := [(6, .int (nI v)), (5, .int (nI (mo_on ((fu s (8 + 6 * k + 3) v)) 16))), (8, .int (nI (mo_on ((fu s (8 + 6 * k + 3) v)) 16))), (7, .int (nI v)), (4, .int (nI (w 45 k))), (0, ic_pt E 0), (1, .int (nI k)), (2, ic_pt E 45), (3, .int (nI 5))]) (pc := 46) dX11_bestFor_46 (Nat.le_of_ble_eq_true rfl) rfl ?_
          refine xx_iincN (L' := [(7, .int (nI (v + 1))), (6, .int (nI v)), (5, .int (nI (mo_on ((fu s (8 + 6 * k + 3) v)) 16))), (8, .int (nI (mo_on ((fu s (8 + 6 * k + 3) v)) 16))), (4, .int (nI (w 45 k))), (0, ic_pt E 0), (1, .int (nI k)), (2, ic_pt E 45), (3, .int (nI 5))]) (pc := 48) dX11_bestFor_48 3 rfl cc_iconst_1 (Nat.le_of_ble_eq_true rfl) rfl ?_
          refine xx_goto (pc := 51) 14 dX11_bestFor_51 rfl ?_
          exact xx_sub [0, 1, 2, 4, 5, 6, 7, 8] rfl (ih_ (v + 1) v _ w31 (by omega) (by rw [show v + 1 - 1 = (v - 1) + 1 by omega, mo_am, ← hb, show v - 1 + 1 = v by omega, if_pos (by omega)]) (by omega) (fq_.tr hf_w31 |> fun z => ⟨_, z⟩) (by omega))
  exact xx_sub [0, 1, 2, 4, 5, 6, 7, 8] rfl (lp 6 1 0 _ w4 (by omega) rfl rfl (fq_.tr hf_w4 |> fun z => ⟨_, z⟩) (by omega))

set_option maxHeartbeats 4000000 in
set_option maxRecDepth 100000 in
theorem cC_wishFor {l : Launch} {E : ic_E} {w : ic_w} {k : Nat} (hk_ : k < 2 ^ 32) {s : Nat → Nat} (hC : Cw w s) (hIn : In s) (hRu : Ru s) : ic_C l E mX11_wishFor 10 0 0 False [ic_pt E 0, .int (nI k)] SHs (hn w) SHs (ic_qi (fun v_ h_ => v_ = nI (if k < s 0 then mo_bv s k 2 else 4294967295) ∧ ∃ w2, h_ = hn w2 ∧ Fp w w2)) := by
  refine ic_intro (by decide +kernel) (Nat.le_of_ble_eq_true rfl) ?_
  show xx l E _ _ 0 [(0, ic_pt E 0), (1, .int (nI k))] _ _ _
  have hN := hC.1
  have hm := hC.2.1
  have n5_w := hC.2.2.1
  have n6_w := hC.2.2.2
  have hn0 := hIn.n
  have htt := hIn.t
  have hcr := hIn.cr (s 1)
  have n1_w : w 39 10 = s 0 := hN.n
  have n2_w : w 39 11 = s 2 := hN.e
  have n3_w : w 46 0 = s 1 := hm.t
  have n4_w : w 46 1 = mo_outs s := hm.o
  refine xx_aload_nP (pc := 0) dX11_wishFor_0 0 rfl rfl ?_
  refine xx_iload_n (pc := 1) dX11_wishFor_1 1 rfl rfl ?_
  refine xx_callV0 (pc := 2) (st := []) sh_0 (cC_isRider (w := w) (k := k) (by omega) (by omega)) kX11_isRider vX11_109_11 dX11_wishFor_2 rfl rfl (Nat.le_of_ble_eq_true rfl) ⟨Nat.le_of_ble_eq_true rfl, Nat.le_of_ble_eq_true rfl⟩ ⟨Nat.zero_le _, Nat.zero_le _⟩ (ic_ke ?_)
  refine xx_if_eqB (pc := 5) 25 dX11_wishFor_5 rfl (fun c1 => ?_) (fun c1 => ?_)
  · refine xx_iconst (pc := 25) dX11_wishFor_25 cc_iconst_m1 ?_
    exact xx_iret (pc := 26) dX11_wishFor_26 rfl (rfl) (Nat.le_refl _) (Nat.le_refl _) (ic_ri ⟨by rw [if_neg (by omega)], w, rfl, Fp.rf w⟩)
  · refine xx_aload_nP (pc := 8) dX11_wishFor_8 0 rfl rfl ?_
    refine xx_iload_n (pc := 9) dX11_wishFor_9 1 rfl rfl ?_
    refine xx_aload_nP (pc := 10) dX11_wishFor_10 0 rfl rfl ?_
    refine xx_getR (pc := 11) 39 dX11_wishFor_11 sh_0 fX11_74_11 rfl rfl (by decide) ?_
    refine xx_getR (pc := 14) 44 dX11_wishFor_14 sh_39 fX11_121_5 rfl rfl (by decide) ?_
    refine xx_bipush (pc := 17) dX11_wishFor_17 cc_bipush_9 ?_
    refine xx_callV0 (pc := 19) (st := []) sh_0 (cC_bestFor2 (w := w) (k := k) (s := s) hC hIn hRu (by omega)) kX11_bestFor vX11_232_11 dX11_wishFor_19 rfl rfl (Nat.le_of_ble_eq_true rfl) ⟨Nat.le_of_ble_eq_true rfl, Nat.le_of_ble_eq_true rfl⟩ ⟨Nat.zero_le _, Nat.zero_le _⟩ (ic_ki (fun v3 h_ qw2 => ?_))
    obtain ⟨rfl, w2, rfl, hf_w2⟩ := qw2
    refine xx_goto (pc := 22) 26 dX11_wishFor_22 rfl ?_
    exact xx_iret (pc := 26) dX11_wishFor_26 rfl (rfl) (Nat.le_refl _) (Nat.le_refl _) (ic_ri ⟨by rw [if_pos (by omega)], w2, rfl, hf_w2⟩)

set_option maxHeartbeats 4000000 in
set_option maxRecDepth 100000 in
theorem cC_homeFor {l : Launch} {E : ic_E} {w : ic_w} {k : Nat} (hk_ : k < 2 ^ 32) {s : Nat → Nat} (hC : Cw w s) (hIn : In s) (hRu : Ru s) : ic_C l E mX11_homeFor 10 0 0 False [ic_pt E 0, .int (nI k)] SHs (hn w) SHs (ic_qi (fun v_ h_ => v_ = nI (if k < s 0 then mo_bv s k 3 else 4294967295) ∧ ∃ w2, h_ = hn w2 ∧ Fp w w2)) := by
  refine ic_intro (by decide +kernel) (Nat.le_of_ble_eq_true rfl) ?_
  show xx l E _ _ 0 [(0, ic_pt E 0), (1, .int (nI k))] _ _ _
  have hN := hC.1
  have hm := hC.2.1
  have n5_w := hC.2.2.1
  have n6_w := hC.2.2.2
  have hn0 := hIn.n
  have htt := hIn.t
  have hcr := hIn.cr (s 1)
  have n1_w : w 39 10 = s 0 := hN.n
  have n2_w : w 39 11 = s 2 := hN.e
  have n3_w : w 46 0 = s 1 := hm.t
  have n4_w : w 46 1 = mo_outs s := hm.o
  refine xx_aload_nP (pc := 0) dX11_homeFor_0 0 rfl rfl ?_
  refine xx_iload_n (pc := 1) dX11_homeFor_1 1 rfl rfl ?_
  refine xx_callV0 (pc := 2) (st := []) sh_0 (cC_isRider (w := w) (k := k) (by omega) (by omega)) kX11_isRider vX11_109_11 dX11_homeFor_2 rfl rfl (Nat.le_of_ble_eq_true rfl) ⟨Nat.le_of_ble_eq_true rfl, Nat.le_of_ble_eq_true rfl⟩ ⟨Nat.zero_le _, Nat.zero_le _⟩ (ic_ke ?_)
  refine xx_if_eqB (pc := 5) 24 dX11_homeFor_5 rfl (fun c1 => ?_) (fun c1 => ?_)
  · refine xx_iconst (pc := 24) dX11_homeFor_24 cc_iconst_m1 ?_
    exact xx_iret (pc := 25) dX11_homeFor_25 rfl (rfl) (Nat.le_refl _) (Nat.le_refl _) (ic_ri ⟨by rw [if_neg (by omega)], w, rfl, Fp.rf w⟩)
  · refine xx_aload_nP (pc := 8) dX11_homeFor_8 0 rfl rfl ?_
    refine xx_iload_n (pc := 9) dX11_homeFor_9 1 rfl rfl ?_
    refine xx_aload_nP (pc := 10) dX11_homeFor_10 0 rfl rfl ?_
    refine xx_getR (pc := 11) 39 dX11_homeFor_11 sh_0 fX11_74_11 rfl rfl (by decide) ?_
    refine xx_getR (pc := 14) 45 dX11_homeFor_14 sh_39 fX11_124_5 rfl rfl (by decide) ?_
    refine xx_iconst (pc := 17) dX11_homeFor_17 cc_iconst_5 ?_
    refine xx_callV0 (pc := 18) (st := []) sh_0 (cC_bestFor3 (w := w) (k := k) (s := s) hC hIn hRu (by omega)) kX11_bestFor vX11_232_11 dX11_homeFor_18 rfl rfl (Nat.le_of_ble_eq_true rfl) ⟨Nat.le_of_ble_eq_true rfl, Nat.le_of_ble_eq_true rfl⟩ ⟨Nat.zero_le _, Nat.zero_le _⟩ (ic_ki (fun v3 h_ qw2 => ?_))
    obtain ⟨rfl, w2, rfl, hf_w2⟩ := qw2
    refine xx_goto (pc := 21) 25 dX11_homeFor_21 rfl ?_
    exact xx_iret (pc := 25) dX11_homeFor_25 rfl (rfl) (Nat.le_refl _) (Nat.le_refl _) (ic_ri ⟨by rw [if_pos (by omega)], w2, rfl, hf_w2⟩)

