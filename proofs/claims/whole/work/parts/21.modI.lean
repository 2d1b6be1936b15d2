/-- of what o's number k may be, that with which the rest is worth most -/
def mo_vf (s : Nat → Nat) (o k v : Nat) : Nat := mo_on (fu s (8 + 6 * o + k) v) 16
def mo_bv (s : Nat → Nat) (o k : Nat) : Nat := mo_am (mo_vf s o k) (mo_top k)
theorem In_fu {s : Nat → Nat} (h : In s) {o k v : Nat} (ho : o < 6) (hk : 1 ≤ k ∧ k ≤ 5) (hv : v ≤ mo_top k) : In (fu s (8 + 6 * o + k) v) := by
  refine In_of h (fun j hj => fu_n _ (by omega)) (fun q hq => ?_)
  have b := h.i hq
  have key : ∀ j, j < 6 → it (fu s (8 + 6 * o + k) v) q j = if q = o ∧ j = k then v else it s q j := fun j hj => it_fu2 (by omega) hj rfl
  rw [key 0 (by omega), key 1 (by omega), key 2 (by omega), key 3 (by omega), key 4 (by omega), key 5 (by omega)]
  rcases (show k = 1 ∨ k = 2 ∨ k = 3 ∨ k = 4 ∨ k = 5 by omega) with rfl | rfl | rfl | rfl | rfl <;> simp [mo_top] at hv <;> refine ⟨?_, ?_, ?_, ?_, ?_, ?_⟩ <;> repeat' split
  all_goals omega
theorem Ru_fu {s : Nat → Nat} (h : Ru s) {j v : Nat} (hj : 8 ≤ j ∧ j < 44) : Ru (fu s j v) := Ru_of h (fun k hk => fu_n _ (by omega))
theorem fu_fu (s : Nat → Nat) (k a b : Nat) : fu (fu s k a) k b = fu s k b := by
  funext j
  unfold fu
  split <;> rfl
theorem fu_id (s : Nat → Nat) (k : Nat) : fu s k (s k) = s := by
  funext j
  unfold fu
  split
  · rename_i h
    rw [h]
  · rfl
theorem mo_vf_le {s : Nat → Nat} (h : In s) (r : Ru s) {o k v : Nat} (ho : o < 6) (hk : 1 ≤ k ∧ k ≤ 5) (hv : v ≤ mo_top k) : mo_vf s o k v ≤ 528 := mo_on_le (s := s) 16 _ (In_fu h ho hk hv) (Ru_fu r (by omega))

set_option maxHeartbeats 4000000 in
set_option maxRecDepth 100000 in
theorem cM_valueFor {l : Launch} {E : ic_E} {w : ic_w} {o k : Nat} (ho_ : o < w 115 0) (hk : k = 2 ∨ k = 3) (hI : In (w 115)) (hR : Ru (w 115)) : ic_C l E mX12_valueFor 8 0 0 False [ic_pt E 114, .int (nI o), .int (nI k)] SHs (hn w) SHs (ic_qi (fun v_ h_ => v_ = nI (mo_bv (w 115) o k) ∧ ∃ w2, h_ = hn w2 ∧ mo_sc w w2)) := by
  refine ic_intro (by decide +kernel) (Nat.le_of_ble_eq_true rfl) ?_
  show xx l E _ _ 0 [(0, ic_pt E 114), (1, .int (nI o)), (2, .int (nI k))] _ _ _
  have hn0 := hI.n
  have hk5 : 1 ≤ k ∧ k ≤ 5 := by omega
  have htk : 5 ≤ mo_top k ∧ mo_top k ≤ 9 := by rcases hk with rfl | rfl <;> decide
  have ho : o < 6 := by omega
  have lp : ∀ (n_ : Nat) (v ms bs x : Nat) (u : ic_w), 1 ≤ v → v ≤ mo_top k + 1 → bs = mo_am (mo_vf (w 115) o k) (v - 1) → ms = mo_vf (w 115) o k (mo_am (mo_vf (w 115) o k) (v - 1)) → u 115 = fu (w 115) (8 + 6 * o + k) x → (∀ a, a ≠ 115 → a ≠ 117 → a ≠ 120 → u a = w a) → mo_top k + 1 - v < n_ → xx l E (ic_fr E mX12_valueFor 8 0 0 False SHs (ic_qi (fun v_ h_ => v_ = nI (mo_bv (w 115) o k) ∧ ∃ w2, h_ = hn w2 ∧ mo_sc w w2))) (0, 0) 27 [(7, .int (nI v)), (6, .int (nI ms)), (5, .int (nI bs)), (4, .int (nI (w 115 (8 + k + 6 * o)))), (3, .int (nI ((8 + (6 * o)) + k))), (0, ic_pt E 114), (1, .int (nI o)), (2, .int (nI k))] [] SHs (hn u) := by
    intro n_
    induction n_ with
    | zero => intro v ms bs x u hv1 hv hb1 hb2 hu hr hm_; exact absurd hm_ (Nat.not_lt_zero _)
    | succ n_ ih_ =>
      intro v ms bs x u hv1 hv hb1 hb2 hu hr hm_
      have hmsl : ms ≤ 528 := by rw [hb2]; exact mo_vf_le hI hR ho hk5 (by have := mo_am_le (mo_vf (w 115) o k) (v - 1); omega)
      refine xx_iload (pc := 27) dX12_valueFor_27 0 rfl ?_
      refine xx_iload_n (pc := 29) dX12_valueFor_29 7 rfl rfl ?_
      refine xx_callS0 (pc := 30) (st := [.int (nI v)]) (cM_top (w := u) (a := k) (by omega)) kX12_greatestOf sX12_130 dX12_valueFor_30 rfl rfl (Nat.le_of_ble_eq_true rfl) ⟨Nat.le_of_ble_eq_true rfl, Nat.le_of_ble_eq_true rfl⟩ ⟨Nat.zero_le _, Nat.zero_le _⟩ (ic_ke ?_)
      refine xx_icmp_gtN (pc := 33) 83 dX12_valueFor_33 rfl (by omega) (by omega) (fun c1 => ?_) (fun c1 => ?_)
      · refine xx_aload_nP (pc := 83) dX12_valueFor_83 5 rfl rfl ?_
        refine xx_getR (pc := 84) 115 dX12_valueFor_84 sh_114 fX12_7_12 rfl rfl (by decide) ?_
        refine xx_iload_n (pc := 87) dX12_valueFor_87 4 rfl rfl ?_
        refine xx_iload (pc := 88) dX12_valueFor_88 3 rfl ?_
        refine xx_iastE (j2 := 8 + k + 6 * o) (pc := 90) dX12_valueFor_90 sh_115 (by omega) (by omega) (by decide) ?_
        refine xx_nw (fun w2 ew2 => ?_)
        refine xx_iload (pc := 91) dX12_valueFor_91 2 rfl ?_
        refine xx_iret (pc := 93) dX12_valueFor_93 rfl rfl (Nat.le_refl _) (Nat.le_refl _) (ic_ri ⟨by rw [hb1, show v - 1 = mo_top k by omega]; rfl, w2, rfl, fun a q1 q2 => ?_⟩)
        rw [ew2]
        by_cases q : a = 115
        · subst q
          rw [wu_wr, wr_s, hu, show 8 + k + 6 * o = 8 + 6 * o + k by omega, fu_fu, fu_id]
        · rw [wu_row _ _ _ q, hr a q q1 q2]
      · refine xx_aload_nP (pc := 36) dX12_valueFor_36 5 rfl rfl ?_
        refine xx_getR (pc := 37) 115 dX12_valueFor_37 sh_114 fX12_7_12 rfl rfl (by decide) ?_
        refine xx_iload_n (pc := 40) dX12_valueFor_40 4 rfl rfl ?_
        refine xx_iload (pc := 41) dX12_valueFor_41 0 rfl ?_
        refine xx_iastE (j2 := 8 + k + 6 * o) (pc := 43) dX12_valueFor_43 sh_115 (by omega) (by omega) (by decide) ?_
        refine xx_nw (fun w3 ew3 => ?_)
        have r_w3 : w3 115 = fu (w 115) (8 + 6 * o + k) v := by rw [ew3, wu_wr, wr_s, hu, show 8 + k + 6 * o = 8 + 6 * o + k by omega, fu_fu]
        have hI_w3 : In (w3 115) := by rw [r_w3]; exact In_fu hI ho hk5 (by omega)
        have hR_w3 : Ru (w3 115) := by rw [r_w3]; exact Ru_fu hR (by omega)
        have hvl := mo_vf_le hI hR (o := o) (k := k) (v := v) ho hk5 (by omega)
        have hon : mo_on (w3 115) 16 = mo_vf (w 115) o k v := by rw [r_w3]; rfl
        refine xx_aload_nP (pc := 44) dX12_valueFor_44 5 rfl rfl ?_
        refine xx_bipush (pc := 45) dX12_valueFor_45 cc_bipush_16 ?_
        have hon_x4 := mo_on_le (s := w3 115) 16 (w3 115) hI_w3 hR_w3
        refine xx_callV0 (pc := 47) (st := []) sh_114 (cM_onBy (w := w3) (n := 16) (by omega) hI_w3 hR_w3) kX12_onBy vX12_258_12 dX12_valueFor_47 rfl rfl (Nat.le_of_ble_eq_true rfl) ⟨Nat.le_of_ble_eq_true rfl, Nat.le_of_ble_eq_true rfl⟩ ⟨Nat.zero_le _, Nat.zero_le _⟩ (ic_ki (fun v6 h_ qw5 => ?_))
        obtain ⟨rfl, w5, rfl, gw5⟩ := qw5
        have r_w5 : w5 115 = w3 115 := gw5 115 (by omega) (by omega)
        have hI_w5 : In (w5 115) := by rw [r_w5]; exact hI_w3
        have hR_w5 : Ru (w5 115) := by rw [r_w5]; exact hR_w3
        refine xx_istore (L' := [(8, .int (nI (mo_on (w3 115) 16))), (7, .int (nI v)), (6, .int (nI ms)), (5, .int (nI bs)), (4, .int (nI (w 115 (8 + k + 6 * o)))), (3, .int (nI ((8 + (6 * o)) + k))), (0, ic_pt E 114), (1, .int (nI o)), (2, .int (nI k))]) (pc := 50) dX12_valueFor_50 (Nat.le_of_ble_eq_true rfl) rfl ?_
        refine xx_iload (pc := 52) dX12_valueFor_52 0 rfl ?_
        refine xx_iload (pc := 54) dX12_valueFor_54 2 rfl ?_
        refine xx_icmp_leN (pc := 56) 64 dX12_valueFor_56 rfl (by omega) (by omega) (fun c7 => ?_) (fun c7 => ?_)
        · refine xx_iload (pc := 64) dX12_valueFor_64 3 rfl ?_
          refine xx_istore (L' := [(5, .int (nI bs)), (8, .int (nI (mo_on (w3 115) 16))), (7, .int (nI v)), (6, .int (nI ms)), (4, .int (nI (w 115 (8 + k + 6 * o)))), (3, .int (nI ((8 + (6 * o)) + k))), (0, ic_pt E 114), (1, .int (nI o)), (2, .int (nI k))]) (pc := 66) dX12_valueFor_66 (Nat.le_of_ble_eq_true rfl) rfl ?_
          refine xx_iload (pc := 68) dX12_valueFor_68 3 rfl ?_
          refine xx_iload (pc := 70) dX12_valueFor_70 1 rfl ?_
          refine xx_callS0 (pc := 72) (st := []) (cM_greatest (w := w5) (a := ms) (b := mo_on (w3 115) 16) (by omega) (by omega)) kX12_greatest sX12_78 dX12_valueFor_72 rfl rfl (Nat.le_of_ble_eq_true rfl) ⟨Nat.le_of_ble_eq_true rfl, Nat.le_of_ble_eq_true rfl⟩ ⟨Nat.zero_le _, Nat.zero_le _⟩ (ic_ke ?_)
          refine xx_istore (L' := [(6, .int (nI (max ms (mo_on (w3 115) 16)))), (5, .int (nI bs)), (8, .int (nI (mo_on (w3 115) 16))), (7, .int (nI v)), (4, .int (nI (w 115 (8 + k + 6 * o)))), (3, .int (nI ((8 + (6 * o)) + k))), (0, ic_pt E 114), (1, .int (nI o)), (2, .int (nI k))]) (pc := 75) dX12_valueFor_75 (Nat.le_of_ble_eq_true rfl) rfl ?_
          refine xx_iincN (L' := [(7, .int (nI (v + 1))), (6, .int (nI (max ms (mo_on (w3 115) 16)))), (5, .int (nI bs)), (8, .int (nI (mo_on (w3 115) 16))), (4, .int (nI (w 115 (8 + k + 6 * o)))), (3, .int (nI ((8 + (6 * o)) + k))), (0, ic_pt E 114), (1, .int (nI o)), (2, .int (nI k))]) (pc := 77) dX12_valueFor_77 3 rfl cc_iconst_1 (Nat.le_of_ble_eq_true rfl) rfl ?_
          refine xx_goto (pc := 80) 27 dX12_valueFor_80 rfl ?_
          have hst : (bs) = mo_am (mo_vf (w 115) o k) v ∧ max ms (mo_vf (w 115) o k v) = mo_vf (w 115) o k (mo_am (mo_vf (w 115) o k) v) := by
            obtain ⟨z, rfl⟩ : ∃ z, v = z + 1 := ⟨v - 1, by omega⟩
            rw [Nat.add_sub_cancel] at hb1 hb2
            rw [← hb1] at hb2
            rw [mo_am, ← hb1, ← hb2]
            refine ⟨?_, ?_⟩
            · split <;> omega
            · split <;> omega
          have hst2 : max ms (mo_on (w3 115) 16) = mo_vf (w 115) o k (mo_am (mo_vf (w 115) o k) v) := by rw [hon]; exact hst.2
          exact xx_sub [0, 1, 2, 4, 5, 6, 7, 8] rfl (ih_ (v + 1) _ _ _ w5 (by omega) (by omega) (by rw [Nat.add_sub_cancel]; exact hst.1) (by rw [Nat.add_sub_cancel]; exact hst2) (by rw [r_w5]; exact r_w3) (fun a q1 q2 q3 => by rw [gw5 a q2 q3, ew3, wu_row _ _ _ q1]; exact hr a q1 q2 q3) (by omega))
        · refine xx_iload (pc := 59) dX12_valueFor_59 1 rfl ?_
          refine xx_goto (pc := 61) 66 dX12_valueFor_61 rfl ?_
          refine xx_istore (L' := [(5, .int (nI v)), (8, .int (nI (mo_on (w3 115) 16))), (7, .int (nI v)), (6, .int (nI ms)), (4, .int (nI (w 115 (8 + k + 6 * o)))), (3, .int (nI ((8 + (6 * o)) + k))), (0, ic_pt E 114), (1, .int (nI o)), (2, .int (nI k))]) (pc := 66) dX12_valueFor_66 (Nat.le_of_ble_eq_true rfl) rfl ?_
          refine xx_iload (pc := 68) dX12_valueFor_68 3 rfl ?_
          refine xx_iload (pc := 70) dX12_valueFor_70 1 rfl ?_
          refine xx_callS0 (pc := 72) (st := []) (cM_greatest (w := w5) (a := ms) (b := mo_on (w3 115) 16) (by omega) (by omega)) kX12_greatest sX12_78 dX12_valueFor_72 rfl rfl (Nat.le_of_ble_eq_true rfl) ⟨Nat.le_of_ble_eq_true rfl, Nat.le_of_ble_eq_true rfl⟩ ⟨Nat.zero_le _, Nat.zero_le _⟩ (ic_ke ?_)
          refine xx_istore (L' := [(6, .int (nI (max ms (mo_on (w3 115) 16)))), (5, .int (nI v)), (8, .int (nI (mo_on (w3 115) 16))), (7, .int (nI v)), (4, .int (nI (w 115 (8 + k + 6 * o)))), (3, .int (nI ((8 + (6 * o)) + k))), (0, ic_pt E 114), (1, .int (nI o)), (2, .int (nI k))]) (pc := 75) dX12_valueFor_75 (Nat.le_of_ble_eq_true rfl) rfl ?_
          refine xx_iincN (L' := [(7, .int (nI (v + 1))), (6, .int (nI (max ms (mo_on (w3 115) 16)))), (5, .int (nI v)), (8, .int (nI (mo_on (w3 115) 16))), (4, .int (nI (w 115 (8 + k + 6 * o)))), (3, .int (nI ((8 + (6 * o)) + k))), (0, ic_pt E 114), (1, .int (nI o)), (2, .int (nI k))]) (pc := 77) dX12_valueFor_77 3 rfl cc_iconst_1 (Nat.le_of_ble_eq_true rfl) rfl ?_
          refine xx_goto (pc := 80) 27 dX12_valueFor_80 rfl ?_
          have hst : (v) = mo_am (mo_vf (w 115) o k) v ∧ max ms (mo_vf (w 115) o k v) = mo_vf (w 115) o k (mo_am (mo_vf (w 115) o k) v) := by
            obtain ⟨z, rfl⟩ : ∃ z, v = z + 1 := ⟨v - 1, by omega⟩
            rw [Nat.add_sub_cancel] at hb1 hb2
            rw [← hb1] at hb2
            rw [mo_am, ← hb1, ← hb2]
            refine ⟨?_, ?_⟩
            · split <;> omega
            · split <;> omega
          have hst2 : max ms (mo_on (w3 115) 16) = mo_vf (w 115) o k (mo_am (mo_vf (w 115) o k) v) := by rw [hon]; exact hst.2
          exact xx_sub [0, 1, 2, 4, 5, 6, 7, 8] rfl (ih_ (v + 1) _ _ _ w5 (by omega) (by omega) (by rw [Nat.add_sub_cancel]; exact hst.1) (by rw [Nat.add_sub_cancel]; exact hst2) (by rw [r_w5]; exact r_w3) (fun a q1 q2 q3 => by rw [gw5 a q2 q3, ew3, wu_row _ _ _ q1]; exact hr a q1 q2 q3) (by omega))
  refine xx_bipush (pc := 0) dX12_valueFor_0 cc_bipush_8 ?_
  refine xx_bipush (pc := 2) dX12_valueFor_2 cc_bipush_6 ?_
  refine xx_iload_n (pc := 4) dX12_valueFor_4 1 rfl rfl ?_
  refine xx_imulN (pc := 5) dX12_valueFor_5 ?_
  refine xx_iaddN (pc := 6) dX12_valueFor_6 ?_
  refine xx_iload_n (pc := 7) dX12_valueFor_7 2 rfl rfl ?_
  refine xx_iaddN (pc := 8) dX12_valueFor_8 ?_
  refine xx_istore_n (L' := [(3, .int (nI ((8 + (6 * o)) + k))), (0, ic_pt E 114), (1, .int (nI o)), (2, .int (nI k))]) (pc := 9) dX12_valueFor_9 rfl (Nat.le_of_ble_eq_true rfl) rfl ?_
  refine xx_aload_nP (pc := 10) dX12_valueFor_10 1 rfl rfl ?_
  refine xx_getR (pc := 11) 115 dX12_valueFor_11 sh_114 fX12_7_12 rfl rfl (by decide) ?_
  refine xx_iload_n (pc := 14) dX12_valueFor_14 0 rfl rfl ?_
  refine xx_ialdE (j2 := 8 + k + 6 * o) (pc := 15) dX12_valueFor_15 sh_115 (by omega) (by omega) (by decide) ?_
  refine xx_istore (L' := [(4, .int (nI (w 115 (8 + k + 6 * o)))), (3, .int (nI ((8 + (6 * o)) + k))), (0, ic_pt E 114), (1, .int (nI o)), (2, .int (nI k))]) (pc := 16) dX12_valueFor_16 (Nat.le_of_ble_eq_true rfl) rfl ?_
  refine xx_iconst (pc := 18) dX12_valueFor_18 cc_iconst_0 ?_
  refine xx_istore (L' := [(5, .int (nI 0)), (4, .int (nI (w 115 (8 + k + 6 * o)))), (3, .int (nI ((8 + (6 * o)) + k))), (0, ic_pt E 114), (1, .int (nI o)), (2, .int (nI k))]) (pc := 19) dX12_valueFor_19 (Nat.le_of_ble_eq_true rfl) rfl ?_
  refine xx_iconst (pc := 21) dX12_valueFor_21 cc_iconst_m1 ?_
  refine xx_istore (L' := [(6, .int (nI 4294967295)), (5, .int (nI 0)), (4, .int (nI (w 115 (8 + k + 6 * o)))), (3, .int (nI ((8 + (6 * o)) + k))), (0, ic_pt E 114), (1, .int (nI o)), (2, .int (nI k))]) (pc := 22) dX12_valueFor_22 (Nat.le_of_ble_eq_true rfl) rfl ?_
  refine xx_iconst (pc := 24) dX12_valueFor_24 cc_iconst_0 ?_
  refine xx_istore (L' := [(7, .int (nI 0)), (6, .int (nI 4294967295)), (5, .int (nI 0)), (4, .int (nI (w 115 (8 + k + 6 * o)))), (3, .int (nI ((8 + (6 * o)) + k))), (0, ic_pt E 114), (1, .int (nI o)), (2, .int (nI k))]) (pc := 25) dX12_valueFor_25 (Nat.le_of_ble_eq_true rfl) rfl ?_
  refine xx_iload (pc := 27) dX12_valueFor_27 0 rfl ?_
  refine xx_iload_n (pc := 29) dX12_valueFor_29 7 rfl rfl ?_
  refine xx_callS0 (pc := 30) (st := [.int (nI 0)]) (cM_top (w := w) (a := k) (by omega)) kX12_greatestOf sX12_130 dX12_valueFor_30 rfl rfl (Nat.le_of_ble_eq_true rfl) ⟨Nat.le_of_ble_eq_true rfl, Nat.le_of_ble_eq_true rfl⟩ ⟨Nat.zero_le _, Nat.zero_le _⟩ (ic_ke ?_)
  refine xx_icmp_gtN (pc := 33) 83 dX12_valueFor_33 rfl (by omega) (by omega) (fun c301 => by exfalso; omega) (fun c301 => ?_)
  refine xx_aload_nP (pc := 36) dX12_valueFor_36 5 rfl rfl ?_
  refine xx_getR (pc := 37) 115 dX12_valueFor_37 sh_114 fX12_7_12 rfl rfl (by decide) ?_
  refine xx_iload_n (pc := 40) dX12_valueFor_40 4 rfl rfl ?_
  refine xx_iload (pc := 41) dX12_valueFor_41 0 rfl ?_
  refine xx_iastE (j2 := 8 + k + 6 * o) (pc := 43) dX12_valueFor_43 sh_115 (by omega) (by omega) (by decide) ?_
  refine xx_nw (fun w302 ew302 => ?_)
  have r_w302 : w302 115 = fu (w 115) (8 + 6 * o + k) 0 := by rw [ew302, wu_wr, wr_s, show 8 + k + 6 * o = 8 + 6 * o + k by omega]
  have hI_w302 : In (w302 115) := by rw [r_w302]; exact In_fu hI ho hk5 (by omega)
  have hR_w302 : Ru (w302 115) := by rw [r_w302]; exact Ru_fu hR (by omega)
  have hvl := mo_vf_le hI hR (o := o) (k := k) (v := 0) ho hk5 (by omega)
  have hon : mo_on (w302 115) 16 = mo_vf (w 115) o k 0 := by rw [r_w302]; rfl
  refine xx_aload_nP (pc := 44) dX12_valueFor_44 5 rfl rfl ?_
  refine xx_bipush (pc := 45) dX12_valueFor_45 cc_bipush_16 ?_
  have hon_x303 := mo_on_le (s := w302 115) 16 (w302 115) hI_w302 hR_w302
  refine xx_callV0 (pc := 47) (st := []) sh_114 (cM_onBy (w := w302) (n := 16) (by omega) hI_w302 hR_w302) kX12_onBy vX12_258_12 dX12_valueFor_47 rfl rfl (Nat.le_of_ble_eq_true rfl) ⟨Nat.le_of_ble_eq_true rfl, Nat.le_of_ble_eq_true rfl⟩ ⟨Nat.zero_le _, Nat.zero_le _⟩ (ic_ki (fun v305 h_ qw304 => ?_))
  obtain ⟨rfl, w304, rfl, gw304⟩ := qw304
  have r_w304 : w304 115 = w302 115 := gw304 115 (by omega) (by omega)
  have hI_w304 : In (w304 115) := by rw [r_w304]; exact hI_w302
  have hR_w304 : Ru (w304 115) := by rw [r_w304]; exact hR_w302
  refine xx_istore (L' := [(8, .int (nI (mo_on (w302 115) 16))), (7, .int (nI 0)), (6, .int (nI 4294967295)), (5, .int (nI 0)), (4, .int (nI (w 115 (8 + k + 6 * o)))), (3, .int (nI ((8 + (6 * o)) + k))), (0, ic_pt E 114), (1, .int (nI o)), (2, .int (nI k))]) (pc := 50) dX12_valueFor_50 (Nat.le_of_ble_eq_true rfl) rfl ?_
  refine xx_iload (pc := 52) dX12_valueFor_52 0 rfl ?_
  refine xx_iload (pc := 54) dX12_valueFor_54 2 rfl ?_
  refine xx_icmp_le (pc := 56) 64 dX12_valueFor_56 rfl (fun c306 => absurd c306 (nI_nlem1 (by omega))) (fun c306 => ?_)
  refine xx_iload (pc := 59) dX12_valueFor_59 1 rfl ?_
  refine xx_goto (pc := 61) 66 dX12_valueFor_61 rfl ?_
  refine xx_istore (L' := [(5, .int (nI 0)), (8, .int (nI (mo_on (w302 115) 16))), (7, .int (nI 0)), (6, .int (nI 4294967295)), (4, .int (nI (w 115 (8 + k + 6 * o)))), (3, .int (nI ((8 + (6 * o)) + k))), (0, ic_pt E 114), (1, .int (nI o)), (2, .int (nI k))]) (pc := 66) dX12_valueFor_66 (Nat.le_of_ble_eq_true rfl) rfl ?_
  refine xx_iload (pc := 68) dX12_valueFor_68 3 rfl ?_
  refine xx_iload (pc := 70) dX12_valueFor_70 1 rfl ?_
  refine xx_callS0 (pc := 72) (st := []) (cM_greatestM (w := w304) (b := mo_on (w302 115) 16) (by omega)) kX12_greatest sX12_78 dX12_valueFor_72 rfl rfl (Nat.le_of_ble_eq_true rfl) ⟨Nat.le_of_ble_eq_true rfl, Nat.le_of_ble_eq_true rfl⟩ ⟨Nat.zero_le _, Nat.zero_le _⟩ (ic_ke ?_)
  refine xx_istore (L' := [(6, .int (nI (mo_on (w302 115) 16))), (5, .int (nI 0)), (8, .int (nI (mo_on (w302 115) 16))), (7, .int (nI 0)), (4, .int (nI (w 115 (8 + k + 6 * o)))), (3, .int (nI ((8 + (6 * o)) + k))), (0, ic_pt E 114), (1, .int (nI o)), (2, .int (nI k))]) (pc := 75) dX12_valueFor_75 (Nat.le_of_ble_eq_true rfl) rfl ?_
  refine xx_iincN (L' := [(7, .int (nI (0 + 1))), (6, .int (nI (mo_on (w302 115) 16))), (5, .int (nI 0)), (8, .int (nI (mo_on (w302 115) 16))), (4, .int (nI (w 115 (8 + k + 6 * o)))), (3, .int (nI ((8 + (6 * o)) + k))), (0, ic_pt E 114), (1, .int (nI o)), (2, .int (nI k))]) (pc := 77) dX12_valueFor_77 3 rfl cc_iconst_1 (Nat.le_of_ble_eq_true rfl) rfl ?_
  refine xx_goto (pc := 80) 27 dX12_valueFor_80 rfl ?_
  exact xx_sub [0, 1, 2, 4, 5, 6, 7, 8] rfl (lp (mo_top k + 2) 1 _ _ 0 w304 (by omega) (by omega) rfl (by rw [hon]; rfl) (by rw [r_w304]; exact r_w302) (fun a q1 q2 q3 => by rw [gw304 a q2 q3, ew302, wu_row _ _ _ q1]) (by omega))

set_option maxHeartbeats 4000000 in
set_option maxRecDepth 100000 in
theorem cM_wishFor {l : Launch} {E : ic_E} {w : ic_w} {o : Nat} (ho_ : o < 2 ^ 32) (hI : In (w 115)) (hR : Ru (w 115)) : ic_C l E mX12_wishFor 9 0 0 False [ic_pt E 114, .int (nI o)] SHs (hn w) SHs (ic_qi (fun v_ h_ => v_ = nI (if o < w 115 0 then mo_bv (w 115) o 2 else 4294967295) ∧ ∃ w2, h_ = hn w2 ∧ mo_sc w w2)) := by
  refine ic_intro (by decide +kernel) (Nat.le_of_ble_eq_true rfl) ?_
  show xx l E _ _ 0 [(0, ic_pt E 114), (1, .int (nI o))] _ _ _
  refine xx_aload_nP (pc := 0) dX12_wishFor_0 0 rfl rfl ?_
  refine xx_iload_n (pc := 1) dX12_wishFor_1 1 rfl rfl ?_
  refine xx_callV0 (pc := 2) (st := []) sh_114 (cM_isOne (w := w) (o := o) (by omega) hI) kX12_isOne vX12_116_12 dX12_wishFor_2 rfl rfl (Nat.le_of_ble_eq_true rfl) ⟨Nat.le_of_ble_eq_true rfl, Nat.le_of_ble_eq_true rfl⟩ ⟨Nat.zero_le _, Nat.zero_le _⟩ (ic_ke ?_)
  refine xx_if_eqB (pc := 5) 17 dX12_wishFor_5 rfl (fun c1 => ?_) (fun c1 => ?_)
  · refine xx_iconst (pc := 17) dX12_wishFor_17 cc_iconst_m1 ?_
    exact xx_iret (pc := 18) dX12_wishFor_18 rfl (rfl) (Nat.le_refl _) (Nat.le_refl _) (ic_ri ⟨by rw [if_neg (by omega)], w, rfl, fun _ _ _ => rfl⟩)
  · refine xx_aload_nP (pc := 8) dX12_wishFor_8 0 rfl rfl ?_
    refine xx_iload_n (pc := 9) dX12_wishFor_9 1 rfl rfl ?_
    refine xx_iconst (pc := 10) dX12_wishFor_10 cc_iconst_2 ?_
    refine xx_callV0 (pc := 11) (st := []) sh_114 (cM_valueFor (w := w) (o := o) (k := 2) (by omega) (by omega) hI hR) kX12_valueFor vX12_261_12 dX12_wishFor_11 rfl rfl (Nat.le_of_ble_eq_true rfl) ⟨Nat.le_of_ble_eq_true rfl, Nat.le_of_ble_eq_true rfl⟩ ⟨Nat.zero_le _, Nat.zero_le _⟩ (ic_ki (fun v3 h_ qw2 => ?_))
    obtain ⟨rfl, w2, rfl, gw2⟩ := qw2
    have r_w2 : w2 115 = w 115 := gw2 115 (by omega) (by omega)
    have hI_w2 : In (w2 115) := by rw [r_w2]; exact hI
    have hR_w2 : Ru (w2 115) := by rw [r_w2]; exact hR
    refine xx_goto (pc := 14) 18 dX12_wishFor_14 rfl ?_
    exact xx_iret (pc := 18) dX12_wishFor_18 rfl (rfl) (Nat.le_refl _) (Nat.le_refl _) (ic_ri ⟨by rw [if_pos (by omega)], w2, rfl, gw2⟩)

set_option maxHeartbeats 4000000 in
set_option maxRecDepth 100000 in
theorem cM_homeFor {l : Launch} {E : ic_E} {w : ic_w} {o : Nat} (ho_ : o < 2 ^ 32) (hI : In (w 115)) (hR : Ru (w 115)) : ic_C l E mX12_homeFor 9 0 0 False [ic_pt E 114, .int (nI o)] SHs (hn w) SHs (ic_qi (fun v_ h_ => v_ = nI (if o < w 115 0 then mo_bv (w 115) o 3 else 4294967295) ∧ ∃ w2, h_ = hn w2 ∧ mo_sc w w2)) := by
  refine ic_intro (by decide +kernel) (Nat.le_of_ble_eq_true rfl) ?_
  show xx l E _ _ 0 [(0, ic_pt E 114), (1, .int (nI o))] _ _ _
  refine xx_aload_nP (pc := 0) dX12_homeFor_0 0 rfl rfl ?_
  refine xx_iload_n (pc := 1) dX12_homeFor_1 1 rfl rfl ?_
  refine xx_callV0 (pc := 2) (st := []) sh_114 (cM_isOne (w := w) (o := o) (by omega) hI) kX12_isOne vX12_116_12 dX12_homeFor_2 rfl rfl (Nat.le_of_ble_eq_true rfl) ⟨Nat.le_of_ble_eq_true rfl, Nat.le_of_ble_eq_true rfl⟩ ⟨Nat.zero_le _, Nat.zero_le _⟩ (ic_ke ?_)
  refine xx_if_eqB (pc := 5) 17 dX12_homeFor_5 rfl (fun c1 => ?_) (fun c1 => ?_)
  · refine xx_iconst (pc := 17) dX12_homeFor_17 cc_iconst_m1 ?_
    exact xx_iret (pc := 18) dX12_homeFor_18 rfl (rfl) (Nat.le_refl _) (Nat.le_refl _) (ic_ri ⟨by rw [if_neg (by omega)], w, rfl, fun _ _ _ => rfl⟩)
  · refine xx_aload_nP (pc := 8) dX12_homeFor_8 0 rfl rfl ?_
    refine xx_iload_n (pc := 9) dX12_homeFor_9 1 rfl rfl ?_
    refine xx_iconst (pc := 10) dX12_homeFor_10 cc_iconst_3 ?_
    refine xx_callV0 (pc := 11) (st := []) sh_114 (cM_valueFor (w := w) (o := o) (k := 3) (by omega) (by omega) hI hR) kX12_valueFor vX12_261_12 dX12_homeFor_11 rfl rfl (Nat.le_of_ble_eq_true rfl) ⟨Nat.le_of_ble_eq_true rfl, Nat.le_of_ble_eq_true rfl⟩ ⟨Nat.zero_le _, Nat.zero_le _⟩ (ic_ki (fun v3 h_ qw2 => ?_))
    obtain ⟨rfl, w2, rfl, gw2⟩ := qw2
    have r_w2 : w2 115 = w 115 := gw2 115 (by omega) (by omega)
    have hI_w2 : In (w2 115) := by rw [r_w2]; exact hI
    have hR_w2 : Ru (w2 115) := by rw [r_w2]; exact hR
    refine xx_goto (pc := 14) 18 dX12_homeFor_14 rfl ?_
    exact xx_iret (pc := 18) dX12_homeFor_18 rfl (rfl) (Nat.le_refl _) (Nat.le_refl _) (ic_ri ⟨by rw [if_pos (by omega)], w2, rfl, gw2⟩)

