/-! lone riders, liars, lots -/
theorem xx_iushrN {l : Launch} {E : ic_E} {F : ic_F} {kc : Nat × Nat} {pc : Nat} {L : List (Nat × Value)} {st : List Value} {sh : List ic_S} {h : ic_H} {a b : Nat} (hd : decode F.2.2.1 pc = .ok (.iushr, 1)) (ha : a < 2 ^ 32) (hb : b < 32) (kk : xx l E F kc (pc + 1) L (.int (nI (a / 2 ^ b)) :: st) sh h) : xx l E F kc pc L (.int (nI b) :: .int (nI a) :: st) sh h := by
  refine xx_iushr hd ?_
  rw [pk_ushrN ha (nI b) b ?_]
  · exact kk
  · revert b
    intro b hb _
    exact (show ∀ n, n < 32 → (((nI n).toUInt32 &&& Int32.toUInt32 31).toBitVec % 32).toNat = n by decide +kernel) b hb
theorem In_z {s : Nat → Nat} (h : In s) {v : Nat} (hv : v < 2 ^ 32) : In (fu s 4 v) := by
  obtain ⟨a, ⟨b1, b2, b3⟩, ⟨c1, c2, c3⟩, d, e, f, g⟩ := h
  refine ⟨by rw [fu_n _ (by omega)]; exact a, ⟨by rw [fu_n _ (by omega), fu_n _ (by omega)]; exact b1, by rw [fu_n _ (by omega)]; exact b2, by rw [fu_n _ (by omega)]; exact b3⟩, ⟨by rw [fu_n _ (by omega)]; exact c1, by rw [fu_n _ (by omega)]; exact c2, by rw [fu_n _ (by omega)]; exact c3⟩,
    fun q hq => ?_, fun q hq => by rw [fu_n _ (by omega), fu_n _ (by omega)]; exact e q hq, fun q hq => by rw [fu_n _ (by omega)]; exact f q hq, fun k hk => ?_⟩
  · have key : ∀ j, it (fu s 4 v) q j = it s q j := fun j => by unfold it; exact fu_n _ (by omega)
    rw [key, key, key, key, key, key]
    exact d q hq
  · by_cases z : k = 4
    · rw [z, fu_s]
      exact hv
    · rw [fu_n _ z]
      exact g k hk
theorem Ru_z {s : Nat → Nat} (h : Ru s) {v : Nat} : Ru (fu s 4 v) := by
  have hd : ∀ b n, mo_dp (fu s 4 v) b n = mo_dp s b n := by
    intro b n
    induction n with
    | zero => rfl
    | succ n ih => rw [mo_dp, mo_dp, ih, fu_n _ (by omega)]
  refine ⟨fun r hr => ?_, fun k hk => ?_⟩
  · rw [fu_n _ (by omega)] at hr
    rw [fu_n _ (by omega), fu_n _ (by omega), fu_n _ (by omega), fu_n _ (by omega), fu_n (j := 7) _ (by omega)]
    have := h.1 r hr
    refine ⟨this.1, this.2.1, this.2.2.1, this.2.2.2.1, fun n hn => by rw [hd]; exact this.2.2.2.2 n hn⟩
  · rw [fu_n _ (by omega)] at hk
    rw [fu_n _ (by omega), fu_n _ (by omega), fu_n _ (by omega)]
    exact h.2 k hk
def mo_z (z : Nat) : Nat := (z * 1103515245 + 12345) % 4294967296
def mo_zs (s : Nat → Nat) : Nat → Nat := fu s 4 (mo_z (s 4))
def mo_za (s : Nat → Nat) : Nat := mo_z (s 4) / 2 ^ 16 % (s 0 + 1)
theorem mo_z_lt (z : Nat) : mo_z z < 2 ^ 32 := Nat.mod_lt _ (by decide)
theorem mo_za_le (s : Nat → Nat) : mo_za s ≤ s 0 := by
  have := Nat.mod_lt (mo_z (s 4) / 2 ^ 16) (show s 0 + 1 > 0 by omega)
  unfold mo_za
  omega
theorem In_zs {s : Nat → Nat} (h : In s) : In (mo_zs s) := In_z h (mo_z_lt _)
theorem Ru_zs {s : Nat → Nat} (h : Ru s) : Ru (mo_zs s) := Ru_z h
theorem mo_zs_n (s : Nat → Nat) {k : Nat} (h : k ≠ 4) : mo_zs s k = s k := fu_n _ h
def mo_lgo (s : Nat → Nat) : Nat → Nat := mo_go (mo_zs s) (mo_za s)
def mo_lw (s : Nat → Nat) : Nat := mo_worth (mo_zs s) (mo_za s)
theorem mo_lw_le {s : Nat → Nat} (h : In s) : mo_lw s ≤ 33 := by
  have h1 := mo_za_le s
  have h2 := h.n
  exact mo_worth_le (In_zs h) (by omega)
theorem mo_lgo_r {s : Nat → Nat} (h : In s) {k : Nat} (q : k ≠ 1 ∧ k ≠ 3 ∧ k ≠ 4 ∧ (k < 8 ∨ 44 ≤ k)) : mo_lgo s k = s k := by
  have h1 := mo_za_le s
  have h2 := h.n
  unfold mo_lgo
  rw [mo_go_r _ (by omega) (In_zs h).n (by omega), mo_zs_n _ (by omega)]
theorem mo_lgo_1 (s : Nat → Nat) : mo_lgo s 1 = s 1 + 1 := by
  unfold mo_lgo
  rw [mo_go_1, mo_zs_n _ (by omega)]
theorem In_lgo {s : Nat → Nat} (h : In s) (ht : s 1 < s 2) : In (mo_lgo s) := by
  have h1 := mo_za_le s
  have h2 := h.n
  exact In_go (In_zs h) (by omega) (by rw [mo_zs_n _ (by omega), mo_zs_n _ (by omega)]; exact ht)
theorem Ru_lgo {s : Nat → Nat} (r : Ru s) (h : In s) : Ru (mo_lgo s) := by
  have h1 := mo_za_le s
  have h2 := h.n
  exact Ru_go (Ru_zs r) (In_zs h) (by omega)
def mo_lrun : Nat → (Nat → Nat) → Nat → Nat
  | 0, s => s
  | n + 1, s => if s 2 ≤ s 1 then s else mo_lrun n (mo_lgo s)
def mo_lsum : Nat → (Nat → Nat) → Nat
  | 0, _ => 0
  | n + 1, s => if s 2 ≤ s 1 then 0 else mo_lw s + mo_lsum n (mo_lgo s)
theorem mo_lrun_e {n : Nat} {s : Nat → Nat} (h : s 2 ≤ s 1) : mo_lrun n s = s := by
  cases n with
  | zero => rfl
  | succ n => rw [mo_lrun, if_pos h]
theorem mo_lsum_e {n : Nat} {s : Nat → Nat} (h : s 2 ≤ s 1) : mo_lsum n s = 0 := by
  cases n with
  | zero => rfl
  | succ n => rw [mo_lsum, if_pos h]
def mo_tz (s : Nat → Nat) : Nat → Nat
  | 0 => s 4
  | k + 1 => mo_lrun 16 (fu s 4 (mo_tz s k)) 4
def mo_times (s : Nat → Nat) (a b : Nat) : Nat := mo_cnt (fun k => decide (b ≤ mo_lsum 16 (fu s 4 (mo_tz s k)))) a
theorem mo_lfs_le (s : Nat → Nat) (b : Nat) : mo_lfs s b ≤ 500 := mo_cnt_le _ _

set_option maxHeartbeats 4000000 in
set_option maxRecDepth 100000 in
theorem cM_lone {l : Launch} {E : ic_E} {w : ic_w} {k : Nat} (hk_ : k < 2 ^ 32) (hI : In (w 115)) (hP : Rp (w 115)) : ic_C l E mX12_lone 5 0 0 False [ic_pt E 114, .int (nI k)] SHs (hn w) SHs (ic_qi (fun v_ h_ => v_ = nI (if k ≤ 3 then mo_lone (w 115) k else 4294967295) ∧ ∃ w2, h_ = hn w2 ∧ mo_s2 w w2)) := by
  refine ic_intro (by decide +kernel) (Nat.le_of_ble_eq_true rfl) ?_
  show xx l E _ _ 0 [(0, ic_pt E 114), (1, .int (nI k))] _ _ _
  refine xx_iload_n (pc := 0) dX12_lone_0 1 rfl rfl ?_
  refine xx_i2l (pc := 1) dX12_lone_1 ?_
  refine xx_lconst (v := 0) (pc := 2) dX12_lone_2 rfl ?_
  refine xx_ldc2 (v := 3) (pc := 3) dX12_lone_3 oX12_307 ?_
  refine xx_callS0 (pc := 6) (st := []) (cM_isIn (0 ≤ k ∧ k ≤ 3) (ll_in (lo := 0) (hi := 3) (by omega) (by decide) (by decide) (by omega))) kX12_isIn sX12_66 dX12_lone_6 rfl rfl (Nat.le_of_ble_eq_true rfl) ⟨Nat.le_of_ble_eq_true rfl, Nat.le_of_ble_eq_true rfl⟩ ⟨Nat.zero_le _, Nat.zero_le _⟩ (ic_ke ?_)
  refine xx_if_neB (pc := 9) 14 dX12_lone_9 rfl (fun c1 => ?_) (fun c1 => ?_)
  · refine xx_aload_nP (pc := 14) dX12_lone_14 0 rfl rfl ?_
    refine xx_iconst (pc := 15) dX12_lone_15 cc_iconst_m1 ?_
    refine xx_callV0 (pc := 16) (st := []) sh_114 (cM_findsFits (w := w) (but := 4294967295) (by omega) hI hP) kX12_findsFits vX12_330_12 dX12_lone_16 rfl rfl (Nat.le_of_ble_eq_true rfl) ⟨Nat.le_of_ble_eq_true rfl, Nat.le_of_ble_eq_true rfl⟩ ⟨Nat.zero_le _, Nat.zero_le _⟩ (ic_kv (fun h_ qw2 => ?_))
    obtain ⟨w2, rfl, s2_w2, f25_w2, f26_w2⟩ := qw2
    have r_w2 : w2 115 = w 115 := mo_s2_115 s2_w2
    have hI_w2 : In (w2 115) := by rw [r_w2]; exact hI
    have hP_w2 : Rp (w2 115) := by rw [r_w2]; exact hP
    have fl_w2 : w2 114 25 ≤ 500 := by rw [f25_w2]; exact mo_lfs_le _ _
    have b26 : w2 114 25 ≠ 0 → w2 114 26 < 600 := fun z => by rw [f26_w2]; rw [f25_w2] at z; exact (mo_fst_le _ _ (by omega) z).2
    refine xx_iload_n (pc := 19) dX12_lone_19 1 rfl rfl ?_
    refine xx_if_eqN (pc := 20) 30 dX12_lone_20 rfl (by omega) (fun c4 => ?_) (fun c4 => ?_)
    · refine xx_iload_n (pc := 30) dX12_lone_30 1 rfl rfl ?_
      refine xx_if_neN (pc := 31) 41 dX12_lone_31 rfl (by omega) (fun c5 => ?_) (fun c5 => ?_)
      · refine xx_bipush (pc := 41) dX12_lone_41 cc_bipush_m3 ?_
        exact xx_iret (pc := 43) dX12_lone_43 rfl (rfl) (Nat.le_refl _) (Nat.le_refl _) (ic_ri ⟨by first | (exfalso; omega) | (rw [if_pos (by omega), mo_lone, ← f25_w2, ← f26_w2]; (repeat' split) <;> first | rfl | (exfalso; omega) | trace_state), w2, rfl, s2_w2⟩)
      · refine xx_aload_nP (pc := 34) dX12_lone_34 0 rfl rfl ?_
        refine xx_getN (pc := 35) dX12_lone_35 sh_114 fX12_318_12 rfl ?_
        refine xx_goto (pc := 38) 43 dX12_lone_38 rfl ?_
        exact xx_iret (pc := 43) dX12_lone_43 rfl (rfl) (Nat.le_refl _) (Nat.le_refl _) (ic_ri ⟨by first | (exfalso; omega) | (rw [if_pos (by omega), mo_lone, ← f25_w2, ← f26_w2]; (repeat' split) <;> first | rfl | (exfalso; omega) | trace_state), w2, rfl, s2_w2⟩)
    · refine xx_aload_nP (pc := 23) dX12_lone_23 0 rfl rfl ?_
      refine xx_getN (pc := 24) dX12_lone_24 sh_114 fX12_318_12 rfl ?_
      refine xx_if_neN (pc := 27) 44 dX12_lone_27 rfl (by omega) (fun c6 => ?_) (fun c6 => ?_)
      · refine xx_iload_n (pc := 44) dX12_lone_44 1 rfl rfl ?_
        refine xx_iconst (pc := 45) dX12_lone_45 cc_iconst_1 ?_
        refine xx_icmp_neN (pc := 46) 59 dX12_lone_46 rfl (by omega) (by omega) (fun c7 => ?_) (fun c7 => ?_)
        · refine xx_iload_n (pc := 59) dX12_lone_59 1 rfl rfl ?_
          refine xx_iconst (pc := 60) dX12_lone_60 cc_iconst_2 ?_
          refine xx_icmp_neN (pc := 61) 77 dX12_lone_61 rfl (by omega) (by omega) (fun c8 => ?_) (fun c8 => ?_)
          · refine xx_aload_nP (pc := 77) dX12_lone_77 0 rfl rfl ?_
            refine xx_getN (pc := 78) dX12_lone_78 sh_114 fX12_321_12 rfl ?_
            refine xx_bipush (pc := 81) dX12_lone_81 cc_bipush_10 ?_
            refine xx_iremN (pc := 83) dX12_lone_83 (by omega) (by omega) (by omega) ?_
            refine xx_bipush (pc := 84) dX12_lone_84 cc_bipush_9 ?_
            refine xx_imulN (pc := 86) dX12_lone_86 ?_
            exact xx_iret (pc := 87) dX12_lone_87 rfl (rfl) (Nat.le_refl _) (Nat.le_refl _) (ic_ri ⟨by first | (exfalso; omega) | (rw [if_pos (by omega), mo_lone, ← f25_w2, ← f26_w2]; (repeat' split) <;> first | rfl | (exfalso; omega) | trace_state), w2, rfl, s2_w2⟩)
          · refine xx_aload_nP (pc := 64) dX12_lone_64 0 rfl rfl ?_
            refine xx_getN (pc := 65) dX12_lone_65 sh_114 fX12_321_12 rfl ?_
            refine xx_bipush (pc := 68) dX12_lone_68 cc_bipush_10 ?_
            refine xx_idivN (pc := 70) dX12_lone_70 (by omega) (by omega) (by omega) ?_
            refine xx_bipush (pc := 71) dX12_lone_71 cc_bipush_10 ?_
            refine xx_iremN (pc := 73) dX12_lone_73 (by omega) (by omega) (by omega) ?_
            refine xx_goto (pc := 74) 87 dX12_lone_74 rfl ?_
            exact xx_iret (pc := 87) dX12_lone_87 rfl (rfl) (Nat.le_refl _) (Nat.le_refl _) (ic_ri ⟨by first | (exfalso; omega) | (rw [if_pos (by omega), mo_lone, ← f25_w2, ← f26_w2]; (repeat' split) <;> first | rfl | (exfalso; omega) | trace_state), w2, rfl, s2_w2⟩)
        · refine xx_aload_nP (pc := 49) dX12_lone_49 0 rfl rfl ?_
          refine xx_getN (pc := 50) dX12_lone_50 sh_114 fX12_321_12 rfl ?_
          refine xx_bipush (pc := 53) dX12_lone_53 cc_bipush_100 ?_
          refine xx_idivN (pc := 55) dX12_lone_55 (by omega) (by omega) (by omega) ?_
          refine xx_goto (pc := 56) 87 dX12_lone_56 rfl ?_
          exact xx_iret (pc := 87) dX12_lone_87 rfl (rfl) (Nat.le_refl _) (Nat.le_refl _) (ic_ri ⟨by first | (exfalso; omega) | (rw [if_pos (by omega), mo_lone, ← f25_w2, ← f26_w2]; (repeat' split) <;> first | rfl | (exfalso; omega) | trace_state), w2, rfl, s2_w2⟩)
      · refine xx_iload_n (pc := 30) dX12_lone_30 1 rfl rfl ?_
        refine xx_if_neN (pc := 31) 41 dX12_lone_31 rfl (by omega) (fun c9 => ?_) (fun c9 => ?_)
        · refine xx_bipush (pc := 41) dX12_lone_41 cc_bipush_m3 ?_
          exact xx_iret (pc := 43) dX12_lone_43 rfl (rfl) (Nat.le_refl _) (Nat.le_refl _) (ic_ri ⟨by first | (exfalso; omega) | (rw [if_pos (by omega), mo_lone, ← f25_w2, ← f26_w2]; (repeat' split) <;> first | rfl | (exfalso; omega) | trace_state), w2, rfl, s2_w2⟩)
        · refine xx_aload_nP (pc := 34) dX12_lone_34 0 rfl rfl ?_
          refine xx_getN (pc := 35) dX12_lone_35 sh_114 fX12_318_12 rfl ?_
          refine xx_goto (pc := 38) 43 dX12_lone_38 rfl ?_
          exact xx_iret (pc := 43) dX12_lone_43 rfl (rfl) (Nat.le_refl _) (Nat.le_refl _) (ic_ri ⟨by first | (exfalso; omega) | (rw [if_pos (by omega), mo_lone, ← f25_w2, ← f26_w2]; (repeat' split) <;> first | rfl | (exfalso; omega) | trace_state), w2, rfl, s2_w2⟩)
  · refine xx_iconst (pc := 12) dX12_lone_12 cc_iconst_m1 ?_
    exact xx_iret (pc := 13) dX12_lone_13 rfl (rfl) (Nat.le_refl _) (Nat.le_refl _) (ic_ri ⟨by first | (exfalso; omega) | rw [if_neg (by omega)], w, rfl, mo_s2_rf w⟩)

set_option maxHeartbeats 4000000 in
set_option maxRecDepth 100000 in
theorem cM_liar {l : Launch} {E : ic_E} {w : ic_w} (hI : In (w 115)) (hP : Rp (w 115)) : ic_C l E mX12_liar 5 0 0 False [ic_pt E 114] SHs (hn w) SHs (ic_qi (fun v_ h_ => v_ = nI (mo_liar (w 115)) ∧ ∃ w2, h_ = hn w2 ∧ mo_s2 w w2)) := by
  refine ic_intro (by decide +kernel) (Nat.le_of_ble_eq_true rfl) ?_
  show xx l E _ _ 0 [(0, ic_pt E 114)] _ _ _
  have hc6 := hI.2.2.1
  have lp : ∀ (n_ : Nat) (i x : Nat) (u : ic_w), i ≤ w 115 6 → mo_s2 w u → ((x = 4294967293 ∧ mo_liar (w 115) = mo_liN (w 115) (w 115 6 - i) i) ∨ (x < 6 ∧ mo_liar (w 115) = x)) → w 115 6 - i < n_ → xx l E (ic_fr E mX12_liar 5 0 0 False SHs (ic_qi (fun v_ h_ => v_ = nI (mo_liar (w 115)) ∧ ∃ w2, h_ = hn w2 ∧ mo_s2 w w2))) (0, 0) 23 [(3, .int (nI i)), (2, .int (nI 1)), (1, .int (nI x)), (0, ic_pt E 114)] [] SHs (hn u) := by
    intro n_
    induction n_ with
    | zero => intro i x u hi hs2 hd hm_; exact absurd hm_ (Nat.not_lt_zero _)
    | succ n_ ih_ =>
      intro i x u hi hs2 hd hm_
      have r_u : u 115 = w 115 := mo_s2_115 hs2
      have e6 : u 115 6 = w 115 6 := by rw [r_u]
      have hI_u : In (u 115) := by rw [r_u]; exact hI
      have hP_u : Rp (u 115) := by rw [r_u]; exact hP
      refine xx_iload_n (pc := 23) dX12_liar_23 0 rfl rfl ?_
      refine xx_aload_nP (pc := 24) dX12_liar_24 3 rfl rfl ?_
      refine xx_getR (pc := 25) 115 dX12_liar_25 sh_114 fX12_7_12 rfl rfl (by decide) ?_
      refine xx_bipush (pc := 28) dX12_liar_28 cc_bipush_6 ?_
      refine xx_ialdN (pc := 30) dX12_liar_30 sh_115 (by omega) (by decide) ?_
      refine xx_icmp_geN (pc := 31) 67 dX12_liar_31 rfl (by omega) (by omega) (fun c1 => ?_) (fun c1 => ?_)
      · refine xx_iload_n (pc := 67) dX12_liar_67 2 rfl rfl ?_
        exact xx_iret (pc := 68) dX12_liar_68 rfl (rfl) (Nat.le_refl _) (Nat.le_refl _) (ic_ri ⟨by rcases hd with ⟨q1, q2⟩ | ⟨q1, q2⟩ <;> first | (exfalso; omega) | (rw [q2]; done) | (rw [q2, show w 115 6 - i = 0 by omega, q1]; rfl), u, rfl, hs2⟩)
      · refine xx_iload_n (pc := 34) dX12_liar_34 1 rfl rfl ?_
        refine xx_if_eqN (pc := 35) 67 dX12_liar_35 rfl (by omega) (fun c2 => by exfalso; omega) (fun c2 => ?_)
        refine xx_iload_n (pc := 38) dX12_liar_38 2 rfl rfl ?_
        refine xx_if_geS (pc := 39) 67 dX12_liar_39 rfl (by omega) (fun c3 => ?_) (fun c3 => ?_)
        · refine xx_iload_n (pc := 67) dX12_liar_67 2 rfl rfl ?_
          exact xx_iret (pc := 68) dX12_liar_68 rfl (rfl) (Nat.le_refl _) (Nat.le_refl _) (ic_ri ⟨by rcases hd with ⟨q1, q2⟩ | ⟨q1, q2⟩ <;> first | (exfalso; omega) | (rw [q2]; done) | (rw [q2, show w 115 6 - i = 0 by omega, q1]; rfl), u, rfl, hs2⟩)
        · have hlq : mo_liar (w 115) = mo_liN (w 115) (w 115 6 - i) i := by rcases hd with ⟨q1, q2⟩ | ⟨q1, q2⟩; exact q2; omega
          refine xx_aload_nP (pc := 42) dX12_liar_42 3 rfl rfl ?_
          refine xx_iload_n (pc := 43) dX12_liar_43 0 rfl rfl ?_
          refine xx_callV0 (pc := 44) (st := []) sh_114 (cM_findsFits (w := u) (but := i) (by omega) hI_u hP_u) kX12_findsFits vX12_330_12 dX12_liar_44 rfl rfl (Nat.le_of_ble_eq_true rfl) ⟨Nat.le_of_ble_eq_true rfl, Nat.le_of_ble_eq_true rfl⟩ ⟨Nat.zero_le _, Nat.zero_le _⟩ (ic_kv (fun h_ qw4 => ?_))
          obtain ⟨w4, rfl, s2_w4, f25_w4, f26_w4⟩ := qw4
          have r_w4 : w4 115 = u 115 := mo_s2_115 s2_w4
          have hI_w4 : In (w4 115) := by rw [r_w4]; exact hI_u
          have hP_w4 : Rp (w4 115) := by rw [r_w4]; exact hP_u
          have fl_w4 : w4 114 25 ≤ 500 := by rw [f25_w4]; exact mo_lfs_le _ _
          refine xx_aload_nP (pc := 47) dX12_liar_47 3 rfl rfl ?_
          refine xx_getN (pc := 48) dX12_liar_48 sh_114 fX12_318_12 rfl ?_
          refine xx_if_leN (pc := 51) 58 dX12_liar_51 rfl (by omega) (fun c6 => ?_) (fun c6 => ?_)
          · refine xx_bipush (pc := 58) dX12_liar_58 cc_bipush_m3 ?_
            refine xx_istore_n (L' := [(1, .int (nI 4294967293)), (3, .int (nI i)), (2, .int (nI 1)), (0, ic_pt E 114)]) (pc := 60) dX12_liar_60 rfl (Nat.le_of_ble_eq_true rfl) rfl ?_
            refine xx_iincN (L' := [(3, .int (nI (i + 1))), (1, .int (nI 4294967293)), (2, .int (nI 1)), (0, ic_pt E 114)]) (pc := 61) dX12_liar_61 1 rfl cc_iconst_1 (Nat.le_of_ble_eq_true rfl) rfl ?_
            refine xx_goto (pc := 64) 23 dX12_liar_64 rfl ?_
            have hst : mo_liN (w 115) (w 115 6 - i) i = (if 0 < mo_lfs (w 115) i then i else mo_liN (w 115) (w 115 6 - (i + 1)) (i + 1)) := by rw [show w 115 6 - i = (w 115 6 - (i + 1)) + 1 by omega, mo_liN]
            have hlw : w4 114 25 = mo_lfs (w 115) i := by rw [f25_w4, r_u]
            exact xx_sub [0, 2, 1, 3] rfl (ih_ (i + 1) _ w4 (by omega) (mo_s2_tr hs2 s2_w4) (Or.inl ⟨rfl, by rw [hlq, hst, if_neg (by omega)]⟩) (by omega))
          · refine xx_iload_n (pc := 54) dX12_liar_54 0 rfl rfl ?_
            refine xx_goto (pc := 55) 60 dX12_liar_55 rfl ?_
            refine xx_istore_n (L' := [(1, .int (nI i)), (3, .int (nI i)), (2, .int (nI 1)), (0, ic_pt E 114)]) (pc := 60) dX12_liar_60 rfl (Nat.le_of_ble_eq_true rfl) rfl ?_
            refine xx_iincN (L' := [(3, .int (nI (i + 1))), (1, .int (nI i)), (2, .int (nI 1)), (0, ic_pt E 114)]) (pc := 61) dX12_liar_61 1 rfl cc_iconst_1 (Nat.le_of_ble_eq_true rfl) rfl ?_
            refine xx_goto (pc := 64) 23 dX12_liar_64 rfl ?_
            have hst : mo_liN (w 115) (w 115 6 - i) i = (if 0 < mo_lfs (w 115) i then i else mo_liN (w 115) (w 115 6 - (i + 1)) (i + 1)) := by rw [show w 115 6 - i = (w 115 6 - (i + 1)) + 1 by omega, mo_liN]
            have hlw : w4 114 25 = mo_lfs (w 115) i := by rw [f25_w4, r_u]
            exact xx_sub [0, 2, 1, 3] rfl (ih_ (i + 1) _ w4 (by omega) (mo_s2_tr hs2 s2_w4) (Or.inr ⟨by omega, by rw [hlq, hst, if_pos (by omega)]⟩) (by omega))
  refine xx_aload_nP (pc := 0) dX12_liar_0 0 rfl rfl ?_
  refine xx_iconst (pc := 1) dX12_liar_1 cc_iconst_m1 ?_
  refine xx_callV0 (pc := 2) (st := []) sh_114 (cM_findsFits (w := w) (but := 4294967295) (by omega) hI hP) kX12_findsFits vX12_330_12 dX12_liar_2 rfl rfl (Nat.le_of_ble_eq_true rfl) ⟨Nat.le_of_ble_eq_true rfl, Nat.le_of_ble_eq_true rfl⟩ ⟨Nat.zero_le _, Nat.zero_le _⟩ (ic_kv (fun h_ qw101 => ?_))
  obtain ⟨w101, rfl, s2_w101, f25_w101, f26_w101⟩ := qw101
  have r_w101 : w101 115 = w 115 := mo_s2_115 s2_w101
  have hI_w101 : In (w101 115) := by rw [r_w101]; exact hI
  have hP_w101 : Rp (w101 115) := by rw [r_w101]; exact hP
  have fl_w101 : w101 114 25 ≤ 500 := by rw [f25_w101]; exact mo_lfs_le _ _
  refine xx_bipush (pc := 5) dX12_liar_5 cc_bipush_m3 ?_
  refine xx_istore_n (L' := [(1, .int (nI 4294967293)), (0, ic_pt E 114)]) (pc := 7) dX12_liar_7 rfl (Nat.le_of_ble_eq_true rfl) rfl ?_
  refine xx_aload_nP (pc := 8) dX12_liar_8 1 rfl rfl ?_
  refine xx_getN (pc := 9) dX12_liar_9 sh_114 fX12_318_12 rfl ?_
  refine xx_if_neN (pc := 12) 19 dX12_liar_12 rfl (by omega) (fun c103 => ?_) (fun c103 => ?_)
  · refine xx_iconst (pc := 19) dX12_liar_19 cc_iconst_0 ?_
    refine xx_istore_n (L' := [(2, .int (nI 0)), (1, .int (nI 4294967293)), (0, ic_pt E 114)]) (pc := 20) dX12_liar_20 rfl (Nat.le_of_ble_eq_true rfl) rfl ?_
    refine xx_iconst (pc := 21) dX12_liar_21 cc_iconst_0 ?_
    refine xx_istore_n (L' := [(3, .int (nI 0)), (2, .int (nI 0)), (1, .int (nI 4294967293)), (0, ic_pt E 114)]) (pc := 22) dX12_liar_22 rfl (Nat.le_of_ble_eq_true rfl) rfl ?_
    have e6 : w101 115 6 = w 115 6 := by rw [r_w101]
    refine xx_iload_n (pc := 23) dX12_liar_23 0 rfl rfl ?_
    refine xx_aload_nP (pc := 24) dX12_liar_24 3 rfl rfl ?_
    refine xx_getR (pc := 25) 115 dX12_liar_25 sh_114 fX12_7_12 rfl rfl (by decide) ?_
    refine xx_bipush (pc := 28) dX12_liar_28 cc_bipush_6 ?_
    refine xx_ialdN (pc := 30) dX12_liar_30 sh_115 (by omega) (by decide) ?_
    refine xx_icmp_geN (pc := 31) 67 dX12_liar_31 rfl (by omega) (by omega) (fun c104 => ?_) (fun c104 => ?_)
    · refine xx_iload_n (pc := 67) dX12_liar_67 2 rfl rfl ?_
      exact xx_iret (pc := 68) dX12_liar_68 rfl (rfl) (Nat.le_refl _) (Nat.le_refl _) (ic_ri ⟨by unfold mo_liar; rw [← f25_w101, if_neg (by omega)], w101, rfl, s2_w101⟩)
    · refine xx_iload_n (pc := 34) dX12_liar_34 1 rfl rfl ?_
      refine xx_if_eqN (pc := 35) 67 dX12_liar_35 rfl (by omega) (fun c105 => ?_) (fun c105 => by exfalso; omega)
      refine xx_iload_n (pc := 67) dX12_liar_67 2 rfl rfl ?_
      exact xx_iret (pc := 68) dX12_liar_68 rfl (rfl) (Nat.le_refl _) (Nat.le_refl _) (ic_ri ⟨by unfold mo_liar; rw [← f25_w101, if_neg (by omega)], w101, rfl, s2_w101⟩)
  · refine xx_iconst (pc := 15) dX12_liar_15 cc_iconst_1 ?_
    refine xx_goto (pc := 16) 20 dX12_liar_16 rfl ?_
    refine xx_istore_n (L' := [(2, .int (nI 1)), (1, .int (nI 4294967293)), (0, ic_pt E 114)]) (pc := 20) dX12_liar_20 rfl (Nat.le_of_ble_eq_true rfl) rfl ?_
    refine xx_iconst (pc := 21) dX12_liar_21 cc_iconst_0 ?_
    refine xx_istore_n (L' := [(3, .int (nI 0)), (2, .int (nI 1)), (1, .int (nI 4294967293)), (0, ic_pt E 114)]) (pc := 22) dX12_liar_22 rfl (Nat.le_of_ble_eq_true rfl) rfl ?_
    exact xx_sub [0, 1, 2, 3] rfl (lp (w 115 6 + 1) 0 4294967293 w101 (by omega) s2_w101 (Or.inl ⟨rfl, by unfold mo_liar; rw [← f25_w101, if_pos (by omega)]; rfl⟩) (by omega))

set_option maxHeartbeats 4000000 in
set_option maxRecDepth 100000 in
theorem cM_goesByLot {l : Launch} {E : ic_E} {w : ic_w} (hI : In (w 115)) (hR : Ru (w 115)) (htt : w 115 1 < w 115 2) : ic_C l E mX12_goesByLot 6 0 0 False [ic_pt E 114] SHs (hn w) SHs (ic_qi (fun v_ h_ => v_ = nI (mo_lw (w 115)) ∧ ∃ w2, h_ = hn w2 ∧ w2 115 = mo_lgo (w 115) ∧ ∀ a, a ≠ 115 → a ≠ 120 → w2 a = w a)) := by
  refine ic_intro (by decide +kernel) (Nat.le_of_ble_eq_true rfl) ?_
  show xx l E _ _ 0 [(0, ic_pt E 114)] _ _ _
  have hn0 := hI.n
  refine xx_aload_nP (pc := 0) dX12_goesByLot_0 0 rfl rfl ?_
  refine xx_getR (pc := 1) 115 dX12_goesByLot_1 sh_114 fX12_7_12 rfl rfl (by decide) ?_
  refine xx_iconst (pc := 4) dX12_goesByLot_4 cc_iconst_4 ?_
  refine xx_aload_nP (pc := 5) dX12_goesByLot_5 0 rfl rfl ?_
  refine xx_getR (pc := 6) 115 dX12_goesByLot_6 sh_114 fX12_7_12 rfl rfl (by decide) ?_
  refine xx_iconst (pc := 9) dX12_goesByLot_9 cc_iconst_4 ?_
  refine xx_ialdN (pc := 10) dX12_goesByLot_10 sh_115 (by omega) (by decide) ?_
  refine xx_ldcw (v := nI 1103515245) (pc := 11) dX12_goesByLot_11 oX12_333 ?_
  refine xx_imulN (pc := 14) dX12_goesByLot_14 ?_
  refine xx_sipush (pc := 15) dX12_goesByLot_15 cc_sipush_12345 ?_
  refine xx_iaddN (pc := 18) dX12_goesByLot_18 ?_
  refine xx_eqI (y := nI ((((w 115 4) * 1103515245) + 12345) % 4294967296)) (nI_mod _).symm ?_
  refine xx_iastN (pc := 19) dX12_goesByLot_19 sh_115 (by omega) (by decide) ?_
  refine xx_nw (fun w1 ew1 => ?_)
  have r_w1 : w1 115 = mo_zs (w 115) := by rw [ew1, wu_wr, wr_s]; rfl
  have z4 : w1 115 4 = mo_z (w 115 4) := by rw [r_w1]; exact fu_s _ _ _
  have z4l := mo_z_lt (w 115 4)
  have hI_w1 : In (w1 115) := by rw [r_w1]; exact In_zs hI
  have hR_w1 : Ru (w1 115) := by rw [r_w1]; exact Ru_zs hR
  have z0 : w1 115 0 = w 115 0 := by rw [r_w1]; exact mo_zs_n _ (by omega)
  have z1 : w1 115 1 = w 115 1 := by rw [r_w1]; exact mo_zs_n _ (by omega)
  have z2 : w1 115 2 = w 115 2 := by rw [r_w1]; exact mo_zs_n _ (by omega)
  have hpq : w1 115 4 / 2 ^ 16 < 2 ^ 31 := by omega
  have hml := Nat.mod_lt (w1 115 4 / 2 ^ 16) (show w1 115 0 + 1 > 0 by omega)
  refine xx_aload_nP (pc := 20) dX12_goesByLot_20 0 rfl rfl ?_
  refine xx_aload_nP (pc := 21) dX12_goesByLot_21 0 rfl rfl ?_
  refine xx_getR (pc := 22) 115 dX12_goesByLot_22 sh_114 fX12_7_12 rfl rfl (by decide) ?_
  refine xx_iconst (pc := 25) dX12_goesByLot_25 cc_iconst_4 ?_
  refine xx_ialdN (pc := 26) dX12_goesByLot_26 sh_115 (by omega) (by decide) ?_
  refine xx_bipush (pc := 27) dX12_goesByLot_27 cc_bipush_16 ?_
  refine xx_iushrN (pc := 29) dX12_goesByLot_29 (by omega) (by omega) ?_
  refine xx_aload_nP (pc := 30) dX12_goesByLot_30 0 rfl rfl ?_
  refine xx_getR (pc := 31) 115 dX12_goesByLot_31 sh_114 fX12_7_12 rfl rfl (by decide) ?_
  refine xx_iconst (pc := 34) dX12_goesByLot_34 cc_iconst_0 ?_
  refine xx_ialdN (pc := 35) dX12_goesByLot_35 sh_115 (by omega) (by decide) ?_
  refine xx_iconst (pc := 36) dX12_goesByLot_36 cc_iconst_1 ?_
  refine xx_iaddN (pc := 37) dX12_goesByLot_37 ?_
  refine xx_iremN (pc := 38) dX12_goesByLot_38 (by omega) (by omega) (by omega) ?_
  have hwl_x2 := mo_worth_le hI_w1 (act := ((w1 115 4) / 2 ^ 16) % ((w1 115 0) + 1)) (by omega)
  refine xx_callV0 (pc := 39) (st := []) sh_114 (cM_goesWith (w := w1) (act := ((w1 115 4) / 2 ^ 16) % ((w1 115 0) + 1)) (by omega) (by omega) hI_w1 hR_w1 (by omega)) kX12_goesWith vX12_248_12 dX12_goesByLot_39 rfl rfl (Nat.le_of_ble_eq_true rfl) ⟨Nat.le_of_ble_eq_true rfl, Nat.le_of_ble_eq_true rfl⟩ ⟨Nat.zero_le _, Nat.zero_le _⟩ (ic_ki (fun v4 h_ qw3 => ?_))
  obtain ⟨rfl, w3, rfl, gw3⟩ := qw3
  have hI_w3 : In (w3 115) := by rw [gw3.1]; exact In_go hI_w1 (by omega) (by omega)
  have hR_w3 : Ru (w3 115) := by rw [gw3.1]; exact Ru_go hR_w1 hI_w1 (by omega)
  have z4b : mo_zs (w 115) 4 = mo_z (w 115 4) := fu_s _ _ _
  have z0b : mo_zs (w 115) 0 = w 115 0 := mo_zs_n _ (by omega)
  exact xx_iret (pc := 42) dX12_goesByLot_42 rfl (rfl) (Nat.le_refl _) (Nat.le_refl _) (ic_ri ⟨by unfold mo_lw mo_za; rw [r_w1, z4b, z0b], w3, rfl, by rw [gw3.1]; unfold mo_lgo mo_za; rw [r_w1, z4b, z0b], fun a q1 q2 => by rw [gw3.2 a q1 q2, ew1, wu_row _ _ _ q1]⟩)

set_option maxHeartbeats 4000000 in
set_option maxRecDepth 100000 in
theorem cM_lot {l : Launch} {E : ic_E} {w : ic_w} (hI : In (w 115)) (hR : Ru (w 115)) : ic_C l E mX12_lot 7 0 0 False [ic_pt E 114] SHs (hn w) SHs (ic_qi (fun v_ h_ => v_ = nI (if w 115 2 ≤ w 115 1 then 4294967292 else mo_lw (w 115)) ∧ ∃ w2, h_ = hn w2 ∧ (if w 115 2 ≤ w 115 1 then w2 = w else (w2 115 = mo_lgo (w 115) ∧ ∀ a, a ≠ 115 → a ≠ 120 → w2 a = w a)))) := by
  refine ic_intro (by decide +kernel) (Nat.le_of_ble_eq_true rfl) ?_
  show xx l E _ _ 0 [(0, ic_pt E 114)] _ _ _
  have htx := hI.t
  refine xx_aload_nP (pc := 0) dX12_lot_0 0 rfl rfl ?_
  refine xx_callV0 (pc := 1) (st := []) sh_114 (cM_isOver (w := w) hI) kX12_isOver vX12_140_12 dX12_lot_1 rfl rfl (Nat.le_of_ble_eq_true rfl) ⟨Nat.le_of_ble_eq_true rfl, Nat.le_of_ble_eq_true rfl⟩ ⟨Nat.zero_le _, Nat.zero_le _⟩ (ic_ke ?_)
  refine xx_if_eqB (pc := 4) 12 dX12_lot_4 rfl (fun c1 => ?_) (fun c1 => ?_)
  · refine xx_aload_nP (pc := 12) dX12_lot_12 0 rfl rfl ?_
    have hlw_x2 := mo_lw_le hI
    refine xx_callV0 (pc := 13) (st := []) sh_114 (cM_goesByLot (w := w) hI hR (by omega)) kX12_goesByLot vX12_334_12 dX12_lot_13 rfl rfl (Nat.le_of_ble_eq_true rfl) ⟨Nat.le_of_ble_eq_true rfl, Nat.le_of_ble_eq_true rfl⟩ ⟨Nat.zero_le _, Nat.zero_le _⟩ (ic_ki (fun v4 h_ qw3 => ?_))
    obtain ⟨rfl, w3, rfl, gw3⟩ := qw3
    have hI_w3 : In (w3 115) := by rw [gw3.1]; exact In_lgo hI (by omega)
    have hR_w3 : Ru (w3 115) := by rw [gw3.1]; exact Ru_lgo hR hI
    exact xx_iret (pc := 16) dX12_lot_16 rfl (rfl) (Nat.le_refl _) (Nat.le_refl _) (ic_ri ⟨by rw [if_neg (by omega)], w3, rfl, by rw [if_neg (by omega)]; exact gw3⟩)
  · refine xx_bipush (pc := 7) dX12_lot_7 cc_bipush_m4 ?_
    refine xx_goto (pc := 9) 16 dX12_lot_9 rfl ?_
    exact xx_iret (pc := 16) dX12_lot_16 rfl (rfl) (Nat.le_refl _) (Nat.le_refl _) (ic_ri ⟨by rw [if_pos (by omega)], w, rfl, by rw [if_pos (by omega)]⟩)

set_option maxHeartbeats 4000000 in
set_option maxRecDepth 100000 in
theorem cM_times {l : Launch} {E : ic_E} {w : ic_w} {a : Nat} (ha_ : a < 2 ^ 32) {b : Nat} (hb_ : b < 2 ^ 32) (hI : In (w 115)) (hR : Ru (w 115)) : ic_C l E mX12_times 8 0 0 False [ic_pt E 114, .int (nI a), .int (nI b)] SHs (hn w) SHs (ic_qi (fun v_ h_ => v_ = nI (if (1 ≤ a ∧ a ≤ 40) ∧ b ≤ 999 then mo_times (w 115) a b else 4294967295) ∧ ∃ w2, h_ = hn w2 ∧ mo_sc w w2)) := by
  refine ic_intro (by decide +kernel) (Nat.le_of_ble_eq_true rfl) ?_
  show xx l E _ _ 0 [(0, ic_pt E 114), (1, .int (nI a)), (2, .int (nI b))] _ _ _
  refine xx_iload_n (pc := 0) dX12_times_0 1 rfl rfl ?_
  refine xx_i2l (pc := 1) dX12_times_1 ?_
  refine xx_lconst (v := 1) (pc := 2) dX12_times_2 rfl ?_
  refine xx_ldc2 (v := 40) (pc := 3) dX12_times_3 oX12_337 ?_
  refine xx_callS0 (pc := 6) (st := []) (cM_isIn (1 ≤ a ∧ a ≤ 40) (ll_in (lo := 1) (hi := 40) (by omega) (by decide) (by decide) (by omega))) kX12_isIn sX12_66 dX12_times_6 rfl rfl (Nat.le_of_ble_eq_true rfl) ⟨Nat.le_of_ble_eq_true rfl, Nat.le_of_ble_eq_true rfl⟩ ⟨Nat.zero_le _, Nat.zero_le _⟩ (ic_ke ?_)
  refine xx_if_eqB (pc := 9) 24 dX12_times_9 rfl (fun c1 => ?_) (fun c1 => ?_)
  · refine xx_iconst (pc := 24) dX12_times_24 cc_iconst_m1 ?_
    exact xx_iret (pc := 25) dX12_times_25 rfl (rfl) (Nat.le_refl _) (Nat.le_refl _) (ic_ri ⟨by rw [if_neg (by omega)], w, rfl, fun _ _ _ => rfl⟩)
  · refine xx_iload_n (pc := 12) dX12_times_12 2 rfl rfl ?_
    refine xx_i2l (pc := 13) dX12_times_13 ?_
    refine xx_lconst (v := 0) (pc := 14) dX12_times_14 rfl ?_
    refine xx_ldc2 (v := 999) (pc := 15) dX12_times_15 oX12_339 ?_
    refine xx_callS0 (pc := 18) (st := []) (cM_isIn (0 ≤ b ∧ b ≤ 999) (ll_in (lo := 0) (hi := 999) (by omega) (by decide) (by decide) (by omega))) kX12_isIn sX12_66 dX12_times_18 rfl rfl (Nat.le_of_ble_eq_true rfl) ⟨Nat.le_of_ble_eq_true rfl, Nat.le_of_ble_eq_true rfl⟩ ⟨Nat.zero_le _, Nat.zero_le _⟩ (ic_ke ?_)
    refine xx_if_neB (pc := 21) 26 dX12_times_21 rfl (fun c2 => ?_) (fun c2 => ?_)
    · refine xx_aload_nP (pc := 26) dX12_times_26 0 rfl rfl ?_
      refine xx_iconst (pc := 27) dX12_times_27 cc_iconst_0 ?_
      refine xx_callV0 (pc := 28) (st := []) sh_114 (cM_laysAside (w := w) (lv := 0) (by omega)) kX12_laysAside vX12_251_12 dX12_times_28 rfl rfl (Nat.le_of_ble_eq_true rfl) ⟨Nat.le_of_ble_eq_true rfl, Nat.le_of_ble_eq_true rfl⟩ ⟨Nat.zero_le _, Nat.zero_le _⟩ (ic_kv (fun h_ qw3 => ?_))
      obtain rfl := qw3
      refine xx_nw (fun w3 ew3 => ?_)
      refine xx_iconst (pc := 31) dX12_times_31 cc_iconst_0 ?_
      refine xx_istore_n (L' := [(3, .int (nI 0)), (0, ic_pt E 114), (1, .int (nI a)), (2, .int (nI b))]) (pc := 32) dX12_times_32 rfl (Nat.le_of_ble_eq_true rfl) rfl ?_
      refine xx_iconst (pc := 33) dX12_times_33 cc_iconst_0 ?_
      refine xx_istore (L' := [(4, .int (nI 0)), (3, .int (nI 0)), (0, ic_pt E 114), (1, .int (nI a)), (2, .int (nI b))]) (pc := 34) dX12_times_34 (Nat.le_of_ble_eq_true rfl) rfl ?_
      have h117 : ∀ j, j < 44 → w3 117 j = w 115 j := fun j hj => by rw [ew3, wr_s]; unfold mo_cp; rw [if_pos (by omega)]; congr 1; omega
      have r_W : w3 115 = w 115 := by rw [ew3, wr_n _ (by omega)]
      have lk : ∀ (n_ : Nat) (k ct : Nat) (u : ic_w), k ≤ a → ct = mo_cnt (fun k => decide (b ≤ mo_lsum 16 (fu (w 115) 4 (mo_tz (w 115) k)))) k → u 115 4 = mo_tz (w 115) k → In (u 115) → Ru (u 115) → (∀ k, 44 ≤ k → u 115 k = w 115 k) → (∀ a, a ≠ 115 → a ≠ 120 → u a = w3 a) → a - k < n_ → xx l E (ic_fr E mX12_times 8 0 0 False SHs (ic_qi (fun v_ h_ => v_ = nI (if (1 ≤ a ∧ a ≤ 40) ∧ b ≤ 999 then mo_times (w 115) a b else 4294967295) ∧ ∃ w2, h_ = hn w2 ∧ mo_sc w w2))) (0, 0) 36 [(4, .int (nI k)), (3, .int (nI ct)), (0, ic_pt E 114), (1, .int (nI a)), (2, .int (nI b))] [] SHs (hn u) := by
        intro n_
        induction n_ with
        | zero => intro k ct u hk hct hz hI_u hR_u h44 hr hm_; exact absurd hm_ (Nat.not_lt_zero _)
        | succ n_ ihk_ =>
          intro k ct u hk hct hz hI_u hR_u h44 hr hm_
          have hcl := mo_cnt_le (fun k => decide (b ≤ mo_lsum 16 (fu (w 115) 4 (mo_tz (w 115) k)))) k
          refine xx_iload (pc := 36) dX12_times_36 0 rfl ?_
          refine xx_iload_n (pc := 38) dX12_times_38 3 rfl rfl ?_
          refine xx_icmp_geN (pc := 39) 119 dX12_times_39 rfl (by omega) (by omega) (fun c55 => ?_) (fun c55 => ?_)
          · refine xx_aload_nP (pc := 119) dX12_times_119 2 rfl rfl ?_
            refine xx_iconst (pc := 120) dX12_times_120 cc_iconst_0 ?_
            refine xx_callV0 (pc := 121) (st := []) sh_114 (cM_laysBack (w := u) (lv := 0) (by omega)) kX12_laysBack vX12_255_12 dX12_times_121 rfl rfl (Nat.le_of_ble_eq_true rfl) ⟨Nat.le_of_ble_eq_true rfl, Nat.le_of_ble_eq_true rfl⟩ ⟨Nat.zero_le _, Nat.zero_le _⟩ (ic_kv (fun h_ qw56 => ?_))
            obtain rfl := qw56
            refine xx_nw (fun w56 ew56 => ?_)
            refine xx_iload_n (pc := 124) dX12_times_124 1 rfl rfl ?_
            exact xx_iret (pc := 125) dX12_times_125 rfl (rfl) (Nat.le_refl _) (Nat.le_refl _) (ic_ri ⟨by rw [if_pos (by omega), hct, show k = a by omega]; rfl, w56, rfl, by rw [ew56]; exact mo_back h44 (fun j hj => by rw [hr 117 (by omega) (by omega)]; exact h117 j hj) (fun a q1 q2 q3 => by rw [hr a q1 q3, ew3, wr_n _ q2])⟩)
          · refine xx_aload_nP (pc := 42) dX12_times_42 2 rfl rfl ?_
            refine xx_getR (pc := 43) 115 dX12_times_43 sh_114 fX12_7_12 rfl rfl (by decide) ?_
            refine xx_iconst (pc := 46) dX12_times_46 cc_iconst_4 ?_
            refine xx_ialdN (pc := 47) dX12_times_47 sh_115 (by omega) (by decide) ?_
            refine xx_istore (L' := [(5, .int (nI (u 115 4))), (4, .int (nI k)), (3, .int (nI ct)), (0, ic_pt E 114), (1, .int (nI a)), (2, .int (nI b))]) (pc := 48) dX12_times_48 (Nat.le_of_ble_eq_true rfl) rfl ?_
            refine xx_aload_nP (pc := 50) dX12_times_50 3 rfl rfl ?_
            refine xx_iconst (pc := 51) dX12_times_51 cc_iconst_0 ?_
            refine xx_callV0 (pc := 52) (st := []) sh_114 (cM_laysBack (w := u) (lv := 0) (by omega)) kX12_laysBack vX12_255_12 dX12_times_52 rfl rfl (Nat.le_of_ble_eq_true rfl) ⟨Nat.le_of_ble_eq_true rfl, Nat.le_of_ble_eq_true rfl⟩ ⟨Nat.zero_le _, Nat.zero_le _⟩ (ic_kv (fun h_ qw58 => ?_))
            obtain rfl := qw58
            refine xx_nw (fun w58 ew58 => ?_)
            have b_w58 : mo_sc w w58 := by rw [ew58]; exact mo_back h44 (fun j hj => by rw [hr 117 (by omega) (by omega)]; exact h117 j hj) (fun a q1 q2 q3 => by rw [hr a q1 q3, ew3, wr_n _ q2])
            have rb_w58 : w58 115 = w 115 := b_w58 115 (by omega) (by omega)
            refine xx_aload_nP (pc := 55) dX12_times_55 3 rfl rfl ?_
            refine xx_getR (pc := 56) 115 dX12_times_56 sh_114 fX12_7_12 rfl rfl (by decide) ?_
            refine xx_iconst (pc := 59) dX12_times_59 cc_iconst_4 ?_
            refine xx_iload (pc := 60) dX12_times_60 1 rfl ?_
            refine xx_if_neN (pc := 62) 74 dX12_times_62 rfl (by omega) (fun c60 => ?_) (fun c60 => ?_)
            · refine xx_iload (pc := 74) dX12_times_74 0 rfl ?_
              refine xx_iastN (pc := 76) dX12_times_76 sh_115 (by omega) (by decide) ?_
              refine xx_nw (fun w61 ew61 => ?_)
              have r_w61 : w61 115 = (fu (w 115) 4 (mo_tz (w 115) k)) := by rw [ew61, wu_wr, wr_s, rb_w58]; first | rw [hz] | (rw [show k = 0 by omega]; rfl)
              have hzl : mo_tz (w 115) k < 2 ^ 32 := by rw [← hz]; exact hI_u.2.2.2.2.2.2 4 (by omega)
              have hI_w61 : In (w61 115) := by rw [r_w61]; exact In_z hI hzl
              have hR_w61 : Ru (w61 115) := by rw [r_w61]; exact Ru_z hR
              have k44_w61 : ∀ k, 44 ≤ k → w61 115 k = w 115 k := fun k hk => by rw [r_w61]; exact fu_n _ (by omega)
              have ko_w61 : ∀ a, a ≠ 115 → a ≠ 120 → w61 a = w3 a := fun a q1 q2 => by rw [ew61, wu_row _ _ _ q1, ew58, wr_n _ q1]; exact hr a q1 q2
              refine xx_iconst (pc := 77) dX12_times_77 cc_iconst_0 ?_
              refine xx_istore (L' := [(6, .int (nI 0)), (5, .int (nI (u 115 4))), (4, .int (nI k)), (3, .int (nI ct)), (0, ic_pt E 114), (1, .int (nI a)), (2, .int (nI b))]) (pc := 78) dX12_times_78 (Nat.le_of_ble_eq_true rfl) rfl ?_
              have lq : ∀ (n_ : Nat) (m sm : Nat) (v : ic_w), m ≤ 16 → sm ≤ 33 * (16 - m) → v 115 2 - v 115 1 ≤ m → mo_lsum 16 (fu (w 115) 4 (mo_tz (w 115) k)) = sm + mo_lsum m (v 115) → mo_lrun 16 (fu (w 115) 4 (mo_tz (w 115) k)) = mo_lrun m (v 115) → In (v 115) → Ru (v 115) → (∀ k, 44 ≤ k → v 115 k = w 115 k) → (∀ a, a ≠ 115 → a ≠ 120 → v a = w3 a) → m < n_ → xx l E (ic_fr E mX12_times 8 0 0 False SHs (ic_qi (fun v_ h_ => v_ = nI (if (1 ≤ a ∧ a ≤ 40) ∧ b ≤ 999 then mo_times (w 115) a b else 4294967295) ∧ ∃ w2, h_ = hn w2 ∧ mo_sc w w2))) (0, 0) 80 [(6, .int (nI sm)), (4, .int (nI k)), (3, .int (nI ct)), (0, ic_pt E 114), (1, .int (nI a)), (2, .int (nI b))] [] SHs (hn v) := by
                intro n_
                induction n_ with
                | zero => intro m sm v hm hsl hmt hsum hrun hI_v hR_v k44 ko hm_; exact absurd hm_ (Nat.not_lt_zero _)
                | succ n_ ih_ =>
                  intro m sm v hm hsl hmt hsum hrun hI_v hR_v k44 ko hm_
                  have htv := hI_v.t
                  refine xx_aload_nP (pc := 80) dX12_times_80 3 rfl rfl ?_
                  refine xx_callV0 (pc := 81) (st := []) sh_114 (cM_isOver (w := v) hI_v) kX12_isOver vX12_140_12 dX12_times_81 rfl rfl (Nat.le_of_ble_eq_true rfl) ⟨Nat.le_of_ble_eq_true rfl, Nat.le_of_ble_eq_true rfl⟩ ⟨Nat.zero_le _, Nat.zero_le _⟩ (ic_ke ?_)
                  refine xx_if_neB (pc := 84) 99 dX12_times_84 rfl (fun c112 => ?_) (fun c112 => ?_)
                  · refine xx_iload_n (pc := 99) dX12_times_99 2 rfl rfl ?_
                    refine xx_iload (pc := 100) dX12_times_100 0 rfl ?_
                    refine xx_iload_n (pc := 102) dX12_times_102 5 rfl rfl ?_
                    refine xx_icmp_ltN (pc := 103) 110 dX12_times_103 rfl (by omega) (by omega) (fun c113 => ?_) (fun c113 => ?_)
                    · refine xx_iconst (pc := 110) dX12_times_110 cc_iconst_0 ?_
                      refine xx_iaddN (pc := 111) dX12_times_111 ?_
                      refine xx_istore_n (L' := [(3, .int (nI (ct + 0))), (6, .int (nI sm)), (4, .int (nI k)), (0, ic_pt E 114), (1, .int (nI a)), (2, .int (nI b))]) (pc := 112) dX12_times_112 rfl (Nat.le_of_ble_eq_true rfl) rfl ?_
                      refine xx_iincN (L' := [(4, .int (nI (k + 1))), (3, .int (nI (ct + 0))), (6, .int (nI sm)), (0, ic_pt E 114), (1, .int (nI a)), (2, .int (nI b))]) (pc := 113) dX12_times_113 2 rfl cc_iconst_1 (Nat.le_of_ble_eq_true rfl) rfl ?_
                      refine xx_goto (pc := 116) 36 dX12_times_116 rfl ?_
                      have hsv : mo_lsum 16 (fu (w 115) 4 (mo_tz (w 115) k)) = sm := by rw [hsum, mo_lsum_e (by omega)]; rfl
                      have hrv : mo_lrun 16 (fu (w 115) 4 (mo_tz (w 115) k)) = v 115 := by rw [hrun, mo_lrun_e (by omega)]
                      exact xx_sub [0, 1, 3, 4, 5] rfl (ihk_ (k + 1) _ v (by omega) (by rw [hct]; exact (mo_cnt_f (by rw [hsv]; exact decide_eq_false (by omega))).symm) (by rw [mo_tz, hrv]) hI_v hR_v k44 ko (by omega))
                    · refine xx_iconst (pc := 106) dX12_times_106 cc_iconst_1 ?_
                      refine xx_goto (pc := 107) 111 dX12_times_107 rfl ?_
                      refine xx_iaddN (pc := 111) dX12_times_111 ?_
                      refine xx_istore_n (L' := [(3, .int (nI (ct + 1))), (6, .int (nI sm)), (4, .int (nI k)), (0, ic_pt E 114), (1, .int (nI a)), (2, .int (nI b))]) (pc := 112) dX12_times_112 rfl (Nat.le_of_ble_eq_true rfl) rfl ?_
                      refine xx_iincN (L' := [(4, .int (nI (k + 1))), (3, .int (nI (ct + 1))), (6, .int (nI sm)), (0, ic_pt E 114), (1, .int (nI a)), (2, .int (nI b))]) (pc := 113) dX12_times_113 2 rfl cc_iconst_1 (Nat.le_of_ble_eq_true rfl) rfl ?_
                      refine xx_goto (pc := 116) 36 dX12_times_116 rfl ?_
                      have hsv : mo_lsum 16 (fu (w 115) 4 (mo_tz (w 115) k)) = sm := by rw [hsum, mo_lsum_e (by omega)]; rfl
                      have hrv : mo_lrun 16 (fu (w 115) 4 (mo_tz (w 115) k)) = v 115 := by rw [hrun, mo_lrun_e (by omega)]
                      exact xx_sub [0, 1, 3, 4, 5] rfl (ihk_ (k + 1) _ v (by omega) (by rw [hct]; exact (mo_cnt_t (by rw [hsv]; exact decide_eq_true (by omega))).symm) (by rw [mo_tz, hrv]) hI_v hR_v k44 ko (by omega))
                  · refine xx_iload (pc := 87) dX12_times_87 0 rfl ?_
                    refine xx_aload_nP (pc := 89) dX12_times_89 3 rfl rfl ?_
                    have hlw_x114 := mo_lw_le hI_v
                    refine xx_callV0 (pc := 90) (st := [.int (nI sm)]) sh_114 (cM_goesByLot (w := v) hI_v hR_v (by omega)) kX12_goesByLot vX12_334_12 dX12_times_90 rfl rfl (Nat.le_of_ble_eq_true rfl) ⟨Nat.le_of_ble_eq_true rfl, Nat.le_of_ble_eq_true rfl⟩ ⟨Nat.zero_le _, Nat.zero_le _⟩ (ic_ki (fun v116 h_ qw115 => ?_))
                    obtain ⟨rfl, w115, rfl, gw115⟩ := qw115
                    have hI_w115 : In (w115 115) := by rw [gw115.1]; exact In_lgo hI_v (by omega)
                    have hR_w115 : Ru (w115 115) := by rw [gw115.1]; exact Ru_lgo hR_v hI_v
                    refine xx_iaddN (pc := 93) dX12_times_93 ?_
                    refine xx_istore (L' := [(6, .int (nI (sm + (mo_lw (v 115))))), (4, .int (nI k)), (3, .int (nI ct)), (0, ic_pt E 114), (1, .int (nI a)), (2, .int (nI b))]) (pc := 94) dX12_times_94 (Nat.le_of_ble_eq_true rfl) rfl ?_
                    refine xx_goto (pc := 96) 80 dX12_times_96 rfl ?_
                    obtain ⟨m2, rfl⟩ : ∃ m2, m = m2 + 1 := ⟨m - 1, by omega⟩
                    exact xx_sub [0, 1, 2, 3, 4, 5] rfl (ih_ m2 _ w115 (by omega) (by omega) (by rw [gw115.1, mo_lgo_1, mo_lgo_r hI_v (by omega)]; omega) (by rw [hsum, mo_lsum, if_neg (by omega), gw115.1, Nat.add_assoc]) (by rw [hrun, mo_lrun, if_neg (by omega), gw115.1]) hI_w115 hR_w115 (fun k hk => by rw [gw115.1, mo_lgo_r hI_v (by omega)]; exact k44 k hk) (fun a q1 q2 => by rw [gw115.2 a q1 q2]; exact ko a q1 q2) (by omega))
              have ht2 := hI_w61.t
              exact xx_sub [0, 2, 3, 4, 5, 6] rfl (lq 17 16 0 w61 (by omega) (by omega) (by omega) (by rw [Nat.zero_add, r_w61]) (by rw [r_w61]) hI_w61 hR_w61 k44_w61 ko_w61 (by omega))
            · refine xx_aload_nP (pc := 65) dX12_times_65 3 rfl rfl ?_
              refine xx_getR (pc := 66) 115 dX12_times_66 sh_114 fX12_7_12 rfl rfl (by decide) ?_
              refine xx_iconst (pc := 69) dX12_times_69 cc_iconst_4 ?_
              refine xx_ialdN (pc := 70) dX12_times_70 sh_115 (by omega) (by decide) ?_
              refine xx_goto (pc := 71) 76 dX12_times_71 rfl ?_
              refine xx_iastN (pc := 76) dX12_times_76 sh_115 (by omega) (by decide) ?_
              refine xx_nw (fun w62 ew62 => ?_)
              have r_w62 : w62 115 = (fu (w 115) 4 (mo_tz (w 115) k)) := by rw [ew62, wu_wr, wr_s, rb_w58]; first | rw [hz] | (rw [show k = 0 by omega]; rfl)
              have hzl : mo_tz (w 115) k < 2 ^ 32 := by rw [← hz]; exact hI_u.2.2.2.2.2.2 4 (by omega)
              have hI_w62 : In (w62 115) := by rw [r_w62]; exact In_z hI hzl
              have hR_w62 : Ru (w62 115) := by rw [r_w62]; exact Ru_z hR
              have k44_w62 : ∀ k, 44 ≤ k → w62 115 k = w 115 k := fun k hk => by rw [r_w62]; exact fu_n _ (by omega)
              have ko_w62 : ∀ a, a ≠ 115 → a ≠ 120 → w62 a = w3 a := fun a q1 q2 => by rw [ew62, wu_row _ _ _ q1, ew58, wr_n _ q1]; exact hr a q1 q2
              refine xx_iconst (pc := 77) dX12_times_77 cc_iconst_0 ?_
              refine xx_istore (L' := [(6, .int (nI 0)), (5, .int (nI (u 115 4))), (4, .int (nI k)), (3, .int (nI ct)), (0, ic_pt E 114), (1, .int (nI a)), (2, .int (nI b))]) (pc := 78) dX12_times_78 (Nat.le_of_ble_eq_true rfl) rfl ?_
              have lq : ∀ (n_ : Nat) (m sm : Nat) (v : ic_w), m ≤ 16 → sm ≤ 33 * (16 - m) → v 115 2 - v 115 1 ≤ m → mo_lsum 16 (fu (w 115) 4 (mo_tz (w 115) k)) = sm + mo_lsum m (v 115) → mo_lrun 16 (fu (w 115) 4 (mo_tz (w 115) k)) = mo_lrun m (v 115) → In (v 115) → Ru (v 115) → (∀ k, 44 ≤ k → v 115 k = w 115 k) → (∀ a, a ≠ 115 → a ≠ 120 → v a = w3 a) → m < n_ → xx l E (ic_fr E mX12_times 8 0 0 False SHs (ic_qi (fun v_ h_ => v_ = nI (if (1 ≤ a ∧ a ≤ 40) ∧ b ≤ 999 then mo_times (w 115) a b else 4294967295) ∧ ∃ w2, h_ = hn w2 ∧ mo_sc w w2))) (0, 0) 80 [(6, .int (nI sm)), (4, .int (nI k)), (3, .int (nI ct)), (0, ic_pt E 114), (1, .int (nI a)), (2, .int (nI b))] [] SHs (hn v) := by
                intro n_
                induction n_ with
                | zero => intro m sm v hm hsl hmt hsum hrun hI_v hR_v k44 ko hm_; exact absurd hm_ (Nat.not_lt_zero _)
                | succ n_ ih_ =>
                  intro m sm v hm hsl hmt hsum hrun hI_v hR_v k44 ko hm_
                  have htv := hI_v.t
                  refine xx_aload_nP (pc := 80) dX12_times_80 3 rfl rfl ?_
                  refine xx_callV0 (pc := 81) (st := []) sh_114 (cM_isOver (w := v) hI_v) kX12_isOver vX12_140_12 dX12_times_81 rfl rfl (Nat.le_of_ble_eq_true rfl) ⟨Nat.le_of_ble_eq_true rfl, Nat.le_of_ble_eq_true rfl⟩ ⟨Nat.zero_le _, Nat.zero_le _⟩ (ic_ke ?_)
                  refine xx_if_neB (pc := 84) 99 dX12_times_84 rfl (fun c113 => ?_) (fun c113 => ?_)
                  · refine xx_iload_n (pc := 99) dX12_times_99 2 rfl rfl ?_
                    refine xx_iload (pc := 100) dX12_times_100 0 rfl ?_
                    refine xx_iload_n (pc := 102) dX12_times_102 5 rfl rfl ?_
                    refine xx_icmp_ltN (pc := 103) 110 dX12_times_103 rfl (by omega) (by omega) (fun c114 => ?_) (fun c114 => ?_)
                    · refine xx_iconst (pc := 110) dX12_times_110 cc_iconst_0 ?_
                      refine xx_iaddN (pc := 111) dX12_times_111 ?_
                      refine xx_istore_n (L' := [(3, .int (nI (ct + 0))), (6, .int (nI sm)), (4, .int (nI k)), (0, ic_pt E 114), (1, .int (nI a)), (2, .int (nI b))]) (pc := 112) dX12_times_112 rfl (Nat.le_of_ble_eq_true rfl) rfl ?_
                      refine xx_iincN (L' := [(4, .int (nI (k + 1))), (3, .int (nI (ct + 0))), (6, .int (nI sm)), (0, ic_pt E 114), (1, .int (nI a)), (2, .int (nI b))]) (pc := 113) dX12_times_113 2 rfl cc_iconst_1 (Nat.le_of_ble_eq_true rfl) rfl ?_
                      refine xx_goto (pc := 116) 36 dX12_times_116 rfl ?_
                      have hsv : mo_lsum 16 (fu (w 115) 4 (mo_tz (w 115) k)) = sm := by rw [hsum, mo_lsum_e (by omega)]; rfl
                      have hrv : mo_lrun 16 (fu (w 115) 4 (mo_tz (w 115) k)) = v 115 := by rw [hrun, mo_lrun_e (by omega)]
                      exact xx_sub [0, 1, 3, 4, 5] rfl (ihk_ (k + 1) _ v (by omega) (by rw [hct]; exact (mo_cnt_f (by rw [hsv]; exact decide_eq_false (by omega))).symm) (by rw [mo_tz, hrv]) hI_v hR_v k44 ko (by omega))
                    · refine xx_iconst (pc := 106) dX12_times_106 cc_iconst_1 ?_
                      refine xx_goto (pc := 107) 111 dX12_times_107 rfl ?_
                      refine xx_iaddN (pc := 111) dX12_times_111 ?_
                      refine xx_istore_n (L' := [(3, .int (nI (ct + 1))), (6, .int (nI sm)), (4, .int (nI k)), (0, ic_pt E 114), (1, .int (nI a)), (2, .int (nI b))]) (pc := 112) dX12_times_112 rfl (Nat.le_of_ble_eq_true rfl) rfl ?_
                      refine xx_iincN (L' := [(4, .int (nI (k + 1))), (3, .int (nI (ct + 1))), (6, .int (nI sm)), (0, ic_pt E 114), (1, .int (nI a)), (2, .int (nI b))]) (pc := 113) dX12_times_113 2 rfl cc_iconst_1 (Nat.le_of_ble_eq_true rfl) rfl ?_
                      refine xx_goto (pc := 116) 36 dX12_times_116 rfl ?_
                      have hsv : mo_lsum 16 (fu (w 115) 4 (mo_tz (w 115) k)) = sm := by rw [hsum, mo_lsum_e (by omega)]; rfl
                      have hrv : mo_lrun 16 (fu (w 115) 4 (mo_tz (w 115) k)) = v 115 := by rw [hrun, mo_lrun_e (by omega)]
                      exact xx_sub [0, 1, 3, 4, 5] rfl (ihk_ (k + 1) _ v (by omega) (by rw [hct]; exact (mo_cnt_t (by rw [hsv]; exact decide_eq_true (by omega))).symm) (by rw [mo_tz, hrv]) hI_v hR_v k44 ko (by omega))
                  · refine xx_iload (pc := 87) dX12_times_87 0 rfl ?_
                    refine xx_aload_nP (pc := 89) dX12_times_89 3 rfl rfl ?_
                    have hlw_x115 := mo_lw_le hI_v
                    refine xx_callV0 (pc := 90) (st := [.int (nI sm)]) sh_114 (cM_goesByLot (w := v) hI_v hR_v (by omega)) kX12_goesByLot vX12_334_12 dX12_times_90 rfl rfl (Nat.le_of_ble_eq_true rfl) ⟨Nat.le_of_ble_eq_true rfl, Nat.le_of_ble_eq_true rfl⟩ ⟨Nat.zero_le _, Nat.zero_le _⟩ (ic_ki (fun v117 h_ qw116 => ?_))
                    obtain ⟨rfl, w116, rfl, gw116⟩ := qw116
                    have hI_w116 : In (w116 115) := by rw [gw116.1]; exact In_lgo hI_v (by omega)
                    have hR_w116 : Ru (w116 115) := by rw [gw116.1]; exact Ru_lgo hR_v hI_v
                    refine xx_iaddN (pc := 93) dX12_times_93 ?_
                    refine xx_istore (L' := [(6, .int (nI (sm + (mo_lw (v 115))))), (4, .int (nI k)), (3, .int (nI ct)), (0, ic_pt E 114), (1, .int (nI a)), (2, .int (nI b))]) (pc := 94) dX12_times_94 (Nat.le_of_ble_eq_true rfl) rfl ?_
                    refine xx_goto (pc := 96) 80 dX12_times_96 rfl ?_
                    obtain ⟨m2, rfl⟩ : ∃ m2, m = m2 + 1 := ⟨m - 1, by omega⟩
                    exact xx_sub [0, 1, 2, 3, 4, 5] rfl (ih_ m2 _ w116 (by omega) (by omega) (by rw [gw116.1, mo_lgo_1, mo_lgo_r hI_v (by omega)]; omega) (by rw [hsum, mo_lsum, if_neg (by omega), gw116.1, Nat.add_assoc]) (by rw [hrun, mo_lrun, if_neg (by omega), gw116.1]) hI_w116 hR_w116 (fun k hk => by rw [gw116.1, mo_lgo_r hI_v (by omega)]; exact k44 k hk) (fun a q1 q2 => by rw [gw116.2 a q1 q2]; exact ko a q1 q2) (by omega))
              have ht2 := hI_w62.t
              exact xx_sub [0, 2, 3, 4, 5, 6] rfl (lq 17 16 0 w62 (by omega) (by omega) (by omega) (by rw [Nat.zero_add, r_w62]) (by rw [r_w62]) hI_w62 hR_w62 k44_w62 ko_w62 (by omega))
      exact xx_sub [0, 1, 2, 3, 4] rfl (lk (a + 1) 0 0 w3 (by omega) rfl (by rw [r_W]; rfl) (by rw [r_W]; exact hI) (by rw [r_W]; exact hR) (fun k _ => by rw [r_W]) (fun _ _ _ => rfl) (by omega))
    · refine xx_iconst (pc := 24) dX12_times_24 cc_iconst_m1 ?_
      exact xx_iret (pc := 25) dX12_times_25 rfl (rfl) (Nat.le_refl _) (Nat.le_refl _) (ic_ri ⟨by rw [if_neg (by omega)], w, rfl, fun _ _ _ => rfl⟩)

