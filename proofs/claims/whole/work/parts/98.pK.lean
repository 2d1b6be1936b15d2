/-! the reader of the rules: a rule -/
def tk_rk (f : Nat → Nat) (n c a : Nat) : Nat := if tk_kd f n (tk_k f n a) a (tk_e f n a) ≠ 4294967295 ∧ c < 8 then 1 else 0
def tk_rq (f : Nat → Nat) (n a : Nat) : Nat := if tk_dd f n (tk_k f n a) a (tk_e f n a) ≠ 4294967295 then 1 else 0
def tk_rs9 (f : Nat → Nat) (n a : Nat) : Nat := if tk_k f n a = 3 ∧ tk_b f n a = 59 then 1 else 0
/-- the condition of the rule whose first word stands at a -/
def tk_rb (f : Nat → Nat) (n a : Nat) : tk_P := if tk_i f n [105, 102] (tk_z f n a) = true then tk_cnd f n (tk_one f n 3) (tk_z f n (tk_z f n a)) else (0, tk_z f n a, [])
def tk_rd (f : Nat → Nat) (n e : Nat) : tk_P := tk_bd (tk_nd f n (tk_rq f n e) e) fun g => tk_nd f n (tk_rs9 f n g) g
def tk_rh (f : Nat → Nat) (n c a : Nat) : tk_P := if tk_rk f n c a ≠ 0 then tk_bd (tk_rb f n a) (tk_rd f n) else (1, a, [])
def tk_rr (s : Nat → Nat) (k d : Nat) (L : tk_L) : Nat → Nat := fu (fu (fu (fu (fu (tk_sts s L) (72 + 4 * s 5) k) (73 + 4 * s 5) d) (74 + 4 * s 5) (s 7)) (75 + 4 * s 5) (s 7 + L.length)) 5 (s 5 + 1)
theorem tk_rk_le (f : Nat → Nat) (n c a : Nat) : tk_rk f n c a ≤ 1 := by
  unfold tk_rk
  split <;> omega
theorem tk_rq_le (f : Nat → Nat) (n a : Nat) : tk_rq f n a ≤ 1 := by
  unfold tk_rq
  split <;> omega
theorem tk_kd_le (f : Nat → Nat) (n t a e : Nat) : tk_kd f n t a e ≤ 5 ∨ tk_kd f n t a e = 4294967295 := by
  unfold tk_kd
  repeat' split
  all_goals omega
theorem tk_dd_le (f : Nat → Nat) (n t a e : Nat) : tk_dd f n t a e ≤ 2 ∨ tk_dd f n t a e = 4294967295 := by
  unfold tk_dd
  repeat' split
  all_goals omega
theorem tk_kd_k {f : Nat → Nat} {n t a e : Nat} (h : tk_kd f n t a e ≠ 4294967295) : t = 1 := by
  unfold tk_kd at h
  by_cases z : t = 1
  · exact z
  · rw [if_neg (fun y => z (wd_rider.mp y).1), if_neg (fun y => z (wd_regular.mp y).1), if_neg (fun y => z (wd_lady.mp y).1), if_neg (fun y => z (wd_father.mp y).1), if_neg (fun y => z (wd_clerk.mp y).1), if_neg (fun y => z (wd_barrier.mp y).1)] at h
    exact absurd rfl h
theorem tk_dd_k {f : Nat → Nat} {n t a e : Nat} (h : tk_dd f n t a e ≠ 4294967295) : t = 1 := by
  unfold tk_dd at h
  by_cases z : t = 1
  · exact z
  · rw [if_neg (fun y => z (wd_exit.mp y).1), if_neg (fun y => z (wd_ride.mp y).1), if_neg (fun y => z (wd_stay.mp y).1)] at h
    exact absurd rfl h
theorem tk_rk_k {f : Nat → Nat} {n c a : Nat} (h : tk_rk f n c a ≠ 0) : (tk_kd f n (tk_k f n a) a (tk_e f n a) ≠ 4294967295 ∧ c < 8) ∧ tk_k f n a = 1 := by
  unfold tk_rk at h
  split at h
  · rename_i z
    exact ⟨z, tk_kd_k z.1⟩
  · exact absurd rfl h
theorem tk_rq_k {f : Nat → Nat} {n a : Nat} (h : tk_rq f n a ≠ 0) : tk_dd f n (tk_k f n a) a (tk_e f n a) ≠ 4294967295 ∧ tk_k f n a = 1 := by
  unfold tk_rq at h
  split at h
  · rename_i z
    exact ⟨z, tk_dd_k z⟩
  · exact absurd rfl h
theorem tk_rs9_k {f : Nat → Nat} {n a : Nat} (h : tk_rs9 f n a ≠ 0) : tk_k f n a = 3 := by
  unfold tk_rs9 at h
  split at h
  · rename_i z
    exact z.1
  · exact absurd rfl h
theorem tk_rd_R {f : Nat → Nat} {n e : Nat} (he : e ≤ n) : tk_R n 0 0 e (tk_rd f n e) := by
  have h := (tk_R.nd (f := f) (b := tk_rq f n e) he (fun y => by rw [(tk_rq_k y).2]; decide)).bd (g := fun g => tk_nd f n (tk_rs9 f n g) g) (C := 0) (d := 0) (fun _ h2 _ => tk_R.nd h2 (fun y => by rw [tk_rs9_k y]; decide))
  exact h.le (by omega)
/-- what a rule's reading comes to: 21 deep at most, one value or (without a condition) none -/
theorem tk_rb_R {f : Nat → Nat} {n a : Nat} (ha : a ≤ n) (hk : tk_k f n a = 1) : (tk_rb f n a).1 ≤ 1 ∧ a + 1 ≤ (tk_rb f n a).2.1 ∧ (tk_rb f n a).2.1 ≤ n ∧ ((tk_rb f n a).1 = 0 → 2 * (tk_rb f n a).2.2.length + a + 1 ≤ (tk_rb f n a).2.1 ∧ tk_vs (tk_rb f n a).2.2 ∧ ∀ t, tk_mx (tk_rb f n a).2.2 t ≤ t + 17) := by
  have z := tk_k_z (f := f) ha (by rw [hk]; decide)
  unfold tk_rb
  split
  · rename_i y
    have z2 := tk_i_z z.2 y
    have z3 : tk_z f n a + 2 ≤ tk_z f n (tk_z f n a) := z2.1
    obtain ⟨h1, h2, h3, h4⟩ := tk_cnd_1R (f := f) 3 (tk_z f n (tk_z f n a)) z2.2
    exact ⟨h1, by omega, h3, fun q => ⟨by have := (h4 q).1; omega, (h4 q).2.1, fun t => ((h4 q).2.2 t).1⟩⟩
  · exact ⟨Nat.zero_le _, z.1, z.2, fun _ => ⟨by show 2 * 0 + a + 1 ≤ tk_z f n a; omega, fun x hx => absurd hx List.not_mem_nil, fun t => Nat.le_add_right t 17⟩⟩
theorem tk_rh_R {f : Nat → Nat} {n c a : Nat} (ha : a ≤ n) : (tk_rh f n c a).1 ≤ 1 ∧ a ≤ (tk_rh f n c a).2.1 ∧ (tk_rh f n c a).2.1 ≤ n ∧ ((tk_rh f n c a).1 = 0 → a < (tk_rh f n c a).2.1 ∧ tk_rk f n c a ≠ 0 ∧ (tk_rb f n a).1 = 0 ∧ tk_rq f n (tk_rb f n a).2.1 ≠ 0 ∧ (tk_rh f n c a).2.2 = (tk_rb f n a).2.2 ∧ 2 * (tk_rb f n a).2.2.length + a ≤ (tk_rh f n c a).2.1) := by
  unfold tk_rh
  by_cases z : tk_rk f n c a ≠ 0
  · rw [if_pos z]
    obtain ⟨h1, h2, h3, h4⟩ := tk_rb_R (f := f) ha (tk_rk_k z).2
    by_cases y : (tk_rb f n a).1 = 0
    · obtain ⟨g1, g2, g3, g4⟩ := tk_rd_R (f := f) h3
      have h5 := (h4 y).1
      rw [tk_bd_0 y]
      refine ⟨g1, by show a ≤ (tk_rd f n (tk_rb f n a).2.1).2.1; omega, g3, fun q => ⟨by show a < (tk_rd f n (tk_rb f n a).2.1).2.1; omega, z, y, ?_, ?_, by show _ ≤ (tk_rd f n (tk_rb f n a).2.1).2.1; omega⟩⟩
      · intro q0
        have q1 : (tk_rd f n (tk_rb f n a).2.1).1 = 0 := q
        unfold tk_rd at q1
        rw [tk_nd_1 q0, tk_bd_1 rfl] at q1
        exact absurd q1 Nat.one_ne_zero
      · have q1 : (tk_rd f n (tk_rb f n a).2.1).1 = 0 := q
        have q2 : (tk_rd f n (tk_rb f n a).2.1).2.2 = [] := by
          unfold tk_rd at q1 ⊢
          by_cases q3 : tk_rq f n (tk_rb f n a).2.1 = 0
          · rw [tk_nd_1 q3, tk_bd_1 rfl]
          · rw [tk_nd_0 q3, tk_bd_0 rfl]
            show [] ++ (tk_nd f n _ _).2.2 = []
            unfold tk_nd
            split <;> rfl
        show (tk_rb f n a).2.2 ++ (tk_rd f n (tk_rb f n a).2.1).2.2 = _
        rw [q2, List.append_nil]
    · rw [tk_bd_1 (by omega)]
      exact ⟨h1, by omega, h3, fun q => absurd q y⟩
  · rw [if_neg z]
    exact ⟨Nat.le_refl _, Nat.le_refl _, ha, fun q => absurd q Nat.one_ne_zero⟩
theorem tk_rs9_le (f : Nat → Nat) (n a : Nat) : tk_rs9 f n a ≤ 1 := by
  unfold tk_rs9
  split <;> omega
theorem tk_sts_j (L : tk_L) {j : Nat} (hj : j < 128) (h7 : j ≠ 7) : ∀ s, tk_sts s L j = s j := by
  induction L with
  | nil => intro s; rfl
  | cons x L ih =>
    intro s
    show tk_sts (tk_s1 s x) L j = s j
    rw [ih]
    unfold tk_s1
    rw [fu_n _ h7, fu_n _ (by omega), fu_n _ (by omega), fu_n _ (by omega)]
theorem tk_sts_5 (s : Nat → Nat) (L : tk_L) : tk_sts s L 5 = s 5 := tk_sts_j L (by decide) (by decide) s
theorem wu_fu (w : ic_w) (o k v : Nat) : wu w o k v o = fu (w o) k v := by
  funext j
  unfold wu fu
  simp
set_option maxHeartbeats 4000000 in
set_option maxRecDepth 100000 in
theorem cZ_rule {l : Launch} {E : ic_E} {w : ic_w} {f : Nat → Nat} {n a : Nat} (z_w : Tz w f n a) (p_w : w 114 10 = 0) (h5 : w 115 5 ≤ 8) (hb : 2 * w 115 7 ≤ a) : ic_C l E mX12_ruleHere 20 0 0 False [ic_pt E 114] SHs (hn w) SHs (ic_qv (fun h_ => ∃ w2, h_ = hn w2 ∧ Hw w w2 ∧ Tz w2 f n (tk_rh f n (w 115 5) a).2.1 ∧ w2 114 10 = (tk_rh f n (w 115 5) a).1 ∧ ((tk_rh f n (w 115 5) a).1 = 0 → w2 115 = tk_rr (w 115) (tk_kd f n (tk_k f n a) a (tk_e f n a)) (tk_dd f n (tk_k f n ((tk_rb f n a).2.1)) ((tk_rb f n a).2.1) (tk_e f n ((tk_rb f n a).2.1))) (tk_rb f n a).2.2))) := by
  refine ic_intro (by decide +kernel) (Nat.le_of_ble_eq_true rfl) ?_
  show xx l E _ _ 0 [(0, ic_pt E 114)] _ _ _
  have hn2 := z_w.b
  have hkd_ := tk_kd_le f n (tk_k f n a) a (tk_e f n a)
  have x_w := Hw.rf w
  have o_w : w 114 11 = w 114 11 := rfl
  have s_w : w 115 = tk_sts (w 115) [] := rfl
  have cw97 : ∀ (e y b : Nat) (u : ic_w), Tz u f n e → u 114 10 = 1 → Hw w u → (tk_rh f n (w 115 5) a).1 = 1 ∧ (tk_rh f n (w 115 5) a).2.1 = e → b ≤ 1 → xx l E (ic_fr E mX12_ruleHere 20 0 0 False SHs (ic_qv (fun h_ => ∃ w2, h_ = hn w2 ∧ Hw w w2 ∧ Tz w2 f n (tk_rh f n (w 115 5) a).2.1 ∧ w2 114 10 = (tk_rh f n (w 115 5) a).1 ∧ ((tk_rh f n (w 115 5) a).1 = 0 → w2 115 = tk_rr (w 115) (tk_kd f n (tk_k f n a) a (tk_e f n a)) (tk_dd f n (tk_k f n ((tk_rb f n a).2.1)) ((tk_rb f n a).2.1) (tk_e f n ((tk_rb f n a).2.1))) (tk_rb f n a).2.2)))) (0, 0) 97 [(4, .int (nI y)), (3, .int (nI (w 115 7))), (2, .int (nI (tk_kd f n (tk_k f n a) a (tk_e f n a)))), (1, .int (nI (72 + 4 * w 115 5))), (0, ic_pt E 114)] [.int (nI b), ic_pt E 114] SHs (hn u) := by
    intro e y b u z_u p_u x_u hr hbl_
    have o_u : u 114 11 = u 114 11 := rfl
    refine xx_callV0 (pc := 97) (st := []) sh_114 (cZ_needW (w := u) (b := b) z_u (by first | assumption | exact tk_rs9_le _ _ _) p_u) kX12_needs vX12_198_12 dX12_ruleHere_97 rfl rfl (Nat.le_of_ble_eq_true rfl) (pl_hR (d := 20) (by omega) (Nat.le_of_ble_eq_true rfl)) ⟨Nat.zero_le _, Nat.zero_le _⟩ (ic_kv (fun h_ qw701 => ?_))
    obtain ⟨w701, rfl, y_w701, z_w701, p_w701⟩ := qw701
    have x_w701 := x_u.tr y_w701.h
    have o_w701 : w701 114 11 = u 114 11 := (y_w701.2 11 (by omega)).trans o_u
    refine xx_aload_nP (pc := 100) dX12_ruleHere_100 4 rfl rfl ?_
    refine xx_aload_nP (pc := 101) dX12_ruleHere_101 4 rfl rfl ?_
    refine xx_bipush (pc := 102) dX12_ruleHere_102 cc_bipush_59 ?_
    refine xx_callV0 (pc := 104) (st := [ic_pt E 114]) sh_114 (cZ_byte (w := w701) (c := 59) z_w701 (by decide)) kX12_isByte vX12_205_12 dX12_ruleHere_104 rfl rfl (Nat.le_of_ble_eq_true rfl) (pl_hR (d := 20) (by omega) (Nat.le_of_ble_eq_true rfl)) ⟨Nat.zero_le _, Nat.zero_le _⟩ (ic_ke ?_)
    refine xx_callV0 (pc := 107) (st := []) sh_114 (cZ_needW (w := w701) (b := ic_bo (tk_k f n e = 3 ∧ tk_b f n e = 59)) z_w701 (ic_bo_le _) p_w701) kX12_needs vX12_198_12 dX12_ruleHere_107 rfl rfl (Nat.le_of_ble_eq_true rfl) (pl_hR (d := 20) (by omega) (Nat.le_of_ble_eq_true rfl)) ⟨Nat.zero_le _, Nat.zero_le _⟩ (ic_kv (fun h_ qw703 => ?_))
    obtain ⟨w703, rfl, y_w703, z_w703, p_w703⟩ := qw703
    have x_w703 := x_w701.tr y_w703.h
    have o_w703 : w703 114 11 = u 114 11 := (y_w703.2 11 (by omega)).trans o_w701
    refine xx_aload_nP (pc := 110) dX12_ruleHere_110 4 rfl rfl ?_
    refine xx_getN (pc := 111) dX12_ruleHere_111 sh_114 fX12_180_12 rfl ?_
    refine xx_eqI (y := nI (1)) (by rw [p_w703]) ?_
    refine xx_if_neN (pc := 114) 168 dX12_ruleHere_114 rfl (by omega) (fun c705 => ?_) (fun c705 => by exfalso; omega)
    exact xx_vret (pc := 168) dX12_ruleHere_168 rfl (Nat.le_refl _) (Nat.le_refl _) (ic_rv0 ⟨w703, rfl, x_w703, by rw [hr.2]; exact z_w703, by rw [hr.1]; exact p_w703, fun y_ => absurd (y_.symm.trans hr.1) (by decide)⟩)
  have cw80 : ∀ (e : Nat) (u : ic_w), Tz u f n e → u 114 10 = 1 → Hw w u → (tk_rh f n (w 115 5) a).1 = 1 ∧ (tk_rh f n (w 115 5) a).2.1 = e → xx l E (ic_fr E mX12_ruleHere 20 0 0 False SHs (ic_qv (fun h_ => ∃ w2, h_ = hn w2 ∧ Hw w w2 ∧ Tz w2 f n (tk_rh f n (w 115 5) a).2.1 ∧ w2 114 10 = (tk_rh f n (w 115 5) a).1 ∧ ((tk_rh f n (w 115 5) a).1 = 0 → w2 115 = tk_rr (w 115) (tk_kd f n (tk_k f n a) a (tk_e f n a)) (tk_dd f n (tk_k f n ((tk_rb f n a).2.1)) ((tk_rb f n a).2.1) (tk_e f n ((tk_rb f n a).2.1))) (tk_rb f n a).2.2)))) (0, 0) 80 [(3, .int (nI (w 115 7))), (2, .int (nI (tk_kd f n (tk_k f n a) a (tk_e f n a)))), (1, .int (nI (72 + 4 * w 115 5))), (0, ic_pt E 114)] [] SHs (hn u) := by
    intro e u z_u p_u x_u hr
    have o_u : u 114 11 = u 114 11 := rfl
    have hdd_ := tk_dd_le f n (tk_k f n e) e (tk_e f n e)
    refine xx_aload_nP (pc := 80) dX12_ruleHere_80 3 rfl rfl ?_
    refine xx_callV0 (pc := 81) (st := []) sh_114 (cZ_do (w := u) z_u) kX12_doHere vX12_233_12 dX12_ruleHere_81 rfl rfl (Nat.le_of_ble_eq_true rfl) (pl_hR (d := 20) (by omega) (Nat.le_of_ble_eq_true rfl)) ⟨Nat.zero_le _, Nat.zero_le _⟩ (ic_ke ?_)
    refine xx_istore (L' := [(4, .int (nI (tk_dd f n (tk_k f n e) e (tk_e f n e)))), (3, .int (nI (w 115 7))), (2, .int (nI (tk_kd f n (tk_k f n a) a (tk_e f n a)))), (1, .int (nI (72 + 4 * w 115 5))), (0, ic_pt E 114)]) (pc := 84) dX12_ruleHere_84 (Nat.le_of_ble_eq_true rfl) rfl ?_
    refine xx_aload_nP (pc := 86) dX12_ruleHere_86 4 rfl rfl ?_
    refine xx_iload (pc := 87) dX12_ruleHere_87 0 rfl ?_
    refine xx_if_ltS (pc := 89) 96 dX12_ruleHere_89 rfl (by omega) (fun c801 => ?_) (fun c801 => ?_)
    · refine xx_iconst (pc := 96) dX12_ruleHere_96 cc_iconst_0 ?_
      exact xx_sub [0, 1, 2, 3, 4] rfl (cw97 e _ 0 u z_u p_u x_u hr (by decide))
    · refine xx_iconst (pc := 92) dX12_ruleHere_92 cc_iconst_1 ?_
      refine xx_goto (pc := 93) 97 dX12_ruleHere_93 rfl ?_
      exact xx_sub [0, 1, 2, 3, 4] rfl (cw97 e _ 1 u z_u p_u x_u hr (by decide))
  have c80 : ∀ (e : Nat) (K : tk_L) (u : ic_w), Tz u f n e → u 114 10 = 0 → Hw w u → u 115 = tk_sts (w 115) K → tk_rk f n (w 115 5) a ≠ 0 → tk_rb f n a = (0, e, K) → 2 * (w 115 7 + K.length) ≤ e → xx l E (ic_fr E mX12_ruleHere 20 0 0 False SHs (ic_qv (fun h_ => ∃ w2, h_ = hn w2 ∧ Hw w w2 ∧ Tz w2 f n (tk_rh f n (w 115 5) a).2.1 ∧ w2 114 10 = (tk_rh f n (w 115 5) a).1 ∧ ((tk_rh f n (w 115 5) a).1 = 0 → w2 115 = tk_rr (w 115) (tk_kd f n (tk_k f n a) a (tk_e f n a)) (tk_dd f n (tk_k f n ((tk_rb f n a).2.1)) ((tk_rb f n a).2.1) (tk_e f n ((tk_rb f n a).2.1))) (tk_rb f n a).2.2)))) (0, 0) 80 [(3, .int (nI (w 115 7))), (2, .int (nI (tk_kd f n (tk_k f n a) a (tk_e f n a)))), (1, .int (nI (72 + 4 * w 115 5))), (0, ic_pt E 114)] [] SHs (hn u) := by
    intro e K u z_u p_u x_u s_u z1 hrb hK
    have o_u : u 114 11 = u 114 11 := rfl
    have hdd_ := tk_dd_le f n (tk_k f n e) e (tk_e f n e)
    have hrh : tk_rh f n (w 115 5) a = tk_bd (0, e, K) (tk_rd f n) := by unfold tk_rh; rw [if_pos z1, hrb]
    have z1k := tk_rk_k z1
    have hne := z_u.2.1
    have ct97 : xx l E (ic_fr E mX12_ruleHere 20 0 0 False SHs (ic_qv (fun h_ => ∃ w2, h_ = hn w2 ∧ Hw w w2 ∧ Tz w2 f n (tk_rh f n (w 115 5) a).2.1 ∧ w2 114 10 = (tk_rh f n (w 115 5) a).1 ∧ ((tk_rh f n (w 115 5) a).1 = 0 → w2 115 = tk_rr (w 115) (tk_kd f n (tk_k f n a) a (tk_e f n a)) (tk_dd f n (tk_k f n ((tk_rb f n a).2.1)) ((tk_rb f n a).2.1) (tk_e f n ((tk_rb f n a).2.1))) (tk_rb f n a).2.2)))) (0, 0) 97 [(4, .int (nI (tk_dd f n (tk_k f n e) e (tk_e f n e)))), (3, .int (nI (w 115 7))), (2, .int (nI (tk_kd f n (tk_k f n a) a (tk_e f n a)))), (1, .int (nI (72 + 4 * w 115 5))), (0, ic_pt E 114)] [.int (nI (tk_rq f n e)), ic_pt E 114] SHs (hn u) := by
      by_cases z2 : tk_rq f n e ≠ 0
      · refine xx_callV0 (pc := 97) (st := []) sh_114 (cZ_needT (w := u) (b := tk_rq f n e) z_u (by first | exact tk_rk_le _ _ _ _ | exact tk_rq_le _ _ _ | omega) p_u z2) kX12_needs vX12_198_12 dX12_ruleHere_97 rfl rfl (Nat.le_of_ble_eq_true rfl) (pl_hR (d := 20) (by omega) (Nat.le_of_ble_eq_true rfl)) ⟨Nat.zero_le _, Nat.zero_le _⟩ (ic_kv (fun h_ qw401 => ?_))
        obtain ⟨w401, rfl, y_w401, z_w401, p_w401⟩ := qw401
        have x_w401 := x_u.tr y_w401.h
        have o_w401 : w401 114 11 = u 114 11 := (y_w401.2 11 (by omega)).trans o_u
        have s_w401 : w401 115 = tk_sts (w 115) K := (y_w401.1 115 (by decide)).trans s_u
        refine xx_aload_nP (pc := 100) dX12_ruleHere_100 4 rfl rfl ?_
        refine xx_aload_nP (pc := 101) dX12_ruleHere_101 4 rfl rfl ?_
        refine xx_bipush (pc := 102) dX12_ruleHere_102 cc_bipush_59 ?_
        refine xx_callV0 (pc := 104) (st := [ic_pt E 114]) sh_114 (cZ_byte (w := w401) (c := 59) z_w401 (by decide)) kX12_isByte vX12_205_12 dX12_ruleHere_104 rfl rfl (Nat.le_of_ble_eq_true rfl) (pl_hR (d := 20) (by omega) (Nat.le_of_ble_eq_true rfl)) ⟨Nat.zero_le _, Nat.zero_le _⟩ (ic_ke ?_)
        by_cases z3 : tk_k f n (tk_z f n e) = 3 ∧ tk_b f n (tk_z f n e) = 59
        · have hrh_ : tk_rh f n (w 115 5) a = (0, tk_z f n (tk_z f n e), K ++ []) := by rw [hrh, tk_bd_0c, show tk_rd f n e = (0, tk_z f n (tk_z f n e), []) by unfold tk_rd; rw [tk_nd_0 z2, tk_bd_00z, tk_nd_0 (show tk_rs9 f n (tk_z f n e) ≠ 0 by unfold tk_rs9; rw [if_pos z3]; decide)]]
          have z97_ := tk_k_z (f := f) hne (by rw [(tk_rq_k z2).2]; decide)
          refine xx_callV0 (pc := 107) (st := []) sh_114 (cZ_needT (w := w401) (b := ic_bo (tk_k f n (tk_z f n e) = 3 ∧ tk_b f n (tk_z f n e) = 59)) z_w401 (ic_bo_le _) p_w401 (by rw [ic_bo_t z3]; decide)) kX12_needs vX12_198_12 dX12_ruleHere_107 rfl rfl (Nat.le_of_ble_eq_true rfl) (pl_hR (d := 20) (by omega) (Nat.le_of_ble_eq_true rfl)) ⟨Nat.zero_le _, Nat.zero_le _⟩ (ic_kv (fun h_ qw403 => ?_))
          obtain ⟨w403, rfl, y_w403, z_w403, p_w403⟩ := qw403
          have x_w403 := x_w401.tr y_w403.h
          have o_w403 : w403 114 11 = u 114 11 := (y_w403.2 11 (by omega)).trans o_w401
          have s_w403 : w403 115 = tk_sts (w 115) K := (y_w403.1 115 (by decide)).trans s_w401
          refine xx_aload_nP (pc := 110) dX12_ruleHere_110 4 rfl rfl ?_
          refine xx_getN (pc := 111) dX12_ruleHere_111 sh_114 fX12_180_12 rfl ?_
          refine xx_eqI (y := nI (0)) (by rw [p_w403]) ?_
          refine xx_if_neN (pc := 114) 168 dX12_ruleHere_114 rfl (by omega) (fun c405 => by exfalso; omega) (fun c405 => ?_)
          refine xx_aload_nP (pc := 117) dX12_ruleHere_117 4 rfl rfl ?_
          refine xx_getR (pc := 118) 115 dX12_ruleHere_118 sh_114 fX12_7_12 rfl rfl (by decide) ?_
          refine xx_iload_n (pc := 121) dX12_ruleHere_121 3 rfl rfl ?_
          refine xx_iload_n (pc := 122) dX12_ruleHere_122 2 rfl rfl ?_
          refine xx_iastN (pc := 123) dX12_ruleHere_123 sh_115 (by omega) (by decide) ?_
          refine xx_nw (fun w406 ew406 => ?_)
          have x_w406 : Hw w w406 := x_w403.tr ⟨fun a h1 h2 => by rw [ew406, wu_row _ _ _ h2], fun j hj => by rw [ew406, wu_row _ _ _ (by decide)], fun j hj => by rw [ew406, wu_k _ _ _ _ (by omega)]⟩
          have z_w406 : Tz w406 f n (tk_z f n (tk_z f n e)) := z_w403.of (fun j h1 h2 => by rw [ew406, wu_row _ _ _ (by decide)]) (by rw [ew406, wu_row _ _ _ (by decide)])
          have p_w406 : w406 114 10 = 0 := by rw [ew406, wu_row _ _ _ (by decide)]; exact p_w403
          have t_w406 := (congrFun ew406 115).trans (wu_fu w403 115 _ _)
          refine xx_aload_nP (pc := 124) dX12_ruleHere_124 4 rfl rfl ?_
          refine xx_getR (pc := 125) 115 dX12_ruleHere_125 sh_114 fX12_7_12 rfl rfl (by decide) ?_
          refine xx_iload_n (pc := 128) dX12_ruleHere_128 3 rfl rfl ?_
          refine xx_iconst (pc := 129) dX12_ruleHere_129 cc_iconst_1 ?_
          refine xx_iaddN (pc := 130) dX12_ruleHere_130 ?_
          refine xx_iload (pc := 131) dX12_ruleHere_131 0 rfl ?_
          refine xx_iastE (j2 := 73 + 4 * w 115 5) (pc := 133) dX12_ruleHere_133 sh_115 (by omega) (by omega) (by decide) ?_
          refine xx_nw (fun w407 ew407 => ?_)
          have x_w407 : Hw w w407 := x_w406.tr ⟨fun a h1 h2 => by rw [ew407, wu_row _ _ _ h2], fun j hj => by rw [ew407, wu_row _ _ _ (by decide)], fun j hj => by rw [ew407, wu_k _ _ _ _ (by omega)]⟩
          have z_w407 : Tz w407 f n (tk_z f n (tk_z f n e)) := z_w406.of (fun j h1 h2 => by rw [ew407, wu_row _ _ _ (by decide)]) (by rw [ew407, wu_row _ _ _ (by decide)])
          have p_w407 : w407 114 10 = 0 := by rw [ew407, wu_row _ _ _ (by decide)]; exact p_w406
          have t_w407 := (congrFun ew407 115).trans (wu_fu w406 115 _ _)
          refine xx_aload_nP (pc := 134) dX12_ruleHere_134 4 rfl rfl ?_
          refine xx_getR (pc := 135) 115 dX12_ruleHere_135 sh_114 fX12_7_12 rfl rfl (by decide) ?_
          refine xx_iload_n (pc := 138) dX12_ruleHere_138 3 rfl rfl ?_
          refine xx_iconst (pc := 139) dX12_ruleHere_139 cc_iconst_2 ?_
          refine xx_iaddN (pc := 140) dX12_ruleHere_140 ?_
          refine xx_iload_n (pc := 141) dX12_ruleHere_141 1 rfl rfl ?_
          refine xx_iastE (j2 := 74 + 4 * w 115 5) (pc := 142) dX12_ruleHere_142 sh_115 (by omega) (by omega) (by decide) ?_
          refine xx_nw (fun w408 ew408 => ?_)
          have x_w408 : Hw w w408 := x_w407.tr ⟨fun a h1 h2 => by rw [ew408, wu_row _ _ _ h2], fun j hj => by rw [ew408, wu_row _ _ _ (by decide)], fun j hj => by rw [ew408, wu_k _ _ _ _ (by omega)]⟩
          have z_w408 : Tz w408 f n (tk_z f n (tk_z f n e)) := z_w407.of (fun j h1 h2 => by rw [ew408, wu_row _ _ _ (by decide)]) (by rw [ew408, wu_row _ _ _ (by decide)])
          have p_w408 : w408 114 10 = 0 := by rw [ew408, wu_row _ _ _ (by decide)]; exact p_w407
          have t_w408 := (congrFun ew408 115).trans (wu_fu w407 115 _ _)
          refine xx_aload_nP (pc := 143) dX12_ruleHere_143 4 rfl rfl ?_
          refine xx_getR (pc := 144) 115 dX12_ruleHere_144 sh_114 fX12_7_12 rfl rfl (by decide) ?_
          refine xx_iload_n (pc := 147) dX12_ruleHere_147 3 rfl rfl ?_
          refine xx_iconst (pc := 148) dX12_ruleHere_148 cc_iconst_3 ?_
          refine xx_iaddN (pc := 149) dX12_ruleHere_149 ?_
          refine xx_aload_nP (pc := 150) dX12_ruleHere_150 4 rfl rfl ?_
          refine xx_getR (pc := 151) 115 dX12_ruleHere_151 sh_114 fX12_7_12 rfl rfl (by decide) ?_
          refine xx_bipush (pc := 154) dX12_ruleHere_154 cc_bipush_7 ?_
          have q7_ : w408 115 7 = w 115 7 + K.length := by rw [t_w408, fu_n _ (by omega), t_w407, fu_n _ (by omega), t_w406, fu_n _ (by omega), s_w403, tk_sts_7]
          refine xx_ialdN (pc := 156) dX12_ruleHere_156 sh_115 (by omega) (by decide) ?_
          refine xx_eqI (y := nI (w 115 7 + K.length)) (by rw [q7_]) ?_
          refine xx_iastE (j2 := 75 + 4 * w 115 5) (pc := 157) dX12_ruleHere_157 sh_115 (by omega) (by omega) (by decide) ?_
          refine xx_nw (fun w409 ew409 => ?_)
          have x_w409 : Hw w w409 := x_w408.tr ⟨fun a h1 h2 => by rw [ew409, wu_row _ _ _ h2], fun j hj => by rw [ew409, wu_row _ _ _ (by decide)], fun j hj => by rw [ew409, wu_k _ _ _ _ (by omega)]⟩
          have z_w409 : Tz w409 f n (tk_z f n (tk_z f n e)) := z_w408.of (fun j h1 h2 => by rw [ew409, wu_row _ _ _ (by decide)]) (by rw [ew409, wu_row _ _ _ (by decide)])
          have p_w409 : w409 114 10 = 0 := by rw [ew409, wu_row _ _ _ (by decide)]; exact p_w408
          have t_w409 := (congrFun ew409 115).trans (wu_fu w408 115 _ _)
          refine xx_aload_nP (pc := 158) dX12_ruleHere_158 4 rfl rfl ?_
          refine xx_getR (pc := 159) 115 dX12_ruleHere_159 sh_114 fX12_7_12 rfl rfl (by decide) ?_
          refine xx_iconst (pc := 162) dX12_ruleHere_162 cc_iconst_5 ?_
          refine xx_dup2 (pc := 163) dX12_ruleHere_163 rfl rfl ?_
          have q5_ : w409 115 5 = w 115 5 := by rw [t_w409, fu_n _ (by omega), t_w408, fu_n _ (by omega), t_w407, fu_n _ (by omega), t_w406, fu_n _ (by omega), s_w403, tk_sts_5]
          refine xx_ialdN (pc := 164) dX12_ruleHere_164 sh_115 (by omega) (by decide) ?_
          refine xx_eqI (y := nI (w 115 5)) (by rw [q5_]) ?_
          refine xx_iconst (pc := 165) dX12_ruleHere_165 cc_iconst_1 ?_
          refine xx_iaddN (pc := 166) dX12_ruleHere_166 ?_
          refine xx_iastN (pc := 167) dX12_ruleHere_167 sh_115 (by omega) (by decide) ?_
          refine xx_nw (fun w410 ew410 => ?_)
          have x_w410 : Hw w w410 := x_w409.tr ⟨fun a h1 h2 => by rw [ew410, wu_row _ _ _ h2], fun j hj => by rw [ew410, wu_row _ _ _ (by decide)], fun j hj => by rw [ew410, wu_k _ _ _ _ (by omega)]⟩
          have z_w410 : Tz w410 f n (tk_z f n (tk_z f n e)) := z_w409.of (fun j h1 h2 => by rw [ew410, wu_row _ _ _ (by decide)]) (by rw [ew410, wu_row _ _ _ (by decide)])
          have p_w410 : w410 114 10 = 0 := by rw [ew410, wu_row _ _ _ (by decide)]; exact p_w409
          have t_w410 := (congrFun ew410 115).trans (wu_fu w409 115 _ _)
          exact xx_vret (pc := 168) dX12_ruleHere_168 rfl (Nat.le_refl _) (Nat.le_refl _) (ic_rv0 (by rw [hrh_]; exact ⟨w410, rfl, x_w410, z_w410, p_w410, fun _ => by rw [hrb]; unfold tk_rr; rw [t_w410, t_w409, t_w408, t_w407, t_w406, s_w403] <;> rfl⟩))
        · have hrh_ : tk_rh f n (w 115 5) a = (1, tk_z f n e, K ++ []) := by rw [hrh, tk_bd_0c, show tk_rd f n e = (1, tk_z f n e, []) by unfold tk_rd; rw [tk_nd_0 z2, tk_bd_00z, tk_nd_1 (show tk_rs9 f n (tk_z f n e) = 0 by unfold tk_rs9; rw [if_neg z3])]]
          refine xx_callV0 (pc := 107) (st := []) sh_114 (cZ_needF (w := w401) (b := ic_bo (tk_k f n (tk_z f n e) = 3 ∧ tk_b f n (tk_z f n e) = 59)) z_w401 (ic_bo_le _) (by omega) (ic_bo_f z3)) kX12_needs vX12_198_12 dX12_ruleHere_107 rfl rfl (Nat.le_of_ble_eq_true rfl) (pl_hR (d := 20) (by omega) (Nat.le_of_ble_eq_true rfl)) ⟨Nat.zero_le _, Nat.zero_le _⟩ (ic_kv (fun h_ qw411 => ?_))
          obtain ⟨w411, rfl, y_w411, z_w411, p_w411⟩ := qw411
          have x_w411 := x_w401.tr y_w411.h
          have o_w411 : w411 114 11 = u 114 11 := (y_w411.2 11 (by omega)).trans o_w401
          refine xx_aload_nP (pc := 110) dX12_ruleHere_110 4 rfl rfl ?_
          refine xx_getN (pc := 111) dX12_ruleHere_111 sh_114 fX12_180_12 rfl ?_
          refine xx_eqI (y := nI (1)) (by rw [p_w411]) ?_
          refine xx_if_neN (pc := 114) 168 dX12_ruleHere_114 rfl (by omega) (fun c413 => ?_) (fun c413 => by exfalso; omega)
          exact xx_vret (pc := 168) dX12_ruleHere_168 rfl (Nat.le_refl _) (Nat.le_refl _) (ic_rv0 (by rw [hrh_]; exact ⟨w411, rfl, x_w411, z_w411, p_w411, fun y_ => absurd y_ Nat.one_ne_zero⟩))
      · refine xx_callV0 (pc := 97) (st := []) sh_114 (cZ_needF (w := u) (b := tk_rq f n e) z_u (by first | exact tk_rk_le _ _ _ _ | exact tk_rq_le _ _ _ | omega) (by omega) (by omega)) kX12_needs vX12_198_12 dX12_ruleHere_97 rfl rfl (Nat.le_of_ble_eq_true rfl) (pl_hR (d := 20) (by omega) (Nat.le_of_ble_eq_true rfl)) ⟨Nat.zero_le _, Nat.zero_le _⟩ (ic_kv (fun h_ qw414 => ?_))
        obtain ⟨w414, rfl, y_w414, z_w414, p_w414⟩ := qw414
        have x_w414 := x_u.tr y_w414.h
        have o_w414 : w414 114 11 = u 114 11 := (y_w414.2 11 (by omega)).trans o_u
        have hrh_ : tk_rh f n (w 115 5) a = (1, e, K ++ []) := by rw [hrh, tk_bd_0c, show tk_rd f n e = (1, e, []) by unfold tk_rd; rw [tk_nd_1 (show tk_rq f n e = 0 by omega), tk_bd_11]]
        refine xx_aload_nP (pc := 100) dX12_ruleHere_100 4 rfl rfl ?_
        refine xx_aload_nP (pc := 101) dX12_ruleHere_101 4 rfl rfl ?_
        refine xx_bipush (pc := 102) dX12_ruleHere_102 cc_bipush_59 ?_
        refine xx_callV0 (pc := 104) (st := [ic_pt E 114]) sh_114 (cZ_byte (w := w414) (c := 59) z_w414 (by decide)) kX12_isByte vX12_205_12 dX12_ruleHere_104 rfl rfl (Nat.le_of_ble_eq_true rfl) (pl_hR (d := 20) (by omega) (Nat.le_of_ble_eq_true rfl)) ⟨Nat.zero_le _, Nat.zero_le _⟩ (ic_ke ?_)
        refine xx_callV0 (pc := 107) (st := []) sh_114 (cZ_needW (w := w414) (b := ic_bo (tk_k f n e = 3 ∧ tk_b f n e = 59)) z_w414 (ic_bo_le _) p_w414) kX12_needs vX12_198_12 dX12_ruleHere_107 rfl rfl (Nat.le_of_ble_eq_true rfl) (pl_hR (d := 20) (by omega) (Nat.le_of_ble_eq_true rfl)) ⟨Nat.zero_le _, Nat.zero_le _⟩ (ic_kv (fun h_ qw416 => ?_))
        obtain ⟨w416, rfl, y_w416, z_w416, p_w416⟩ := qw416
        have x_w416 := x_w414.tr y_w416.h
        have o_w416 : w416 114 11 = u 114 11 := (y_w416.2 11 (by omega)).trans o_w414
        refine xx_aload_nP (pc := 110) dX12_ruleHere_110 4 rfl rfl ?_
        refine xx_getN (pc := 111) dX12_ruleHere_111 sh_114 fX12_180_12 rfl ?_
        refine xx_eqI (y := nI (1)) (by rw [p_w416]) ?_
        refine xx_if_neN (pc := 114) 168 dX12_ruleHere_114 rfl (by omega) (fun c418 => ?_) (fun c418 => by exfalso; omega)
        exact xx_vret (pc := 168) dX12_ruleHere_168 rfl (Nat.le_refl _) (Nat.le_refl _) (ic_rv0 (by rw [hrh_]; exact ⟨w416, rfl, x_w416, z_w416, p_w416, fun y_ => absurd y_ Nat.one_ne_zero⟩))
    refine xx_aload_nP (pc := 80) dX12_ruleHere_80 3 rfl rfl ?_
    refine xx_callV0 (pc := 81) (st := []) sh_114 (cZ_do (w := u) z_u) kX12_doHere vX12_233_12 dX12_ruleHere_81 rfl rfl (Nat.le_of_ble_eq_true rfl) (pl_hR (d := 20) (by omega) (Nat.le_of_ble_eq_true rfl)) ⟨Nat.zero_le _, Nat.zero_le _⟩ (ic_ke ?_)
    refine xx_istore (L' := [(4, .int (nI (tk_dd f n (tk_k f n e) e (tk_e f n e)))), (3, .int (nI (w 115 7))), (2, .int (nI (tk_kd f n (tk_k f n a) a (tk_e f n a)))), (1, .int (nI (72 + 4 * w 115 5))), (0, ic_pt E 114)]) (pc := 84) dX12_ruleHere_84 (Nat.le_of_ble_eq_true rfl) rfl ?_
    refine xx_aload_nP (pc := 86) dX12_ruleHere_86 4 rfl rfl ?_
    refine xx_iload (pc := 87) dX12_ruleHere_87 0 rfl ?_
    refine xx_if_ltS (pc := 89) 96 dX12_ruleHere_89 rfl (by omega) (fun c301 => ?_) (fun c301 => ?_)
    · refine xx_iconst (pc := 96) dX12_ruleHere_96 cc_iconst_0 ?_
      refine xx_eqI (y := nI (tk_rq f n e)) (by rw [show tk_rq f n e = 0 from if_neg (by omega)]) ?_
      exact xx_sub [0, 1, 2, 3, 4] rfl ct97
    · refine xx_iconst (pc := 92) dX12_ruleHere_92 cc_iconst_1 ?_
      refine xx_goto (pc := 93) 97 dX12_ruleHere_93 rfl ?_
      refine xx_eqI (y := nI (tk_rq f n e)) (by rw [show tk_rq f n e = 1 from if_pos (by omega)]) ?_
      exact xx_sub [0, 1, 2, 3, 4] rfl ct97
  have ct38 : xx l E (ic_fr E mX12_ruleHere 20 0 0 False SHs (ic_qv (fun h_ => ∃ w2, h_ = hn w2 ∧ Hw w w2 ∧ Tz w2 f n (tk_rh f n (w 115 5) a).2.1 ∧ w2 114 10 = (tk_rh f n (w 115 5) a).1 ∧ ((tk_rh f n (w 115 5) a).1 = 0 → w2 115 = tk_rr (w 115) (tk_kd f n (tk_k f n a) a (tk_e f n a)) (tk_dd f n (tk_k f n ((tk_rb f n a).2.1)) ((tk_rb f n a).2.1) (tk_e f n ((tk_rb f n a).2.1))) (tk_rb f n a).2.2)))) (0, 0) 38 [(2, .int (nI (tk_kd f n (tk_k f n a) a (tk_e f n a)))), (1, .int (nI (72 + 4 * w 115 5))), (0, ic_pt E 114)] [.int (nI (tk_rk f n (w 115 5) a)), ic_pt E 114] SHs (hn w) := by
    by_cases z1 : tk_rk f n (w 115 5) a ≠ 0
    · have zk_ := tk_k_z (f := f) z_w.2.1 (by rw [(tk_rk_k z1).2]; decide)
      refine xx_callV0 (pc := 38) (st := []) sh_114 (cZ_needT (w := w) (b := tk_rk f n (w 115 5) a) z_w (by first | exact tk_rk_le _ _ _ _ | exact tk_rq_le _ _ _ | omega) p_w z1) kX12_needs vX12_198_12 dX12_ruleHere_38 rfl rfl (Nat.le_of_ble_eq_true rfl) (pl_hR (d := 20) (by omega) (Nat.le_of_ble_eq_true rfl)) ⟨Nat.zero_le _, Nat.zero_le _⟩ (ic_kv (fun h_ qw1 => ?_))
      obtain ⟨w1, rfl, y_w1, z_w1, p_w1⟩ := qw1
      have x_w1 := x_w.tr y_w1.h
      have o_w1 : w1 114 11 = w 114 11 := (y_w1.2 11 (by omega)).trans o_w
      have s_w1 : w1 115 = tk_sts (w 115) [] := (y_w1.1 115 (by decide)).trans s_w
      refine xx_aload_nP (pc := 41) dX12_ruleHere_41 2 rfl rfl ?_
      refine xx_getR (pc := 42) 115 dX12_ruleHere_42 sh_114 fX12_7_12 rfl rfl (by decide) ?_
      refine xx_bipush (pc := 45) dX12_ruleHere_45 cc_bipush_7 ?_
      have e115_w1 : w1 115 = w 115 := (y_w1.1 115 (by decide))
      refine xx_ialdN (pc := 47) dX12_ruleHere_47 sh_115 (by omega) (by decide) ?_
      refine xx_eqI (y := nI (w 115 7)) (by rw [e115_w1]) ?_
      refine xx_istore_n (L' := [(3, .int (nI (w 115 7))), (2, .int (nI (tk_kd f n (tk_k f n a) a (tk_e f n a)))), (1, .int (nI (72 + 4 * w 115 5))), (0, ic_pt E 114)]) (pc := 48) dX12_ruleHere_48 rfl (Nat.le_of_ble_eq_true rfl) rfl ?_
      refine xx_aload_nP (pc := 49) dX12_ruleHere_49 3 rfl rfl ?_
      refine xx_getN (pc := 50) dX12_ruleHere_50 sh_114 fX12_180_12 rfl ?_
      refine xx_eqI (y := nI (0)) (by rw [p_w1]) ?_
      refine xx_if_neN (pc := 53) 80 dX12_ruleHere_53 rfl (by omega) (fun c3 => by exfalso; omega) (fun c3 => ?_)
      refine xx_aload_nP (pc := 56) dX12_ruleHere_56 3 rfl rfl ?_
      refine xx_bipush (pc := 57) dX12_ruleHere_57 cc_bipush_105 ?_
      refine xx_bipush (pc := 59) dX12_ruleHere_59 cc_bipush_102 ?_
      refine xx_callV0 (pc := 61) (st := []) sh_114 (cZ_if (w := w1) z_w1) kX12_isTwo vX12_227_12 dX12_ruleHere_61 rfl rfl (Nat.le_of_ble_eq_true rfl) (pl_hR (d := 20) (by omega) (Nat.le_of_ble_eq_true rfl)) ⟨Nat.zero_le _, Nat.zero_le _⟩ (ic_ke ?_)
      refine xx_if_eqB (pc := 64) 80 dX12_ruleHere_64 rfl (fun c4 => ?_) (fun c4 => ?_)
      · have nif_ : ¬ tk_i f n [105, 102] (tk_z f n a) = true := c4
        exact xx_sub [0, 1, 2, 3] rfl (c80 (tk_z f n a) [] w1 z_w1 p_w1 x_w1 s_w1 z1 (if_neg nif_) (by show 2 * (w 115 7 + 0) ≤ _; omega))
      · have nif_ : tk_i f n [105, 102] (tk_z f n a) = true := c4
        have zi_ := tk_i_z zk_.2 nif_
        refine xx_aload_nP (pc := 67) dX12_ruleHere_67 3 rfl rfl ?_
        refine xx_callV0 (pc := 68) (st := []) sh_114 (cZ_next (w := w1) z_w1) kX12_nextToken vX12_184_12 dX12_ruleHere_68 rfl rfl (Nat.le_of_ble_eq_true rfl) (pl_hR (d := 20) (by omega) (Nat.le_of_ble_eq_true rfl)) ⟨Nat.zero_le _, Nat.zero_le _⟩ (ic_kv (fun h_ qw5 => ?_))
        obtain ⟨w5, rfl, y_w5, z_w5, p0_⟩ := qw5
        have p_w5 : w5 114 10 = 0 := p0_.trans p_w1
        have x_w5 := x_w1.tr y_w5.h
        have o_w5 : w5 114 11 = w 114 11 := (y_w5.2 11 (by omega)).trans o_w1
        have s_w5 : w5 115 = tk_sts (w 115) [] := (y_w5.1 115 (by decide)).trans s_w1
        refine xx_aload_nP (pc := 71) dX12_ruleHere_71 3 rfl rfl ?_
        refine xx_iconst (pc := 72) dX12_ruleHere_72 cc_iconst_0 ?_
        refine xx_putN (pc := 73) dX12_ruleHere_73 sh_114 fX12_212_12 rfl rfl ?_
        refine xx_nw (fun w7 ew7 => ?_)
        have y_w7 : Hw w5 w7 := ⟨fun a h1 h2 => by rw [ew7, wu_row _ _ _ h1], fun j hj => by rw [ew7, wu_k _ _ _ _ (by omega)], fun j _ => by rw [ew7, wu_row _ _ _ (by decide)]⟩
        have x_w7 := x_w5.tr y_w7
        have o_w7 : w7 114 11 = 0 := by rw [ew7, wu_s]
        have z_w7 : Tz w7 f n (tk_z f n (tk_z f n a)) := z_w5.of (fun j h1 h2 => by rw [ew7, wu_k _ _ _ _ (by omega)]) (by rw [ew7, wu_row _ _ _ (by decide)])
        have p_w7 : w7 114 10 = 0 := by rw [ew7, wu_k _ _ _ _ (by omega)]; exact p_w5
        have s_w7 : w7 115 = tk_sts (w 115) [] := by rw [ew7, wu_row _ _ _ (by decide)]; exact s_w5
        refine xx_aload_nP (pc := 76) dX12_ruleHere_76 3 rfl rfl ?_
        refine xx_callV0 (pc := 77) (st := []) sh_114 (cZ_conds 3 z_w7 p_w7 (by omega) (by rw [s_w7]; show 2 * w 115 7 ≤ _; omega)) kX12_condHere vX12_215_12 dX12_ruleHere_77 rfl rfl (Nat.le_of_ble_eq_true rfl) (pl_hR (d := 20) (by omega) (Nat.le_of_ble_eq_true rfl)) ⟨Nat.zero_le _, Nat.zero_le _⟩ (ic_kv (fun h_ qw8 => ?_))
        obtain ⟨w8, rfl, y_w8, q11_w8, z_w8, q10_w8, q15_w8⟩ := qw8
        have R_w8 := tk_cnd_1R (f := f) 3 (tk_z f n (tk_z f n a)) (z_w7).2.1
        have x_w8 := x_w7.tr y_w8
        have o_w8 : w8 114 11 = 0 := q11_w8.trans o_w7
        by_cases v_w8 : (tk_cnd f n (tk_one f n 3) (tk_z f n (tk_z f n a))).1 = 0
        · have p_w8 : w8 114 10 = 0 := q10_w8.trans v_w8
          have s_w8 : w8 115 = tk_sts (w 115) ((tk_cnd f n (tk_one f n 3) (tk_z f n (tk_z f n a))).2.2) := by rw [q15_w8 v_w8, s_w7] <;> rfl
          exact xx_sub [0, 1, 2, 3] rfl (c80 ((tk_cnd f n (tk_one f n 3) (tk_z f n (tk_z f n a))).2.1) ((tk_cnd f n (tk_one f n 3) (tk_z f n (tk_z f n a))).2.2) w8 z_w8 p_w8 x_w8 s_w8 z1 (by unfold tk_rb; rw [if_pos nif_]; exact tk_P_0 v_w8) (by have := (R_w8.2.2.2 v_w8).1; omega))
        · have v1_w8 : (tk_cnd f n (tk_one f n 3) (tk_z f n (tk_z f n a))).1 = 1 := by have := R_w8.1; omega
          have p_w8 : w8 114 10 = 1 := q10_w8.trans v1_w8
          exact xx_sub [0, 1, 2, 3] rfl (cw80 ((tk_cnd f n (tk_one f n 3) (tk_z f n (tk_z f n a))).2.1) w8 z_w8 p_w8 x_w8 (by unfold tk_rh; rw [if_pos z1]; unfold tk_rb; rw [if_pos nif_, tk_bd_1 v1_w8]; exact ⟨v1_w8, rfl⟩))
    · refine xx_callV0 (pc := 38) (st := []) sh_114 (cZ_needF (w := w) (b := tk_rk f n (w 115 5) a) z_w (by first | exact tk_rk_le _ _ _ _ | exact tk_rq_le _ _ _ | omega) (by omega) (by omega)) kX12_needs vX12_198_12 dX12_ruleHere_38 rfl rfl (Nat.le_of_ble_eq_true rfl) (pl_hR (d := 20) (by omega) (Nat.le_of_ble_eq_true rfl)) ⟨Nat.zero_le _, Nat.zero_le _⟩ (ic_kv (fun h_ qw10 => ?_))
      obtain ⟨w10, rfl, y_w10, z_w10, p_w10⟩ := qw10
      have x_w10 := x_w.tr y_w10.h
      have o_w10 : w10 114 11 = w 114 11 := (y_w10.2 11 (by omega)).trans o_w
      refine xx_aload_nP (pc := 41) dX12_ruleHere_41 2 rfl rfl ?_
      refine xx_getR (pc := 42) 115 dX12_ruleHere_42 sh_114 fX12_7_12 rfl rfl (by decide) ?_
      refine xx_bipush (pc := 45) dX12_ruleHere_45 cc_bipush_7 ?_
      have e115_w10 : w10 115 = w 115 := (y_w10.1 115 (by decide))
      refine xx_ialdN (pc := 47) dX12_ruleHere_47 sh_115 (by omega) (by decide) ?_
      refine xx_eqI (y := nI (w 115 7)) (by rw [e115_w10]) ?_
      refine xx_istore_n (L' := [(3, .int (nI (w 115 7))), (2, .int (nI (tk_kd f n (tk_k f n a) a (tk_e f n a)))), (1, .int (nI (72 + 4 * w 115 5))), (0, ic_pt E 114)]) (pc := 48) dX12_ruleHere_48 rfl (Nat.le_of_ble_eq_true rfl) rfl ?_
      refine xx_aload_nP (pc := 49) dX12_ruleHere_49 3 rfl rfl ?_
      refine xx_getN (pc := 50) dX12_ruleHere_50 sh_114 fX12_180_12 rfl ?_
      refine xx_eqI (y := nI (1)) (by rw [p_w10]) ?_
      refine xx_if_neN (pc := 53) 80 dX12_ruleHere_53 rfl (by omega) (fun c12 => ?_) (fun c12 => by exfalso; omega)
      exact xx_sub [0, 1, 2, 3] rfl (cw80 a w10 z_w10 p_w10 x_w10 (by unfold tk_rh; rw [if_neg z1]; exact ⟨rfl, rfl⟩))
  refine xx_bipush (pc := 0) dX12_ruleHere_0 cc_bipush_72 ?_
  refine xx_iconst (pc := 2) dX12_ruleHere_2 cc_iconst_4 ?_
  refine xx_aload_nP (pc := 3) dX12_ruleHere_3 0 rfl rfl ?_
  refine xx_getR (pc := 4) 115 dX12_ruleHere_4 sh_114 fX12_7_12 rfl rfl (by decide) ?_
  refine xx_iconst (pc := 7) dX12_ruleHere_7 cc_iconst_5 ?_
  refine xx_ialdN (pc := 8) dX12_ruleHere_8 sh_115 (by omega) (by decide) ?_
  refine xx_imulN (pc := 9) dX12_ruleHere_9 ?_
  refine xx_iaddN (pc := 10) dX12_ruleHere_10 ?_
  refine xx_eqI (y := nI (72 + (4 * (w 115 5)))) (rfl) ?_
  refine xx_istore_n (L' := [(1, .int (nI (72 + (4 * (w 115 5))))), (0, ic_pt E 114)]) (pc := 11) dX12_ruleHere_11 rfl (Nat.le_of_ble_eq_true rfl) rfl ?_
  refine xx_aload_nP (pc := 12) dX12_ruleHere_12 1 rfl rfl ?_
  refine xx_callV0 (pc := 13) (st := []) sh_114 (cZ_kind (w := w) z_w) kX12_kindHere vX12_230_12 dX12_ruleHere_13 rfl rfl (Nat.le_of_ble_eq_true rfl) (pl_hR (d := 20) (by omega) (Nat.le_of_ble_eq_true rfl)) ⟨Nat.zero_le _, Nat.zero_le _⟩ (ic_ke ?_)
  refine xx_istore_n (L' := [(2, .int (nI (tk_kd f n (tk_k f n a) a (tk_e f n a)))), (1, .int (nI (72 + (4 * (w 115 5))))), (0, ic_pt E 114)]) (pc := 16) dX12_ruleHere_16 rfl (Nat.le_of_ble_eq_true rfl) rfl ?_
  refine xx_aload_nP (pc := 17) dX12_ruleHere_17 2 rfl rfl ?_
  refine xx_iload_n (pc := 18) dX12_ruleHere_18 0 rfl rfl ?_
  refine xx_if_ltS (pc := 19) 37 dX12_ruleHere_19 rfl (by omega) (fun c101 => ?_) (fun c101 => ?_)
  · refine xx_iconst (pc := 37) dX12_ruleHere_37 cc_iconst_0 ?_
    refine xx_eqI (y := nI (tk_rk f n (w 115 5) a)) (by rw [show tk_rk f n (w 115 5) a = 0 from if_neg (by omega)]) ?_
    exact xx_sub [0, 1, 2] rfl ct38
  · refine xx_aload_nP (pc := 22) dX12_ruleHere_22 2 rfl rfl ?_
    refine xx_getR (pc := 23) 115 dX12_ruleHere_23 sh_114 fX12_7_12 rfl rfl (by decide) ?_
    refine xx_iconst (pc := 26) dX12_ruleHere_26 cc_iconst_5 ?_
    refine xx_ialdN (pc := 27) dX12_ruleHere_27 sh_115 (by omega) (by decide) ?_
    refine xx_bipush (pc := 28) dX12_ruleHere_28 cc_bipush_8 ?_
    refine xx_icmp_geN (pc := 30) 37 dX12_ruleHere_30 rfl (by omega) (by omega) (fun c102 => ?_) (fun c102 => ?_)
    · refine xx_iconst (pc := 37) dX12_ruleHere_37 cc_iconst_0 ?_
      refine xx_eqI (y := nI (tk_rk f n (w 115 5) a)) (by rw [show tk_rk f n (w 115 5) a = 0 from if_neg (by omega)]) ?_
      exact xx_sub [0, 1, 2] rfl ct38
    · refine xx_iconst (pc := 33) dX12_ruleHere_33 cc_iconst_1 ?_
      refine xx_goto (pc := 34) 38 dX12_ruleHere_34 rfl ?_
      refine xx_eqI (y := nI (tk_rk f n (w 115 5) a)) (by rw [show tk_rk f n (w 115 5) a = 1 from if_pos (by omega)]) ?_
      exact xx_sub [0, 1, 2] rfl ct38

