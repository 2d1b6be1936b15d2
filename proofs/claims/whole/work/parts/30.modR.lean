/-! trains by a sheet -/
theorem ll_sum {a k r : Nat} (ha : a < 2 ^ 32) (hk : k ≤ 20) (hr : r ≤ 40) : ((0 : Int64).toInt ≤ ((nI a).toInt64 + (nI k).toInt64).toInt ∧ ((nI a).toInt64 + (nI k).toInt64).toInt ≤ ((nI r).toInt64 - 1).toInt) ↔ (a + k) % 4294967296 < r := by
  rw [Int64.toInt_add, Int64.toInt_sub, ll_i ha, ll_i (by omega), ll_i (by omega), show (0 : Int64).toInt = 0 from rfl, show (1 : Int64).toInt = 1 from by decide, if_pos (show k < 2 ^ 31 by omega), if_pos (show r < 2 ^ 31 by omega)]
  simp only [Int.bmod]
  split <;> repeat' split
  all_goals omega
theorem nI_ix {i a k : Nat} : nI (40 * i + a + k) = nI (40 * i + (a + k) % 4294967296) := by
  rw [← nI_mod (40 * i + a + k), ← nI_mod (40 * i + (a + k) % 4294967296)]
  congr 1
  omega
/-- trains with the numbers of a sheet: what they are worth, and what is behind them -/
def mo_gx (f : Nat → Nat) (i a sz : Nat) : Nat → Nat → (Nat → Nat) → Nat → Nat × (Nat → Nat)
  | 0, _, s, t => (t, s)
  | n + 1, k, s, t => if (a + k) % 4294967296 < sz then (if f (40 * i + (a + k) % 4294967296) ≤ s 0 ∧ s 1 < s 2 then mo_gx f i a sz n (k + 1) (mo_go s (f (40 * i + (a + k) % 4294967296))) (t + mo_worth s (f (40 * i + (a + k) % 4294967296))) else mo_gx f i a sz n (k + 1) s t) else (4294967284, s)
def mo_sb (f : Nat → Nat) (i a sz : Nat) : Nat → Nat → (Nat → Nat) → Nat → Nat
  | 0, _, _, t => t
  | n + 1, k, s, t => if (a + k) % 4294967296 < sz then (if f (40 * i + (a + k) % 4294967296) ≤ s 0 ∧ s 1 < s 2 then mo_sb f i a sz n (k + 1) (mo_go s (f (40 * i + (a + k) % 4294967296))) (t + mo_worth s (f (40 * i + (a + k) % 4294967296))) else 4294967292) else 4294967284

set_option maxHeartbeats 4000000 in
set_option maxRecDepth 100000 in
theorem cM_goAll {l : Launch} {E : ic_E} {w : ic_w} {i : Nat} (hi_ : i < 2 ^ 32) {a : Nat} (ha_ : a < 2 ^ 32) {m : Nat} (hm_ : m < 2 ^ 32) (hS : mo_St w) (hI : In (w 115)) (hR : Ru (w 115)) : ic_C l E mX12_goAll 7 0 0 False [ic_pt E 114, .int (nI i), .int (nI a), .int (nI m)] SHs (hn w) SHs (ic_qi (fun v_ h_ => v_ = nI (if i ≤ 3 ∧ m ≤ 20 then (if mo_lk w i 0 = 0 then (mo_gx (w 128) i a (w 127 i) m 0 (w 115) 0).1 else mo_lk w i 0) else 4294967295) ∧ ∃ w2, h_ = hn w2 ∧ w2 115 = (if i ≤ 3 ∧ m ≤ 20 ∧ mo_lk w i 0 = 0 then (mo_gx (w 128) i a (w 127 i) m 0 (w 115) 0).2 else w 115) ∧ ∀ b, b ≠ 115 → b ≠ 120 → w2 b = w b)) := by
  refine ic_intro (by decide +kernel) (Nat.le_of_ble_eq_true rfl) ?_
  show xx l E _ _ 0 [(0, ic_pt E 114), (1, .int (nI i)), (2, .int (nI a)), (3, .int (nI m))] _ _ _
  refine xx_iload_n (pc := 0) dX12_goAll_0 1 rfl rfl ?_
  refine xx_callS0 (pc := 1) (st := []) (cM_isSheet (w := w) (a := i) (by omega)) kX12_isSheet sX12_350 dX12_goAll_1 rfl rfl (Nat.le_of_ble_eq_true rfl) ⟨Nat.le_of_ble_eq_true rfl, Nat.le_of_ble_eq_true rfl⟩ ⟨Nat.zero_le _, Nat.zero_le _⟩ (ic_ke ?_)
  refine xx_if_eqB (pc := 4) 19 dX12_goAll_4 rfl (fun c1 => ?_) (fun c1 => ?_)
  · refine xx_iconst (pc := 19) dX12_goAll_19 cc_iconst_m1 ?_
    exact xx_iret (pc := 20) dX12_goAll_20 rfl (rfl) (Nat.le_refl _) (Nat.le_refl _) (ic_ri ⟨by rw [if_neg (by omega)], w, rfl, by rw [if_neg (by omega)], fun _ _ _ => rfl⟩)
  · refine xx_iload_n (pc := 7) dX12_goAll_7 3 rfl rfl ?_
    refine xx_i2l (pc := 8) dX12_goAll_8 ?_
    refine xx_lconst (v := 0) (pc := 9) dX12_goAll_9 rfl ?_
    refine xx_ldc2 (v := 20) (pc := 10) dX12_goAll_10 oX12_358 ?_
    refine xx_callS0 (pc := 13) (st := []) (cM_isIn (0 ≤ m ∧ m ≤ 20) (ll_in (lo := 0) (hi := 20) (by omega) (by decide) (by decide) (by omega))) kX12_isIn sX12_66 dX12_goAll_13 rfl rfl (Nat.le_of_ble_eq_true rfl) ⟨Nat.le_of_ble_eq_true rfl, Nat.le_of_ble_eq_true rfl⟩ ⟨Nat.zero_le _, Nat.zero_le _⟩ (ic_ke ?_)
    refine xx_if_neB (pc := 16) 21 dX12_goAll_16 rfl (fun c2 => ?_) (fun c2 => ?_)
    · have hs := hS.1 i (by omega)
      have hlk := mo_lk_lt w i 0
      refine xx_aload_nP (pc := 21) dX12_goAll_21 0 rfl rfl ?_
      refine xx_iload_n (pc := 22) dX12_goAll_22 1 rfl rfl ?_
      refine xx_iconst (pc := 23) dX12_goAll_23 cc_iconst_0 ?_
      refine xx_callV0 (pc := 24) (st := []) sh_114 (cM_lacks (w := w) (i := i) (k := 0) (by omega) (by omega) hS) kX12_lacks vX12_355_12 dX12_goAll_24 rfl rfl (Nat.le_of_ble_eq_true rfl) ⟨Nat.le_of_ble_eq_true rfl, Nat.le_of_ble_eq_true rfl⟩ ⟨Nat.zero_le _, Nat.zero_le _⟩ (ic_ke ?_)
      refine xx_if_eqN (pc := 27) 37 dX12_goAll_27 rfl (by omega) (fun c3 => ?_) (fun c3 => ?_)
      · refine xx_iconst (pc := 37) dX12_goAll_37 cc_iconst_0 ?_
        refine xx_istore (L' := [(4, .int (nI 0)), (0, ic_pt E 114), (1, .int (nI i)), (2, .int (nI a)), (3, .int (nI m))]) (pc := 38) dX12_goAll_38 (Nat.le_of_ble_eq_true rfl) rfl ?_
        refine xx_iconst (pc := 40) dX12_goAll_40 cc_iconst_0 ?_
        refine xx_istore (L' := [(5, .int (nI 0)), (4, .int (nI 0)), (0, ic_pt E 114), (1, .int (nI i)), (2, .int (nI a)), (3, .int (nI m))]) (pc := 41) dX12_goAll_41 (Nat.le_of_ble_eq_true rfl) rfl ?_
        have lp : ∀ (n_ : Nat) (k t : Nat) (u : ic_w), k ≤ m → t ≤ 33 * k → mo_gx (w 128) i a (w 127 i) m 0 (w 115) 0 = mo_gx (u 128) i a (u 127 i) (m - k) k (u 115) t → In (u 115) → Ru (u 115) → (∀ b, b ≠ 115 → b ≠ 120 → u b = w b) → m - k < n_ → xx l E (ic_fr E mX12_goAll 7 0 0 False SHs (ic_qi (fun v_ h_ => v_ = nI (if i ≤ 3 ∧ m ≤ 20 then (if mo_lk w i 0 = 0 then (mo_gx (w 128) i a (w 127 i) m 0 (w 115) 0).1 else mo_lk w i 0) else 4294967295) ∧ ∃ w2, h_ = hn w2 ∧ w2 115 = (if i ≤ 3 ∧ m ≤ 20 ∧ mo_lk w i 0 = 0 then (mo_gx (w 128) i a (w 127 i) m 0 (w 115) 0).2 else w 115) ∧ ∀ b, b ≠ 115 → b ≠ 120 → w2 b = w b))) (0, 0) 43 [(5, .int (nI k)), (4, .int (nI t)), (0, ic_pt E 114), (1, .int (nI i)), (2, .int (nI a)), (3, .int (nI m))] [] SHs (hn u) := by
          intro n_
          induction n_ with
          | zero => intro k t u hk htl hq hI_u hR_u hr hm_; exact absurd hm_ (Nat.not_lt_zero _)
          | succ n_ ih_ =>
            intro k t u hk htl hq hI_u hR_u hr hm_
            have e7 : u 127 = w 127 := hr 127 (by omega) (by omega)
            have e8 : u 128 = w 128 := hr 128 (by omega) (by omega)
            have hs2 : u 127 i ≤ 40 := by rw [e7]; exact hs.2
            have hx32 : (a + k) % 4294967296 < 40 → u 128 (40 * i + (a + k) % 4294967296) < 2 ^ 32 := fun z => by rw [e8]; exact hS.2 _ (by omega)
            have htu := hI_u.t
            have hnu := hI_u.n
            refine xx_iload (pc := 43) dX12_goAll_43 0 rfl ?_
            refine xx_iload_n (pc := 45) dX12_goAll_45 5 rfl rfl ?_
            refine xx_icmp_geN (pc := 46) 127 dX12_goAll_46 rfl (by omega) (by omega) (fun c54 => ?_) (fun c54 => ?_)
            · refine xx_iload (pc := 127) dX12_goAll_127 1 rfl ?_
              exact xx_iret (pc := 129) dX12_goAll_129 rfl (rfl) (Nat.le_refl _) (Nat.le_refl _) (ic_ri ⟨by rw [if_pos (by omega), if_pos (by omega), hq, show m - k = 0 by omega, mo_gx], u, rfl, by rw [if_pos (by omega), hq, show m - k = 0 by omega, mo_gx], hr⟩)
            · refine xx_iload_n (pc := 49) dX12_goAll_49 4 rfl rfl ?_
              refine xx_i2l (pc := 50) dX12_goAll_50 ?_
              refine xx_iload (pc := 51) dX12_goAll_51 0 rfl ?_
              refine xx_i2l (pc := 53) dX12_goAll_53 ?_
              refine xx_ladd (pc := 54) dX12_goAll_54 ?_
              refine xx_lconst (v := 0) (pc := 55) dX12_goAll_55 rfl ?_
              refine xx_aload_nP (pc := 56) dX12_goAll_56 2 rfl rfl ?_
              refine xx_getR (pc := 57) 127 dX12_goAll_57 sh_114 fX12_46_12 rfl rfl (by decide) ?_
              refine xx_iload_n (pc := 60) dX12_goAll_60 3 rfl rfl ?_
              refine xx_ialdN (pc := 61) dX12_goAll_61 sh_127 (by omega) (by decide) ?_
              refine xx_i2l (pc := 62) dX12_goAll_62 ?_
              refine xx_lconst (v := 1) (pc := 63) dX12_goAll_63 rfl ?_
              refine xx_lsub (pc := 64) dX12_goAll_64 ?_
              refine xx_callS0 (pc := 65) (st := []) (cM_isIn ((a + k) % 4294967296 < u 127 i) (ll_sum (by omega) (by omega) (by omega))) kX12_isIn sX12_66 dX12_goAll_65 rfl rfl (Nat.le_of_ble_eq_true rfl) ⟨Nat.le_of_ble_eq_true rfl, Nat.le_of_ble_eq_true rfl⟩ ⟨Nat.zero_le _, Nat.zero_le _⟩ (ic_ke ?_)
              refine xx_if_neB (pc := 68) 74 dX12_goAll_68 rfl (fun c55 => ?_) (fun c55 => ?_)
              · refine xx_aload_nP (pc := 74) dX12_goAll_74 2 rfl rfl ?_
                refine xx_getR (pc := 75) 128 dX12_goAll_75 sh_114 fX12_49_12 rfl rfl (by decide) ?_
                refine xx_bipush (pc := 78) dX12_goAll_78 cc_bipush_40 ?_
                refine xx_iload_n (pc := 80) dX12_goAll_80 3 rfl rfl ?_
                refine xx_imulN (pc := 81) dX12_goAll_81 ?_
                refine xx_iload_n (pc := 82) dX12_goAll_82 4 rfl rfl ?_
                refine xx_iaddN (pc := 83) dX12_goAll_83 ?_
                refine xx_iload (pc := 84) dX12_goAll_84 0 rfl ?_
                refine xx_iaddN (pc := 86) dX12_goAll_86 ?_
                refine xx_eqI (y := nI (40 * i + (a + k) % 4294967296)) (nI_ix) ?_
                refine xx_ialdN (pc := 87) dX12_goAll_87 sh_128 (by omega) (by decide) ?_
                refine xx_istore (L' := [(6, .int (nI (u 128 (40 * i + (a + k) % 4294967296)))), (5, .int (nI k)), (4, .int (nI t)), (0, ic_pt E 114), (1, .int (nI i)), (2, .int (nI a)), (3, .int (nI m))]) (pc := 88) dX12_goAll_88 (Nat.le_of_ble_eq_true rfl) rfl ?_
                refine xx_iload (pc := 90) dX12_goAll_90 2 rfl ?_
                refine xx_aload_nP (pc := 92) dX12_goAll_92 3 rfl rfl ?_
                refine xx_iload (pc := 93) dX12_goAll_93 0 rfl ?_
                refine xx_callV0 (pc := 95) (st := [.int (nI t)]) sh_114 (cM_isAct (w := u) (a := u 128 (40 * i + (a + k) % 4294967296)) (by omega) hI_u) kX12_isAct vX12_347_12 dX12_goAll_95 rfl rfl (Nat.le_of_ble_eq_true rfl) ⟨Nat.le_of_ble_eq_true rfl, Nat.le_of_ble_eq_true rfl⟩ ⟨Nat.zero_le _, Nat.zero_le _⟩ (ic_ke ?_)
                refine xx_if_eqB (pc := 98) 117 dX12_goAll_98 rfl (fun c56 => ?_) (fun c56 => ?_)
                · refine xx_iconst (pc := 117) dX12_goAll_117 cc_iconst_0 ?_
                  refine xx_iaddN (pc := 118) dX12_goAll_118 ?_
                  refine xx_istore (L' := [(4, .int (nI (t + 0))), (6, .int (nI (u 128 (40 * i + (a + k) % 4294967296)))), (5, .int (nI k)), (0, ic_pt E 114), (1, .int (nI i)), (2, .int (nI a)), (3, .int (nI m))]) (pc := 119) dX12_goAll_119 (Nat.le_of_ble_eq_true rfl) rfl ?_
                  refine xx_iincN (L' := [(5, .int (nI (k + 1))), (4, .int (nI (t + 0))), (6, .int (nI (u 128 (40 * i + (a + k) % 4294967296)))), (0, ic_pt E 114), (1, .int (nI i)), (2, .int (nI a)), (3, .int (nI m))]) (pc := 121) dX12_goAll_121 2 rfl cc_iconst_1 (Nat.le_of_ble_eq_true rfl) rfl ?_
                  refine xx_goto (pc := 124) 43 dX12_goAll_124 rfl ?_
                  have hnx : mo_gx (w 128) i a (w 127 i) m 0 (w 115) 0 = mo_gx (u 128) i a (u 127 i) (m - (k + 1)) (k + 1) (u 115) t := by rw [hq, show m - k = (m - (k + 1)) + 1 by omega, mo_gx, if_pos (by omega), if_neg (by omega)]
                  exact xx_sub [0, 1, 3, 4, 5, 6] rfl (ih_ (k + 1) _ u (by omega) (by omega) hnx hI_u hR_u hr (by omega))
                · refine xx_aload_nP (pc := 101) dX12_goAll_101 3 rfl rfl ?_
                  refine xx_callV0 (pc := 102) (st := [.int (nI t)]) sh_114 (cM_isOver (w := u) hI_u) kX12_isOver vX12_140_12 dX12_goAll_102 rfl rfl (Nat.le_of_ble_eq_true rfl) ⟨Nat.le_of_ble_eq_true rfl, Nat.le_of_ble_eq_true rfl⟩ ⟨Nat.zero_le _, Nat.zero_le _⟩ (ic_ke ?_)
                  refine xx_if_neB (pc := 105) 117 dX12_goAll_105 rfl (fun c57 => ?_) (fun c57 => ?_)
                  · refine xx_iconst (pc := 117) dX12_goAll_117 cc_iconst_0 ?_
                    refine xx_iaddN (pc := 118) dX12_goAll_118 ?_
                    refine xx_istore (L' := [(4, .int (nI (t + 0))), (6, .int (nI (u 128 (40 * i + (a + k) % 4294967296)))), (5, .int (nI k)), (0, ic_pt E 114), (1, .int (nI i)), (2, .int (nI a)), (3, .int (nI m))]) (pc := 119) dX12_goAll_119 (Nat.le_of_ble_eq_true rfl) rfl ?_
                    refine xx_iincN (L' := [(5, .int (nI (k + 1))), (4, .int (nI (t + 0))), (6, .int (nI (u 128 (40 * i + (a + k) % 4294967296)))), (0, ic_pt E 114), (1, .int (nI i)), (2, .int (nI a)), (3, .int (nI m))]) (pc := 121) dX12_goAll_121 2 rfl cc_iconst_1 (Nat.le_of_ble_eq_true rfl) rfl ?_
                    refine xx_goto (pc := 124) 43 dX12_goAll_124 rfl ?_
                    have hnx : mo_gx (w 128) i a (w 127 i) m 0 (w 115) 0 = mo_gx (u 128) i a (u 127 i) (m - (k + 1)) (k + 1) (u 115) t := by rw [hq, show m - k = (m - (k + 1)) + 1 by omega, mo_gx, if_pos (by omega), if_neg (by omega)]
                    exact xx_sub [0, 1, 3, 4, 5, 6] rfl (ih_ (k + 1) _ u (by omega) (by omega) hnx hI_u hR_u hr (by omega))
                  · refine xx_aload_nP (pc := 108) dX12_goAll_108 3 rfl rfl ?_
                    refine xx_iload (pc := 109) dX12_goAll_109 0 rfl ?_
                    have hxa : u 128 (40 * i + (a + k) % 4294967296) ≤ 6 := by omega
                    have hwl_x58 := mo_worth_le hI_u (act := u 128 (40 * i + (a + k) % 4294967296)) (by omega)
                    refine xx_callV0 (pc := 111) (st := [.int (nI t)]) sh_114 (cM_goesWith (w := u) (act := u 128 (40 * i + (a + k) % 4294967296)) (by omega) (by omega) hI_u hR_u (by omega)) kX12_goesWith vX12_248_12 dX12_goAll_111 rfl rfl (Nat.le_of_ble_eq_true rfl) ⟨Nat.le_of_ble_eq_true rfl, Nat.le_of_ble_eq_true rfl⟩ ⟨Nat.zero_le _, Nat.zero_le _⟩ (ic_ki (fun v60 h_ qw59 => ?_))
                    obtain ⟨rfl, w59, rfl, gw59⟩ := qw59
                    have hI_w59 : In (w59 115) := by rw [gw59.1]; exact In_go hI_u (by omega) (by omega)
                    have hR_w59 : Ru (w59 115) := by rw [gw59.1]; exact Ru_go hR_u hI_u (by omega)
                    refine xx_goto (pc := 114) 118 dX12_goAll_114 rfl ?_
                    refine xx_iaddN (pc := 118) dX12_goAll_118 ?_
                    refine xx_istore (L' := [(4, .int (nI (t + (mo_worth (u 115) (u 128 (40 * i + (a + k) % 4294967296)))))), (6, .int (nI (u 128 (40 * i + (a + k) % 4294967296)))), (5, .int (nI k)), (0, ic_pt E 114), (1, .int (nI i)), (2, .int (nI a)), (3, .int (nI m))]) (pc := 119) dX12_goAll_119 (Nat.le_of_ble_eq_true rfl) rfl ?_
                    refine xx_iincN (L' := [(5, .int (nI (k + 1))), (4, .int (nI (t + (mo_worth (u 115) (u 128 (40 * i + (a + k) % 4294967296)))))), (6, .int (nI (u 128 (40 * i + (a + k) % 4294967296)))), (0, ic_pt E 114), (1, .int (nI i)), (2, .int (nI a)), (3, .int (nI m))]) (pc := 121) dX12_goAll_121 2 rfl cc_iconst_1 (Nat.le_of_ble_eq_true rfl) rfl ?_
                    refine xx_goto (pc := 124) 43 dX12_goAll_124 rfl ?_
                    have hnx : mo_gx (w 128) i a (w 127 i) m 0 (w 115) 0 = mo_gx (u 128) i a (u 127 i) (m - (k + 1)) (k + 1) (w59 115) (t + mo_worth (u 115) (u 128 (40 * i + (a + k) % 4294967296))) := by rw [hq, show m - k = (m - (k + 1)) + 1 by omega, mo_gx, if_pos (by omega), if_pos (by omega), gw59.1]
                    have hn8 : w59 128 = u 128 := gw59.2 128 (by omega) (by omega)
                    have hn7 : w59 127 = u 127 := gw59.2 127 (by omega) (by omega)
                    exact xx_sub [0, 1, 3, 4, 5, 6] rfl (ih_ (k + 1) _ w59 (by omega) (by omega) (by rw [hn8, hn7]; exact hnx) hI_w59 hR_w59 (fun b q1 q2 => by rw [gw59.2 b q1 q2]; exact hr b q1 q2) (by omega))
              · refine xx_bipush (pc := 71) dX12_goAll_71 cc_bipush_m12 ?_
                exact xx_iret (pc := 73) dX12_goAll_73 rfl (rfl) (Nat.le_refl _) (Nat.le_refl _) (ic_ri ⟨by rw [if_pos (by omega), if_pos (by omega), hq, show m - k = (m - (k + 1)) + 1 by omega, mo_gx, if_neg (by omega)], u, rfl, by rw [if_pos (by omega), hq, show m - k = (m - (k + 1)) + 1 by omega, mo_gx, if_neg (by omega)], hr⟩)
        exact xx_sub [0, 1, 2, 3, 4, 5] rfl (lp (m + 1) 0 0 w (by omega) (by omega) rfl hI hR (fun _ _ _ => rfl) (by omega))
      · refine xx_aload_nP (pc := 30) dX12_goAll_30 0 rfl rfl ?_
        refine xx_iload_n (pc := 31) dX12_goAll_31 1 rfl rfl ?_
        refine xx_iconst (pc := 32) dX12_goAll_32 cc_iconst_0 ?_
        refine xx_callV0 (pc := 33) (st := []) sh_114 (cM_lacks (w := w) (i := i) (k := 0) (by omega) (by omega) hS) kX12_lacks vX12_355_12 dX12_goAll_33 rfl rfl (Nat.le_of_ble_eq_true rfl) ⟨Nat.le_of_ble_eq_true rfl, Nat.le_of_ble_eq_true rfl⟩ ⟨Nat.zero_le _, Nat.zero_le _⟩ (ic_ke ?_)
        exact xx_iret (pc := 36) dX12_goAll_36 rfl (rfl) (Nat.le_refl _) (Nat.le_refl _) (ic_ri ⟨by rw [if_pos (by omega), if_neg (by omega)], w, rfl, by rw [if_neg (by omega)], fun _ _ _ => rfl⟩)
    · refine xx_iconst (pc := 19) dX12_goAll_19 cc_iconst_m1 ?_
      exact xx_iret (pc := 20) dX12_goAll_20 rfl (rfl) (Nat.le_refl _) (Nat.le_refl _) (ic_ri ⟨by rw [if_neg (by omega)], w, rfl, by rw [if_neg (by omega)], fun _ _ _ => rfl⟩)

set_option maxHeartbeats 4000000 in
set_option maxRecDepth 100000 in
theorem cM_sumBy {l : Launch} {E : ic_E} {w : ic_w} {i a m : Nat} (hi3 : i ≤ 3) (ha_ : a < 2 ^ 32) (hm20 : m ≤ 20) (hS : mo_St w) (hI : In (w 115)) (hR : Ru (w 115)) : ic_C l E mX12_sumBy 7 0 0 False [ic_pt E 114, .int (nI i), .int (nI a), .int (nI m)] SHs (hn w) SHs (ic_qi (fun v_ h_ => v_ = nI (mo_sb (w 128) i a (w 127 i) m 0 (w 115) 0) ∧ ∃ w2, h_ = hn w2 ∧ (∀ k, 44 ≤ k → w2 115 k = w 115 k) ∧ ∀ b, b ≠ 115 → b ≠ 120 → w2 b = w b)) := by
  refine ic_intro (by decide +kernel) (Nat.le_of_ble_eq_true rfl) ?_
  show xx l E _ _ 0 [(0, ic_pt E 114), (1, .int (nI i)), (2, .int (nI a)), (3, .int (nI m))] _ _ _
  refine xx_iconst (pc := 0) dX12_sumBy_0 cc_iconst_0 ?_
  refine xx_istore (L' := [(4, .int (nI 0)), (0, ic_pt E 114), (1, .int (nI i)), (2, .int (nI a)), (3, .int (nI m))]) (pc := 1) dX12_sumBy_1 (Nat.le_of_ble_eq_true rfl) rfl ?_
  refine xx_iconst (pc := 3) dX12_sumBy_3 cc_iconst_0 ?_
  refine xx_istore (L' := [(5, .int (nI 0)), (4, .int (nI 0)), (0, ic_pt E 114), (1, .int (nI i)), (2, .int (nI a)), (3, .int (nI m))]) (pc := 4) dX12_sumBy_4 (Nat.le_of_ble_eq_true rfl) rfl ?_
  have lp : ∀ (n_ : Nat) (k t : Nat) (u : ic_w), k ≤ m → t ≤ 33 * k → mo_sb (w 128) i a (w 127 i) m 0 (w 115) 0 = mo_sb (u 128) i a (u 127 i) (m - k) k (u 115) t → In (u 115) → Ru (u 115) → (∀ k, 44 ≤ k → u 115 k = w 115 k) → (∀ b, b ≠ 115 → b ≠ 120 → u b = w b) → m - k < n_ → xx l E (ic_fr E mX12_sumBy 7 0 0 False SHs (ic_qi (fun v_ h_ => v_ = nI (mo_sb (w 128) i a (w 127 i) m 0 (w 115) 0) ∧ ∃ w2, h_ = hn w2 ∧ (∀ k, 44 ≤ k → w2 115 k = w 115 k) ∧ ∀ b, b ≠ 115 → b ≠ 120 → w2 b = w b))) (0, 0) 6 [(5, .int (nI k)), (4, .int (nI t)), (0, ic_pt E 114), (1, .int (nI i)), (2, .int (nI a)), (3, .int (nI m))] [] SHs (hn u) := by
    intro n_
    induction n_ with
    | zero => intro k t u hk htl hq hI_u hR_u h44 hr hm_; exact absurd hm_ (Nat.not_lt_zero _)
    | succ n_ ih_ =>
      intro k t u hk htl hq hI_u hR_u h44 hr hm_
      have e7 : u 127 = w 127 := hr 127 (by omega) (by omega)
      have e8 : u 128 = w 128 := hr 128 (by omega) (by omega)
      have hs2 : u 127 i ≤ 40 := by rw [e7]; exact (hS.1 i (by omega)).2
      have hx32 : (a + k) % 4294967296 < 40 → u 128 (40 * i + (a + k) % 4294967296) < 2 ^ 32 := fun z => by rw [e8]; exact hS.2 _ (by omega)
      have htu := hI_u.t
      have hnu := hI_u.n
      refine xx_iload (pc := 6) dX12_sumBy_6 0 rfl ?_
      refine xx_iload_n (pc := 8) dX12_sumBy_8 5 rfl rfl ?_
      refine xx_icmp_geN (pc := 9) 89 dX12_sumBy_9 rfl (by omega) (by omega) (fun c51 => ?_) (fun c51 => ?_)
      · refine xx_iload (pc := 89) dX12_sumBy_89 1 rfl ?_
        exact xx_iret (pc := 91) dX12_sumBy_91 rfl (rfl) (Nat.le_refl _) (Nat.le_refl _) (ic_ri ⟨by rw [hq, show m - k = 0 by omega, mo_sb], u, rfl, h44, hr⟩)
      · refine xx_iload_n (pc := 12) dX12_sumBy_12 4 rfl rfl ?_
        refine xx_i2l (pc := 13) dX12_sumBy_13 ?_
        refine xx_iload (pc := 14) dX12_sumBy_14 0 rfl ?_
        refine xx_i2l (pc := 16) dX12_sumBy_16 ?_
        refine xx_ladd (pc := 17) dX12_sumBy_17 ?_
        refine xx_lconst (v := 0) (pc := 18) dX12_sumBy_18 rfl ?_
        refine xx_aload_nP (pc := 19) dX12_sumBy_19 2 rfl rfl ?_
        refine xx_getR (pc := 20) 127 dX12_sumBy_20 sh_114 fX12_46_12 rfl rfl (by decide) ?_
        refine xx_iload_n (pc := 23) dX12_sumBy_23 3 rfl rfl ?_
        refine xx_ialdN (pc := 24) dX12_sumBy_24 sh_127 (by omega) (by decide) ?_
        refine xx_i2l (pc := 25) dX12_sumBy_25 ?_
        refine xx_lconst (v := 1) (pc := 26) dX12_sumBy_26 rfl ?_
        refine xx_lsub (pc := 27) dX12_sumBy_27 ?_
        refine xx_callS0 (pc := 28) (st := []) (cM_isIn ((a + k) % 4294967296 < u 127 i) (ll_sum (by omega) (by omega) (by omega))) kX12_isIn sX12_66 dX12_sumBy_28 rfl rfl (Nat.le_of_ble_eq_true rfl) ⟨Nat.le_of_ble_eq_true rfl, Nat.le_of_ble_eq_true rfl⟩ ⟨Nat.zero_le _, Nat.zero_le _⟩ (ic_ke ?_)
        refine xx_if_neB (pc := 31) 37 dX12_sumBy_31 rfl (fun c52 => ?_) (fun c52 => ?_)
        · refine xx_aload_nP (pc := 37) dX12_sumBy_37 2 rfl rfl ?_
          refine xx_getR (pc := 38) 128 dX12_sumBy_38 sh_114 fX12_49_12 rfl rfl (by decide) ?_
          refine xx_bipush (pc := 41) dX12_sumBy_41 cc_bipush_40 ?_
          refine xx_iload_n (pc := 43) dX12_sumBy_43 3 rfl rfl ?_
          refine xx_imulN (pc := 44) dX12_sumBy_44 ?_
          refine xx_iload_n (pc := 45) dX12_sumBy_45 4 rfl rfl ?_
          refine xx_iaddN (pc := 46) dX12_sumBy_46 ?_
          refine xx_iload (pc := 47) dX12_sumBy_47 0 rfl ?_
          refine xx_iaddN (pc := 49) dX12_sumBy_49 ?_
          refine xx_eqI (y := nI (40 * i + (a + k) % 4294967296)) (nI_ix) ?_
          refine xx_ialdN (pc := 50) dX12_sumBy_50 sh_128 (by omega) (by decide) ?_
          refine xx_istore (L' := [(6, .int (nI (u 128 (40 * i + (a + k) % 4294967296)))), (5, .int (nI k)), (4, .int (nI t)), (0, ic_pt E 114), (1, .int (nI i)), (2, .int (nI a)), (3, .int (nI m))]) (pc := 51) dX12_sumBy_51 (Nat.le_of_ble_eq_true rfl) rfl ?_
          refine xx_aload_nP (pc := 53) dX12_sumBy_53 3 rfl rfl ?_
          refine xx_iload (pc := 54) dX12_sumBy_54 0 rfl ?_
          refine xx_callV0 (pc := 56) (st := []) sh_114 (cM_isAct (w := u) (a := u 128 (40 * i + (a + k) % 4294967296)) (by omega) hI_u) kX12_isAct vX12_347_12 dX12_sumBy_56 rfl rfl (Nat.le_of_ble_eq_true rfl) ⟨Nat.le_of_ble_eq_true rfl, Nat.le_of_ble_eq_true rfl⟩ ⟨Nat.zero_le _, Nat.zero_le _⟩ (ic_ke ?_)
          refine xx_if_eqB (pc := 59) 69 dX12_sumBy_59 rfl (fun c53 => ?_) (fun c53 => ?_)
          · refine xx_bipush (pc := 69) dX12_sumBy_69 cc_bipush_m4 ?_
            exact xx_iret (pc := 71) dX12_sumBy_71 rfl (rfl) (Nat.le_refl _) (Nat.le_refl _) (ic_ri ⟨by rw [hq, show m - k = (m - (k + 1)) + 1 by omega, mo_sb, if_pos (by omega), if_neg (by omega)], u, rfl, h44, hr⟩)
          · refine xx_aload_nP (pc := 62) dX12_sumBy_62 3 rfl rfl ?_
            refine xx_callV0 (pc := 63) (st := []) sh_114 (cM_isOver (w := u) hI_u) kX12_isOver vX12_140_12 dX12_sumBy_63 rfl rfl (Nat.le_of_ble_eq_true rfl) ⟨Nat.le_of_ble_eq_true rfl, Nat.le_of_ble_eq_true rfl⟩ ⟨Nat.zero_le _, Nat.zero_le _⟩ (ic_ke ?_)
            refine xx_if_eqB (pc := 66) 72 dX12_sumBy_66 rfl (fun c54 => ?_) (fun c54 => ?_)
            · refine xx_iload (pc := 72) dX12_sumBy_72 2 rfl ?_
              refine xx_aload_nP (pc := 74) dX12_sumBy_74 3 rfl rfl ?_
              refine xx_iload (pc := 75) dX12_sumBy_75 0 rfl ?_
              have hxa : u 128 (40 * i + (a + k) % 4294967296) ≤ 6 := by omega
              have hwl_x55 := mo_worth_le hI_u (act := u 128 (40 * i + (a + k) % 4294967296)) (by omega)
              refine xx_callV0 (pc := 77) (st := [.int (nI t)]) sh_114 (cM_goesWith (w := u) (act := u 128 (40 * i + (a + k) % 4294967296)) (by omega) (by omega) hI_u hR_u (by omega)) kX12_goesWith vX12_248_12 dX12_sumBy_77 rfl rfl (Nat.le_of_ble_eq_true rfl) ⟨Nat.le_of_ble_eq_true rfl, Nat.le_of_ble_eq_true rfl⟩ ⟨Nat.zero_le _, Nat.zero_le _⟩ (ic_ki (fun v57 h_ qw56 => ?_))
              obtain ⟨rfl, w56, rfl, gw56⟩ := qw56
              have hI_w56 : In (w56 115) := by rw [gw56.1]; exact In_go hI_u (by omega) (by omega)
              have hR_w56 : Ru (w56 115) := by rw [gw56.1]; exact Ru_go hR_u hI_u (by omega)
              refine xx_iaddN (pc := 80) dX12_sumBy_80 ?_
              refine xx_istore (L' := [(4, .int (nI (t + (mo_worth (u 115) (u 128 (40 * i + (a + k) % 4294967296)))))), (6, .int (nI (u 128 (40 * i + (a + k) % 4294967296)))), (5, .int (nI k)), (0, ic_pt E 114), (1, .int (nI i)), (2, .int (nI a)), (3, .int (nI m))]) (pc := 81) dX12_sumBy_81 (Nat.le_of_ble_eq_true rfl) rfl ?_
              refine xx_iincN (L' := [(5, .int (nI (k + 1))), (4, .int (nI (t + (mo_worth (u 115) (u 128 (40 * i + (a + k) % 4294967296)))))), (6, .int (nI (u 128 (40 * i + (a + k) % 4294967296)))), (0, ic_pt E 114), (1, .int (nI i)), (2, .int (nI a)), (3, .int (nI m))]) (pc := 83) dX12_sumBy_83 2 rfl cc_iconst_1 (Nat.le_of_ble_eq_true rfl) rfl ?_
              refine xx_goto (pc := 86) 6 dX12_sumBy_86 rfl ?_
              have hnx : mo_sb (w 128) i a (w 127 i) m 0 (w 115) 0 = mo_sb (u 128) i a (u 127 i) (m - (k + 1)) (k + 1) (w56 115) (t + mo_worth (u 115) (u 128 (40 * i + (a + k) % 4294967296))) := by rw [hq, show m - k = (m - (k + 1)) + 1 by omega, mo_sb, if_pos (by omega), if_pos (by omega), gw56.1]
              have hn8 : w56 128 = u 128 := gw56.2 128 (by omega) (by omega)
              have hn7 : w56 127 = u 127 := gw56.2 127 (by omega) (by omega)
              exact xx_sub [0, 1, 3, 4, 5, 6] rfl (ih_ (k + 1) _ w56 (by omega) (by omega) (by rw [hn8, hn7]; exact hnx) hI_w56 hR_w56 (fun k hk => by rw [gw56.1, mo_go_r _ (by omega) (by omega) (by omega)]; exact h44 k hk) (fun b q1 q2 => by rw [gw56.2 b q1 q2]; exact hr b q1 q2) (by omega))
            · refine xx_bipush (pc := 69) dX12_sumBy_69 cc_bipush_m4 ?_
              exact xx_iret (pc := 71) dX12_sumBy_71 rfl (rfl) (Nat.le_refl _) (Nat.le_refl _) (ic_ri ⟨by rw [hq, show m - k = (m - (k + 1)) + 1 by omega, mo_sb, if_pos (by omega), if_neg (by omega)], u, rfl, h44, hr⟩)
        · refine xx_bipush (pc := 34) dX12_sumBy_34 cc_bipush_m12 ?_
          exact xx_iret (pc := 36) dX12_sumBy_36 rfl (rfl) (Nat.le_refl _) (Nat.le_refl _) (ic_ri ⟨by rw [hq, show m - k = (m - (k + 1)) + 1 by omega, mo_sb, if_neg (by omega)], u, rfl, h44, hr⟩)
  exact xx_sub [0, 1, 2, 3, 4, 5] rfl (lp (m + 1) 0 0 w (by omega) (by omega) rfl hI hR (fun _ _ => rfl) (fun _ _ _ => rfl) (by omega))

set_option maxHeartbeats 4000000 in
set_option maxRecDepth 100000 in
theorem cM_wouldBe {l : Launch} {E : ic_E} {w : ic_w} {i : Nat} (hi_ : i < 2 ^ 32) {a : Nat} (ha_ : a < 2 ^ 32) {m : Nat} (hm_ : m < 2 ^ 32) (hS : mo_St w) (hI : In (w 115)) (hR : Ru (w 115)) : ic_C l E mX12_wouldBe 8 0 0 False [ic_pt E 114, .int (nI i), .int (nI a), .int (nI m)] SHs (hn w) SHs (ic_qi (fun v_ h_ => v_ = nI (if i ≤ 3 ∧ m ≤ 20 then (if mo_lk w i 0 = 0 then mo_sb (w 128) i a (w 127 i) m 0 (w 115) 0 else mo_lk w i 0) else 4294967295) ∧ ∃ w2, h_ = hn w2 ∧ mo_sc w w2)) := by
  refine ic_intro (by decide +kernel) (Nat.le_of_ble_eq_true rfl) ?_
  show xx l E _ _ 0 [(0, ic_pt E 114), (1, .int (nI i)), (2, .int (nI a)), (3, .int (nI m))] _ _ _
  refine xx_iload_n (pc := 0) dX12_wouldBe_0 1 rfl rfl ?_
  refine xx_callS0 (pc := 1) (st := []) (cM_isSheet (w := w) (a := i) (by omega)) kX12_isSheet sX12_350 dX12_wouldBe_1 rfl rfl (Nat.le_of_ble_eq_true rfl) ⟨Nat.le_of_ble_eq_true rfl, Nat.le_of_ble_eq_true rfl⟩ ⟨Nat.zero_le _, Nat.zero_le _⟩ (ic_ke ?_)
  refine xx_if_eqB (pc := 4) 19 dX12_wouldBe_4 rfl (fun c1 => ?_) (fun c1 => ?_)
  · refine xx_iconst (pc := 19) dX12_wouldBe_19 cc_iconst_m1 ?_
    exact xx_iret (pc := 20) dX12_wouldBe_20 rfl (rfl) (Nat.le_refl _) (Nat.le_refl _) (ic_ri ⟨by rw [if_neg (by omega)], w, rfl, fun _ _ _ => rfl⟩)
  · refine xx_iload_n (pc := 7) dX12_wouldBe_7 3 rfl rfl ?_
    refine xx_i2l (pc := 8) dX12_wouldBe_8 ?_
    refine xx_lconst (v := 0) (pc := 9) dX12_wouldBe_9 rfl ?_
    refine xx_ldc2 (v := 20) (pc := 10) dX12_wouldBe_10 oX12_358 ?_
    refine xx_callS0 (pc := 13) (st := []) (cM_isIn (0 ≤ m ∧ m ≤ 20) (ll_in (lo := 0) (hi := 20) (by omega) (by decide) (by decide) (by omega))) kX12_isIn sX12_66 dX12_wouldBe_13 rfl rfl (Nat.le_of_ble_eq_true rfl) ⟨Nat.le_of_ble_eq_true rfl, Nat.le_of_ble_eq_true rfl⟩ ⟨Nat.zero_le _, Nat.zero_le _⟩ (ic_ke ?_)
    refine xx_if_neB (pc := 16) 21 dX12_wouldBe_16 rfl (fun c2 => ?_) (fun c2 => ?_)
    · have hs := hS.1 i (by omega)
      have hlk := mo_lk_lt w i 0
      refine xx_aload_nP (pc := 21) dX12_wouldBe_21 0 rfl rfl ?_
      refine xx_iload_n (pc := 22) dX12_wouldBe_22 1 rfl rfl ?_
      refine xx_iconst (pc := 23) dX12_wouldBe_23 cc_iconst_0 ?_
      refine xx_callV0 (pc := 24) (st := []) sh_114 (cM_lacks (w := w) (i := i) (k := 0) (by omega) (by omega) hS) kX12_lacks vX12_355_12 dX12_wouldBe_24 rfl rfl (Nat.le_of_ble_eq_true rfl) ⟨Nat.le_of_ble_eq_true rfl, Nat.le_of_ble_eq_true rfl⟩ ⟨Nat.zero_le _, Nat.zero_le _⟩ (ic_ke ?_)
      refine xx_if_eqN (pc := 27) 37 dX12_wouldBe_27 rfl (by omega) (fun c3 => ?_) (fun c3 => ?_)
      · refine xx_aload_nP (pc := 37) dX12_wouldBe_37 0 rfl rfl ?_
        refine xx_iconst (pc := 38) dX12_wouldBe_38 cc_iconst_0 ?_
        refine xx_callV0 (pc := 39) (st := []) sh_114 (cM_laysAside (w := w) (lv := 0) (by omega)) kX12_laysAside vX12_251_12 dX12_wouldBe_39 rfl rfl (Nat.le_of_ble_eq_true rfl) ⟨Nat.le_of_ble_eq_true rfl, Nat.le_of_ble_eq_true rfl⟩ ⟨Nat.zero_le _, Nat.zero_le _⟩ (ic_kv (fun h_ qw4 => ?_))
        obtain rfl := qw4
        refine xx_nw (fun w4 ew4 => ?_)
        refine xx_aload_nP (pc := 42) dX12_wouldBe_42 0 rfl rfl ?_
        refine xx_iload_n (pc := 43) dX12_wouldBe_43 1 rfl rfl ?_
        refine xx_iload_n (pc := 44) dX12_wouldBe_44 2 rfl rfl ?_
        refine xx_iload_n (pc := 45) dX12_wouldBe_45 3 rfl rfl ?_
        have r_w4 : w4 115 = w 115 := by rw [ew4, wr_n _ (by omega)]
        have hI_w4 : In (w4 115) := by rw [r_w4]; exact hI
        have hR_w4 : Ru (w4 115) := by rw [r_w4]; exact hR
        have r6 : w4 126 = w 126 ∧ w4 127 = w 127 ∧ w4 128 = w 128 := by rw [ew4]; exact ⟨wr_n _ (by omega), wr_n _ (by omega), wr_n _ (by omega)⟩
        have hS2 : mo_St w4 := by unfold mo_St; rw [r6.1, r6.2.1, r6.2.2]; exact hS
        refine xx_callV0 (pc := 46) (st := []) sh_114 (cM_sumBy (w := w4) (i := i) (a := a) (m := m) (by omega) (by omega) (by omega) hS2 hI_w4 hR_w4) kX12_sumBy vX12_360_12 dX12_wouldBe_46 rfl rfl (Nat.le_of_ble_eq_true rfl) ⟨Nat.le_of_ble_eq_true rfl, Nat.le_of_ble_eq_true rfl⟩ ⟨Nat.zero_le _, Nat.zero_le _⟩ (ic_ki (fun v7 h_ qw6 => ?_))
        obtain ⟨rfl, w6, rfl, a44, ar⟩ := qw6
        have vS : mo_sb (w4 128) i a (w4 127 i) m 0 (w4 115) 0 = mo_sb (w 128) i a (w 127 i) m 0 (w 115) 0 := by rw [r6.2.1, r6.2.2, r_w4]
        refine xx_istore (L' := [(4, .int (nI (mo_sb (w4 128) i a (w4 127 i) m 0 (w4 115) 0))), (0, ic_pt E 114), (1, .int (nI i)), (2, .int (nI a)), (3, .int (nI m))]) (pc := 49) dX12_wouldBe_49 (Nat.le_of_ble_eq_true rfl) rfl ?_
        refine xx_aload_nP (pc := 51) dX12_wouldBe_51 1 rfl rfl ?_
        refine xx_iconst (pc := 52) dX12_wouldBe_52 cc_iconst_0 ?_
        refine xx_callV0 (pc := 53) (st := []) sh_114 (cM_laysBack (w := w6) (lv := 0) (by omega)) kX12_laysBack vX12_255_12 dX12_wouldBe_53 rfl rfl (Nat.le_of_ble_eq_true rfl) ⟨Nat.le_of_ble_eq_true rfl, Nat.le_of_ble_eq_true rfl⟩ ⟨Nat.zero_le _, Nat.zero_le _⟩ (ic_kv (fun h_ qw8 => ?_))
        obtain rfl := qw8
        refine xx_nw (fun w8 ew8 => ?_)
        refine xx_iload (pc := 56) dX12_wouldBe_56 0 rfl ?_
        exact xx_iret (pc := 58) dX12_wouldBe_58 rfl (rfl) (Nat.le_refl _) (Nat.le_refl _) (ic_ri ⟨by rw [if_pos (by omega), if_pos (by omega), vS], w8, rfl, by rw [ew8]; exact mo_back (fun k hk => by rw [a44 k hk, ew4, wr_n _ (by omega)]) (fun j hj => by rw [ar 117 (by omega) (by omega), ew4, wr_s]; unfold mo_cp; rw [if_pos (by omega)]; congr 1; omega) (fun a q1 q2 q3 => by rw [ar a q1 q3, ew4, wr_n _ q2])⟩)
      · refine xx_aload_nP (pc := 30) dX12_wouldBe_30 0 rfl rfl ?_
        refine xx_iload_n (pc := 31) dX12_wouldBe_31 1 rfl rfl ?_
        refine xx_iconst (pc := 32) dX12_wouldBe_32 cc_iconst_0 ?_
        refine xx_callV0 (pc := 33) (st := []) sh_114 (cM_lacks (w := w) (i := i) (k := 0) (by omega) (by omega) hS) kX12_lacks vX12_355_12 dX12_wouldBe_33 rfl rfl (Nat.le_of_ble_eq_true rfl) ⟨Nat.le_of_ble_eq_true rfl, Nat.le_of_ble_eq_true rfl⟩ ⟨Nat.zero_le _, Nat.zero_le _⟩ (ic_ke ?_)
        exact xx_iret (pc := 36) dX12_wouldBe_36 rfl (rfl) (Nat.le_refl _) (Nat.le_refl _) (ic_ri ⟨by rw [if_pos (by omega), if_neg (by omega)], w, rfl, fun _ _ _ => rfl⟩)
    · refine xx_iconst (pc := 19) dX12_wouldBe_19 cc_iconst_m1 ?_
      exact xx_iret (pc := 20) dX12_wouldBe_20 rfl (rfl) (Nat.le_refl _) (Nat.le_refl _) (ic_ri ⟨by rw [if_neg (by omega)], w, rfl, fun _ _ _ => rfl⟩)

