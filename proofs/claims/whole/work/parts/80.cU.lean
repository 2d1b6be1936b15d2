/-! the class: shelves -/
/-- the shelves hold what A says (1 a rider, 2 a row): B which, C the row's size -/
def Cv (w : ic_w) (A B C : Nat → Nat) : Prop := ∀ i, i < 4 → B i < 2 ^ 32 ∧ ((w 23 i = 2 ∧ A i = 0) ∨ (w 23 i = 0 ∧ A i = 1 ∧ w 24 i = B i) ∨ (w 23 i = 1 ∧ A i = 2 ∧ w 24 i = B i ∧ w 25 i = C i ∧ B i ≤ 4))
theorem Cv.of {w u : ic_w} {A B C : Nat → Nat} (h : Cv w A B C) (e : ∀ a, 23 ≤ a → a ≤ 25 → u a = w a) : Cv u A B C := fun i hi => by
  rw [e _ (by omega) (by omega), e _ (by omega) (by omega), e _ (by omega) (by omega)]
  exact h i hi
theorem Cv.up {w u : ic_w} {A B C : Nat → Nat} {i a b c : Nat} (h : Cv w A B C) (hb : b < 2 ^ 32) (e : ∀ q, q ≠ i → u 23 q = w 23 q ∧ u 24 q = w 24 q ∧ u 25 q = w 25 q) (hi : (u 23 i = 2 ∧ a = 0) ∨ (u 23 i = 0 ∧ a = 1 ∧ u 24 i = b) ∨ (u 23 i = 1 ∧ a = 2 ∧ u 24 i = b ∧ u 25 i = c ∧ b ≤ 4)) : Cv u (fu A i a) (fu B i b) (fu C i c) := by
  intro q hq
  by_cases z : q = i
  · subst z
    rw [fu_s, fu_s, fu_s]
    exact ⟨hb, hi⟩
  · rw [fu_n _ z, fu_n _ z, fu_n _ z, (e q z).1, (e q z).2.1, (e q z).2.2]
    exact h q hq
def mo_on4 (s A B : Nat → Nat) (i : Nat) : Nat := if A i = 1 ∧ ¬ B i < s 0 then 0 else A i
def mo_tak (s A B C : Nat → Nat) (i k : Nat) : Nat := if mo_on4 s A B i = 0 then 4294967285 else if k < 10 then (if mo_on4 s A B i = 1 ∧ mo_under (it s (B i) 0) k = true then B i else 4294967283) else (if mo_on4 s A B i = 2 ∧ B i = k - 10 then C i else 4294967283)
theorem mo_tk_e (w : ic_w) (i k : Nat) : mo_tk w i k = mo_tak (w 115) (w 129) (w 130) (w 131) i k := rfl
theorem mo_on4_1 {s A B : Nat → Nat} {i : Nat} (h1 : A i = 1) (h2 : B i < s 0) : mo_on4 s A B i = 1 := by
  unfold mo_on4
  rw [if_neg (by omega), h1]
theorem mo_on4_0 {s A B : Nat → Nat} {i : Nat} (h1 : A i = 0 ∨ (A i = 1 ∧ ¬ B i < s 0)) : mo_on4 s A B i = 0 := by
  unfold mo_on4
  split <;> omega
theorem mo_on4_2 {s A B : Nat → Nat} {i : Nat} (h1 : A i = 2) : mo_on4 s A B i = 2 := by
  unfold mo_on4
  rw [if_neg (by omega), h1]
set_option maxHeartbeats 4000000 in
set_option maxRecDepth 100000 in
theorem cC_riderOn {l : Launch} {E : ic_E} {w : ic_w} {i : Nat} (hi : i < 4) {s : Nat → Nat} (hN : Cn w s) (hI : In s) {A B C : Nat → Nat} (hv : Cv w A B C) : ic_C l E mX11_riderOn 3 0 0 False [ic_pt E 0, .int (nI i)] SHs (hn w) SHs (ic_qe (nI (if A i = 1 ∧ B i < s 0 then B i else 4294967293)) (hn w)) := by
  refine ic_intro (by decide +kernel) (Nat.le_of_ble_eq_true rfl) ?_
  show xx l E _ _ 0 [(0, ic_pt E 0), (1, .int (nI i))] _ _ _
  have hvi := hv i (by omega)
  have n1 := hN.n
  have n0 := hI.n
  refine xx_aload_nP (pc := 0) dX11_riderOn_0 0 rfl rfl ?_
  refine xx_getR (pc := 1) 23 dX11_riderOn_1 sh_0 fX11_42_11 rfl rfl (by decide) ?_
  refine xx_iload_n (pc := 4) dX11_riderOn_4 1 rfl rfl ?_
  refine xx_ialdN (pc := 5) dX11_riderOn_5 sh_23 (by omega) (by decide) ?_
  refine xx_if_neN (pc := 6) 31 dX11_riderOn_6 rfl (by omega) (fun c1 => ?_) (fun c1 => ?_)
  · refine xx_bipush (pc := 31) dX11_riderOn_31 cc_bipush_m3 ?_
    exact xx_iret (pc := 33) dX11_riderOn_33 rfl (rfl) (Nat.le_refl _) (Nat.le_refl _) (ic_re (by first | exact (if_neg (by omega)).symm | (rw [if_pos (show A i = 1 ∧ B i < s 0 by omega)]; omega)))
  · refine xx_aload_nP (pc := 9) dX11_riderOn_9 0 rfl rfl ?_
    refine xx_aload_nP (pc := 10) dX11_riderOn_10 0 rfl rfl ?_
    refine xx_getR (pc := 11) 24 dX11_riderOn_11 sh_0 fX11_45_11 rfl rfl (by decide) ?_
    refine xx_iload_n (pc := 14) dX11_riderOn_14 1 rfl rfl ?_
    refine xx_ialdN (pc := 15) dX11_riderOn_15 sh_24 (by omega) (by decide) ?_
    refine xx_callV0 (pc := 16) (st := []) sh_0 (cC_isRider (w := w) (k := w 24 i) (by omega) (by omega)) kX11_isRider vX11_109_11 dX11_riderOn_16 rfl rfl (Nat.le_of_ble_eq_true rfl) ⟨Nat.le_of_ble_eq_true rfl, Nat.le_of_ble_eq_true rfl⟩ ⟨Nat.zero_le _, Nat.zero_le _⟩ (ic_ke ?_)
    refine xx_if_eqB (pc := 19) 31 dX11_riderOn_19 rfl (fun c2 => ?_) (fun c2 => ?_)
    · refine xx_bipush (pc := 31) dX11_riderOn_31 cc_bipush_m3 ?_
      exact xx_iret (pc := 33) dX11_riderOn_33 rfl (rfl) (Nat.le_refl _) (Nat.le_refl _) (ic_re (by first | exact (if_neg (by omega)).symm | (rw [if_pos (show A i = 1 ∧ B i < s 0 by omega)]; omega)))
    · refine xx_aload_nP (pc := 22) dX11_riderOn_22 0 rfl rfl ?_
      refine xx_getR (pc := 23) 24 dX11_riderOn_23 sh_0 fX11_45_11 rfl rfl (by decide) ?_
      refine xx_iload_n (pc := 26) dX11_riderOn_26 1 rfl rfl ?_
      refine xx_ialdN (pc := 27) dX11_riderOn_27 sh_24 (by omega) (by decide) ?_
      refine xx_goto (pc := 28) 33 dX11_riderOn_28 rfl ?_
      exact xx_iret (pc := 33) dX11_riderOn_33 rfl (rfl) (Nat.le_refl _) (Nat.le_refl _) (ic_re (by first | exact (if_neg (by omega)).symm | (rw [if_pos (show A i = 1 ∧ B i < s 0 by omega)]; omega)))

theorem tak2 {s A B C : Nat → Nat} {i k : Nat} (h : A i = 2) : mo_tak s A B C i k = if k < 10 then 4294967283 else if B i = k - 10 then C i else 4294967283 := by
  unfold mo_tak
  rw [mo_on4_2 h, if_neg (by omega)]
  split
  · rw [if_neg (by omega)]
  · by_cases z : B i = k - 10
    · rw [if_pos ⟨rfl, z⟩, if_pos z]
    · rw [if_neg (fun y => z y.2), if_neg z]
theorem tak0 {s A B C : Nat → Nat} {i k : Nat} (h : A i = 0 ∨ (A i = 1 ∧ ¬ B i < s 0)) : mo_tak s A B C i k = 4294967285 := by
  unfold mo_tak
  rw [mo_on4_0 h, if_pos rfl]
theorem tak1 {s A B C : Nat → Nat} {i k : Nat} (h : A i = 1) (h2 : B i < s 0) : mo_tak s A B C i k = if k < 10 ∧ mo_under (it s (B i) 0) k = true then B i else 4294967283 := by
  unfold mo_tak
  rw [mo_on4_1 h h2, if_neg (by omega)]
  by_cases z : k < 10
  · rw [if_pos z]
    by_cases y : mo_under (it s (B i) 0) k = true
    · rw [if_pos ⟨rfl, y⟩, if_pos ⟨z, y⟩]
    · rw [if_neg (fun x => y x.2), if_neg (fun x => y x.2)]
  · rw [if_neg z, if_neg (by omega), if_neg (fun x => z x.1)]
set_option maxHeartbeats 4000000 in
set_option maxRecDepth 100000 in
theorem cC_taken {l : Launch} {E : ic_E} {w : ic_w} {i : Nat} (hi_ : i < 2 ^ 32) {k : Nat} (hk_ : k < 2 ^ 32) {s : Nat → Nat} (hN : Cn w s) (hI : In s) {A B C : Nat → Nat} (hv : Cv w A B C) : ic_C l E mX11_taken 4 0 0 False [ic_pt E 0, .int (nI i), .int (nI k)] SHs (hn w) SHs (ic_qe (nI (if i ≤ 3 ∧ k ≤ 14 ∧ ¬ (6 ≤ k ∧ k ≤ 9) then mo_tak s A B C i k else 4294967295)) (hn w)) := by
  refine ic_intro (by decide +kernel) (Nat.le_of_ble_eq_true rfl) ?_
  show xx l E _ _ 0 [(0, ic_pt E 0), (1, .int (nI i)), (2, .int (nI k))] _ _ _
  have n1 := hN.n
  have n0 := hI.n
  refine xx_iload_n (pc := 0) dX11_taken_0 2 rfl rfl ?_
  refine xx_iconst (pc := 1) dX11_taken_1 cc_iconst_0 ?_
  refine xx_iconst (pc := 2) dX11_taken_2 cc_iconst_5 ?_
  refine xx_callS0 (pc := 3) (st := []) (cC_within (w := w) (v := k) (lo := 0) (hi := 5) (by omega) (by omega) (by omega)) kX11_within sX11_94 dX11_taken_3 rfl rfl (Nat.le_of_ble_eq_true rfl) ⟨Nat.le_of_ble_eq_true rfl, Nat.le_of_ble_eq_true rfl⟩ ⟨Nat.zero_le _, Nat.zero_le _⟩ (ic_ke ?_)
  refine xx_istore_n (L' := [(3, .int (nI (ic_bo (0 ≤ k ∧ k ≤ 5)))), (0, ic_pt E 0), (1, .int (nI i)), (2, .int (nI k))]) (pc := 6) dX11_taken_6 rfl (Nat.le_of_ble_eq_true rfl) rfl ?_
  refine xx_iload_n (pc := 7) dX11_taken_7 2 rfl rfl ?_
  refine xx_callS0 (pc := 8) (st := []) (cC_isShelf (w := w) (v := i) (by omega)) kX11_isShelf sX11_339 dX11_taken_8 rfl rfl (Nat.le_of_ble_eq_true rfl) ⟨Nat.le_of_ble_eq_true rfl, Nat.le_of_ble_eq_true rfl⟩ ⟨Nat.zero_le _, Nat.zero_le _⟩ (ic_ke ?_)
  refine xx_if_eqB (pc := 11) 29 dX11_taken_11 rfl (fun c1 => ?_) (fun c1 => ?_)
  · refine xx_iconst (pc := 29) dX11_taken_29 cc_iconst_m1 ?_
    exact xx_iret (pc := 30) dX11_taken_30 rfl (rfl) (Nat.le_refl _) (Nat.le_refl _) (ic_re (by rw [if_neg (show ¬ (i ≤ 3 ∧ k ≤ 14 ∧ ¬ (6 ≤ k ∧ k ≤ 9)) by omega)]))
  · refine xx_iload_n (pc := 14) dX11_taken_14 0 rfl rfl ?_
    refine xx_if_neB (pc := 15) 31 dX11_taken_15 rfl (fun c2 => ?_) (fun c2 => ?_)
    · have hvi := hv i (by omega)
      refine xx_aload_nP (pc := 31) dX11_taken_31 1 rfl rfl ?_
      refine xx_getR (pc := 32) 23 dX11_taken_32 sh_0 fX11_42_11 rfl rfl (by decide) ?_
      refine xx_iload_n (pc := 35) dX11_taken_35 2 rfl rfl ?_
      refine xx_ialdN (pc := 36) dX11_taken_36 sh_23 (by omega) (by decide) ?_
      refine xx_iconst (pc := 37) dX11_taken_37 cc_iconst_1 ?_
      refine xx_icmp_neN (pc := 38) 66 dX11_taken_38 rfl (by omega) (by omega) (fun c3 => ?_) (fun c3 => ?_)
      · refine xx_aload_nP (pc := 66) dX11_taken_66 1 rfl rfl ?_
        refine xx_iload_n (pc := 67) dX11_taken_67 2 rfl rfl ?_
        refine xx_callV0 (pc := 68) (st := []) sh_0 (cC_riderOn (w := w) (i := i) (by omega) hN hI hv) kX11_riderOn vX11_345_11 dX11_taken_68 rfl rfl (Nat.le_of_ble_eq_true rfl) ⟨Nat.le_of_ble_eq_true rfl, Nat.le_of_ble_eq_true rfl⟩ ⟨Nat.zero_le _, Nat.zero_le _⟩ (ic_ke ?_)
        by_cases zon : A i = 1 ∧ B i < s 0
        · refine xx_eqI (y := nI (B i)) (congrArg nI (if_pos zon)) ?_
          refine xx_istore (L' := [(4, .int (nI (B i))), (3, .int (nI (ic_bo (0 ≤ k ∧ k ≤ 5)))), (0, ic_pt E 0), (1, .int (nI i)), (2, .int (nI k))]) (pc := 71) dX11_taken_71 (Nat.le_of_ble_eq_true rfl) rfl ?_
          refine xx_iload (pc := 73) dX11_taken_73 0 rfl ?_
          refine xx_if_geN (pc := 75) 81 dX11_taken_75 rfl (by omega) (fun c4 => ?_) (fun c4 => ?_)
          · refine xx_iload_n (pc := 81) dX11_taken_81 1 rfl rfl ?_
            refine xx_if_eqB (pc := 82) 107 dX11_taken_82 rfl (fun c5 => ?_) (fun c5 => ?_)
            · refine xx_bipush (pc := 107) dX11_taken_107 cc_bipush_m13 ?_
              exact xx_iret (pc := 109) dX11_taken_109 rfl (rfl) (Nat.le_refl _) (Nat.le_refl _) (ic_re (by first | (exfalso; omega) | (rw [if_pos (show i ≤ 3 ∧ k ≤ 14 ∧ ¬ (6 ≤ k ∧ k ≤ 9) by omega), tak1 (by omega) (by omega)]; first | (rw [if_neg (by rintro ⟨y1, y2⟩; first | contradiction | omega)]) | (rw [if_pos ⟨by omega, by assumption⟩]))))
            · refine xx_aload_nP (pc := 85) dX11_taken_85 2 rfl rfl ?_
              refine xx_getR (pc := 86) 39 dX11_taken_86 sh_0 fX11_74_11 rfl rfl (by decide) ?_
              refine xx_getR (pc := 89) 43 dX11_taken_89 sh_39 fX11_115_5 rfl rfl (by decide) ?_
              refine xx_iload (pc := 92) dX11_taken_92 0 rfl ?_
              refine xx_ialdN (pc := 94) dX11_taken_94 sh_43 (by omega) (by decide) ?_
              have hk5 := hI.i (o := B i) (by omega)
              refine xx_eqI (y := nI (it s (B i) 0)) (by rw [hN.kd (by omega)]) ?_
              refine xx_iload_n (pc := 95) dX11_taken_95 4 rfl rfl ?_
              refine xx_callS0 (pc := 96) (st := []) (cC_isUnder (w := w) (own := it s (B i) 0) (ab := k) (by omega) (by omega)) kX11_isUnder sX11_348 dX11_taken_96 rfl rfl (Nat.le_of_ble_eq_true rfl) ⟨Nat.le_of_ble_eq_true rfl, Nat.le_of_ble_eq_true rfl⟩ ⟨Nat.zero_le _, Nat.zero_le _⟩ (ic_ke ?_)
              refine xx_if_eqB (pc := 99) 107 dX11_taken_99 rfl (fun c6 => ?_) (fun c6 => ?_)
              · refine xx_bipush (pc := 107) dX11_taken_107 cc_bipush_m13 ?_
                exact xx_iret (pc := 109) dX11_taken_109 rfl (rfl) (Nat.le_refl _) (Nat.le_refl _) (ic_re (by first | (exfalso; omega) | (rw [if_pos (show i ≤ 3 ∧ k ≤ 14 ∧ ¬ (6 ≤ k ∧ k ≤ 9) by omega), tak1 (by omega) (by omega)]; first | (rw [if_neg (by rintro ⟨y1, y2⟩; first | contradiction | omega)]) | (rw [if_pos ⟨by omega, by assumption⟩]))))
              · refine xx_iload (pc := 102) dX11_taken_102 0 rfl ?_
                refine xx_goto (pc := 104) 109 dX11_taken_104 rfl ?_
                exact xx_iret (pc := 109) dX11_taken_109 rfl (rfl) (Nat.le_refl _) (Nat.le_refl _) (ic_re (by first | (exfalso; omega) | (rw [if_pos (show i ≤ 3 ∧ k ≤ 14 ∧ ¬ (6 ≤ k ∧ k ≤ 9) by omega), tak1 (by omega) (by omega)]; first | (rw [if_neg (by rintro ⟨y1, y2⟩; first | contradiction | omega)]) | (rw [if_pos ⟨by omega, by assumption⟩]))))
          · refine xx_bipush (pc := 78) dX11_taken_78 cc_bipush_m11 ?_
            exact xx_iret (pc := 80) dX11_taken_80 rfl (rfl) (Nat.le_refl _) (Nat.le_refl _) (ic_re (by first | (exfalso; omega) | rw [if_pos (show i ≤ 3 ∧ k ≤ 14 ∧ ¬ (6 ≤ k ∧ k ≤ 9) by omega), tak0 (by omega)]))
        · refine xx_eqI (y := nI (4294967293)) (congrArg nI (if_neg zon)) ?_
          refine xx_istore (L' := [(4, .int (nI 4294967293)), (3, .int (nI (ic_bo (0 ≤ k ∧ k ≤ 5)))), (0, ic_pt E 0), (1, .int (nI i)), (2, .int (nI k))]) (pc := 71) dX11_taken_71 (Nat.le_of_ble_eq_true rfl) rfl ?_
          refine xx_iload (pc := 73) dX11_taken_73 0 rfl ?_
          refine xx_if_geS (pc := 75) 81 dX11_taken_75 rfl (by omega) (fun c7 => by exfalso; omega) (fun c7 => ?_)
          refine xx_bipush (pc := 78) dX11_taken_78 cc_bipush_m11 ?_
          exact xx_iret (pc := 80) dX11_taken_80 rfl (rfl) (Nat.le_refl _) (Nat.le_refl _) (ic_re (by first | (exfalso; omega) | rw [if_pos (show i ≤ 3 ∧ k ≤ 14 ∧ ¬ (6 ≤ k ∧ k ≤ 9) by omega), tak0 (by omega)]))
      · refine xx_iload_n (pc := 41) dX11_taken_41 3 rfl rfl ?_
        refine xx_bipush (pc := 42) dX11_taken_42 cc_bipush_10 ?_
        refine xx_isubW (pc := 44) dX11_taken_44 (by omega) ?_
        refine xx_eqI (y := nI ((k + (4294967296 - 10)) % 4294967296)) ((nI_mod _).symm) ?_
        refine xx_aload_nP (pc := 45) dX11_taken_45 1 rfl rfl ?_
        refine xx_getR (pc := 46) 24 dX11_taken_46 sh_0 fX11_45_11 rfl rfl (by decide) ?_
        refine xx_iload_n (pc := 49) dX11_taken_49 2 rfl rfl ?_
        refine xx_ialdN (pc := 50) dX11_taken_50 sh_24 (by omega) (by decide) ?_
        refine xx_icmp_neN (pc := 51) 63 dX11_taken_51 rfl (by omega) (by omega) (fun c8 => ?_) (fun c8 => ?_)
        · refine xx_bipush (pc := 63) dX11_taken_63 cc_bipush_m13 ?_
          exact xx_iret (pc := 65) dX11_taken_65 rfl (rfl) (Nat.le_refl _) (Nat.le_refl _) (ic_re (by first | (exfalso; omega) | (rw [if_pos (show i ≤ 3 ∧ k ≤ 14 ∧ ¬ (6 ≤ k ∧ k ≤ 9) by omega), tak2 (by omega), if_pos (show k < 10 by omega)]) | (rw [if_pos (show i ≤ 3 ∧ k ≤ 14 ∧ ¬ (6 ≤ k ∧ k ≤ 9) by omega), tak2 (by omega), if_neg (show ¬ k < 10 by omega)]; first | (rw [if_neg (show ¬ B i = k - 10 by omega)]) | (rw [if_pos (show B i = k - 10 by omega)]; omega))))
        · refine xx_aload_nP (pc := 54) dX11_taken_54 1 rfl rfl ?_
          refine xx_getR (pc := 55) 25 dX11_taken_55 sh_0 fX11_48_11 rfl rfl (by decide) ?_
          refine xx_iload_n (pc := 58) dX11_taken_58 2 rfl rfl ?_
          refine xx_ialdN (pc := 59) dX11_taken_59 sh_25 (by omega) (by decide) ?_
          refine xx_goto (pc := 60) 65 dX11_taken_60 rfl ?_
          exact xx_iret (pc := 65) dX11_taken_65 rfl (rfl) (Nat.le_refl _) (Nat.le_refl _) (ic_re (by first | (exfalso; omega) | (rw [if_pos (show i ≤ 3 ∧ k ≤ 14 ∧ ¬ (6 ≤ k ∧ k ≤ 9) by omega), tak2 (by omega), if_pos (show k < 10 by omega)]) | (rw [if_pos (show i ≤ 3 ∧ k ≤ 14 ∧ ¬ (6 ≤ k ∧ k ≤ 9) by omega), tak2 (by omega), if_neg (show ¬ k < 10 by omega)]; first | (rw [if_neg (show ¬ B i = k - 10 by omega)]) | (rw [if_pos (show B i = k - 10 by omega)]; omega))))
    · refine xx_iload_n (pc := 18) dX11_taken_18 3 rfl rfl ?_
      refine xx_bipush (pc := 19) dX11_taken_19 cc_bipush_10 ?_
      refine xx_bipush (pc := 21) dX11_taken_21 cc_bipush_14 ?_
      refine xx_callS0 (pc := 23) (st := []) (cC_within (w := w) (v := k) (lo := 10) (hi := 14) (by omega) (by omega) (by omega)) kX11_within sX11_94 dX11_taken_23 rfl rfl (Nat.le_of_ble_eq_true rfl) ⟨Nat.le_of_ble_eq_true rfl, Nat.le_of_ble_eq_true rfl⟩ ⟨Nat.zero_le _, Nat.zero_le _⟩ (ic_ke ?_)
      refine xx_if_neB (pc := 26) 31 dX11_taken_26 rfl (fun c9 => ?_) (fun c9 => ?_)
      · have hvi := hv i (by omega)
        refine xx_aload_nP (pc := 31) dX11_taken_31 1 rfl rfl ?_
        refine xx_getR (pc := 32) 23 dX11_taken_32 sh_0 fX11_42_11 rfl rfl (by decide) ?_
        refine xx_iload_n (pc := 35) dX11_taken_35 2 rfl rfl ?_
        refine xx_ialdN (pc := 36) dX11_taken_36 sh_23 (by omega) (by decide) ?_
        refine xx_iconst (pc := 37) dX11_taken_37 cc_iconst_1 ?_
        refine xx_icmp_neN (pc := 38) 66 dX11_taken_38 rfl (by omega) (by omega) (fun c10 => ?_) (fun c10 => ?_)
        · refine xx_aload_nP (pc := 66) dX11_taken_66 1 rfl rfl ?_
          refine xx_iload_n (pc := 67) dX11_taken_67 2 rfl rfl ?_
          refine xx_callV0 (pc := 68) (st := []) sh_0 (cC_riderOn (w := w) (i := i) (by omega) hN hI hv) kX11_riderOn vX11_345_11 dX11_taken_68 rfl rfl (Nat.le_of_ble_eq_true rfl) ⟨Nat.le_of_ble_eq_true rfl, Nat.le_of_ble_eq_true rfl⟩ ⟨Nat.zero_le _, Nat.zero_le _⟩ (ic_ke ?_)
          by_cases zon : A i = 1 ∧ B i < s 0
          · refine xx_eqI (y := nI (B i)) (congrArg nI (if_pos zon)) ?_
            refine xx_istore (L' := [(4, .int (nI (B i))), (3, .int (nI (ic_bo (0 ≤ k ∧ k ≤ 5)))), (0, ic_pt E 0), (1, .int (nI i)), (2, .int (nI k))]) (pc := 71) dX11_taken_71 (Nat.le_of_ble_eq_true rfl) rfl ?_
            refine xx_iload (pc := 73) dX11_taken_73 0 rfl ?_
            refine xx_if_geN (pc := 75) 81 dX11_taken_75 rfl (by omega) (fun c11 => ?_) (fun c11 => ?_)
            · refine xx_iload_n (pc := 81) dX11_taken_81 1 rfl rfl ?_
              refine xx_if_eqB (pc := 82) 107 dX11_taken_82 rfl (fun c12 => ?_) (fun c12 => ?_)
              · refine xx_bipush (pc := 107) dX11_taken_107 cc_bipush_m13 ?_
                exact xx_iret (pc := 109) dX11_taken_109 rfl (rfl) (Nat.le_refl _) (Nat.le_refl _) (ic_re (by first | (exfalso; omega) | (rw [if_pos (show i ≤ 3 ∧ k ≤ 14 ∧ ¬ (6 ≤ k ∧ k ≤ 9) by omega), tak1 (by omega) (by omega)]; first | (rw [if_neg (by rintro ⟨y1, y2⟩; first | contradiction | omega)]) | (rw [if_pos ⟨by omega, by assumption⟩]))))
              · refine xx_aload_nP (pc := 85) dX11_taken_85 2 rfl rfl ?_
                refine xx_getR (pc := 86) 39 dX11_taken_86 sh_0 fX11_74_11 rfl rfl (by decide) ?_
                refine xx_getR (pc := 89) 43 dX11_taken_89 sh_39 fX11_115_5 rfl rfl (by decide) ?_
                refine xx_iload (pc := 92) dX11_taken_92 0 rfl ?_
                refine xx_ialdN (pc := 94) dX11_taken_94 sh_43 (by omega) (by decide) ?_
                have hk5 := hI.i (o := B i) (by omega)
                refine xx_eqI (y := nI (it s (B i) 0)) (by rw [hN.kd (by omega)]) ?_
                refine xx_iload_n (pc := 95) dX11_taken_95 4 rfl rfl ?_
                refine xx_callS0 (pc := 96) (st := []) (cC_isUnder (w := w) (own := it s (B i) 0) (ab := k) (by omega) (by omega)) kX11_isUnder sX11_348 dX11_taken_96 rfl rfl (Nat.le_of_ble_eq_true rfl) ⟨Nat.le_of_ble_eq_true rfl, Nat.le_of_ble_eq_true rfl⟩ ⟨Nat.zero_le _, Nat.zero_le _⟩ (ic_ke ?_)
                refine xx_if_eqB (pc := 99) 107 dX11_taken_99 rfl (fun c13 => ?_) (fun c13 => ?_)
                · refine xx_bipush (pc := 107) dX11_taken_107 cc_bipush_m13 ?_
                  exact xx_iret (pc := 109) dX11_taken_109 rfl (rfl) (Nat.le_refl _) (Nat.le_refl _) (ic_re (by first | (exfalso; omega) | (rw [if_pos (show i ≤ 3 ∧ k ≤ 14 ∧ ¬ (6 ≤ k ∧ k ≤ 9) by omega), tak1 (by omega) (by omega)]; first | (rw [if_neg (by rintro ⟨y1, y2⟩; first | contradiction | omega)]) | (rw [if_pos ⟨by omega, by assumption⟩]))))
                · refine xx_iload (pc := 102) dX11_taken_102 0 rfl ?_
                  refine xx_goto (pc := 104) 109 dX11_taken_104 rfl ?_
                  exact xx_iret (pc := 109) dX11_taken_109 rfl (rfl) (Nat.le_refl _) (Nat.le_refl _) (ic_re (by first | (exfalso; omega) | (rw [if_pos (show i ≤ 3 ∧ k ≤ 14 ∧ ¬ (6 ≤ k ∧ k ≤ 9) by omega), tak1 (by omega) (by omega)]; first | (rw [if_neg (by rintro ⟨y1, y2⟩; first | contradiction | omega)]) | (rw [if_pos ⟨by omega, by assumption⟩]))))
            · refine xx_bipush (pc := 78) dX11_taken_78 cc_bipush_m11 ?_
              exact xx_iret (pc := 80) dX11_taken_80 rfl (rfl) (Nat.le_refl _) (Nat.le_refl _) (ic_re (by first | (exfalso; omega) | rw [if_pos (show i ≤ 3 ∧ k ≤ 14 ∧ ¬ (6 ≤ k ∧ k ≤ 9) by omega), tak0 (by omega)]))
          · refine xx_eqI (y := nI (4294967293)) (congrArg nI (if_neg zon)) ?_
            refine xx_istore (L' := [(4, .int (nI 4294967293)), (3, .int (nI (ic_bo (0 ≤ k ∧ k ≤ 5)))), (0, ic_pt E 0), (1, .int (nI i)), (2, .int (nI k))]) (pc := 71) dX11_taken_71 (Nat.le_of_ble_eq_true rfl) rfl ?_
            refine xx_iload (pc := 73) dX11_taken_73 0 rfl ?_
            refine xx_if_geS (pc := 75) 81 dX11_taken_75 rfl (by omega) (fun c14 => by exfalso; omega) (fun c14 => ?_)
            refine xx_bipush (pc := 78) dX11_taken_78 cc_bipush_m11 ?_
            exact xx_iret (pc := 80) dX11_taken_80 rfl (rfl) (Nat.le_refl _) (Nat.le_refl _) (ic_re (by first | (exfalso; omega) | rw [if_pos (show i ≤ 3 ∧ k ≤ 14 ∧ ¬ (6 ≤ k ∧ k ≤ 9) by omega), tak0 (by omega)]))
        · refine xx_iload_n (pc := 41) dX11_taken_41 3 rfl rfl ?_
          refine xx_bipush (pc := 42) dX11_taken_42 cc_bipush_10 ?_
          refine xx_isubW (pc := 44) dX11_taken_44 (by omega) ?_
          refine xx_eqI (y := nI ((k + (4294967296 - 10)) % 4294967296)) ((nI_mod _).symm) ?_
          refine xx_aload_nP (pc := 45) dX11_taken_45 1 rfl rfl ?_
          refine xx_getR (pc := 46) 24 dX11_taken_46 sh_0 fX11_45_11 rfl rfl (by decide) ?_
          refine xx_iload_n (pc := 49) dX11_taken_49 2 rfl rfl ?_
          refine xx_ialdN (pc := 50) dX11_taken_50 sh_24 (by omega) (by decide) ?_
          refine xx_icmp_neN (pc := 51) 63 dX11_taken_51 rfl (by omega) (by omega) (fun c15 => ?_) (fun c15 => ?_)
          · refine xx_bipush (pc := 63) dX11_taken_63 cc_bipush_m13 ?_
            exact xx_iret (pc := 65) dX11_taken_65 rfl (rfl) (Nat.le_refl _) (Nat.le_refl _) (ic_re (by first | (exfalso; omega) | (rw [if_pos (show i ≤ 3 ∧ k ≤ 14 ∧ ¬ (6 ≤ k ∧ k ≤ 9) by omega), tak2 (by omega), if_pos (show k < 10 by omega)]) | (rw [if_pos (show i ≤ 3 ∧ k ≤ 14 ∧ ¬ (6 ≤ k ∧ k ≤ 9) by omega), tak2 (by omega), if_neg (show ¬ k < 10 by omega)]; first | (rw [if_neg (show ¬ B i = k - 10 by omega)]) | (rw [if_pos (show B i = k - 10 by omega)]; omega))))
          · refine xx_aload_nP (pc := 54) dX11_taken_54 1 rfl rfl ?_
            refine xx_getR (pc := 55) 25 dX11_taken_55 sh_0 fX11_48_11 rfl rfl (by decide) ?_
            refine xx_iload_n (pc := 58) dX11_taken_58 2 rfl rfl ?_
            refine xx_ialdN (pc := 59) dX11_taken_59 sh_25 (by omega) (by decide) ?_
            refine xx_goto (pc := 60) 65 dX11_taken_60 rfl ?_
            exact xx_iret (pc := 65) dX11_taken_65 rfl (rfl) (Nat.le_refl _) (Nat.le_refl _) (ic_re (by first | (exfalso; omega) | (rw [if_pos (show i ≤ 3 ∧ k ≤ 14 ∧ ¬ (6 ≤ k ∧ k ≤ 9) by omega), tak2 (by omega), if_pos (show k < 10 by omega)]) | (rw [if_pos (show i ≤ 3 ∧ k ≤ 14 ∧ ¬ (6 ≤ k ∧ k ≤ 9) by omega), tak2 (by omega), if_neg (show ¬ k < 10 by omega)]; first | (rw [if_neg (show ¬ B i = k - 10 by omega)]) | (rw [if_pos (show B i = k - 10 by omega)]; omega))))
      · refine xx_iconst (pc := 29) dX11_taken_29 cc_iconst_m1 ?_
        exact xx_iret (pc := 30) dX11_taken_30 rfl (rfl) (Nat.le_refl _) (Nat.le_refl _) (ic_re (by rw [if_neg (show ¬ (i ≤ 3 ∧ k ≤ 14 ∧ ¬ (6 ≤ k ∧ k ≤ 9)) by omega)]))

set_option maxHeartbeats 4000000 in
set_option maxRecDepth 100000 in
theorem cC_putRowOn {l : Launch} {E : ic_E} {w : ic_w} {i : Nat} (hi_ : i < 2 ^ 32) {x : Nat} (hx_ : x < 2 ^ 32) (hi : i < 4) (hx : x < 4) {T U V : Nat → Nat} (hS : Ct w T U V) : ic_C l E mX11_putRowOn 1 0 0 False [ic_pt E 0, .int (nI i), .int (nI x)] SHs (hn w) SHs (ic_qv (fun h_ => h_ = hn (if T x = 4294967295 then wu w 23 i 2 else wu (wu w 24 i (T x)) 25 i (U x)))) := by
  refine ic_intro (by decide +kernel) (Nat.le_of_ble_eq_true rfl) ?_
  show xx l E _ _ 0 [(0, ic_pt E 0), (1, .int (nI i)), (2, .int (nI x))] _ _ _
  have hs := hS x (by omega)
  refine xx_aload_nP (pc := 0) dX11_putRowOn_0 0 rfl rfl ?_
  refine xx_getR (pc := 1) 16 dX11_putRowOn_1 sh_0 fX11_32_11 rfl rfl (by decide) ?_
  refine xx_iload_n (pc := 4) dX11_putRowOn_4 2 rfl rfl ?_
  refine xx_ialdN (pc := 5) dX11_putRowOn_5 sh_16 (by omega) (by decide) ?_
  refine xx_iconst (pc := 6) dX11_putRowOn_6 cc_iconst_m1 ?_
  refine xx_icmp_neN (pc := 7) 18 dX11_putRowOn_7 rfl (by omega) (by omega) (fun c1 => ?_) (fun c1 => ?_)
  · refine xx_aload_nP (pc := 18) dX11_putRowOn_18 0 rfl rfl ?_
    refine xx_getR (pc := 19) 24 dX11_putRowOn_19 sh_0 fX11_45_11 rfl rfl (by decide) ?_
    refine xx_iload_n (pc := 22) dX11_putRowOn_22 1 rfl rfl ?_
    refine xx_aload_nP (pc := 23) dX11_putRowOn_23 0 rfl rfl ?_
    refine xx_getR (pc := 24) 16 dX11_putRowOn_24 sh_0 fX11_32_11 rfl rfl (by decide) ?_
    refine xx_iload_n (pc := 27) dX11_putRowOn_27 2 rfl rfl ?_
    refine xx_ialdN (pc := 28) dX11_putRowOn_28 sh_16 (by omega) (by decide) ?_
    refine xx_eqI (y := nI (T x)) (by rw [hs.1]) ?_
    refine xx_iastN (pc := 29) dX11_putRowOn_29 sh_24 (by omega) (by decide) ?_
    refine xx_nw (fun w2 ew2 => ?_)
    have u17_w2 : w2 17 x = U x := by rw [ew2, wu_o _ _ _ _ (by omega)]; exact hs.2.1
    refine xx_aload_nP (pc := 30) dX11_putRowOn_30 0 rfl rfl ?_
    refine xx_getR (pc := 31) 25 dX11_putRowOn_31 sh_0 fX11_48_11 rfl rfl (by decide) ?_
    refine xx_iload_n (pc := 34) dX11_putRowOn_34 1 rfl rfl ?_
    refine xx_aload_nP (pc := 35) dX11_putRowOn_35 0 rfl rfl ?_
    refine xx_getR (pc := 36) 17 dX11_putRowOn_36 sh_0 fX11_36_11 rfl rfl (by decide) ?_
    refine xx_iload_n (pc := 39) dX11_putRowOn_39 2 rfl rfl ?_
    refine xx_ialdN (pc := 40) dX11_putRowOn_40 sh_17 (by omega) (by decide) ?_
    refine xx_eqI (y := nI (U x)) (by rw [u17_w2]) ?_
    refine xx_iastN (pc := 41) dX11_putRowOn_41 sh_25 (by omega) (by decide) ?_
    refine xx_nw (fun w3 ew3 => ?_)
    exact xx_vret (pc := 42) dX11_putRowOn_42 rfl (Nat.le_refl _) (Nat.le_refl _) (ic_rv0 (by rw [if_neg (by omega), ew3, ew2]))
  · refine xx_aload_nP (pc := 10) dX11_putRowOn_10 0 rfl rfl ?_
    refine xx_getR (pc := 11) 23 dX11_putRowOn_11 sh_0 fX11_42_11 rfl rfl (by decide) ?_
    refine xx_iload_n (pc := 14) dX11_putRowOn_14 1 rfl rfl ?_
    refine xx_iconst (pc := 15) dX11_putRowOn_15 cc_iconst_2 ?_
    refine xx_iastN (pc := 16) dX11_putRowOn_16 sh_23 (by omega) (by decide) ?_
    refine xx_nw (fun w4 ew4 => ?_)
    exact xx_vret (pc := 17) dX11_putRowOn_17 rfl (Nat.le_refl _) (Nat.le_refl _) (ic_rv0 (by rw [if_pos (by omega), ew4]))

theorem sh_put {w : ic_w} {A B C T U : Nat → Nat} {i q x : Nat} (hv : Cv w A B C) (hq : q ≤ 2) (hx : x < 2 ^ 32) (hT : q = 1 → T x = 4294967295 ∨ T x ≤ 4) (_h : True) : Cv (if q = 1 then (if T x = 4294967295 then wu (wu w 23 i q) 23 i 2 else wu (wu (wu w 23 i q) 24 i (T x)) 25 i (U x)) else if q = 0 then wu (wu w 23 i q) 24 i x else wu w 23 i q) (fu A i (if q = 0 then 1 else if q = 1 ∧ T x ≠ 4294967295 then 2 else 0)) (fu B i (if q = 0 then x else if q = 1 ∧ T x ≠ 4294967295 then T x else 0)) (fu C i (if q = 1 ∧ T x ≠ 4294967295 then U x else 0)) := by
  rcases (show q = 0 ∨ q = 1 ∨ q = 2 by omega) with rfl | rfl | rfl
  · rw [if_neg (show ¬ (0 : Nat) = 1 by omega), if_pos rfl, if_pos rfl, if_pos rfl, if_neg (by omega)]
    refine hv.up hx (fun p hp => ⟨?_, ?_, ?_⟩) (Or.inr (Or.inl ⟨?_, rfl, ?_⟩))
    · rw [wu_o _ _ _ _ (by omega), wu_k _ _ _ _ hp]
    · rw [wu_k _ _ _ _ hp, wu_o _ _ _ _ (by omega)]
    · rw [wu_o _ _ _ _ (by omega), wu_o _ _ _ _ (by omega)]
    · rw [wu_o _ _ _ _ (by omega), wu_s]
    · rw [wu_s]
  · by_cases z : T x = 4294967295
    · have y : ¬ ((1 : Nat) = 1 ∧ T x ≠ 4294967295) := by omega
      have y0 : ¬ (1 : Nat) = 0 := by omega
      rw [if_pos rfl, if_pos z, if_neg y0, if_neg y, if_neg y0, if_neg y, if_neg y]
      refine hv.up (by omega) (fun p hp => ⟨?_, ?_, ?_⟩) (Or.inl ⟨?_, rfl⟩)
      · rw [wu_k _ _ _ _ hp, wu_k _ _ _ _ hp]
      · rw [wu_o _ _ _ _ (by omega), wu_o _ _ _ _ (by omega)]
      · rw [wu_o _ _ _ _ (by omega), wu_o _ _ _ _ (by omega)]
      · rw [wu_s]
    · have y : (1 : Nat) = 1 ∧ T x ≠ 4294967295 := ⟨rfl, z⟩
      have y0 : ¬ (1 : Nat) = 0 := by omega
      rw [if_pos rfl, if_neg z, if_neg y0, if_pos y, if_neg y0, if_pos y, if_pos y]
      have hT := hT rfl
      refine hv.up (by omega) (fun p hp => ⟨?_, ?_, ?_⟩) (Or.inr (Or.inr ⟨?_, rfl, ?_, ?_, by omega⟩))
      · rw [wu_o _ _ _ _ (by omega), wu_o _ _ _ _ (by omega), wu_k _ _ _ _ hp]
      · rw [wu_o _ _ _ _ (by omega), wu_k _ _ _ _ hp, wu_o _ _ _ _ (by omega)]
      · rw [wu_k _ _ _ _ hp, wu_o _ _ _ _ (by omega), wu_o _ _ _ _ (by omega)]
      · rw [wu_o _ _ _ _ (by omega), wu_o _ _ _ _ (by omega), wu_s]
      · rw [wu_o _ _ _ _ (by omega), wu_s]
      · rw [wu_s]
  · have y : ¬ ((2 : Nat) = 1 ∧ T x ≠ 4294967295) := by omega
    have y0 : ¬ (2 : Nat) = 0 := by omega
    rw [if_neg (show ¬ (2 : Nat) = 1 by omega), if_neg y0, if_neg y0, if_neg y, if_neg y0, if_neg y, if_neg y]
    refine hv.up (by omega) (fun p hp => ⟨?_, ?_, ?_⟩) (Or.inl ⟨?_, rfl⟩)
    · rw [wu_k _ _ _ _ hp]
    · rw [wu_o _ _ _ _ (by omega)]
    · rw [wu_o _ _ _ _ (by omega)]
    · rw [wu_s]
theorem sh_fin {w u : ic_w} {A B C T U s : Nat → Nat} {i q x : Nat} (hv : Cv w A B C) (hx : x < 2 ^ 32) (hT : q = 1 → T x = 4294967295 ∨ T x ≤ 4) (hP : i ≤ 3 ∧ q ≤ 2 ∧ (q = 0 → x < s 0) ∧ (q = 1 → x ≤ 3)) (e : u = if q = 1 then (if T x = 4294967295 then wu (wu w 23 i q) 23 i 2 else wu (wu (wu w 23 i q) 24 i (T x)) 25 i (U x)) else if q = 0 then wu (wu w 23 i q) 24 i x else wu w 23 i q) : nI 1 = nI (if i ≤ 3 ∧ q ≤ 2 ∧ (q = 0 → x < s 0) ∧ (q = 1 → x ≤ 3) then 1 else 4294967295) ∧ ∃ w2, hn u = hn w2 ∧ (∀ a, a < 23 ∨ 25 < a → w2 a = w a) ∧ Cv w2 (if i ≤ 3 ∧ q ≤ 2 ∧ (q = 0 → x < s 0) ∧ (q = 1 → x ≤ 3) then fu A i (if q = 0 then 1 else if q = 1 ∧ T x ≠ 4294967295 then 2 else 0) else A) (if i ≤ 3 ∧ q ≤ 2 ∧ (q = 0 → x < s 0) ∧ (q = 1 → x ≤ 3) then fu B i (if q = 0 then x else if q = 1 ∧ T x ≠ 4294967295 then T x else 0) else B) (if i ≤ 3 ∧ q ≤ 2 ∧ (q = 0 → x < s 0) ∧ (q = 1 → x ≤ 3) then fu C i (if q = 1 ∧ T x ≠ 4294967295 then U x else 0) else C) := by
  refine ⟨by rw [if_pos hP], u, rfl, fun a ha => ?_, ?_⟩
  · rw [e]
    split
    · split
      · rw [wu_row _ _ _ (by omega), wu_row _ _ _ (by omega)]
      · rw [wu_row _ _ _ (by omega), wu_row _ _ _ (by omega), wu_row _ _ _ (by omega)]
    · split
      · rw [wu_row _ _ _ (by omega), wu_row _ _ _ (by omega)]
      · rw [wu_row _ _ _ (by omega)]
  · rw [if_pos hP, if_pos hP, if_pos hP, e]
    exact sh_put hv hP.2.1 hx hT trivial
set_option maxHeartbeats 4000000 in
set_option maxRecDepth 100000 in
theorem cC_shelf {l : Launch} {E : ic_E} {w : ic_w} {i : Nat} (hi_ : i < 2 ^ 32) {q : Nat} (hq_ : q < 2 ^ 32) {x : Nat} (hx_ : x < 2 ^ 32) {s : Nat → Nat} (hN : Cn w s) (hI : In s) {A B C : Nat → Nat} (hv : Cv w A B C) {T U V : Nat → Nat} (hS : Ct w T U V) : ic_C l E mX11_shelf 4 0 0 False [ic_pt E 0, .int (nI i), .int (nI q), .int (nI x)] SHs (hn w) SHs (ic_qi (fun v_ h_ => v_ = nI (if i ≤ 3 ∧ q ≤ 2 ∧ (q = 0 → x < s 0) ∧ (q = 1 → x ≤ 3) then 1 else 4294967295) ∧ ∃ w2, h_ = hn w2 ∧ (∀ a, a < 23 ∨ 25 < a → w2 a = w a) ∧ Cv w2 (if i ≤ 3 ∧ q ≤ 2 ∧ (q = 0 → x < s 0) ∧ (q = 1 → x ≤ 3) then fu A i (if q = 0 then 1 else if q = 1 ∧ T x ≠ 4294967295 then 2 else 0) else A) (if i ≤ 3 ∧ q ≤ 2 ∧ (q = 0 → x < s 0) ∧ (q = 1 → x ≤ 3) then fu B i (if q = 0 then x else if q = 1 ∧ T x ≠ 4294967295 then T x else 0) else B) (if i ≤ 3 ∧ q ≤ 2 ∧ (q = 0 → x < s 0) ∧ (q = 1 → x ≤ 3) then fu C i (if q = 1 ∧ T x ≠ 4294967295 then U x else 0) else C))) := by
  refine ic_intro (by decide +kernel) (Nat.le_of_ble_eq_true rfl) ?_
  show xx l E _ _ 0 [(0, ic_pt E 0), (1, .int (nI i)), (2, .int (nI q)), (3, .int (nI x))] _ _ _
  have n1 := hN.n
  have n0 := hI.n
  refine xx_iload_n (pc := 0) dX11_shelf_0 1 rfl rfl ?_
  refine xx_callS0 (pc := 1) (st := []) (cC_isShelf (w := w) (v := i) (by omega)) kX11_isShelf sX11_339 dX11_shelf_1 rfl rfl (Nat.le_of_ble_eq_true rfl) ⟨Nat.le_of_ble_eq_true rfl, Nat.le_of_ble_eq_true rfl⟩ ⟨Nat.zero_le _, Nat.zero_le _⟩ (ic_ke ?_)
  refine xx_if_eqB (pc := 4) 16 dX11_shelf_4 rfl (fun c1 => ?_) (fun c1 => ?_)
  · refine xx_iconst (pc := 16) dX11_shelf_16 cc_iconst_m1 ?_
    exact xx_iret (pc := 17) dX11_shelf_17 rfl (rfl) (Nat.le_refl _) (Nat.le_refl _) (ic_ri ⟨by rw [if_neg (by omega)], w, rfl, fun _ _ => rfl, by rw [if_neg (by omega), if_neg (by omega), if_neg (by omega)]; exact hv⟩)
  · refine xx_iload_n (pc := 7) dX11_shelf_7 2 rfl rfl ?_
    refine xx_iconst (pc := 8) dX11_shelf_8 cc_iconst_0 ?_
    refine xx_iconst (pc := 9) dX11_shelf_9 cc_iconst_2 ?_
    refine xx_callS0 (pc := 10) (st := []) (cC_within (w := w) (v := q) (lo := 0) (hi := 2) (by omega) (by omega) (by omega)) kX11_within sX11_94 dX11_shelf_10 rfl rfl (Nat.le_of_ble_eq_true rfl) ⟨Nat.le_of_ble_eq_true rfl, Nat.le_of_ble_eq_true rfl⟩ ⟨Nat.zero_le _, Nat.zero_le _⟩ (ic_ke ?_)
    refine xx_if_neB (pc := 13) 18 dX11_shelf_13 rfl (fun c2 => ?_) (fun c2 => ?_)
    · refine xx_iload_n (pc := 18) dX11_shelf_18 2 rfl rfl ?_
      refine xx_if_neN (pc := 19) 30 dX11_shelf_19 rfl (by omega) (fun c3 => ?_) (fun c3 => ?_)
      · refine xx_iload_n (pc := 30) dX11_shelf_30 2 rfl rfl ?_
        refine xx_iconst (pc := 31) dX11_shelf_31 cc_iconst_1 ?_
        refine xx_icmp_neN (pc := 32) 44 dX11_shelf_32 rfl (by omega) (by omega) (fun c4 => ?_) (fun c4 => ?_)
        · refine xx_aload_nP (pc := 44) dX11_shelf_44 0 rfl rfl ?_
          refine xx_getR (pc := 45) 23 dX11_shelf_45 sh_0 fX11_42_11 rfl rfl (by decide) ?_
          refine xx_iload_n (pc := 48) dX11_shelf_48 1 rfl rfl ?_
          refine xx_iload_n (pc := 49) dX11_shelf_49 2 rfl rfl ?_
          refine xx_iastN (pc := 50) dX11_shelf_50 sh_23 (by omega) (by decide) ?_
          refine xx_nw (fun w5 ew5 => ?_)
          refine xx_iload_n (pc := 51) dX11_shelf_51 2 rfl rfl ?_
          refine xx_if_neN (pc := 52) 62 dX11_shelf_52 rfl (by omega) (fun c6 => ?_) (fun c6 => ?_)
          · refine xx_iload_n (pc := 62) dX11_shelf_62 2 rfl rfl ?_
            refine xx_iconst (pc := 63) dX11_shelf_63 cc_iconst_1 ?_
            refine xx_icmp_neN (pc := 64) 73 dX11_shelf_64 rfl (by omega) (by omega) (fun c7 => ?_) (fun c7 => ?_)
            · refine xx_iconst (pc := 73) dX11_shelf_73 cc_iconst_1 ?_
              exact xx_iret (pc := 74) dX11_shelf_74 rfl (rfl) (Nat.le_refl _) (Nat.le_refl _) (ic_ri (sh_fin hv (u := w5) hx_ (T := T) (U := U) (fun z => by have := hS x (by omega); omega) (show i ≤ 3 ∧ q ≤ 2 ∧ (q = 0 → x < s 0) ∧ (q = 1 → x ≤ 3) by omega) (by first | (exfalso; omega) | (rw [if_pos (show q = 1 by omega), ew5]; first | rw [ew5] | rw [ew5, ew5]) | (rw [if_neg (show ¬ q = 1 by omega)]; first | (rw [if_pos (show q = 0 by omega), ew5]) | (rw [if_neg (show ¬ q = 0 by omega), ew5])))))
            · refine xx_aload_nP (pc := 67) dX11_shelf_67 0 rfl rfl ?_
              refine xx_iload_n (pc := 68) dX11_shelf_68 1 rfl rfl ?_
              refine xx_iload_n (pc := 69) dX11_shelf_69 3 rfl rfl ?_
              refine xx_callV0 (pc := 70) (st := []) sh_0 (cC_putRowOn (w := w5) (i := i) (x := x) (by omega) (by omega) (by omega) (by omega) (T := T) (U := U) (V := V) (hS.of (fun a h1 h2 => by first | (exfalso; omega) | rw [ew5, wu_row _ _ _ (by omega)]))) kX11_putRowOn vX11_342_11 dX11_shelf_70 rfl rfl (Nat.le_of_ble_eq_true rfl) ⟨Nat.le_of_ble_eq_true rfl, Nat.le_of_ble_eq_true rfl⟩ ⟨Nat.zero_le _, Nat.zero_le _⟩ (ic_kv (fun h_ qw8 => ?_))
              obtain rfl := qw8
              refine xx_nw (fun w8 ew8 => ?_)
              refine xx_iconst (pc := 73) dX11_shelf_73 cc_iconst_1 ?_
              exact xx_iret (pc := 74) dX11_shelf_74 rfl (rfl) (Nat.le_refl _) (Nat.le_refl _) (ic_ri (sh_fin hv (u := w8) hx_ (T := T) (U := U) (fun z => by have := hS x (by omega); omega) (show i ≤ 3 ∧ q ≤ 2 ∧ (q = 0 → x < s 0) ∧ (q = 1 → x ≤ 3) by omega) (by first | (exfalso; omega) | (rw [if_pos (show q = 1 by omega), ew8]; first | rw [ew5] | rw [ew5, ew5]) | (rw [if_neg (show ¬ q = 1 by omega)]; first | (rw [if_pos (show q = 0 by omega), ew8, ew5]) | (rw [if_neg (show ¬ q = 0 by omega), ew8])))))
          · refine xx_aload_nP (pc := 55) dX11_shelf_55 0 rfl rfl ?_
            refine xx_getR (pc := 56) 24 dX11_shelf_56 sh_0 fX11_45_11 rfl rfl (by decide) ?_
            refine xx_iload_n (pc := 59) dX11_shelf_59 1 rfl rfl ?_
            refine xx_iload_n (pc := 60) dX11_shelf_60 3 rfl rfl ?_
            refine xx_iastN (pc := 61) dX11_shelf_61 sh_24 (by omega) (by decide) ?_
            refine xx_nw (fun w10 ew10 => ?_)
            refine xx_iload_n (pc := 62) dX11_shelf_62 2 rfl rfl ?_
            refine xx_iconst (pc := 63) dX11_shelf_63 cc_iconst_1 ?_
            refine xx_icmp_neN (pc := 64) 73 dX11_shelf_64 rfl (by omega) (by omega) (fun c11 => ?_) (fun c11 => ?_)
            · refine xx_iconst (pc := 73) dX11_shelf_73 cc_iconst_1 ?_
              exact xx_iret (pc := 74) dX11_shelf_74 rfl (rfl) (Nat.le_refl _) (Nat.le_refl _) (ic_ri (sh_fin hv (u := w10) hx_ (T := T) (U := U) (fun z => by have := hS x (by omega); omega) (show i ≤ 3 ∧ q ≤ 2 ∧ (q = 0 → x < s 0) ∧ (q = 1 → x ≤ 3) by omega) (by first | (exfalso; omega) | (rw [if_pos (show q = 1 by omega), ew10]; first | rw [ew5] | rw [ew5, ew5]) | (rw [if_neg (show ¬ q = 1 by omega)]; first | (rw [if_pos (show q = 0 by omega), ew10, ew5]) | (rw [if_neg (show ¬ q = 0 by omega), ew10])))))
            · refine xx_aload_nP (pc := 67) dX11_shelf_67 0 rfl rfl ?_
              refine xx_iload_n (pc := 68) dX11_shelf_68 1 rfl rfl ?_
              refine xx_iload_n (pc := 69) dX11_shelf_69 3 rfl rfl ?_
              refine xx_callV0 (pc := 70) (st := []) sh_0 (cC_putRowOn (w := w10) (i := i) (x := x) (by omega) (by omega) (by omega) (by omega) (T := T) (U := U) (V := V) (hS.of (fun a h1 h2 => by first | (exfalso; omega) | rw [ew10, wu_row _ _ _ (by omega)]))) kX11_putRowOn vX11_342_11 dX11_shelf_70 rfl rfl (Nat.le_of_ble_eq_true rfl) ⟨Nat.le_of_ble_eq_true rfl, Nat.le_of_ble_eq_true rfl⟩ ⟨Nat.zero_le _, Nat.zero_le _⟩ (ic_kv (fun h_ qw12 => ?_))
              obtain rfl := qw12
              refine xx_nw (fun w12 ew12 => ?_)
              refine xx_iconst (pc := 73) dX11_shelf_73 cc_iconst_1 ?_
              exact xx_iret (pc := 74) dX11_shelf_74 rfl (rfl) (Nat.le_refl _) (Nat.le_refl _) (ic_ri (sh_fin hv (u := w12) hx_ (T := T) (U := U) (fun z => by have := hS x (by omega); omega) (show i ≤ 3 ∧ q ≤ 2 ∧ (q = 0 → x < s 0) ∧ (q = 1 → x ≤ 3) by omega) (by first | (exfalso; omega) | (rw [if_pos (show q = 1 by omega), ew12]; first | rw [ew5] | rw [ew5, ew5]) | (rw [if_neg (show ¬ q = 1 by omega)]; first | (rw [if_pos (show q = 0 by omega), ew12, ew5]) | (rw [if_neg (show ¬ q = 0 by omega), ew12])))))
        · refine xx_iload_n (pc := 35) dX11_shelf_35 3 rfl rfl ?_
          refine xx_callS0 (pc := 36) (st := []) (cC_isSheet (w := w) (v := x) (by omega)) kX11_isSheet sX11_330 dX11_shelf_36 rfl rfl (Nat.le_of_ble_eq_true rfl) ⟨Nat.le_of_ble_eq_true rfl, Nat.le_of_ble_eq_true rfl⟩ ⟨Nat.zero_le _, Nat.zero_le _⟩ (ic_ke ?_)
          refine xx_if_neB (pc := 39) 44 dX11_shelf_39 rfl (fun c14 => ?_) (fun c14 => ?_)
          · refine xx_aload_nP (pc := 44) dX11_shelf_44 0 rfl rfl ?_
            refine xx_getR (pc := 45) 23 dX11_shelf_45 sh_0 fX11_42_11 rfl rfl (by decide) ?_
            refine xx_iload_n (pc := 48) dX11_shelf_48 1 rfl rfl ?_
            refine xx_iload_n (pc := 49) dX11_shelf_49 2 rfl rfl ?_
            refine xx_iastN (pc := 50) dX11_shelf_50 sh_23 (by omega) (by decide) ?_
            refine xx_nw (fun w15 ew15 => ?_)
            refine xx_iload_n (pc := 51) dX11_shelf_51 2 rfl rfl ?_
            refine xx_if_neN (pc := 52) 62 dX11_shelf_52 rfl (by omega) (fun c16 => ?_) (fun c16 => ?_)
            · refine xx_iload_n (pc := 62) dX11_shelf_62 2 rfl rfl ?_
              refine xx_iconst (pc := 63) dX11_shelf_63 cc_iconst_1 ?_
              refine xx_icmp_neN (pc := 64) 73 dX11_shelf_64 rfl (by omega) (by omega) (fun c17 => ?_) (fun c17 => ?_)
              · refine xx_iconst (pc := 73) dX11_shelf_73 cc_iconst_1 ?_
                exact xx_iret (pc := 74) dX11_shelf_74 rfl (rfl) (Nat.le_refl _) (Nat.le_refl _) (ic_ri (sh_fin hv (u := w15) hx_ (T := T) (U := U) (fun z => by have := hS x (by omega); omega) (show i ≤ 3 ∧ q ≤ 2 ∧ (q = 0 → x < s 0) ∧ (q = 1 → x ≤ 3) by omega) (by first | (exfalso; omega) | (rw [if_pos (show q = 1 by omega), ew15]; first | rw [ew15] | rw [ew15, ew15]) | (rw [if_neg (show ¬ q = 1 by omega)]; first | (rw [if_pos (show q = 0 by omega), ew15]) | (rw [if_neg (show ¬ q = 0 by omega), ew15])))))
              · refine xx_aload_nP (pc := 67) dX11_shelf_67 0 rfl rfl ?_
                refine xx_iload_n (pc := 68) dX11_shelf_68 1 rfl rfl ?_
                refine xx_iload_n (pc := 69) dX11_shelf_69 3 rfl rfl ?_
                refine xx_callV0 (pc := 70) (st := []) sh_0 (cC_putRowOn (w := w15) (i := i) (x := x) (by omega) (by omega) (by omega) (by omega) (T := T) (U := U) (V := V) (hS.of (fun a h1 h2 => by first | (exfalso; omega) | rw [ew15, wu_row _ _ _ (by omega)]))) kX11_putRowOn vX11_342_11 dX11_shelf_70 rfl rfl (Nat.le_of_ble_eq_true rfl) ⟨Nat.le_of_ble_eq_true rfl, Nat.le_of_ble_eq_true rfl⟩ ⟨Nat.zero_le _, Nat.zero_le _⟩ (ic_kv (fun h_ qw18 => ?_))
                obtain rfl := qw18
                refine xx_nw (fun w18 ew18 => ?_)
                refine xx_iconst (pc := 73) dX11_shelf_73 cc_iconst_1 ?_
                exact xx_iret (pc := 74) dX11_shelf_74 rfl (rfl) (Nat.le_refl _) (Nat.le_refl _) (ic_ri (sh_fin hv (u := w18) hx_ (T := T) (U := U) (fun z => by have := hS x (by omega); omega) (show i ≤ 3 ∧ q ≤ 2 ∧ (q = 0 → x < s 0) ∧ (q = 1 → x ≤ 3) by omega) (by first | (exfalso; omega) | (rw [if_pos (show q = 1 by omega), ew18]; first | rw [ew15] | rw [ew15, ew15]) | (rw [if_neg (show ¬ q = 1 by omega)]; first | (rw [if_pos (show q = 0 by omega), ew18, ew15]) | (rw [if_neg (show ¬ q = 0 by omega), ew18])))))
            · refine xx_aload_nP (pc := 55) dX11_shelf_55 0 rfl rfl ?_
              refine xx_getR (pc := 56) 24 dX11_shelf_56 sh_0 fX11_45_11 rfl rfl (by decide) ?_
              refine xx_iload_n (pc := 59) dX11_shelf_59 1 rfl rfl ?_
              refine xx_iload_n (pc := 60) dX11_shelf_60 3 rfl rfl ?_
              refine xx_iastN (pc := 61) dX11_shelf_61 sh_24 (by omega) (by decide) ?_
              refine xx_nw (fun w20 ew20 => ?_)
              refine xx_iload_n (pc := 62) dX11_shelf_62 2 rfl rfl ?_
              refine xx_iconst (pc := 63) dX11_shelf_63 cc_iconst_1 ?_
              refine xx_icmp_neN (pc := 64) 73 dX11_shelf_64 rfl (by omega) (by omega) (fun c21 => ?_) (fun c21 => ?_)
              · refine xx_iconst (pc := 73) dX11_shelf_73 cc_iconst_1 ?_
                exact xx_iret (pc := 74) dX11_shelf_74 rfl (rfl) (Nat.le_refl _) (Nat.le_refl _) (ic_ri (sh_fin hv (u := w20) hx_ (T := T) (U := U) (fun z => by have := hS x (by omega); omega) (show i ≤ 3 ∧ q ≤ 2 ∧ (q = 0 → x < s 0) ∧ (q = 1 → x ≤ 3) by omega) (by first | (exfalso; omega) | (rw [if_pos (show q = 1 by omega), ew20]; first | rw [ew15] | rw [ew15, ew15]) | (rw [if_neg (show ¬ q = 1 by omega)]; first | (rw [if_pos (show q = 0 by omega), ew20, ew15]) | (rw [if_neg (show ¬ q = 0 by omega), ew20])))))
              · refine xx_aload_nP (pc := 67) dX11_shelf_67 0 rfl rfl ?_
                refine xx_iload_n (pc := 68) dX11_shelf_68 1 rfl rfl ?_
                refine xx_iload_n (pc := 69) dX11_shelf_69 3 rfl rfl ?_
                refine xx_callV0 (pc := 70) (st := []) sh_0 (cC_putRowOn (w := w20) (i := i) (x := x) (by omega) (by omega) (by omega) (by omega) (T := T) (U := U) (V := V) (hS.of (fun a h1 h2 => by first | (exfalso; omega) | rw [ew20, wu_row _ _ _ (by omega)]))) kX11_putRowOn vX11_342_11 dX11_shelf_70 rfl rfl (Nat.le_of_ble_eq_true rfl) ⟨Nat.le_of_ble_eq_true rfl, Nat.le_of_ble_eq_true rfl⟩ ⟨Nat.zero_le _, Nat.zero_le _⟩ (ic_kv (fun h_ qw22 => ?_))
                obtain rfl := qw22
                refine xx_nw (fun w22 ew22 => ?_)
                refine xx_iconst (pc := 73) dX11_shelf_73 cc_iconst_1 ?_
                exact xx_iret (pc := 74) dX11_shelf_74 rfl (rfl) (Nat.le_refl _) (Nat.le_refl _) (ic_ri (sh_fin hv (u := w22) hx_ (T := T) (U := U) (fun z => by have := hS x (by omega); omega) (show i ≤ 3 ∧ q ≤ 2 ∧ (q = 0 → x < s 0) ∧ (q = 1 → x ≤ 3) by omega) (by first | (exfalso; omega) | (rw [if_pos (show q = 1 by omega), ew22]; first | rw [ew15] | rw [ew15, ew15]) | (rw [if_neg (show ¬ q = 1 by omega)]; first | (rw [if_pos (show q = 0 by omega), ew22, ew15]) | (rw [if_neg (show ¬ q = 0 by omega), ew22])))))
          · refine xx_iconst (pc := 42) dX11_shelf_42 cc_iconst_m1 ?_
            exact xx_iret (pc := 43) dX11_shelf_43 rfl (rfl) (Nat.le_refl _) (Nat.le_refl _) (ic_ri ⟨by rw [if_neg (by omega)], w, rfl, fun _ _ => rfl, by rw [if_neg (by omega), if_neg (by omega), if_neg (by omega)]; exact hv⟩)
      · refine xx_aload_nP (pc := 22) dX11_shelf_22 0 rfl rfl ?_
        refine xx_iload_n (pc := 23) dX11_shelf_23 3 rfl rfl ?_
        refine xx_callV0 (pc := 24) (st := []) sh_0 (cC_isRider (w := w) (k := x) (by omega) (by omega)) kX11_isRider vX11_109_11 dX11_shelf_24 rfl rfl (Nat.le_of_ble_eq_true rfl) ⟨Nat.le_of_ble_eq_true rfl, Nat.le_of_ble_eq_true rfl⟩ ⟨Nat.zero_le _, Nat.zero_le _⟩ (ic_ke ?_)
        refine xx_if_eqB (pc := 27) 42 dX11_shelf_27 rfl (fun c24 => ?_) (fun c24 => ?_)
        · refine xx_iconst (pc := 42) dX11_shelf_42 cc_iconst_m1 ?_
          exact xx_iret (pc := 43) dX11_shelf_43 rfl (rfl) (Nat.le_refl _) (Nat.le_refl _) (ic_ri ⟨by rw [if_neg (by omega)], w, rfl, fun _ _ => rfl, by rw [if_neg (by omega), if_neg (by omega), if_neg (by omega)]; exact hv⟩)
        · refine xx_iload_n (pc := 30) dX11_shelf_30 2 rfl rfl ?_
          refine xx_iconst (pc := 31) dX11_shelf_31 cc_iconst_1 ?_
          refine xx_icmp_neN (pc := 32) 44 dX11_shelf_32 rfl (by omega) (by omega) (fun c25 => ?_) (fun c25 => ?_)
          · refine xx_aload_nP (pc := 44) dX11_shelf_44 0 rfl rfl ?_
            refine xx_getR (pc := 45) 23 dX11_shelf_45 sh_0 fX11_42_11 rfl rfl (by decide) ?_
            refine xx_iload_n (pc := 48) dX11_shelf_48 1 rfl rfl ?_
            refine xx_iload_n (pc := 49) dX11_shelf_49 2 rfl rfl ?_
            refine xx_iastN (pc := 50) dX11_shelf_50 sh_23 (by omega) (by decide) ?_
            refine xx_nw (fun w26 ew26 => ?_)
            refine xx_iload_n (pc := 51) dX11_shelf_51 2 rfl rfl ?_
            refine xx_if_neN (pc := 52) 62 dX11_shelf_52 rfl (by omega) (fun c27 => ?_) (fun c27 => ?_)
            · refine xx_iload_n (pc := 62) dX11_shelf_62 2 rfl rfl ?_
              refine xx_iconst (pc := 63) dX11_shelf_63 cc_iconst_1 ?_
              refine xx_icmp_neN (pc := 64) 73 dX11_shelf_64 rfl (by omega) (by omega) (fun c28 => ?_) (fun c28 => ?_)
              · refine xx_iconst (pc := 73) dX11_shelf_73 cc_iconst_1 ?_
                exact xx_iret (pc := 74) dX11_shelf_74 rfl (rfl) (Nat.le_refl _) (Nat.le_refl _) (ic_ri (sh_fin hv (u := w26) hx_ (T := T) (U := U) (fun z => by have := hS x (by omega); omega) (show i ≤ 3 ∧ q ≤ 2 ∧ (q = 0 → x < s 0) ∧ (q = 1 → x ≤ 3) by omega) (by first | (exfalso; omega) | (rw [if_pos (show q = 1 by omega), ew26]; first | rw [ew26] | rw [ew26, ew26]) | (rw [if_neg (show ¬ q = 1 by omega)]; first | (rw [if_pos (show q = 0 by omega), ew26]) | (rw [if_neg (show ¬ q = 0 by omega), ew26])))))
              · refine xx_aload_nP (pc := 67) dX11_shelf_67 0 rfl rfl ?_
                refine xx_iload_n (pc := 68) dX11_shelf_68 1 rfl rfl ?_
                refine xx_iload_n (pc := 69) dX11_shelf_69 3 rfl rfl ?_
                refine xx_callV0 (pc := 70) (st := []) sh_0 (cC_putRowOn (w := w26) (i := i) (x := x) (by omega) (by omega) (by omega) (by omega) (T := T) (U := U) (V := V) (hS.of (fun a h1 h2 => by first | (exfalso; omega) | rw [ew26, wu_row _ _ _ (by omega)]))) kX11_putRowOn vX11_342_11 dX11_shelf_70 rfl rfl (Nat.le_of_ble_eq_true rfl) ⟨Nat.le_of_ble_eq_true rfl, Nat.le_of_ble_eq_true rfl⟩ ⟨Nat.zero_le _, Nat.zero_le _⟩ (ic_kv (fun h_ qw29 => ?_))
                obtain rfl := qw29
                refine xx_nw (fun w29 ew29 => ?_)
                refine xx_iconst (pc := 73) dX11_shelf_73 cc_iconst_1 ?_
                exact xx_iret (pc := 74) dX11_shelf_74 rfl (rfl) (Nat.le_refl _) (Nat.le_refl _) (ic_ri (sh_fin hv (u := w29) hx_ (T := T) (U := U) (fun z => by have := hS x (by omega); omega) (show i ≤ 3 ∧ q ≤ 2 ∧ (q = 0 → x < s 0) ∧ (q = 1 → x ≤ 3) by omega) (by first | (exfalso; omega) | (rw [if_pos (show q = 1 by omega), ew29]; first | rw [ew26] | rw [ew26, ew26]) | (rw [if_neg (show ¬ q = 1 by omega)]; first | (rw [if_pos (show q = 0 by omega), ew29, ew26]) | (rw [if_neg (show ¬ q = 0 by omega), ew29])))))
            · refine xx_aload_nP (pc := 55) dX11_shelf_55 0 rfl rfl ?_
              refine xx_getR (pc := 56) 24 dX11_shelf_56 sh_0 fX11_45_11 rfl rfl (by decide) ?_
              refine xx_iload_n (pc := 59) dX11_shelf_59 1 rfl rfl ?_
              refine xx_iload_n (pc := 60) dX11_shelf_60 3 rfl rfl ?_
              refine xx_iastN (pc := 61) dX11_shelf_61 sh_24 (by omega) (by decide) ?_
              refine xx_nw (fun w31 ew31 => ?_)
              refine xx_iload_n (pc := 62) dX11_shelf_62 2 rfl rfl ?_
              refine xx_iconst (pc := 63) dX11_shelf_63 cc_iconst_1 ?_
              refine xx_icmp_neN (pc := 64) 73 dX11_shelf_64 rfl (by omega) (by omega) (fun c32 => ?_) (fun c32 => ?_)
              · refine xx_iconst (pc := 73) dX11_shelf_73 cc_iconst_1 ?_
                exact xx_iret (pc := 74) dX11_shelf_74 rfl (rfl) (Nat.le_refl _) (Nat.le_refl _) (ic_ri (sh_fin hv (u := w31) hx_ (T := T) (U := U) (fun z => by have := hS x (by omega); omega) (show i ≤ 3 ∧ q ≤ 2 ∧ (q = 0 → x < s 0) ∧ (q = 1 → x ≤ 3) by omega) (by first | (exfalso; omega) | (rw [if_pos (show q = 1 by omega), ew31]; first | rw [ew26] | rw [ew26, ew26]) | (rw [if_neg (show ¬ q = 1 by omega)]; first | (rw [if_pos (show q = 0 by omega), ew31, ew26]) | (rw [if_neg (show ¬ q = 0 by omega), ew31])))))
              · refine xx_aload_nP (pc := 67) dX11_shelf_67 0 rfl rfl ?_
                refine xx_iload_n (pc := 68) dX11_shelf_68 1 rfl rfl ?_
                refine xx_iload_n (pc := 69) dX11_shelf_69 3 rfl rfl ?_
                refine xx_callV0 (pc := 70) (st := []) sh_0 (cC_putRowOn (w := w31) (i := i) (x := x) (by omega) (by omega) (by omega) (by omega) (T := T) (U := U) (V := V) (hS.of (fun a h1 h2 => by first | (exfalso; omega) | rw [ew31, wu_row _ _ _ (by omega)]))) kX11_putRowOn vX11_342_11 dX11_shelf_70 rfl rfl (Nat.le_of_ble_eq_true rfl) ⟨Nat.le_of_ble_eq_true rfl, Nat.le_of_ble_eq_true rfl⟩ ⟨Nat.zero_le _, Nat.zero_le _⟩ (ic_kv (fun h_ qw33 => ?_))
                obtain rfl := qw33
                refine xx_nw (fun w33 ew33 => ?_)
                refine xx_iconst (pc := 73) dX11_shelf_73 cc_iconst_1 ?_
                exact xx_iret (pc := 74) dX11_shelf_74 rfl (rfl) (Nat.le_refl _) (Nat.le_refl _) (ic_ri (sh_fin hv (u := w33) hx_ (T := T) (U := U) (fun z => by have := hS x (by omega); omega) (show i ≤ 3 ∧ q ≤ 2 ∧ (q = 0 → x < s 0) ∧ (q = 1 → x ≤ 3) by omega) (by first | (exfalso; omega) | (rw [if_pos (show q = 1 by omega), ew33]; first | rw [ew26] | rw [ew26, ew26]) | (rw [if_neg (show ¬ q = 1 by omega)]; first | (rw [if_pos (show q = 0 by omega), ew33, ew26]) | (rw [if_neg (show ¬ q = 0 by omega), ew33])))))
          · refine xx_iload_n (pc := 35) dX11_shelf_35 3 rfl rfl ?_
            refine xx_callS0 (pc := 36) (st := []) (cC_isSheet (w := w) (v := x) (by omega)) kX11_isSheet sX11_330 dX11_shelf_36 rfl rfl (Nat.le_of_ble_eq_true rfl) ⟨Nat.le_of_ble_eq_true rfl, Nat.le_of_ble_eq_true rfl⟩ ⟨Nat.zero_le _, Nat.zero_le _⟩ (ic_ke ?_)
            refine xx_if_neB (pc := 39) 44 dX11_shelf_39 rfl (fun c35 => ?_) (fun c35 => ?_)
            · refine xx_aload_nP (pc := 44) dX11_shelf_44 0 rfl rfl ?_
              refine xx_getR (pc := 45) 23 dX11_shelf_45 sh_0 fX11_42_11 rfl rfl (by decide) ?_
              refine xx_iload_n (pc := 48) dX11_shelf_48 1 rfl rfl ?_
              refine xx_iload_n (pc := 49) dX11_shelf_49 2 rfl rfl ?_
              refine xx_iastN (pc := 50) dX11_shelf_50 sh_23 (by omega) (by decide) ?_
              refine xx_nw (fun w36 ew36 => ?_)
              refine xx_iload_n (pc := 51) dX11_shelf_51 2 rfl rfl ?_
              refine xx_if_neN (pc := 52) 62 dX11_shelf_52 rfl (by omega) (fun c37 => ?_) (fun c37 => ?_)
              · refine xx_iload_n (pc := 62) dX11_shelf_62 2 rfl rfl ?_
                refine xx_iconst (pc := 63) dX11_shelf_63 cc_iconst_1 ?_
                refine xx_icmp_neN (pc := 64) 73 dX11_shelf_64 rfl (by omega) (by omega) (fun c38 => ?_) (fun c38 => ?_)
                · refine xx_iconst (pc := 73) dX11_shelf_73 cc_iconst_1 ?_
                  exact xx_iret (pc := 74) dX11_shelf_74 rfl (rfl) (Nat.le_refl _) (Nat.le_refl _) (ic_ri (sh_fin hv (u := w36) hx_ (T := T) (U := U) (fun z => by have := hS x (by omega); omega) (show i ≤ 3 ∧ q ≤ 2 ∧ (q = 0 → x < s 0) ∧ (q = 1 → x ≤ 3) by omega) (by first | (exfalso; omega) | (rw [if_pos (show q = 1 by omega), ew36]; first | rw [ew36] | rw [ew36, ew36]) | (rw [if_neg (show ¬ q = 1 by omega)]; first | (rw [if_pos (show q = 0 by omega), ew36]) | (rw [if_neg (show ¬ q = 0 by omega), ew36])))))
                · refine xx_aload_nP (pc := 67) dX11_shelf_67 0 rfl rfl ?_
                  refine xx_iload_n (pc := 68) dX11_shelf_68 1 rfl rfl ?_
                  refine xx_iload_n (pc := 69) dX11_shelf_69 3 rfl rfl ?_
                  refine xx_callV0 (pc := 70) (st := []) sh_0 (cC_putRowOn (w := w36) (i := i) (x := x) (by omega) (by omega) (by omega) (by omega) (T := T) (U := U) (V := V) (hS.of (fun a h1 h2 => by first | (exfalso; omega) | rw [ew36, wu_row _ _ _ (by omega)]))) kX11_putRowOn vX11_342_11 dX11_shelf_70 rfl rfl (Nat.le_of_ble_eq_true rfl) ⟨Nat.le_of_ble_eq_true rfl, Nat.le_of_ble_eq_true rfl⟩ ⟨Nat.zero_le _, Nat.zero_le _⟩ (ic_kv (fun h_ qw39 => ?_))
                  obtain rfl := qw39
                  refine xx_nw (fun w39 ew39 => ?_)
                  refine xx_iconst (pc := 73) dX11_shelf_73 cc_iconst_1 ?_
                  exact xx_iret (pc := 74) dX11_shelf_74 rfl (rfl) (Nat.le_refl _) (Nat.le_refl _) (ic_ri (sh_fin hv (u := w39) hx_ (T := T) (U := U) (fun z => by have := hS x (by omega); omega) (show i ≤ 3 ∧ q ≤ 2 ∧ (q = 0 → x < s 0) ∧ (q = 1 → x ≤ 3) by omega) (by first | (exfalso; omega) | (rw [if_pos (show q = 1 by omega), ew39]; first | rw [ew36] | rw [ew36, ew36]) | (rw [if_neg (show ¬ q = 1 by omega)]; first | (rw [if_pos (show q = 0 by omega), ew39, ew36]) | (rw [if_neg (show ¬ q = 0 by omega), ew39])))))
              · refine xx_aload_nP (pc := 55) dX11_shelf_55 0 rfl rfl ?_
                refine xx_getR (pc := 56) 24 dX11_shelf_56 sh_0 fX11_45_11 rfl rfl (by decide) ?_
                refine xx_iload_n (pc := 59) dX11_shelf_59 1 rfl rfl ?_
                refine xx_iload_n (pc := 60) dX11_shelf_60 3 rfl rfl ?_
                refine xx_iastN (pc := 61) dX11_shelf_61 sh_24 (by omega) (by decide) ?_
                refine xx_nw (fun w41 ew41 => ?_)
                refine xx_iload_n (pc := 62) dX11_shelf_62 2 rfl rfl ?_
                refine xx_iconst (pc := 63) dX11_shelf_63 cc_iconst_1 ?_
                refine xx_icmp_neN (pc := 64) 73 dX11_shelf_64 rfl (by omega) (by omega) (fun c42 => ?_) (fun c42 => ?_)
                · refine xx_iconst (pc := 73) dX11_shelf_73 cc_iconst_1 ?_
                  exact xx_iret (pc := 74) dX11_shelf_74 rfl (rfl) (Nat.le_refl _) (Nat.le_refl _) (ic_ri (sh_fin hv (u := w41) hx_ (T := T) (U := U) (fun z => by have := hS x (by omega); omega) (show i ≤ 3 ∧ q ≤ 2 ∧ (q = 0 → x < s 0) ∧ (q = 1 → x ≤ 3) by omega) (by first | (exfalso; omega) | (rw [if_pos (show q = 1 by omega), ew41]; first | rw [ew36] | rw [ew36, ew36]) | (rw [if_neg (show ¬ q = 1 by omega)]; first | (rw [if_pos (show q = 0 by omega), ew41, ew36]) | (rw [if_neg (show ¬ q = 0 by omega), ew41])))))
                · refine xx_aload_nP (pc := 67) dX11_shelf_67 0 rfl rfl ?_
                  refine xx_iload_n (pc := 68) dX11_shelf_68 1 rfl rfl ?_
                  refine xx_iload_n (pc := 69) dX11_shelf_69 3 rfl rfl ?_
                  refine xx_callV0 (pc := 70) (st := []) sh_0 (cC_putRowOn (w := w41) (i := i) (x := x) (by omega) (by omega) (by omega) (by omega) (T := T) (U := U) (V := V) (hS.of (fun a h1 h2 => by first | (exfalso; omega) | rw [ew41, wu_row _ _ _ (by omega)]))) kX11_putRowOn vX11_342_11 dX11_shelf_70 rfl rfl (Nat.le_of_ble_eq_true rfl) ⟨Nat.le_of_ble_eq_true rfl, Nat.le_of_ble_eq_true rfl⟩ ⟨Nat.zero_le _, Nat.zero_le _⟩ (ic_kv (fun h_ qw43 => ?_))
                  obtain rfl := qw43
                  refine xx_nw (fun w43 ew43 => ?_)
                  refine xx_iconst (pc := 73) dX11_shelf_73 cc_iconst_1 ?_
                  exact xx_iret (pc := 74) dX11_shelf_74 rfl (rfl) (Nat.le_refl _) (Nat.le_refl _) (ic_ri (sh_fin hv (u := w43) hx_ (T := T) (U := U) (fun z => by have := hS x (by omega); omega) (show i ≤ 3 ∧ q ≤ 2 ∧ (q = 0 → x < s 0) ∧ (q = 1 → x ≤ 3) by omega) (by first | (exfalso; omega) | (rw [if_pos (show q = 1 by omega), ew43]; first | rw [ew36] | rw [ew36, ew36]) | (rw [if_neg (show ¬ q = 1 by omega)]; first | (rw [if_pos (show q = 0 by omega), ew43, ew36]) | (rw [if_neg (show ¬ q = 0 by omega), ew43])))))
            · refine xx_iconst (pc := 42) dX11_shelf_42 cc_iconst_m1 ?_
              exact xx_iret (pc := 43) dX11_shelf_43 rfl (rfl) (Nat.le_refl _) (Nat.le_refl _) (ic_ri ⟨by rw [if_neg (by omega)], w, rfl, fun _ _ => rfl, by rw [if_neg (by omega), if_neg (by omega), if_neg (by omega)]; exact hv⟩)
    · refine xx_iconst (pc := 16) dX11_shelf_16 cc_iconst_m1 ?_
      exact xx_iret (pc := 17) dX11_shelf_17 rfl (rfl) (Nat.le_refl _) (Nat.le_refl _) (ic_ri ⟨by rw [if_neg (by omega)], w, rfl, fun _ _ => rfl, by rw [if_neg (by omega), if_neg (by omega), if_neg (by omega)]; exact hv⟩)

