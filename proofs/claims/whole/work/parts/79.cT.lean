/-! the class: sheets and shelves -/
theorem xx_icmp_ltM {l : Launch} {E : ic_E} {F : ic_F} {kc : Nat × Nat} {pc : Nat} {L : List (Nat × Value)} {st : List Value} {sh : List ic_S} {h : ic_H} {a : Nat} {off : Int} (tgt : Nat) (hd : decode F.2.2.1 pc = .ok (.if_icmp .lt off, 3)) (ht : (pc : Int) + off = (tgt : Int)) (ha : a < 2 ^ 32) (hb : True) (kt : 2 ^ 31 ≤ a ∧ a < 4294967295 → xx l E F kc tgt L st sh h) (kf : a < 2 ^ 31 ∨ a = 4294967295 → xx l E F kc (pc + 3) L st sh h) : xx l E F kc pc L (.int (nI 4294967295) :: .int (nI a) :: st) sh h := by
  refine xx_icmp_lt tgt hd ht (fun q => kt ?_) (fun q => kf ?_) <;> rw [Int32.lt_iff_toInt_lt, nI_sgn ha, nI_sgn (by omega), if_neg (show ¬ 4294967295 < 2 ^ 31 by omega)] at q <;> split at q <;> omega
theorem xx_icmp_leS {l : Launch} {E : ic_E} {F : ic_F} {kc : Nat × Nat} {pc : Nat} {L : List (Nat × Value)} {st : List Value} {sh : List ic_S} {h : ic_H} {a b : Nat} {off : Int} (tgt : Nat) (hd : decode F.2.2.1 pc = .ok (.if_icmp .le off, 3)) (ht : (pc : Int) + off = (tgt : Int)) (ha : a < 2 ^ 32) (hb : b < 2 ^ 31) (kt : 2 ^ 31 ≤ a ∨ a ≤ b → xx l E F kc tgt L st sh h) (kf : a < 2 ^ 31 ∧ b < a → xx l E F kc (pc + 3) L st sh h) : xx l E F kc pc L (.int (nI b) :: .int (nI a) :: st) sh h := by
  refine xx_icmp_le tgt hd ht (fun q => kt ?_) (fun q => kf ?_) <;> rw [Int32.le_iff_toInt_le, nI_sgn ha, nI_sgn (by omega), if_pos hb] at q <;> split at q <;> omega
theorem xx_icmp_gtS {l : Launch} {E : ic_E} {F : ic_F} {kc : Nat × Nat} {pc : Nat} {L : List (Nat × Value)} {st : List Value} {sh : List ic_S} {h : ic_H} {a b : Nat} {off : Int} (tgt : Nat) (hd : decode F.2.2.1 pc = .ok (.if_icmp .gt off, 3)) (ht : (pc : Int) + off = (tgt : Int)) (ha : a < 2 ^ 32) (hb : b < 2 ^ 31) (kt : a < 2 ^ 31 ∧ b < a → xx l E F kc tgt L st sh h) (kf : 2 ^ 31 ≤ a ∨ a ≤ b → xx l E F kc (pc + 3) L st sh h) : xx l E F kc pc L (.int (nI b) :: .int (nI a) :: st) sh h := by
  refine xx_icmp_gt tgt hd ht (fun q => kt ?_) (fun q => kf ?_) <;> rw [Int32.lt_iff_toInt_lt, nI_sgn ha, nI_sgn (by omega), if_pos hb] at q <;> split at q <;> omega
/-- the sheets are of the sorts T, the sizes U, the numbers V -/
def Ct (w : ic_w) (T U V : Nat → Nat) : Prop := ∀ i, i < 4 → w 16 i = T i ∧ w 17 i = U i ∧ (T i = 4294967295 ∨ T i ≤ 4) ∧ U i ≤ 40 ∧ ∀ j, j < 40 → w (19 + i) j = V (40 * i + j) ∧ V (40 * i + j) < 2 ^ 32
theorem it_at {i : Nat} (h : i < 4) : [20, 21, 22, 23].getD i 0 = 19 + i + 1 := by
  rcases (show i = 0 ∨ i = 1 ∨ i = 2 ∨ i = 3 by omega) with rfl | rfl | rfl | rfl <;> rfl
theorem it_sh {i : Nat} (h : i < 4) : SHs[19 + i]? = some (100, 40, []) := by
  rcases (show i = 0 ∨ i = 1 ∨ i = 2 ∨ i = 3 by omega) with rfl | rfl | rfl | rfl <;> rfl
def mo_lt (T : Nat → Nat) (i k : Nat) : Nat := if T i = 4294967295 then 4294967285 else if T i = k then 0 else 4294967283
theorem Ct.of {w u : ic_w} {T U V : Nat → Nat} (h : Ct w T U V) (e : ∀ a, 16 ≤ a → a ≤ 22 → u a = w a) : Ct u T U V := fun i hi => by
  rw [e _ (by omega) (by omega), e _ (by omega) (by omega), e _ (by omega) (by omega)]
  exact h i hi
set_option maxHeartbeats 4000000 in
set_option maxRecDepth 100000 in
theorem cC_withinN {l : Launch} {E : ic_E} {w : ic_w} {v hi : Nat} (hv : v < 2 ^ 32) (hhi : hi < 2 ^ 31) : ic_C l E mX11_within 1 0 0 False [.int (nI v), .int (nI 4294967295), .int (nI hi)] SHs (hn w) SHs (ic_qe (nI (ic_bo (v = 4294967295 ∨ v ≤ hi))) (hn w)) := by
  refine ic_intro (by decide +kernel) (Nat.le_of_ble_eq_true rfl) ?_
  show xx l E _ _ 0 [(0, .int (nI v)), (1, .int (nI 4294967295)), (2, .int (nI hi))] _ _ _
  refine xx_iload_n (pc := 0) dX11_within_0 0 rfl rfl ?_
  refine xx_iload_n (pc := 1) dX11_within_1 1 rfl rfl ?_
  refine xx_icmp_ltM (pc := 2) 14 dX11_within_2 rfl (by omega) (by trivial) (fun c1 => ?_) (fun c1 => ?_)
  · refine xx_iconst (pc := 14) dX11_within_14 cc_iconst_0 ?_
    exact xx_iret (pc := 15) dX11_within_15 rfl (rfl) (Nat.le_refl _) (Nat.le_refl _) (ic_re (ic_bo_f (by omega)).symm)
  · refine xx_iload_n (pc := 5) dX11_within_5 0 rfl rfl ?_
    refine xx_iload_n (pc := 6) dX11_within_6 2 rfl rfl ?_
    refine xx_icmp_gtS (pc := 7) 14 dX11_within_7 rfl (by omega) (by omega) (fun c2 => ?_) (fun c2 => ?_)
    · refine xx_iconst (pc := 14) dX11_within_14 cc_iconst_0 ?_
      exact xx_iret (pc := 15) dX11_within_15 rfl (rfl) (Nat.le_refl _) (Nat.le_refl _) (ic_re (ic_bo_f (by omega)).symm)
    · refine xx_iconst (pc := 10) dX11_within_10 cc_iconst_1 ?_
      refine xx_goto (pc := 11) 15 dX11_within_11 rfl ?_
      exact xx_iret (pc := 15) dX11_within_15 rfl (rfl) (Nat.le_refl _) (Nat.le_refl _) (ic_re (ic_bo_t (by omega)).symm)

theorem Ct.sheet {w u : ic_w} {T U V : Nat → Nat} {i sort sz : Nat} (h : Ct w T U V) (hi : i < 4) (hs : sort = 4294967295 ∨ sort ≤ 4) (hsz : sz ≤ 40) (e16 : u 16 = fu (w 16) i sort) (e17 : u 17 = fu (w 17) i sz) (e : ∀ a, a ≠ 16 → a ≠ 17 → a ≠ 19 + i → u a = w a) (hz : ∀ j, j < 40 → u (19 + i) j = 0) : Ct u (fu T i sort) (fu U i sz) (mo_z40 V i 40) := by
  intro j hj
  obtain ⟨a1, a2, a3, a4, a5⟩ := h j hj
  rw [e16, e17]
  by_cases z : j = i
  · subst z
    rw [fu_s, fu_s, fu_s, fu_s]
    refine ⟨rfl, rfl, hs, hsz, fun q hq => ?_⟩
    rw [hz q hq]
    unfold mo_z40
    rw [if_pos (by omega)]
    exact ⟨rfl, by omega⟩
  · rw [fu_n _ z, fu_n _ z, fu_n _ z, fu_n _ z]
    refine ⟨a1, a2, a3, a4, fun q hq => ?_⟩
    rw [e _ (by omega) (by omega) (by omega)]
    unfold mo_z40
    rw [if_neg (by omega)]
    exact a5 q hq
theorem Ct.write {w : ic_w} {T U V : Nat → Nat} {i j v : Nat} (h : Ct w T U V) (hi : i < 4) (hj : j < 40) (hv : v < 2 ^ 32) : Ct (wu w (19 + i) j v) T U (fu V (40 * i + j) v) := by
  intro p hp
  obtain ⟨a1, a2, a3, a4, a5⟩ := h p hp
  refine ⟨by rw [wu_row _ _ _ (by omega)]; exact a1, by rw [wu_row _ _ _ (by omega)]; exact a2, a3, a4, fun q hq => ?_⟩
  by_cases z : p = i ∧ q = j
  · rw [z.1, z.2, wu_s, fu_s]
    exact ⟨rfl, hv⟩
  · rw [fu_n _ (by omega)]
    refine ⟨?_, (a5 q hq).2⟩
    rw [← (a5 q hq).1]
    exact if_neg (by omega)
set_option maxHeartbeats 4000000 in
set_option maxRecDepth 100000 in
theorem cC_sheet {l : Launch} {E : ic_E} {w : ic_w} {i : Nat} (hi_ : i < 2 ^ 32) {sort : Nat} (hsort_ : sort < 2 ^ 32) {m : Nat} (hm_ : m < 2 ^ 32) {T U V : Nat → Nat} (hS : Ct w T U V) : ic_C l E mX11_sheet 3 0 0 False [ic_pt E 0, .int (nI i), .int (nI sort), .int (nI m)] SHs (hn w) SHs (ic_qi (fun v_ h_ => v_ = nI (if i ≤ 3 ∧ (sort = 4294967295 ∨ (sort ≤ 4 ∧ (m ≤ 40 ∨ 2 ^ 31 ≤ m))) then (if sort ≠ 4294967295 ∧ 2 ^ 31 ≤ m then 4294967282 else 1) else 4294967295) ∧ ∃ w2, h_ = hn w2 ∧ (∀ a, a < 16 ∨ 22 < a ∨ a = 18 → w2 a = w a) ∧ Ct w2 (if i ≤ 3 ∧ (sort = 4294967295 ∨ (sort ≤ 4 ∧ m ≤ 40)) then fu T i sort else T) (if i ≤ 3 ∧ (sort = 4294967295 ∨ (sort ≤ 4 ∧ m ≤ 40)) then fu U i (if sort = 4294967295 then 0 else m) else U) (if i ≤ 3 ∧ (sort = 4294967295 ∨ (sort ≤ 4 ∧ m ≤ 40)) then mo_z40 V i 40 else V))) := by
  refine ic_intro (by decide +kernel) (Nat.le_of_ble_eq_true rfl) ?_
  show xx l E _ _ 0 [(0, ic_pt E 0), (1, .int (nI i)), (2, .int (nI sort)), (3, .int (nI m))] _ _ _
  refine xx_iload_n (pc := 0) dX11_sheet_0 1 rfl rfl ?_
  refine xx_callS0 (pc := 1) (st := []) (cC_isSheet (w := w) (v := i) (by omega)) kX11_isSheet sX11_330 dX11_sheet_1 rfl rfl (Nat.le_of_ble_eq_true rfl) ⟨Nat.le_of_ble_eq_true rfl, Nat.le_of_ble_eq_true rfl⟩ ⟨Nat.zero_le _, Nat.zero_le _⟩ (ic_ke ?_)
  refine xx_if_eqB (pc := 4) 16 dX11_sheet_4 rfl (fun c1 => ?_) (fun c1 => ?_)
  · refine xx_iconst (pc := 16) dX11_sheet_16 cc_iconst_m1 ?_
    exact xx_iret (pc := 17) dX11_sheet_17 rfl (rfl) (Nat.le_refl _) (Nat.le_refl _) (ic_ri ⟨by first | (exfalso; omega) | rw [if_neg (by omega)] | rw [if_pos (by omega), if_pos (by omega)], w, rfl, fun _ _ => rfl, by rw [if_neg (by omega), if_neg (by omega), if_neg (by omega)]; exact hS⟩)
  · refine xx_iload_n (pc := 7) dX11_sheet_7 2 rfl rfl ?_
    refine xx_iconst (pc := 8) dX11_sheet_8 cc_iconst_m1 ?_
    refine xx_iconst (pc := 9) dX11_sheet_9 cc_iconst_4 ?_
    refine xx_callS0 (pc := 10) (st := []) (cC_withinN (w := w) (v := sort) (hi := 4) (by omega) (by omega)) kX11_within sX11_94 dX11_sheet_10 rfl rfl (Nat.le_of_ble_eq_true rfl) ⟨Nat.le_of_ble_eq_true rfl, Nat.le_of_ble_eq_true rfl⟩ ⟨Nat.zero_le _, Nat.zero_le _⟩ (ic_ke ?_)
    refine xx_if_neB (pc := 13) 18 dX11_sheet_13 rfl (fun c2 => ?_) (fun c2 => ?_)
    · refine xx_iload_n (pc := 18) dX11_sheet_18 2 rfl rfl ?_
      refine xx_iconst (pc := 19) dX11_sheet_19 cc_iconst_m1 ?_
      refine xx_icmp_eqN (pc := 20) 31 dX11_sheet_20 rfl (by omega) (by omega) (fun c3 => ?_) (fun c3 => ?_)
      · refine xx_iload_n (pc := 31) dX11_sheet_31 2 rfl rfl ?_
        refine xx_iconst (pc := 32) dX11_sheet_32 cc_iconst_m1 ?_
        refine xx_icmp_eqN (pc := 33) 43 dX11_sheet_33 rfl (by omega) (by omega) (fun c4 => ?_) (fun c4 => ?_)
        · refine xx_aload_nP (pc := 43) dX11_sheet_43 0 rfl rfl ?_
          refine xx_getR (pc := 44) 16 dX11_sheet_44 sh_0 fX11_32_11 rfl rfl (by decide) ?_
          refine xx_iload_n (pc := 47) dX11_sheet_47 1 rfl rfl ?_
          refine xx_iload_n (pc := 48) dX11_sheet_48 2 rfl rfl ?_
          refine xx_iastN (pc := 49) dX11_sheet_49 sh_16 (by omega) (by decide) ?_
          refine xx_nw (fun w5 ew5 => ?_)
          refine xx_aload_nP (pc := 50) dX11_sheet_50 0 rfl rfl ?_
          refine xx_getR (pc := 51) 17 dX11_sheet_51 sh_0 fX11_36_11 rfl rfl (by decide) ?_
          refine xx_iload_n (pc := 54) dX11_sheet_54 1 rfl rfl ?_
          refine xx_iload_n (pc := 55) dX11_sheet_55 2 rfl rfl ?_
          refine xx_iconst (pc := 56) dX11_sheet_56 cc_iconst_m1 ?_
          refine xx_icmp_neN (pc := 57) 64 dX11_sheet_57 rfl (by omega) (by omega) (fun c6 => ?_) (fun c6 => ?_)
          · refine xx_iload_n (pc := 64) dX11_sheet_64 3 rfl rfl ?_
            refine xx_iastN (pc := 65) dX11_sheet_65 sh_17 (by omega) (by decide) ?_
            refine xx_nw (fun w7 ew7 => ?_)
            refine xx_iconst (pc := 66) dX11_sheet_66 cc_iconst_0 ?_
            refine xx_istore (L' := [(4, .int (nI 0)), (0, ic_pt E 0), (1, .int (nI i)), (2, .int (nI sort)), (3, .int (nI m))]) (pc := 67) dX11_sheet_67 (Nat.le_of_ble_eq_true rfl) rfl ?_
            have hP2_ : i ≤ 3 ∧ (sort = 4294967295 ∨ (sort ≤ 4 ∧ m ≤ 40)) := by omega
            have x0_ : ∀ a, a ≠ 16 → a ≠ 17 → w7 a = w a := fun a h1 h2 => by rw [ew7, wu_row _ _ _ h2, ew5, wu_row _ _ _ h1]
            have xs_ : w7 16 = fu (w 16) i sort := by rw [ew7, wu_row _ _ _ (by omega), ew5, wu_wr, wr_s]
            have xu_ : w7 17 = fu (w 17) i (if sort = 4294967295 then 0 else m) := by first | (exfalso; omega) | (rw [ew7, wu_wr, wr_s, ew5, wu_row _ _ _ (by omega)]; first | rw [if_pos (by omega)] | rw [if_neg (by omega)])
            have hsz_ : (if sort = 4294967295 then 0 else m) ≤ 40 := by split <;> omega
            have lp : ∀ (n_ : Nat) (k : Nat) (u : ic_w), k ≤ 40 → (∀ a, a ≠ 19 + i → u a = w7 a) → (∀ j, j < k → u (19 + i) j = 0) → 40 - k < n_ → xx l E (ic_fr E mX11_sheet 3 0 0 False SHs (ic_qi (fun v_ h_ => v_ = nI (if i ≤ 3 ∧ (sort = 4294967295 ∨ (sort ≤ 4 ∧ (m ≤ 40 ∨ 2 ^ 31 ≤ m))) then (if sort ≠ 4294967295 ∧ 2 ^ 31 ≤ m then 4294967282 else 1) else 4294967295) ∧ ∃ w2, h_ = hn w2 ∧ (∀ a, a < 16 ∨ 22 < a ∨ a = 18 → w2 a = w a) ∧ Ct w2 (if i ≤ 3 ∧ (sort = 4294967295 ∨ (sort ≤ 4 ∧ m ≤ 40)) then fu T i sort else T) (if i ≤ 3 ∧ (sort = 4294967295 ∨ (sort ≤ 4 ∧ m ≤ 40)) then fu U i (if sort = 4294967295 then 0 else m) else U) (if i ≤ 3 ∧ (sort = 4294967295 ∨ (sort ≤ 4 ∧ m ≤ 40)) then mo_z40 V i 40 else V)))) (0, 0) 69 [(4, .int (nI k)), (0, ic_pt E 0), (1, .int (nI i)), (2, .int (nI sort)), (3, .int (nI m))] [] SHs (hn u) := by
              intro n_
              induction n_ with
              | zero => intro k u hk hf hz hm_; exact absurd hm_ (Nat.not_lt_zero _)
              | succ n_ ih_ =>
                intro k u hk hf hz hm_
                refine xx_iload (pc := 69) dX11_sheet_69 0 rfl ?_
                refine xx_bipush (pc := 71) dX11_sheet_71 cc_bipush_40 ?_
                refine xx_icmp_geN (pc := 73) 92 dX11_sheet_73 rfl (by omega) (by omega) (fun c28 => ?_) (fun c28 => ?_)
                · refine xx_iconst (pc := 92) dX11_sheet_92 cc_iconst_1 ?_
                  exact xx_iret (pc := 93) dX11_sheet_93 rfl (rfl) (Nat.le_refl _) (Nat.le_refl _) (ic_ri ⟨by rw [if_pos (show i ≤ 3 ∧ (sort = 4294967295 ∨ (sort ≤ 4 ∧ (m ≤ 40 ∨ 2 ^ 31 ≤ m))) by omega), if_neg (show ¬ (sort ≠ 4294967295 ∧ 2 ^ 31 ≤ m) by omega)], u, rfl, fun a ha => by rw [hf a (by omega)]; exact x0_ a (by omega) (by omega), by rw [if_pos hP2_, if_pos hP2_, if_pos hP2_]; exact (hS.of (fun _ _ _ => rfl)).sheet (by omega) (by omega) hsz_ (by rw [hf 16 (by omega)]; exact xs_) (by rw [hf 17 (by omega)]; exact xu_) (fun a h1 h2 h3 => by rw [hf a (by omega)]; exact x0_ a (by omega) (by omega)) (fun j hj => hz j (by omega))⟩)
                · refine xx_aload_nP (pc := 76) dX11_sheet_76 1 rfl rfl ?_
                  refine xx_getR (pc := 77) 18 dX11_sheet_77 sh_0 fX11_39_11 rfl rfl (by decide) ?_
                  refine xx_iload_n (pc := 80) dX11_sheet_80 2 rfl rfl ?_
                  refine xx_aald (pc := 81) i (19 + i) dX11_sheet_81 sh_18 (by decide) rfl (by omega) (by decide) (it_at (by omega)) ?_
                  refine xx_iload (pc := 82) dX11_sheet_82 0 rfl ?_
                  refine xx_iconst (pc := 84) dX11_sheet_84 cc_iconst_0 ?_
                  refine xx_iastN (pc := 85) dX11_sheet_85 (it_sh (by omega)) (by omega) (by decide) ?_
                  refine xx_nw (fun w29 ew29 => ?_)
                  refine xx_iincN (L' := [(4, .int (nI (k + 1))), (0, ic_pt E 0), (1, .int (nI i)), (2, .int (nI sort)), (3, .int (nI m))]) (pc := 86) dX11_sheet_86 0 rfl cc_iconst_1 (Nat.le_of_ble_eq_true rfl) rfl ?_
                  refine xx_goto (pc := 89) 69 dX11_sheet_89 rfl ?_
                  exact xx_sub [0, 1, 2, 3, 4] rfl (ih_ (k + 1) w29 (by omega) (fun a h => by rw [ew29, wu_row _ _ _ h]; exact hf a h) (fun j hj => by rw [ew29]; by_cases y : j = k; rw [y, wu_s]; rw [wu_k _ _ _ _ y]; exact hz j (by omega)) (by omega))
            exact xx_sub [0, 1, 2, 3, 4] rfl (lp 41 0 w7 (by omega) (fun _ _ => rfl) (fun _ h => absurd h (by omega)) (by omega))
          · refine xx_iconst (pc := 60) dX11_sheet_60 cc_iconst_0 ?_
            refine xx_goto (pc := 61) 65 dX11_sheet_61 rfl ?_
            refine xx_iastN (pc := 65) dX11_sheet_65 sh_17 (by omega) (by decide) ?_
            refine xx_nw (fun w8 ew8 => ?_)
            refine xx_iconst (pc := 66) dX11_sheet_66 cc_iconst_0 ?_
            refine xx_istore (L' := [(4, .int (nI 0)), (0, ic_pt E 0), (1, .int (nI i)), (2, .int (nI sort)), (3, .int (nI m))]) (pc := 67) dX11_sheet_67 (Nat.le_of_ble_eq_true rfl) rfl ?_
            have hP2_ : i ≤ 3 ∧ (sort = 4294967295 ∨ (sort ≤ 4 ∧ m ≤ 40)) := by omega
            have x0_ : ∀ a, a ≠ 16 → a ≠ 17 → w8 a = w a := fun a h1 h2 => by rw [ew8, wu_row _ _ _ h2, ew5, wu_row _ _ _ h1]
            have xs_ : w8 16 = fu (w 16) i sort := by rw [ew8, wu_row _ _ _ (by omega), ew5, wu_wr, wr_s]
            have xu_ : w8 17 = fu (w 17) i (if sort = 4294967295 then 0 else m) := by first | (exfalso; omega) | (rw [ew8, wu_wr, wr_s, ew5, wu_row _ _ _ (by omega)]; first | rw [if_pos (by omega)] | rw [if_neg (by omega)])
            have hsz_ : (if sort = 4294967295 then 0 else m) ≤ 40 := by split <;> omega
            have lp : ∀ (n_ : Nat) (k : Nat) (u : ic_w), k ≤ 40 → (∀ a, a ≠ 19 + i → u a = w8 a) → (∀ j, j < k → u (19 + i) j = 0) → 40 - k < n_ → xx l E (ic_fr E mX11_sheet 3 0 0 False SHs (ic_qi (fun v_ h_ => v_ = nI (if i ≤ 3 ∧ (sort = 4294967295 ∨ (sort ≤ 4 ∧ (m ≤ 40 ∨ 2 ^ 31 ≤ m))) then (if sort ≠ 4294967295 ∧ 2 ^ 31 ≤ m then 4294967282 else 1) else 4294967295) ∧ ∃ w2, h_ = hn w2 ∧ (∀ a, a < 16 ∨ 22 < a ∨ a = 18 → w2 a = w a) ∧ Ct w2 (if i ≤ 3 ∧ (sort = 4294967295 ∨ (sort ≤ 4 ∧ m ≤ 40)) then fu T i sort else T) (if i ≤ 3 ∧ (sort = 4294967295 ∨ (sort ≤ 4 ∧ m ≤ 40)) then fu U i (if sort = 4294967295 then 0 else m) else U) (if i ≤ 3 ∧ (sort = 4294967295 ∨ (sort ≤ 4 ∧ m ≤ 40)) then mo_z40 V i 40 else V)))) (0, 0) 69 [(4, .int (nI k)), (0, ic_pt E 0), (1, .int (nI i)), (2, .int (nI sort)), (3, .int (nI m))] [] SHs (hn u) := by
              intro n_
              induction n_ with
              | zero => intro k u hk hf hz hm_; exact absurd hm_ (Nat.not_lt_zero _)
              | succ n_ ih_ =>
                intro k u hk hf hz hm_
                refine xx_iload (pc := 69) dX11_sheet_69 0 rfl ?_
                refine xx_bipush (pc := 71) dX11_sheet_71 cc_bipush_40 ?_
                refine xx_icmp_geN (pc := 73) 92 dX11_sheet_73 rfl (by omega) (by omega) (fun c29 => ?_) (fun c29 => ?_)
                · refine xx_iconst (pc := 92) dX11_sheet_92 cc_iconst_1 ?_
                  exact xx_iret (pc := 93) dX11_sheet_93 rfl (rfl) (Nat.le_refl _) (Nat.le_refl _) (ic_ri ⟨by rw [if_pos (show i ≤ 3 ∧ (sort = 4294967295 ∨ (sort ≤ 4 ∧ (m ≤ 40 ∨ 2 ^ 31 ≤ m))) by omega), if_neg (show ¬ (sort ≠ 4294967295 ∧ 2 ^ 31 ≤ m) by omega)], u, rfl, fun a ha => by rw [hf a (by omega)]; exact x0_ a (by omega) (by omega), by rw [if_pos hP2_, if_pos hP2_, if_pos hP2_]; exact (hS.of (fun _ _ _ => rfl)).sheet (by omega) (by omega) hsz_ (by rw [hf 16 (by omega)]; exact xs_) (by rw [hf 17 (by omega)]; exact xu_) (fun a h1 h2 h3 => by rw [hf a (by omega)]; exact x0_ a (by omega) (by omega)) (fun j hj => hz j (by omega))⟩)
                · refine xx_aload_nP (pc := 76) dX11_sheet_76 1 rfl rfl ?_
                  refine xx_getR (pc := 77) 18 dX11_sheet_77 sh_0 fX11_39_11 rfl rfl (by decide) ?_
                  refine xx_iload_n (pc := 80) dX11_sheet_80 2 rfl rfl ?_
                  refine xx_aald (pc := 81) i (19 + i) dX11_sheet_81 sh_18 (by decide) rfl (by omega) (by decide) (it_at (by omega)) ?_
                  refine xx_iload (pc := 82) dX11_sheet_82 0 rfl ?_
                  refine xx_iconst (pc := 84) dX11_sheet_84 cc_iconst_0 ?_
                  refine xx_iastN (pc := 85) dX11_sheet_85 (it_sh (by omega)) (by omega) (by decide) ?_
                  refine xx_nw (fun w30 ew30 => ?_)
                  refine xx_iincN (L' := [(4, .int (nI (k + 1))), (0, ic_pt E 0), (1, .int (nI i)), (2, .int (nI sort)), (3, .int (nI m))]) (pc := 86) dX11_sheet_86 0 rfl cc_iconst_1 (Nat.le_of_ble_eq_true rfl) rfl ?_
                  refine xx_goto (pc := 89) 69 dX11_sheet_89 rfl ?_
                  exact xx_sub [0, 1, 2, 3, 4] rfl (ih_ (k + 1) w30 (by omega) (fun a h => by rw [ew30, wu_row _ _ _ h]; exact hf a h) (fun j hj => by rw [ew30]; by_cases y : j = k; rw [y, wu_s]; rw [wu_k _ _ _ _ y]; exact hz j (by omega)) (by omega))
            exact xx_sub [0, 1, 2, 3, 4] rfl (lp 41 0 w8 (by omega) (fun _ _ => rfl) (fun _ h => absurd h (by omega)) (by omega))
        · refine xx_iload_n (pc := 36) dX11_sheet_36 3 rfl rfl ?_
          refine xx_if_geS (pc := 37) 43 dX11_sheet_37 rfl (by omega) (fun c9 => ?_) (fun c9 => ?_)
          · refine xx_aload_nP (pc := 43) dX11_sheet_43 0 rfl rfl ?_
            refine xx_getR (pc := 44) 16 dX11_sheet_44 sh_0 fX11_32_11 rfl rfl (by decide) ?_
            refine xx_iload_n (pc := 47) dX11_sheet_47 1 rfl rfl ?_
            refine xx_iload_n (pc := 48) dX11_sheet_48 2 rfl rfl ?_
            refine xx_iastN (pc := 49) dX11_sheet_49 sh_16 (by omega) (by decide) ?_
            refine xx_nw (fun w10 ew10 => ?_)
            refine xx_aload_nP (pc := 50) dX11_sheet_50 0 rfl rfl ?_
            refine xx_getR (pc := 51) 17 dX11_sheet_51 sh_0 fX11_36_11 rfl rfl (by decide) ?_
            refine xx_iload_n (pc := 54) dX11_sheet_54 1 rfl rfl ?_
            refine xx_iload_n (pc := 55) dX11_sheet_55 2 rfl rfl ?_
            refine xx_iconst (pc := 56) dX11_sheet_56 cc_iconst_m1 ?_
            refine xx_icmp_neN (pc := 57) 64 dX11_sheet_57 rfl (by omega) (by omega) (fun c11 => ?_) (fun c11 => ?_)
            · refine xx_iload_n (pc := 64) dX11_sheet_64 3 rfl rfl ?_
              refine xx_iastN (pc := 65) dX11_sheet_65 sh_17 (by omega) (by decide) ?_
              refine xx_nw (fun w12 ew12 => ?_)
              refine xx_iconst (pc := 66) dX11_sheet_66 cc_iconst_0 ?_
              refine xx_istore (L' := [(4, .int (nI 0)), (0, ic_pt E 0), (1, .int (nI i)), (2, .int (nI sort)), (3, .int (nI m))]) (pc := 67) dX11_sheet_67 (Nat.le_of_ble_eq_true rfl) rfl ?_
              have hP2_ : i ≤ 3 ∧ (sort = 4294967295 ∨ (sort ≤ 4 ∧ m ≤ 40)) := by omega
              have x0_ : ∀ a, a ≠ 16 → a ≠ 17 → w12 a = w a := fun a h1 h2 => by rw [ew12, wu_row _ _ _ h2, ew10, wu_row _ _ _ h1]
              have xs_ : w12 16 = fu (w 16) i sort := by rw [ew12, wu_row _ _ _ (by omega), ew10, wu_wr, wr_s]
              have xu_ : w12 17 = fu (w 17) i (if sort = 4294967295 then 0 else m) := by first | (exfalso; omega) | (rw [ew12, wu_wr, wr_s, ew10, wu_row _ _ _ (by omega)]; first | rw [if_pos (by omega)] | rw [if_neg (by omega)])
              have hsz_ : (if sort = 4294967295 then 0 else m) ≤ 40 := by split <;> omega
              have lp : ∀ (n_ : Nat) (k : Nat) (u : ic_w), k ≤ 40 → (∀ a, a ≠ 19 + i → u a = w12 a) → (∀ j, j < k → u (19 + i) j = 0) → 40 - k < n_ → xx l E (ic_fr E mX11_sheet 3 0 0 False SHs (ic_qi (fun v_ h_ => v_ = nI (if i ≤ 3 ∧ (sort = 4294967295 ∨ (sort ≤ 4 ∧ (m ≤ 40 ∨ 2 ^ 31 ≤ m))) then (if sort ≠ 4294967295 ∧ 2 ^ 31 ≤ m then 4294967282 else 1) else 4294967295) ∧ ∃ w2, h_ = hn w2 ∧ (∀ a, a < 16 ∨ 22 < a ∨ a = 18 → w2 a = w a) ∧ Ct w2 (if i ≤ 3 ∧ (sort = 4294967295 ∨ (sort ≤ 4 ∧ m ≤ 40)) then fu T i sort else T) (if i ≤ 3 ∧ (sort = 4294967295 ∨ (sort ≤ 4 ∧ m ≤ 40)) then fu U i (if sort = 4294967295 then 0 else m) else U) (if i ≤ 3 ∧ (sort = 4294967295 ∨ (sort ≤ 4 ∧ m ≤ 40)) then mo_z40 V i 40 else V)))) (0, 0) 69 [(4, .int (nI k)), (0, ic_pt E 0), (1, .int (nI i)), (2, .int (nI sort)), (3, .int (nI m))] [] SHs (hn u) := by
                intro n_
                induction n_ with
                | zero => intro k u hk hf hz hm_; exact absurd hm_ (Nat.not_lt_zero _)
                | succ n_ ih_ =>
                  intro k u hk hf hz hm_
                  refine xx_iload (pc := 69) dX11_sheet_69 0 rfl ?_
                  refine xx_bipush (pc := 71) dX11_sheet_71 cc_bipush_40 ?_
                  refine xx_icmp_geN (pc := 73) 92 dX11_sheet_73 rfl (by omega) (by omega) (fun c33 => ?_) (fun c33 => ?_)
                  · refine xx_iconst (pc := 92) dX11_sheet_92 cc_iconst_1 ?_
                    exact xx_iret (pc := 93) dX11_sheet_93 rfl (rfl) (Nat.le_refl _) (Nat.le_refl _) (ic_ri ⟨by rw [if_pos (show i ≤ 3 ∧ (sort = 4294967295 ∨ (sort ≤ 4 ∧ (m ≤ 40 ∨ 2 ^ 31 ≤ m))) by omega), if_neg (show ¬ (sort ≠ 4294967295 ∧ 2 ^ 31 ≤ m) by omega)], u, rfl, fun a ha => by rw [hf a (by omega)]; exact x0_ a (by omega) (by omega), by rw [if_pos hP2_, if_pos hP2_, if_pos hP2_]; exact (hS.of (fun _ _ _ => rfl)).sheet (by omega) (by omega) hsz_ (by rw [hf 16 (by omega)]; exact xs_) (by rw [hf 17 (by omega)]; exact xu_) (fun a h1 h2 h3 => by rw [hf a (by omega)]; exact x0_ a (by omega) (by omega)) (fun j hj => hz j (by omega))⟩)
                  · refine xx_aload_nP (pc := 76) dX11_sheet_76 1 rfl rfl ?_
                    refine xx_getR (pc := 77) 18 dX11_sheet_77 sh_0 fX11_39_11 rfl rfl (by decide) ?_
                    refine xx_iload_n (pc := 80) dX11_sheet_80 2 rfl rfl ?_
                    refine xx_aald (pc := 81) i (19 + i) dX11_sheet_81 sh_18 (by decide) rfl (by omega) (by decide) (it_at (by omega)) ?_
                    refine xx_iload (pc := 82) dX11_sheet_82 0 rfl ?_
                    refine xx_iconst (pc := 84) dX11_sheet_84 cc_iconst_0 ?_
                    refine xx_iastN (pc := 85) dX11_sheet_85 (it_sh (by omega)) (by omega) (by decide) ?_
                    refine xx_nw (fun w34 ew34 => ?_)
                    refine xx_iincN (L' := [(4, .int (nI (k + 1))), (0, ic_pt E 0), (1, .int (nI i)), (2, .int (nI sort)), (3, .int (nI m))]) (pc := 86) dX11_sheet_86 0 rfl cc_iconst_1 (Nat.le_of_ble_eq_true rfl) rfl ?_
                    refine xx_goto (pc := 89) 69 dX11_sheet_89 rfl ?_
                    exact xx_sub [0, 1, 2, 3, 4] rfl (ih_ (k + 1) w34 (by omega) (fun a h => by rw [ew34, wu_row _ _ _ h]; exact hf a h) (fun j hj => by rw [ew34]; by_cases y : j = k; rw [y, wu_s]; rw [wu_k _ _ _ _ y]; exact hz j (by omega)) (by omega))
              exact xx_sub [0, 1, 2, 3, 4] rfl (lp 41 0 w12 (by omega) (fun _ _ => rfl) (fun _ h => absurd h (by omega)) (by omega))
            · refine xx_iconst (pc := 60) dX11_sheet_60 cc_iconst_0 ?_
              refine xx_goto (pc := 61) 65 dX11_sheet_61 rfl ?_
              refine xx_iastN (pc := 65) dX11_sheet_65 sh_17 (by omega) (by decide) ?_
              refine xx_nw (fun w13 ew13 => ?_)
              refine xx_iconst (pc := 66) dX11_sheet_66 cc_iconst_0 ?_
              refine xx_istore (L' := [(4, .int (nI 0)), (0, ic_pt E 0), (1, .int (nI i)), (2, .int (nI sort)), (3, .int (nI m))]) (pc := 67) dX11_sheet_67 (Nat.le_of_ble_eq_true rfl) rfl ?_
              have hP2_ : i ≤ 3 ∧ (sort = 4294967295 ∨ (sort ≤ 4 ∧ m ≤ 40)) := by omega
              have x0_ : ∀ a, a ≠ 16 → a ≠ 17 → w13 a = w a := fun a h1 h2 => by rw [ew13, wu_row _ _ _ h2, ew10, wu_row _ _ _ h1]
              have xs_ : w13 16 = fu (w 16) i sort := by rw [ew13, wu_row _ _ _ (by omega), ew10, wu_wr, wr_s]
              have xu_ : w13 17 = fu (w 17) i (if sort = 4294967295 then 0 else m) := by first | (exfalso; omega) | (rw [ew13, wu_wr, wr_s, ew10, wu_row _ _ _ (by omega)]; first | rw [if_pos (by omega)] | rw [if_neg (by omega)])
              have hsz_ : (if sort = 4294967295 then 0 else m) ≤ 40 := by split <;> omega
              have lp : ∀ (n_ : Nat) (k : Nat) (u : ic_w), k ≤ 40 → (∀ a, a ≠ 19 + i → u a = w13 a) → (∀ j, j < k → u (19 + i) j = 0) → 40 - k < n_ → xx l E (ic_fr E mX11_sheet 3 0 0 False SHs (ic_qi (fun v_ h_ => v_ = nI (if i ≤ 3 ∧ (sort = 4294967295 ∨ (sort ≤ 4 ∧ (m ≤ 40 ∨ 2 ^ 31 ≤ m))) then (if sort ≠ 4294967295 ∧ 2 ^ 31 ≤ m then 4294967282 else 1) else 4294967295) ∧ ∃ w2, h_ = hn w2 ∧ (∀ a, a < 16 ∨ 22 < a ∨ a = 18 → w2 a = w a) ∧ Ct w2 (if i ≤ 3 ∧ (sort = 4294967295 ∨ (sort ≤ 4 ∧ m ≤ 40)) then fu T i sort else T) (if i ≤ 3 ∧ (sort = 4294967295 ∨ (sort ≤ 4 ∧ m ≤ 40)) then fu U i (if sort = 4294967295 then 0 else m) else U) (if i ≤ 3 ∧ (sort = 4294967295 ∨ (sort ≤ 4 ∧ m ≤ 40)) then mo_z40 V i 40 else V)))) (0, 0) 69 [(4, .int (nI k)), (0, ic_pt E 0), (1, .int (nI i)), (2, .int (nI sort)), (3, .int (nI m))] [] SHs (hn u) := by
                intro n_
                induction n_ with
                | zero => intro k u hk hf hz hm_; exact absurd hm_ (Nat.not_lt_zero _)
                | succ n_ ih_ =>
                  intro k u hk hf hz hm_
                  refine xx_iload (pc := 69) dX11_sheet_69 0 rfl ?_
                  refine xx_bipush (pc := 71) dX11_sheet_71 cc_bipush_40 ?_
                  refine xx_icmp_geN (pc := 73) 92 dX11_sheet_73 rfl (by omega) (by omega) (fun c34 => ?_) (fun c34 => ?_)
                  · refine xx_iconst (pc := 92) dX11_sheet_92 cc_iconst_1 ?_
                    exact xx_iret (pc := 93) dX11_sheet_93 rfl (rfl) (Nat.le_refl _) (Nat.le_refl _) (ic_ri ⟨by rw [if_pos (show i ≤ 3 ∧ (sort = 4294967295 ∨ (sort ≤ 4 ∧ (m ≤ 40 ∨ 2 ^ 31 ≤ m))) by omega), if_neg (show ¬ (sort ≠ 4294967295 ∧ 2 ^ 31 ≤ m) by omega)], u, rfl, fun a ha => by rw [hf a (by omega)]; exact x0_ a (by omega) (by omega), by rw [if_pos hP2_, if_pos hP2_, if_pos hP2_]; exact (hS.of (fun _ _ _ => rfl)).sheet (by omega) (by omega) hsz_ (by rw [hf 16 (by omega)]; exact xs_) (by rw [hf 17 (by omega)]; exact xu_) (fun a h1 h2 h3 => by rw [hf a (by omega)]; exact x0_ a (by omega) (by omega)) (fun j hj => hz j (by omega))⟩)
                  · refine xx_aload_nP (pc := 76) dX11_sheet_76 1 rfl rfl ?_
                    refine xx_getR (pc := 77) 18 dX11_sheet_77 sh_0 fX11_39_11 rfl rfl (by decide) ?_
                    refine xx_iload_n (pc := 80) dX11_sheet_80 2 rfl rfl ?_
                    refine xx_aald (pc := 81) i (19 + i) dX11_sheet_81 sh_18 (by decide) rfl (by omega) (by decide) (it_at (by omega)) ?_
                    refine xx_iload (pc := 82) dX11_sheet_82 0 rfl ?_
                    refine xx_iconst (pc := 84) dX11_sheet_84 cc_iconst_0 ?_
                    refine xx_iastN (pc := 85) dX11_sheet_85 (it_sh (by omega)) (by omega) (by decide) ?_
                    refine xx_nw (fun w35 ew35 => ?_)
                    refine xx_iincN (L' := [(4, .int (nI (k + 1))), (0, ic_pt E 0), (1, .int (nI i)), (2, .int (nI sort)), (3, .int (nI m))]) (pc := 86) dX11_sheet_86 0 rfl cc_iconst_1 (Nat.le_of_ble_eq_true rfl) rfl ?_
                    refine xx_goto (pc := 89) 69 dX11_sheet_89 rfl ?_
                    exact xx_sub [0, 1, 2, 3, 4] rfl (ih_ (k + 1) w35 (by omega) (fun a h => by rw [ew35, wu_row _ _ _ h]; exact hf a h) (fun j hj => by rw [ew35]; by_cases y : j = k; rw [y, wu_s]; rw [wu_k _ _ _ _ y]; exact hz j (by omega)) (by omega))
              exact xx_sub [0, 1, 2, 3, 4] rfl (lp 41 0 w13 (by omega) (fun _ _ => rfl) (fun _ h => absurd h (by omega)) (by omega))
          · refine xx_bipush (pc := 40) dX11_sheet_40 cc_bipush_m14 ?_
            exact xx_iret (pc := 42) dX11_sheet_42 rfl (rfl) (Nat.le_refl _) (Nat.le_refl _) (ic_ri ⟨by first | (exfalso; omega) | rw [if_neg (by omega)] | rw [if_pos (by omega), if_pos (by omega)], w, rfl, fun _ _ => rfl, by rw [if_neg (by omega), if_neg (by omega), if_neg (by omega)]; exact hS⟩)
      · refine xx_iload_n (pc := 23) dX11_sheet_23 3 rfl rfl ?_
        refine xx_bipush (pc := 24) dX11_sheet_24 cc_bipush_40 ?_
        refine xx_icmp_leS (pc := 26) 31 dX11_sheet_26 rfl (by omega) (by omega) (fun c14 => ?_) (fun c14 => ?_)
        · refine xx_iload_n (pc := 31) dX11_sheet_31 2 rfl rfl ?_
          refine xx_iconst (pc := 32) dX11_sheet_32 cc_iconst_m1 ?_
          refine xx_icmp_eqN (pc := 33) 43 dX11_sheet_33 rfl (by omega) (by omega) (fun c15 => ?_) (fun c15 => ?_)
          · refine xx_aload_nP (pc := 43) dX11_sheet_43 0 rfl rfl ?_
            refine xx_getR (pc := 44) 16 dX11_sheet_44 sh_0 fX11_32_11 rfl rfl (by decide) ?_
            refine xx_iload_n (pc := 47) dX11_sheet_47 1 rfl rfl ?_
            refine xx_iload_n (pc := 48) dX11_sheet_48 2 rfl rfl ?_
            refine xx_iastN (pc := 49) dX11_sheet_49 sh_16 (by omega) (by decide) ?_
            refine xx_nw (fun w16 ew16 => ?_)
            refine xx_aload_nP (pc := 50) dX11_sheet_50 0 rfl rfl ?_
            refine xx_getR (pc := 51) 17 dX11_sheet_51 sh_0 fX11_36_11 rfl rfl (by decide) ?_
            refine xx_iload_n (pc := 54) dX11_sheet_54 1 rfl rfl ?_
            refine xx_iload_n (pc := 55) dX11_sheet_55 2 rfl rfl ?_
            refine xx_iconst (pc := 56) dX11_sheet_56 cc_iconst_m1 ?_
            refine xx_icmp_neN (pc := 57) 64 dX11_sheet_57 rfl (by omega) (by omega) (fun c17 => ?_) (fun c17 => ?_)
            · refine xx_iload_n (pc := 64) dX11_sheet_64 3 rfl rfl ?_
              refine xx_iastN (pc := 65) dX11_sheet_65 sh_17 (by omega) (by decide) ?_
              refine xx_nw (fun w18 ew18 => ?_)
              refine xx_iconst (pc := 66) dX11_sheet_66 cc_iconst_0 ?_
              refine xx_istore (L' := [(4, .int (nI 0)), (0, ic_pt E 0), (1, .int (nI i)), (2, .int (nI sort)), (3, .int (nI m))]) (pc := 67) dX11_sheet_67 (Nat.le_of_ble_eq_true rfl) rfl ?_
              have hP2_ : i ≤ 3 ∧ (sort = 4294967295 ∨ (sort ≤ 4 ∧ m ≤ 40)) := by omega
              have x0_ : ∀ a, a ≠ 16 → a ≠ 17 → w18 a = w a := fun a h1 h2 => by rw [ew18, wu_row _ _ _ h2, ew16, wu_row _ _ _ h1]
              have xs_ : w18 16 = fu (w 16) i sort := by rw [ew18, wu_row _ _ _ (by omega), ew16, wu_wr, wr_s]
              have xu_ : w18 17 = fu (w 17) i (if sort = 4294967295 then 0 else m) := by first | (exfalso; omega) | (rw [ew18, wu_wr, wr_s, ew16, wu_row _ _ _ (by omega)]; first | rw [if_pos (by omega)] | rw [if_neg (by omega)])
              have hsz_ : (if sort = 4294967295 then 0 else m) ≤ 40 := by split <;> omega
              have lp : ∀ (n_ : Nat) (k : Nat) (u : ic_w), k ≤ 40 → (∀ a, a ≠ 19 + i → u a = w18 a) → (∀ j, j < k → u (19 + i) j = 0) → 40 - k < n_ → xx l E (ic_fr E mX11_sheet 3 0 0 False SHs (ic_qi (fun v_ h_ => v_ = nI (if i ≤ 3 ∧ (sort = 4294967295 ∨ (sort ≤ 4 ∧ (m ≤ 40 ∨ 2 ^ 31 ≤ m))) then (if sort ≠ 4294967295 ∧ 2 ^ 31 ≤ m then 4294967282 else 1) else 4294967295) ∧ ∃ w2, h_ = hn w2 ∧ (∀ a, a < 16 ∨ 22 < a ∨ a = 18 → w2 a = w a) ∧ Ct w2 (if i ≤ 3 ∧ (sort = 4294967295 ∨ (sort ≤ 4 ∧ m ≤ 40)) then fu T i sort else T) (if i ≤ 3 ∧ (sort = 4294967295 ∨ (sort ≤ 4 ∧ m ≤ 40)) then fu U i (if sort = 4294967295 then 0 else m) else U) (if i ≤ 3 ∧ (sort = 4294967295 ∨ (sort ≤ 4 ∧ m ≤ 40)) then mo_z40 V i 40 else V)))) (0, 0) 69 [(4, .int (nI k)), (0, ic_pt E 0), (1, .int (nI i)), (2, .int (nI sort)), (3, .int (nI m))] [] SHs (hn u) := by
                intro n_
                induction n_ with
                | zero => intro k u hk hf hz hm_; exact absurd hm_ (Nat.not_lt_zero _)
                | succ n_ ih_ =>
                  intro k u hk hf hz hm_
                  refine xx_iload (pc := 69) dX11_sheet_69 0 rfl ?_
                  refine xx_bipush (pc := 71) dX11_sheet_71 cc_bipush_40 ?_
                  refine xx_icmp_geN (pc := 73) 92 dX11_sheet_73 rfl (by omega) (by omega) (fun c39 => ?_) (fun c39 => ?_)
                  · refine xx_iconst (pc := 92) dX11_sheet_92 cc_iconst_1 ?_
                    exact xx_iret (pc := 93) dX11_sheet_93 rfl (rfl) (Nat.le_refl _) (Nat.le_refl _) (ic_ri ⟨by rw [if_pos (show i ≤ 3 ∧ (sort = 4294967295 ∨ (sort ≤ 4 ∧ (m ≤ 40 ∨ 2 ^ 31 ≤ m))) by omega), if_neg (show ¬ (sort ≠ 4294967295 ∧ 2 ^ 31 ≤ m) by omega)], u, rfl, fun a ha => by rw [hf a (by omega)]; exact x0_ a (by omega) (by omega), by rw [if_pos hP2_, if_pos hP2_, if_pos hP2_]; exact (hS.of (fun _ _ _ => rfl)).sheet (by omega) (by omega) hsz_ (by rw [hf 16 (by omega)]; exact xs_) (by rw [hf 17 (by omega)]; exact xu_) (fun a h1 h2 h3 => by rw [hf a (by omega)]; exact x0_ a (by omega) (by omega)) (fun j hj => hz j (by omega))⟩)
                  · refine xx_aload_nP (pc := 76) dX11_sheet_76 1 rfl rfl ?_
                    refine xx_getR (pc := 77) 18 dX11_sheet_77 sh_0 fX11_39_11 rfl rfl (by decide) ?_
                    refine xx_iload_n (pc := 80) dX11_sheet_80 2 rfl rfl ?_
                    refine xx_aald (pc := 81) i (19 + i) dX11_sheet_81 sh_18 (by decide) rfl (by omega) (by decide) (it_at (by omega)) ?_
                    refine xx_iload (pc := 82) dX11_sheet_82 0 rfl ?_
                    refine xx_iconst (pc := 84) dX11_sheet_84 cc_iconst_0 ?_
                    refine xx_iastN (pc := 85) dX11_sheet_85 (it_sh (by omega)) (by omega) (by decide) ?_
                    refine xx_nw (fun w40 ew40 => ?_)
                    refine xx_iincN (L' := [(4, .int (nI (k + 1))), (0, ic_pt E 0), (1, .int (nI i)), (2, .int (nI sort)), (3, .int (nI m))]) (pc := 86) dX11_sheet_86 0 rfl cc_iconst_1 (Nat.le_of_ble_eq_true rfl) rfl ?_
                    refine xx_goto (pc := 89) 69 dX11_sheet_89 rfl ?_
                    exact xx_sub [0, 1, 2, 3, 4] rfl (ih_ (k + 1) w40 (by omega) (fun a h => by rw [ew40, wu_row _ _ _ h]; exact hf a h) (fun j hj => by rw [ew40]; by_cases y : j = k; rw [y, wu_s]; rw [wu_k _ _ _ _ y]; exact hz j (by omega)) (by omega))
              exact xx_sub [0, 1, 2, 3, 4] rfl (lp 41 0 w18 (by omega) (fun _ _ => rfl) (fun _ h => absurd h (by omega)) (by omega))
            · refine xx_iconst (pc := 60) dX11_sheet_60 cc_iconst_0 ?_
              refine xx_goto (pc := 61) 65 dX11_sheet_61 rfl ?_
              refine xx_iastN (pc := 65) dX11_sheet_65 sh_17 (by omega) (by decide) ?_
              refine xx_nw (fun w19 ew19 => ?_)
              refine xx_iconst (pc := 66) dX11_sheet_66 cc_iconst_0 ?_
              refine xx_istore (L' := [(4, .int (nI 0)), (0, ic_pt E 0), (1, .int (nI i)), (2, .int (nI sort)), (3, .int (nI m))]) (pc := 67) dX11_sheet_67 (Nat.le_of_ble_eq_true rfl) rfl ?_
              have hP2_ : i ≤ 3 ∧ (sort = 4294967295 ∨ (sort ≤ 4 ∧ m ≤ 40)) := by omega
              have x0_ : ∀ a, a ≠ 16 → a ≠ 17 → w19 a = w a := fun a h1 h2 => by rw [ew19, wu_row _ _ _ h2, ew16, wu_row _ _ _ h1]
              have xs_ : w19 16 = fu (w 16) i sort := by rw [ew19, wu_row _ _ _ (by omega), ew16, wu_wr, wr_s]
              have xu_ : w19 17 = fu (w 17) i (if sort = 4294967295 then 0 else m) := by first | (exfalso; omega) | (rw [ew19, wu_wr, wr_s, ew16, wu_row _ _ _ (by omega)]; first | rw [if_pos (by omega)] | rw [if_neg (by omega)])
              have hsz_ : (if sort = 4294967295 then 0 else m) ≤ 40 := by split <;> omega
              have lp : ∀ (n_ : Nat) (k : Nat) (u : ic_w), k ≤ 40 → (∀ a, a ≠ 19 + i → u a = w19 a) → (∀ j, j < k → u (19 + i) j = 0) → 40 - k < n_ → xx l E (ic_fr E mX11_sheet 3 0 0 False SHs (ic_qi (fun v_ h_ => v_ = nI (if i ≤ 3 ∧ (sort = 4294967295 ∨ (sort ≤ 4 ∧ (m ≤ 40 ∨ 2 ^ 31 ≤ m))) then (if sort ≠ 4294967295 ∧ 2 ^ 31 ≤ m then 4294967282 else 1) else 4294967295) ∧ ∃ w2, h_ = hn w2 ∧ (∀ a, a < 16 ∨ 22 < a ∨ a = 18 → w2 a = w a) ∧ Ct w2 (if i ≤ 3 ∧ (sort = 4294967295 ∨ (sort ≤ 4 ∧ m ≤ 40)) then fu T i sort else T) (if i ≤ 3 ∧ (sort = 4294967295 ∨ (sort ≤ 4 ∧ m ≤ 40)) then fu U i (if sort = 4294967295 then 0 else m) else U) (if i ≤ 3 ∧ (sort = 4294967295 ∨ (sort ≤ 4 ∧ m ≤ 40)) then mo_z40 V i 40 else V)))) (0, 0) 69 [(4, .int (nI k)), (0, ic_pt E 0), (1, .int (nI i)), (2, .int (nI sort)), (3, .int (nI m))] [] SHs (hn u) := by
                intro n_
                induction n_ with
                | zero => intro k u hk hf hz hm_; exact absurd hm_ (Nat.not_lt_zero _)
                | succ n_ ih_ =>
                  intro k u hk hf hz hm_
                  refine xx_iload (pc := 69) dX11_sheet_69 0 rfl ?_
                  refine xx_bipush (pc := 71) dX11_sheet_71 cc_bipush_40 ?_
                  refine xx_icmp_geN (pc := 73) 92 dX11_sheet_73 rfl (by omega) (by omega) (fun c40 => ?_) (fun c40 => ?_)
                  · refine xx_iconst (pc := 92) dX11_sheet_92 cc_iconst_1 ?_
                    exact xx_iret (pc := 93) dX11_sheet_93 rfl (rfl) (Nat.le_refl _) (Nat.le_refl _) (ic_ri ⟨by rw [if_pos (show i ≤ 3 ∧ (sort = 4294967295 ∨ (sort ≤ 4 ∧ (m ≤ 40 ∨ 2 ^ 31 ≤ m))) by omega), if_neg (show ¬ (sort ≠ 4294967295 ∧ 2 ^ 31 ≤ m) by omega)], u, rfl, fun a ha => by rw [hf a (by omega)]; exact x0_ a (by omega) (by omega), by rw [if_pos hP2_, if_pos hP2_, if_pos hP2_]; exact (hS.of (fun _ _ _ => rfl)).sheet (by omega) (by omega) hsz_ (by rw [hf 16 (by omega)]; exact xs_) (by rw [hf 17 (by omega)]; exact xu_) (fun a h1 h2 h3 => by rw [hf a (by omega)]; exact x0_ a (by omega) (by omega)) (fun j hj => hz j (by omega))⟩)
                  · refine xx_aload_nP (pc := 76) dX11_sheet_76 1 rfl rfl ?_
                    refine xx_getR (pc := 77) 18 dX11_sheet_77 sh_0 fX11_39_11 rfl rfl (by decide) ?_
                    refine xx_iload_n (pc := 80) dX11_sheet_80 2 rfl rfl ?_
                    refine xx_aald (pc := 81) i (19 + i) dX11_sheet_81 sh_18 (by decide) rfl (by omega) (by decide) (it_at (by omega)) ?_
                    refine xx_iload (pc := 82) dX11_sheet_82 0 rfl ?_
                    refine xx_iconst (pc := 84) dX11_sheet_84 cc_iconst_0 ?_
                    refine xx_iastN (pc := 85) dX11_sheet_85 (it_sh (by omega)) (by omega) (by decide) ?_
                    refine xx_nw (fun w41 ew41 => ?_)
                    refine xx_iincN (L' := [(4, .int (nI (k + 1))), (0, ic_pt E 0), (1, .int (nI i)), (2, .int (nI sort)), (3, .int (nI m))]) (pc := 86) dX11_sheet_86 0 rfl cc_iconst_1 (Nat.le_of_ble_eq_true rfl) rfl ?_
                    refine xx_goto (pc := 89) 69 dX11_sheet_89 rfl ?_
                    exact xx_sub [0, 1, 2, 3, 4] rfl (ih_ (k + 1) w41 (by omega) (fun a h => by rw [ew41, wu_row _ _ _ h]; exact hf a h) (fun j hj => by rw [ew41]; by_cases y : j = k; rw [y, wu_s]; rw [wu_k _ _ _ _ y]; exact hz j (by omega)) (by omega))
              exact xx_sub [0, 1, 2, 3, 4] rfl (lp 41 0 w19 (by omega) (fun _ _ => rfl) (fun _ h => absurd h (by omega)) (by omega))
          · refine xx_iload_n (pc := 36) dX11_sheet_36 3 rfl rfl ?_
            refine xx_if_geS (pc := 37) 43 dX11_sheet_37 rfl (by omega) (fun c20 => ?_) (fun c20 => ?_)
            · refine xx_aload_nP (pc := 43) dX11_sheet_43 0 rfl rfl ?_
              refine xx_getR (pc := 44) 16 dX11_sheet_44 sh_0 fX11_32_11 rfl rfl (by decide) ?_
              refine xx_iload_n (pc := 47) dX11_sheet_47 1 rfl rfl ?_
              refine xx_iload_n (pc := 48) dX11_sheet_48 2 rfl rfl ?_
              refine xx_iastN (pc := 49) dX11_sheet_49 sh_16 (by omega) (by decide) ?_
              refine xx_nw (fun w21 ew21 => ?_)
              refine xx_aload_nP (pc := 50) dX11_sheet_50 0 rfl rfl ?_
              refine xx_getR (pc := 51) 17 dX11_sheet_51 sh_0 fX11_36_11 rfl rfl (by decide) ?_
              refine xx_iload_n (pc := 54) dX11_sheet_54 1 rfl rfl ?_
              refine xx_iload_n (pc := 55) dX11_sheet_55 2 rfl rfl ?_
              refine xx_iconst (pc := 56) dX11_sheet_56 cc_iconst_m1 ?_
              refine xx_icmp_neN (pc := 57) 64 dX11_sheet_57 rfl (by omega) (by omega) (fun c22 => ?_) (fun c22 => ?_)
              · refine xx_iload_n (pc := 64) dX11_sheet_64 3 rfl rfl ?_
                refine xx_iastN (pc := 65) dX11_sheet_65 sh_17 (by omega) (by decide) ?_
                refine xx_nw (fun w23 ew23 => ?_)
                refine xx_iconst (pc := 66) dX11_sheet_66 cc_iconst_0 ?_
                refine xx_istore (L' := [(4, .int (nI 0)), (0, ic_pt E 0), (1, .int (nI i)), (2, .int (nI sort)), (3, .int (nI m))]) (pc := 67) dX11_sheet_67 (Nat.le_of_ble_eq_true rfl) rfl ?_
                have hP2_ : i ≤ 3 ∧ (sort = 4294967295 ∨ (sort ≤ 4 ∧ m ≤ 40)) := by omega
                have x0_ : ∀ a, a ≠ 16 → a ≠ 17 → w23 a = w a := fun a h1 h2 => by rw [ew23, wu_row _ _ _ h2, ew21, wu_row _ _ _ h1]
                have xs_ : w23 16 = fu (w 16) i sort := by rw [ew23, wu_row _ _ _ (by omega), ew21, wu_wr, wr_s]
                have xu_ : w23 17 = fu (w 17) i (if sort = 4294967295 then 0 else m) := by first | (exfalso; omega) | (rw [ew23, wu_wr, wr_s, ew21, wu_row _ _ _ (by omega)]; first | rw [if_pos (by omega)] | rw [if_neg (by omega)])
                have hsz_ : (if sort = 4294967295 then 0 else m) ≤ 40 := by split <;> omega
                have lp : ∀ (n_ : Nat) (k : Nat) (u : ic_w), k ≤ 40 → (∀ a, a ≠ 19 + i → u a = w23 a) → (∀ j, j < k → u (19 + i) j = 0) → 40 - k < n_ → xx l E (ic_fr E mX11_sheet 3 0 0 False SHs (ic_qi (fun v_ h_ => v_ = nI (if i ≤ 3 ∧ (sort = 4294967295 ∨ (sort ≤ 4 ∧ (m ≤ 40 ∨ 2 ^ 31 ≤ m))) then (if sort ≠ 4294967295 ∧ 2 ^ 31 ≤ m then 4294967282 else 1) else 4294967295) ∧ ∃ w2, h_ = hn w2 ∧ (∀ a, a < 16 ∨ 22 < a ∨ a = 18 → w2 a = w a) ∧ Ct w2 (if i ≤ 3 ∧ (sort = 4294967295 ∨ (sort ≤ 4 ∧ m ≤ 40)) then fu T i sort else T) (if i ≤ 3 ∧ (sort = 4294967295 ∨ (sort ≤ 4 ∧ m ≤ 40)) then fu U i (if sort = 4294967295 then 0 else m) else U) (if i ≤ 3 ∧ (sort = 4294967295 ∨ (sort ≤ 4 ∧ m ≤ 40)) then mo_z40 V i 40 else V)))) (0, 0) 69 [(4, .int (nI k)), (0, ic_pt E 0), (1, .int (nI i)), (2, .int (nI sort)), (3, .int (nI m))] [] SHs (hn u) := by
                  intro n_
                  induction n_ with
                  | zero => intro k u hk hf hz hm_; exact absurd hm_ (Nat.not_lt_zero _)
                  | succ n_ ih_ =>
                    intro k u hk hf hz hm_
                    refine xx_iload (pc := 69) dX11_sheet_69 0 rfl ?_
                    refine xx_bipush (pc := 71) dX11_sheet_71 cc_bipush_40 ?_
                    refine xx_icmp_geN (pc := 73) 92 dX11_sheet_73 rfl (by omega) (by omega) (fun c44 => ?_) (fun c44 => ?_)
                    · refine xx_iconst (pc := 92) dX11_sheet_92 cc_iconst_1 ?_
                      exact xx_iret (pc := 93) dX11_sheet_93 rfl (rfl) (Nat.le_refl _) (Nat.le_refl _) (ic_ri ⟨by rw [if_pos (show i ≤ 3 ∧ (sort = 4294967295 ∨ (sort ≤ 4 ∧ (m ≤ 40 ∨ 2 ^ 31 ≤ m))) by omega), if_neg (show ¬ (sort ≠ 4294967295 ∧ 2 ^ 31 ≤ m) by omega)], u, rfl, fun a ha => by rw [hf a (by omega)]; exact x0_ a (by omega) (by omega), by rw [if_pos hP2_, if_pos hP2_, if_pos hP2_]; exact (hS.of (fun _ _ _ => rfl)).sheet (by omega) (by omega) hsz_ (by rw [hf 16 (by omega)]; exact xs_) (by rw [hf 17 (by omega)]; exact xu_) (fun a h1 h2 h3 => by rw [hf a (by omega)]; exact x0_ a (by omega) (by omega)) (fun j hj => hz j (by omega))⟩)
                    · refine xx_aload_nP (pc := 76) dX11_sheet_76 1 rfl rfl ?_
                      refine xx_getR (pc := 77) 18 dX11_sheet_77 sh_0 fX11_39_11 rfl rfl (by decide) ?_
                      refine xx_iload_n (pc := 80) dX11_sheet_80 2 rfl rfl ?_
                      refine xx_aald (pc := 81) i (19 + i) dX11_sheet_81 sh_18 (by decide) rfl (by omega) (by decide) (it_at (by omega)) ?_
                      refine xx_iload (pc := 82) dX11_sheet_82 0 rfl ?_
                      refine xx_iconst (pc := 84) dX11_sheet_84 cc_iconst_0 ?_
                      refine xx_iastN (pc := 85) dX11_sheet_85 (it_sh (by omega)) (by omega) (by decide) ?_
                      refine xx_nw (fun w45 ew45 => ?_)
                      refine xx_iincN (L' := [(4, .int (nI (k + 1))), (0, ic_pt E 0), (1, .int (nI i)), (2, .int (nI sort)), (3, .int (nI m))]) (pc := 86) dX11_sheet_86 0 rfl cc_iconst_1 (Nat.le_of_ble_eq_true rfl) rfl ?_
                      refine xx_goto (pc := 89) 69 dX11_sheet_89 rfl ?_
                      exact xx_sub [0, 1, 2, 3, 4] rfl (ih_ (k + 1) w45 (by omega) (fun a h => by rw [ew45, wu_row _ _ _ h]; exact hf a h) (fun j hj => by rw [ew45]; by_cases y : j = k; rw [y, wu_s]; rw [wu_k _ _ _ _ y]; exact hz j (by omega)) (by omega))
                exact xx_sub [0, 1, 2, 3, 4] rfl (lp 41 0 w23 (by omega) (fun _ _ => rfl) (fun _ h => absurd h (by omega)) (by omega))
              · refine xx_iconst (pc := 60) dX11_sheet_60 cc_iconst_0 ?_
                refine xx_goto (pc := 61) 65 dX11_sheet_61 rfl ?_
                refine xx_iastN (pc := 65) dX11_sheet_65 sh_17 (by omega) (by decide) ?_
                refine xx_nw (fun w24 ew24 => ?_)
                refine xx_iconst (pc := 66) dX11_sheet_66 cc_iconst_0 ?_
                refine xx_istore (L' := [(4, .int (nI 0)), (0, ic_pt E 0), (1, .int (nI i)), (2, .int (nI sort)), (3, .int (nI m))]) (pc := 67) dX11_sheet_67 (Nat.le_of_ble_eq_true rfl) rfl ?_
                have hP2_ : i ≤ 3 ∧ (sort = 4294967295 ∨ (sort ≤ 4 ∧ m ≤ 40)) := by omega
                have x0_ : ∀ a, a ≠ 16 → a ≠ 17 → w24 a = w a := fun a h1 h2 => by rw [ew24, wu_row _ _ _ h2, ew21, wu_row _ _ _ h1]
                have xs_ : w24 16 = fu (w 16) i sort := by rw [ew24, wu_row _ _ _ (by omega), ew21, wu_wr, wr_s]
                have xu_ : w24 17 = fu (w 17) i (if sort = 4294967295 then 0 else m) := by first | (exfalso; omega) | (rw [ew24, wu_wr, wr_s, ew21, wu_row _ _ _ (by omega)]; first | rw [if_pos (by omega)] | rw [if_neg (by omega)])
                have hsz_ : (if sort = 4294967295 then 0 else m) ≤ 40 := by split <;> omega
                have lp : ∀ (n_ : Nat) (k : Nat) (u : ic_w), k ≤ 40 → (∀ a, a ≠ 19 + i → u a = w24 a) → (∀ j, j < k → u (19 + i) j = 0) → 40 - k < n_ → xx l E (ic_fr E mX11_sheet 3 0 0 False SHs (ic_qi (fun v_ h_ => v_ = nI (if i ≤ 3 ∧ (sort = 4294967295 ∨ (sort ≤ 4 ∧ (m ≤ 40 ∨ 2 ^ 31 ≤ m))) then (if sort ≠ 4294967295 ∧ 2 ^ 31 ≤ m then 4294967282 else 1) else 4294967295) ∧ ∃ w2, h_ = hn w2 ∧ (∀ a, a < 16 ∨ 22 < a ∨ a = 18 → w2 a = w a) ∧ Ct w2 (if i ≤ 3 ∧ (sort = 4294967295 ∨ (sort ≤ 4 ∧ m ≤ 40)) then fu T i sort else T) (if i ≤ 3 ∧ (sort = 4294967295 ∨ (sort ≤ 4 ∧ m ≤ 40)) then fu U i (if sort = 4294967295 then 0 else m) else U) (if i ≤ 3 ∧ (sort = 4294967295 ∨ (sort ≤ 4 ∧ m ≤ 40)) then mo_z40 V i 40 else V)))) (0, 0) 69 [(4, .int (nI k)), (0, ic_pt E 0), (1, .int (nI i)), (2, .int (nI sort)), (3, .int (nI m))] [] SHs (hn u) := by
                  intro n_
                  induction n_ with
                  | zero => intro k u hk hf hz hm_; exact absurd hm_ (Nat.not_lt_zero _)
                  | succ n_ ih_ =>
                    intro k u hk hf hz hm_
                    refine xx_iload (pc := 69) dX11_sheet_69 0 rfl ?_
                    refine xx_bipush (pc := 71) dX11_sheet_71 cc_bipush_40 ?_
                    refine xx_icmp_geN (pc := 73) 92 dX11_sheet_73 rfl (by omega) (by omega) (fun c45 => ?_) (fun c45 => ?_)
                    · refine xx_iconst (pc := 92) dX11_sheet_92 cc_iconst_1 ?_
                      exact xx_iret (pc := 93) dX11_sheet_93 rfl (rfl) (Nat.le_refl _) (Nat.le_refl _) (ic_ri ⟨by rw [if_pos (show i ≤ 3 ∧ (sort = 4294967295 ∨ (sort ≤ 4 ∧ (m ≤ 40 ∨ 2 ^ 31 ≤ m))) by omega), if_neg (show ¬ (sort ≠ 4294967295 ∧ 2 ^ 31 ≤ m) by omega)], u, rfl, fun a ha => by rw [hf a (by omega)]; exact x0_ a (by omega) (by omega), by rw [if_pos hP2_, if_pos hP2_, if_pos hP2_]; exact (hS.of (fun _ _ _ => rfl)).sheet (by omega) (by omega) hsz_ (by rw [hf 16 (by omega)]; exact xs_) (by rw [hf 17 (by omega)]; exact xu_) (fun a h1 h2 h3 => by rw [hf a (by omega)]; exact x0_ a (by omega) (by omega)) (fun j hj => hz j (by omega))⟩)
                    · refine xx_aload_nP (pc := 76) dX11_sheet_76 1 rfl rfl ?_
                      refine xx_getR (pc := 77) 18 dX11_sheet_77 sh_0 fX11_39_11 rfl rfl (by decide) ?_
                      refine xx_iload_n (pc := 80) dX11_sheet_80 2 rfl rfl ?_
                      refine xx_aald (pc := 81) i (19 + i) dX11_sheet_81 sh_18 (by decide) rfl (by omega) (by decide) (it_at (by omega)) ?_
                      refine xx_iload (pc := 82) dX11_sheet_82 0 rfl ?_
                      refine xx_iconst (pc := 84) dX11_sheet_84 cc_iconst_0 ?_
                      refine xx_iastN (pc := 85) dX11_sheet_85 (it_sh (by omega)) (by omega) (by decide) ?_
                      refine xx_nw (fun w46 ew46 => ?_)
                      refine xx_iincN (L' := [(4, .int (nI (k + 1))), (0, ic_pt E 0), (1, .int (nI i)), (2, .int (nI sort)), (3, .int (nI m))]) (pc := 86) dX11_sheet_86 0 rfl cc_iconst_1 (Nat.le_of_ble_eq_true rfl) rfl ?_
                      refine xx_goto (pc := 89) 69 dX11_sheet_89 rfl ?_
                      exact xx_sub [0, 1, 2, 3, 4] rfl (ih_ (k + 1) w46 (by omega) (fun a h => by rw [ew46, wu_row _ _ _ h]; exact hf a h) (fun j hj => by rw [ew46]; by_cases y : j = k; rw [y, wu_s]; rw [wu_k _ _ _ _ y]; exact hz j (by omega)) (by omega))
                exact xx_sub [0, 1, 2, 3, 4] rfl (lp 41 0 w24 (by omega) (fun _ _ => rfl) (fun _ h => absurd h (by omega)) (by omega))
            · refine xx_bipush (pc := 40) dX11_sheet_40 cc_bipush_m14 ?_
              exact xx_iret (pc := 42) dX11_sheet_42 rfl (rfl) (Nat.le_refl _) (Nat.le_refl _) (ic_ri ⟨by first | (exfalso; omega) | rw [if_neg (by omega)] | rw [if_pos (by omega), if_pos (by omega)], w, rfl, fun _ _ => rfl, by rw [if_neg (by omega), if_neg (by omega), if_neg (by omega)]; exact hS⟩)
        · refine xx_iconst (pc := 29) dX11_sheet_29 cc_iconst_m1 ?_
          exact xx_iret (pc := 30) dX11_sheet_30 rfl (rfl) (Nat.le_refl _) (Nat.le_refl _) (ic_ri ⟨by first | (exfalso; omega) | rw [if_neg (by omega)] | rw [if_pos (by omega), if_pos (by omega)], w, rfl, fun _ _ => rfl, by rw [if_neg (by omega), if_neg (by omega), if_neg (by omega)]; exact hS⟩)
    · refine xx_iconst (pc := 16) dX11_sheet_16 cc_iconst_m1 ?_
      exact xx_iret (pc := 17) dX11_sheet_17 rfl (rfl) (Nat.le_refl _) (Nat.le_refl _) (ic_ri ⟨by first | (exfalso; omega) | rw [if_neg (by omega)] | rw [if_pos (by omega), if_pos (by omega)], w, rfl, fun _ _ => rfl, by rw [if_neg (by omega), if_neg (by omega), if_neg (by omega)]; exact hS⟩)

set_option maxHeartbeats 4000000 in
set_option maxRecDepth 100000 in
theorem cC_narrowed {l : Launch} {E : ic_E} {w : ic_w} {v k : Nat} (hv : v < 2 ^ 32) (hk4 : k ≤ 4) : ic_C l E mX11_narrowed 1 0 0 False [.int (nI v), .int (nI k)] SHs (hn w) SHs (ic_qe (nI (mo_cv k v)) (hn w)) := by
  refine ic_intro (by decide +kernel) (Nat.le_of_ble_eq_true rfl) ?_
  show xx l E _ _ 0 [(0, .int (nI v)), (1, .int (nI k))] _ _ _
  rcases (show k = 0 ∨ k = 1 ∨ k = 2 ∨ k = 3 ∨ k = 4 by omega) with rfl | rfl | rfl | rfl | rfl
  · refine xx_iload_n (pc := 0) dX11_narrowed_0 1 rfl rfl ?_
    refine xx_tin (pc := 1) 36 dX11_narrowed_1 (by decide) (by decide) rfl rfl ?_
    refine xx_iload_n (pc := 36) dX11_narrowed_36 0 rfl rfl ?_
    refine xx_i2b (pc := 37) dX11_narrowed_37 ?_
    refine xx_eqI (y := nI (mo_by v)) (nI_tn _).symm ?_
    exact xx_iret (pc := 38) dX11_narrowed_38 rfl (rfl) (Nat.le_refl _) (Nat.le_refl _) (ic_re (by unfold mo_cv; first | rfl | (simp; omega)))
  · refine xx_iload_n (pc := 0) dX11_narrowed_0 1 rfl rfl ?_
    refine xx_tin (pc := 1) 39 dX11_narrowed_1 (by decide) (by decide) rfl rfl ?_
    refine xx_iload_n (pc := 39) dX11_narrowed_39 0 rfl rfl ?_
    refine xx_i2s (pc := 40) dX11_narrowed_40 ?_
    refine xx_eqI (y := nI (mo_sh v)) (nI_tn _).symm ?_
    exact xx_iret (pc := 41) dX11_narrowed_41 rfl (rfl) (Nat.le_refl _) (Nat.le_refl _) (ic_re (by unfold mo_cv; first | rfl | (simp; omega)))
  · refine xx_iload_n (pc := 0) dX11_narrowed_0 1 rfl rfl ?_
    refine xx_tin (pc := 1) 52 dX11_narrowed_1 (by decide) (by decide) rfl rfl ?_
    refine xx_iload_n (pc := 52) dX11_narrowed_52 0 rfl rfl ?_
    exact xx_iret (pc := 53) dX11_narrowed_53 rfl (rfl) (Nat.le_refl _) (Nat.le_refl _) (ic_re (by unfold mo_cv; first | rfl | (simp; omega)))
  · refine xx_iload_n (pc := 0) dX11_narrowed_0 1 rfl rfl ?_
    refine xx_tin (pc := 1) 52 dX11_narrowed_1 (by decide) (by decide) rfl rfl ?_
    refine xx_iload_n (pc := 52) dX11_narrowed_52 0 rfl rfl ?_
    exact xx_iret (pc := 53) dX11_narrowed_53 rfl (rfl) (Nat.le_refl _) (Nat.le_refl _) (ic_re (by unfold mo_cv; first | rfl | (simp; omega)))
  · refine xx_iload_n (pc := 0) dX11_narrowed_0 1 rfl rfl ?_
    refine xx_tin (pc := 1) 42 dX11_narrowed_1 (by decide) (by decide) rfl rfl ?_
    refine xx_iload_n (pc := 42) dX11_narrowed_42 0 rfl rfl ?_
    refine xx_if_eqN (pc := 43) 50 dX11_narrowed_43 rfl (by omega) (fun c1 => ?_) (fun c1 => ?_)
    · refine xx_iconst (pc := 50) dX11_narrowed_50 cc_iconst_0 ?_
      exact xx_iret (pc := 51) dX11_narrowed_51 rfl (rfl) (Nat.le_refl _) (Nat.le_refl _) (ic_re (by unfold mo_cv; first | rfl | (simp; omega)))
    · refine xx_iconst (pc := 46) dX11_narrowed_46 cc_iconst_1 ?_
      refine xx_goto (pc := 47) 51 dX11_narrowed_47 rfl ?_
      exact xx_iret (pc := 51) dX11_narrowed_51 rfl (rfl) (Nat.le_refl _) (Nat.le_refl _) (ic_re (by unfold mo_cv; first | rfl | (simp; omega)))

set_option maxHeartbeats 4000000 in
set_option maxRecDepth 100000 in
theorem cC_write {l : Launch} {E : ic_E} {w : ic_w} {i : Nat} (hi_ : i < 2 ^ 32) {j : Nat} (hj_ : j < 2 ^ 32) {v : Nat} (hv_ : v < 2 ^ 32) {T U V : Nat → Nat} (hS : Ct w T U V) : ic_C l E mX11_write 3 0 0 False [ic_pt E 0, .int (nI i), .int (nI j), .int (nI v)] SHs (hn w) SHs (ic_qi (fun v_ h_ => v_ = nI (if ¬ i ≤ 3 then 4294967295 else if T i = 4294967295 then 4294967285 else if j < U i then 1 else 4294967284) ∧ ∃ w2, h_ = hn w2 ∧ (∀ a, a < 16 ∨ 22 < a ∨ a = 18 → w2 a = w a) ∧ Ct w2 (T) (U) (if i ≤ 3 ∧ T i ≠ 4294967295 ∧ j < U i then fu V (40 * i + j) (mo_cv (T i) v) else V))) := by
  refine ic_intro (by decide +kernel) (Nat.le_of_ble_eq_true rfl) ?_
  show xx l E _ _ 0 [(0, ic_pt E 0), (1, .int (nI i)), (2, .int (nI j)), (3, .int (nI v))] _ _ _
  have hs4 : i ≤ 3 → w 16 i = T i ∧ w 17 i = U i ∧ (T i = 4294967295 ∨ T i ≤ 4) ∧ U i ≤ 40 := fun z => ⟨(hS i (by omega)).1, (hS i (by omega)).2.1, (hS i (by omega)).2.2.1, (hS i (by omega)).2.2.2.1⟩
  refine xx_iload_n (pc := 0) dX11_write_0 1 rfl rfl ?_
  refine xx_callS0 (pc := 1) (st := []) (cC_isSheet (w := w) (v := i) (by omega)) kX11_isSheet sX11_330 dX11_write_1 rfl rfl (Nat.le_of_ble_eq_true rfl) ⟨Nat.le_of_ble_eq_true rfl, Nat.le_of_ble_eq_true rfl⟩ ⟨Nat.zero_le _, Nat.zero_le _⟩ (ic_ke ?_)
  refine xx_if_neB (pc := 4) 9 dX11_write_4 rfl (fun c1 => ?_) (fun c1 => ?_)
  · have hs := hs4 (by omega)
    refine xx_aload_nP (pc := 9) dX11_write_9 0 rfl rfl ?_
    refine xx_getR (pc := 10) 16 dX11_write_10 sh_0 fX11_32_11 rfl rfl (by decide) ?_
    refine xx_iload_n (pc := 13) dX11_write_13 1 rfl rfl ?_
    refine xx_ialdN (pc := 14) dX11_write_14 sh_16 (by omega) (by decide) ?_
    refine xx_iconst (pc := 15) dX11_write_15 cc_iconst_m1 ?_
    refine xx_icmp_neN (pc := 16) 22 dX11_write_16 rfl (by omega) (by omega) (fun c2 => ?_) (fun c2 => ?_)
    · refine xx_iload_n (pc := 22) dX11_write_22 2 rfl rfl ?_
      refine xx_iconst (pc := 23) dX11_write_23 cc_iconst_0 ?_
      refine xx_aload_nP (pc := 24) dX11_write_24 0 rfl rfl ?_
      refine xx_getR (pc := 25) 17 dX11_write_25 sh_0 fX11_36_11 rfl rfl (by decide) ?_
      refine xx_iload_n (pc := 28) dX11_write_28 1 rfl rfl ?_
      refine xx_ialdN (pc := 29) dX11_write_29 sh_17 (by omega) (by decide) ?_
      refine xx_iconst (pc := 30) dX11_write_30 cc_iconst_1 ?_
      refine xx_isubW (pc := 31) dX11_write_31 (by omega) ?_
      refine xx_callS0 (pc := 32) (st := []) (cC_withinM (w := w) (v := j) (n := (w 17 i)) (by omega) (by omega)) kX11_within sX11_94 dX11_write_32 rfl rfl (Nat.le_of_ble_eq_true rfl) ⟨Nat.le_of_ble_eq_true rfl, Nat.le_of_ble_eq_true rfl⟩ ⟨Nat.zero_le _, Nat.zero_le _⟩ (ic_ke ?_)
      refine xx_if_neB (pc := 35) 41 dX11_write_35 rfl (fun c3 => ?_) (fun c3 => ?_)
      · refine xx_aload_nP (pc := 41) dX11_write_41 0 rfl rfl ?_
        refine xx_getR (pc := 42) 18 dX11_write_42 sh_0 fX11_39_11 rfl rfl (by decide) ?_
        refine xx_iload_n (pc := 45) dX11_write_45 1 rfl rfl ?_
        refine xx_aald (pc := 46) i (19 + i) dX11_write_46 sh_18 (by decide) rfl (by omega) (by decide) (it_at (by omega)) ?_
        refine xx_iload_n (pc := 47) dX11_write_47 2 rfl rfl ?_
        refine xx_iload_n (pc := 48) dX11_write_48 3 rfl rfl ?_
        refine xx_aload_nP (pc := 49) dX11_write_49 0 rfl rfl ?_
        refine xx_getR (pc := 50) 16 dX11_write_50 sh_0 fX11_32_11 rfl rfl (by decide) ?_
        refine xx_iload_n (pc := 53) dX11_write_53 1 rfl rfl ?_
        refine xx_ialdN (pc := 54) dX11_write_54 sh_16 (by omega) (by decide) ?_
        refine xx_eqI (y := nI (T i)) (by rw [hs.1]) ?_
        have hnv := mo_cv_lt (sort := T i) (v := v) (by omega)
        refine xx_callS0 (pc := 55) (st := [.int (nI j), ic_pt E (19 + i)]) (cC_narrowed (w := w) (v := v) (k := T i) (by omega) (by omega)) kX11_narrowed sX11_333 dX11_write_55 rfl rfl (Nat.le_of_ble_eq_true rfl) ⟨Nat.le_of_ble_eq_true rfl, Nat.le_of_ble_eq_true rfl⟩ ⟨Nat.zero_le _, Nat.zero_le _⟩ (ic_ke ?_)
        refine xx_iastN (pc := 58) dX11_write_58 (it_sh (by omega)) (by omega) (by decide) ?_
        refine xx_nw (fun w4 ew4 => ?_)
        refine xx_iconst (pc := 59) dX11_write_59 cc_iconst_1 ?_
        exact xx_iret (pc := 60) dX11_write_60 rfl (rfl) (Nat.le_refl _) (Nat.le_refl _) (ic_ri ⟨by rw [if_neg (by omega), if_neg (by omega), if_pos (by omega)], w4, rfl, fun a ha => by rw [ew4, wu_row _ _ _ (by omega)], by rw [if_pos (by omega), ew4]; exact hS.write (by omega) (by omega) hnv⟩)
      · refine xx_bipush (pc := 38) dX11_write_38 cc_bipush_m12 ?_
        exact xx_iret (pc := 40) dX11_write_40 rfl (rfl) (Nat.le_refl _) (Nat.le_refl _) (ic_ri ⟨by first | rw [if_pos (by omega)] | rw [if_neg (by omega), if_pos (by omega)] | rw [if_neg (by omega), if_neg (by omega), if_neg (by omega)], w, rfl, fun _ _ => rfl, by rw [if_neg (by omega)]; exact hS⟩)
    · refine xx_bipush (pc := 19) dX11_write_19 cc_bipush_m11 ?_
      exact xx_iret (pc := 21) dX11_write_21 rfl (rfl) (Nat.le_refl _) (Nat.le_refl _) (ic_ri ⟨by first | rw [if_pos (by omega)] | rw [if_neg (by omega), if_pos (by omega)] | rw [if_neg (by omega), if_neg (by omega), if_neg (by omega)], w, rfl, fun _ _ => rfl, by rw [if_neg (by omega)]; exact hS⟩)
  · refine xx_iconst (pc := 7) dX11_write_7 cc_iconst_m1 ?_
    exact xx_iret (pc := 8) dX11_write_8 rfl (rfl) (Nat.le_refl _) (Nat.le_refl _) (ic_ri ⟨by first | rw [if_pos (by omega)] | rw [if_neg (by omega), if_pos (by omega)] | rw [if_neg (by omega), if_neg (by omega), if_neg (by omega)], w, rfl, fun _ _ => rfl, by rw [if_neg (by omega)]; exact hS⟩)

set_option maxHeartbeats 4000000 in
set_option maxRecDepth 100000 in
theorem cC_item {l : Launch} {E : ic_E} {w : ic_w} {i : Nat} (hi_ : i < 2 ^ 32) {k : Nat} (hk_ : k < 2 ^ 32) {j : Nat} (hj_ : j < 2 ^ 32) {T U V : Nat → Nat} (hS : Ct w T U V) : ic_C l E mX11_item 3 0 0 False [ic_pt E 0, .int (nI i), .int (nI k), .int (nI j)] SHs (hn w) SHs (ic_qe (nI (if i ≤ 3 ∧ k ≤ 4 then (if mo_lt T i k = 0 then (if j < U i then V (40 * i + j) else 4294967284) else mo_lt T i k) else 4294967295)) (hn w)) := by
  refine ic_intro (by decide +kernel) (Nat.le_of_ble_eq_true rfl) ?_
  show xx l E _ _ 0 [(0, ic_pt E 0), (1, .int (nI i)), (2, .int (nI k)), (3, .int (nI j))] _ _ _
  have hs4 : i ≤ 3 → w 16 i = T i ∧ w 17 i = U i ∧ (T i = 4294967295 ∨ T i ≤ 4) ∧ U i ≤ 40 := fun z => ⟨(hS i (by omega)).1, (hS i (by omega)).2.1, (hS i (by omega)).2.2.1, (hS i (by omega)).2.2.2.1⟩
  refine xx_iload_n (pc := 0) dX11_item_0 1 rfl rfl ?_
  refine xx_callS0 (pc := 1) (st := []) (cC_isSheet (w := w) (v := i) (by omega)) kX11_isSheet sX11_330 dX11_item_1 rfl rfl (Nat.le_of_ble_eq_true rfl) ⟨Nat.le_of_ble_eq_true rfl, Nat.le_of_ble_eq_true rfl⟩ ⟨Nat.zero_le _, Nat.zero_le _⟩ (ic_ke ?_)
  refine xx_if_eqB (pc := 4) 16 dX11_item_4 rfl (fun c1 => ?_) (fun c1 => ?_)
  · refine xx_iconst (pc := 16) dX11_item_16 cc_iconst_m1 ?_
    exact xx_iret (pc := 17) dX11_item_17 rfl (rfl) (Nat.le_refl _) (Nat.le_refl _) (ic_re (by first | exact (if_neg (by omega)).symm | (rw [if_pos (show i ≤ 3 ∧ k ≤ 4 by omega)]; unfold mo_lt; first | (rw [if_pos (show T i = 4294967295 by omega)]; rfl) | (rw [if_neg (show ¬ T i = 4294967295 by omega), if_neg (show ¬ T i = k by omega)]; rfl) | (rw [if_neg (show ¬ T i = 4294967295 by omega), if_pos (show T i = k by omega), if_pos rfl]; first | exact (if_neg (by omega)).symm | (rw [if_pos (show j < U i by omega)]; exact ((hS i (by omega)).2.2.2.2 j (by omega)).1)))))
  · refine xx_iload_n (pc := 7) dX11_item_7 2 rfl rfl ?_
    refine xx_iconst (pc := 8) dX11_item_8 cc_iconst_0 ?_
    refine xx_iconst (pc := 9) dX11_item_9 cc_iconst_4 ?_
    refine xx_callS0 (pc := 10) (st := []) (cC_within (w := w) (v := k) (lo := 0) (hi := 4) (by omega) (by omega) (by omega)) kX11_within sX11_94 dX11_item_10 rfl rfl (Nat.le_of_ble_eq_true rfl) ⟨Nat.le_of_ble_eq_true rfl, Nat.le_of_ble_eq_true rfl⟩ ⟨Nat.zero_le _, Nat.zero_le _⟩ (ic_ke ?_)
    refine xx_if_neB (pc := 13) 18 dX11_item_13 rfl (fun c2 => ?_) (fun c2 => ?_)
    · have hs := hs4 (by omega)
      refine xx_aload_nP (pc := 18) dX11_item_18 0 rfl rfl ?_
      refine xx_getR (pc := 19) 16 dX11_item_19 sh_0 fX11_32_11 rfl rfl (by decide) ?_
      refine xx_iload_n (pc := 22) dX11_item_22 1 rfl rfl ?_
      refine xx_ialdN (pc := 23) dX11_item_23 sh_16 (by omega) (by decide) ?_
      refine xx_iconst (pc := 24) dX11_item_24 cc_iconst_m1 ?_
      refine xx_icmp_neN (pc := 25) 31 dX11_item_25 rfl (by omega) (by omega) (fun c3 => ?_) (fun c3 => ?_)
      · refine xx_aload_nP (pc := 31) dX11_item_31 0 rfl rfl ?_
        refine xx_getR (pc := 32) 16 dX11_item_32 sh_0 fX11_32_11 rfl rfl (by decide) ?_
        refine xx_iload_n (pc := 35) dX11_item_35 1 rfl rfl ?_
        refine xx_ialdN (pc := 36) dX11_item_36 sh_16 (by omega) (by decide) ?_
        refine xx_iload_n (pc := 37) dX11_item_37 2 rfl rfl ?_
        refine xx_icmp_eqN (pc := 38) 44 dX11_item_38 rfl (by omega) (by omega) (fun c4 => ?_) (fun c4 => ?_)
        · refine xx_iload_n (pc := 44) dX11_item_44 3 rfl rfl ?_
          refine xx_iconst (pc := 45) dX11_item_45 cc_iconst_0 ?_
          refine xx_aload_nP (pc := 46) dX11_item_46 0 rfl rfl ?_
          refine xx_getR (pc := 47) 17 dX11_item_47 sh_0 fX11_36_11 rfl rfl (by decide) ?_
          refine xx_iload_n (pc := 50) dX11_item_50 1 rfl rfl ?_
          refine xx_ialdN (pc := 51) dX11_item_51 sh_17 (by omega) (by decide) ?_
          refine xx_iconst (pc := 52) dX11_item_52 cc_iconst_1 ?_
          refine xx_isubW (pc := 53) dX11_item_53 (by omega) ?_
          refine xx_callS0 (pc := 54) (st := []) (cC_withinM (w := w) (v := j) (n := (w 17 i)) (by omega) (by omega)) kX11_within sX11_94 dX11_item_54 rfl rfl (Nat.le_of_ble_eq_true rfl) ⟨Nat.le_of_ble_eq_true rfl, Nat.le_of_ble_eq_true rfl⟩ ⟨Nat.zero_le _, Nat.zero_le _⟩ (ic_ke ?_)
          refine xx_if_neB (pc := 57) 63 dX11_item_57 rfl (fun c5 => ?_) (fun c5 => ?_)
          · refine xx_aload_nP (pc := 63) dX11_item_63 0 rfl rfl ?_
            refine xx_getR (pc := 64) 18 dX11_item_64 sh_0 fX11_39_11 rfl rfl (by decide) ?_
            refine xx_iload_n (pc := 67) dX11_item_67 1 rfl rfl ?_
            refine xx_aald (pc := 68) i (19 + i) dX11_item_68 sh_18 (by decide) rfl (by omega) (by decide) (it_at (by omega)) ?_
            refine xx_iload_n (pc := 69) dX11_item_69 3 rfl rfl ?_
            refine xx_ialdN (pc := 70) dX11_item_70 (it_sh (by omega)) (by omega) (by decide) ?_
            exact xx_iret (pc := 71) dX11_item_71 rfl (rfl) (Nat.le_refl _) (Nat.le_refl _) (ic_re (by first | exact (if_neg (by omega)).symm | (rw [if_pos (show i ≤ 3 ∧ k ≤ 4 by omega)]; unfold mo_lt; first | (rw [if_pos (show T i = 4294967295 by omega)]; rfl) | (rw [if_neg (show ¬ T i = 4294967295 by omega), if_neg (show ¬ T i = k by omega)]; rfl) | (rw [if_neg (show ¬ T i = 4294967295 by omega), if_pos (show T i = k by omega), if_pos rfl]; first | exact (if_neg (by omega)).symm | (rw [if_pos (show j < U i by omega)]; exact ((hS i (by omega)).2.2.2.2 j (by omega)).1)))))
          · refine xx_bipush (pc := 60) dX11_item_60 cc_bipush_m12 ?_
            exact xx_iret (pc := 62) dX11_item_62 rfl (rfl) (Nat.le_refl _) (Nat.le_refl _) (ic_re (by first | exact (if_neg (by omega)).symm | (rw [if_pos (show i ≤ 3 ∧ k ≤ 4 by omega)]; unfold mo_lt; first | (rw [if_pos (show T i = 4294967295 by omega)]; rfl) | (rw [if_neg (show ¬ T i = 4294967295 by omega), if_neg (show ¬ T i = k by omega)]; rfl) | (rw [if_neg (show ¬ T i = 4294967295 by omega), if_pos (show T i = k by omega), if_pos rfl]; first | exact (if_neg (by omega)).symm | (rw [if_pos (show j < U i by omega)]; exact ((hS i (by omega)).2.2.2.2 j (by omega)).1)))))
        · refine xx_bipush (pc := 41) dX11_item_41 cc_bipush_m13 ?_
          exact xx_iret (pc := 43) dX11_item_43 rfl (rfl) (Nat.le_refl _) (Nat.le_refl _) (ic_re (by first | exact (if_neg (by omega)).symm | (rw [if_pos (show i ≤ 3 ∧ k ≤ 4 by omega)]; unfold mo_lt; first | (rw [if_pos (show T i = 4294967295 by omega)]; rfl) | (rw [if_neg (show ¬ T i = 4294967295 by omega), if_neg (show ¬ T i = k by omega)]; rfl) | (rw [if_neg (show ¬ T i = 4294967295 by omega), if_pos (show T i = k by omega), if_pos rfl]; first | exact (if_neg (by omega)).symm | (rw [if_pos (show j < U i by omega)]; exact ((hS i (by omega)).2.2.2.2 j (by omega)).1)))))
      · refine xx_bipush (pc := 28) dX11_item_28 cc_bipush_m11 ?_
        exact xx_iret (pc := 30) dX11_item_30 rfl (rfl) (Nat.le_refl _) (Nat.le_refl _) (ic_re (by first | exact (if_neg (by omega)).symm | (rw [if_pos (show i ≤ 3 ∧ k ≤ 4 by omega)]; unfold mo_lt; first | (rw [if_pos (show T i = 4294967295 by omega)]; rfl) | (rw [if_neg (show ¬ T i = 4294967295 by omega), if_neg (show ¬ T i = k by omega)]; rfl) | (rw [if_neg (show ¬ T i = 4294967295 by omega), if_pos (show T i = k by omega), if_pos rfl]; first | exact (if_neg (by omega)).symm | (rw [if_pos (show j < U i by omega)]; exact ((hS i (by omega)).2.2.2.2 j (by omega)).1)))))
    · refine xx_iconst (pc := 16) dX11_item_16 cc_iconst_m1 ?_
      exact xx_iret (pc := 17) dX11_item_17 rfl (rfl) (Nat.le_refl _) (Nat.le_refl _) (ic_re (by first | exact (if_neg (by omega)).symm | (rw [if_pos (show i ≤ 3 ∧ k ≤ 4 by omega)]; unfold mo_lt; first | (rw [if_pos (show T i = 4294967295 by omega)]; rfl) | (rw [if_neg (show ¬ T i = 4294967295 by omega), if_neg (show ¬ T i = k by omega)]; rfl) | (rw [if_neg (show ¬ T i = 4294967295 by omega), if_pos (show T i = k by omega), if_pos rfl]; first | exact (if_neg (by omega)).symm | (rw [if_pos (show j < U i by omega)]; exact ((hS i (by omega)).2.2.2.2 j (by omega)).1)))))

set_option maxHeartbeats 4000000 in
set_option maxRecDepth 100000 in
theorem cC_refusedActs {l : Launch} {E : ic_E} {w : ic_w} {i : Nat} (hi_ : i < 2 ^ 32) {m : Nat} (hm_ : m < 2 ^ 32) {T U V : Nat → Nat} (hS : Ct w T U V) : ic_C l E mX11_refusedActs 3 0 0 False [ic_pt E 0, .int (nI i), .int (nI m)] SHs (hn w) SHs (ic_qe (nI (if i ≤ 3 ∧ m ≤ 20 then mo_lt T i 0 else 4294967295)) (hn w)) := by
  refine ic_intro (by decide +kernel) (Nat.le_of_ble_eq_true rfl) ?_
  show xx l E _ _ 0 [(0, ic_pt E 0), (1, .int (nI i)), (2, .int (nI m))] _ _ _
  have hs4 : i ≤ 3 → w 16 i = T i ∧ w 17 i = U i ∧ (T i = 4294967295 ∨ T i ≤ 4) ∧ U i ≤ 40 := fun z => ⟨(hS i (by omega)).1, (hS i (by omega)).2.1, (hS i (by omega)).2.2.1, (hS i (by omega)).2.2.2.1⟩
  refine xx_iload_n (pc := 0) dX11_refusedActs_0 1 rfl rfl ?_
  refine xx_callS0 (pc := 1) (st := []) (cC_isSheet (w := w) (v := i) (by omega)) kX11_isSheet sX11_330 dX11_refusedActs_1 rfl rfl (Nat.le_of_ble_eq_true rfl) ⟨Nat.le_of_ble_eq_true rfl, Nat.le_of_ble_eq_true rfl⟩ ⟨Nat.zero_le _, Nat.zero_le _⟩ (ic_ke ?_)
  refine xx_if_eqB (pc := 4) 17 dX11_refusedActs_4 rfl (fun c1 => ?_) (fun c1 => ?_)
  · refine xx_iconst (pc := 17) dX11_refusedActs_17 cc_iconst_m1 ?_
    exact xx_iret (pc := 18) dX11_refusedActs_18 rfl (rfl) (Nat.le_refl _) (Nat.le_refl _) (ic_re (by first | exact (if_neg (by omega)).symm | (rw [if_pos (by omega)]; unfold mo_lt; first | rw [if_pos (by omega)] | rw [if_neg (by omega), if_pos (by omega)] | rw [if_neg (by omega), if_neg (by omega)])))
  · refine xx_iload_n (pc := 7) dX11_refusedActs_7 2 rfl rfl ?_
    refine xx_iconst (pc := 8) dX11_refusedActs_8 cc_iconst_0 ?_
    refine xx_bipush (pc := 9) dX11_refusedActs_9 cc_bipush_20 ?_
    refine xx_callS0 (pc := 11) (st := []) (cC_within (w := w) (v := m) (lo := 0) (hi := 20) (by omega) (by omega) (by omega)) kX11_within sX11_94 dX11_refusedActs_11 rfl rfl (Nat.le_of_ble_eq_true rfl) ⟨Nat.le_of_ble_eq_true rfl, Nat.le_of_ble_eq_true rfl⟩ ⟨Nat.zero_le _, Nat.zero_le _⟩ (ic_ke ?_)
    refine xx_if_neB (pc := 14) 19 dX11_refusedActs_14 rfl (fun c2 => ?_) (fun c2 => ?_)
    · have hs := hs4 (by omega)
      refine xx_aload_nP (pc := 19) dX11_refusedActs_19 0 rfl rfl ?_
      refine xx_getR (pc := 20) 16 dX11_refusedActs_20 sh_0 fX11_32_11 rfl rfl (by decide) ?_
      refine xx_iload_n (pc := 23) dX11_refusedActs_23 1 rfl rfl ?_
      refine xx_ialdN (pc := 24) dX11_refusedActs_24 sh_16 (by omega) (by decide) ?_
      refine xx_iconst (pc := 25) dX11_refusedActs_25 cc_iconst_m1 ?_
      refine xx_icmp_neN (pc := 26) 32 dX11_refusedActs_26 rfl (by omega) (by omega) (fun c3 => ?_) (fun c3 => ?_)
      · refine xx_aload_nP (pc := 32) dX11_refusedActs_32 0 rfl rfl ?_
        refine xx_getR (pc := 33) 16 dX11_refusedActs_33 sh_0 fX11_32_11 rfl rfl (by decide) ?_
        refine xx_iload_n (pc := 36) dX11_refusedActs_36 1 rfl rfl ?_
        refine xx_ialdN (pc := 37) dX11_refusedActs_37 sh_16 (by omega) (by decide) ?_
        refine xx_if_neN (pc := 38) 45 dX11_refusedActs_38 rfl (by omega) (fun c4 => ?_) (fun c4 => ?_)
        · refine xx_bipush (pc := 45) dX11_refusedActs_45 cc_bipush_m13 ?_
          exact xx_iret (pc := 47) dX11_refusedActs_47 rfl (rfl) (Nat.le_refl _) (Nat.le_refl _) (ic_re (by first | exact (if_neg (by omega)).symm | (rw [if_pos (by omega)]; unfold mo_lt; first | rw [if_pos (by omega)] | rw [if_neg (by omega), if_pos (by omega)] | rw [if_neg (by omega), if_neg (by omega)])))
        · refine xx_iconst (pc := 41) dX11_refusedActs_41 cc_iconst_0 ?_
          refine xx_goto (pc := 42) 47 dX11_refusedActs_42 rfl ?_
          exact xx_iret (pc := 47) dX11_refusedActs_47 rfl (rfl) (Nat.le_refl _) (Nat.le_refl _) (ic_re (by first | exact (if_neg (by omega)).symm | (rw [if_pos (by omega)]; unfold mo_lt; first | rw [if_pos (by omega)] | rw [if_neg (by omega), if_pos (by omega)] | rw [if_neg (by omega), if_neg (by omega)])))
      · refine xx_bipush (pc := 29) dX11_refusedActs_29 cc_bipush_m11 ?_
        exact xx_iret (pc := 31) dX11_refusedActs_31 rfl (rfl) (Nat.le_refl _) (Nat.le_refl _) (ic_re (by first | exact (if_neg (by omega)).symm | (rw [if_pos (by omega)]; unfold mo_lt; first | rw [if_pos (by omega)] | rw [if_neg (by omega), if_pos (by omega)] | rw [if_neg (by omega), if_neg (by omega)])))
    · refine xx_iconst (pc := 17) dX11_refusedActs_17 cc_iconst_m1 ?_
      exact xx_iret (pc := 18) dX11_refusedActs_18 rfl (rfl) (Nat.le_refl _) (Nat.le_refl _) (ic_re (by first | exact (if_neg (by omega)).symm | (rw [if_pos (by omega)]; unfold mo_lt; first | rw [if_pos (by omega)] | rw [if_neg (by omega), if_pos (by omega)] | rw [if_neg (by omega), if_neg (by omega)])))

set_option maxHeartbeats 4000000 in
set_option maxRecDepth 100000 in
theorem cC_goAll {l : Launch} {E : ic_E} {w : ic_w} {i : Nat} (hi_ : i < 2 ^ 32) {a : Nat} (ha_ : a < 2 ^ 32) {m : Nat} (hm_ : m < 2 ^ 32) {s : Nat → Nat} (hC : Cw w s) (hIn : In s) (hRu : Ru s) {T U V : Nat → Nat} (hS : Ct w T U V) : ic_C l E mX11_goAll 9 0 0 False [ic_pt E 0, .int (nI i), .int (nI a), .int (nI m)] SHs (hn w) SHs (ic_qi (fun v_ h_ => v_ = nI (if i ≤ 3 ∧ m ≤ 20 then (if mo_lt T i 0 = 0 then (mo_gx V i a (U i) m 0 s 0).1 else mo_lt T i 0) else 4294967295) ∧ ∃ w2, h_ = hn w2 ∧ Fn w w2 ∧ Cw w2 (if i ≤ 3 ∧ m ≤ 20 ∧ mo_lt T i 0 = 0 then (mo_gx V i a (U i) m 0 s 0).2 else s))) := by
  refine ic_intro (by decide +kernel) (Nat.le_of_ble_eq_true rfl) ?_
  show xx l E _ _ 0 [(0, ic_pt E 0), (1, .int (nI i)), (2, .int (nI a)), (3, .int (nI m))] _ _ _
  have hN := hC.1
  have hm := hC.2.1
  have n5_w := hC.2.2.1
  have n6_w := hC.2.2.2
  have hn0 := hIn.n
  have htt := hIn.t
  have hcr := hIn.cr (s 1)
  have n1_w : w 39 10 = s 0 := hN.n
  have n2_w : w 39 11 = s 2 := hN.e
  have n3_w : w 46 0 = s 1 := hm.t
  have n4_w : w 46 1 = mo_outs s := hm.o
  have hs4 : i ≤ 3 → w 16 i = T i ∧ w 17 i = U i ∧ (T i = 4294967295 ∨ T i ≤ 4) ∧ U i ≤ 40 := fun z => ⟨(hS i (by omega)).1, (hS i (by omega)).2.1, (hS i (by omega)).2.2.1, (hS i (by omega)).2.2.2.1⟩
  refine xx_aload_nP (pc := 0) dX11_goAll_0 0 rfl rfl ?_
  refine xx_iload_n (pc := 1) dX11_goAll_1 1 rfl rfl ?_
  refine xx_iload_n (pc := 2) dX11_goAll_2 3 rfl rfl ?_
  have hlb : (i ≤ 3 ∧ m ≤ 20 ∧ T i = 0 ∧ (if i ≤ 3 ∧ m ≤ 20 then mo_lt T i 0 else 4294967295) = 0) ∨ (i ≤ 3 ∧ m ≤ 20 ∧ ¬ T i = 0 ∧ (if i ≤ 3 ∧ m ≤ 20 then mo_lt T i 0 else 4294967295) = mo_lt T i 0 ∧ ¬ mo_lt T i 0 = 0 ∧ mo_lt T i 0 < 2 ^ 32) ∨ (¬ (i ≤ 3 ∧ m ≤ 20) ∧ (if i ≤ 3 ∧ m ≤ 20 then mo_lt T i 0 else 4294967295) = 4294967295) := by
    by_cases z : i ≤ 3 ∧ m ≤ 20
    · rw [if_pos z]
      unfold mo_lt
      by_cases y : T i = 0
      · rw [if_neg (by omega), if_pos y]
        exact Or.inl ⟨z.1, z.2, y, rfl⟩
      · right; left
        refine ⟨z.1, z.2, y, rfl, ?_⟩
        rw [if_neg y]
        split <;> omega
    · rw [if_neg z]
      exact Or.inr (Or.inr ⟨z, rfl⟩)
  refine xx_callV0 (pc := 3) (st := []) sh_0 (cC_refusedActs (w := w) (i := i) (m := m) (by omega) (by omega) hS) kX11_refusedActs vX11_336_11 dX11_goAll_3 rfl rfl (Nat.le_of_ble_eq_true rfl) ⟨Nat.le_of_ble_eq_true rfl, Nat.le_of_ble_eq_true rfl⟩ ⟨Nat.zero_le _, Nat.zero_le _⟩ (ic_ke ?_)
  refine xx_istore (L' := [(4, .int (nI ((if i ≤ 3 ∧ m ≤ 20 then mo_lt T i 0 else 4294967295)))), (0, ic_pt E 0), (1, .int (nI i)), (2, .int (nI a)), (3, .int (nI m))]) (pc := 6) dX11_goAll_6 (Nat.le_of_ble_eq_true rfl) rfl ?_
  refine xx_iload (pc := 8) dX11_goAll_8 0 rfl ?_
  refine xx_if_eqN (pc := 10) 16 dX11_goAll_10 rfl (by omega) (fun c1 => ?_) (fun c1 => ?_)
  · have hs := hs4 (by omega)
    refine xx_iconst (pc := 16) dX11_goAll_16 cc_iconst_0 ?_
    refine xx_istore (L' := [(5, .int (nI 0)), (4, .int (nI ((if i ≤ 3 ∧ m ≤ 20 then mo_lt T i 0 else 4294967295)))), (0, ic_pt E 0), (1, .int (nI i)), (2, .int (nI a)), (3, .int (nI m))]) (pc := 17) dX11_goAll_17 (Nat.le_of_ble_eq_true rfl) rfl ?_
    refine xx_iload_n (pc := 19) dX11_goAll_19 4 rfl rfl ?_
    refine xx_istore (L' := [(6, .int (nI a)), (5, .int (nI 0)), (4, .int (nI ((if i ≤ 3 ∧ m ≤ 20 then mo_lt T i 0 else 4294967295)))), (0, ic_pt E 0), (1, .int (nI i)), (2, .int (nI a)), (3, .int (nI m))]) (pc := 20) dX11_goAll_20 (Nat.le_of_ble_eq_true rfl) rfl ?_
    refine xx_iconst (pc := 22) dX11_goAll_22 cc_iconst_0 ?_
    refine xx_istore (L' := [(7, .int (nI 0)), (6, .int (nI a)), (5, .int (nI 0)), (4, .int (nI ((if i ≤ 3 ∧ m ≤ 20 then mo_lt T i 0 else 4294967295)))), (0, ic_pt E 0), (1, .int (nI i)), (2, .int (nI a)), (3, .int (nI m))]) (pc := 23) dX11_goAll_23 (Nat.le_of_ble_eq_true rfl) rfl ?_
    have hlt0 : mo_lt T i 0 = 0 := by unfold mo_lt; rw [if_neg (by omega), if_pos (by omega)]
    have lp : ∀ (n_ : Nat) (k g : Nat) (t : Nat → Nat) (u : ic_w), k ≤ m → mo_gx V i a (U i) m 0 s 0 = mo_gx V i a (U i) (m - k) k t g → Cn u t → Cs u 46 t → Cw u t → In t → Ru t → Fn w u → (∀ b, 16 ≤ b → b ≤ 22 → u b = w b) → m - k < n_ → xx l E (ic_fr E mX11_goAll 9 0 0 False SHs (ic_qi (fun v_ h_ => v_ = nI (if i ≤ 3 ∧ m ≤ 20 then (if mo_lt T i 0 = 0 then (mo_gx V i a (U i) m 0 s 0).1 else mo_lt T i 0) else 4294967295) ∧ ∃ w2, h_ = hn w2 ∧ Fn w w2 ∧ Cw w2 (if i ≤ 3 ∧ m ≤ 20 ∧ mo_lt T i 0 = 0 then (mo_gx V i a (U i) m 0 s 0).2 else s)))) (0, 0) 25 [(7, .int (nI k)), (6, .int (nI (a + k))), (5, .int (nI g)), (0, ic_pt E 0), (1, .int (nI i)), (2, .int (nI a)), (3, .int (nI m))] [] SHs (hn u) := by
      intro n_
      induction n_ with
      | zero => intro k g t u hk hq hN_u hm_u hC_u hIn_u hRu_u hf hft hm_; exact absurd hm_ (Nat.not_lt_zero _)
      | succ n_ ih_ =>
        intro k g t u hk hq hN_u hm_u hC_u hIn_u hRu_u hf hft hm_
        have n1_u : u 39 10 = t 0 := hN_u.n
        have n2_u : u 39 11 = t 2 := hN_u.e
        have tn0_u := hIn_u.n
        have ttt_u := hIn_u.t
        have tU : u 17 i = U i := by rw [hft 17 (by omega) (by omega)]; exact hs.2.1
        have n3_u : u 46 0 = t 1 := hm_u.t
        refine xx_iload (pc := 25) dX11_goAll_25 0 rfl ?_
        refine xx_iload_n (pc := 27) dX11_goAll_27 6 rfl rfl ?_
        refine xx_icmp_geN (pc := 28) 111 dX11_goAll_28 rfl (by omega) (by omega) (fun c22 => ?_) (fun c22 => ?_)
        · refine xx_iload (pc := 111) dX11_goAll_111 2 rfl ?_
          exact xx_iret (pc := 113) dX11_goAll_113 rfl (rfl) (Nat.le_refl _) (Nat.le_refl _) (ic_ri ⟨by rw [if_pos (by omega), if_pos hlt0, hq, show m - k = 0 by omega]; rfl, u, rfl, hf, by rw [if_pos (by omega), hq, show m - k = 0 by omega]; exact hC_u⟩)
        · refine xx_iload (pc := 31) dX11_goAll_31 1 rfl ?_
          refine xx_eqI (y := nI ((a + k) % 4294967296)) ((nI_mod _).symm) ?_
          refine xx_iconst (pc := 33) dX11_goAll_33 cc_iconst_0 ?_
          refine xx_aload_nP (pc := 34) dX11_goAll_34 3 rfl rfl ?_
          refine xx_getR (pc := 35) 17 dX11_goAll_35 sh_0 fX11_36_11 rfl rfl (by decide) ?_
          refine xx_iload_n (pc := 38) dX11_goAll_38 4 rfl rfl ?_
          refine xx_ialdN (pc := 39) dX11_goAll_39 sh_17 (by omega) (by decide) ?_
          refine xx_iconst (pc := 40) dX11_goAll_40 cc_iconst_1 ?_
          refine xx_isubW (pc := 41) dX11_goAll_41 (by omega) ?_
          refine xx_callS0 (pc := 42) (st := []) (cC_withinM (w := u) (v := (a + k) % 4294967296) (n := (u 17 i)) (by omega) (by omega)) kX11_within sX11_94 dX11_goAll_42 rfl rfl (Nat.le_of_ble_eq_true rfl) ⟨Nat.le_of_ble_eq_true rfl, Nat.le_of_ble_eq_true rfl⟩ ⟨Nat.zero_le _, Nat.zero_le _⟩ (ic_ke ?_)
          refine xx_if_neB (pc := 45) 51 dX11_goAll_45 rfl (fun c23 => ?_) (fun c23 => ?_)
          · refine xx_aload_nP (pc := 51) dX11_goAll_51 3 rfl rfl ?_
            refine xx_getR (pc := 52) 18 dX11_goAll_52 sh_0 fX11_39_11 rfl rfl (by decide) ?_
            refine xx_iload_n (pc := 55) dX11_goAll_55 4 rfl rfl ?_
            refine xx_aald (pc := 56) i (19 + i) dX11_goAll_56 sh_18 (by decide) rfl (by omega) (by decide) (it_at (by omega)) ?_
            refine xx_iload (pc := 57) dX11_goAll_57 1 rfl ?_
            have hvx := (hS i (by omega)).2.2.2.2 ((a + k) % 4294967296) (by omega)
            refine xx_eqI (y := nI ((a + k) % 4294967296)) ((nI_mod _).symm) ?_
            refine xx_ialdN (pc := 59) dX11_goAll_59 (it_sh (by omega)) (by omega) (by decide) ?_
            refine xx_eqI (y := nI (V (40 * i + (a + k) % 4294967296))) (by rw [hft (19 + i) (by omega) (by omega), hvx.1]) ?_
            refine xx_istore (L' := [(8, .int (nI (V (40 * i + (a + k) % 4294967296)))), (7, .int (nI k)), (6, .int (nI (a + k))), (5, .int (nI g)), (0, ic_pt E 0), (1, .int (nI i)), (2, .int (nI a)), (3, .int (nI m))]) (pc := 60) dX11_goAll_60 (Nat.le_of_ble_eq_true rfl) rfl ?_
            refine xx_aload_nP (pc := 62) dX11_goAll_62 4 rfl rfl ?_
            refine xx_iload (pc := 63) dX11_goAll_63 0 rfl ?_
            refine xx_callV0 (pc := 65) (st := []) sh_0 (cC_isAct (w := u) (k := V (40 * i + (a + k) % 4294967296)) (by omega) (by omega)) kX11_isAct vX11_327_11 dX11_goAll_65 rfl rfl (Nat.le_of_ble_eq_true rfl) ⟨Nat.le_of_ble_eq_true rfl, Nat.le_of_ble_eq_true rfl⟩ ⟨Nat.zero_le _, Nat.zero_le _⟩ (ic_ke ?_)
            refine xx_if_eqB (pc := 68) 102 dX11_goAll_68 rfl (fun c24 => ?_) (fun c24 => ?_)
            · refine xx_iincN (L' := [(6, .int (nI ((a + k) + 1))), (8, .int (nI (V (40 * i + (a + k) % 4294967296)))), (7, .int (nI k)), (5, .int (nI g)), (0, ic_pt E 0), (1, .int (nI i)), (2, .int (nI a)), (3, .int (nI m))]) (pc := 102) dX11_goAll_102 2 rfl cc_iconst_1 (Nat.le_of_ble_eq_true rfl) rfl ?_
              refine xx_iincN (L' := [(7, .int (nI (k + 1))), (6, .int (nI ((a + k) + 1))), (8, .int (nI (V (40 * i + (a + k) % 4294967296)))), (5, .int (nI g)), (0, ic_pt E 0), (1, .int (nI i)), (2, .int (nI a)), (3, .int (nI m))]) (pc := 105) dX11_goAll_105 2 rfl cc_iconst_1 (Nat.le_of_ble_eq_true rfl) rfl ?_
              refine xx_goto (pc := 108) 25 dX11_goAll_108 rfl ?_
              exact xx_sub [0, 1, 3, 4, 5, 6, 7] rfl (ih_ (k + 1) _ _ u (by omega) (by rw [hq, show m - k = (m - (k + 1)) + 1 by omega, mo_gx, if_pos (by omega), if_neg (by omega)]) hN_u hm_u hC_u hIn_u hRu_u hf hft (by omega))
            · refine xx_aload_nP (pc := 71) dX11_goAll_71 4 rfl rfl ?_
              refine xx_getR (pc := 72) 39 dX11_goAll_72 sh_0 fX11_74_11 rfl rfl (by decide) ?_
              refine xx_aload_nP (pc := 75) dX11_goAll_75 4 rfl rfl ?_
              refine xx_getR (pc := 76) 39 dX11_goAll_76 sh_0 fX11_74_11 rfl rfl (by decide) ?_
              refine xx_getR (pc := 79) 46 dX11_goAll_79 sh_39 fX11_112_5 rfl rfl (by decide) ?_
              refine xx_callV0 (pc := 82) (st := []) sh_39 (cC_isOver (w := u) (m := 46) (s := t) Mo_46 hm_u hN_u hIn_u) kX5_isOver vX11_185_5 dX11_goAll_82 rfl rfl (Nat.le_of_ble_eq_true rfl) ⟨Nat.le_of_ble_eq_true rfl, Nat.le_of_ble_eq_true rfl⟩ ⟨Nat.zero_le _, Nat.zero_le _⟩ (ic_ke ?_)
              refine xx_if_neB (pc := 85) 102 dX11_goAll_85 rfl (fun c25 => ?_) (fun c25 => ?_)
              · refine xx_iincN (L' := [(6, .int (nI ((a + k) + 1))), (8, .int (nI (V (40 * i + (a + k) % 4294967296)))), (7, .int (nI k)), (5, .int (nI g)), (0, ic_pt E 0), (1, .int (nI i)), (2, .int (nI a)), (3, .int (nI m))]) (pc := 102) dX11_goAll_102 2 rfl cc_iconst_1 (Nat.le_of_ble_eq_true rfl) rfl ?_
                refine xx_iincN (L' := [(7, .int (nI (k + 1))), (6, .int (nI ((a + k) + 1))), (8, .int (nI (V (40 * i + (a + k) % 4294967296)))), (5, .int (nI g)), (0, ic_pt E 0), (1, .int (nI i)), (2, .int (nI a)), (3, .int (nI m))]) (pc := 105) dX11_goAll_105 2 rfl cc_iconst_1 (Nat.le_of_ble_eq_true rfl) rfl ?_
                refine xx_goto (pc := 108) 25 dX11_goAll_108 rfl ?_
                exact xx_sub [0, 1, 3, 4, 5, 6, 7] rfl (ih_ (k + 1) _ _ u (by omega) (by rw [hq, show m - k = (m - (k + 1)) + 1 by omega, mo_gx, if_pos (by omega), if_neg (by omega)]) hN_u hm_u hC_u hIn_u hRu_u hf hft (by omega))
              · refine xx_iload (pc := 88) dX11_goAll_88 3 rfl ?_
                refine xx_aload_nP (pc := 90) dX11_goAll_90 4 rfl rfl ?_
                refine xx_getR (pc := 91) 39 dX11_goAll_91 sh_0 fX11_74_11 rfl rfl (by decide) ?_
                refine xx_iload (pc := 94) dX11_goAll_94 0 rfl ?_
                have hwl_x26 := mo_worth_le hIn_u (act := V (40 * i + (a + k) % 4294967296)) (by omega)
                refine xx_callV0 (pc := 96) (st := [.int (nI g)]) sh_39 (cC_goes (w := u) (act := V (40 * i + (a + k) % 4294967296)) (s := t) hC_u hIn_u hRu_u (by omega) (by omega)) kX5_goes vX11_220_5 dX11_goAll_96 rfl rfl (Nat.le_of_ble_eq_true rfl) ⟨Nat.le_of_ble_eq_true rfl, Nat.le_of_ble_eq_true rfl⟩ ⟨Nat.zero_le _, Nat.zero_le _⟩ (ic_ki (fun v28 h_ qw27 => ?_))
                obtain ⟨rfl, w27, rfl, fw27, hC_w27⟩ := qw27
                refine xx_iaddN (pc := 99) dX11_goAll_99 ?_
                refine xx_istore (L' := [(5, .int (nI (g + (mo_worth t (V (40 * i + (a + k) % 4294967296)))))), (8, .int (nI (V (40 * i + (a + k) % 4294967296)))), (7, .int (nI k)), (6, .int (nI (a + k))), (0, ic_pt E 0), (1, .int (nI i)), (2, .int (nI a)), (3, .int (nI m))]) (pc := 100) dX11_goAll_100 (Nat.le_of_ble_eq_true rfl) rfl ?_
                refine xx_iincN (L' := [(6, .int (nI ((a + k) + 1))), (5, .int (nI (g + (mo_worth t (V (40 * i + (a + k) % 4294967296)))))), (8, .int (nI (V (40 * i + (a + k) % 4294967296)))), (7, .int (nI k)), (0, ic_pt E 0), (1, .int (nI i)), (2, .int (nI a)), (3, .int (nI m))]) (pc := 102) dX11_goAll_102 3 rfl cc_iconst_1 (Nat.le_of_ble_eq_true rfl) rfl ?_
                refine xx_iincN (L' := [(7, .int (nI (k + 1))), (6, .int (nI ((a + k) + 1))), (5, .int (nI (g + (mo_worth t (V (40 * i + (a + k) % 4294967296)))))), (8, .int (nI (V (40 * i + (a + k) % 4294967296)))), (0, ic_pt E 0), (1, .int (nI i)), (2, .int (nI a)), (3, .int (nI m))]) (pc := 105) dX11_goAll_105 3 rfl cc_iconst_1 (Nat.le_of_ble_eq_true rfl) rfl ?_
                refine xx_goto (pc := 108) 25 dX11_goAll_108 rfl ?_
                have hn_ : Fn u w27 := fw27
                exact xx_sub [0, 1, 2, 4, 5, 6, 7] rfl (ih_ (k + 1) _ _ w27 (by omega) (by rw [hq, show m - k = (m - (k + 1)) + 1 by omega, mo_gx, if_pos (by omega), if_pos (by omega)]) hC_w27.1 hC_w27.2.1 hC_w27 (In_go hIn_u (by omega) (by omega)) (Ru_go hRu_u hIn_u (by omega)) (hf.tr hn_) (fun b h1 h2 => by rw [hn_ b (by omega)]; exact hft b h1 h2) (by omega))
          · refine xx_bipush (pc := 48) dX11_goAll_48 cc_bipush_m12 ?_
            exact xx_iret (pc := 50) dX11_goAll_50 rfl (rfl) (Nat.le_refl _) (Nat.le_refl _) (ic_ri ⟨by rw [if_pos (by omega), if_pos hlt0, hq, show m - k = (m - (k + 1)) + 1 by omega, mo_gx, if_neg (by omega)], u, rfl, hf, by rw [if_pos (by omega), hq, show m - k = (m - (k + 1)) + 1 by omega, mo_gx, if_neg (by omega)]; exact hC_u⟩)
    exact xx_sub [0, 1, 2, 4, 5, 6, 7] rfl (lp (m + 1) 0 0 s w (by omega) rfl hN hm hC hIn hRu (Fn.rf w) (fun _ _ _ => rfl) (by omega))
  · refine xx_iload (pc := 13) dX11_goAll_13 0 rfl ?_
    exact xx_iret (pc := 15) dX11_goAll_15 rfl (rfl) (Nat.le_refl _) (Nat.le_refl _) (ic_ri ⟨by rcases hlb with z | z | z <;> first | (rw [if_neg z.1, if_neg z.1]) | (rw [if_pos (show i ≤ 3 ∧ m ≤ 20 by omega), if_pos (show i ≤ 3 ∧ m ≤ 20 by omega), if_neg z.2.2.2.2.1]) | (exfalso; omega), w, rfl, Fn.rf w, by rw [if_neg (by omega)]; exact hC⟩)

set_option maxHeartbeats 4000000 in
set_option maxRecDepth 100000 in
theorem cC_wouldBe {l : Launch} {E : ic_E} {w : ic_w} {i : Nat} (hi_ : i < 2 ^ 32) {a : Nat} (ha_ : a < 2 ^ 32) {m : Nat} (hm_ : m < 2 ^ 32) {s : Nat → Nat} (hC : Cw w s) (hIn : In s) (hRu : Ru s) {T U V : Nat → Nat} (hS : Ct w T U V) : ic_C l E mX11_wouldBe 9 0 0 False [ic_pt E 0, .int (nI i), .int (nI a), .int (nI m)] SHs (hn w) SHs (ic_qi (fun v_ h_ => v_ = nI (if i ≤ 3 ∧ m ≤ 20 then (if mo_lt T i 0 = 0 then mo_sb V i a (U i) m 0 s 0 else mo_lt T i 0) else 4294967295) ∧ ∃ w2, h_ = hn w2 ∧ Fp w w2)) := by
  refine ic_intro (by decide +kernel) (Nat.le_of_ble_eq_true rfl) ?_
  show xx l E _ _ 0 [(0, ic_pt E 0), (1, .int (nI i)), (2, .int (nI a)), (3, .int (nI m))] _ _ _
  have hN := hC.1
  have hm := hC.2.1
  have n5_w := hC.2.2.1
  have n6_w := hC.2.2.2
  have hn0 := hIn.n
  have htt := hIn.t
  have hcr := hIn.cr (s 1)
  have n1_w : w 39 10 = s 0 := hN.n
  have n2_w : w 39 11 = s 2 := hN.e
  have n3_w : w 46 0 = s 1 := hm.t
  have n4_w : w 46 1 = mo_outs s := hm.o
  have hs4 : i ≤ 3 → w 16 i = T i ∧ w 17 i = U i ∧ (T i = 4294967295 ∨ T i ≤ 4) ∧ U i ≤ 40 := fun z => ⟨(hS i (by omega)).1, (hS i (by omega)).2.1, (hS i (by omega)).2.2.1, (hS i (by omega)).2.2.2.1⟩
  refine xx_aload_nP (pc := 0) dX11_wouldBe_0 0 rfl rfl ?_
  refine xx_iload_n (pc := 1) dX11_wouldBe_1 1 rfl rfl ?_
  refine xx_iload_n (pc := 2) dX11_wouldBe_2 3 rfl rfl ?_
  have hlb : (i ≤ 3 ∧ m ≤ 20 ∧ T i = 0 ∧ (if i ≤ 3 ∧ m ≤ 20 then mo_lt T i 0 else 4294967295) = 0) ∨ (i ≤ 3 ∧ m ≤ 20 ∧ ¬ T i = 0 ∧ (if i ≤ 3 ∧ m ≤ 20 then mo_lt T i 0 else 4294967295) = mo_lt T i 0 ∧ ¬ mo_lt T i 0 = 0 ∧ mo_lt T i 0 < 2 ^ 32) ∨ (¬ (i ≤ 3 ∧ m ≤ 20) ∧ (if i ≤ 3 ∧ m ≤ 20 then mo_lt T i 0 else 4294967295) = 4294967295) := by
    by_cases z : i ≤ 3 ∧ m ≤ 20
    · rw [if_pos z]
      unfold mo_lt
      by_cases y : T i = 0
      · rw [if_neg (by omega), if_pos y]
        exact Or.inl ⟨z.1, z.2, y, rfl⟩
      · right; left
        refine ⟨z.1, z.2, y, rfl, ?_⟩
        rw [if_neg y]
        split <;> omega
    · rw [if_neg z]
      exact Or.inr (Or.inr ⟨z, rfl⟩)
  refine xx_callV0 (pc := 3) (st := []) sh_0 (cC_refusedActs (w := w) (i := i) (m := m) (by omega) (by omega) hS) kX11_refusedActs vX11_336_11 dX11_wouldBe_3 rfl rfl (Nat.le_of_ble_eq_true rfl) ⟨Nat.le_of_ble_eq_true rfl, Nat.le_of_ble_eq_true rfl⟩ ⟨Nat.zero_le _, Nat.zero_le _⟩ (ic_ke ?_)
  refine xx_istore (L' := [(4, .int (nI ((if i ≤ 3 ∧ m ≤ 20 then mo_lt T i 0 else 4294967295)))), (0, ic_pt E 0), (1, .int (nI i)), (2, .int (nI a)), (3, .int (nI m))]) (pc := 6) dX11_wouldBe_6 (Nat.le_of_ble_eq_true rfl) rfl ?_
  refine xx_iload (pc := 8) dX11_wouldBe_8 0 rfl ?_
  refine xx_if_eqN (pc := 10) 16 dX11_wouldBe_10 rfl (by omega) (fun c1 => ?_) (fun c1 => ?_)
  · have hs := hs4 (by omega)
    refine xx_iconst (pc := 16) dX11_wouldBe_16 cc_iconst_0 ?_
    refine xx_istore (L' := [(5, .int (nI 0)), (4, .int (nI ((if i ≤ 3 ∧ m ≤ 20 then mo_lt T i 0 else 4294967295)))), (0, ic_pt E 0), (1, .int (nI i)), (2, .int (nI a)), (3, .int (nI m))]) (pc := 17) dX11_wouldBe_17 (Nat.le_of_ble_eq_true rfl) rfl ?_
    refine xx_iload_n (pc := 19) dX11_wouldBe_19 4 rfl rfl ?_
    refine xx_istore (L' := [(6, .int (nI a)), (5, .int (nI 0)), (4, .int (nI ((if i ≤ 3 ∧ m ≤ 20 then mo_lt T i 0 else 4294967295)))), (0, ic_pt E 0), (1, .int (nI i)), (2, .int (nI a)), (3, .int (nI m))]) (pc := 20) dX11_wouldBe_20 (Nat.le_of_ble_eq_true rfl) rfl ?_
    refine xx_aload_nP (pc := 22) dX11_wouldBe_22 3 rfl rfl ?_
    refine xx_getR (pc := 23) 1 dX11_wouldBe_23 sh_0 fX11_10_11 rfl rfl (by decide) ?_
    refine xx_aload_nP (pc := 26) dX11_wouldBe_26 3 rfl rfl ?_
    refine xx_getR (pc := 27) 39 dX11_wouldBe_27 sh_0 fX11_74_11 rfl rfl (by decide) ?_
    refine xx_getR (pc := 30) 46 dX11_wouldBe_30 sh_39 fX11_112_5 rfl rfl (by decide) ?_
    refine xx_callV0 (pc := 33) (st := []) sh_1 (cC_mbecome (w := w) (m := 1) (p := 46) Mo_1 Mo_46 (by omega)) kX4_become vX11_226_4 dX11_wouldBe_33 rfl rfl (Nat.le_of_ble_eq_true rfl) ⟨Nat.le_of_ble_eq_true rfl, Nat.le_of_ble_eq_true rfl⟩ ⟨Nat.zero_le _, Nat.zero_le _⟩ (ic_kv (fun h_ qw2 => ?_))
    obtain ⟨w2, rfl, b0, b1, bj, gb⟩ := qw2
    have hf_w2 : Fp w w2 := ⟨fun a ha => gb a (by omega) (by omega) (by omega), by rw [gb 55 (by omega) (by omega) (by omega)]⟩
    have hm_w2 : Cs w2 1 s := Cs.bc hm hIn b0 b1 bj
    have hN_w2 : Cn w2 s := hN.fp hf_w2
    refine xx_iconst (pc := 36) dX11_wouldBe_36 cc_iconst_0 ?_
    refine xx_istore (L' := [(7, .int (nI 0)), (6, .int (nI a)), (5, .int (nI 0)), (4, .int (nI ((if i ≤ 3 ∧ m ≤ 20 then mo_lt T i 0 else 4294967295)))), (0, ic_pt E 0), (1, .int (nI i)), (2, .int (nI a)), (3, .int (nI m))]) (pc := 37) dX11_wouldBe_37 (Nat.le_of_ble_eq_true rfl) rfl ?_
    have hlt0 : mo_lt T i 0 = 0 := by unfold mo_lt; rw [if_neg (by omega), if_pos (by omega)]
    have lp : ∀ (n_ : Nat) (k g : Nat) (t : Nat → Nat) (u : ic_w), k ≤ m → mo_sb V i a (U i) m 0 s 0 = mo_sb V i a (U i) (m - k) k t g → Cn u t → Cs u 1 t → In t → Ru t → Fp w u → (∀ b, 16 ≤ b → b ≤ 22 → u b = w b) → m - k < n_ → xx l E (ic_fr E mX11_wouldBe 9 0 0 False SHs (ic_qi (fun v_ h_ => v_ = nI (if i ≤ 3 ∧ m ≤ 20 then (if mo_lt T i 0 = 0 then mo_sb V i a (U i) m 0 s 0 else mo_lt T i 0) else 4294967295) ∧ ∃ w2, h_ = hn w2 ∧ Fp w w2))) (0, 0) 39 [(7, .int (nI k)), (6, .int (nI (a + k))), (5, .int (nI g)), (0, ic_pt E 0), (1, .int (nI i)), (2, .int (nI a)), (3, .int (nI m))] [] SHs (hn u) := by
      intro n_
      induction n_ with
      | zero => intro k g t u hk hq hN_u hm_u hIn_u hRu_u hf hft hm_; exact absurd hm_ (Nat.not_lt_zero _)
      | succ n_ ih_ =>
        intro k g t u hk hq hN_u hm_u hIn_u hRu_u hf hft hm_
        have n1_u : u 39 10 = t 0 := hN_u.n
        have n2_u : u 39 11 = t 2 := hN_u.e
        have tn0_u := hIn_u.n
        have ttt_u := hIn_u.t
        have tU : u 17 i = U i := by rw [hft 17 (by omega) (by omega)]; exact hs.2.1
        have hN_u2 := hN_u
        have n3_u : u 1 0 = t 1 := hm_u.t
        refine xx_iload (pc := 39) dX11_wouldBe_39 0 rfl ?_
        refine xx_iload_n (pc := 41) dX11_wouldBe_41 6 rfl rfl ?_
        refine xx_icmp_geN (pc := 42) 129 dX11_wouldBe_42 rfl (by omega) (by omega) (fun c24 => ?_) (fun c24 => ?_)
        · refine xx_iload (pc := 129) dX11_wouldBe_129 2 rfl ?_
          exact xx_iret (pc := 131) dX11_wouldBe_131 rfl (rfl) (Nat.le_refl _) (Nat.le_refl _) (ic_ri ⟨by rw [if_pos (by omega), if_pos hlt0, hq, show m - k = 0 by omega]; rfl, u, rfl, hf⟩)
        · refine xx_iload (pc := 45) dX11_wouldBe_45 1 rfl ?_
          refine xx_eqI (y := nI ((a + k) % 4294967296)) ((nI_mod _).symm) ?_
          refine xx_iconst (pc := 47) dX11_wouldBe_47 cc_iconst_0 ?_
          refine xx_aload_nP (pc := 48) dX11_wouldBe_48 3 rfl rfl ?_
          refine xx_getR (pc := 49) 17 dX11_wouldBe_49 sh_0 fX11_36_11 rfl rfl (by decide) ?_
          refine xx_iload_n (pc := 52) dX11_wouldBe_52 4 rfl rfl ?_
          refine xx_ialdN (pc := 53) dX11_wouldBe_53 sh_17 (by omega) (by decide) ?_
          refine xx_iconst (pc := 54) dX11_wouldBe_54 cc_iconst_1 ?_
          refine xx_isubW (pc := 55) dX11_wouldBe_55 (by omega) ?_
          refine xx_callS0 (pc := 56) (st := []) (cC_withinM (w := u) (v := (a + k) % 4294967296) (n := (u 17 i)) (by omega) (by omega)) kX11_within sX11_94 dX11_wouldBe_56 rfl rfl (Nat.le_of_ble_eq_true rfl) ⟨Nat.le_of_ble_eq_true rfl, Nat.le_of_ble_eq_true rfl⟩ ⟨Nat.zero_le _, Nat.zero_le _⟩ (ic_ke ?_)
          refine xx_if_neB (pc := 59) 65 dX11_wouldBe_59 rfl (fun c25 => ?_) (fun c25 => ?_)
          · refine xx_aload_nP (pc := 65) dX11_wouldBe_65 3 rfl rfl ?_
            refine xx_getR (pc := 66) 18 dX11_wouldBe_66 sh_0 fX11_39_11 rfl rfl (by decide) ?_
            refine xx_iload_n (pc := 69) dX11_wouldBe_69 4 rfl rfl ?_
            refine xx_aald (pc := 70) i (19 + i) dX11_wouldBe_70 sh_18 (by decide) rfl (by omega) (by decide) (it_at (by omega)) ?_
            refine xx_iload (pc := 71) dX11_wouldBe_71 1 rfl ?_
            have hvx := (hS i (by omega)).2.2.2.2 ((a + k) % 4294967296) (by omega)
            refine xx_eqI (y := nI ((a + k) % 4294967296)) ((nI_mod _).symm) ?_
            refine xx_ialdN (pc := 73) dX11_wouldBe_73 (it_sh (by omega)) (by omega) (by decide) ?_
            refine xx_eqI (y := nI (V (40 * i + (a + k) % 4294967296))) (by rw [hft (19 + i) (by omega) (by omega), hvx.1]) ?_
            refine xx_istore (L' := [(8, .int (nI (V (40 * i + (a + k) % 4294967296)))), (7, .int (nI k)), (6, .int (nI (a + k))), (5, .int (nI g)), (0, ic_pt E 0), (1, .int (nI i)), (2, .int (nI a)), (3, .int (nI m))]) (pc := 74) dX11_wouldBe_74 (Nat.le_of_ble_eq_true rfl) rfl ?_
            refine xx_aload_nP (pc := 76) dX11_wouldBe_76 4 rfl rfl ?_
            refine xx_iload (pc := 77) dX11_wouldBe_77 0 rfl ?_
            refine xx_callV0 (pc := 79) (st := []) sh_0 (cC_isAct (w := u) (k := V (40 * i + (a + k) % 4294967296)) (by omega) (by omega)) kX11_isAct vX11_327_11 dX11_wouldBe_79 rfl rfl (Nat.le_of_ble_eq_true rfl) ⟨Nat.le_of_ble_eq_true rfl, Nat.le_of_ble_eq_true rfl⟩ ⟨Nat.zero_le _, Nat.zero_le _⟩ (ic_ke ?_)
            refine xx_if_eqB (pc := 82) 99 dX11_wouldBe_82 rfl (fun c26 => ?_) (fun c26 => ?_)
            · refine xx_bipush (pc := 99) dX11_wouldBe_99 cc_bipush_m4 ?_
              exact xx_iret (pc := 101) dX11_wouldBe_101 rfl (rfl) (Nat.le_refl _) (Nat.le_refl _) (ic_ri ⟨by rw [if_pos (by omega), if_pos hlt0, hq, show m - k = (m - (k + 1)) + 1 by omega, mo_sb, if_pos (by omega), if_neg (by omega)], u, rfl, hf⟩)
            · refine xx_aload_nP (pc := 85) dX11_wouldBe_85 4 rfl rfl ?_
              refine xx_getR (pc := 86) 39 dX11_wouldBe_86 sh_0 fX11_74_11 rfl rfl (by decide) ?_
              refine xx_aload_nP (pc := 89) dX11_wouldBe_89 4 rfl rfl ?_
              refine xx_getR (pc := 90) 1 dX11_wouldBe_90 sh_0 fX11_10_11 rfl rfl (by decide) ?_
              refine xx_callV0 (pc := 93) (st := []) sh_39 (cC_isOver (w := u) (m := 1) (s := t) Mo_1 hm_u hN_u hIn_u) kX5_isOver vX11_185_5 dX11_wouldBe_93 rfl rfl (Nat.le_of_ble_eq_true rfl) ⟨Nat.le_of_ble_eq_true rfl, Nat.le_of_ble_eq_true rfl⟩ ⟨Nat.zero_le _, Nat.zero_le _⟩ (ic_ke ?_)
              refine xx_if_eqB (pc := 96) 102 dX11_wouldBe_96 rfl (fun c27 => ?_) (fun c27 => ?_)
              · refine xx_iload (pc := 102) dX11_wouldBe_102 3 rfl ?_
                refine xx_aload_nP (pc := 104) dX11_wouldBe_104 4 rfl rfl ?_
                refine xx_getR (pc := 105) 39 dX11_wouldBe_105 sh_0 fX11_74_11 rfl rfl (by decide) ?_
                refine xx_aload_nP (pc := 108) dX11_wouldBe_108 4 rfl rfl ?_
                refine xx_getR (pc := 109) 1 dX11_wouldBe_109 sh_0 fX11_10_11 rfl rfl (by decide) ?_
                refine xx_iload (pc := 112) dX11_wouldBe_112 0 rfl ?_
                have hwl_x28 := mo_worth_le hIn_u (act := V (40 * i + (a + k) % 4294967296)) (by omega)
                refine xx_callV0 (pc := 114) (st := [.int (nI g)]) sh_39 (cC_goBy (w := u) (m := 1) (act := V (40 * i + (a + k) % 4294967296)) (s := t) Mo_1 hm_u hN_u hIn_u hRu_u (by omega)) kX5_goBy vX11_229_5 dX11_wouldBe_114 rfl rfl (Nat.le_of_ble_eq_true rfl) ⟨Nat.le_of_ble_eq_true rfl, Nat.le_of_ble_eq_true rfl⟩ ⟨Nat.zero_le _, Nat.zero_le _⟩ (ic_ki (fun v30 h_ qw29 => ?_))
                obtain ⟨rfl, w29, rfl, gw29, hm_w29⟩ := qw29
                have hIn_w29 : In (mo_go t (V (40 * i + (a + k) % 4294967296))) := In_go hIn_u (by omega) (by omega)
                have hRu_w29 : Ru (mo_go t (V (40 * i + (a + k) % 4294967296))) := Ru_go hRu_u hIn_u (by omega)
                have hN_w29 : Cn w29 (mo_go t (V (40 * i + (a + k) % 4294967296))) := (hN_u.fm Mo_1 gw29).go hIn_u (by omega)
                refine xx_iaddN (pc := 117) dX11_wouldBe_117 ?_
                refine xx_istore (L' := [(5, .int (nI (g + (mo_worth t (V (40 * i + (a + k) % 4294967296)))))), (8, .int (nI (V (40 * i + (a + k) % 4294967296)))), (7, .int (nI k)), (6, .int (nI (a + k))), (0, ic_pt E 0), (1, .int (nI i)), (2, .int (nI a)), (3, .int (nI m))]) (pc := 118) dX11_wouldBe_118 (Nat.le_of_ble_eq_true rfl) rfl ?_
                refine xx_iincN (L' := [(6, .int (nI ((a + k) + 1))), (5, .int (nI (g + (mo_worth t (V (40 * i + (a + k) % 4294967296)))))), (8, .int (nI (V (40 * i + (a + k) % 4294967296)))), (7, .int (nI k)), (0, ic_pt E 0), (1, .int (nI i)), (2, .int (nI a)), (3, .int (nI m))]) (pc := 120) dX11_wouldBe_120 3 rfl cc_iconst_1 (Nat.le_of_ble_eq_true rfl) rfl ?_
                refine xx_iincN (L' := [(7, .int (nI (k + 1))), (6, .int (nI ((a + k) + 1))), (5, .int (nI (g + (mo_worth t (V (40 * i + (a + k) % 4294967296)))))), (8, .int (nI (V (40 * i + (a + k) % 4294967296)))), (0, ic_pt E 0), (1, .int (nI i)), (2, .int (nI a)), (3, .int (nI m))]) (pc := 123) dX11_wouldBe_123 3 rfl cc_iconst_1 (Nat.le_of_ble_eq_true rfl) rfl ?_
                refine xx_goto (pc := 126) 39 dX11_wouldBe_126 rfl ?_
                exact xx_sub [0, 1, 2, 4, 5, 6, 7] rfl (ih_ (k + 1) _ _ w29 (by omega) (by rw [hq, show m - k = (m - (k + 1)) + 1 by omega, mo_sb, if_pos (by omega), if_pos (by omega)]) hN_w29 hm_w29 hIn_w29 hRu_w29 (hf.tr (gw29.p (by omega))) (fun b h1 h2 => by rw [gw29 b (by omega) (by omega) (by omega) (by omega) (by omega)]; exact hft b h1 h2) (by omega))
              · refine xx_bipush (pc := 99) dX11_wouldBe_99 cc_bipush_m4 ?_
                exact xx_iret (pc := 101) dX11_wouldBe_101 rfl (rfl) (Nat.le_refl _) (Nat.le_refl _) (ic_ri ⟨by rw [if_pos (by omega), if_pos hlt0, hq, show m - k = (m - (k + 1)) + 1 by omega, mo_sb, if_pos (by omega), if_neg (by omega)], u, rfl, hf⟩)
          · refine xx_bipush (pc := 62) dX11_wouldBe_62 cc_bipush_m12 ?_
            exact xx_iret (pc := 64) dX11_wouldBe_64 rfl (rfl) (Nat.le_refl _) (Nat.le_refl _) (ic_ri ⟨by rw [if_pos (by omega), if_pos hlt0, hq, show m - k = (m - (k + 1)) + 1 by omega, mo_sb, if_neg (by omega)], u, rfl, hf⟩)
    exact xx_sub [0, 1, 2, 4, 5, 6, 7] rfl (lp (m + 1) 0 0 s w2 (by omega) rfl hN_w2 hm_w2 hIn hRu hf_w2 (fun b h1 h2 => by rw [hf_w2.1 b (by omega)]) (by omega))
  · refine xx_iload (pc := 13) dX11_wouldBe_13 0 rfl ?_
    exact xx_iret (pc := 15) dX11_wouldBe_15 rfl (rfl) (Nat.le_refl _) (Nat.le_refl _) (ic_ri ⟨by rcases hlb with z | z | z <;> first | (rw [if_neg z.1, if_neg z.1]) | (rw [if_pos (show i ≤ 3 ∧ m ≤ 20 by omega), if_pos (show i ≤ 3 ∧ m ≤ 20 by omega), if_neg z.2.2.2.2.1]) | (exfalso; omega), w, rfl, Fp.rf w⟩)

