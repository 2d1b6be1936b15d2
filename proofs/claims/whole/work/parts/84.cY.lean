/-! the class: what is told, how many -/
set_option maxHeartbeats 4000000 in
set_option maxRecDepth 100000 in
theorem cC_trace {l : Launch} {E : ic_E} {w : ic_w} {i : Nat} (hi_ : i < 2 ^ 32) {W : ic_w} (hT : Act w W) : ic_C l E mX11_trace 3 0 0 False [ic_pt E 0, .int (nI i)] SHs (hn w) SHs (ic_qe (nI (if i < W 114 36 then W 132 i else 4294967293)) (hn w)) := by
  refine ic_intro (by decide +kernel) (Nat.le_of_ble_eq_true rfl) ?_
  show xx l E _ _ 0 [(0, ic_pt E 0), (1, .int (nI i))] _ _ _
  rcases hT with ⟨hz, hr⟩ | ⟨k, k1, k5, hz, hA⟩
  · refine xx_aload_nP (pc := 0) dX11_trace_0 0 rfl rfl ?_
    refine xx_getD (pc := 1) dX11_trace_1 sh_0 fX11_351_11 rfl rfl ?_
    refine xx_eqT (v2 := ic_rv (ic_b E) 0) (rv_hn (t := 0) hz (by omega)) ?_
    refine xx_ifnull (pc := 4) 36 dX11_trace_4 rfl (fun c1 => ?_) (fun c1 => ?_)
    · refine xx_bipush (pc := 36) dX11_trace_36 cc_bipush_m3 ?_
      exact xx_iret (pc := 38) dX11_trace_38 rfl (rfl) (Nat.le_refl _) (Nat.le_refl _) (ic_re (if_neg (by omega)).symm)
    · exfalso; first | contradiction | omega
  · rcases (show k = 1 ∨ k = 2 ∨ k = 3 ∨ k = 4 ∨ k = 5 by omega) with rfl | rfl | rfl | rfl | rfl
    · have a3_ : w 29 3 = W 114 36 := hA.1.2.2.1
      have b_ := hA.2.1
      refine xx_aload_nP (pc := 0) dX11_trace_0 0 rfl rfl ?_
      refine xx_getD (pc := 1) dX11_trace_1 sh_0 fX11_351_11 rfl rfl ?_
      refine xx_eqT (v2 := ic_rv (ic_b E) 30) (rv_hn (t := 30) hz (by omega)) ?_
      refine xx_ifnull (pc := 4) 36 dX11_trace_4 rfl (fun c31 => ?_) (fun c31 => ?_)
      · exfalso; first | contradiction | omega
      · refine xx_iload_n (pc := 7) dX11_trace_7 1 rfl rfl ?_
        refine xx_iconst (pc := 8) dX11_trace_8 cc_iconst_0 ?_
        refine xx_aload_nP (pc := 9) dX11_trace_9 0 rfl rfl ?_
        refine xx_getD (pc := 10) dX11_trace_10 sh_0 fX11_351_11 rfl rfl ?_
        refine xx_eqT (v2 := ic_pt E 29) (rv_hn (t := 30) hz (by omega)) ?_
        refine xx_getN (pc := 13) dX11_trace_13 sh_29 fX11_377_7 rfl ?_
        refine xx_eqI (y := nI (W 114 36)) (by rw [a3_]) ?_
        refine xx_iconst (pc := 16) dX11_trace_16 cc_iconst_1 ?_
        refine xx_isubW (pc := 17) dX11_trace_17 (by omega) ?_
        refine xx_callS0 (pc := 18) (st := []) (cC_withinM (w := w) (v := i) (n := (W 114 36)) (by omega) (by omega)) kX11_within sX11_94 dX11_trace_18 rfl rfl (Nat.le_of_ble_eq_true rfl) ⟨Nat.le_of_ble_eq_true rfl, Nat.le_of_ble_eq_true rfl⟩ ⟨Nat.zero_le _, Nat.zero_le _⟩ (ic_ke ?_)
        refine xx_if_eqB (pc := 21) 36 dX11_trace_21 rfl (fun c32 => ?_) (fun c32 => ?_)
        · refine xx_bipush (pc := 36) dX11_trace_36 cc_bipush_m3 ?_
          exact xx_iret (pc := 38) dX11_trace_38 rfl (rfl) (Nat.le_refl _) (Nat.le_refl _) (ic_re (if_neg (by omega)).symm)
        · refine xx_aload_nP (pc := 24) dX11_trace_24 0 rfl rfl ?_
          refine xx_getD (pc := 25) dX11_trace_25 sh_0 fX11_351_11 rfl rfl ?_
          refine xx_eqT (v2 := ic_pt E 29) (rv_hn (t := 30) hz (by omega)) ?_
          refine xx_getR (pc := 28) 30 dX11_trace_28 sh_29 fX11_380_7 rfl rfl (by decide) ?_
          refine xx_iload_n (pc := 31) dX11_trace_31 1 rfl rfl ?_
          refine xx_ialdN (pc := 32) dX11_trace_32 sh_30 (by omega) (by decide) ?_
          refine xx_goto (pc := 33) 38 dX11_trace_33 rfl ?_
          exact xx_iret (pc := 38) dX11_trace_38 rfl (rfl) (Nat.le_refl _) (Nat.le_refl _) (ic_re (by rw [if_pos (by omega)]; exact hA.2.2 i (by omega)))
    · have a3_ : w 31 3 = W 114 36 := hA.1.2.2.1
      have b_ := hA.2.1
      refine xx_aload_nP (pc := 0) dX11_trace_0 0 rfl rfl ?_
      refine xx_getD (pc := 1) dX11_trace_1 sh_0 fX11_351_11 rfl rfl ?_
      refine xx_eqT (v2 := ic_rv (ic_b E) 32) (rv_hn (t := 32) hz (by omega)) ?_
      refine xx_ifnull (pc := 4) 36 dX11_trace_4 rfl (fun c61 => ?_) (fun c61 => ?_)
      · exfalso; first | contradiction | omega
      · refine xx_iload_n (pc := 7) dX11_trace_7 1 rfl rfl ?_
        refine xx_iconst (pc := 8) dX11_trace_8 cc_iconst_0 ?_
        refine xx_aload_nP (pc := 9) dX11_trace_9 0 rfl rfl ?_
        refine xx_getD (pc := 10) dX11_trace_10 sh_0 fX11_351_11 rfl rfl ?_
        refine xx_eqT (v2 := ic_pt E 31) (rv_hn (t := 32) hz (by omega)) ?_
        refine xx_getN (pc := 13) dX11_trace_13 sh_31 fX11_377_3 rfl ?_
        refine xx_eqI (y := nI (W 114 36)) (by rw [a3_]) ?_
        refine xx_iconst (pc := 16) dX11_trace_16 cc_iconst_1 ?_
        refine xx_isubW (pc := 17) dX11_trace_17 (by omega) ?_
        refine xx_callS0 (pc := 18) (st := []) (cC_withinM (w := w) (v := i) (n := (W 114 36)) (by omega) (by omega)) kX11_within sX11_94 dX11_trace_18 rfl rfl (Nat.le_of_ble_eq_true rfl) ⟨Nat.le_of_ble_eq_true rfl, Nat.le_of_ble_eq_true rfl⟩ ⟨Nat.zero_le _, Nat.zero_le _⟩ (ic_ke ?_)
        refine xx_if_eqB (pc := 21) 36 dX11_trace_21 rfl (fun c62 => ?_) (fun c62 => ?_)
        · refine xx_bipush (pc := 36) dX11_trace_36 cc_bipush_m3 ?_
          exact xx_iret (pc := 38) dX11_trace_38 rfl (rfl) (Nat.le_refl _) (Nat.le_refl _) (ic_re (if_neg (by omega)).symm)
        · refine xx_aload_nP (pc := 24) dX11_trace_24 0 rfl rfl ?_
          refine xx_getD (pc := 25) dX11_trace_25 sh_0 fX11_351_11 rfl rfl ?_
          refine xx_eqT (v2 := ic_pt E 31) (rv_hn (t := 32) hz (by omega)) ?_
          refine xx_getR (pc := 28) 32 dX11_trace_28 sh_31 fX11_380_3 rfl rfl (by decide) ?_
          refine xx_iload_n (pc := 31) dX11_trace_31 1 rfl rfl ?_
          refine xx_ialdN (pc := 32) dX11_trace_32 sh_32 (by omega) (by decide) ?_
          refine xx_goto (pc := 33) 38 dX11_trace_33 rfl ?_
          exact xx_iret (pc := 38) dX11_trace_38 rfl (rfl) (Nat.le_refl _) (Nat.le_refl _) (ic_re (by rw [if_pos (by omega)]; exact hA.2.2 i (by omega)))
    · have a3_ : w 33 3 = W 114 36 := hA.1.2.2.1
      have b_ := hA.2.1
      refine xx_aload_nP (pc := 0) dX11_trace_0 0 rfl rfl ?_
      refine xx_getD (pc := 1) dX11_trace_1 sh_0 fX11_351_11 rfl rfl ?_
      refine xx_eqT (v2 := ic_rv (ic_b E) 34) (rv_hn (t := 34) hz (by omega)) ?_
      refine xx_ifnull (pc := 4) 36 dX11_trace_4 rfl (fun c91 => ?_) (fun c91 => ?_)
      · exfalso; first | contradiction | omega
      · refine xx_iload_n (pc := 7) dX11_trace_7 1 rfl rfl ?_
        refine xx_iconst (pc := 8) dX11_trace_8 cc_iconst_0 ?_
        refine xx_aload_nP (pc := 9) dX11_trace_9 0 rfl rfl ?_
        refine xx_getD (pc := 10) dX11_trace_10 sh_0 fX11_351_11 rfl rfl ?_
        refine xx_eqT (v2 := ic_pt E 33) (rv_hn (t := 34) hz (by omega)) ?_
        refine xx_getN (pc := 13) dX11_trace_13 sh_33 fX11_377_2 rfl ?_
        refine xx_eqI (y := nI (W 114 36)) (by rw [a3_]) ?_
        refine xx_iconst (pc := 16) dX11_trace_16 cc_iconst_1 ?_
        refine xx_isubW (pc := 17) dX11_trace_17 (by omega) ?_
        refine xx_callS0 (pc := 18) (st := []) (cC_withinM (w := w) (v := i) (n := (W 114 36)) (by omega) (by omega)) kX11_within sX11_94 dX11_trace_18 rfl rfl (Nat.le_of_ble_eq_true rfl) ⟨Nat.le_of_ble_eq_true rfl, Nat.le_of_ble_eq_true rfl⟩ ⟨Nat.zero_le _, Nat.zero_le _⟩ (ic_ke ?_)
        refine xx_if_eqB (pc := 21) 36 dX11_trace_21 rfl (fun c92 => ?_) (fun c92 => ?_)
        · refine xx_bipush (pc := 36) dX11_trace_36 cc_bipush_m3 ?_
          exact xx_iret (pc := 38) dX11_trace_38 rfl (rfl) (Nat.le_refl _) (Nat.le_refl _) (ic_re (if_neg (by omega)).symm)
        · refine xx_aload_nP (pc := 24) dX11_trace_24 0 rfl rfl ?_
          refine xx_getD (pc := 25) dX11_trace_25 sh_0 fX11_351_11 rfl rfl ?_
          refine xx_eqT (v2 := ic_pt E 33) (rv_hn (t := 34) hz (by omega)) ?_
          refine xx_getR (pc := 28) 34 dX11_trace_28 sh_33 fX11_380_2 rfl rfl (by decide) ?_
          refine xx_iload_n (pc := 31) dX11_trace_31 1 rfl rfl ?_
          refine xx_ialdN (pc := 32) dX11_trace_32 sh_34 (by omega) (by decide) ?_
          refine xx_goto (pc := 33) 38 dX11_trace_33 rfl ?_
          exact xx_iret (pc := 38) dX11_trace_38 rfl (rfl) (Nat.le_refl _) (Nat.le_refl _) (ic_re (by rw [if_pos (by omega)]; exact hA.2.2 i (by omega)))
    · have a3_ : w 35 3 = W 114 36 := hA.1.2.2.1
      have b_ := hA.2.1
      refine xx_aload_nP (pc := 0) dX11_trace_0 0 rfl rfl ?_
      refine xx_getD (pc := 1) dX11_trace_1 sh_0 fX11_351_11 rfl rfl ?_
      refine xx_eqT (v2 := ic_rv (ic_b E) 36) (rv_hn (t := 36) hz (by omega)) ?_
      refine xx_ifnull (pc := 4) 36 dX11_trace_4 rfl (fun c121 => ?_) (fun c121 => ?_)
      · exfalso; first | contradiction | omega
      · refine xx_iload_n (pc := 7) dX11_trace_7 1 rfl rfl ?_
        refine xx_iconst (pc := 8) dX11_trace_8 cc_iconst_0 ?_
        refine xx_aload_nP (pc := 9) dX11_trace_9 0 rfl rfl ?_
        refine xx_getD (pc := 10) dX11_trace_10 sh_0 fX11_351_11 rfl rfl ?_
        refine xx_eqT (v2 := ic_pt E 35) (rv_hn (t := 36) hz (by omega)) ?_
        refine xx_getN (pc := 13) dX11_trace_13 sh_35 fX11_377_1 rfl ?_
        refine xx_eqI (y := nI (W 114 36)) (by rw [a3_]) ?_
        refine xx_iconst (pc := 16) dX11_trace_16 cc_iconst_1 ?_
        refine xx_isubW (pc := 17) dX11_trace_17 (by omega) ?_
        refine xx_callS0 (pc := 18) (st := []) (cC_withinM (w := w) (v := i) (n := (W 114 36)) (by omega) (by omega)) kX11_within sX11_94 dX11_trace_18 rfl rfl (Nat.le_of_ble_eq_true rfl) ⟨Nat.le_of_ble_eq_true rfl, Nat.le_of_ble_eq_true rfl⟩ ⟨Nat.zero_le _, Nat.zero_le _⟩ (ic_ke ?_)
        refine xx_if_eqB (pc := 21) 36 dX11_trace_21 rfl (fun c122 => ?_) (fun c122 => ?_)
        · refine xx_bipush (pc := 36) dX11_trace_36 cc_bipush_m3 ?_
          exact xx_iret (pc := 38) dX11_trace_38 rfl (rfl) (Nat.le_refl _) (Nat.le_refl _) (ic_re (if_neg (by omega)).symm)
        · refine xx_aload_nP (pc := 24) dX11_trace_24 0 rfl rfl ?_
          refine xx_getD (pc := 25) dX11_trace_25 sh_0 fX11_351_11 rfl rfl ?_
          refine xx_eqT (v2 := ic_pt E 35) (rv_hn (t := 36) hz (by omega)) ?_
          refine xx_getR (pc := 28) 36 dX11_trace_28 sh_35 fX11_380_1 rfl rfl (by decide) ?_
          refine xx_iload_n (pc := 31) dX11_trace_31 1 rfl rfl ?_
          refine xx_ialdN (pc := 32) dX11_trace_32 sh_36 (by omega) (by decide) ?_
          refine xx_goto (pc := 33) 38 dX11_trace_33 rfl ?_
          exact xx_iret (pc := 38) dX11_trace_38 rfl (rfl) (Nat.le_refl _) (Nat.le_refl _) (ic_re (by rw [if_pos (by omega)]; exact hA.2.2 i (by omega)))
    · have a3_ : w 37 3 = W 114 36 := hA.1.2.2.1
      have b_ := hA.2.1
      refine xx_aload_nP (pc := 0) dX11_trace_0 0 rfl rfl ?_
      refine xx_getD (pc := 1) dX11_trace_1 sh_0 fX11_351_11 rfl rfl ?_
      refine xx_eqT (v2 := ic_rv (ic_b E) 38) (rv_hn (t := 38) hz (by omega)) ?_
      refine xx_ifnull (pc := 4) 36 dX11_trace_4 rfl (fun c151 => ?_) (fun c151 => ?_)
      · exfalso; first | contradiction | omega
      · refine xx_iload_n (pc := 7) dX11_trace_7 1 rfl rfl ?_
        refine xx_iconst (pc := 8) dX11_trace_8 cc_iconst_0 ?_
        refine xx_aload_nP (pc := 9) dX11_trace_9 0 rfl rfl ?_
        refine xx_getD (pc := 10) dX11_trace_10 sh_0 fX11_351_11 rfl rfl ?_
        refine xx_eqT (v2 := ic_pt E 37) (rv_hn (t := 38) hz (by omega)) ?_
        refine xx_getN (pc := 13) dX11_trace_13 sh_37 fX11_377_0 rfl ?_
        refine xx_eqI (y := nI (W 114 36)) (by rw [a3_]) ?_
        refine xx_iconst (pc := 16) dX11_trace_16 cc_iconst_1 ?_
        refine xx_isubW (pc := 17) dX11_trace_17 (by omega) ?_
        refine xx_callS0 (pc := 18) (st := []) (cC_withinM (w := w) (v := i) (n := (W 114 36)) (by omega) (by omega)) kX11_within sX11_94 dX11_trace_18 rfl rfl (Nat.le_of_ble_eq_true rfl) ⟨Nat.le_of_ble_eq_true rfl, Nat.le_of_ble_eq_true rfl⟩ ⟨Nat.zero_le _, Nat.zero_le _⟩ (ic_ke ?_)
        refine xx_if_eqB (pc := 21) 36 dX11_trace_21 rfl (fun c152 => ?_) (fun c152 => ?_)
        · refine xx_bipush (pc := 36) dX11_trace_36 cc_bipush_m3 ?_
          exact xx_iret (pc := 38) dX11_trace_38 rfl (rfl) (Nat.le_refl _) (Nat.le_refl _) (ic_re (if_neg (by omega)).symm)
        · refine xx_aload_nP (pc := 24) dX11_trace_24 0 rfl rfl ?_
          refine xx_getD (pc := 25) dX11_trace_25 sh_0 fX11_351_11 rfl rfl ?_
          refine xx_eqT (v2 := ic_pt E 37) (rv_hn (t := 38) hz (by omega)) ?_
          refine xx_getR (pc := 28) 38 dX11_trace_28 sh_37 fX11_380_0 rfl rfl (by decide) ?_
          refine xx_iload_n (pc := 31) dX11_trace_31 1 rfl rfl ?_
          refine xx_ialdN (pc := 32) dX11_trace_32 sh_38 (by omega) (by decide) ?_
          refine xx_goto (pc := 33) 38 dX11_trace_33 rfl ?_
          exact xx_iret (pc := 38) dX11_trace_38 rfl (rfl) (Nat.le_refl _) (Nat.le_refl _) (ic_re (by rw [if_pos (by omega)]; exact hA.2.2 i (by omega)))

set_option maxHeartbeats 4000000 in
set_option maxRecDepth 100000 in
theorem cC_many {l : Launch} {E : ic_E} {w : ic_w} {k : Nat} (hk_ : k < 2 ^ 32) {s : Nat → Nat} (hN : Cn w s) (hM : Cs w 46 s) (hI : In s) {n t : Nat} (h9 : w 0 9 = n) (h6 : w 0 6 = t) {W : ic_w} (hT : Act w W) : ic_C l E mX11_many 3 0 0 False [ic_pt E 0, .int (nI k)] SHs (hn w) SHs (ic_qe (nI (if k = 0 then s 0 else if k = 1 then s 5 else if k = 2 then mo_size (mo_outs s) else if k = 3 then s 6 else if k = 4 then n else if k = 5 then t else if k = 6 then W 114 36 else 4294967295)) (hn w)) := by
  refine ic_intro (by decide +kernel) (Nat.le_of_ble_eq_true rfl) ?_
  show xx l E _ _ 0 [(0, ic_pt E 0), (1, .int (nI k))] _ _ _
  have n0 := hI.n
  have o0 := mo_outs_lt hI.n
  have e0 := hN.n
  have e1 := hN.r0
  have e3 := hN.q.1
  refine xx_iload_n (pc := 0) dX11_many_0 1 rfl rfl ?_
  rcases (show k = 0 ∨ k = 1 ∨ k = 2 ∨ k = 3 ∨ k = 4 ∨ k = 5 ∨ k = 6 ∨ 7 ≤ k by omega) with rfl | rfl | rfl | rfl | rfl | rfl | rfl | hbig
  · refine xx_tin (pc := 1) 44 dX11_many_1 (by decide) (by decide) rfl rfl ?_
    refine xx_aload_nP (pc := 44) dX11_many_44 0 rfl rfl ?_
    refine xx_getR (pc := 45) 39 dX11_many_45 sh_0 fX11_74_11 rfl rfl (by decide) ?_
    refine xx_getN (pc := 48) dX11_many_48 sh_39 fX11_101_5 rfl ?_
    exact xx_iret (pc := 51) dX11_many_51 rfl (rfl) (Nat.le_refl _) (Nat.le_refl _) (ic_re (by simp; first | done | omega | assumption | exact e0 | exact e1 | exact e3 | exact h9 | exact h6))
  · refine xx_tin (pc := 1) 52 dX11_many_1 (by decide) (by decide) rfl rfl ?_
    refine xx_aload_nP (pc := 52) dX11_many_52 0 rfl rfl ?_
    refine xx_getR (pc := 53) 39 dX11_many_53 sh_0 fX11_74_11 rfl rfl (by decide) ?_
    refine xx_getR (pc := 56) 49 dX11_many_56 sh_39 fX11_206_5 rfl rfl (by decide) ?_
    refine xx_getN (pc := 59) dX11_many_59 sh_49 fX11_213_10 rfl ?_
    exact xx_iret (pc := 62) dX11_many_62 rfl (rfl) (Nat.le_refl _) (Nat.le_refl _) (ic_re (by simp; first | done | omega | assumption | exact e0 | exact e1 | exact e3 | exact h9 | exact h6))
  · refine xx_tin (pc := 1) 63 dX11_many_1 (by decide) (by decide) rfl rfl ?_
    refine xx_aload_nP (pc := 63) dX11_many_63 0 rfl rfl ?_
    refine xx_getR (pc := 64) 39 dX11_many_64 sh_0 fX11_74_11 rfl rfl (by decide) ?_
    refine xx_getR (pc := 67) 46 dX11_many_67 sh_39 fX11_112_5 rfl rfl (by decide) ?_
    refine xx_getN (pc := 70) dX11_many_70 sh_46 fX11_189_4 rfl ?_
    refine xx_eqI (y := nI (mo_outs s)) (by rw [hM.o]) ?_
    have hsz_x1 := size_le (mo_outs s) (by omega)
    refine xx_callS0 (pc := 73) (st := []) (cC_bitCount (w := w) (n := mo_outs s) (by omega)) kJ6_bitCount_0f7a4 sX11_383 dX11_many_73 rfl rfl (Nat.le_of_ble_eq_true rfl) ⟨Nat.le_of_ble_eq_true rfl, Nat.le_of_ble_eq_true rfl⟩ ⟨Nat.zero_le _, Nat.zero_le _⟩ (ic_ke ?_)
    exact xx_iret (pc := 76) dX11_many_76 rfl (rfl) (Nat.le_refl _) (Nat.le_refl _) (ic_re (by simp; first | done | omega | assumption | exact e0 | exact e1 | exact e3 | exact h9 | exact h6))
  · refine xx_tin (pc := 1) 77 dX11_many_1 (by decide) (by decide) rfl rfl ?_
    refine xx_aload_nP (pc := 77) dX11_many_77 0 rfl rfl ?_
    refine xx_getR (pc := 78) 39 dX11_many_78 sh_0 fX11_74_11 rfl rfl (by decide) ?_
    refine xx_getR (pc := 81) 55 dX11_many_81 sh_39 fX11_286_5 rfl rfl (by decide) ?_
    refine xx_getN (pc := 84) dX11_many_84 sh_55 fX11_290_8 rfl ?_
    exact xx_iret (pc := 87) dX11_many_87 rfl (rfl) (Nat.le_refl _) (Nat.le_refl _) (ic_re (by simp; first | done | omega | assumption | exact e0 | exact e1 | exact e3 | exact h9 | exact h6))
  · refine xx_tin (pc := 1) 88 dX11_many_1 (by decide) (by decide) rfl rfl ?_
    refine xx_aload_nP (pc := 88) dX11_many_88 0 rfl rfl ?_
    refine xx_getN (pc := 89) dX11_many_89 sh_0 fX11_321_11 rfl ?_
    exact xx_iret (pc := 92) dX11_many_92 rfl (rfl) (Nat.le_refl _) (Nat.le_refl _) (ic_re (by simp; first | done | omega | assumption | exact e0 | exact e1 | exact e3 | exact h9 | exact h6))
  · refine xx_tin (pc := 1) 93 dX11_many_1 (by decide) (by decide) rfl rfl ?_
    refine xx_aload_nP (pc := 93) dX11_many_93 0 rfl rfl ?_
    refine xx_getN (pc := 94) dX11_many_94 sh_0 fX11_199_11 rfl ?_
    exact xx_iret (pc := 97) dX11_many_97 rfl (rfl) (Nat.le_refl _) (Nat.le_refl _) (ic_re (by simp; first | done | omega | assumption | exact e0 | exact e1 | exact e3 | exact h9 | exact h6))
  · refine xx_tin (pc := 1) 98 dX11_many_1 (by decide) (by decide) rfl rfl ?_
    rcases hT with ⟨hz, hr⟩ | ⟨q, k1, k5, hz, hA⟩
    · refine xx_aload_nP (pc := 98) dX11_many_98 0 rfl rfl ?_
      refine xx_getD (pc := 99) dX11_many_99 sh_0 fX11_351_11 rfl rfl ?_
      refine xx_eqT (v2 := ic_rv (ic_b E) 0) (rv_hn (t := 0) hz (by omega)) ?_
      refine xx_ifnn (pc := 102) 109 dX11_many_102 rfl (fun c7 => ?_) (fun c7 => ?_)
      · exfalso; first | contradiction | omega
      · refine xx_iconst (pc := 105) dX11_many_105 cc_iconst_0 ?_
        refine xx_goto (pc := 106) 116 dX11_many_106 rfl ?_
        exact xx_iret (pc := 116) dX11_many_116 rfl (rfl) (Nat.le_refl _) (Nat.le_refl _) (ic_re (by simp; omega))
    · rcases (show q = 1 ∨ q = 2 ∨ q = 3 ∨ q = 4 ∨ q = 5 by omega) with rfl | rfl | rfl | rfl | rfl
      · have a3_ : w 29 3 = W 114 36 := hA.1.2.2.1
        refine xx_aload_nP (pc := 98) dX11_many_98 0 rfl rfl ?_
        refine xx_getD (pc := 99) dX11_many_99 sh_0 fX11_351_11 rfl rfl ?_
        refine xx_eqT (v2 := ic_rv (ic_b E) 30) (rv_hn (t := 30) hz (by omega)) ?_
        refine xx_ifnn (pc := 102) 109 dX11_many_102 rfl (fun c12 => ?_) (fun c12 => ?_)
        · refine xx_aload_nP (pc := 109) dX11_many_109 0 rfl rfl ?_
          refine xx_getD (pc := 110) dX11_many_110 sh_0 fX11_351_11 rfl rfl ?_
          refine xx_eqT (v2 := ic_pt E 29) (rv_hn (t := 30) hz (by omega)) ?_
          refine xx_getN (pc := 113) dX11_many_113 sh_29 fX11_377_7 rfl ?_
          exact xx_iret (pc := 116) dX11_many_116 rfl (rfl) (Nat.le_refl _) (Nat.le_refl _) (ic_re (by simp; exact a3_))
        · exfalso; first | contradiction | omega
      · have a3_ : w 31 3 = W 114 36 := hA.1.2.2.1
        refine xx_aload_nP (pc := 98) dX11_many_98 0 rfl rfl ?_
        refine xx_getD (pc := 99) dX11_many_99 sh_0 fX11_351_11 rfl rfl ?_
        refine xx_eqT (v2 := ic_rv (ic_b E) 32) (rv_hn (t := 32) hz (by omega)) ?_
        refine xx_ifnn (pc := 102) 109 dX11_many_102 rfl (fun c22 => ?_) (fun c22 => ?_)
        · refine xx_aload_nP (pc := 109) dX11_many_109 0 rfl rfl ?_
          refine xx_getD (pc := 110) dX11_many_110 sh_0 fX11_351_11 rfl rfl ?_
          refine xx_eqT (v2 := ic_pt E 31) (rv_hn (t := 32) hz (by omega)) ?_
          refine xx_getN (pc := 113) dX11_many_113 sh_31 fX11_377_3 rfl ?_
          exact xx_iret (pc := 116) dX11_many_116 rfl (rfl) (Nat.le_refl _) (Nat.le_refl _) (ic_re (by simp; exact a3_))
        · exfalso; first | contradiction | omega
      · have a3_ : w 33 3 = W 114 36 := hA.1.2.2.1
        refine xx_aload_nP (pc := 98) dX11_many_98 0 rfl rfl ?_
        refine xx_getD (pc := 99) dX11_many_99 sh_0 fX11_351_11 rfl rfl ?_
        refine xx_eqT (v2 := ic_rv (ic_b E) 34) (rv_hn (t := 34) hz (by omega)) ?_
        refine xx_ifnn (pc := 102) 109 dX11_many_102 rfl (fun c32 => ?_) (fun c32 => ?_)
        · refine xx_aload_nP (pc := 109) dX11_many_109 0 rfl rfl ?_
          refine xx_getD (pc := 110) dX11_many_110 sh_0 fX11_351_11 rfl rfl ?_
          refine xx_eqT (v2 := ic_pt E 33) (rv_hn (t := 34) hz (by omega)) ?_
          refine xx_getN (pc := 113) dX11_many_113 sh_33 fX11_377_2 rfl ?_
          exact xx_iret (pc := 116) dX11_many_116 rfl (rfl) (Nat.le_refl _) (Nat.le_refl _) (ic_re (by simp; exact a3_))
        · exfalso; first | contradiction | omega
      · have a3_ : w 35 3 = W 114 36 := hA.1.2.2.1
        refine xx_aload_nP (pc := 98) dX11_many_98 0 rfl rfl ?_
        refine xx_getD (pc := 99) dX11_many_99 sh_0 fX11_351_11 rfl rfl ?_
        refine xx_eqT (v2 := ic_rv (ic_b E) 36) (rv_hn (t := 36) hz (by omega)) ?_
        refine xx_ifnn (pc := 102) 109 dX11_many_102 rfl (fun c42 => ?_) (fun c42 => ?_)
        · refine xx_aload_nP (pc := 109) dX11_many_109 0 rfl rfl ?_
          refine xx_getD (pc := 110) dX11_many_110 sh_0 fX11_351_11 rfl rfl ?_
          refine xx_eqT (v2 := ic_pt E 35) (rv_hn (t := 36) hz (by omega)) ?_
          refine xx_getN (pc := 113) dX11_many_113 sh_35 fX11_377_1 rfl ?_
          exact xx_iret (pc := 116) dX11_many_116 rfl (rfl) (Nat.le_refl _) (Nat.le_refl _) (ic_re (by simp; exact a3_))
        · exfalso; first | contradiction | omega
      · have a3_ : w 37 3 = W 114 36 := hA.1.2.2.1
        refine xx_aload_nP (pc := 98) dX11_many_98 0 rfl rfl ?_
        refine xx_getD (pc := 99) dX11_many_99 sh_0 fX11_351_11 rfl rfl ?_
        refine xx_eqT (v2 := ic_rv (ic_b E) 38) (rv_hn (t := 38) hz (by omega)) ?_
        refine xx_ifnn (pc := 102) 109 dX11_many_102 rfl (fun c52 => ?_) (fun c52 => ?_)
        · refine xx_aload_nP (pc := 109) dX11_many_109 0 rfl rfl ?_
          refine xx_getD (pc := 110) dX11_many_110 sh_0 fX11_351_11 rfl rfl ?_
          refine xx_eqT (v2 := ic_pt E 37) (rv_hn (t := 38) hz (by omega)) ?_
          refine xx_getN (pc := 113) dX11_many_113 sh_37 fX11_377_0 rfl ?_
          exact xx_iret (pc := 116) dX11_many_116 rfl (rfl) (Nat.le_refl _) (Nat.le_refl _) (ic_re (by simp; exact a3_))
        · exfalso; first | contradiction | omega
  · refine xx_tout (pc := 1) 117 dX11_many_1 (by rw [nI_sgn (by omega)]; split <;> omega) rfl ?_
    refine xx_iconst (pc := 117) dX11_many_117 cc_iconst_m1 ?_
    exact xx_iret (pc := 118) dX11_many_118 rfl (rfl) (Nat.le_refl _) (Nat.le_refl _) (ic_re (by rw [if_neg (by omega), if_neg (by omega), if_neg (by omega), if_neg (by omega), if_neg (by omega), if_neg (by omega), if_neg (by omega)]))

