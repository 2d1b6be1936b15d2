/-! the class: plans -/
theorem Mo_pl {k : Nat} (h : k ≤ 4) : Mo (99 + 3 * k) := by
  rcases (show k = 0 ∨ k = 1 ∨ k = 2 ∨ k = 3 ∨ k = 4 by omega) with rfl | rfl | rfl | rfl | rfl
  · exact Mo_99
  · exact Mo_102
  · exact Mo_105
  · exact Mo_108
  · exact Mo_111
theorem pm_at {k : Nat} (h : k ≤ 4) : [100, 103, 106, 109, 112].getD k 0 = 99 + 3 * k + 1 := by
  rcases (show k = 0 ∨ k = 1 ∨ k = 2 ∨ k = 3 ∨ k = 4 by omega) with rfl | rfl | rfl | rfl | rfl <;> rfl
def cl_x (w : ic_w) : mo_X := (fun j => if j = 16 then w 95 5 else if j = 17 then w 95 6 else if j = 18 then w 95 4 else if j = 19 then w 95 9 else if j = 20 then (if w 95 8 = 4294967293 then 9 else w 95 8) else w 95 7, w 98)
/-- what the plans keep to -/
def Pk (w : ic_w) : Prop := w 95 4 ≤ 4 ∧ (w 95 5 = 4294967295 ∨ w 95 5 ≤ 132) ∧ (w 95 8 = 4294967293 ∨ w 95 8 ≤ 4) ∧ w 95 9 < 64
/-- behind plans from the level k on: what else is kept -/
def Fb (k : Nat) (w w2 : ic_w) : Prop := (∀ a, a ≠ 65 → a ≠ 66 → a ≠ 95 → a ≠ 97 → a ≠ 98 → a < 102 + 3 * k ∨ 114 ≤ a → w2 a = w a) ∧ w2 95 4 = w 95 4 ∧ w2 95 9 = w 95 9 ∧ ∀ j, j < k → w2 97 j = w 97 j
theorem Fb.rf (k : Nat) (w : ic_w) : Fb k w w := ⟨fun _ _ _ _ _ _ _ => rfl, rfl, rfl, fun _ _ => rfl⟩
theorem Fb.tr {k : Nat} {w a b : ic_w} (h : Fb k w a) (g : Fb k a b) : Fb k w b := ⟨fun q h1 h2 h3 h4 h5 h6 => (g.1 q h1 h2 h3 h4 h5 h6).trans (h.1 q h1 h2 h3 h4 h5 h6), g.2.1.trans h.2.1, g.2.2.1.trans h.2.2.1, fun j hj => (g.2.2.2 j hj).trans (h.2.2.2 j hj)⟩
theorem Fb.dn {k : Nat} {w a : ic_w} (h : Fb (k + 1) w a) : Fb k w a := ⟨fun q h1 h2 h3 h4 h5 h6 => h.1 q h1 h2 h3 h4 h5 (by omega), h.2.1, h.2.2.1, fun j hj => h.2.2.2 j (by omega)⟩
theorem Cn.fb {k : Nat} {w a : ic_w} {s : Nat → Nat} (h : Cn w s) (g : Fb k w a) : Cn a s := h.of (by rw [g.1 39 (by omega) (by omega) (by omega) (by omega) (by omega) (by omega)]) (by rw [g.1 39 (by omega) (by omega) (by omega) (by omega) (by omega) (by omega)]) (by rw [g.1 55 (by omega) (by omega) (by omega) (by omega) (by omega) (by omega)]) (fun a _ _ _ _ _ _ _ _ => g.1 a (by omega) (by omega) (by omega) (by omega) (by omega) (by omega))
theorem Fb.p {w a : ic_w} (h : Fb 0 w a) : Fp w a → Fp w a := id
theorem arr_P {w u w2 : ic_w} {s : Nat → Nat} {sum few wt : Nat} (hf : few ≤ 4) (h8 : w 95 8 = 4294967293 ∨ w 95 8 ≤ 4) (g5 : w2 95 5 = u 95 5) (g6 : w2 95 6 = u 95 6) (g4 : w2 95 4 = u 95 4) (g9 : w2 95 9 = u 95 9) (g7 : w2 95 7 = w 95 7 ||| mo_outs s) (g98 : w2 98 = u 98)
    (q2 : ∀ j, j ≠ 5 → j ≠ 6 → u 95 j = w 95 j) (q5 : u 95 5 = (if (w 95 5 = 4294967295 ∨ w 95 5 < sum) then sum else w 95 5)) (q6 : u 95 6 = (if (w 95 5 = 4294967295 ∨ w 95 5 < sum) then wt else if sum = w 95 5 then w 95 6 + wt else w 95 6)) (q98 : (w 95 5 = 4294967295 ∨ w 95 5 < sum) → ∀ j, j < w 95 4 → u 98 j = w 97 j) (q99 : ¬ (w 95 5 = 4294967295 ∨ w 95 5 < sum) → u 98 = w 98)
    (e8 : (w2 95 8 = few ∧ w 95 9 &&& (mo_outs s ^^^ 4294967295) = 0 ∧ (w 95 8 = 4294967293 ∨ few < w 95 8)) ∨ (w2 95 8 = w 95 8 ∧ ¬ (w 95 9 &&& (mo_outs s ^^^ 4294967295) = 0 ∧ (w 95 8 = 4294967293 ∨ few < w 95 8)))) : pl_P (cl_x w) (cl_x w2) sum wt (w 95 4) (few + (if w 95 9 &&& (mo_outs s ^^^ 4294967295) = 0 then 0 else 100)) (mo_outs s) (fun j => w 97 j) := by
  refine ⟨g5.trans q5, g6.trans q6, ?_, g9.trans (q2 9 (by omega) (by omega)), ?_, g7, fun b j hj => ?_, fun b => ?_⟩
  · show w2 95 4 = (if mo_bt (cl_x w).1 sum then w 95 4 else w 95 4)
    rw [g4, q2 4 (by omega) (by omega)]
    split <;> rfl
  · show (if w2 95 8 = 4294967293 then 9 else w2 95 8) = min (if w 95 8 = 4294967293 then 9 else w 95 8) _
    rcases e8 with ⟨a, b, c⟩ | ⟨a, b⟩
    · rw [if_pos b, a, if_neg (by omega)]
      split <;> omega
    · rw [a]
      by_cases z : w 95 9 &&& (mo_outs s ^^^ 4294967295) = 0
      · rw [if_pos z]
        split
        · rename_i y
          exact absurd ⟨z, Or.inl y⟩ b
        · have : ¬ few < w 95 8 := fun y => b ⟨z, Or.inr y⟩
          omega
      · rw [if_neg z]
        split <;> omega
  · show w2 98 j = _
    rw [g98]
    exact q98 b j hj
  · show w2 98 = w 98
    rw [g98]
    exact q99 b
set_option maxHeartbeats 4000000 in
set_option maxRecDepth 100000 in
theorem cC_arrive {l : Launch} {E : ic_E} {w : ic_w} {sum few wt : Nat} {s : Nat → Nat} (hPk : Pk w) (hm : Cs w (99 + 3 * (w 95 4)) s) (hIn : In s) (hsm : sum ≤ 132) (hfe : few ≤ 4) : ic_C l E mX6_arrive 1 0 0 False [ic_pt E 95, .int (nI sum), .int (nI few), .int (nI wt)] SHs (hn w) SHs (ic_qv (fun h_ => ∃ w2, h_ = hn w2 ∧ (∀ a, a ≠ 95 → a ≠ 98 → w2 a = w a) ∧ (∀ j, j ≠ 5 → j ≠ 6 → j ≠ 7 → j ≠ 8 → w2 95 j = w 95 j) ∧ (w2 95 8 = 4294967293 ∨ w2 95 8 ≤ 4) ∧ pl_P (cl_x w) (cl_x w2) sum wt (w 95 4) (few + (if w 95 9 &&& (mo_outs s ^^^ 4294967295) = 0 then 0 else 100)) (mo_outs s) (fun j => w 97 j))) := by
  refine ic_intro (by decide +kernel) (Nat.le_of_ble_eq_true rfl) ?_
  show xx l E _ _ 0 [(0, ic_pt E 95), (1, .int (nI sum)), (2, .int (nI few)), (3, .int (nI wt))] _ _ _
  obtain ⟨hP1, hP2, hP3, hP4⟩ := hPk
  have hout : mo_outs s < 64 := Nat.lt_of_lt_of_le (mo_set_lt _ _) (mo_p2 hIn.n)
  have j53 : ∀ (u : ic_w), (∀ a, a ≠ 95 → a ≠ 98 → u a = w a) → (∀ j, j ≠ 5 → j ≠ 6 → u 95 j = w 95 j) → u 95 5 = (if (w 95 5 = 4294967295 ∨ w 95 5 < sum) then sum else w 95 5) → u 95 6 = (if (w 95 5 = 4294967295 ∨ w 95 5 < sum) then wt else if sum = w 95 5 then w 95 6 + wt else w 95 6) → ((w 95 5 = 4294967295 ∨ w 95 5 < sum) → ∀ j, j < w 95 4 → u 98 j = w 97 j) → (¬ (w 95 5 = 4294967295 ∨ w 95 5 < sum) → u 98 = w 98) → xx l E (ic_fr E mX6_arrive 1 0 0 False SHs (ic_qv (fun h_ => ∃ w2, h_ = hn w2 ∧ (∀ a, a ≠ 95 → a ≠ 98 → w2 a = w a) ∧ (∀ j, j ≠ 5 → j ≠ 6 → j ≠ 7 → j ≠ 8 → w2 95 j = w 95 j) ∧ (w2 95 8 = 4294967293 ∨ w2 95 8 ≤ 4) ∧ pl_P (cl_x w) (cl_x w2) sum wt (w 95 4) (few + (if w 95 9 &&& (mo_outs s ^^^ 4294967295) = 0 then 0 else 100)) (mo_outs s) (fun j => w 97 j)))) (0, 0) 53 [(0, ic_pt E 95), (1, .int (nI sum)), (2, .int (nI few)), (3, .int (nI wt))] [] SHs (hn u) := by
    intro u q1 q2 q5 q6 q98 q99
    have q4 := q2 4 (by omega) (by omega)
    refine xx_aload_nP (pc := 53) dX6_arrive_53 0 rfl rfl ?_
    refine xx_getR (pc := 54) 96 dX6_arrive_54 sh_95 fX6_11_6 rfl rfl (by decide) ?_
    refine xx_aload_nP (pc := 57) dX6_arrive_57 0 rfl rfl ?_
    refine xx_getN (pc := 58) dX6_arrive_58 sh_95 fX6_51_6 rfl ?_
    refine xx_eqI (y := nI (w 95 4)) (by rw [q2 4 (by omega) (by omega)]) ?_
    refine xx_aald (pc := 61) (w 95 4) (99 + 3 * (w 95 4)) dX6_arrive_61 sh_96 (by decide) rfl (by omega) (by decide) (pm_at (by omega)) ?_
    refine xx_getN (pc := 62) dX6_arrive_62 (Mo_pl (by omega)).1 fX6_112_4 rfl ?_
    refine xx_eqI (y := nI (mo_outs s)) (by rw [show u (99 + 3 * (w 95 4)) = w (99 + 3 * (w 95 4)) from q1 _ (by omega) (by omega)]; exact congrArg nI hm.o) ?_
    refine xx_istore (L' := [(4, .int (nI (mo_outs s))), (0, ic_pt E 95), (1, .int (nI sum)), (2, .int (nI few)), (3, .int (nI wt))]) (pc := 65) dX6_arrive_65 (Nat.le_of_ble_eq_true rfl) rfl ?_
    refine xx_aload_nP (pc := 67) dX6_arrive_67 1 rfl rfl ?_
    refine xx_dup (pc := 68) dX6_arrive_68 rfl ?_
    refine xx_getN (pc := 69) dX6_arrive_69 sh_95 fX6_71_6 rfl ?_
    refine xx_iload (pc := 72) dX6_arrive_72 0 rfl ?_
    refine xx_iorN (pc := 74) dX6_arrive_74 ?_
    refine xx_eqI (y := nI (w 95 7 ||| mo_outs s)) (by rw [q2 7 (by omega) (by omega)]) ?_
    refine xx_putN (pc := 75) dX6_arrive_75 sh_95 fX6_71_6 rfl rfl ?_
    refine xx_nw (fun w1 ew1 => ?_)
    have b75 : ∀ j, j ≠ 7 → w1 95 j = u 95 j := fun j hj => by rw [ew1, wu_k _ _ _ _ hj]
    have v75 : w1 95 7 = w 95 7 ||| mo_outs s := by rw [ew1, wu_s]
    have r75 : ∀ a, a ≠ 95 → w1 a = u a := fun a ha => by rw [ew1, wu_row _ _ _ ha]
    have o75 : w1 95 9 = w 95 9 := (b75 9 (by omega)).trans (q2 9 (by omega) (by omega))
    have n75 : w1 95 8 = w 95 8 := (b75 8 (by omega)).trans (q2 8 (by omega) (by omega))
    refine xx_aload_nP (pc := 78) dX6_arrive_78 1 rfl rfl ?_
    refine xx_getN (pc := 79) dX6_arrive_79 sh_95 fX6_62_6 rfl ?_
    refine xx_iload (pc := 82) dX6_arrive_82 0 rfl ?_
    refine xx_iconst (pc := 84) dX6_arrive_84 cc_iconst_m1 ?_
    refine xx_ixorN (pc := 85) dX6_arrive_85 ?_
    refine xx_iandN (pc := 86) dX6_arrive_86 ?_
    refine xx_eqI (y := nI (w 95 9 &&& (mo_outs s ^^^ 4294967295))) (by rw [o75]) ?_
    refine xx_if_neN (pc := 87) 94 dX6_arrive_87 rfl (by have := Nat.and_le_left (n := w 95 9) (m := mo_outs s ^^^ 4294967295); omega) (fun c2 => ?_) (fun c2 => ?_)
    · refine xx_iconst (pc := 94) dX6_arrive_94 cc_iconst_0 ?_
      refine xx_istore (L' := [(5, .int (nI 0)), (4, .int (nI (mo_outs s))), (0, ic_pt E 95), (1, .int (nI sum)), (2, .int (nI few)), (3, .int (nI wt))]) (pc := 95) dX6_arrive_95 (Nat.le_of_ble_eq_true rfl) rfl ?_
      refine xx_iload (pc := 97) dX6_arrive_97 0 rfl ?_
      refine xx_if_eqN (pc := 99) 124 dX6_arrive_99 rfl (by omega) (fun c3 => ?_) (fun c3 => by exfalso; omega)
      exact xx_vret (pc := 124) dX6_arrive_124 rfl (Nat.le_refl _) (Nat.le_refl _) (ic_rv0 ⟨w1, rfl, fun a h1 h2 => by rw [r75 a h1]; exact q1 a h1 h2, fun j h5 h6 h7 h8 => by rw [b75 j h7]; exact q2 j h5 h6, by omega, arr_P hfe hP3 (b75 5 (by omega)) (b75 6 (by omega)) (b75 4 (by omega)) (b75 9 (by omega)) v75 (r75 98 (by omega)) q2 q5 q6 q98 q99 (Or.inr ⟨n75, by omega⟩)⟩)
    · refine xx_iconst (pc := 90) dX6_arrive_90 cc_iconst_1 ?_
      refine xx_goto (pc := 91) 95 dX6_arrive_91 rfl ?_
      refine xx_istore (L' := [(5, .int (nI 1)), (4, .int (nI (mo_outs s))), (0, ic_pt E 95), (1, .int (nI sum)), (2, .int (nI few)), (3, .int (nI wt))]) (pc := 95) dX6_arrive_95 (Nat.le_of_ble_eq_true rfl) rfl ?_
      refine xx_iload (pc := 97) dX6_arrive_97 0 rfl ?_
      refine xx_if_eqN (pc := 99) 124 dX6_arrive_99 rfl (by omega) (fun c4 => by exfalso; omega) (fun c4 => ?_)
      refine xx_aload_nP (pc := 102) dX6_arrive_102 2 rfl rfl ?_
      refine xx_getN (pc := 103) dX6_arrive_103 sh_95 fX6_74_6 rfl ?_
      refine xx_bipush (pc := 106) dX6_arrive_106 cc_bipush_m3 ?_
      refine xx_icmp_eqN (pc := 108) 119 dX6_arrive_108 rfl (by omega) (by omega) (fun c5 => ?_) (fun c5 => ?_)
      · refine xx_aload_nP (pc := 119) dX6_arrive_119 2 rfl rfl ?_
        refine xx_iload_n (pc := 120) dX6_arrive_120 4 rfl rfl ?_
        refine xx_putN (pc := 121) dX6_arrive_121 sh_95 fX6_74_6 rfl rfl ?_
        refine xx_nw (fun w6 ew6 => ?_)
        exact xx_vret (pc := 124) dX6_arrive_124 rfl (Nat.le_refl _) (Nat.le_refl _) (ic_rv0 ⟨w6, rfl, fun a h1 h2 => by rw [ew6, wu_row _ _ _ h1, r75 a h1]; exact q1 a h1 h2, fun j h5 h6 h7 h8 => by rw [ew6, wu_k _ _ _ _ h8, b75 j h7]; exact q2 j h5 h6, by rw [ew6, wu_s]; omega, arr_P hfe hP3 (by rw [ew6, wu_k _ _ _ _ (by omega), b75 5 (by omega)]) (by rw [ew6, wu_k _ _ _ _ (by omega), b75 6 (by omega)]) (by rw [ew6, wu_k _ _ _ _ (by omega), b75 4 (by omega)]) (by rw [ew6, wu_k _ _ _ _ (by omega), b75 9 (by omega)]) (by rw [ew6, wu_k _ _ _ _ (by omega)]; exact v75) (by rw [ew6, wu_row _ _ _ (by omega), r75 98 (by omega)]) q2 q5 q6 q98 q99 (Or.inl ⟨(by rw [ew6, wu_s]), by omega, by omega⟩)⟩)
      · refine xx_iload_n (pc := 111) dX6_arrive_111 4 rfl rfl ?_
        refine xx_aload_nP (pc := 112) dX6_arrive_112 2 rfl rfl ?_
        refine xx_getN (pc := 113) dX6_arrive_113 sh_95 fX6_74_6 rfl ?_
        refine xx_icmp_geN (pc := 116) 124 dX6_arrive_116 rfl (by omega) (by omega) (fun c7 => ?_) (fun c7 => ?_)
        · exact xx_vret (pc := 124) dX6_arrive_124 rfl (Nat.le_refl _) (Nat.le_refl _) (ic_rv0 ⟨w1, rfl, fun a h1 h2 => by rw [r75 a h1]; exact q1 a h1 h2, fun j h5 h6 h7 h8 => by rw [b75 j h7]; exact q2 j h5 h6, by omega, arr_P hfe hP3 (b75 5 (by omega)) (b75 6 (by omega)) (b75 4 (by omega)) (b75 9 (by omega)) v75 (r75 98 (by omega)) q2 q5 q6 q98 q99 (Or.inr ⟨n75, by omega⟩)⟩)
        · refine xx_aload_nP (pc := 119) dX6_arrive_119 2 rfl rfl ?_
          refine xx_iload_n (pc := 120) dX6_arrive_120 4 rfl rfl ?_
          refine xx_putN (pc := 121) dX6_arrive_121 sh_95 fX6_74_6 rfl rfl ?_
          refine xx_nw (fun w8 ew8 => ?_)
          exact xx_vret (pc := 124) dX6_arrive_124 rfl (Nat.le_refl _) (Nat.le_refl _) (ic_rv0 ⟨w8, rfl, fun a h1 h2 => by rw [ew8, wu_row _ _ _ h1, r75 a h1]; exact q1 a h1 h2, fun j h5 h6 h7 h8 => by rw [ew8, wu_k _ _ _ _ h8, b75 j h7]; exact q2 j h5 h6, by rw [ew8, wu_s]; omega, arr_P hfe hP3 (by rw [ew8, wu_k _ _ _ _ (by omega), b75 5 (by omega)]) (by rw [ew8, wu_k _ _ _ _ (by omega), b75 6 (by omega)]) (by rw [ew8, wu_k _ _ _ _ (by omega), b75 4 (by omega)]) (by rw [ew8, wu_k _ _ _ _ (by omega), b75 9 (by omega)]) (by rw [ew8, wu_k _ _ _ _ (by omega)]; exact v75) (by rw [ew8, wu_row _ _ _ (by omega), r75 98 (by omega)]) q2 q5 q6 q98 q99 (Or.inl ⟨(by rw [ew8, wu_s]), by omega, by omega⟩)⟩)
  refine xx_iload_n (pc := 0) dX6_arrive_0 1 rfl rfl ?_
  refine xx_aload_nP (pc := 1) dX6_arrive_1 0 rfl rfl ?_
  refine xx_getN (pc := 2) dX6_arrive_2 sh_95 fX6_65_6 rfl ?_
  refine xx_icmp_leZ (pc := 5) 35 dX6_arrive_5 rfl (by omega) (by omega) (fun c9 => ?_) (fun c9 => ?_)
  · refine xx_iload_n (pc := 35) dX6_arrive_35 1 rfl rfl ?_
    refine xx_aload_nP (pc := 36) dX6_arrive_36 0 rfl rfl ?_
    refine xx_getN (pc := 37) dX6_arrive_37 sh_95 fX6_65_6 rfl ?_
    refine xx_icmp_neN (pc := 40) 53 dX6_arrive_40 rfl (by omega) (by omega) (fun c10 => ?_) (fun c10 => ?_)
    · exact xx_sub [0, 1, 2, 3] rfl (j53 w (fun _ _ _ => rfl) (fun _ _ _ => rfl) (by rw [if_neg (by omega)]) (by rw [if_neg (by omega), if_neg (by omega)]) (fun z => absurd z (by omega)) (fun _ => rfl))
    · refine xx_aload_nP (pc := 43) dX6_arrive_43 0 rfl rfl ?_
      refine xx_dup (pc := 44) dX6_arrive_44 rfl ?_
      refine xx_getN (pc := 45) dX6_arrive_45 sh_95 fX6_68_6 rfl ?_
      refine xx_iload_n (pc := 48) dX6_arrive_48 3 rfl rfl ?_
      refine xx_iaddN (pc := 49) dX6_arrive_49 ?_
      refine xx_putN (pc := 50) dX6_arrive_50 sh_95 fX6_68_6 rfl rfl ?_
      refine xx_nw (fun w11 ew11 => ?_)
      exact xx_sub [0, 1, 2, 3] rfl (j53 w11 (fun a h1 h2 => by first | (rw [ew11, wu_row _ _ _ h1]; exact r32 a h1 h2) | rw [ew11, wu_row _ _ _ h1] | exact r32 a h1 h2) (fun j h5 h6 => by first | (rw [ew11, wu_k _ _ _ _ h6]; exact b32 j h5 h6) | rw [ew11, wu_k _ _ _ _ h6] | exact b32 j h5 h6) (by first | (exfalso; omega) | (rw [if_pos (by omega), ew11, wu_k _ _ _ _ (by omega)]; exact v32.1) | (rw [if_neg (by omega), ew11, wu_k _ _ _ _ (by omega)])) (by first | (exfalso; omega) | (rw [if_pos (by omega), ew11, wu_s, v32.2, Nat.zero_add]) | (rw [if_neg (by omega), if_pos (by omega), ew11, wu_s])) (fun z => by first | exact absurd z (by omega) | (rw [ew11, wu_row _ _ _ (by omega)]; exact f32)) (fun z => by first | exact absurd (show w 95 5 = 4294967295 ∨ w 95 5 < sum by omega) z | rw [ew11, wu_row _ _ _ (by omega)]))
  · refine xx_aload_nP (pc := 8) dX6_arrive_8 0 rfl rfl ?_
    refine xx_iload_n (pc := 9) dX6_arrive_9 1 rfl rfl ?_
    refine xx_putN (pc := 10) dX6_arrive_10 sh_95 fX6_65_6 rfl rfl ?_
    refine xx_nw (fun w12 ew12 => ?_)
    have b10 : ∀ j, j ≠ 5 → w12 95 j = w 95 j := fun j hj => by rw [ew12, wu_k _ _ _ _ hj]
    have v10 : w12 95 5 = sum := by rw [ew12, wu_s]
    have r10 : ∀ a, a ≠ 95 → w12 a = w a := fun a ha => by rw [ew12, wu_row _ _ _ ha]
    refine xx_aload_nP (pc := 13) dX6_arrive_13 0 rfl rfl ?_
    refine xx_iconst (pc := 14) dX6_arrive_14 cc_iconst_0 ?_
    refine xx_putN (pc := 15) dX6_arrive_15 sh_95 fX6_68_6 rfl rfl ?_
    refine xx_nw (fun w13 ew13 => ?_)
    have b15 : ∀ j, j ≠ 5 → j ≠ 6 → w13 95 j = w 95 j := fun j h5 h6 => by rw [ew13, wu_k _ _ _ _ h6]; exact b10 j h5
    have v15 : w13 95 5 = sum ∧ w13 95 6 = 0 := ⟨by rw [ew13, wu_k _ _ _ _ (by omega)]; exact v10, by rw [ew13, wu_s]⟩
    have r15 : ∀ a, a ≠ 95 → w13 a = w a := fun a ha => by rw [ew13, wu_row _ _ _ ha]; exact r10 a ha
    have l15 : w13 95 4 = w 95 4 := b15 4 (by omega) (by omega)
    refine xx_aload_nP (pc := 18) dX6_arrive_18 0 rfl rfl ?_
    refine xx_getR (pc := 19) 97 dX6_arrive_19 sh_95 fX6_17_6 rfl rfl (by decide) ?_
    refine xx_iconst (pc := 22) dX6_arrive_22 cc_iconst_0 ?_
    refine xx_aload_nP (pc := 23) dX6_arrive_23 0 rfl rfl ?_
    refine xx_getR (pc := 24) 98 dX6_arrive_24 sh_95 fX6_21_6 rfl rfl (by decide) ?_
    refine xx_iconst (pc := 27) dX6_arrive_27 cc_iconst_0 ?_
    refine xx_aload_nP (pc := 28) dX6_arrive_28 0 rfl rfl ?_
    refine xx_getN (pc := 29) dX6_arrive_29 sh_95 fX6_51_6 rfl ?_
    refine xx_copyN (pc := 32) (st := []) rfl dX6_arrive_32 aX6_106 sh_97 sh_98 (by omega) (by omega) (by decide) ⟨Nat.le_of_ble_eq_true rfl, Nat.le_of_ble_eq_true rfl⟩ ?_
    refine xx_nw (fun w14 ew14 => ?_)
    have b32 : ∀ j, j ≠ 5 → j ≠ 6 → w14 95 j = w 95 j := fun j h5 h6 => by rw [ew14, wr_n _ (by omega)]; exact b15 j h5 h6
    have v32 : w14 95 5 = sum ∧ w14 95 6 = 0 := by rw [ew14, wr_n _ (by omega)]; exact v15
    have r32 : ∀ a, a ≠ 95 → a ≠ 98 → w14 a = w a := fun a h1 h2 => by rw [ew14, wr_n _ h2]; exact r15 a h1
    have f32 : ∀ j, j < w 95 4 → w14 98 j = w 97 j := fun j hj => by rw [ew14, wr_s]; unfold mo_cp; rw [if_pos (by omega), r15 97 (by omega), show 0 + (j - 0) = j by omega]
    refine xx_iload_n (pc := 35) dX6_arrive_35 1 rfl rfl ?_
    refine xx_aload_nP (pc := 36) dX6_arrive_36 0 rfl rfl ?_
    refine xx_getN (pc := 37) dX6_arrive_37 sh_95 fX6_65_6 rfl ?_
    refine xx_icmp_neN (pc := 40) 53 dX6_arrive_40 rfl (by omega) (by omega) (fun c15 => ?_) (fun c15 => ?_)
    · exact xx_sub [0, 1, 2, 3] rfl (j53 w14 (fun a h1 h2 => by first | (rw [ew14, wu_row _ _ _ h1]; exact r32 a h1 h2) | rw [ew14, wu_row _ _ _ h1] | exact r32 a h1 h2) (fun j h5 h6 => by first | (rw [ew14, wu_k _ _ _ _ h6]; exact b32 j h5 h6) | rw [ew14, wu_k _ _ _ _ h6] | exact b32 j h5 h6) (by first | (exfalso; omega) | (rw [if_pos (by omega), ew14, wu_k _ _ _ _ (by omega)]; exact v32.1) | (rw [if_neg (by omega), ew14, wu_k _ _ _ _ (by omega)])) (by first | (exfalso; omega) | (rw [if_pos (by omega), ew14, wu_s, v32.2, Nat.zero_add]) | (rw [if_neg (by omega), if_pos (by omega), ew14, wu_s])) (fun z => by first | exact absurd z (by omega) | (rw [ew14, wu_row _ _ _ (by omega)]; exact f32)) (fun z => by first | exact absurd (show w 95 5 = 4294967295 ∨ w 95 5 < sum by omega) z | rw [ew14, wu_row _ _ _ (by omega)]))
    · refine xx_aload_nP (pc := 43) dX6_arrive_43 0 rfl rfl ?_
      refine xx_dup (pc := 44) dX6_arrive_44 rfl ?_
      refine xx_getN (pc := 45) dX6_arrive_45 sh_95 fX6_68_6 rfl ?_
      refine xx_iload_n (pc := 48) dX6_arrive_48 3 rfl rfl ?_
      refine xx_iaddN (pc := 49) dX6_arrive_49 ?_
      refine xx_putN (pc := 50) dX6_arrive_50 sh_95 fX6_68_6 rfl rfl ?_
      refine xx_nw (fun w16 ew16 => ?_)
      exact xx_sub [0, 1, 2, 3] rfl (j53 w16 (fun a h1 h2 => by first | (rw [ew16, wu_row _ _ _ h1]; exact r32 a h1 h2) | rw [ew16, wu_row _ _ _ h1] | exact r32 a h1 h2) (fun j h5 h6 => by first | (rw [ew16, wu_k _ _ _ _ h6]; exact b32 j h5 h6) | rw [ew16, wu_k _ _ _ _ h6] | exact b32 j h5 h6) (by first | (exfalso; omega) | (rw [if_pos (by omega), ew16, wu_k _ _ _ _ (by omega)]; exact v32.1) | (rw [if_neg (by omega), ew16, wu_k _ _ _ _ (by omega)])) (by first | (exfalso; omega) | (rw [if_pos (by omega), ew16, wu_s, v32.2, Nat.zero_add]) | (rw [if_neg (by omega), if_pos (by omega), ew16, wu_s])) (fun z => by first | exact absurd z (by omega) | (rw [ew16, wu_row _ _ _ (by omega)]; exact f32)) (fun z => by first | exact absurd (show w 95 5 = 4294967295 ∨ w 95 5 < sum by omega) z | rw [ew16, wu_row _ _ _ (by omega)]))

