/-! plans -/
/-- a summary of plans: the numbers 16 to 21 of the reference, and the first best plan -/
abbrev mo_X : Type := (Nat → Nat) × (Nat → Nat)
abbrev mo_bt (p : Nat → Nat) (sum : Nat) : Prop := p 16 = 4294967295 ∨ p 16 < sum
def mo_u17 (p : Nat → Nat) (sum : Nat) : Nat := if mo_bt p sum then 1 else if sum = p 16 then p 17 + 1 else p 17
def mo_u20 (p : Nat → Nat) (few out : Nat) : Nat := if p 19 &&& (out ^^^ 4294967295) = 0 ∧ few < p 20 then few else p 20
def mo_up (x : mo_X) (k sum few out : Nat) (acts : Nat → Nat) : mo_X :=
  (fun j => if j = 16 then (if mo_bt x.1 sum then sum else x.1 16) else if j = 17 then mo_u17 x.1 sum else if j = 18 then (if mo_bt x.1 sum then k else x.1 18) else if j = 20 then mo_u20 x.1 few out else if j = 21 then x.1 21 ||| out else x.1 j, if mo_bt x.1 sum then acts else x.2)
def mo_fold (f : Nat → mo_X → mo_X) : Nat → mo_X → mo_X
  | 0, x => x
  | n + 1, x => f n (mo_fold f n x)
def mo_pln : Nat → (Nat → Nat) → Nat → Nat → Nat → (Nat → Nat) → mo_X → mo_X
  | 0, s, k, sum, few, acts, x => mo_up x k sum few (mo_outs s) acts
  | m + 1, s, k, sum, few, acts, x => if s 2 ≤ s 1 then mo_up x k sum few (mo_outs s) acts else mo_fold (fun a y => mo_pln m (mo_go s a) (k + 1) (sum + mo_worth s a) (if a = 0 then few else few + 1) (fu acts k a) y) (s 0 + 1) x
def mo_p0 (want : Nat) : Nat → Nat := fun j => if j = 16 then 4294967295 else if j = 19 then want else if j = 20 then 9 else 0
def mo_sm (s : Nat → Nat) (n want : Nat) : mo_X := mo_pln n s 0 0 0 (fun _ => 0) (mo_p0 want, fun _ => 0)
def mo_xr (w : ic_w) (x : mo_X) : Prop := (∀ j, 16 ≤ j → j ≤ 21 → w 114 j = x.1 j) ∧ (∀ j, j < x.1 18 → w 122 j = x.2 j) ∧ x.1 18 ≤ 4 ∧ (x.1 16 = 4294967295 ∨ x.1 16 ≤ 132) ∧ x.1 20 ≤ 9 ∧ x.1 19 < 64
def mo_ka (a : Nat) : Bool := decide (a ≠ 114 ∧ a ≠ 117 ∧ a ≠ 120 ∧ a ≠ 121 ∧ a ≠ 122)
def mo_xk (k : Nat) (w w2 : ic_w) : Prop := (∀ a, mo_ka a = true → w2 a = w a) ∧ (∀ j, j < 16 ∨ 21 < j → w2 114 j = w 114 j) ∧ (∀ j, j < 44 * k → w2 117 j = w 117 j) ∧ ∀ j, j < k → w2 121 j = w 121 j
theorem mo_xk_rf (k : Nat) (w : ic_w) : mo_xk k w w := ⟨fun _ _ => rfl, fun _ _ => rfl, fun _ _ => rfl, fun _ _ => rfl⟩
theorem mo_xk_tr {k : Nat} {w u v : ic_w} (h : mo_xk k w u) (g : mo_xk k u v) : mo_xk k w v := ⟨fun a q => (g.1 a q).trans (h.1 a q), fun a q => (g.2.1 a q).trans (h.2.1 a q), fun a q => (g.2.2.1 a q).trans (h.2.2.1 a q), fun a q => (g.2.2.2 a q).trans (h.2.2.2 a q)⟩
theorem mo_xk_u {k : Nat} {w u : ic_w} {o j v : Nat} (e : u = wu w o j v) (h : o = 122 ∨ (o = 114 ∧ 16 ≤ j ∧ j ≤ 21)) : mo_xk k w u := by
  rw [e]
  refine ⟨fun a q => wu_row _ _ _ (fun z => ?_), fun i q => ?_, fun i q => wu_o _ _ _ _ (by omega), fun i q => wu_o _ _ _ _ (by omega)⟩
  · rw [z] at q
    rcases h with rfl | ⟨rfl, _⟩ <;> revert q <;> decide
  · rcases h with rfl | ⟨rfl, h1, h2⟩
    · exact wu_o _ _ _ _ (by omega)
    · exact wu_k _ _ _ _ (by omega)
theorem mo_xk_115 {k : Nat} {w u : ic_w} (h : mo_xk k w u) : u 115 = w 115 := h.1 115 (by decide)
theorem pl_hR {d' d ml : Nat} (h : d' + 1 ≤ d) (hm : ml ≤ 29) : d' + 1 ≤ d ∧ 8 + (ml + 11) + 48 * d' ≤ 48 * d := by omega
theorem mo_up_r {w2 : ic_w} {x : mo_X} {w : ic_w} {k sum few out : Nat} {acts : Nat → Nat} (hx : mo_xr w x) (hk4 : k ≤ 4) (hs : sum ≤ 132) (hf : few ≤ 4)
    (h16 : w2 114 16 = if mo_bt x.1 sum then sum else x.1 16) (h17 : w2 114 17 = mo_u17 x.1 sum) (h18 : w2 114 18 = if mo_bt x.1 sum then k else x.1 18) (h19 : w2 114 19 = x.1 19) (h20 : w2 114 20 = mo_u20 x.1 few out) (h21 : w2 114 21 = x.1 21 ||| out)
    (hq : if mo_bt x.1 sum then (∀ j, j < k → w2 122 j = acts j) else (∀ j, j < x.1 18 → w2 122 j = x.2 j)) : mo_xr w2 (mo_up x k sum few out acts) := by
  obtain ⟨_, _, a3, a4, a5, a6⟩ := hx
  refine ⟨fun j q1 q2 => ?_, ?_, ?_, ?_, ?_, ?_⟩
  · rcases (show j = 16 ∨ j = 17 ∨ j = 18 ∨ j = 19 ∨ j = 20 ∨ j = 21 by omega) with rfl | rfl | rfl | rfl | rfl | rfl
    · exact h16
    · exact h17
    · exact h18
    · exact h19
    · exact h20
    · exact h21
  · by_cases b : mo_bt x.1 sum
    · rw [if_pos b] at hq
      show ∀ j, j < (if mo_bt x.1 sum then k else x.1 18) → w2 122 j = (if mo_bt x.1 sum then acts else x.2) j
      rw [if_pos b, if_pos b]
      exact hq
    · rw [if_neg b] at hq
      show ∀ j, j < (if mo_bt x.1 sum then k else x.1 18) → w2 122 j = (if mo_bt x.1 sum then acts else x.2) j
      rw [if_neg b, if_neg b]
      exact hq
  · show (if mo_bt x.1 sum then k else x.1 18) ≤ 4
    split <;> omega
  · show (if mo_bt x.1 sum then sum else x.1 16) = 4294967295 ∨ (if mo_bt x.1 sum then sum else x.1 16) ≤ 132
    split
    · omega
    · exact a4
  · show mo_u20 x.1 few out ≤ 9
    unfold mo_u20
    split <;> omega
  · exact a6

set_option maxHeartbeats 4000000 in
set_option maxRecDepth 100000 in
theorem xx_plans_leaf {l : Launch} {E : ic_E} {w : ic_w} {d k n sum few : Nat} {acts : Nat → Nat} {x : mo_X} {Q : Option Value → ic_H → Prop} (hk4 : k ≤ 4) (hn4 : n ≤ 4) (hd : 10 ≤ d) (hI : In (w 115)) (hs132 : sum ≤ 132) (hf4 : few ≤ 4) (hx : mo_xr w x) (ha : ∀ j, j < k → w 121 j = acts j) (hQ : ∀ w2, mo_xk k w w2 → mo_xr w2 (mo_up x k sum few (mo_outs (w 115)) acts) → Q none (hn w2)) : xx l E (ic_fr E mX12_plans d 0 0 False SHs Q) (0, 0) 12 [(0, ic_pt E 114), (1, .int (nI k)), (2, .int (nI n)), (3, .int (nI sum)), (4, .int (nI few))] [] SHs (hn w) := by
  have p16_w : w 114 16 = x.1 16 := hx.1 16 (by omega) (by omega)
  have p17_w : w 114 17 = x.1 17 := hx.1 17 (by omega) (by omega)
  have p18_w : w 114 18 = x.1 18 := hx.1 18 (by omega) (by omega)
  have p19_w : w 114 19 = x.1 19 := hx.1 19 (by omega) (by omega)
  have p20_w : w 114 20 = x.1 20 := hx.1 20 (by omega) (by omega)
  have p21_w : w 114 21 = x.1 21 := hx.1 21 (by omega) (by omega)
  have b18 := hx.2.2.1
  have b20 := hx.2.2.2.2.1
  have b19 := hx.2.2.2.2.2
  have xk_w := mo_xk_rf k w
  have t_w : w 121 = w 121 := rfl
  have q_w : w 122 = w 122 := rfl
  rcases hx.2.2.2.1 with b16 | b16
  · refine xx_iload_n (pc := 12) dX12_plans_12 3 rfl rfl ?_
    refine xx_aload_nP (pc := 13) dX12_plans_13 0 rfl rfl ?_
    refine xx_getN (pc := 14) dX12_plans_14 sh_114 fX12_276_12 rfl ?_
    refine xx_icmp_le (pc := 17) 64 dX12_plans_17 rfl (fun c1 => absurd c1 (by rw [p16_w, b16]; exact nI_nlem1 (by omega))) (fun c1 => ?_)
    refine xx_aload_nP (pc := 20) dX12_plans_20 0 rfl rfl ?_
    refine xx_iload_n (pc := 21) dX12_plans_21 3 rfl rfl ?_
    refine xx_putN (pc := 22) dX12_plans_22 sh_114 fX12_276_12 rfl rfl ?_
    refine xx_nw (fun w2 ew2 => ?_)
    have p17_w2 : w2 114 17 = x.1 17 := by rw [ew2, wu_k _ _ _ _ (by omega)]; exact p17_w
    have p18_w2 : w2 114 18 = x.1 18 := by rw [ew2, wu_k _ _ _ _ (by omega)]; exact p18_w
    have p19_w2 : w2 114 19 = x.1 19 := by rw [ew2, wu_k _ _ _ _ (by omega)]; exact p19_w
    have p20_w2 : w2 114 20 = x.1 20 := by rw [ew2, wu_k _ _ _ _ (by omega)]; exact p20_w
    have p21_w2 : w2 114 21 = x.1 21 := by rw [ew2, wu_k _ _ _ _ (by omega)]; exact p21_w
    have p16_w2 : w2 114 16 = sum := by rw [ew2, wu_s]
    have t_w2 : w2 121 = w 121 := by rw [ew2, wu_row _ _ _ (by omega)]
    have q_w2 : w2 122 = w 122 := by rw [ew2, wu_row _ _ _ (by omega)]
    have xk_w2 : mo_xk k w w2 := mo_xk_tr xk_w (mo_xk_u ew2 (by omega))
    refine xx_aload_nP (pc := 25) dX12_plans_25 0 rfl rfl ?_
    refine xx_iconst (pc := 26) dX12_plans_26 cc_iconst_0 ?_
    refine xx_putN (pc := 27) dX12_plans_27 sh_114 fX12_279_12 rfl rfl ?_
    refine xx_nw (fun w3 ew3 => ?_)
    have p16_w3 : w3 114 16 = sum := by rw [ew3, wu_k _ _ _ _ (by omega)]; exact p16_w2
    have p18_w3 : w3 114 18 = x.1 18 := by rw [ew3, wu_k _ _ _ _ (by omega)]; exact p18_w2
    have p19_w3 : w3 114 19 = x.1 19 := by rw [ew3, wu_k _ _ _ _ (by omega)]; exact p19_w2
    have p20_w3 : w3 114 20 = x.1 20 := by rw [ew3, wu_k _ _ _ _ (by omega)]; exact p20_w2
    have p21_w3 : w3 114 21 = x.1 21 := by rw [ew3, wu_k _ _ _ _ (by omega)]; exact p21_w2
    have p17_w3 : w3 114 17 = 0 := by rw [ew3, wu_s]
    have t_w3 : w3 121 = w 121 := by rw [ew3, wu_row _ _ _ (by omega)]; exact t_w2
    have q_w3 : w3 122 = w 122 := by rw [ew3, wu_row _ _ _ (by omega)]; exact q_w2
    have xk_w3 : mo_xk k w w3 := mo_xk_tr xk_w2 (mo_xk_u ew3 (by omega))
    refine xx_aload_nP (pc := 30) dX12_plans_30 0 rfl rfl ?_
    refine xx_iload_n (pc := 31) dX12_plans_31 1 rfl rfl ?_
    refine xx_putN (pc := 32) dX12_plans_32 sh_114 fX12_282_12 rfl rfl ?_
    refine xx_nw (fun w4 ew4 => ?_)
    have p16_w4 : w4 114 16 = sum := by rw [ew4, wu_k _ _ _ _ (by omega)]; exact p16_w3
    have p17_w4 : w4 114 17 = 0 := by rw [ew4, wu_k _ _ _ _ (by omega)]; exact p17_w3
    have p19_w4 : w4 114 19 = x.1 19 := by rw [ew4, wu_k _ _ _ _ (by omega)]; exact p19_w3
    have p20_w4 : w4 114 20 = x.1 20 := by rw [ew4, wu_k _ _ _ _ (by omega)]; exact p20_w3
    have p21_w4 : w4 114 21 = x.1 21 := by rw [ew4, wu_k _ _ _ _ (by omega)]; exact p21_w3
    have p18_w4 : w4 114 18 = k := by rw [ew4, wu_s]
    have t_w4 : w4 121 = w 121 := by rw [ew4, wu_row _ _ _ (by omega)]; exact t_w3
    have q_w4 : w4 122 = w 122 := by rw [ew4, wu_row _ _ _ (by omega)]; exact q_w3
    have xk_w4 : mo_xk k w w4 := mo_xk_tr xk_w3 (mo_xk_u ew4 (by omega))
    refine xx_iconst (pc := 35) dX12_plans_35 cc_iconst_0 ?_
    refine xx_istore (L' := [(5, .int (nI 0)), (0, ic_pt E 114), (1, .int (nI k)), (2, .int (nI n)), (3, .int (nI sum)), (4, .int (nI few))]) (pc := 36) dX12_plans_36 (Nat.le_of_ble_eq_true rfl) rfl ?_
    refine xx_iload (pc := 38) dX12_plans_38 0 rfl ?_
    refine xx_iconst (pc := 40) dX12_plans_40 cc_iconst_4 ?_
    refine xx_icmp_geN (pc := 41) 64 dX12_plans_41 rfl (by omega) (by omega) (fun c5 => by exfalso; omega) (fun c5 => ?_)
    refine xx_aload_nP (pc := 44) dX12_plans_44 1 rfl rfl ?_
    refine xx_getR (pc := 45) 122 dX12_plans_45 sh_114 fX12_31_12 rfl rfl (by decide) ?_
    refine xx_iload (pc := 48) dX12_plans_48 0 rfl ?_
    refine xx_aload_nP (pc := 50) dX12_plans_50 1 rfl rfl ?_
    refine xx_getR (pc := 51) 121 dX12_plans_51 sh_114 fX12_28_12 rfl rfl (by decide) ?_
    refine xx_iload (pc := 54) dX12_plans_54 0 rfl ?_
    refine xx_ialdN (pc := 56) dX12_plans_56 sh_121 (by omega) (by decide) ?_
    refine xx_iastN (pc := 57) dX12_plans_57 sh_122 (by omega) (by decide) ?_
    refine xx_nw (fun w6 ew6 => ?_)
    have p16_w6 : w6 114 16 = sum := by rw [ew6, wu_o _ _ _ _ (by omega)]; exact p16_w4
    have p17_w6 : w6 114 17 = 0 := by rw [ew6, wu_o _ _ _ _ (by omega)]; exact p17_w4
    have p18_w6 : w6 114 18 = k := by rw [ew6, wu_o _ _ _ _ (by omega)]; exact p18_w4
    have p19_w6 : w6 114 19 = x.1 19 := by rw [ew6, wu_o _ _ _ _ (by omega)]; exact p19_w4
    have p20_w6 : w6 114 20 = x.1 20 := by rw [ew6, wu_o _ _ _ _ (by omega)]; exact p20_w4
    have p21_w6 : w6 114 21 = x.1 21 := by rw [ew6, wu_o _ _ _ _ (by omega)]; exact p21_w4
    have t_w6 : w6 121 = w 121 := by rw [ew6, wu_row _ _ _ (by omega)]; exact t_w4
    have q0_w6 : w6 122 0 = w 121 0 := by rw [ew6, wu_s, t_w4]
    have xk_w6 : mo_xk k w w6 := mo_xk_tr xk_w4 (mo_xk_u ew6 (by omega))
    refine xx_iincN (L' := [(5, .int (nI 1)), (0, ic_pt E 114), (1, .int (nI k)), (2, .int (nI n)), (3, .int (nI sum)), (4, .int (nI few))]) (pc := 58) dX12_plans_58 0 rfl cc_iconst_1 (Nat.le_of_ble_eq_true rfl) rfl ?_
    refine xx_goto (pc := 61) 38 dX12_plans_61 rfl ?_
    refine xx_iload (pc := 38) dX12_plans_38 0 rfl ?_
    refine xx_iconst (pc := 40) dX12_plans_40 cc_iconst_4 ?_
    refine xx_icmp_geN (pc := 41) 64 dX12_plans_41 rfl (by omega) (by omega) (fun c7 => by exfalso; omega) (fun c7 => ?_)
    refine xx_aload_nP (pc := 44) dX12_plans_44 1 rfl rfl ?_
    refine xx_getR (pc := 45) 122 dX12_plans_45 sh_114 fX12_31_12 rfl rfl (by decide) ?_
    refine xx_iload (pc := 48) dX12_plans_48 0 rfl ?_
    refine xx_aload_nP (pc := 50) dX12_plans_50 1 rfl rfl ?_
    refine xx_getR (pc := 51) 121 dX12_plans_51 sh_114 fX12_28_12 rfl rfl (by decide) ?_
    refine xx_iload (pc := 54) dX12_plans_54 0 rfl ?_
    refine xx_ialdN (pc := 56) dX12_plans_56 sh_121 (by omega) (by decide) ?_
    refine xx_iastN (pc := 57) dX12_plans_57 sh_122 (by omega) (by decide) ?_
    refine xx_nw (fun w8 ew8 => ?_)
    have p16_w8 : w8 114 16 = sum := by rw [ew8, wu_o _ _ _ _ (by omega)]; exact p16_w6
    have p17_w8 : w8 114 17 = 0 := by rw [ew8, wu_o _ _ _ _ (by omega)]; exact p17_w6
    have p18_w8 : w8 114 18 = k := by rw [ew8, wu_o _ _ _ _ (by omega)]; exact p18_w6
    have p19_w8 : w8 114 19 = x.1 19 := by rw [ew8, wu_o _ _ _ _ (by omega)]; exact p19_w6
    have p20_w8 : w8 114 20 = x.1 20 := by rw [ew8, wu_o _ _ _ _ (by omega)]; exact p20_w6
    have p21_w8 : w8 114 21 = x.1 21 := by rw [ew8, wu_o _ _ _ _ (by omega)]; exact p21_w6
    have t_w8 : w8 121 = w 121 := by rw [ew8, wu_row _ _ _ (by omega)]; exact t_w6
    have q0_w8 : w8 122 0 = w 121 0 := by rw [ew8, wu_k _ _ _ _ (by omega)]; exact q0_w6
    have q1_w8 : w8 122 1 = w 121 1 := by rw [ew8, wu_s, t_w6]
    have xk_w8 : mo_xk k w w8 := mo_xk_tr xk_w6 (mo_xk_u ew8 (by omega))
    refine xx_iincN (L' := [(5, .int (nI 2)), (0, ic_pt E 114), (1, .int (nI k)), (2, .int (nI n)), (3, .int (nI sum)), (4, .int (nI few))]) (pc := 58) dX12_plans_58 0 rfl cc_iconst_1 (Nat.le_of_ble_eq_true rfl) rfl ?_
    refine xx_goto (pc := 61) 38 dX12_plans_61 rfl ?_
    refine xx_iload (pc := 38) dX12_plans_38 0 rfl ?_
    refine xx_iconst (pc := 40) dX12_plans_40 cc_iconst_4 ?_
    refine xx_icmp_geN (pc := 41) 64 dX12_plans_41 rfl (by omega) (by omega) (fun c9 => by exfalso; omega) (fun c9 => ?_)
    refine xx_aload_nP (pc := 44) dX12_plans_44 1 rfl rfl ?_
    refine xx_getR (pc := 45) 122 dX12_plans_45 sh_114 fX12_31_12 rfl rfl (by decide) ?_
    refine xx_iload (pc := 48) dX12_plans_48 0 rfl ?_
    refine xx_aload_nP (pc := 50) dX12_plans_50 1 rfl rfl ?_
    refine xx_getR (pc := 51) 121 dX12_plans_51 sh_114 fX12_28_12 rfl rfl (by decide) ?_
    refine xx_iload (pc := 54) dX12_plans_54 0 rfl ?_
    refine xx_ialdN (pc := 56) dX12_plans_56 sh_121 (by omega) (by decide) ?_
    refine xx_iastN (pc := 57) dX12_plans_57 sh_122 (by omega) (by decide) ?_
    refine xx_nw (fun w10 ew10 => ?_)
    have p16_w10 : w10 114 16 = sum := by rw [ew10, wu_o _ _ _ _ (by omega)]; exact p16_w8
    have p17_w10 : w10 114 17 = 0 := by rw [ew10, wu_o _ _ _ _ (by omega)]; exact p17_w8
    have p18_w10 : w10 114 18 = k := by rw [ew10, wu_o _ _ _ _ (by omega)]; exact p18_w8
    have p19_w10 : w10 114 19 = x.1 19 := by rw [ew10, wu_o _ _ _ _ (by omega)]; exact p19_w8
    have p20_w10 : w10 114 20 = x.1 20 := by rw [ew10, wu_o _ _ _ _ (by omega)]; exact p20_w8
    have p21_w10 : w10 114 21 = x.1 21 := by rw [ew10, wu_o _ _ _ _ (by omega)]; exact p21_w8
    have t_w10 : w10 121 = w 121 := by rw [ew10, wu_row _ _ _ (by omega)]; exact t_w8
    have q0_w10 : w10 122 0 = w 121 0 := by rw [ew10, wu_k _ _ _ _ (by omega)]; exact q0_w8
    have q1_w10 : w10 122 1 = w 121 1 := by rw [ew10, wu_k _ _ _ _ (by omega)]; exact q1_w8
    have q2_w10 : w10 122 2 = w 121 2 := by rw [ew10, wu_s, t_w8]
    have xk_w10 : mo_xk k w w10 := mo_xk_tr xk_w8 (mo_xk_u ew10 (by omega))
    refine xx_iincN (L' := [(5, .int (nI 3)), (0, ic_pt E 114), (1, .int (nI k)), (2, .int (nI n)), (3, .int (nI sum)), (4, .int (nI few))]) (pc := 58) dX12_plans_58 0 rfl cc_iconst_1 (Nat.le_of_ble_eq_true rfl) rfl ?_
    refine xx_goto (pc := 61) 38 dX12_plans_61 rfl ?_
    refine xx_iload (pc := 38) dX12_plans_38 0 rfl ?_
    refine xx_iconst (pc := 40) dX12_plans_40 cc_iconst_4 ?_
    refine xx_icmp_geN (pc := 41) 64 dX12_plans_41 rfl (by omega) (by omega) (fun c11 => by exfalso; omega) (fun c11 => ?_)
    refine xx_aload_nP (pc := 44) dX12_plans_44 1 rfl rfl ?_
    refine xx_getR (pc := 45) 122 dX12_plans_45 sh_114 fX12_31_12 rfl rfl (by decide) ?_
    refine xx_iload (pc := 48) dX12_plans_48 0 rfl ?_
    refine xx_aload_nP (pc := 50) dX12_plans_50 1 rfl rfl ?_
    refine xx_getR (pc := 51) 121 dX12_plans_51 sh_114 fX12_28_12 rfl rfl (by decide) ?_
    refine xx_iload (pc := 54) dX12_plans_54 0 rfl ?_
    refine xx_ialdN (pc := 56) dX12_plans_56 sh_121 (by omega) (by decide) ?_
    refine xx_iastN (pc := 57) dX12_plans_57 sh_122 (by omega) (by decide) ?_
    refine xx_nw (fun w12 ew12 => ?_)
    have p16_w12 : w12 114 16 = sum := by rw [ew12, wu_o _ _ _ _ (by omega)]; exact p16_w10
    have p17_w12 : w12 114 17 = 0 := by rw [ew12, wu_o _ _ _ _ (by omega)]; exact p17_w10
    have p18_w12 : w12 114 18 = k := by rw [ew12, wu_o _ _ _ _ (by omega)]; exact p18_w10
    have p19_w12 : w12 114 19 = x.1 19 := by rw [ew12, wu_o _ _ _ _ (by omega)]; exact p19_w10
    have p20_w12 : w12 114 20 = x.1 20 := by rw [ew12, wu_o _ _ _ _ (by omega)]; exact p20_w10
    have p21_w12 : w12 114 21 = x.1 21 := by rw [ew12, wu_o _ _ _ _ (by omega)]; exact p21_w10
    have t_w12 : w12 121 = w 121 := by rw [ew12, wu_row _ _ _ (by omega)]; exact t_w10
    have q0_w12 : w12 122 0 = w 121 0 := by rw [ew12, wu_k _ _ _ _ (by omega)]; exact q0_w10
    have q1_w12 : w12 122 1 = w 121 1 := by rw [ew12, wu_k _ _ _ _ (by omega)]; exact q1_w10
    have q2_w12 : w12 122 2 = w 121 2 := by rw [ew12, wu_k _ _ _ _ (by omega)]; exact q2_w10
    have q3_w12 : w12 122 3 = w 121 3 := by rw [ew12, wu_s, t_w10]
    have xk_w12 : mo_xk k w w12 := mo_xk_tr xk_w10 (mo_xk_u ew12 (by omega))
    refine xx_iincN (L' := [(5, .int (nI 4)), (0, ic_pt E 114), (1, .int (nI k)), (2, .int (nI n)), (3, .int (nI sum)), (4, .int (nI few))]) (pc := 58) dX12_plans_58 0 rfl cc_iconst_1 (Nat.le_of_ble_eq_true rfl) rfl ?_
    refine xx_goto (pc := 61) 38 dX12_plans_61 rfl ?_
    refine xx_iload (pc := 38) dX12_plans_38 0 rfl ?_
    refine xx_iconst (pc := 40) dX12_plans_40 cc_iconst_4 ?_
    refine xx_icmp_geN (pc := 41) 64 dX12_plans_41 rfl (by omega) (by omega) (fun c13 => ?_) (fun c13 => by exfalso; omega)
    refine xx_aload_nP (pc := 64) dX12_plans_64 1 rfl rfl ?_
    refine xx_dup (pc := 65) dX12_plans_65 rfl ?_
    refine xx_getN (pc := 66) dX12_plans_66 sh_114 fX12_279_12 rfl ?_
    refine xx_iload_n (pc := 69) dX12_plans_69 4 rfl rfl ?_
    refine xx_aload_nP (pc := 70) dX12_plans_70 1 rfl rfl ?_
    refine xx_getN (pc := 71) dX12_plans_71 sh_114 fX12_276_12 rfl ?_
    refine xx_icmp_neN (pc := 74) 81 dX12_plans_74 rfl (by omega) (by omega) (fun c14 => by exfalso; omega) (fun c14 => ?_)
    refine xx_iconst (pc := 77) dX12_plans_77 cc_iconst_1 ?_
    refine xx_goto (pc := 78) 82 dX12_plans_78 rfl ?_
    refine xx_iaddN (pc := 82) dX12_plans_82 ?_
    refine xx_putN (pc := 83) dX12_plans_83 sh_114 fX12_279_12 rfl rfl ?_
    refine xx_nw (fun w15 ew15 => ?_)
    have p16_w15 : w15 114 16 = sum := by rw [ew15, wu_k _ _ _ _ (by omega)]; exact p16_w12
    have p18_w15 : w15 114 18 = k := by rw [ew15, wu_k _ _ _ _ (by omega)]; exact p18_w12
    have p19_w15 : w15 114 19 = x.1 19 := by rw [ew15, wu_k _ _ _ _ (by omega)]; exact p19_w12
    have p20_w15 : w15 114 20 = x.1 20 := by rw [ew15, wu_k _ _ _ _ (by omega)]; exact p20_w12
    have p21_w15 : w15 114 21 = x.1 21 := by rw [ew15, wu_k _ _ _ _ (by omega)]; exact p21_w12
    have p17_w15 : w15 114 17 = (0) + 1 := by rw [ew15, wu_s, p17_w12]
    have t_w15 : w15 121 = w 121 := by rw [ew15, wu_row _ _ _ (by omega)]; exact t_w12
    have q0_w15 : w15 122 0 = w 121 0 := by rw [ew15, wu_o _ _ _ _ (by omega)]; exact q0_w12
    have q1_w15 : w15 122 1 = w 121 1 := by rw [ew15, wu_o _ _ _ _ (by omega)]; exact q1_w12
    have q2_w15 : w15 122 2 = w 121 2 := by rw [ew15, wu_o _ _ _ _ (by omega)]; exact q2_w12
    have q3_w15 : w15 122 3 = w 121 3 := by rw [ew15, wu_o _ _ _ _ (by omega)]; exact q3_w12
    have xk_w15 : mo_xk k w w15 := mo_xk_tr xk_w12 (mo_xk_u ew15 (by omega))
    have r_w15 : w15 115 = w 115 := mo_xk_115 xk_w15
    have hI_w15 : In (w15 115) := by rw [r_w15]; exact hI
    refine xx_aload_nP (pc := 86) dX12_plans_86 1 rfl rfl ?_
    refine xx_callV0 (pc := 87) (st := []) sh_114 ((by have z := cM_outOnes (l := l) (E := E) (w := w15) hI_w15; rw [r_w15] at z; exact z : ic_C l E mX12_outOnes 2 0 0 False [ic_pt E 114] SHs (hn w15) SHs (ic_qe (nI (mo_outs (w 115))) (hn w15)))) kX12_outOnes vX12_144_12 dX12_plans_87 rfl rfl (Nat.le_of_ble_eq_true rfl) (pl_hR (d := d) (by omega) (Nat.le_of_ble_eq_true rfl)) ⟨Nat.zero_le _, Nat.zero_le _⟩ (ic_ke ?_)
    refine xx_istore (L' := [(5, .int (nI (mo_outs (w 115)))), (0, ic_pt E 114), (1, .int (nI k)), (2, .int (nI n)), (3, .int (nI sum)), (4, .int (nI few))]) (pc := 90) dX12_plans_90 (Nat.le_of_ble_eq_true rfl) rfl ?_
    refine xx_aload_nP (pc := 92) dX12_plans_92 1 rfl rfl ?_
    refine xx_dup (pc := 93) dX12_plans_93 rfl ?_
    refine xx_getN (pc := 94) dX12_plans_94 sh_114 fX12_285_12 rfl ?_
    refine xx_iload (pc := 97) dX12_plans_97 0 rfl ?_
    refine xx_iorN (pc := 99) dX12_plans_99 ?_
    refine xx_putN (pc := 100) dX12_plans_100 sh_114 fX12_285_12 rfl rfl ?_
    refine xx_nw (fun w16 ew16 => ?_)
    have p16_w16 : w16 114 16 = sum := by rw [ew16, wu_k _ _ _ _ (by omega)]; exact p16_w15
    have p17_w16 : w16 114 17 = (0) + 1 := by rw [ew16, wu_k _ _ _ _ (by omega)]; exact p17_w15
    have p18_w16 : w16 114 18 = k := by rw [ew16, wu_k _ _ _ _ (by omega)]; exact p18_w15
    have p19_w16 : w16 114 19 = x.1 19 := by rw [ew16, wu_k _ _ _ _ (by omega)]; exact p19_w15
    have p20_w16 : w16 114 20 = x.1 20 := by rw [ew16, wu_k _ _ _ _ (by omega)]; exact p20_w15
    have p21_w16 : w16 114 21 = ((x.1 21)) ||| (mo_outs (w 115)) := by rw [ew16, wu_s, p21_w15]
    have t_w16 : w16 121 = w 121 := by rw [ew16, wu_row _ _ _ (by omega)]; exact t_w15
    have q0_w16 : w16 122 0 = w 121 0 := by rw [ew16, wu_o _ _ _ _ (by omega)]; exact q0_w15
    have q1_w16 : w16 122 1 = w 121 1 := by rw [ew16, wu_o _ _ _ _ (by omega)]; exact q1_w15
    have q2_w16 : w16 122 2 = w 121 2 := by rw [ew16, wu_o _ _ _ _ (by omega)]; exact q2_w15
    have q3_w16 : w16 122 3 = w 121 3 := by rw [ew16, wu_o _ _ _ _ (by omega)]; exact q3_w15
    have xk_w16 : mo_xk k w w16 := mo_xk_tr xk_w15 (mo_xk_u ew16 (by omega))
    refine xx_aload_nP (pc := 103) dX12_plans_103 1 rfl rfl ?_
    refine xx_aload_nP (pc := 104) dX12_plans_104 1 rfl rfl ?_
    refine xx_getN (pc := 105) dX12_plans_105 sh_114 fX12_288_12 rfl ?_
    refine xx_iload (pc := 108) dX12_plans_108 0 rfl ?_
    refine xx_iconst (pc := 110) dX12_plans_110 cc_iconst_m1 ?_
    refine xx_ixorN (pc := 111) dX12_plans_111 ?_
    refine xx_iandN (pc := 112) dX12_plans_112 ?_
    refine xx_if_neN (pc := 113) 130 dX12_plans_113 rfl (by have := Nat.and_le_left (n := w16 114 19) (m := mo_outs (w 115) ^^^ 4294967295); omega) (fun c17 => ?_) (fun c17 => ?_)
    · rw [p19_w16] at c17
      refine xx_aload_nP (pc := 130) dX12_plans_130 1 rfl rfl ?_
      refine xx_getN (pc := 131) dX12_plans_131 sh_114 fX12_291_12 rfl ?_
      refine xx_putN (pc := 134) dX12_plans_134 sh_114 fX12_291_12 rfl rfl ?_
      refine xx_nw (fun w18 ew18 => ?_)
      have p16_w18 : w18 114 16 = sum := by rw [ew18, wu_k _ _ _ _ (by omega)]; exact p16_w16
      have p17_w18 : w18 114 17 = (0) + 1 := by rw [ew18, wu_k _ _ _ _ (by omega)]; exact p17_w16
      have p18_w18 : w18 114 18 = k := by rw [ew18, wu_k _ _ _ _ (by omega)]; exact p18_w16
      have p19_w18 : w18 114 19 = x.1 19 := by rw [ew18, wu_k _ _ _ _ (by omega)]; exact p19_w16
      have p21_w18 : w18 114 21 = ((x.1 21)) ||| (mo_outs (w 115)) := by rw [ew18, wu_k _ _ _ _ (by omega)]; exact p21_w16
      have p20_w18 : w18 114 20 = x.1 20 := by rw [ew18, wu_s, p20_w16]
      have t_w18 : w18 121 = w 121 := by rw [ew18, wu_row _ _ _ (by omega)]; exact t_w16
      have q0_w18 : w18 122 0 = w 121 0 := by rw [ew18, wu_o _ _ _ _ (by omega)]; exact q0_w16
      have q1_w18 : w18 122 1 = w 121 1 := by rw [ew18, wu_o _ _ _ _ (by omega)]; exact q1_w16
      have q2_w18 : w18 122 2 = w 121 2 := by rw [ew18, wu_o _ _ _ _ (by omega)]; exact q2_w16
      have q3_w18 : w18 122 3 = w 121 3 := by rw [ew18, wu_o _ _ _ _ (by omega)]; exact q3_w16
      have xk_w18 : mo_xk k w w18 := mo_xk_tr xk_w16 (mo_xk_u ew18 (by omega))
      exact xx_vret (pc := 137) dX12_plans_137 rfl (Nat.le_refl _) (Nat.le_refl _) (hQ w18 xk_w18 (mo_up_r hx hk4 hs132 hf4 (by rw [p16_w18]; first | exact (if_pos (by omega)).symm | exact (if_neg (by omega)).symm) (by rw [p17_w18, mo_u17]; first | exact (if_pos (by omega)).symm | exact ((if_neg (by omega)).trans (if_pos (by omega))).symm | exact ((if_neg (by omega)).trans (if_neg (by omega))).symm) (by rw [p18_w18]; first | exact (if_pos (by omega)).symm | exact (if_neg (by omega)).symm) p19_w18 (by rw [p20_w18, mo_u20]; first | exact (if_pos (by omega)).symm | exact (if_neg (by omega)).symm) (by rw [p21_w18]) (by rw [if_pos (by omega)]; intro j hj; rw [← ha j hj]; rcases (show j = 0 ∨ j = 1 ∨ j = 2 ∨ j = 3 by omega) with rfl | rfl | rfl | rfl; exact q0_w18; exact q1_w18; exact q2_w18; exact q3_w18)))
    · rw [p19_w16] at c17
      refine xx_iload (pc := 116) dX12_plans_116 5 rfl ?_
      refine xx_aload_nP (pc := 118) dX12_plans_118 1 rfl rfl ?_
      refine xx_getN (pc := 119) dX12_plans_119 sh_114 fX12_291_12 rfl ?_
      refine xx_icmp_geN (pc := 122) 130 dX12_plans_122 rfl (by omega) (by omega) (fun c19 => ?_) (fun c19 => ?_)
      · refine xx_aload_nP (pc := 130) dX12_plans_130 1 rfl rfl ?_
        refine xx_getN (pc := 131) dX12_plans_131 sh_114 fX12_291_12 rfl ?_
        refine xx_putN (pc := 134) dX12_plans_134 sh_114 fX12_291_12 rfl rfl ?_
        refine xx_nw (fun w20 ew20 => ?_)
        have p16_w20 : w20 114 16 = sum := by rw [ew20, wu_k _ _ _ _ (by omega)]; exact p16_w16
        have p17_w20 : w20 114 17 = (0) + 1 := by rw [ew20, wu_k _ _ _ _ (by omega)]; exact p17_w16
        have p18_w20 : w20 114 18 = k := by rw [ew20, wu_k _ _ _ _ (by omega)]; exact p18_w16
        have p19_w20 : w20 114 19 = x.1 19 := by rw [ew20, wu_k _ _ _ _ (by omega)]; exact p19_w16
        have p21_w20 : w20 114 21 = ((x.1 21)) ||| (mo_outs (w 115)) := by rw [ew20, wu_k _ _ _ _ (by omega)]; exact p21_w16
        have p20_w20 : w20 114 20 = x.1 20 := by rw [ew20, wu_s, p20_w16]
        have t_w20 : w20 121 = w 121 := by rw [ew20, wu_row _ _ _ (by omega)]; exact t_w16
        have q0_w20 : w20 122 0 = w 121 0 := by rw [ew20, wu_o _ _ _ _ (by omega)]; exact q0_w16
        have q1_w20 : w20 122 1 = w 121 1 := by rw [ew20, wu_o _ _ _ _ (by omega)]; exact q1_w16
        have q2_w20 : w20 122 2 = w 121 2 := by rw [ew20, wu_o _ _ _ _ (by omega)]; exact q2_w16
        have q3_w20 : w20 122 3 = w 121 3 := by rw [ew20, wu_o _ _ _ _ (by omega)]; exact q3_w16
        have xk_w20 : mo_xk k w w20 := mo_xk_tr xk_w16 (mo_xk_u ew20 (by omega))
        exact xx_vret (pc := 137) dX12_plans_137 rfl (Nat.le_refl _) (Nat.le_refl _) (hQ w20 xk_w20 (mo_up_r hx hk4 hs132 hf4 (by rw [p16_w20]; first | exact (if_pos (by omega)).symm | exact (if_neg (by omega)).symm) (by rw [p17_w20, mo_u17]; first | exact (if_pos (by omega)).symm | exact ((if_neg (by omega)).trans (if_pos (by omega))).symm | exact ((if_neg (by omega)).trans (if_neg (by omega))).symm) (by rw [p18_w20]; first | exact (if_pos (by omega)).symm | exact (if_neg (by omega)).symm) p19_w20 (by rw [p20_w20, mo_u20]; first | exact (if_pos (by omega)).symm | exact (if_neg (by omega)).symm) (by rw [p21_w20]) (by rw [if_pos (by omega)]; intro j hj; rw [← ha j hj]; rcases (show j = 0 ∨ j = 1 ∨ j = 2 ∨ j = 3 by omega) with rfl | rfl | rfl | rfl; exact q0_w20; exact q1_w20; exact q2_w20; exact q3_w20)))
      · refine xx_iload (pc := 125) dX12_plans_125 5 rfl ?_
        refine xx_goto (pc := 127) 134 dX12_plans_127 rfl ?_
        refine xx_putN (pc := 134) dX12_plans_134 sh_114 fX12_291_12 rfl rfl ?_
        refine xx_nw (fun w21 ew21 => ?_)
        have p16_w21 : w21 114 16 = sum := by rw [ew21, wu_k _ _ _ _ (by omega)]; exact p16_w16
        have p17_w21 : w21 114 17 = (0) + 1 := by rw [ew21, wu_k _ _ _ _ (by omega)]; exact p17_w16
        have p18_w21 : w21 114 18 = k := by rw [ew21, wu_k _ _ _ _ (by omega)]; exact p18_w16
        have p19_w21 : w21 114 19 = x.1 19 := by rw [ew21, wu_k _ _ _ _ (by omega)]; exact p19_w16
        have p21_w21 : w21 114 21 = ((x.1 21)) ||| (mo_outs (w 115)) := by rw [ew21, wu_k _ _ _ _ (by omega)]; exact p21_w16
        have p20_w21 : w21 114 20 = few := by rw [ew21, wu_s]
        have t_w21 : w21 121 = w 121 := by rw [ew21, wu_row _ _ _ (by omega)]; exact t_w16
        have q0_w21 : w21 122 0 = w 121 0 := by rw [ew21, wu_o _ _ _ _ (by omega)]; exact q0_w16
        have q1_w21 : w21 122 1 = w 121 1 := by rw [ew21, wu_o _ _ _ _ (by omega)]; exact q1_w16
        have q2_w21 : w21 122 2 = w 121 2 := by rw [ew21, wu_o _ _ _ _ (by omega)]; exact q2_w16
        have q3_w21 : w21 122 3 = w 121 3 := by rw [ew21, wu_o _ _ _ _ (by omega)]; exact q3_w16
        have xk_w21 : mo_xk k w w21 := mo_xk_tr xk_w16 (mo_xk_u ew21 (by omega))
        exact xx_vret (pc := 137) dX12_plans_137 rfl (Nat.le_refl _) (Nat.le_refl _) (hQ w21 xk_w21 (mo_up_r hx hk4 hs132 hf4 (by rw [p16_w21]; first | exact (if_pos (by omega)).symm | exact (if_neg (by omega)).symm) (by rw [p17_w21, mo_u17]; first | exact (if_pos (by omega)).symm | exact ((if_neg (by omega)).trans (if_pos (by omega))).symm | exact ((if_neg (by omega)).trans (if_neg (by omega))).symm) (by rw [p18_w21]; first | exact (if_pos (by omega)).symm | exact (if_neg (by omega)).symm) p19_w21 (by rw [p20_w21, mo_u20]; first | exact (if_pos (by omega)).symm | exact (if_neg (by omega)).symm) (by rw [p21_w21]) (by rw [if_pos (by omega)]; intro j hj; rw [← ha j hj]; rcases (show j = 0 ∨ j = 1 ∨ j = 2 ∨ j = 3 by omega) with rfl | rfl | rfl | rfl; exact q0_w21; exact q1_w21; exact q2_w21; exact q3_w21)))
  · refine xx_iload_n (pc := 12) dX12_plans_12 3 rfl rfl ?_
    refine xx_aload_nP (pc := 13) dX12_plans_13 0 rfl rfl ?_
    refine xx_getN (pc := 14) dX12_plans_14 sh_114 fX12_276_12 rfl ?_
    refine xx_icmp_leN (pc := 17) 64 dX12_plans_17 rfl (by omega) (by omega) (fun c101 => ?_) (fun c101 => ?_)
    · refine xx_aload_nP (pc := 64) dX12_plans_64 0 rfl rfl ?_
      refine xx_dup (pc := 65) dX12_plans_65 rfl ?_
      refine xx_getN (pc := 66) dX12_plans_66 sh_114 fX12_279_12 rfl ?_
      refine xx_iload_n (pc := 69) dX12_plans_69 3 rfl rfl ?_
      refine xx_aload_nP (pc := 70) dX12_plans_70 0 rfl rfl ?_
      refine xx_getN (pc := 71) dX12_plans_71 sh_114 fX12_276_12 rfl ?_
      refine xx_icmp_neN (pc := 74) 81 dX12_plans_74 rfl (by omega) (by omega) (fun c102 => ?_) (fun c102 => ?_)
      · refine xx_iconst (pc := 81) dX12_plans_81 cc_iconst_0 ?_
        refine xx_iaddN (pc := 82) dX12_plans_82 ?_
        refine xx_putN (pc := 83) dX12_plans_83 sh_114 fX12_279_12 rfl rfl ?_
        refine xx_nw (fun w103 ew103 => ?_)
        have p16_w103 : w103 114 16 = x.1 16 := by rw [ew103, wu_k _ _ _ _ (by omega)]; exact p16_w
        have p18_w103 : w103 114 18 = x.1 18 := by rw [ew103, wu_k _ _ _ _ (by omega)]; exact p18_w
        have p19_w103 : w103 114 19 = x.1 19 := by rw [ew103, wu_k _ _ _ _ (by omega)]; exact p19_w
        have p20_w103 : w103 114 20 = x.1 20 := by rw [ew103, wu_k _ _ _ _ (by omega)]; exact p20_w
        have p21_w103 : w103 114 21 = x.1 21 := by rw [ew103, wu_k _ _ _ _ (by omega)]; exact p21_w
        have p17_w103 : w103 114 17 = ((x.1 17)) + 0 := by rw [ew103, wu_s, p17_w]
        have t_w103 : w103 121 = w 121 := by rw [ew103, wu_row _ _ _ (by omega)]
        have q_w103 : w103 122 = w 122 := by rw [ew103, wu_row _ _ _ (by omega)]
        have xk_w103 : mo_xk k w w103 := mo_xk_tr xk_w (mo_xk_u ew103 (by omega))
        have r_w103 : w103 115 = w 115 := mo_xk_115 xk_w103
        have hI_w103 : In (w103 115) := by rw [r_w103]; exact hI
        refine xx_aload_nP (pc := 86) dX12_plans_86 0 rfl rfl ?_
        refine xx_callV0 (pc := 87) (st := []) sh_114 ((by have z := cM_outOnes (l := l) (E := E) (w := w103) hI_w103; rw [r_w103] at z; exact z : ic_C l E mX12_outOnes 2 0 0 False [ic_pt E 114] SHs (hn w103) SHs (ic_qe (nI (mo_outs (w 115))) (hn w103)))) kX12_outOnes vX12_144_12 dX12_plans_87 rfl rfl (Nat.le_of_ble_eq_true rfl) (pl_hR (d := d) (by omega) (Nat.le_of_ble_eq_true rfl)) ⟨Nat.zero_le _, Nat.zero_le _⟩ (ic_ke ?_)
        refine xx_istore (L' := [(5, .int (nI (mo_outs (w 115)))), (0, ic_pt E 114), (1, .int (nI k)), (2, .int (nI n)), (3, .int (nI sum)), (4, .int (nI few))]) (pc := 90) dX12_plans_90 (Nat.le_of_ble_eq_true rfl) rfl ?_
        refine xx_aload_nP (pc := 92) dX12_plans_92 1 rfl rfl ?_
        refine xx_dup (pc := 93) dX12_plans_93 rfl ?_
        refine xx_getN (pc := 94) dX12_plans_94 sh_114 fX12_285_12 rfl ?_
        refine xx_iload (pc := 97) dX12_plans_97 0 rfl ?_
        refine xx_iorN (pc := 99) dX12_plans_99 ?_
        refine xx_putN (pc := 100) dX12_plans_100 sh_114 fX12_285_12 rfl rfl ?_
        refine xx_nw (fun w104 ew104 => ?_)
        have p16_w104 : w104 114 16 = x.1 16 := by rw [ew104, wu_k _ _ _ _ (by omega)]; exact p16_w103
        have p17_w104 : w104 114 17 = ((x.1 17)) + 0 := by rw [ew104, wu_k _ _ _ _ (by omega)]; exact p17_w103
        have p18_w104 : w104 114 18 = x.1 18 := by rw [ew104, wu_k _ _ _ _ (by omega)]; exact p18_w103
        have p19_w104 : w104 114 19 = x.1 19 := by rw [ew104, wu_k _ _ _ _ (by omega)]; exact p19_w103
        have p20_w104 : w104 114 20 = x.1 20 := by rw [ew104, wu_k _ _ _ _ (by omega)]; exact p20_w103
        have p21_w104 : w104 114 21 = ((x.1 21)) ||| (mo_outs (w 115)) := by rw [ew104, wu_s, p21_w103]
        have t_w104 : w104 121 = w 121 := by rw [ew104, wu_row _ _ _ (by omega)]; exact t_w103
        have q_w104 : w104 122 = w 122 := by rw [ew104, wu_row _ _ _ (by omega)]; exact q_w103
        have xk_w104 : mo_xk k w w104 := mo_xk_tr xk_w103 (mo_xk_u ew104 (by omega))
        refine xx_aload_nP (pc := 103) dX12_plans_103 1 rfl rfl ?_
        refine xx_aload_nP (pc := 104) dX12_plans_104 1 rfl rfl ?_
        refine xx_getN (pc := 105) dX12_plans_105 sh_114 fX12_288_12 rfl ?_
        refine xx_iload (pc := 108) dX12_plans_108 0 rfl ?_
        refine xx_iconst (pc := 110) dX12_plans_110 cc_iconst_m1 ?_
        refine xx_ixorN (pc := 111) dX12_plans_111 ?_
        refine xx_iandN (pc := 112) dX12_plans_112 ?_
        refine xx_if_neN (pc := 113) 130 dX12_plans_113 rfl (by have := Nat.and_le_left (n := w104 114 19) (m := mo_outs (w 115) ^^^ 4294967295); omega) (fun c105 => ?_) (fun c105 => ?_)
        · rw [p19_w104] at c105
          refine xx_aload_nP (pc := 130) dX12_plans_130 1 rfl rfl ?_
          refine xx_getN (pc := 131) dX12_plans_131 sh_114 fX12_291_12 rfl ?_
          refine xx_putN (pc := 134) dX12_plans_134 sh_114 fX12_291_12 rfl rfl ?_
          refine xx_nw (fun w106 ew106 => ?_)
          have p16_w106 : w106 114 16 = x.1 16 := by rw [ew106, wu_k _ _ _ _ (by omega)]; exact p16_w104
          have p17_w106 : w106 114 17 = ((x.1 17)) + 0 := by rw [ew106, wu_k _ _ _ _ (by omega)]; exact p17_w104
          have p18_w106 : w106 114 18 = x.1 18 := by rw [ew106, wu_k _ _ _ _ (by omega)]; exact p18_w104
          have p19_w106 : w106 114 19 = x.1 19 := by rw [ew106, wu_k _ _ _ _ (by omega)]; exact p19_w104
          have p21_w106 : w106 114 21 = ((x.1 21)) ||| (mo_outs (w 115)) := by rw [ew106, wu_k _ _ _ _ (by omega)]; exact p21_w104
          have p20_w106 : w106 114 20 = x.1 20 := by rw [ew106, wu_s, p20_w104]
          have t_w106 : w106 121 = w 121 := by rw [ew106, wu_row _ _ _ (by omega)]; exact t_w104
          have q_w106 : w106 122 = w 122 := by rw [ew106, wu_row _ _ _ (by omega)]; exact q_w104
          have xk_w106 : mo_xk k w w106 := mo_xk_tr xk_w104 (mo_xk_u ew106 (by omega))
          exact xx_vret (pc := 137) dX12_plans_137 rfl (Nat.le_refl _) (Nat.le_refl _) (hQ w106 xk_w106 (mo_up_r hx hk4 hs132 hf4 (by rw [p16_w106]; first | exact (if_pos (by omega)).symm | exact (if_neg (by omega)).symm) (by rw [p17_w106, mo_u17]; first | exact (if_pos (by omega)).symm | exact ((if_neg (by omega)).trans (if_pos (by omega))).symm | exact ((if_neg (by omega)).trans (if_neg (by omega))).symm) (by rw [p18_w106]; first | exact (if_pos (by omega)).symm | exact (if_neg (by omega)).symm) p19_w106 (by rw [p20_w106, mo_u20]; first | exact (if_pos (by omega)).symm | exact (if_neg (by omega)).symm) (by rw [p21_w106]) (by rw [if_neg (by omega)]; intro j hj; rw [q_w106]; exact hx.2.1 j hj)))
        · rw [p19_w104] at c105
          refine xx_iload (pc := 116) dX12_plans_116 5 rfl ?_
          refine xx_aload_nP (pc := 118) dX12_plans_118 1 rfl rfl ?_
          refine xx_getN (pc := 119) dX12_plans_119 sh_114 fX12_291_12 rfl ?_
          refine xx_icmp_geN (pc := 122) 130 dX12_plans_122 rfl (by omega) (by omega) (fun c107 => ?_) (fun c107 => ?_)
          · refine xx_aload_nP (pc := 130) dX12_plans_130 1 rfl rfl ?_
            refine xx_getN (pc := 131) dX12_plans_131 sh_114 fX12_291_12 rfl ?_
            refine xx_putN (pc := 134) dX12_plans_134 sh_114 fX12_291_12 rfl rfl ?_
            refine xx_nw (fun w108 ew108 => ?_)
            have p16_w108 : w108 114 16 = x.1 16 := by rw [ew108, wu_k _ _ _ _ (by omega)]; exact p16_w104
            have p17_w108 : w108 114 17 = ((x.1 17)) + 0 := by rw [ew108, wu_k _ _ _ _ (by omega)]; exact p17_w104
            have p18_w108 : w108 114 18 = x.1 18 := by rw [ew108, wu_k _ _ _ _ (by omega)]; exact p18_w104
            have p19_w108 : w108 114 19 = x.1 19 := by rw [ew108, wu_k _ _ _ _ (by omega)]; exact p19_w104
            have p21_w108 : w108 114 21 = ((x.1 21)) ||| (mo_outs (w 115)) := by rw [ew108, wu_k _ _ _ _ (by omega)]; exact p21_w104
            have p20_w108 : w108 114 20 = x.1 20 := by rw [ew108, wu_s, p20_w104]
            have t_w108 : w108 121 = w 121 := by rw [ew108, wu_row _ _ _ (by omega)]; exact t_w104
            have q_w108 : w108 122 = w 122 := by rw [ew108, wu_row _ _ _ (by omega)]; exact q_w104
            have xk_w108 : mo_xk k w w108 := mo_xk_tr xk_w104 (mo_xk_u ew108 (by omega))
            exact xx_vret (pc := 137) dX12_plans_137 rfl (Nat.le_refl _) (Nat.le_refl _) (hQ w108 xk_w108 (mo_up_r hx hk4 hs132 hf4 (by rw [p16_w108]; first | exact (if_pos (by omega)).symm | exact (if_neg (by omega)).symm) (by rw [p17_w108, mo_u17]; first | exact (if_pos (by omega)).symm | exact ((if_neg (by omega)).trans (if_pos (by omega))).symm | exact ((if_neg (by omega)).trans (if_neg (by omega))).symm) (by rw [p18_w108]; first | exact (if_pos (by omega)).symm | exact (if_neg (by omega)).symm) p19_w108 (by rw [p20_w108, mo_u20]; first | exact (if_pos (by omega)).symm | exact (if_neg (by omega)).symm) (by rw [p21_w108]) (by rw [if_neg (by omega)]; intro j hj; rw [q_w108]; exact hx.2.1 j hj)))
          · refine xx_iload (pc := 125) dX12_plans_125 5 rfl ?_
            refine xx_goto (pc := 127) 134 dX12_plans_127 rfl ?_
            refine xx_putN (pc := 134) dX12_plans_134 sh_114 fX12_291_12 rfl rfl ?_
            refine xx_nw (fun w109 ew109 => ?_)
            have p16_w109 : w109 114 16 = x.1 16 := by rw [ew109, wu_k _ _ _ _ (by omega)]; exact p16_w104
            have p17_w109 : w109 114 17 = ((x.1 17)) + 0 := by rw [ew109, wu_k _ _ _ _ (by omega)]; exact p17_w104
            have p18_w109 : w109 114 18 = x.1 18 := by rw [ew109, wu_k _ _ _ _ (by omega)]; exact p18_w104
            have p19_w109 : w109 114 19 = x.1 19 := by rw [ew109, wu_k _ _ _ _ (by omega)]; exact p19_w104
            have p21_w109 : w109 114 21 = ((x.1 21)) ||| (mo_outs (w 115)) := by rw [ew109, wu_k _ _ _ _ (by omega)]; exact p21_w104
            have p20_w109 : w109 114 20 = few := by rw [ew109, wu_s]
            have t_w109 : w109 121 = w 121 := by rw [ew109, wu_row _ _ _ (by omega)]; exact t_w104
            have q_w109 : w109 122 = w 122 := by rw [ew109, wu_row _ _ _ (by omega)]; exact q_w104
            have xk_w109 : mo_xk k w w109 := mo_xk_tr xk_w104 (mo_xk_u ew109 (by omega))
            exact xx_vret (pc := 137) dX12_plans_137 rfl (Nat.le_refl _) (Nat.le_refl _) (hQ w109 xk_w109 (mo_up_r hx hk4 hs132 hf4 (by rw [p16_w109]; first | exact (if_pos (by omega)).symm | exact (if_neg (by omega)).symm) (by rw [p17_w109, mo_u17]; first | exact (if_pos (by omega)).symm | exact ((if_neg (by omega)).trans (if_pos (by omega))).symm | exact ((if_neg (by omega)).trans (if_neg (by omega))).symm) (by rw [p18_w109]; first | exact (if_pos (by omega)).symm | exact (if_neg (by omega)).symm) p19_w109 (by rw [p20_w109, mo_u20]; first | exact (if_pos (by omega)).symm | exact (if_neg (by omega)).symm) (by rw [p21_w109]) (by rw [if_neg (by omega)]; intro j hj; rw [q_w109]; exact hx.2.1 j hj)))
      · refine xx_iconst (pc := 77) dX12_plans_77 cc_iconst_1 ?_
        refine xx_goto (pc := 78) 82 dX12_plans_78 rfl ?_
        refine xx_iaddN (pc := 82) dX12_plans_82 ?_
        refine xx_putN (pc := 83) dX12_plans_83 sh_114 fX12_279_12 rfl rfl ?_
        refine xx_nw (fun w110 ew110 => ?_)
        have p16_w110 : w110 114 16 = x.1 16 := by rw [ew110, wu_k _ _ _ _ (by omega)]; exact p16_w
        have p18_w110 : w110 114 18 = x.1 18 := by rw [ew110, wu_k _ _ _ _ (by omega)]; exact p18_w
        have p19_w110 : w110 114 19 = x.1 19 := by rw [ew110, wu_k _ _ _ _ (by omega)]; exact p19_w
        have p20_w110 : w110 114 20 = x.1 20 := by rw [ew110, wu_k _ _ _ _ (by omega)]; exact p20_w
        have p21_w110 : w110 114 21 = x.1 21 := by rw [ew110, wu_k _ _ _ _ (by omega)]; exact p21_w
        have p17_w110 : w110 114 17 = ((x.1 17)) + 1 := by rw [ew110, wu_s, p17_w]
        have t_w110 : w110 121 = w 121 := by rw [ew110, wu_row _ _ _ (by omega)]
        have q_w110 : w110 122 = w 122 := by rw [ew110, wu_row _ _ _ (by omega)]
        have xk_w110 : mo_xk k w w110 := mo_xk_tr xk_w (mo_xk_u ew110 (by omega))
        have r_w110 : w110 115 = w 115 := mo_xk_115 xk_w110
        have hI_w110 : In (w110 115) := by rw [r_w110]; exact hI
        refine xx_aload_nP (pc := 86) dX12_plans_86 0 rfl rfl ?_
        refine xx_callV0 (pc := 87) (st := []) sh_114 ((by have z := cM_outOnes (l := l) (E := E) (w := w110) hI_w110; rw [r_w110] at z; exact z : ic_C l E mX12_outOnes 2 0 0 False [ic_pt E 114] SHs (hn w110) SHs (ic_qe (nI (mo_outs (w 115))) (hn w110)))) kX12_outOnes vX12_144_12 dX12_plans_87 rfl rfl (Nat.le_of_ble_eq_true rfl) (pl_hR (d := d) (by omega) (Nat.le_of_ble_eq_true rfl)) ⟨Nat.zero_le _, Nat.zero_le _⟩ (ic_ke ?_)
        refine xx_istore (L' := [(5, .int (nI (mo_outs (w 115)))), (0, ic_pt E 114), (1, .int (nI k)), (2, .int (nI n)), (3, .int (nI sum)), (4, .int (nI few))]) (pc := 90) dX12_plans_90 (Nat.le_of_ble_eq_true rfl) rfl ?_
        refine xx_aload_nP (pc := 92) dX12_plans_92 1 rfl rfl ?_
        refine xx_dup (pc := 93) dX12_plans_93 rfl ?_
        refine xx_getN (pc := 94) dX12_plans_94 sh_114 fX12_285_12 rfl ?_
        refine xx_iload (pc := 97) dX12_plans_97 0 rfl ?_
        refine xx_iorN (pc := 99) dX12_plans_99 ?_
        refine xx_putN (pc := 100) dX12_plans_100 sh_114 fX12_285_12 rfl rfl ?_
        refine xx_nw (fun w111 ew111 => ?_)
        have p16_w111 : w111 114 16 = x.1 16 := by rw [ew111, wu_k _ _ _ _ (by omega)]; exact p16_w110
        have p17_w111 : w111 114 17 = ((x.1 17)) + 1 := by rw [ew111, wu_k _ _ _ _ (by omega)]; exact p17_w110
        have p18_w111 : w111 114 18 = x.1 18 := by rw [ew111, wu_k _ _ _ _ (by omega)]; exact p18_w110
        have p19_w111 : w111 114 19 = x.1 19 := by rw [ew111, wu_k _ _ _ _ (by omega)]; exact p19_w110
        have p20_w111 : w111 114 20 = x.1 20 := by rw [ew111, wu_k _ _ _ _ (by omega)]; exact p20_w110
        have p21_w111 : w111 114 21 = ((x.1 21)) ||| (mo_outs (w 115)) := by rw [ew111, wu_s, p21_w110]
        have t_w111 : w111 121 = w 121 := by rw [ew111, wu_row _ _ _ (by omega)]; exact t_w110
        have q_w111 : w111 122 = w 122 := by rw [ew111, wu_row _ _ _ (by omega)]; exact q_w110
        have xk_w111 : mo_xk k w w111 := mo_xk_tr xk_w110 (mo_xk_u ew111 (by omega))
        refine xx_aload_nP (pc := 103) dX12_plans_103 1 rfl rfl ?_
        refine xx_aload_nP (pc := 104) dX12_plans_104 1 rfl rfl ?_
        refine xx_getN (pc := 105) dX12_plans_105 sh_114 fX12_288_12 rfl ?_
        refine xx_iload (pc := 108) dX12_plans_108 0 rfl ?_
        refine xx_iconst (pc := 110) dX12_plans_110 cc_iconst_m1 ?_
        refine xx_ixorN (pc := 111) dX12_plans_111 ?_
        refine xx_iandN (pc := 112) dX12_plans_112 ?_
        refine xx_if_neN (pc := 113) 130 dX12_plans_113 rfl (by have := Nat.and_le_left (n := w111 114 19) (m := mo_outs (w 115) ^^^ 4294967295); omega) (fun c112 => ?_) (fun c112 => ?_)
        · rw [p19_w111] at c112
          refine xx_aload_nP (pc := 130) dX12_plans_130 1 rfl rfl ?_
          refine xx_getN (pc := 131) dX12_plans_131 sh_114 fX12_291_12 rfl ?_
          refine xx_putN (pc := 134) dX12_plans_134 sh_114 fX12_291_12 rfl rfl ?_
          refine xx_nw (fun w113 ew113 => ?_)
          have p16_w113 : w113 114 16 = x.1 16 := by rw [ew113, wu_k _ _ _ _ (by omega)]; exact p16_w111
          have p17_w113 : w113 114 17 = ((x.1 17)) + 1 := by rw [ew113, wu_k _ _ _ _ (by omega)]; exact p17_w111
          have p18_w113 : w113 114 18 = x.1 18 := by rw [ew113, wu_k _ _ _ _ (by omega)]; exact p18_w111
          have p19_w113 : w113 114 19 = x.1 19 := by rw [ew113, wu_k _ _ _ _ (by omega)]; exact p19_w111
          have p21_w113 : w113 114 21 = ((x.1 21)) ||| (mo_outs (w 115)) := by rw [ew113, wu_k _ _ _ _ (by omega)]; exact p21_w111
          have p20_w113 : w113 114 20 = x.1 20 := by rw [ew113, wu_s, p20_w111]
          have t_w113 : w113 121 = w 121 := by rw [ew113, wu_row _ _ _ (by omega)]; exact t_w111
          have q_w113 : w113 122 = w 122 := by rw [ew113, wu_row _ _ _ (by omega)]; exact q_w111
          have xk_w113 : mo_xk k w w113 := mo_xk_tr xk_w111 (mo_xk_u ew113 (by omega))
          exact xx_vret (pc := 137) dX12_plans_137 rfl (Nat.le_refl _) (Nat.le_refl _) (hQ w113 xk_w113 (mo_up_r hx hk4 hs132 hf4 (by rw [p16_w113]; first | exact (if_pos (by omega)).symm | exact (if_neg (by omega)).symm) (by rw [p17_w113, mo_u17]; first | exact (if_pos (by omega)).symm | exact ((if_neg (by omega)).trans (if_pos (by omega))).symm | exact ((if_neg (by omega)).trans (if_neg (by omega))).symm) (by rw [p18_w113]; first | exact (if_pos (by omega)).symm | exact (if_neg (by omega)).symm) p19_w113 (by rw [p20_w113, mo_u20]; first | exact (if_pos (by omega)).symm | exact (if_neg (by omega)).symm) (by rw [p21_w113]) (by rw [if_neg (by omega)]; intro j hj; rw [q_w113]; exact hx.2.1 j hj)))
        · rw [p19_w111] at c112
          refine xx_iload (pc := 116) dX12_plans_116 5 rfl ?_
          refine xx_aload_nP (pc := 118) dX12_plans_118 1 rfl rfl ?_
          refine xx_getN (pc := 119) dX12_plans_119 sh_114 fX12_291_12 rfl ?_
          refine xx_icmp_geN (pc := 122) 130 dX12_plans_122 rfl (by omega) (by omega) (fun c114 => ?_) (fun c114 => ?_)
          · refine xx_aload_nP (pc := 130) dX12_plans_130 1 rfl rfl ?_
            refine xx_getN (pc := 131) dX12_plans_131 sh_114 fX12_291_12 rfl ?_
            refine xx_putN (pc := 134) dX12_plans_134 sh_114 fX12_291_12 rfl rfl ?_
            refine xx_nw (fun w115 ew115 => ?_)
            have p16_w115 : w115 114 16 = x.1 16 := by rw [ew115, wu_k _ _ _ _ (by omega)]; exact p16_w111
            have p17_w115 : w115 114 17 = ((x.1 17)) + 1 := by rw [ew115, wu_k _ _ _ _ (by omega)]; exact p17_w111
            have p18_w115 : w115 114 18 = x.1 18 := by rw [ew115, wu_k _ _ _ _ (by omega)]; exact p18_w111
            have p19_w115 : w115 114 19 = x.1 19 := by rw [ew115, wu_k _ _ _ _ (by omega)]; exact p19_w111
            have p21_w115 : w115 114 21 = ((x.1 21)) ||| (mo_outs (w 115)) := by rw [ew115, wu_k _ _ _ _ (by omega)]; exact p21_w111
            have p20_w115 : w115 114 20 = x.1 20 := by rw [ew115, wu_s, p20_w111]
            have t_w115 : w115 121 = w 121 := by rw [ew115, wu_row _ _ _ (by omega)]; exact t_w111
            have q_w115 : w115 122 = w 122 := by rw [ew115, wu_row _ _ _ (by omega)]; exact q_w111
            have xk_w115 : mo_xk k w w115 := mo_xk_tr xk_w111 (mo_xk_u ew115 (by omega))
            exact xx_vret (pc := 137) dX12_plans_137 rfl (Nat.le_refl _) (Nat.le_refl _) (hQ w115 xk_w115 (mo_up_r hx hk4 hs132 hf4 (by rw [p16_w115]; first | exact (if_pos (by omega)).symm | exact (if_neg (by omega)).symm) (by rw [p17_w115, mo_u17]; first | exact (if_pos (by omega)).symm | exact ((if_neg (by omega)).trans (if_pos (by omega))).symm | exact ((if_neg (by omega)).trans (if_neg (by omega))).symm) (by rw [p18_w115]; first | exact (if_pos (by omega)).symm | exact (if_neg (by omega)).symm) p19_w115 (by rw [p20_w115, mo_u20]; first | exact (if_pos (by omega)).symm | exact (if_neg (by omega)).symm) (by rw [p21_w115]) (by rw [if_neg (by omega)]; intro j hj; rw [q_w115]; exact hx.2.1 j hj)))
          · refine xx_iload (pc := 125) dX12_plans_125 5 rfl ?_
            refine xx_goto (pc := 127) 134 dX12_plans_127 rfl ?_
            refine xx_putN (pc := 134) dX12_plans_134 sh_114 fX12_291_12 rfl rfl ?_
            refine xx_nw (fun w116 ew116 => ?_)
            have p16_w116 : w116 114 16 = x.1 16 := by rw [ew116, wu_k _ _ _ _ (by omega)]; exact p16_w111
            have p17_w116 : w116 114 17 = ((x.1 17)) + 1 := by rw [ew116, wu_k _ _ _ _ (by omega)]; exact p17_w111
            have p18_w116 : w116 114 18 = x.1 18 := by rw [ew116, wu_k _ _ _ _ (by omega)]; exact p18_w111
            have p19_w116 : w116 114 19 = x.1 19 := by rw [ew116, wu_k _ _ _ _ (by omega)]; exact p19_w111
            have p21_w116 : w116 114 21 = ((x.1 21)) ||| (mo_outs (w 115)) := by rw [ew116, wu_k _ _ _ _ (by omega)]; exact p21_w111
            have p20_w116 : w116 114 20 = few := by rw [ew116, wu_s]
            have t_w116 : w116 121 = w 121 := by rw [ew116, wu_row _ _ _ (by omega)]; exact t_w111
            have q_w116 : w116 122 = w 122 := by rw [ew116, wu_row _ _ _ (by omega)]; exact q_w111
            have xk_w116 : mo_xk k w w116 := mo_xk_tr xk_w111 (mo_xk_u ew116 (by omega))
            exact xx_vret (pc := 137) dX12_plans_137 rfl (Nat.le_refl _) (Nat.le_refl _) (hQ w116 xk_w116 (mo_up_r hx hk4 hs132 hf4 (by rw [p16_w116]; first | exact (if_pos (by omega)).symm | exact (if_neg (by omega)).symm) (by rw [p17_w116, mo_u17]; first | exact (if_pos (by omega)).symm | exact ((if_neg (by omega)).trans (if_pos (by omega))).symm | exact ((if_neg (by omega)).trans (if_neg (by omega))).symm) (by rw [p18_w116]; first | exact (if_pos (by omega)).symm | exact (if_neg (by omega)).symm) p19_w116 (by rw [p20_w116, mo_u20]; first | exact (if_pos (by omega)).symm | exact (if_neg (by omega)).symm) (by rw [p21_w116]) (by rw [if_neg (by omega)]; intro j hj; rw [q_w116]; exact hx.2.1 j hj)))
    · refine xx_aload_nP (pc := 20) dX12_plans_20 0 rfl rfl ?_
      refine xx_iload_n (pc := 21) dX12_plans_21 3 rfl rfl ?_
      refine xx_putN (pc := 22) dX12_plans_22 sh_114 fX12_276_12 rfl rfl ?_
      refine xx_nw (fun w117 ew117 => ?_)
      have p17_w117 : w117 114 17 = x.1 17 := by rw [ew117, wu_k _ _ _ _ (by omega)]; exact p17_w
      have p18_w117 : w117 114 18 = x.1 18 := by rw [ew117, wu_k _ _ _ _ (by omega)]; exact p18_w
      have p19_w117 : w117 114 19 = x.1 19 := by rw [ew117, wu_k _ _ _ _ (by omega)]; exact p19_w
      have p20_w117 : w117 114 20 = x.1 20 := by rw [ew117, wu_k _ _ _ _ (by omega)]; exact p20_w
      have p21_w117 : w117 114 21 = x.1 21 := by rw [ew117, wu_k _ _ _ _ (by omega)]; exact p21_w
      have p16_w117 : w117 114 16 = sum := by rw [ew117, wu_s]
      have t_w117 : w117 121 = w 121 := by rw [ew117, wu_row _ _ _ (by omega)]
      have q_w117 : w117 122 = w 122 := by rw [ew117, wu_row _ _ _ (by omega)]
      have xk_w117 : mo_xk k w w117 := mo_xk_tr xk_w (mo_xk_u ew117 (by omega))
      refine xx_aload_nP (pc := 25) dX12_plans_25 0 rfl rfl ?_
      refine xx_iconst (pc := 26) dX12_plans_26 cc_iconst_0 ?_
      refine xx_putN (pc := 27) dX12_plans_27 sh_114 fX12_279_12 rfl rfl ?_
      refine xx_nw (fun w118 ew118 => ?_)
      have p16_w118 : w118 114 16 = sum := by rw [ew118, wu_k _ _ _ _ (by omega)]; exact p16_w117
      have p18_w118 : w118 114 18 = x.1 18 := by rw [ew118, wu_k _ _ _ _ (by omega)]; exact p18_w117
      have p19_w118 : w118 114 19 = x.1 19 := by rw [ew118, wu_k _ _ _ _ (by omega)]; exact p19_w117
      have p20_w118 : w118 114 20 = x.1 20 := by rw [ew118, wu_k _ _ _ _ (by omega)]; exact p20_w117
      have p21_w118 : w118 114 21 = x.1 21 := by rw [ew118, wu_k _ _ _ _ (by omega)]; exact p21_w117
      have p17_w118 : w118 114 17 = 0 := by rw [ew118, wu_s]
      have t_w118 : w118 121 = w 121 := by rw [ew118, wu_row _ _ _ (by omega)]; exact t_w117
      have q_w118 : w118 122 = w 122 := by rw [ew118, wu_row _ _ _ (by omega)]; exact q_w117
      have xk_w118 : mo_xk k w w118 := mo_xk_tr xk_w117 (mo_xk_u ew118 (by omega))
      refine xx_aload_nP (pc := 30) dX12_plans_30 0 rfl rfl ?_
      refine xx_iload_n (pc := 31) dX12_plans_31 1 rfl rfl ?_
      refine xx_putN (pc := 32) dX12_plans_32 sh_114 fX12_282_12 rfl rfl ?_
      refine xx_nw (fun w119 ew119 => ?_)
      have p16_w119 : w119 114 16 = sum := by rw [ew119, wu_k _ _ _ _ (by omega)]; exact p16_w118
      have p17_w119 : w119 114 17 = 0 := by rw [ew119, wu_k _ _ _ _ (by omega)]; exact p17_w118
      have p19_w119 : w119 114 19 = x.1 19 := by rw [ew119, wu_k _ _ _ _ (by omega)]; exact p19_w118
      have p20_w119 : w119 114 20 = x.1 20 := by rw [ew119, wu_k _ _ _ _ (by omega)]; exact p20_w118
      have p21_w119 : w119 114 21 = x.1 21 := by rw [ew119, wu_k _ _ _ _ (by omega)]; exact p21_w118
      have p18_w119 : w119 114 18 = k := by rw [ew119, wu_s]
      have t_w119 : w119 121 = w 121 := by rw [ew119, wu_row _ _ _ (by omega)]; exact t_w118
      have q_w119 : w119 122 = w 122 := by rw [ew119, wu_row _ _ _ (by omega)]; exact q_w118
      have xk_w119 : mo_xk k w w119 := mo_xk_tr xk_w118 (mo_xk_u ew119 (by omega))
      refine xx_iconst (pc := 35) dX12_plans_35 cc_iconst_0 ?_
      refine xx_istore (L' := [(5, .int (nI 0)), (0, ic_pt E 114), (1, .int (nI k)), (2, .int (nI n)), (3, .int (nI sum)), (4, .int (nI few))]) (pc := 36) dX12_plans_36 (Nat.le_of_ble_eq_true rfl) rfl ?_
      refine xx_iload (pc := 38) dX12_plans_38 0 rfl ?_
      refine xx_iconst (pc := 40) dX12_plans_40 cc_iconst_4 ?_
      refine xx_icmp_geN (pc := 41) 64 dX12_plans_41 rfl (by omega) (by omega) (fun c120 => by exfalso; omega) (fun c120 => ?_)
      refine xx_aload_nP (pc := 44) dX12_plans_44 1 rfl rfl ?_
      refine xx_getR (pc := 45) 122 dX12_plans_45 sh_114 fX12_31_12 rfl rfl (by decide) ?_
      refine xx_iload (pc := 48) dX12_plans_48 0 rfl ?_
      refine xx_aload_nP (pc := 50) dX12_plans_50 1 rfl rfl ?_
      refine xx_getR (pc := 51) 121 dX12_plans_51 sh_114 fX12_28_12 rfl rfl (by decide) ?_
      refine xx_iload (pc := 54) dX12_plans_54 0 rfl ?_
      refine xx_ialdN (pc := 56) dX12_plans_56 sh_121 (by omega) (by decide) ?_
      refine xx_iastN (pc := 57) dX12_plans_57 sh_122 (by omega) (by decide) ?_
      refine xx_nw (fun w121 ew121 => ?_)
      have p16_w121 : w121 114 16 = sum := by rw [ew121, wu_o _ _ _ _ (by omega)]; exact p16_w119
      have p17_w121 : w121 114 17 = 0 := by rw [ew121, wu_o _ _ _ _ (by omega)]; exact p17_w119
      have p18_w121 : w121 114 18 = k := by rw [ew121, wu_o _ _ _ _ (by omega)]; exact p18_w119
      have p19_w121 : w121 114 19 = x.1 19 := by rw [ew121, wu_o _ _ _ _ (by omega)]; exact p19_w119
      have p20_w121 : w121 114 20 = x.1 20 := by rw [ew121, wu_o _ _ _ _ (by omega)]; exact p20_w119
      have p21_w121 : w121 114 21 = x.1 21 := by rw [ew121, wu_o _ _ _ _ (by omega)]; exact p21_w119
      have t_w121 : w121 121 = w 121 := by rw [ew121, wu_row _ _ _ (by omega)]; exact t_w119
      have q0_w121 : w121 122 0 = w 121 0 := by rw [ew121, wu_s, t_w119]
      have xk_w121 : mo_xk k w w121 := mo_xk_tr xk_w119 (mo_xk_u ew121 (by omega))
      refine xx_iincN (L' := [(5, .int (nI 1)), (0, ic_pt E 114), (1, .int (nI k)), (2, .int (nI n)), (3, .int (nI sum)), (4, .int (nI few))]) (pc := 58) dX12_plans_58 0 rfl cc_iconst_1 (Nat.le_of_ble_eq_true rfl) rfl ?_
      refine xx_goto (pc := 61) 38 dX12_plans_61 rfl ?_
      refine xx_iload (pc := 38) dX12_plans_38 0 rfl ?_
      refine xx_iconst (pc := 40) dX12_plans_40 cc_iconst_4 ?_
      refine xx_icmp_geN (pc := 41) 64 dX12_plans_41 rfl (by omega) (by omega) (fun c122 => by exfalso; omega) (fun c122 => ?_)
      refine xx_aload_nP (pc := 44) dX12_plans_44 1 rfl rfl ?_
      refine xx_getR (pc := 45) 122 dX12_plans_45 sh_114 fX12_31_12 rfl rfl (by decide) ?_
      refine xx_iload (pc := 48) dX12_plans_48 0 rfl ?_
      refine xx_aload_nP (pc := 50) dX12_plans_50 1 rfl rfl ?_
      refine xx_getR (pc := 51) 121 dX12_plans_51 sh_114 fX12_28_12 rfl rfl (by decide) ?_
      refine xx_iload (pc := 54) dX12_plans_54 0 rfl ?_
      refine xx_ialdN (pc := 56) dX12_plans_56 sh_121 (by omega) (by decide) ?_
      refine xx_iastN (pc := 57) dX12_plans_57 sh_122 (by omega) (by decide) ?_
      refine xx_nw (fun w123 ew123 => ?_)
      have p16_w123 : w123 114 16 = sum := by rw [ew123, wu_o _ _ _ _ (by omega)]; exact p16_w121
      have p17_w123 : w123 114 17 = 0 := by rw [ew123, wu_o _ _ _ _ (by omega)]; exact p17_w121
      have p18_w123 : w123 114 18 = k := by rw [ew123, wu_o _ _ _ _ (by omega)]; exact p18_w121
      have p19_w123 : w123 114 19 = x.1 19 := by rw [ew123, wu_o _ _ _ _ (by omega)]; exact p19_w121
      have p20_w123 : w123 114 20 = x.1 20 := by rw [ew123, wu_o _ _ _ _ (by omega)]; exact p20_w121
      have p21_w123 : w123 114 21 = x.1 21 := by rw [ew123, wu_o _ _ _ _ (by omega)]; exact p21_w121
      have t_w123 : w123 121 = w 121 := by rw [ew123, wu_row _ _ _ (by omega)]; exact t_w121
      have q0_w123 : w123 122 0 = w 121 0 := by rw [ew123, wu_k _ _ _ _ (by omega)]; exact q0_w121
      have q1_w123 : w123 122 1 = w 121 1 := by rw [ew123, wu_s, t_w121]
      have xk_w123 : mo_xk k w w123 := mo_xk_tr xk_w121 (mo_xk_u ew123 (by omega))
      refine xx_iincN (L' := [(5, .int (nI 2)), (0, ic_pt E 114), (1, .int (nI k)), (2, .int (nI n)), (3, .int (nI sum)), (4, .int (nI few))]) (pc := 58) dX12_plans_58 0 rfl cc_iconst_1 (Nat.le_of_ble_eq_true rfl) rfl ?_
      refine xx_goto (pc := 61) 38 dX12_plans_61 rfl ?_
      refine xx_iload (pc := 38) dX12_plans_38 0 rfl ?_
      refine xx_iconst (pc := 40) dX12_plans_40 cc_iconst_4 ?_
      refine xx_icmp_geN (pc := 41) 64 dX12_plans_41 rfl (by omega) (by omega) (fun c124 => by exfalso; omega) (fun c124 => ?_)
      refine xx_aload_nP (pc := 44) dX12_plans_44 1 rfl rfl ?_
      refine xx_getR (pc := 45) 122 dX12_plans_45 sh_114 fX12_31_12 rfl rfl (by decide) ?_
      refine xx_iload (pc := 48) dX12_plans_48 0 rfl ?_
      refine xx_aload_nP (pc := 50) dX12_plans_50 1 rfl rfl ?_
      refine xx_getR (pc := 51) 121 dX12_plans_51 sh_114 fX12_28_12 rfl rfl (by decide) ?_
      refine xx_iload (pc := 54) dX12_plans_54 0 rfl ?_
      refine xx_ialdN (pc := 56) dX12_plans_56 sh_121 (by omega) (by decide) ?_
      refine xx_iastN (pc := 57) dX12_plans_57 sh_122 (by omega) (by decide) ?_
      refine xx_nw (fun w125 ew125 => ?_)
      have p16_w125 : w125 114 16 = sum := by rw [ew125, wu_o _ _ _ _ (by omega)]; exact p16_w123
      have p17_w125 : w125 114 17 = 0 := by rw [ew125, wu_o _ _ _ _ (by omega)]; exact p17_w123
      have p18_w125 : w125 114 18 = k := by rw [ew125, wu_o _ _ _ _ (by omega)]; exact p18_w123
      have p19_w125 : w125 114 19 = x.1 19 := by rw [ew125, wu_o _ _ _ _ (by omega)]; exact p19_w123
      have p20_w125 : w125 114 20 = x.1 20 := by rw [ew125, wu_o _ _ _ _ (by omega)]; exact p20_w123
      have p21_w125 : w125 114 21 = x.1 21 := by rw [ew125, wu_o _ _ _ _ (by omega)]; exact p21_w123
      have t_w125 : w125 121 = w 121 := by rw [ew125, wu_row _ _ _ (by omega)]; exact t_w123
      have q0_w125 : w125 122 0 = w 121 0 := by rw [ew125, wu_k _ _ _ _ (by omega)]; exact q0_w123
      have q1_w125 : w125 122 1 = w 121 1 := by rw [ew125, wu_k _ _ _ _ (by omega)]; exact q1_w123
      have q2_w125 : w125 122 2 = w 121 2 := by rw [ew125, wu_s, t_w123]
      have xk_w125 : mo_xk k w w125 := mo_xk_tr xk_w123 (mo_xk_u ew125 (by omega))
      refine xx_iincN (L' := [(5, .int (nI 3)), (0, ic_pt E 114), (1, .int (nI k)), (2, .int (nI n)), (3, .int (nI sum)), (4, .int (nI few))]) (pc := 58) dX12_plans_58 0 rfl cc_iconst_1 (Nat.le_of_ble_eq_true rfl) rfl ?_
      refine xx_goto (pc := 61) 38 dX12_plans_61 rfl ?_
      refine xx_iload (pc := 38) dX12_plans_38 0 rfl ?_
      refine xx_iconst (pc := 40) dX12_plans_40 cc_iconst_4 ?_
      refine xx_icmp_geN (pc := 41) 64 dX12_plans_41 rfl (by omega) (by omega) (fun c126 => by exfalso; omega) (fun c126 => ?_)
      refine xx_aload_nP (pc := 44) dX12_plans_44 1 rfl rfl ?_
      refine xx_getR (pc := 45) 122 dX12_plans_45 sh_114 fX12_31_12 rfl rfl (by decide) ?_
      refine xx_iload (pc := 48) dX12_plans_48 0 rfl ?_
      refine xx_aload_nP (pc := 50) dX12_plans_50 1 rfl rfl ?_
      refine xx_getR (pc := 51) 121 dX12_plans_51 sh_114 fX12_28_12 rfl rfl (by decide) ?_
      refine xx_iload (pc := 54) dX12_plans_54 0 rfl ?_
      refine xx_ialdN (pc := 56) dX12_plans_56 sh_121 (by omega) (by decide) ?_
      refine xx_iastN (pc := 57) dX12_plans_57 sh_122 (by omega) (by decide) ?_
      refine xx_nw (fun w127 ew127 => ?_)
      have p16_w127 : w127 114 16 = sum := by rw [ew127, wu_o _ _ _ _ (by omega)]; exact p16_w125
      have p17_w127 : w127 114 17 = 0 := by rw [ew127, wu_o _ _ _ _ (by omega)]; exact p17_w125
      have p18_w127 : w127 114 18 = k := by rw [ew127, wu_o _ _ _ _ (by omega)]; exact p18_w125
      have p19_w127 : w127 114 19 = x.1 19 := by rw [ew127, wu_o _ _ _ _ (by omega)]; exact p19_w125
      have p20_w127 : w127 114 20 = x.1 20 := by rw [ew127, wu_o _ _ _ _ (by omega)]; exact p20_w125
      have p21_w127 : w127 114 21 = x.1 21 := by rw [ew127, wu_o _ _ _ _ (by omega)]; exact p21_w125
      have t_w127 : w127 121 = w 121 := by rw [ew127, wu_row _ _ _ (by omega)]; exact t_w125
      have q0_w127 : w127 122 0 = w 121 0 := by rw [ew127, wu_k _ _ _ _ (by omega)]; exact q0_w125
      have q1_w127 : w127 122 1 = w 121 1 := by rw [ew127, wu_k _ _ _ _ (by omega)]; exact q1_w125
      have q2_w127 : w127 122 2 = w 121 2 := by rw [ew127, wu_k _ _ _ _ (by omega)]; exact q2_w125
      have q3_w127 : w127 122 3 = w 121 3 := by rw [ew127, wu_s, t_w125]
      have xk_w127 : mo_xk k w w127 := mo_xk_tr xk_w125 (mo_xk_u ew127 (by omega))
      refine xx_iincN (L' := [(5, .int (nI 4)), (0, ic_pt E 114), (1, .int (nI k)), (2, .int (nI n)), (3, .int (nI sum)), (4, .int (nI few))]) (pc := 58) dX12_plans_58 0 rfl cc_iconst_1 (Nat.le_of_ble_eq_true rfl) rfl ?_
      refine xx_goto (pc := 61) 38 dX12_plans_61 rfl ?_
      refine xx_iload (pc := 38) dX12_plans_38 0 rfl ?_
      refine xx_iconst (pc := 40) dX12_plans_40 cc_iconst_4 ?_
      refine xx_icmp_geN (pc := 41) 64 dX12_plans_41 rfl (by omega) (by omega) (fun c128 => ?_) (fun c128 => by exfalso; omega)
      refine xx_aload_nP (pc := 64) dX12_plans_64 1 rfl rfl ?_
      refine xx_dup (pc := 65) dX12_plans_65 rfl ?_
      refine xx_getN (pc := 66) dX12_plans_66 sh_114 fX12_279_12 rfl ?_
      refine xx_iload_n (pc := 69) dX12_plans_69 4 rfl rfl ?_
      refine xx_aload_nP (pc := 70) dX12_plans_70 1 rfl rfl ?_
      refine xx_getN (pc := 71) dX12_plans_71 sh_114 fX12_276_12 rfl ?_
      refine xx_icmp_neN (pc := 74) 81 dX12_plans_74 rfl (by omega) (by omega) (fun c129 => by exfalso; omega) (fun c129 => ?_)
      refine xx_iconst (pc := 77) dX12_plans_77 cc_iconst_1 ?_
      refine xx_goto (pc := 78) 82 dX12_plans_78 rfl ?_
      refine xx_iaddN (pc := 82) dX12_plans_82 ?_
      refine xx_putN (pc := 83) dX12_plans_83 sh_114 fX12_279_12 rfl rfl ?_
      refine xx_nw (fun w130 ew130 => ?_)
      have p16_w130 : w130 114 16 = sum := by rw [ew130, wu_k _ _ _ _ (by omega)]; exact p16_w127
      have p18_w130 : w130 114 18 = k := by rw [ew130, wu_k _ _ _ _ (by omega)]; exact p18_w127
      have p19_w130 : w130 114 19 = x.1 19 := by rw [ew130, wu_k _ _ _ _ (by omega)]; exact p19_w127
      have p20_w130 : w130 114 20 = x.1 20 := by rw [ew130, wu_k _ _ _ _ (by omega)]; exact p20_w127
      have p21_w130 : w130 114 21 = x.1 21 := by rw [ew130, wu_k _ _ _ _ (by omega)]; exact p21_w127
      have p17_w130 : w130 114 17 = (0) + 1 := by rw [ew130, wu_s, p17_w127]
      have t_w130 : w130 121 = w 121 := by rw [ew130, wu_row _ _ _ (by omega)]; exact t_w127
      have q0_w130 : w130 122 0 = w 121 0 := by rw [ew130, wu_o _ _ _ _ (by omega)]; exact q0_w127
      have q1_w130 : w130 122 1 = w 121 1 := by rw [ew130, wu_o _ _ _ _ (by omega)]; exact q1_w127
      have q2_w130 : w130 122 2 = w 121 2 := by rw [ew130, wu_o _ _ _ _ (by omega)]; exact q2_w127
      have q3_w130 : w130 122 3 = w 121 3 := by rw [ew130, wu_o _ _ _ _ (by omega)]; exact q3_w127
      have xk_w130 : mo_xk k w w130 := mo_xk_tr xk_w127 (mo_xk_u ew130 (by omega))
      have r_w130 : w130 115 = w 115 := mo_xk_115 xk_w130
      have hI_w130 : In (w130 115) := by rw [r_w130]; exact hI
      refine xx_aload_nP (pc := 86) dX12_plans_86 1 rfl rfl ?_
      refine xx_callV0 (pc := 87) (st := []) sh_114 ((by have z := cM_outOnes (l := l) (E := E) (w := w130) hI_w130; rw [r_w130] at z; exact z : ic_C l E mX12_outOnes 2 0 0 False [ic_pt E 114] SHs (hn w130) SHs (ic_qe (nI (mo_outs (w 115))) (hn w130)))) kX12_outOnes vX12_144_12 dX12_plans_87 rfl rfl (Nat.le_of_ble_eq_true rfl) (pl_hR (d := d) (by omega) (Nat.le_of_ble_eq_true rfl)) ⟨Nat.zero_le _, Nat.zero_le _⟩ (ic_ke ?_)
      refine xx_istore (L' := [(5, .int (nI (mo_outs (w 115)))), (0, ic_pt E 114), (1, .int (nI k)), (2, .int (nI n)), (3, .int (nI sum)), (4, .int (nI few))]) (pc := 90) dX12_plans_90 (Nat.le_of_ble_eq_true rfl) rfl ?_
      refine xx_aload_nP (pc := 92) dX12_plans_92 1 rfl rfl ?_
      refine xx_dup (pc := 93) dX12_plans_93 rfl ?_
      refine xx_getN (pc := 94) dX12_plans_94 sh_114 fX12_285_12 rfl ?_
      refine xx_iload (pc := 97) dX12_plans_97 0 rfl ?_
      refine xx_iorN (pc := 99) dX12_plans_99 ?_
      refine xx_putN (pc := 100) dX12_plans_100 sh_114 fX12_285_12 rfl rfl ?_
      refine xx_nw (fun w131 ew131 => ?_)
      have p16_w131 : w131 114 16 = sum := by rw [ew131, wu_k _ _ _ _ (by omega)]; exact p16_w130
      have p17_w131 : w131 114 17 = (0) + 1 := by rw [ew131, wu_k _ _ _ _ (by omega)]; exact p17_w130
      have p18_w131 : w131 114 18 = k := by rw [ew131, wu_k _ _ _ _ (by omega)]; exact p18_w130
      have p19_w131 : w131 114 19 = x.1 19 := by rw [ew131, wu_k _ _ _ _ (by omega)]; exact p19_w130
      have p20_w131 : w131 114 20 = x.1 20 := by rw [ew131, wu_k _ _ _ _ (by omega)]; exact p20_w130
      have p21_w131 : w131 114 21 = ((x.1 21)) ||| (mo_outs (w 115)) := by rw [ew131, wu_s, p21_w130]
      have t_w131 : w131 121 = w 121 := by rw [ew131, wu_row _ _ _ (by omega)]; exact t_w130
      have q0_w131 : w131 122 0 = w 121 0 := by rw [ew131, wu_o _ _ _ _ (by omega)]; exact q0_w130
      have q1_w131 : w131 122 1 = w 121 1 := by rw [ew131, wu_o _ _ _ _ (by omega)]; exact q1_w130
      have q2_w131 : w131 122 2 = w 121 2 := by rw [ew131, wu_o _ _ _ _ (by omega)]; exact q2_w130
      have q3_w131 : w131 122 3 = w 121 3 := by rw [ew131, wu_o _ _ _ _ (by omega)]; exact q3_w130
      have xk_w131 : mo_xk k w w131 := mo_xk_tr xk_w130 (mo_xk_u ew131 (by omega))
      refine xx_aload_nP (pc := 103) dX12_plans_103 1 rfl rfl ?_
      refine xx_aload_nP (pc := 104) dX12_plans_104 1 rfl rfl ?_
      refine xx_getN (pc := 105) dX12_plans_105 sh_114 fX12_288_12 rfl ?_
      refine xx_iload (pc := 108) dX12_plans_108 0 rfl ?_
      refine xx_iconst (pc := 110) dX12_plans_110 cc_iconst_m1 ?_
      refine xx_ixorN (pc := 111) dX12_plans_111 ?_
      refine xx_iandN (pc := 112) dX12_plans_112 ?_
      refine xx_if_neN (pc := 113) 130 dX12_plans_113 rfl (by have := Nat.and_le_left (n := w131 114 19) (m := mo_outs (w 115) ^^^ 4294967295); omega) (fun c132 => ?_) (fun c132 => ?_)
      · rw [p19_w131] at c132
        refine xx_aload_nP (pc := 130) dX12_plans_130 1 rfl rfl ?_
        refine xx_getN (pc := 131) dX12_plans_131 sh_114 fX12_291_12 rfl ?_
        refine xx_putN (pc := 134) dX12_plans_134 sh_114 fX12_291_12 rfl rfl ?_
        refine xx_nw (fun w133 ew133 => ?_)
        have p16_w133 : w133 114 16 = sum := by rw [ew133, wu_k _ _ _ _ (by omega)]; exact p16_w131
        have p17_w133 : w133 114 17 = (0) + 1 := by rw [ew133, wu_k _ _ _ _ (by omega)]; exact p17_w131
        have p18_w133 : w133 114 18 = k := by rw [ew133, wu_k _ _ _ _ (by omega)]; exact p18_w131
        have p19_w133 : w133 114 19 = x.1 19 := by rw [ew133, wu_k _ _ _ _ (by omega)]; exact p19_w131
        have p21_w133 : w133 114 21 = ((x.1 21)) ||| (mo_outs (w 115)) := by rw [ew133, wu_k _ _ _ _ (by omega)]; exact p21_w131
        have p20_w133 : w133 114 20 = x.1 20 := by rw [ew133, wu_s, p20_w131]
        have t_w133 : w133 121 = w 121 := by rw [ew133, wu_row _ _ _ (by omega)]; exact t_w131
        have q0_w133 : w133 122 0 = w 121 0 := by rw [ew133, wu_o _ _ _ _ (by omega)]; exact q0_w131
        have q1_w133 : w133 122 1 = w 121 1 := by rw [ew133, wu_o _ _ _ _ (by omega)]; exact q1_w131
        have q2_w133 : w133 122 2 = w 121 2 := by rw [ew133, wu_o _ _ _ _ (by omega)]; exact q2_w131
        have q3_w133 : w133 122 3 = w 121 3 := by rw [ew133, wu_o _ _ _ _ (by omega)]; exact q3_w131
        have xk_w133 : mo_xk k w w133 := mo_xk_tr xk_w131 (mo_xk_u ew133 (by omega))
        exact xx_vret (pc := 137) dX12_plans_137 rfl (Nat.le_refl _) (Nat.le_refl _) (hQ w133 xk_w133 (mo_up_r hx hk4 hs132 hf4 (by rw [p16_w133]; first | exact (if_pos (by omega)).symm | exact (if_neg (by omega)).symm) (by rw [p17_w133, mo_u17]; first | exact (if_pos (by omega)).symm | exact ((if_neg (by omega)).trans (if_pos (by omega))).symm | exact ((if_neg (by omega)).trans (if_neg (by omega))).symm) (by rw [p18_w133]; first | exact (if_pos (by omega)).symm | exact (if_neg (by omega)).symm) p19_w133 (by rw [p20_w133, mo_u20]; first | exact (if_pos (by omega)).symm | exact (if_neg (by omega)).symm) (by rw [p21_w133]) (by rw [if_pos (by omega)]; intro j hj; rw [← ha j hj]; rcases (show j = 0 ∨ j = 1 ∨ j = 2 ∨ j = 3 by omega) with rfl | rfl | rfl | rfl; exact q0_w133; exact q1_w133; exact q2_w133; exact q3_w133)))
      · rw [p19_w131] at c132
        refine xx_iload (pc := 116) dX12_plans_116 5 rfl ?_
        refine xx_aload_nP (pc := 118) dX12_plans_118 1 rfl rfl ?_
        refine xx_getN (pc := 119) dX12_plans_119 sh_114 fX12_291_12 rfl ?_
        refine xx_icmp_geN (pc := 122) 130 dX12_plans_122 rfl (by omega) (by omega) (fun c134 => ?_) (fun c134 => ?_)
        · refine xx_aload_nP (pc := 130) dX12_plans_130 1 rfl rfl ?_
          refine xx_getN (pc := 131) dX12_plans_131 sh_114 fX12_291_12 rfl ?_
          refine xx_putN (pc := 134) dX12_plans_134 sh_114 fX12_291_12 rfl rfl ?_
          refine xx_nw (fun w135 ew135 => ?_)
          have p16_w135 : w135 114 16 = sum := by rw [ew135, wu_k _ _ _ _ (by omega)]; exact p16_w131
          have p17_w135 : w135 114 17 = (0) + 1 := by rw [ew135, wu_k _ _ _ _ (by omega)]; exact p17_w131
          have p18_w135 : w135 114 18 = k := by rw [ew135, wu_k _ _ _ _ (by omega)]; exact p18_w131
          have p19_w135 : w135 114 19 = x.1 19 := by rw [ew135, wu_k _ _ _ _ (by omega)]; exact p19_w131
          have p21_w135 : w135 114 21 = ((x.1 21)) ||| (mo_outs (w 115)) := by rw [ew135, wu_k _ _ _ _ (by omega)]; exact p21_w131
          have p20_w135 : w135 114 20 = x.1 20 := by rw [ew135, wu_s, p20_w131]
          have t_w135 : w135 121 = w 121 := by rw [ew135, wu_row _ _ _ (by omega)]; exact t_w131
          have q0_w135 : w135 122 0 = w 121 0 := by rw [ew135, wu_o _ _ _ _ (by omega)]; exact q0_w131
          have q1_w135 : w135 122 1 = w 121 1 := by rw [ew135, wu_o _ _ _ _ (by omega)]; exact q1_w131
          have q2_w135 : w135 122 2 = w 121 2 := by rw [ew135, wu_o _ _ _ _ (by omega)]; exact q2_w131
          have q3_w135 : w135 122 3 = w 121 3 := by rw [ew135, wu_o _ _ _ _ (by omega)]; exact q3_w131
          have xk_w135 : mo_xk k w w135 := mo_xk_tr xk_w131 (mo_xk_u ew135 (by omega))
          exact xx_vret (pc := 137) dX12_plans_137 rfl (Nat.le_refl _) (Nat.le_refl _) (hQ w135 xk_w135 (mo_up_r hx hk4 hs132 hf4 (by rw [p16_w135]; first | exact (if_pos (by omega)).symm | exact (if_neg (by omega)).symm) (by rw [p17_w135, mo_u17]; first | exact (if_pos (by omega)).symm | exact ((if_neg (by omega)).trans (if_pos (by omega))).symm | exact ((if_neg (by omega)).trans (if_neg (by omega))).symm) (by rw [p18_w135]; first | exact (if_pos (by omega)).symm | exact (if_neg (by omega)).symm) p19_w135 (by rw [p20_w135, mo_u20]; first | exact (if_pos (by omega)).symm | exact (if_neg (by omega)).symm) (by rw [p21_w135]) (by rw [if_pos (by omega)]; intro j hj; rw [← ha j hj]; rcases (show j = 0 ∨ j = 1 ∨ j = 2 ∨ j = 3 by omega) with rfl | rfl | rfl | rfl; exact q0_w135; exact q1_w135; exact q2_w135; exact q3_w135)))
        · refine xx_iload (pc := 125) dX12_plans_125 5 rfl ?_
          refine xx_goto (pc := 127) 134 dX12_plans_127 rfl ?_
          refine xx_putN (pc := 134) dX12_plans_134 sh_114 fX12_291_12 rfl rfl ?_
          refine xx_nw (fun w136 ew136 => ?_)
          have p16_w136 : w136 114 16 = sum := by rw [ew136, wu_k _ _ _ _ (by omega)]; exact p16_w131
          have p17_w136 : w136 114 17 = (0) + 1 := by rw [ew136, wu_k _ _ _ _ (by omega)]; exact p17_w131
          have p18_w136 : w136 114 18 = k := by rw [ew136, wu_k _ _ _ _ (by omega)]; exact p18_w131
          have p19_w136 : w136 114 19 = x.1 19 := by rw [ew136, wu_k _ _ _ _ (by omega)]; exact p19_w131
          have p21_w136 : w136 114 21 = ((x.1 21)) ||| (mo_outs (w 115)) := by rw [ew136, wu_k _ _ _ _ (by omega)]; exact p21_w131
          have p20_w136 : w136 114 20 = few := by rw [ew136, wu_s]
          have t_w136 : w136 121 = w 121 := by rw [ew136, wu_row _ _ _ (by omega)]; exact t_w131
          have q0_w136 : w136 122 0 = w 121 0 := by rw [ew136, wu_o _ _ _ _ (by omega)]; exact q0_w131
          have q1_w136 : w136 122 1 = w 121 1 := by rw [ew136, wu_o _ _ _ _ (by omega)]; exact q1_w131
          have q2_w136 : w136 122 2 = w 121 2 := by rw [ew136, wu_o _ _ _ _ (by omega)]; exact q2_w131
          have q3_w136 : w136 122 3 = w 121 3 := by rw [ew136, wu_o _ _ _ _ (by omega)]; exact q3_w131
          have xk_w136 : mo_xk k w w136 := mo_xk_tr xk_w131 (mo_xk_u ew136 (by omega))
          exact xx_vret (pc := 137) dX12_plans_137 rfl (Nat.le_refl _) (Nat.le_refl _) (hQ w136 xk_w136 (mo_up_r hx hk4 hs132 hf4 (by rw [p16_w136]; first | exact (if_pos (by omega)).symm | exact (if_neg (by omega)).symm) (by rw [p17_w136, mo_u17]; first | exact (if_pos (by omega)).symm | exact ((if_neg (by omega)).trans (if_pos (by omega))).symm | exact ((if_neg (by omega)).trans (if_neg (by omega))).symm) (by rw [p18_w136]; first | exact (if_pos (by omega)).symm | exact (if_neg (by omega)).symm) p19_w136 (by rw [p20_w136, mo_u20]; first | exact (if_pos (by omega)).symm | exact (if_neg (by omega)).symm) (by rw [p21_w136]) (by rw [if_pos (by omega)]; intro j hj; rw [← ha j hj]; rcases (show j = 0 ∨ j = 1 ∨ j = 2 ∨ j = 3 by omega) with rfl | rfl | rfl | rfl; exact q0_w136; exact q1_w136; exact q2_w136; exact q3_w136)))

