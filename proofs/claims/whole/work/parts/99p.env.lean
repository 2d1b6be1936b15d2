/-! what holds at the law's entry, in this machine's words -/
def lw_tm (i : Nat) : Term := .string "InnerCircle$Rules" (ic_txt.getD i (0, "")).1
abbrev lw_gv : List Cond := flatC (Jvm.Cond.and given_1 narrow_1)
set_option maxRecDepth 100000 in
theorem gv_ex : ∀ i, i < 18 → Cond.exactly (lw_tm i) "java/lang/String" ∈ lw_gv := by decide +kernel
set_option maxRecDepth 100000 in
theorem gv_co : ∀ i, i < 18 → Cond.eq (.field (lw_tm i) "java/lang/String" "coder" "B") (.int 0) ∈ lw_gv := by decide +kernel
set_option maxRecDepth 100000 in
theorem gv_ar : ∀ i, i < 18 → Cond.arrayOf (.field (lw_tm i) "java/lang/String" "value" "[B") .byte ∈ lw_gv := by decide +kernel
set_option maxRecDepth 100000 in
theorem gv_le : ∀ i, i < 18 → Cond.eq (.length (.field (lw_tm i) "java/lang/String" "value" "[B")) (.int (Int32.ofNat (ic_len.getD i 0))) ∈ lw_gv := by decide +kernel
set_option maxRecDepth 100000 in
theorem gv_el : ∀ i, i < 18 → ∀ j, j < ic_len.getD i 0 → Cond.eq (.elem (.field (lw_tm i) "java/lang/String" "value" "[B") (.int (Int32.ofNat j))) (.int ((ic_byt.getD i []).getD j 0)) ∈ lw_gv := by decide +kernel
def lw_nx : List (List Nat) := [[], [59], [68, 69], [80, 81, 82], [92, 93, 94, 95], [107, 108, 109, 110, 111], [118, 119, 120, 121, 122, 123], [131, 132, 133, 134, 135, 136, 137], [147, 148, 149, 150, 151, 152, 153, 154], [164, 165, 166, 167, 168, 169, 170, 171, 172], [181, 182, 183, 184, 185, 186, 187, 188, 189, 190], [199, 200, 201, 202, 203, 204, 205, 206, 207, 208, 209], [220, 221, 222, 223, 224, 225, 226, 227, 228, 229, 230, 231], [239, 240, 241, 242, 243, 244, 245, 246, 247, 248, 249, 250, 251], [258, 259, 260, 261, 262, 263, 264, 265, 266, 267, 268, 269, 270, 271], [280, 281, 282, 283, 284, 285, 286, 287, 288, 289, 290, 291, 292, 293, 294], [303, 304, 305, 306, 307, 308, 309, 310, 311, 312, 313, 314, 315, 316, 317, 318], [327, 328, 329, 330, 331, 332, 333, 334, 335, 336, 337, 338, 339, 340, 341, 342, 343]]
theorem lw_nxm {i j : Nat} (h : lw_gv[(lw_nx.getD j []).getD i 0]? = some (Cond.not (Cond.eq (lw_tm i) (lw_tm j)))) : Cond.not (Cond.eq (lw_tm i) (lw_tm j)) ∈ lw_gv := List.mem_of_getElem? h
set_option maxRecDepth 100000 in
theorem gv_n1 : ∀ i, i < 1 → lw_gv[(lw_nx.getD 1 []).getD i 0]? = some (Cond.not (Cond.eq (lw_tm i) (lw_tm 1))) := by decide +kernel
set_option maxRecDepth 100000 in
theorem gv_n2 : ∀ i, i < 2 → lw_gv[(lw_nx.getD 2 []).getD i 0]? = some (Cond.not (Cond.eq (lw_tm i) (lw_tm 2))) := by decide +kernel
set_option maxRecDepth 100000 in
theorem gv_n3 : ∀ i, i < 3 → lw_gv[(lw_nx.getD 3 []).getD i 0]? = some (Cond.not (Cond.eq (lw_tm i) (lw_tm 3))) := by decide +kernel
set_option maxRecDepth 100000 in
theorem gv_n4 : ∀ i, i < 4 → lw_gv[(lw_nx.getD 4 []).getD i 0]? = some (Cond.not (Cond.eq (lw_tm i) (lw_tm 4))) := by decide +kernel
set_option maxRecDepth 100000 in
theorem gv_n5 : ∀ i, i < 5 → lw_gv[(lw_nx.getD 5 []).getD i 0]? = some (Cond.not (Cond.eq (lw_tm i) (lw_tm 5))) := by decide +kernel
set_option maxRecDepth 100000 in
theorem gv_n6 : ∀ i, i < 6 → lw_gv[(lw_nx.getD 6 []).getD i 0]? = some (Cond.not (Cond.eq (lw_tm i) (lw_tm 6))) := by decide +kernel
set_option maxRecDepth 100000 in
theorem gv_n7 : ∀ i, i < 7 → lw_gv[(lw_nx.getD 7 []).getD i 0]? = some (Cond.not (Cond.eq (lw_tm i) (lw_tm 7))) := by decide +kernel
set_option maxRecDepth 100000 in
theorem gv_n8 : ∀ i, i < 8 → lw_gv[(lw_nx.getD 8 []).getD i 0]? = some (Cond.not (Cond.eq (lw_tm i) (lw_tm 8))) := by decide +kernel
set_option maxRecDepth 100000 in
theorem gv_n9 : ∀ i, i < 9 → lw_gv[(lw_nx.getD 9 []).getD i 0]? = some (Cond.not (Cond.eq (lw_tm i) (lw_tm 9))) := by decide +kernel
set_option maxRecDepth 100000 in
theorem gv_n10 : ∀ i, i < 10 → lw_gv[(lw_nx.getD 10 []).getD i 0]? = some (Cond.not (Cond.eq (lw_tm i) (lw_tm 10))) := by decide +kernel
set_option maxRecDepth 100000 in
theorem gv_n11 : ∀ i, i < 11 → lw_gv[(lw_nx.getD 11 []).getD i 0]? = some (Cond.not (Cond.eq (lw_tm i) (lw_tm 11))) := by decide +kernel
set_option maxRecDepth 100000 in
theorem gv_n12 : ∀ i, i < 12 → lw_gv[(lw_nx.getD 12 []).getD i 0]? = some (Cond.not (Cond.eq (lw_tm i) (lw_tm 12))) := by decide +kernel
set_option maxRecDepth 100000 in
theorem gv_n13 : ∀ i, i < 13 → lw_gv[(lw_nx.getD 13 []).getD i 0]? = some (Cond.not (Cond.eq (lw_tm i) (lw_tm 13))) := by decide +kernel
set_option maxRecDepth 100000 in
theorem gv_n14 : ∀ i, i < 14 → lw_gv[(lw_nx.getD 14 []).getD i 0]? = some (Cond.not (Cond.eq (lw_tm i) (lw_tm 14))) := by decide +kernel
set_option maxRecDepth 100000 in
theorem gv_n15 : ∀ i, i < 15 → lw_gv[(lw_nx.getD 15 []).getD i 0]? = some (Cond.not (Cond.eq (lw_tm i) (lw_tm 15))) := by decide +kernel
set_option maxRecDepth 100000 in
theorem gv_n16 : ∀ i, i < 16 → lw_gv[(lw_nx.getD 16 []).getD i 0]? = some (Cond.not (Cond.eq (lw_tm i) (lw_tm 16))) := by decide +kernel
set_option maxRecDepth 100000 in
theorem gv_n17 : ∀ i, i < 17 → lw_gv[(lw_nx.getD 17 []).getD i 0]? = some (Cond.not (Cond.eq (lw_tm i) (lw_tm 17))) := by decide +kernel
theorem gv_nl : ∀ j, j < 18 → ∀ i, i < j → lw_gv[(lw_nx.getD j []).getD i 0]? = some (Cond.not (Cond.eq (lw_tm i) (lw_tm j))) := by
  intro j hj
  rcases (show j = 0 ∨ j = 1 ∨ j = 2 ∨ j = 3 ∨ j = 4 ∨ j = 5 ∨ j = 6 ∨ j = 7 ∨ j = 8 ∨ j = 9 ∨ j = 10 ∨ j = 11 ∨ j = 12 ∨ j = 13 ∨ j = 14 ∨ j = 15 ∨ j = 16 ∨ j = 17 by omega) with rfl | rfl | rfl | rfl | rfl | rfl | rfl | rfl | rfl | rfl | rfl | rfl | rfl | rfl | rfl | rfl | rfl | rfl
  · intro i hi; exact absurd hi (Nat.not_lt_zero _)
  · exact gv_n1
  · exact gv_n2
  · exact gv_n3
  · exact gv_n4
  · exact gv_n5
  · exact gv_n6
  · exact gv_n7
  · exact gv_n8
  · exact gv_n9
  · exact gv_n10
  · exact gv_n11
  · exact gv_n12
  · exact gv_n13
  · exact gv_n14
  · exact gv_n15
  · exact gv_n16
  · exact gv_n17
theorem gv_ne {i j : Nat} (hi : i < 18) (hj : j < 18) (h : i ≠ j) : Cond.not (Cond.eq (lw_tm i) (lw_tm j)) ∈ lw_gv ∨ Cond.not (Cond.eq (lw_tm j) (lw_tm i)) ∈ lw_gv := by
  rcases Nat.lt_or_gt_of_ne h with q | q
  · exact Or.inl (lw_nxm (gv_nl j hj i q))
  · exact Or.inr (lw_nxm (gv_nl i hi j q))
set_option maxRecDepth 100000 in
theorem gv_ab : Cond.arrayOf (.static "InnerCircle" "ABOVE" "[I") .int ∈ lw_gv ∧ Cond.eq (.length (.static "InnerCircle" "ABOVE" "[I")) (.int (Int32.ofNat 6)) ∈ lw_gv ∧ ∀ j, j < 6 → Cond.eq (.elem (.static "InnerCircle" "ABOVE" "[I") (.int (Int32.ofNat j))) (.int (ic_abv j)) ∈ lw_gv := by decide +kernel
set_option maxRecDepth 100000 in
theorem gv_st : Cond.eq (.static "java/lang/String" "COMPACT_STRINGS" "Z") (.int 1) ∈ lw_gv ∧ Cond.isRef (.static "jdk/internal/util/Preconditions" "SIOOBE_FORMATTER" "Ljava/util/function/BiFunction;") ∈ lw_gv := by decide +kernel
set_option maxRecDepth 100000 in
theorem tb_in : ∀ c, c < 13 → Cond.instantiable (ic_R c) (ic_N c) ∈ lw_tbl := by decide +kernel
set_option maxRecDepth 100000 in
theorem tb_ref : ∀ i, i < 18 → Cond.stringRef "InnerCircle$Rules" (ic_txt.getD i (0, "")).1 (ic_txt.getD i (0, "")).2 ∈ lw_tbl := by decide +kernel
set_option maxRecDepth 100000 in
theorem tb_nest : ∀ q ∈ ic_nest, Cond.methodLinkNest q.1 q.2.1 q.2.2.1 q.2.2.2 ∈ lw_tbl := by decide +kernel
set_option maxRecDepth 100000 in
theorem tb_cast : ∀ c ∈ ic_kn, Cond.castable (ic_R c) "InnerCircle$Rider" ∈ lw_tbl := by decide +kernel
set_option maxRecDepth 100000 in
theorem tb_arr : Cond.arrayClass .int ∈ lw_tbl ∧ Cond.arrayClass .byte ∈ lw_tbl ∧ Cond.arrayOver (.object "InnerCircle$Moment") ∈ lw_tbl ∧ Cond.arrayOver (.object "InnerCircle$Rider") ∈ lw_tbl ∧ Cond.arrayOver (.array .int) ∈ lw_tbl := by decide +kernel
set_option maxRecDepth 100000 in
theorem tb_st : (Cond.laysStatic "InnerCircle" "ABOVE" "[I" ∈ lw_tbl ∧ Cond.initialized "InnerCircle" ∈ lw_tbl) ∧ (Cond.laysStatic "java/lang/String" "COMPACT_STRINGS" "Z" ∈ lw_tbl ∧ Cond.initialized "java/lang/String" ∈ lw_tbl) ∧ (Cond.laysStatic "jdk/internal/util/Preconditions" "SIOOBE_FORMATTER" "Ljava/util/function/BiFunction;" ∈ lw_tbl ∧ Cond.initialized "jdk/internal/util/Preconditions" ∈ lw_tbl) := by decide +kernel
theorem ic_txt_at {i : Nat} {q : Nat × String} (h : ic_txt[i]? = some q) : i < 18 ∧ ic_txt.getD i (0, "") = q := by
  refine ⟨(List.getElem?_eq_some_iff.mp h).1, ?_⟩
  rw [List.getD_eq_getElem?_getD, h]
  rfl
theorem ic_env {s : State} {b : Nat} (hts : ∀ w ∈ lw_tbl, w.before #[Value.ref b] s = true) (hgv : (Jvm.Cond.and given_1 narrow_1).before #[Value.ref b] s = true) :
    ∃ E : ic_E, ic_b E = s.heap.size ∧ ic_K E s s.heap ∧ ic_Ov s ∧ Value.category E.2.2.2.2.2.2 = 1 := by
  have hs := flat_of_before _ hgv
  have hw : ∀ w ∈ ic_W, w.before #[Value.ref b] s = true := fun w h => hts w (List.mem_filter.mp h).1
  have hA : ∀ a : Nat, a < s.heap.size → ¬ (fun q : Nat => s.heap.size ≤ q) a := fun a h => Nat.not_le.mpr h
  -- classes
  have h0 : ∀ c : Nat, ∃ p : ClassId × (Nat → Nat), c < 13 → u_Kn s (ic_R c) (ic_T c) (ic_N c) p.1 p.2 := by
    intro c
    by_cases hc : c < 13
    · obtain ⟨cC, iS, h⟩ := u_known hw (ic_lays c hc) (hts _ (tb_in c hc))
      exact ⟨(cC, iS), fun _ => h⟩
    · exact ⟨(0, fun _ => 0), fun h => absurd h hc⟩
  obtain ⟨D, hD⟩ := Classical.axiomOfChoice h0
  -- arrays
  obtain ⟨cI, kI, pI, i1, i2, i3⟩ := Cond.arrayClass_spec (hts _ tb_arr.1)
  obtain ⟨cB, kB, pB, b1, b2, b3⟩ := Cond.arrayClass_spec (hts _ tb_arr.2.1)
  obtain ⟨pM, cM, kM, m1, -, m3, m4, m5⟩ := Cond.arrayOver_spec (hts _ tb_arr.2.2.1)
  obtain ⟨pR, cR, kR, r1, -, r3, r4, r5⟩ := Cond.arrayOver_spec (hts _ tb_arr.2.2.2.1)
  obtain ⟨pA, cA, kA, a1, a2, a3, a4⟩ := ic_aoSpec (hts _ tb_arr.2.2.2.2)
  -- the table, the strings, the statics
  obtain ⟨tA, tA1, tA2⟩ := va_Tof (f := fun j => .int (ic_abv j)) (A := fun q : Nat => s.heap.size ≤ q) (by decide) (hs _ gv_ab.1) (va_eqt (hs _ gv_ab.2.1)) (fun j hj => va_eqt (hs _ (gv_ab.2.2 j hj))) hA
  obtain ⟨aK, aV, hS, hE⟩ := vk_Sof (A := fun q : Nat => s.heap.size ≤ q) ic_len_lt (fun i hi => hs _ (gv_ex i hi)) (fun i hi => hs _ (gv_co i hi)) (fun i hi => hs _ (gv_ar i hi)) (fun i hi => hs _ (gv_le i hi)) (fun i hi j hj => hs _ (gv_el i hi j hj)) (fun i j hi hj hij => (gv_ne hi hj hij).imp (hs _) (hs _)) hA
  obtain ⟨V, hV, hVc⟩ : ∃ V : Value, va_Z "jdk/internal/util/Preconditions" "SIOOBE_FORMATTER" "Ljava/util/function/BiFunction;" V (fun q : Nat => s.heap.size ≤ q) s s.heap ∧ V.category = 1 := by
    rcases va_Zqof (A := fun q : Nat => s.heap.size ≤ q) (hts _ tb_st.2.2.1) (hts _ tb_st.2.2.2) (hs _ gv_st.2) hA with h | ⟨t, h⟩
    · exact ⟨_, h, rfl⟩
    · exact ⟨_, h, rfl⟩
  refine ⟨((fun c => (D c).1, fun c => (D c).2), (fun t => if t = 100 then cI else if t = 101 then cB else if t = 102 then cM else if t = 103 then cR else cA), s.heap.size, aK, aV, tA, V), rfl, ⟨⟨fun c q hq => ?_, fun k q hk => ?_⟩, ⟨va_Zof (hts _ tb_st.1.1) (hts _ tb_st.1.2) tA1 hA, tA2⟩, ⟨hS, fun i q hq => ?_⟩, ⟨va_Zof (hts _ tb_st.2.1.1) (hts _ tb_st.2.1.2) (va_eqt (hs _ gv_st.1)) hA, hV⟩, fun q hq => va_Nw.of rfl (hts _ (tb_nest q hq))⟩, ⟨va_AO.of (hts _ tb_arr.2.2.1), va_AO.of (hts _ tb_arr.2.2.2.1), hts _ tb_arr.2.2.2.2, fun c hc => va_Nw.of rfl (hts _ (tb_cast c hc))⟩, hVc⟩
  · have hc : c < 13 := (List.getElem?_eq_some_iff.mp hq).1
    have e := Option.some.inj ((ic_cl c hc).symm.trans hq)
    subst e
    exact hD c hc
  · have hk5 : k < 5 := (List.getElem?_eq_some_iff.mp hk).1
    rcases (show k = 0 ∨ k = 1 ∨ k = 2 ∨ k = 3 ∨ k = 4 by omega) with rfl | rfl | rfl | rfl | rfl
    · cases hk
      exact ⟨fun n z => ⟨fun k h => (by cases h), kI, i2, pI, i3⟩, i1⟩
    · cases hk
      exact ⟨fun n z => ⟨fun k h => (by cases h), kB, b2, pB, b3⟩, b1⟩
    · cases hk
      exact ⟨fun n z => ⟨fun k h => (by cases h), kM, m3, pM, m4⟩, kM, pM, m3, m4, m1, m5⟩
    · cases hk
      exact ⟨fun n z => ⟨fun k h => (by cases h), kR, r3, pR, r4⟩, kR, pR, r3, r4, r1, r5⟩
    · cases hk
      exact ⟨fun n z => ⟨fun k h => (by cases h), kA, a2, pA, a3⟩, a4⟩
  · obtain ⟨hi, e⟩ := ic_txt_at hq
    have h1 := hts _ (tb_ref i hi)
    have h2 := hE i hi
    unfold lw_tm at h2
    rw [e] at h1 h2
    exact vk_R.of h1 h2
