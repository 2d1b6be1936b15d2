/-! constants, the table, strings, copies, null -/
def ic_sp (E : ic_E) (i : Nat) : Value := .ref (E.2.2.2.1 i)
def ic_bp (E : ic_E) (i : Nat) : Value := .ref (E.2.2.2.2.1 i)
def ic_tp (E : ic_E) : Value := .ref E.2.2.2.2.2.1
section RS
variable {l : Launch} {E : ic_E} {F : ic_F} {kc : Nat × Nat} {pc : Nat} {L : List (Nat × Value)} {st : List Value} {sh : List ic_S} {h : ic_H}
theorem xx_ldc {idx : Nat} {v : Int32} (hd : decode F.2.2.1 pc = .ok (.ldc idx, 2)) (hc : Cond.constant F.1 idx v ∈ ic_W) (kk : xx l E F kc (pc + 2) L (.int v :: st) sh h) : xx l E F kc pc L st sh h :=
  fun p e s m args below meth c H locs ls N M S hl => lv_ldc N.1 N.2.1 N.2.2.2.2.2.1 (N.2.2.2.2.2.2.2.1 _ hc) hd (kk p e s m args below meth c H locs ls N M S hl)
theorem xx_ldcw {idx : Nat} {v : Int32} (hd : decode F.2.2.1 pc = .ok (.ldc_w idx, 3)) (hc : Cond.constant F.1 idx v ∈ ic_W) (kk : xx l E F kc (pc + 3) L (.int v :: st) sh h) : xx l E F kc pc L st sh h :=
  fun p e s m args below meth c H locs ls N M S hl => lv_ldcw N.1 N.2.1 N.2.2.2.2.2.1 (N.2.2.2.2.2.2.2.1 _ hc) hd (kk p e s m args below meth c H locs ls N M S hl)
theorem xx_ldc2 {idx : Nat} {v : Int64} (hd : decode F.2.2.1 pc = .ok (.ldc2_w idx, 3)) (hc : Cond.constantLong F.1 idx v ∈ ic_W) (kk : xx l E F kc (pc + 3) L (.long v :: st) sh h) : xx l E F kc pc L st sh h :=
  fun p e s m args below meth c H locs ls N M S hl => lv_ldc2 N.1 N.2.1 N.2.2.2.2.2.1 (N.2.2.2.2.2.2.2.1 _ hc) hd (kk p e s m args below meth c H locs ls N M S hl)
theorem xx_ldcS {idx : Nat} (i : Nat) {tx : String} (hd : decode F.2.2.1 pc = .ok (.ldc idx, 2)) (ho : F.1 = "InnerCircle$Rules") (hi : ic_txt[i]? = some (idx, tx)) (kk : xx l E F kc (pc + 2) L (ic_sp E i :: st) sh h) : xx l E F kc pc L st sh h :=
  fun p e s m args below meth c H locs ls N M S hl => va_ldcS (own := "InnerCircle$Rules") N.1 N.2.1 (ho ▸ N.2.2.2.2.2.1) (N.2.2.2.2.2.2.2.2.1.2.2.1.2 i _ hi) hd (kk p e s m args below meth c H locs ls N M S hl)
theorem xx_getsT {idx : Nat} (hd : decode F.2.2.1 pc = .ok (.getstatic idx, 3)) (hc : Cond.fieldLink F.1 idx "InnerCircle" "ABOVE" "[I" ∈ ic_W) (kk : xx l E F kc (pc + 3) L (ic_tp E :: st) sh h) : xx l E F kc pc L st sh h :=
  fun p e s m args below meth c H locs ls N M S hl => va_gets N.1 N.2.1 N.2.2.2.2.2.2.2.2.1.2.1.1 S N.2.2.2.2.2.1 (N.2.2.2.2.2.2.2.1 _ hc) (fun _ q => q) hd (kk p e s m args below meth c H locs ls N M S hl)
theorem xx_getsC {idx : Nat} (hd : decode F.2.2.1 pc = .ok (.getstatic idx, 3)) (hc : Cond.fieldLink F.1 idx "java/lang/String" "COMPACT_STRINGS" "Z" ∈ ic_W) (kk : xx l E F kc (pc + 3) L (.int 1 :: st) sh h) : xx l E F kc pc L st sh h :=
  fun p e s m args below meth c H locs ls N M S hl => va_gets N.1 N.2.1 N.2.2.2.2.2.2.2.2.1.2.2.2.1.1 S N.2.2.2.2.2.1 (N.2.2.2.2.2.2.2.1 _ hc) (fun _ q => q) hd (kk p e s m args below meth c H locs ls N M S hl)
theorem xx_getsP {idx : Nat} (hd : decode F.2.2.1 pc = .ok (.getstatic idx, 3)) (hc : Cond.fieldLink F.1 idx "jdk/internal/util/Preconditions" "SIOOBE_FORMATTER" "Ljava/util/function/BiFunction;" ∈ ic_W) (kk : xx l E F kc (pc + 3) L (E.2.2.2.2.2.2 :: st) sh h) : xx l E F kc pc L st sh h :=
  fun p e s m args below meth c H locs ls N M S hl => va_gets N.1 N.2.1 N.2.2.2.2.2.2.2.2.1.2.2.2.1.2 S N.2.2.2.2.2.1 (N.2.2.2.2.2.2.2.1 _ hc) (fun _ q => q) hd (kk p e s m args below meth c H locs ls N M S hl)
theorem xx_tald {i : Int32} (j : Nat) (hd : decode F.2.2.1 pc = .ok (.iaload, 1)) (hi : i = nI j) (hj : j < 6) (kk : xx l E F kc (pc + 1) L (.int (ic_abv j) :: st) sh h) : xx l E F kc pc L (.int i :: ic_tp E :: st) sh h := by
  intro p e s m args below meth c H locs ls N M S hl
  refine va_ti N.1 N.2.1 N.2.2.2.2.2.2.2.2.1.2.1.2 S (i := i) (by rw [hi]; exact vp_in_nI hj (by omega)) (v := .int (ic_abv j)) (by rw [hi, nI_clamp (by omega)]) hd (kk p e s m args below meth c H locs ls N M S hl)
theorem xx_strV {idx i : Nat} (hd : decode F.2.2.1 pc = .ok (.getfield idx, 3)) (hi : i < 18) (hc : Cond.fieldLink F.1 idx "java/lang/String" "value" "[B" ∈ ic_W) (kk : xx l E F kc (pc + 3) L (ic_bp E i :: st) sh h) : xx l E F kc pc L (ic_sp E i :: st) sh h :=
  fun p e s m args below meth c H locs ls N M S hl => vk_getf N.1 N.2.1 (N.2.2.2.2.2.2.2.2.1.2.2.1.1.1 i hi).2.2.1 S N.2.2.2.2.2.1 (N.2.2.2.2.2.2.2.1 _ hc) (fun _ q => q) hd (kk p e s m args below meth c H locs ls N M S hl)
theorem xx_strC {idx i : Nat} (hd : decode F.2.2.1 pc = .ok (.getfield idx, 3)) (hi : i < 18) (hc : Cond.fieldLink F.1 idx "java/lang/String" "coder" "B" ∈ ic_W) (kk : xx l E F kc (pc + 3) L (.int 0 :: st) sh h) : xx l E F kc pc L (ic_sp E i :: st) sh h :=
  fun p e s m args below meth c H locs ls N M S hl => vk_getf N.1 N.2.1 (N.2.2.2.2.2.2.2.2.1.2.2.1.1.1 i hi).2.1 S N.2.2.2.2.2.1 (N.2.2.2.2.2.2.2.1 _ hc) (fun _ q => q) hd (kk p e s m args below meth c H locs ls N M S hl)
theorem ic_len_lt : ∀ i, i < 18 → ic_len.getD i 0 < 2 ^ 31 := by decide +kernel
theorem xx_strL {i : Nat} (hd : decode F.2.2.1 pc = .ok (.arraylength, 1)) (hi : i < 18) (kk : xx l E F kc (pc + 1) L (.int (nI (ic_len.getD i 0)) :: st) sh h) : xx l E F kc pc L (ic_bp E i :: st) sh h :=
  fun p e s m args below meth c H locs ls N M S hl => va_tlen N.1 N.2.1 (N.2.2.2.2.2.2.2.2.1.2.2.1.1.1 i hi).2.2.2 S (v := nI (ic_len.getD i 0)) rfl hd (kk p e s m args below meth c H locs ls N M S hl)
theorem xx_strB {i : Nat} {q : Int32} (j : Nat) (hd : decode F.2.2.1 pc = .ok (.baload, 1)) (hi : i < 18) (hq : q = nI j) (hj : j < ic_len.getD i 0) (kk : xx l E F kc (pc + 1) L (.int ((ic_byt.getD i []).getD j 0) :: st) sh h) : xx l E F kc pc L (.int q :: ic_bp E i :: st) sh h := by
  intro p e s m args below meth c H locs ls N M S hl
  have hl2 := ic_len_lt i hi
  exact va_tb N.1 N.2.1 (N.2.2.2.2.2.2.2.2.1.2.2.1.1.1 i hi).2.2.2 S (i := q) (by rw [hq]; exact vp_in_nI hj (by omega)) (v := .int ((ic_byt.getD i []).getD j 0)) (by rw [hq, nI_clamp (by omega)]) hd (kk p e s m args below meth c H locs ls N M S hl)
theorem xx_ifnn {t : Nat} {off : Int} (tgt : Nat) (hd : decode F.2.2.1 pc = .ok (.ifnonnull off, 3)) (ht : (pc : Int) + off = (tgt : Int)) (kt : ¬ t = 0 → xx l E F kc tgt L st sh h) (kf : t = 0 → xx l E F kc (pc + 3) L st sh h) : xx l E F kc pc L (ic_rv (ic_b E) t :: st) sh h := by
  intro p e s m args below meth c H locs ls N M S hl
  by_cases q : t = 0
  · have e1 : ic_rv (ic_b E) t = .null := by unfold ic_rv; rw [if_pos q]
    rw [e1]
    exact lv_ifnonnullN N.1 N.2.1 hd (kf q p e s m args below meth c H locs ls N M S hl)
  · have e1 : ic_rv (ic_b E) t = .ref (ic_b E + (t - 1)) := by unfold ic_rv; rw [if_neg q]
    rw [e1]
    exact lv_ifnonnull N.1 N.2.1 hd ht (kt q p e s m args below meth c H locs ls N M S hl)
theorem xx_ifnull {t : Nat} {off : Int} (tgt : Nat) (hd : decode F.2.2.1 pc = .ok (.ifnull off, 3)) (ht : (pc : Int) + off = (tgt : Int)) (kt : t = 0 → xx l E F kc tgt L st sh h) (kf : ¬ t = 0 → xx l E F kc (pc + 3) L st sh h) : xx l E F kc pc L (ic_rv (ic_b E) t :: st) sh h := by
  intro p e s m args below meth c H locs ls N M S hl
  by_cases q : t = 0
  · have e1 : ic_rv (ic_b E) t = .null := by unfold ic_rv; rw [if_pos q]
    rw [e1]
    exact lv_ifnullN N.1 N.2.1 hd ht (kt q p e s m args below meth c H locs ls N M S hl)
  · have e1 : ic_rv (ic_b E) t = .ref (ic_b E + (t - 1)) := by unfold ic_rv; rw [if_neg q]
    rw [e1]
    exact lv_ifnull N.1 N.2.1 hd (kf q p e s m args below meth c H locs ls N M S hl)
theorem xx_null (hd : decode F.2.2.1 pc = .ok (.aconst_null, 1)) (kk : xx l E F kc (pc + 1) L (.null :: st) sh h) : xx l E F kc pc L st sh h :=
  fun p e s m args below meth c H locs ls N M S hl => lv_null N.1 N.2.1 hd (kk p e s m args below meth c H locs ls N M S hl)
theorem ic_row_setD {b c : Nat} {rs : List Nat} {h : ic_H} {o k t : Nat} (hr : ic_isR (ic_ty c k) = true) (hd : rs.getD k 0 = 1000000) (ht : t < 2 ^ 31) : ((List.range (ic_N c)).map (ic_fv b c rs h o)).set k (ic_rv b t) = (List.range (ic_N c)).map (ic_fv b c rs (ic_up h o k (nI t)) o) := by
  apply List.ext_getElem?
  intro j
  by_cases hj : j < ic_N c
  · rw [ic_row hj]
    by_cases e : j = k
    · subst e
      rw [List.getElem?_set_self (by simp [hj])]
      unfold ic_fv
      rw [if_pos hr, if_pos hd, ic_up_s, nI_clamp ht]
    · rw [List.getElem?_set_ne (fun q => e q.symm), ic_row hj, ic_fv_o (Or.inr e)]
  · rw [List.getElem?_eq_none_iff.mpr (by simp; omega), List.getElem?_eq_none_iff.mpr (by simp; omega)]
/-- a reference that the heap says, anew -/
theorem xx_putD {idx o c n k : Nat} {rs : List Nat} {w : Value} (t : Nat) (hd : decode F.2.2.1 pc = .ok (.putfield idx, 3)) (hs : sh[o]? = some (c, n, rs)) (hf : ic_FX F.1 idx c k) (hr : ic_isR (ic_ty c k) = true) (hdy : rs.getD k 0 = 1000000) (hfin : (ic_T c k).2.2.2 = false) (hw : w = ic_rv (ic_b E) t) (ht : t < 2 ^ 31) (hn : narrow (ic_ty c k) w = w) (hfit : fits (ic_ty c k) w = true) (kk : xx l E F kc (pc + 3) L st sh (ic_up h o k (nI t))) : xx l E F kc pc L (w :: ic_pt E o :: st) sh h := by
  intro p e s m args below meth c0 H locs ls N M S hl
  refine ic_put N M S hd hs hf hfin hn hfit fun H' locs' hP hz hS' => kk p e s m args below meth c0 H' locs' ls N ⟨fun z => hz.trans (M.1 z), ?_⟩ hS' hl
  rw [hw, ic_row_setD hr hdy ht, ic_ws_set hs (by rw [ic_ob_c hf.1]) (fun a ha sq => ic_ob_o ha sq)] at hP
  exact hP
/-- n ints of the row o from place i on into the row o2 from place j on -/
def ic_cp (h : ic_H) (o i o2 j n : Nat) : ic_H := fun a q => if a = o2 then va_cpy (h o) (h o2) i j n q else h a q
theorem xx_copy {idx o n0 o2 n2 : Nat} {rs rs2 : List Nat} {sp dp n : Int32} (i j w : Nat) (hz : F.2.2.2.2.2.2.1 = False) (hd : decode F.2.2.1 pc = .ok (.invokestatic idx, 3)) (hl1 : Cond.methodLink F.1 idx arraycopyName ∈ ic_W) (hl2 : Cond.native arraycopyName ∈ ic_W ∧ Cond.static arraycopyName ∈ ic_W ∧ Cond.initialized "java/lang/System" ∈ ic_W)
    (hs : sh[o]? = some (100, n0, rs)) (hs2 : sh[o2]? = some (100, n2, rs2)) (e1 : sp = nI i) (e2 : dp = nI j) (e3 : n = nI w) (h1 : i + w ≤ n0) (h2 : j + w ≤ n2) (hb : n0 < 2 ^ 31 ∧ n2 < 2 ^ 31) (hR : 1 ≤ F.2.2.2.2.2.1.frames ∧ (st.map fun v => v.category).sum + (nativeFrameWords "java/lang/System" "arraycopy" 5 + 11) ≤ F.2.2.2.2.2.1.locals)
    (kk : xx l E F kc (pc + 3) L st sh (ic_cp h o i o2 j w)) : xx l E F kc pc L (.int n :: .int dp :: ic_pt E o2 :: .int sp :: ic_pt E o :: st) sh h := by
  intro p e s m args below meth c H locs ls N M S hl
  have he : (ic_ws E sh h)[o]? = some (ic_b E + o, .inl (E.2.1 100, n0, .inl (h o))) := by rw [ic_ws_at hs, ic_ob_i (by omega) (by omega)]
  have he2 : (ic_ws E sh h)[o2]? = some (ic_b E + o2, .inl (E.2.1 100, n2, .inl (h o2))) := by rw [ic_ws_at hs2, ic_ob_i (by omega) (by omega)]
  have hts := N.2.2.2.2.2.2.2.1
  have c1 : sp.toNatClampNeg = i := by rw [e1, nI_clamp (by omega)]
  have c2 : dp.toNatClampNeg = j := by rw [e2, nI_clamp (by omega)]
  have c3 : n.toNatClampNeg = w := by rw [e3, nI_clamp (by omega)]
  refine va_copyi (ty := .int) N.1 N.2.1 (N.2.2.2.2.1.trans hl.1.symm) N.2.2.2.2.2.1 (hts _ hl1) (hts _ hl2.1) (hts _ hl2.2.1) (hts _ hl2.2.2) N.2.2.2.2.2.2.2.2.1.1 M.2 (ic_D E sh h) S o o2 0 0 he he2 rfl rfl rfl (by rw [e1]; exact nI_pos (by omega)) (by rw [e2]; exact nI_pos (by omega)) (by rw [e3]; exact nI_pos (by omega)) (by rw [c1, c3]; exact h1) (by rw [c2, c3]; exact h2) (fun _ _ => rfl) hR.1 hR.2 hd fun H1 locs1 hP hD hS => ?_
  rw [c1, c2, c3] at hP
  refine kk p e s m args below meth c H1 locs1 ls N ⟨fun q => ?_, ?_⟩ hS hl
  · rw [hz] at q
    exact q.elim
  · rw [ic_ws_set (h' := ic_cp h o i o2 j w) hs2 (by rw [ic_ob_i (by omega) (by omega)]; unfold ic_cp; simp) (fun a ha sq => by unfold ic_ob ic_fv ic_cp; simp [ha])] at hP
    exact hP
/-- a method of a literal -/
theorem xx_callStr {Y : ic_Y} {n d' mc' ms' idx i : Nat} {Q' : Option Value → ic_H → Prop} {st0 As : List Value} {sh2 : List ic_S} (hi : i < 18) (hC : ic_C l E Y d' mc' ms' F.2.2.2.2.2.2.1 (ic_sp E i :: As) sh h sh2 Q') (hY : ic_Yk Y n) (hc : Y.1.cls = "java/lang/String" ∧ Cond.methodLink F.1 idx Y.1 ∈ ic_W ∧ Cond.instanceMethod Y.1 ∈ ic_W ∧ Cond.selects "java/lang/String" Y.1 Y.1 ∈ ic_W) (hd : decode F.2.2.1 pc = .ok (.invokevirtual idx, 3)) (hn : As.length = n) (hst : st0 = As.reverse ++ (ic_sp E i :: st)) (hW : (st.map fun v => v.category).sum ≤ 8)
    (hR : d' + 1 ≤ F.2.2.2.2.2.1.frames ∧ 8 + (Y.2.2.1 + 11) + 48 * d' ≤ F.2.2.2.2.2.1.locals) (hf : kc.1 + mc' ≤ F.2.2.2.2.2.1.cells ∧ kc.2 + ms' ≤ F.2.2.2.2.2.1.slots) (kk : ∀ r h', Q' r h' → xx l E F (kc.1 + mc', kc.2 + ms') (pc + 3) L (r.toList ++ st) sh2 h') : xx l E F kc pc L st0 sh h := by
  intro p e s m args below meth c0 H locs ls N M S hl
  have hts := N.2.2.2.2.2.2.2.1
  have hp := ic_pre (As := ic_sp E i :: As) N M S
  refine ic_after N S hl (va_runV (nL := F.2.2.2.1) (n := n) (As := As) (rest := st) (b := E.2.2.2.1 i) (C := "java/lang/String") ⟨N.1, N.2.1, N.2.2.2.2.1, N.2.2.2.2.2.1, hts⟩ hC ⟨ic_callB N hY hc.2.1 hR, hts _ hc.2.2.1, hts _ hc.2.2.2⟩ ⟨hp.1, vk_recv N.2.2.2.2.2.2.2.2.1.2.2.1.1 hi S, hp.2⟩ rfl hn hl.1 hst (lv_room hW) hd hf) kk
end RS
