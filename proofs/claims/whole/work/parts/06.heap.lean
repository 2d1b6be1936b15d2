/-! heap, statics, strings -/
/-- a field of the class c, its place k, by the pool's number idx in own -/
def ic_FX (own : String) (idx c k : Nat) : Prop := c < 13 ∧ k < ic_N c ∧ ∃ ref : String, Cond.fieldLink own idx ref (ic_T c k).2.1 (ic_T c k).2.2.1 ∈ ic_W ∧ (ref = (ic_T c k).1 ∨ Cond.sameField ref (ic_T c k).1 (ic_T c k).2.1 (ic_T c k).2.2.1 ∈ ic_W)
theorem ic_same {args : Array Value} {s : State} {own : String} {idx c k : Nat} {ref : String} (hts : ∀ w ∈ ic_W, w.before args s = true) (h : ref = (ic_T c k).1 ∨ Cond.sameField ref (ic_T c k).1 (ic_T c k).2.1 (ic_T c k).2.2.1 ∈ ic_W) : ∀ x, s.fieldFound? (ic_T c k).1 (ic_T c k).2.1 (ic_T c k).2.2.1 = some x → s.fieldFound? ref (ic_T c k).2.1 (ic_T c k).2.2.1 = some x := by
  intro x hx
  rcases h with rfl | h
  · exact hx
  · exact u_same (hts _ h) x hx
theorem ic_ob_c {E : ic_E} {c n : Nat} {rs : List Nat} {h : ic_H} {o : Nat} (hc : c < 13) : ic_ob E (c, n, rs) h o = .inr (c, (List.range (ic_N c)).map (ic_fv (ic_b E) c rs h o)) := by
  unfold ic_ob
  rw [if_pos (show c < 100 by omega)]
theorem ic_row {b c : Nat} {rs : List Nat} {h : ic_H} {o k : Nat} (hk : k < ic_N c) : ((List.range (ic_N c)).map (ic_fv b c rs h o))[k]? = some (ic_fv b c rs h o k) := by
  rw [List.getElem?_map, List.getElem?_range hk]
  rfl
theorem ic_row_set {b c : Nat} {rs : List Nat} {h : ic_H} {o k : Nat} {v : Int32} (hr : ic_isR (ic_ty c k) = false) : ((List.range (ic_N c)).map (ic_fv b c rs h o)).set k (.int v) = (List.range (ic_N c)).map (ic_fv b c rs (ic_up h o k v) o) := by
  apply List.ext_getElem?
  intro j
  by_cases hj : j < ic_N c
  · rw [ic_row hj]
    by_cases e : j = k
    · subst e
      rw [List.getElem?_set_self (by simp [hj])]
      simp [ic_fv, hr, ic_up_s]
    · rw [List.getElem?_set_ne (fun q => e q.symm), ic_row hj, ic_fv_o (Or.inr e)]
  · rw [List.getElem?_eq_none_iff.mpr (by simp; omega), List.getElem?_eq_none_iff.mpr (by simp; omega)]
theorem ic_KH {E : ic_E} {s : State} {H : Heap} {locs : List Loc} (hK : ic_K E s s.heap) (S : va_S (ic_A E) s.heap H locs) : ic_K E s H := hK.kept S.2.1
section HP
variable {l : Launch} {E : ic_E} {F : ic_F} {kc : Nat × Nat} {pc : Nat} {L : List (Nat × Value)} {st : List Value} {sh : List ic_S} {h : ic_H}
theorem ic_get {p : Program} {e : Env} {s : State} {m : MethodId} {args : Array Value} {below : List Frame} {meth : Method} {c0 : Code} {H : Heap} {locs : List Loc} {ls : Array Slot} {Z : State → Prop} {idx o c n k : Nat} {rs : List Nat} {v : Value} (N : ic_Fx E F p s m args meth c0) (M : ic_M E F.2.2.2.2.2.2.1 sh h H) (hd : decode F.2.2.1 pc = .ok (.getfield idx, 3)) (hs : sh[o]? = some (c, n, rs)) (hf : ic_FX F.1 idx c k) (hv : ic_fv (ic_b E) c rs h o k = v)
    (kk : W p l e F.2.2.2.2.2.1 s m args below meth c0 H locs kc.1 kc.2 Z (F0 m (pc + 3) ls (v :: st))) : W p l e F.2.2.2.2.2.1 s m args below meth c0 H locs kc.1 kc.2 Z (F0 m pc ls (.ref (ic_b E + o) :: st)) := by
  obtain ⟨hx, hb, -, -, -, hown, -, hts, hK, -⟩ := N
  obtain ⟨hc, hk, ref, hl, hsm⟩ := hf
  have he : (ic_ws E sh h)[o]? = some (ic_b E + o, .inr (c, (List.range (ic_N c)).map (ic_fv (ic_b E) c rs h o))) := by rw [ic_ws_at hs, ic_ob_c hc]
  refine va_get (C := ic_R c) (T := ic_T c) (N := ic_N c) (ref := ref) (index := idx) hx hb hts (ic_lays c hc) hown hK.1 M.2 o he (ic_cl c hc) k hk (hts _ hl) (ic_same (own := F.1) (idx := idx) hts hsm) (v := v) ?_ hd kk
  rw [ic_row hk, hv]
theorem xx_getI {idx o c n k : Nat} {rs : List Nat} (hd : decode F.2.2.1 pc = .ok (.getfield idx, 3)) (hs : sh[o]? = some (c, n, rs)) (hf : ic_FX F.1 idx c k) (hr : ic_isR (ic_ty c k) = false) (kk : xx l E F kc (pc + 3) L (.int (h o k) :: st) sh h) : xx l E F kc pc L (ic_pt E o :: st) sh h :=
  fun p e s m args below meth c H locs ls N M S hl => ic_get N M hd hs hf (by unfold ic_fv; rw [hr]; rfl) (kk p e s m args below meth c H locs ls N M S hl)
theorem xx_getR {idx o c n k : Nat} {rs : List Nat} (t : Nat) (hd : decode F.2.2.1 pc = .ok (.getfield idx, 3)) (hs : sh[o]? = some (c, n, rs)) (hf : ic_FX F.1 idx c k) (hr : ic_isR (ic_ty c k) = true) (ht : rs.getD k 0 = t + 1) (ht2 : ¬ t + 1 = 1000000) (kk : xx l E F kc (pc + 3) L (ic_pt E t :: st) sh h) : xx l E F kc pc L (ic_pt E o :: st) sh h :=
  fun p e s m args below meth c H locs ls N M S hl => ic_get N M hd hs hf (by unfold ic_fv; rw [hr, ht, if_pos rfl, if_neg ht2]; rfl) (kk p e s m args below meth c H locs ls N M S hl)
theorem xx_getD {idx o c n k : Nat} {rs : List Nat} (hd : decode F.2.2.1 pc = .ok (.getfield idx, 3)) (hs : sh[o]? = some (c, n, rs)) (hf : ic_FX F.1 idx c k) (hr : ic_isR (ic_ty c k) = true) (ht : rs.getD k 0 = 1000000) (kk : xx l E F kc (pc + 3) L (ic_rv (ic_b E) (h o k).toNatClampNeg :: st) sh h) : xx l E F kc pc L (ic_pt E o :: st) sh h :=
  fun p e s m args below meth c H locs ls N M S hl => ic_get N M hd hs hf (by unfold ic_fv; rw [hr, ht, if_pos rfl, if_pos rfl]) (kk p e s m args below meth c H locs ls N M S hl)
theorem ic_put {p : Program} {e : Env} {s : State} {m : MethodId} {args : Array Value} {below : List Frame} {meth : Method} {c0 : Code} {H : Heap} {locs : List Loc} {ls : Array Slot} {Z : State → Prop} {idx o c n k : Nat} {rs : List Nat} {v : Value} (N : ic_Fx E F p s m args meth c0) (M : ic_M E F.2.2.2.2.2.2.1 sh h H) (S : va_S (ic_A E) s.heap H locs) (hd : decode F.2.2.1 pc = .ok (.putfield idx, 3)) (hs : sh[o]? = some (c, n, rs)) (hf : ic_FX F.1 idx c k) (hfin : (ic_T c k).2.2.2 = false) (hn : narrow (ic_ty c k) v = v) (hfit : fits (ic_ty c k) v = true)
    (kk : ∀ (H' : Heap) (locs' : List Loc), va_P E.1 vwCl ((ic_ws E sh h).set o (ic_b E + o, .inr (c, ((List.range (ic_N c)).map (ic_fv (ic_b E) c rs h o)).set k v))) H' → H'.size = H.size → va_S (ic_A E) s.heap H' locs' → W p l e F.2.2.2.2.2.1 s m args below meth c0 H' locs' kc.1 kc.2 Z (F0 m (pc + 3) ls st)) : W p l e F.2.2.2.2.2.1 s m args below meth c0 H locs kc.1 kc.2 Z (F0 m pc ls (v :: .ref (ic_b E + o) :: st)) := by
  obtain ⟨hx, hb, -, -, -, hown, -, hts, hKK, -⟩ := N
  have hK := hKK.1
  obtain ⟨hc, hk, ref, hl, hsm⟩ := hf
  have he : (ic_ws E sh h)[o]? = some (ic_b E + o, .inr (c, (List.range (ic_N c)).map (ic_fv (ic_b E) c rs h o))) := by rw [ic_ws_at hs, ic_ob_c hc]
  have hap := va_apart (own := F.1) hts (ic_lays c hc) (ic_ty c) (ic_tyok c hc) (ic_nm c hc) hK (ic_cl c hc)
  obtain ⟨r, h1, cell, q1, q2, q3, q4⟩ := M.2 o _ he
  have hr : r = (ic_R c, ic_T c, ic_N c) := Option.some.inj (h1.symm.trans (ic_cl c hc))
  subst hr
  obtain ⟨hS, hfc, kC, hkC, hkind⟩ := hK.1 c _ (ic_cl c hc)
  obtain ⟨cf, kf, fi, f, hi, hsl⟩ := hS k hk
  have hlay := hts _ (ic_lays c hc _ (u_in_lay hk))
  unfold u_lay at hlay
  rw [if_neg (by rw [hfin]; decide)] at hlay
  have hst := (u_facts hfc hkC (u_lays hts (ic_lays c hc) hk) hi).1
  have h6 := u_store hfc hkC hkind hlay hi (ic_tyok c hc k hk) hn hfit
  refine W.putK hx hb (f := f) ⟨hown, hts _ hl, ⟨_, _, _, ic_same (own := F.1) (idx := idx) hts hsm _ hi⟩, hst⟩ (by rw [q2]; exact h6) q1 q3 (by rw [hsl]; exact k2_hasslot (q4 k hk)) rfl rfl hd fun H' e1 e2 e3 => ?_
  rw [hsl] at e1 ⊢
  exact kk H' _ (M.2.set (ic_D E sh h) he ⟨_, ic_cl c hc, t_OB.to (V := updV (vp_V ((List.range (ic_N c)).map (ic_fv (ic_b E) c rs h o))) k v) ⟨_, e1, q2, q3, t_set q4 hap hk v⟩ (fun j _ => vp_updV_set (by simp [hk]) v j)⟩ e3) e2 (S.put e2 e3 ((ic_D E sh h).2 o _ he))
theorem xx_putI {idx o c n k : Nat} {rs : List Nat} {x : Int32} (hd : decode F.2.2.1 pc = .ok (.putfield idx, 3)) (hs : sh[o]? = some (c, n, rs)) (hf : ic_FX F.1 idx c k) (hr : ic_isR (ic_ty c k) = false) (hfin : (ic_T c k).2.2.2 = false) (hn : narrow (ic_ty c k) (.int x) = .int x) (hfit : fits (ic_ty c k) (.int x) = true) (kk : xx l E F kc (pc + 3) L st sh (ic_up h o k x)) : xx l E F kc pc L (.int x :: ic_pt E o :: st) sh h := by
  intro p e s m args below meth c0 H locs ls N M S hl
  refine ic_put N M S hd hs hf hfin hn hfit fun H' locs' hP hz hS' => kk p e s m args below meth c0 H' locs' ls N ⟨fun z => hz.trans (M.1 z), ?_⟩ hS' hl
  rw [ic_row_set hr, ic_ws_set hs (by rw [ic_ob_c hf.1]) (fun a ha sq => ic_ob_o ha sq)] at hP
  exact hP
/-- rows of ints -/
theorem ic_ob_i {E : ic_E} {t n : Nat} {rs : List Nat} {h : ic_H} {o : Nat} (h1 : 100 ≤ t) (h2 : t < 102) : ic_ob E (t, n, rs) h o = .inl (E.2.1 t, n, .inl (h o)) := by
  unfold ic_ob
  rw [if_neg (show ¬ t < 100 by omega), if_pos (show t < 102 from h2)]
theorem ic_up_row (h : ic_H) (o j : Nat) (x : Int32) : upd (h o) j x = ic_up h o j x o := by
  funext i
  unfold upd ic_up
  by_cases e : i = j <;> simp [e]
theorem xx_iald {o n : Nat} {rs : List Nat} {i : Int32} (j : Nat) (hd : decode F.2.2.1 pc = .ok (.iaload, 1)) (hs : sh[o]? = some (100, n, rs)) (hi : i = nI j) (hj : j < n) (hn : n < 2 ^ 31) (kk : xx l E F kc (pc + 1) L (.int (h o j) :: st) sh h) : xx l E F kc pc L (.int i :: ic_pt E o :: st) sh h := by
  intro p e s m args below meth c H locs ls N M S hl
  have he : (ic_ws E sh h)[o]? = some (ic_b E + o, .inl (E.2.1 100, n, .inl (h o))) := by rw [ic_ws_at hs, ic_ob_i (by omega) (by omega)]
  refine va_iald N.1 N.2.1 N.2.2.2.2.2.2.2.2.1.1 M.2 o 0 he rfl (i := i) (by rw [hi]; exact vp_in_nI hj hn) hd ?_
  rw [hi, nI_clamp (by omega)]
  exact kk p e s m args below meth c H locs ls N M S hl
theorem xx_bald {o n : Nat} {rs : List Nat} {i : Int32} (j : Nat) (hd : decode F.2.2.1 pc = .ok (.baload, 1)) (hs : sh[o]? = some (101, n, rs)) (hi : i = nI j) (hj : j < n) (hn : n < 2 ^ 31) (kk : xx l E F kc (pc + 1) L (.int (h o j) :: st) sh h) : xx l E F kc pc L (.int i :: ic_pt E o :: st) sh h := by
  intro p e s m args below meth c H locs ls N M S hl
  have he : (ic_ws E sh h)[o]? = some (ic_b E + o, .inl (E.2.1 101, n, .inl (h o))) := by rw [ic_ws_at hs, ic_ob_i (by omega) (by omega)]
  refine va_bald N.1 N.2.1 N.2.2.2.2.2.2.2.2.1.1 M.2 o 1 he rfl (i := i) (by rw [hi]; exact vp_in_nI hj hn) hd ?_
  rw [hi, nI_clamp (by omega)]
  exact kk p e s m args below meth c H locs ls N M S hl
theorem ic_ast {E : ic_E} {sh : List ic_S} {h : ic_H} {o t n j : Nat} {rs : List Nat} {x : Int32} (hs : sh[o]? = some (t, n, rs)) (h1 : 100 ≤ t) (h2 : t < 102) : (ic_ws E sh h).set o (ic_b E + o, .inl (E.2.1 t, n, .inl (upd (h o) j x))) = ic_ws E sh (ic_up h o j x) :=
  ic_ws_set hs (by rw [ic_ob_i h1 h2, ic_up_row]) (fun a ha sq => ic_ob_o ha sq)
theorem xx_iast {o n : Nat} {rs : List Nat} {i x : Int32} (j : Nat) (hd : decode F.2.2.1 pc = .ok (.iastore, 1)) (hs : sh[o]? = some (100, n, rs)) (hi : i = nI j) (hj : j < n) (hn : n < 2 ^ 31) (kk : xx l E F kc (pc + 1) L st sh (ic_up h o j x)) : xx l E F kc pc L (.int x :: .int i :: ic_pt E o :: st) sh h := by
  intro p e s m args below meth c H locs ls N M S hl
  have he : (ic_ws E sh h)[o]? = some (ic_b E + o, .inl (E.2.1 100, n, .inl (h o))) := by rw [ic_ws_at hs, ic_ob_i (by omega) (by omega)]
  have hin : vp_in i n := by rw [hi]; exact vp_in_nI hj hn
  have hK := N.2.2.2.2.2.2.2.2.1.1
  refine W.iast N.1 N.2.1 (M.2 o _ he) ((hK.2 0 _ rfl).1 n (fun j => .int (h o j))) (fun q => by cases q) (by show ¬ (i < 0 ∨ (arrV _ _ _).slots.size ≤ _); rw [arrV_size]; exact hin) rfl rfl hd fun H1 e1 z oq => ?_
  refine kk p e s m args below meth c H1 _ ls N ⟨fun w => z.trans (M.1 w), ?_⟩ (S.put z oq ((ic_D E sh h).2 o _ he)) hl
  rw [← ic_ast hs (by omega) (by omega)]
  refine M.2.set (ic_D E sh h) he ?_ oq
  show H1[ic_b E + o]? = some (vp_cell _ _)
  rw [e1, vp_cell_i, vp_cell_i, arrV_store, hi, nI_clamp (by omega)]
  congr 2
  funext q
  by_cases hq : q = j
  · subst hq
    simp [updV, upd]
  · simp [updV, upd, hq]
theorem xx_bast {o n : Nat} {rs : List Nat} {i x : Int32} (j : Nat) (hd : decode F.2.2.1 pc = .ok (.bastore, 1)) (hs : sh[o]? = some (101, n, rs)) (hi : i = nI j) (hj : j < n) (hn : n < 2 ^ 31) (kk : xx l E F kc (pc + 1) L st sh (ic_up h o j (vp_nar .byte x))) : xx l E F kc pc L (.int x :: .int i :: ic_pt E o :: st) sh h := by
  intro p e s m args below meth c H locs ls N M S hl
  have he : (ic_ws E sh h)[o]? = some (ic_b E + o, .inl (E.2.1 101, n, .inl (h o))) := by rw [ic_ws_at hs, ic_ob_i (by omega) (by omega)]
  have hin : vp_in i n := by rw [hi]; exact vp_in_nI hj hn
  have hK := N.2.2.2.2.2.2.2.2.1.1
  refine W.bast N.1 N.2.1 (M.2 o _ he) ((hK.2 1 _ rfl).1 n (fun j => .int (h o j))) (fun q => by cases q) (by show ¬ (i < 0 ∨ (arrV _ _ _).slots.size ≤ _); rw [arrV_size]; exact hin) rfl rfl hd fun H1 e1 z oq => ?_
  refine kk p e s m args below meth c H1 _ ls N ⟨fun w => z.trans (M.1 w), ?_⟩ (S.put z oq ((ic_D E sh h).2 o _ he)) hl
  rw [← ic_ast hs (by omega) (by omega)]
  refine M.2.set (ic_D E sh h) he ?_ oq
  show H1[ic_b E + o]? = some (vp_cell _ _)
  rw [e1, vp_cell_i, vp_cell_i, arrV_store, hi, nI_clamp (by omega)]
  congr 2
  funext q
  by_cases hq : q = j
  · subst hq
    simp only [updV, upd, if_true]
    rfl
  · simp [updV, upd, hq]
/-- rows of references -/
theorem xx_aald {o t n : Nat} {rs : List Nat} {i : Int32} (j u : Nat) (hd : decode F.2.2.1 pc = .ok (.aaload, 1)) (hs : sh[o]? = some (t, n, rs)) (ht : t = 102 ∨ t = 103 ∨ t = 104) (hi : i = nI j) (hj : j < n) (hn : n < 2 ^ 31) (hu : rs.getD j 0 = u + 1) (kk : xx l E F kc (pc + 1) L (ic_pt E u :: st) sh h) : xx l E F kc pc L (.int i :: ic_pt E o :: st) sh h := by
  intro p e s m args below meth c H locs ls N M S hl
  have he : (ic_ws E sh h)[o]? = some (ic_b E + o, .inl (E.2.1 t, n, .inr (.inr (.inr (.inr (fun i => ic_ro (ic_b E) (rs.getD i 0))))))) := by
    rw [ic_ws_at hs]
    unfold ic_ob
    rw [if_neg (show ¬ t < 100 by omega), if_neg (show ¬ t < 102 by omega)]
  have hin : vp_in i n := by rw [hi]; exact vp_in_nI hj hn
  have hv : va_rf (ic_ro (ic_b E) (rs.getD i.toNatClampNeg 0)) = ic_pt E u := by
    rw [hi, nI_clamp (by omega), hu, ic_ro_rv]
    rfl
  have K2 := kk p e s m args below meth c H locs ls N M S hl
  rw [← hv] at K2
  have hK := N.2.2.2.2.2.2.2.2.1.1
  have hlt : i.toNatClampNeg < n := Nat.not_le.mp fun q => hin (Or.inr q)
  have go : ∀ (t0 : Nat) (ty : FieldType), (ic_tys E)[t0]? = some (E.2.1 t, ty) → refKind ty = true → W p l e F.2.2.2.2.2.1 s m args below meth c H locs kc.1 kc.2 (F.2.2.2.2.2.2.2.1 below args s) (F0 m pc ls (.int i :: ic_pt E o :: st)) := by
    intro t0 ty hty hrk
    exact W.aald (v := va_rf (ic_ro (ic_b E) (rs.getD i.toNatClampNeg 0))) (ty := ty) N.1 N.2.1 (M.2 o _ he) ((hK.2 t0 _ hty).1 n (fun j => va_rf (ic_ro (ic_b E) (rs.getD j 0)))) hrk (fun q => by cases q) (by show ¬ (i < 0 ∨ (arrV _ _ _).slots.size ≤ _); rw [arrV_size]; exact hin) (by show (arrV _ _ _).slots[_]? = _; rw [arrV_read _ _ hlt]) rfl rfl hd K2
  rcases ht with rfl | rfl | rfl
  · exact go 2 _ rfl rfl
  · exact go 3 _ rfl rfl
  · exact go 4 _ rfl rfl
theorem xx_alen {o t n : Nat} {rs : List Nat} (hd : decode F.2.2.1 pc = .ok (.arraylength, 1)) (hs : sh[o]? = some (t, n, rs)) (h1 : 100 ≤ t) (h2 : t < 102) (kk : xx l E F kc (pc + 1) L (.int (nI n) :: st) sh h) : xx l E F kc pc L (ic_pt E o :: st) sh h := by
  intro p e s m args below meth c H locs ls N M S hl
  have he : (ic_ws E sh h)[o]? = some (ic_b E + o, .inl (E.2.1 t, n, .inl (h o))) := by rw [ic_ws_at hs, ic_ob_i h1 h2]
  have hK := N.2.2.2.2.2.2.2.2.1.1
  rcases (show t = 100 ∨ t = 101 by omega) with rfl | rfl
  · exact va_alen N.1 N.2.1 hK M.2 o 0 he rfl (v := nI n) rfl hd (kk p e s m args below meth c H locs ls N M S hl)
  · exact va_alen N.1 N.2.1 hK M.2 o 1 he rfl (v := nI n) rfl hd (kk p e s m args below meth c H locs ls N M S hl)
end HP
