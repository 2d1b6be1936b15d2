/-! rows that make things -/
theorem mn_stand {p : Program} {l : Launch} {e : Env} {R : Room} {s : State} {m : MethodId} {args : Array Value} {below : List Frame} {meth : Method} {c : Code} {T : State} {locs : List Loc} {cells slots : Nat} (X : Stand p l e R s m args below meth c T locs cells slots) (a d : ClassId) (N M : Nat) :
    ∀ i, Stand p l e R s m args below meth c (mn_st T a d N M i) (locs ++ (List.range i).map fun j => ⟨T.heap.size, j⟩) (cells + 1 + i) (slots + N + i * M) := by
  intro i
  induction i with
  | zero =>
    have h := X.pushed (mn_out a N T.heap.size 0)
    rw [mn_size] at h
    simpa [mn_st] using h
  | succ i ih =>
    obtain ⟨f1, f2, -⟩ := mn_facts T a d N M i
    have lt0 : T.heap.size < (mn_st T a d N M i).heap.size := by rw [f1]; omega
    have at0 : ((mn_st T a d N M i).pushCell (mn_in d M)).heap[T.heap.size]? = some (mn_out a N T.heap.size i) := by rw [State.heap_pushCell_of_lt (h := lt0)]; exact f2
    have h := (ih.pushed (mn_in d M)).stored at0 i (.ref (T.heap.size + 1 + i))
    rw [mn_outS, show (mn_in d M).slots.size = M from arrV_size _ _ _] at h
    have e2 : (locs ++ (List.range (i + 1)).map fun j => (⟨T.heap.size, j⟩ : Loc)) = (locs ++ (List.range i).map fun j => (⟨T.heap.size, j⟩ : Loc)) ++ [⟨T.heap.size, i⟩] := by simp [List.range_succ, List.append_assoc]
    rw [e2, show slots + N + (i + 1) * M = slots + N + i * M + M by rw [Nat.succ_mul]; omega]
    exact h
theorem mn_W {p : Program} {l : Launch} {e : Env} {R : Room} {s : State} {m : MethodId} {args : Array Value} {below : List Frame} {meth : Method} {c : Code} {H : Heap} {locs : List Loc} {cells slots : Nat} {Q : State → Prop} {cc : ByteArray} (hexec : p.tables.exec = Jvm.exec) (hb : c.code = cc) {own : String} {index : Nat} (hown : s.vm.findClass own = some m.cls) (hclink : (Cond.classLink own index "[[I").before args s = true) {A : Array Value} (hover : (Cond.arrayOver (.array .int)).before A s = true) (harr : (Cond.arrayClass .int).before args s = true)
    {g : JFrame} (hg : g.method = m) (hdg : decode cc g.pc = .ok (.multianewarray index 2, 4)) {n k : Int32} {N M : Nat} {rest : List Value} (hstack : g.stack = .int k :: .int n :: rest) (hn : ¬ n < 0) (hk : ¬ k < 0) (hN : n.toNatClampNeg = N) (hM : k.toNatClampNeg = M) (hb1 : N * 4 ≤ 536870912) (hb2 : M * 4 ≤ 536870912) (hcells : cells + (1 + N) ≤ R.cells) (hslots : slots + (N + N * M) ≤ R.slots) {h : Nat} (hh : H.size = h)
    (kk : ∀ (H' : Heap) (cA comp : ClassId), s.vm.findClass "[[I" = some cA → s.vm.findClass "[I" = some comp → H'.size = h + 1 + N → H'[h]? = some (mn_out cA N h N) → (∀ a : Nat, a < h → H'[a]? = H[a]?) → (∀ j, j < N → H'[h + 1 + j]? = some (mn_in comp M)) → s.heap.size ≤ h →
      W p l e R s m args below meth c H' locs (cells + 1 + N) (slots + N + N * M) Q { g with pc := g.pc + 4, stack := .ref h :: rest }) : W p l e R s m args below meth c H locs cells slots Q g := by
  intro T hT X
  subst hT
  subst hb
  subst hg
  subst hh
  subst hN
  subst hM
  have hpl : e.platform.magicAccessors = ({} : Platform).magicAccessors := by rw [X.admits.platform]
  obtain ⟨comp, cA, kA, hcomp, hkA, hkindA, hnameA⟩ := ic_aoSpec hover
  obtain ⟨comp2, kC, cc2, hcomp2, hkC, hkindC⟩ := Cond.arrayClass_spec harr
  have e0 : comp2 = comp := Option.some.inj (hcomp2.symm.trans hcomp)
  subst e0
  obtain ⟨c0, hfc0, hcl⟩ := Cond.classLink_spec hown hclink e.platform hpl
  have e1 : cA = c0 := Option.some.inj (hnameA.symm.trans hfc0)
  subst e1
  obtain ⟨hg1, hwarm, -⟩ := State.classEntry (e := e) X.warmed hcl
  generalize T.vm.noted g.method.cls index (.cls cA) = vm1 at hg1 hwarm
  obtain ⟨kA1, hkA1, heA⟩ := hwarm.alike.2.2 _ _ hkA
  obtain ⟨kC1, hkC1, heC⟩ := hwarm.alike.2.2 _ _ hkC
  have X1 := X.noted hwarm
  have XF := mn_stand X1 cA comp2 n.toNatClampNeg k.toNatClampNeg n.toNatClampNeg
  have XG := Stand.forget XF (fun q hq => by
    obtain ⟨j, -, rfl⟩ := List.mem_map.mp hq
    exact X.same.2.1)
  obtain ⟨f1, f2, f3, -, f5, f6⟩ := mn_facts (T.setVm vm1) cA comp2 n.toNatClampNeg k.toNatClampNeg n.toNatClampNeg
  obtain ⟨t, a1, b1⟩ := kk (mn_st (T.setVm vm1) cA comp2 n.toNatClampNeg k.toNatClampNeg n.toNatClampNeg).heap cA comp2 hnameA hcomp f1 f2 f5 f6 X.same.2.1 _ rfl XG
  refine ⟨t, ?_, b1⟩
  obtain ⟨hr1, hr2⟩ := X.roomAbove hcells hslots
  jvm_step X.here [hexec, hdg]
  simp only [Op.multianewarray.sem, wp_bind', W.resolveClassAt_links (State.method?_setTop g X.here.top) hg1]
  rw [W.popN, if_neg (by decide)]
  refine ⟨g, State.topJava?_setTop' (s := T.setVm vm1) g X.here.top, [.int n, .int k], rest, rfl, hstack, ?_⟩
  simp only [List.mapM_cons, List.mapM_nil, wp_bind', wp_pure']
  refine mn_make (kc := kA1) (ky := kC1) hkA1 (by rw [heA]; exact hkindA) hkC1 (by rw [heC]; exact hkindC) hn hk (by rw [Launch.admits_arrayLengthLimit X.admits]; omega) (by rw [Launch.admits_maxHeapBytes X.admits]; show ¬ n.toNatClampNeg * 4 > 536870912; omega) (by rw [Launch.admits_arrayLengthLimit X.admits]; omega) (by rw [Launch.admits_maxHeapBytes X.admits]; show ¬ k.toNatClampNeg * 4 > 536870912; omega) (by show T.heap.size + 1 + _ ≤ _; omega) (by show T.slotsUsed + _ + _ ≤ _; omega) (fun d' acts' => ?_)
  have eS : ((T.setTop g).setVm vm1).setTop { g with stack := rest } = (T.setVm vm1).setTop { g with stack := rest } := by
    show ((T.setVm vm1).setTop g).setTop _ = _
    rw [State.setTop_setTop]
  rw [eS, mn_top]
  simp only [wp_bind', W.mark, W.pushRef, State.topJava?_setTop' _ XF.here.top, Option.some.injEq, exists_eq_left', State.setTop_setTop, State.heap_setTop]
  intro acts
  simp [jvm, XF.here.top]
  exact a1
/-- array classes over the class's own; riders that are kinds of a rider -/
def ic_kn : List Nat := [7, 3, 2, 1, 0]
def ic_Ov (U : State) : Prop := va_AO "InnerCircle$Moment" U ∧ va_AO "InnerCircle$Rider" U ∧ (Cond.arrayOver (.array .int)).before #[] U = true ∧ ∀ c ∈ ic_kn, va_Nw (.castable (ic_R c) "InnerCircle$Rider") U
theorem ic_Ov.warm {s U : State} (hW : s.WarmedH U.vm) (h : ic_Ov s) : ic_Ov U := ⟨h.1.moved hW.alike, h.2.1.moved hW.alike, ic_aoMv hW.alike h.2.2.1, fun c hc => va_Nw.warmC hW (h.2.2.2 c hc)⟩
theorem ic_Ov.same {u U : State} (hv : U.vm = u.vm) (h : ic_Ov u) : ic_Ov U := by
  have A : u.vm.Alike U.vm := by rw [hv]; exact Vm.Alike.refl _
  exact ⟨h.1.moved A, h.2.1.moved A, ic_aoMv A h.2.2.1, fun c hc => va_Nw.same rfl hv.symm (h.2.2.2 c hc)⟩
def ic_PI (E : ic_E) (z : Prop) (As : List Value) (sh : List ic_S) (h : ic_H) : Array Value → State → Prop := va_Pc As fun U => (ic_M E z sh h U.heap ∧ ic_K E U U.heap) ∧ ic_Ov U
/-- the contract of a constructor -/
def ic_CI (l : Launch) (E : ic_E) (Y : ic_Y) (d mc ms : Nat) (z : Prop) (As : List Value) (sh : List ic_S) (h : ic_H) (sh' : List ic_S) (Q : Option Value → ic_H → Prop) : Prop :=
  Met l Y.1 (Cond.code Y.1 Y.2.1 Y.2.2.1 Y.2.2.2 :: ic_W) (ic_rm d mc ms) (ic_PI E z As sh h) (ic_Q E z sh' Q) mc ms (ic_A E)
def ic_fi (E : ic_E) (Y : ic_Y) (d mc ms : Nat) (z : Prop) (sh' : List ic_S) (Q : Option Value → ic_H → Prop) : ic_F :=
  (Y.1.cls, Y.1.name, Y.2.1, Y.2.2.1, Y.2.2.2, ic_rm d mc ms, z, fun below args s => MQ below (ic_Q E z sh' Q) args s mc ms (ic_A E), ic_Ov)
theorem ic_introI {l : Launch} {E : ic_E} {Y : ic_Y} {d mc ms : Nat} {z : Prop} {As : List Value} {sh : List ic_S} {h : ic_H} {sh' : List ic_S} {Q : Option Value → ic_H → Prop} (hy : plainName Y.1.cls = true) (hn : (lg_sl As).length ≤ Y.2.2.1)
    (body : xx l E (ic_fi E Y d mc ms z sh' Q) (0, 0) 0 (lv_args 0 As) [] sh h) : ic_CI l E Y d mc ms z As sh h sh' Q := by
  refine Met.ofW (cc := Y.2.1) (maxL := Y.2.2.1) (ret := Y.2.2.2) hy rfl ?_
  intro p e s m args below meth c s₁ B hml hP
  obtain ⟨rfl, ⟨hM, hK⟩, hO⟩ := hP
  have hts := atoms_spec (ws := Cond.code Y.1 Y.2.1 Y.2.2.1 Y.2.2.2 :: ic_W) B.pre
  have hown : s.vm.findClass Y.1.cls = some m.cls := findClass_of_methodNamed B.named
  have hl := lv_entry As (n := Y.2.2.1) hn
  rw [lg_entry_eq]
  exact body p e s m As.toArray below meth c s.heap [] _ ⟨B.exec, B.bytes, B.returns, B.notSynchronized, hml, hown, (name_of_methodNamed B.named B.method).1, fun w hw => hts w (List.mem_cons_of_mem _ hw), hK, hO⟩ hM va_S.rf hl
theorem xx_vretI {E : ic_E} {l : Launch} {Y : ic_Y} {d mc ms : Nat} {z : Prop} {sh' : List ic_S} {Q : Option Value → ic_H → Prop} {kc : Nat × Nat} {pc : Nat} {L : List (Nat × Value)} {h : ic_H} (hd : decode Y.2.1 pc = .ok (.return_, 1)) (hr : Y.2.2.2 = none) (h1 : kc.1 ≤ mc) (h2 : kc.2 ≤ ms) (hq : Q none h) : xx l E (ic_fi E Y d mc ms z sh' Q) kc pc L [] sh' h := by
  intro p e s m args below meth c H locs ls N M S hl
  refine W.widen (k := mc) (n := ms) h1 h2 ?_
  refine W.vret N.1 N.2.1 (N.2.2.1.trans hr) (fun t ht hW => ⟨⟨_, _, rfl, hq, by rw [ht]; exact M⟩, S.F ht⟩) (fun q hq => S.2.2 q hq) hd N.2.2.2.1
section RM
variable {l : Launch} {E : ic_E} {F : ic_F} {kc : Nat × Nat} {pc : Nat} {L : List (Nat × Value)} {st : List Value} {sh : List ic_S} {h : ic_H}
theorem ic_preI {p : Program} {s : State} {m : MethodId} {args : Array Value} {meth : Method} {c : Code} {H : Heap} {locs : List Loc} {As : List Value} (N : ic_Fx E F p s m args meth c) (hO : ic_Ov s) (M : ic_M E F.2.2.2.2.2.2.1 sh h H) (S : va_S (ic_A E) s.heap H locs) :
    PreS s H (ic_PI E F.2.2.2.2.2.2.1 As sh h) As :=
  ⟨fun a U g mk q => ⟨q.1, ⟨q.2.1.1, ic_K.same (u := U) rfl q.2.1.2⟩, ic_Ov.same (u := U) rfl q.2.2⟩, fun U hU hW => ⟨rfl, ⟨by rw [hU]; exact M, by rw [hU]; exact (ic_KH N.2.2.2.2.2.2.2.2.1 S).warm hW⟩, hO.warm hW⟩⟩
variable {Y : ic_Y} {n d' mc' ms' idx : Nat} {Q' : Option Value → ic_H → Prop} {st0 : List Value} {sh2 : List ic_S}
theorem xx_callII {o : Nat} {As : List Value} (hO : ∀ s, F.2.2.2.2.2.2.2.2 s → ic_Ov s) (hC : ic_CI l E Y d' mc' ms' F.2.2.2.2.2.2.1 (ic_pt E o :: As) sh h sh2 Q') (hY : ic_Yk Y n) (hret : Y.2.2.2 = none) (hc : ic_cI F.1 idx Y) (hd : decode F.2.2.1 pc = .ok (.invokespecial idx, 3)) (hn : As.length = n) (hst : st0 = As.reverse ++ (ic_pt E o :: st)) (hW : (st.map fun v => v.category).sum ≤ 8)
    (hR : d' + 1 ≤ F.2.2.2.2.2.1.frames ∧ 8 + (Y.2.2.1 + 11) + 48 * d' ≤ F.2.2.2.2.2.1.locals) (hf : kc.1 + mc' ≤ F.2.2.2.2.2.1.cells ∧ kc.2 + ms' ≤ F.2.2.2.2.2.1.slots) (kk : ∀ r h', Q' r h' → xx l E F (kc.1 + mc', kc.2 + ms') (pc + 3) L (r.toList ++ st) sh2 h') : xx l E F kc pc L st0 sh h := by
  intro p e s m args below meth c0 H locs ls N M S hl
  have hts := N.2.2.2.2.2.2.2.1
  have cb := ic_callB (mc' := mc') (ms' := ms') N hY hc.2.1 hR
  rw [hret] at cb
  unfold ic_CI at hC
  rw [hret] at hC
  refine ic_after N S hl (va_runI (nL := F.2.2.2.1) (n := n) (As := As) (rest := st) (b := ic_b E + o) ⟨N.1, N.2.1, N.2.2.2.2.1, N.2.2.2.2.2.1, hts⟩ hC ⟨cb, hc.1, hts _ hc.2.2⟩ (ic_preI (As := ic_pt E o :: As) N (hO s N.2.2.2.2.2.2.2.2.2) M S) rfl hn hl.1 hst (lv_room hW) hd hf) kk
theorem xx_callIJ {o : Nat} {As : List Value} {host : String} (hO : ∀ s, F.2.2.2.2.2.2.2.2 s → ic_Ov s) (hC : ic_CI l E Y d' mc' ms' F.2.2.2.2.2.2.1 (ic_pt E o :: As) sh h sh2 Q') (hY : ic_Yk Y n) (hret : Y.2.2.2 = none) (hc : ic_cN F.1 idx Y host) (hin : Y.1.name = "<init>" ∧ Cond.instanceMethod Y.1 ∈ ic_W) (hd : decode F.2.2.1 pc = .ok (.invokespecial idx, 3)) (hn : As.length = n) (hst : st0 = As.reverse ++ (ic_pt E o :: st)) (hW : (st.map fun v => v.category).sum ≤ 8)
    (hR : d' + 1 ≤ F.2.2.2.2.2.1.frames ∧ 8 + (Y.2.2.1 + 11) + 48 * d' ≤ F.2.2.2.2.2.1.locals) (hf : kc.1 + mc' ≤ F.2.2.2.2.2.1.cells ∧ kc.2 + ms' ≤ F.2.2.2.2.2.1.slots) (kk : ∀ r h', Q' r h' → xx l E F (kc.1 + mc', kc.2 + ms') (pc + 3) L (r.toList ++ st) sh2 h') : xx l E F kc pc L st0 sh h := by
  intro p e s m args below meth c0 H locs ls N M S hl
  have hts := N.2.2.2.2.2.2.2.1
  have hg := ic_goodY hY
  unfold ic_CI at hC
  rw [hret] at hC hg
  refine ic_after N S hl (va_runIN (nL := F.2.2.2.1) (n := n) (As := As) (rest := st) (b := ic_b E + o) (host := host) ⟨N.1, N.2.1, N.2.2.2.2.1, N.2.2.2.2.2.1, hts⟩ hC ⟨va_cnB n hts hg rfl rfl rfl (N.2.2.2.2.2.2.2.2.1.2.2.2.2 _ hc) (hts _ hY.2.1) ⟨hY.2.2.1.1, hY.2.2.1.2, hY.2.2.2⟩ hR, hin.1, hts _ hin.2⟩ (ic_preI (As := ic_pt E o :: As) N (hO s N.2.2.2.2.2.2.2.2.2) M S) rfl hn hl.1 hst (lv_room hW) hd hf) kk
theorem xx_objI {o : Nat} (hd : decode F.2.2.1 pc = .ok (.invokespecial idx, 3)) (hw : Cond.methodLink F.1 idx Lib.objectInit ∈ ic_W) (hi : Cond.instanceMethod Lib.objectInit ∈ ic_W ∧ Cond.code Lib.objectInit ⟨#[0xb1]⟩ 1 none ∈ ic_W) (hR : 1 ≤ F.2.2.2.2.2.1.frames ∧ 20 ≤ F.2.2.2.2.2.1.locals) (hW : (st.map fun v => v.category).sum ≤ 8) (kk : xx l E F kc (pc + 3) L st sh h) : xx l E F kc pc L (ic_pt E o :: st) sh h := by
  intro p e s m args below meth c H locs ls N M S hl
  have hts := N.2.2.2.2.2.2.2.1
  refine W.objInit N.1 N.2.1 N.2.2.2.2.2.1 (hts _ hw) (hts _ hi.1) (hts _ hi.2) rfl (by rw [N.2.2.2.2.1]; exact hl.1) rfl hd hR.1 (by show 2 * 0 + (st.map fun v => v.category).sum + 12 ≤ _; omega) ?_
  exact W.eq (g2 := F0 m (pc + 3) ls st) rfl (kk p e s m args below meth c H locs ls N M S hl)
theorem ic_ws_app (x : ic_S) : ic_ws E (sh ++ [x]) h = ic_ws E sh h ++ [(ic_b E + sh.length, ic_ob E x h sh.length)] := by
  unfold ic_ws
  rw [List.length_append, List.length_singleton, List.range_succ, List.map_append]
  congr 1
  · apply List.map_congr_left
    intro o ho
    have hlt := List.mem_range.mp ho
    rw [List.getD_eq_getElem?_getD, List.getD_eq_getElem?_getD, List.getElem?_append_left hlt]
  · simp [List.getD_eq_getElem?_getD]
theorem ic_M.app {z : Prop} {H H' : Heap} {x : ic_S} (hz : z) (M : ic_M E z sh h H) (hs : H'.size = H.size + 1) (ho : ∀ q : Nat, q < H.size → H'[q]? = H[q]?) (hx : va_at E.1 vwCl (ic_b E + sh.length, ic_ob E x h sh.length) H') : ic_M E z (sh ++ [x]) h H' := by
  refine ⟨fun _ => by rw [hs, M.1 hz, List.length_append, List.length_singleton]; omega, ?_⟩
  rw [ic_ws_app]
  refine (M.2.kept (fun k q hq => ho q.1 ((M.2 k q hq).lt))).app (fun k q hq => ?_)
  have h0 : k < 1 := (List.getElem?_eq_some_iff.mp hq).1
  rw [show k = 0 by omega] at hq
  cases hq
  exact hx
theorem ic_S.app {s : State} {H H' : Heap} {locs : List Loc} (S : va_S (ic_A E) s.heap H locs) (hs : H.size ≤ H'.size) (ho : ∀ q : Nat, q < H.size → H'[q]? = H[q]?) : va_S (ic_A E) s.heap H' locs :=
  ⟨Nat.le_trans S.1 hs, fun x h1 h2 => (ho x (Nat.lt_of_lt_of_le h1 S.1)).trans (S.2.1 x h1 h2), S.2.2⟩
end RM
def ic_okT (t : FieldType) : Bool := match t with | .object _ => true | .array _ => true | .int => true | .boolean => true | _ => false
theorem ic_okTs : ∀ c, c < 13 → ∀ k, k < ic_N c → ic_okT (ic_ty c k) = true := by decide +kernel
theorem ic_dflt {c k : Nat} (hc : c < 13) (hk : k < ic_N c) : defaultValue (ic_ty c k) = if ic_isR (ic_ty c k) = true then .null else .int 0 := by
  have h := ic_okTs c hc k hk
  generalize ic_ty c k = t at h ⊢
  cases t <;> first | rfl | (exact absurd h (by decide))
theorem ic_nRef {t : FieldType} (h : ic_isR t = true) (a : Nat) : narrow t (.ref a) = .ref a ∧ fits t (.ref a) = true := by
  cases t <;> first | exact ⟨rfl, rfl⟩ | (exact absurd h (by decide))
section RN
variable {l : Launch} {E : ic_E} {F : ic_F} {kc : Nat × Nat} {pc : Nat} {L : List (Nat × Value)} {st : List Value} {sh : List ic_S} {h : ic_H}
variable {idx c n N : Nat} {rs : List Nat} {sh2 : List ic_S}
theorem xx_new (hd : decode F.2.2.1 pc = .ok (.new idx, 3)) (hc : c < 13) (hw : Cond.classLink F.1 idx (ic_R c) ∈ ic_W ∧ Cond.instantiable (ic_R c) (ic_N c) ∈ ic_W ∧ Cond.initialized (ic_R c) ∈ ic_W) (hz : F.2.2.2.2.2.2.1) (hn : sh.length = n) (h2 : sh2 = sh ++ [(c, 0, rs)]) (hrs : ∀ k, k < ic_N c → rs.getD k 0 = 0 ∨ rs.getD k 0 = 1000000) (h0 : ∀ k, h n k = 0) (hr : kc.1 + 1 ≤ F.2.2.2.2.2.1.cells ∧ kc.2 + ic_N c ≤ F.2.2.2.2.2.1.slots) (kk : xx l E F (kc.1 + 1, kc.2 + ic_N c) (pc + 3) L (ic_pt E n :: st) sh2 h) : xx l E F kc pc L st sh h := by
  intro p e s m args below meth c0 H locs ls Nf M S hl
  have hts := Nf.2.2.2.2.2.2.2.1
  have hK := Nf.2.2.2.2.2.2.2.2.1.1
  have hKn := hK.1 c _ (ic_cl c hc)
  have hsz := M.1 hz
  rw [hn] at hsz
  refine W.newcK Nf.1 Nf.2.1 Nf.2.2.2.2.2.1 (hts _ hw.1) (hts _ hw.2.1) (hts _ hw.2.2) rfl hd hr.1 hr.2 hKn.2.1 hsz (fun H' kC hkC e1 z1 o1 => ?_)
  subst h2
  have o2 : ∀ q : Nat, q < H.size → H'[q]? = H[q]? := fun q hq => o1 q (by rw [← hsz]; exact hq)
  refine W.eq (g2 := F0 m (pc + 3) ls (.ref (ic_b E + n) :: st)) rfl (kk p e s m args below meth c0 H' locs ls Nf (M.app hz (by rw [z1, hsz]) o2 ?_) (ic_S.app S (by rw [z1, hsz]; omega) o2) hl)
  rw [hn, ic_ob_c hc]
  refine ⟨_, ic_cl c hc, (u_born (ic_ty c) hts (ic_lays c hc) hKn hkC e1 (ic_tyok c hc)).to (fun k hk => ?_)⟩
  show defaultValue (ic_ty c k) = vp_V ((List.range (ic_N c)).map (ic_fv (ic_b E) c rs h n)) k
  have er : vp_V ((List.range (ic_N c)).map (ic_fv (ic_b E) c rs h n)) k = ic_fv (ic_b E) c rs h n k := by
    unfold vp_V
    rw [List.getD_eq_getElem?_getD, ic_row hk]
    rfl
  rw [er, ic_dflt hc hk]
  unfold ic_fv
  rw [h0 k]
  split
  · rcases hrs k hk with q | q
    · rw [if_neg (by rw [q]; decide), q]
      rfl
    · rw [if_pos q]
      rfl
  · rfl
theorem xx_newaI (hd : decode F.2.2.1 pc = .ok (.newarray .int, 2)) (hw : Cond.arrayClass .int ∈ ic_W) (hz : F.2.2.2.2.2.2.1) (hn : sh.length = n) (h2 : sh2 = sh ++ [(100, N, [])]) (hN : N < 1000000) (h0 : h n = fun _ => 0) (hr : kc.1 + 1 ≤ F.2.2.2.2.2.1.cells ∧ kc.2 + N ≤ F.2.2.2.2.2.1.slots) (kk : xx l E F (kc.1 + 1, kc.2 + N) (pc + 2) L (ic_pt E n :: st) sh2 h) : xx l E F kc pc L (.int (nI N) :: st) sh h := by
  intro p e s m args below meth c0 H locs ls Nf M S hl
  have hts := Nf.2.2.2.2.2.2.2.1
  have hK := Nf.2.2.2.2.2.2.2.2.1.1
  have hsz := M.1 hz
  rw [hn] at hsz
  refine va_newaK (atype := .int) Nf.1 Nf.2.1 (hts _ hw) rfl hd rfl (nI_pos (by omega)) (nI_clamp (by omega)) (by show N * 4 ≤ 536870912; omega) hr.1 hr.2 hsz (fun H' cA e1 z1 o1 hAr hNm => ?_)
  have hcA : cA = E.2.1 100 := Option.some.inj (hNm.symm.trans (hK.2 0 (E.2.1 100, .int) rfl).2)
  subst h2
  have o2 : ∀ q : Nat, q < H.size → H'[q]? = H[q]? := fun q hq => o1 q (by rw [← hsz]; exact hq)
  refine W.eq (g2 := F0 m (pc + 2) ls (.ref (ic_b E + n) :: st)) rfl (kk p e s m args below meth c0 H' locs ls Nf (M.app hz (by rw [z1, hsz]) o2 ?_) (ic_S.app S (by rw [z1, hsz]; omega) o2) hl)
  rw [hn, ic_ob_i (by omega) (by omega), h0, ← hcA]
  exact e1
theorem xx_newaB (hd : decode F.2.2.1 pc = .ok (.newarray .byte, 2)) (hw : Cond.arrayClass .byte ∈ ic_W) (hz : F.2.2.2.2.2.2.1) (hn : sh.length = n) (h2 : sh2 = sh ++ [(101, N, [])]) (hN : N < 1000000) (h0 : h n = fun _ => 0) (hr : kc.1 + 1 ≤ F.2.2.2.2.2.1.cells ∧ kc.2 + N ≤ F.2.2.2.2.2.1.slots) (kk : xx l E F (kc.1 + 1, kc.2 + N) (pc + 2) L (ic_pt E n :: st) sh2 h) : xx l E F kc pc L (.int (nI N) :: st) sh h := by
  intro p e s m args below meth c0 H locs ls Nf M S hl
  have hts := Nf.2.2.2.2.2.2.2.1
  have hK := Nf.2.2.2.2.2.2.2.2.1.1
  have hsz := M.1 hz
  rw [hn] at hsz
  refine va_newaK (atype := .byte) Nf.1 Nf.2.1 (hts _ hw) rfl hd rfl (nI_pos (by omega)) (nI_clamp (by omega)) (by show N * 1 ≤ 536870912; omega) hr.1 hr.2 hsz (fun H' cA e1 z1 o1 hAr hNm => ?_)
  have hcA : cA = E.2.1 101 := Option.some.inj (hNm.symm.trans (hK.2 1 (E.2.1 101, .byte) rfl).2)
  subst h2
  have o2 : ∀ q : Nat, q < H.size → H'[q]? = H[q]? := fun q hq => o1 q (by rw [← hsz]; exact hq)
  refine W.eq (g2 := F0 m (pc + 2) ls (.ref (ic_b E + n) :: st)) rfl (kk p e s m args below meth c0 H' locs ls Nf (M.app hz (by rw [z1, hsz]) o2 ?_) (ic_S.app S (by rw [z1, hsz]; omega) o2) hl)
  rw [hn, ic_ob_i (by omega) (by omega), h0, ← hcA]
  exact e1
theorem xx_newqM (hO : ∀ s, F.2.2.2.2.2.2.2.2 s → ic_Ov s) (hd : decode F.2.2.1 pc = .ok (.anewarray idx, 3)) (hw : Cond.classLink F.1 idx "InnerCircle$Moment" ∈ ic_W) (hz : F.2.2.2.2.2.2.1) (hn : sh.length = n) (h2 : sh2 = sh ++ [(102, N, rs)]) (hN : N < 1000000) (hrs : ∀ k, rs.getD k 0 = 0) (hr : kc.1 + 1 ≤ F.2.2.2.2.2.1.cells ∧ kc.2 + N ≤ F.2.2.2.2.2.1.slots) (kk : xx l E F (kc.1 + 1, kc.2 + N) (pc + 3) L (ic_pt E n :: st) sh2 h) : xx l E F kc pc L (.int (nI N) :: st) sh h := by
  intro p e s m args below meth c0 H locs ls Nf M S hl
  have hts := Nf.2.2.2.2.2.2.2.1
  have hK := Nf.2.2.2.2.2.2.2.2.1.1
  have hsz := M.1 hz
  rw [hn] at hsz
  have hcl : (nI N).toNatClampNeg = N := nI_clamp (by omega)
  refine W.anew (C := "InnerCircle$Moment") Nf.1 Nf.2.1 Nf.2.2.2.2.2.1 (hts _ hw) (va_AO.use (hO s Nf.2.2.2.2.2.2.2.2.2).1) rfl hd rfl (nI_pos (by omega)) (by rw [hcl]; omega) hr.1 (by rw [hcl]; exact hr.2) (fun cA kA comp f1 f2 f3 f4 => ?_)
  rw [hcl]
  obtain ⟨_, _, _, _, _, hnm⟩ := (hK.2 2 (E.2.1 102, .object "InnerCircle$Moment") rfl).2
  have hcA : cA = E.2.1 102 := Option.some.inj (f1.symm.trans hnm)
  subst h2
  generalize hH : H.push ({ cls := cA, slots := Array.replicate N .null, vm := .none } : Cell) = H'
  have z1 : H'.size = H.size + 1 := by rw [← hH, Array.size_push]
  have e1 : H'[H.size]? = some (arrV cA N (fun _ => .null)) := by rw [← hH, Array.getElem?_push_size, ← arrV_new]
  have o2 : ∀ q : Nat, q < H.size → H'[q]? = H[q]? := fun q hq => by rw [← hH, Array.getElem?_push, if_neg (Nat.ne_of_lt hq)]
  refine W.eq (g2 := F0 m (pc + 3) ls (.ref (ic_b E + n) :: st)) (by show F0 m (pc + 3) ls (.ref H.size :: st) = _; rw [hsz]) (kk p e s m args below meth c0 H' locs ls Nf (M.app hz z1 o2 ?_) (ic_S.app S (by rw [z1]; omega) o2) hl)
  rw [hn]
  show H'[ic_b E + n]? = some (vp_cell (E.2.1 102) (N, .inr (.inr (.inr (.inr (fun i => ic_ro (ic_b E) (rs.getD i 0)))))))
  rw [vp_cell_q, ← hcA, ← hsz, e1]
  simp only [hrs]
  rfl
theorem xx_newqR (hO : ∀ s, F.2.2.2.2.2.2.2.2 s → ic_Ov s) (hd : decode F.2.2.1 pc = .ok (.anewarray idx, 3)) (hw : Cond.classLink F.1 idx "InnerCircle$Rider" ∈ ic_W) (hz : F.2.2.2.2.2.2.1) (hn : sh.length = n) (h2 : sh2 = sh ++ [(103, N, rs)]) (hN : N < 1000000) (hrs : ∀ k, rs.getD k 0 = 0) (hr : kc.1 + 1 ≤ F.2.2.2.2.2.1.cells ∧ kc.2 + N ≤ F.2.2.2.2.2.1.slots) (kk : xx l E F (kc.1 + 1, kc.2 + N) (pc + 3) L (ic_pt E n :: st) sh2 h) : xx l E F kc pc L (.int (nI N) :: st) sh h := by
  intro p e s m args below meth c0 H locs ls Nf M S hl
  have hts := Nf.2.2.2.2.2.2.2.1
  have hK := Nf.2.2.2.2.2.2.2.2.1.1
  have hsz := M.1 hz
  rw [hn] at hsz
  have hcl : (nI N).toNatClampNeg = N := nI_clamp (by omega)
  refine W.anew (C := "InnerCircle$Rider") Nf.1 Nf.2.1 Nf.2.2.2.2.2.1 (hts _ hw) (va_AO.use (hO s Nf.2.2.2.2.2.2.2.2.2).2.1) rfl hd rfl (nI_pos (by omega)) (by rw [hcl]; omega) hr.1 (by rw [hcl]; exact hr.2) (fun cA kA comp f1 f2 f3 f4 => ?_)
  rw [hcl]
  obtain ⟨_, _, _, _, _, hnm⟩ := (hK.2 3 (E.2.1 103, .object "InnerCircle$Rider") rfl).2
  have hcA : cA = E.2.1 103 := Option.some.inj (f1.symm.trans hnm)
  subst h2
  generalize hH : H.push ({ cls := cA, slots := Array.replicate N .null, vm := .none } : Cell) = H'
  have z1 : H'.size = H.size + 1 := by rw [← hH, Array.size_push]
  have e1 : H'[H.size]? = some (arrV cA N (fun _ => .null)) := by rw [← hH, Array.getElem?_push_size, ← arrV_new]
  have o2 : ∀ q : Nat, q < H.size → H'[q]? = H[q]? := fun q hq => by rw [← hH, Array.getElem?_push, if_neg (Nat.ne_of_lt hq)]
  refine W.eq (g2 := F0 m (pc + 3) ls (.ref (ic_b E + n) :: st)) (by show F0 m (pc + 3) ls (.ref H.size :: st) = _; rw [hsz]) (kk p e s m args below meth c0 H' locs ls Nf (M.app hz z1 o2 ?_) (ic_S.app S (by rw [z1]; omega) o2) hl)
  rw [hn]
  show H'[ic_b E + n]? = some (vp_cell (E.2.1 103) (N, .inr (.inr (.inr (.inr (fun i => ic_ro (ic_b E) (rs.getD i 0)))))))
  rw [vp_cell_q, ← hcA, ← hsz, e1]
  simp only [hrs]
  rfl
theorem xx_mna {K : Nat} (hO : ∀ s, F.2.2.2.2.2.2.2.2 s → ic_Ov s) (hd : decode F.2.2.1 pc = .ok (.multianewarray idx 2, 4)) (hw : Cond.classLink F.1 idx "[[I" ∈ ic_W ∧ Cond.arrayClass .int ∈ ic_W) (hz : F.2.2.2.2.2.2.1) (hn : sh.length = n) (h2 : sh2 = (sh ++ [(104, N, rs)]) ++ List.replicate N (100, K, [])) (hN : N < 1000) (hK9 : K < 1000) (hrs : ∀ k, rs.getD k 0 = if k < N then n + 1 + k + 1 else 0) (h0 : ∀ a, n ≤ a → h a = fun _ => 0) (hr : kc.1 + (1 + N) ≤ F.2.2.2.2.2.1.cells ∧ kc.2 + (N + N * K) ≤ F.2.2.2.2.2.1.slots) (kk : xx l E F (kc.1 + 1 + N, kc.2 + N + N * K) (pc + 4) L (ic_pt E n :: st) sh2 h) : xx l E F kc pc L (.int (nI K) :: .int (nI N) :: st) sh h := by
  intro p e s m args below meth c0 H locs ls Nf M S hl
  have hts := Nf.2.2.2.2.2.2.2.1
  have hK := Nf.2.2.2.2.2.2.2.2.1.1
  have hsz := M.1 hz
  rw [hn] at hsz
  refine mn_W Nf.1 Nf.2.1 Nf.2.2.2.2.2.1 (hts _ hw.1) (hO s Nf.2.2.2.2.2.2.2.2.2).2.2.1 (hts _ hw.2) rfl hd rfl (nI_pos (by omega)) (nI_pos (by omega)) (nI_clamp (by omega)) (nI_clamp (by omega)) (by omega) (by omega) hr.1 hr.2 hsz (fun H' cA comp f1 f2 z1 e1 o1 i1 _ => ?_)
  have hcA : cA = E.2.1 104 := Option.some.inj (f1.symm.trans (hK.2 4 (E.2.1 104, .array .int) rfl).2)
  have hcI : comp = E.2.1 100 := Option.some.inj (f2.symm.trans (hK.2 0 (E.2.1 100, .int) rfl).2)
  have o2 : ∀ q : Nat, q < H.size → H'[q]? = H[q]? := fun q hq => o1 q (by rw [← hsz]; exact hq)
  have hM : ∀ i, i ≤ N → va_P E.1 vwCl (ic_ws E ((sh ++ [(104, N, rs)]) ++ List.replicate i (100, K, [])) h) H' := by
    intro i
    induction i with
    | zero =>
      intro _
      rw [List.replicate_zero, List.append_nil, ic_ws_app]
      refine (M.2.kept (fun k q hq => o2 q.1 ((M.2 k q hq).lt))).app (fun k q hq => ?_)
      have h00 : k < 1 := (List.getElem?_eq_some_iff.mp hq).1
      rw [show k = 0 by omega] at hq
      cases hq
      rw [hn]
      show H'[ic_b E + n]? = some (vp_cell (E.2.1 104) (N, .inr (.inr (.inr (.inr (fun i => ic_ro (ic_b E) (rs.getD i 0)))))))
      rw [vp_cell_q, ← hcA, e1]
      unfold mn_out
      refine congrArg (fun f => some (arrV cA N f)) (funext fun j => ?_)
      rw [hrs]
      split
      · show Value.ref (ic_b E + n + 1 + j) = va_rf (ic_ro (ic_b E) (n + 1 + j + 1))
        unfold ic_ro
        rw [if_neg (by omega)]
        show Value.ref (ic_b E + n + 1 + j) = Value.ref (ic_b E + (n + 1 + j))
        rw [show ic_b E + n + 1 + j = ic_b E + (n + 1 + j) by omega]
      · rfl
    | succ i ih =>
      intro hi
      rw [List.replicate_succ', ← List.append_assoc, ic_ws_app]
      refine (ih (by omega)).app (fun k q hq => ?_)
      have h00 : k < 1 := (List.getElem?_eq_some_iff.mp hq).1
      rw [show k = 0 by omega] at hq
      cases hq
      have hlen : ((sh ++ [((104 : Nat), N, rs)]) ++ List.replicate i ((100 : Nat), K, ([] : List Nat))).length = n + 1 + i := by simp [hn]; omega
      rw [hlen, ic_ob_i (by omega) (by omega), h0 _ (by omega), ← hcI]
      have := i1 i (by omega)
      rw [show ic_b E + n + 1 + i = ic_b E + (n + 1 + i) by omega] at this
      exact this
  subst h2
  refine W.eq (g2 := F0 m (pc + 4) ls (.ref (ic_b E + n) :: st)) rfl (kk p e s m args below meth c0 H' locs ls Nf ⟨fun _ => by rw [z1]; simp [hn]; omega, hM N (Nat.le_refl _)⟩ (ic_S.app S (by rw [z1, hsz]; omega) o2) hl)
end RN
section RP
variable {l : Launch} {E : ic_E} {F : ic_F} {kc : Nat × Nat} {pc : Nat} {L : List (Nat × Value)} {st : List Value} {sh : List ic_S} {h : ic_H}
variable {idx c n o k t : Nat} {rs : List Nat} {sh2 : List ic_S}
theorem ic_ws_put {sp : ic_S} (ho : o < sh.length) : (ic_ws E sh h).set o (ic_b E + o, ic_ob E sp h o) = ic_ws E (sh.set o sp) h := by
  apply List.ext_getElem?
  intro q
  by_cases e : q = o
  · subst e
    rw [List.getElem?_set_self (by rw [ic_ws_len]; exact ho), ic_ws_at (sp := sp) (List.getElem?_set_self ho)]
  · rw [List.getElem?_set_ne (fun z => e z.symm)]
    cases hq : sh[q]? with
    | none =>
      have hl : sh.length ≤ q := List.getElem?_eq_none_iff.mp hq
      rw [List.getElem?_eq_none_iff.mpr (by rw [ic_ws_len]; exact hl), List.getElem?_eq_none_iff.mpr (by rw [ic_ws_len, List.length_set]; exact hl)]
    | some sq => rw [ic_ws_at hq, ic_ws_at (sp := sq) (by rw [List.getElem?_set_ne (fun z => e z.symm)]; exact hq)]
theorem ic_row_put {b : Nat} (hr : ic_isR (ic_ty c k) = true) (hk : k < rs.length) (ht : ¬ t + 1 = 1000000) : ((List.range (ic_N c)).map (ic_fv b c rs h o)).set k (.ref (b + t)) = (List.range (ic_N c)).map (ic_fv b c (rs.set k (t + 1)) h o) := by
  apply List.ext_getElem?
  intro j
  by_cases hj : j < ic_N c
  · rw [ic_row hj]
    by_cases e : j = k
    · subst e
      rw [List.getElem?_set_self (by simp [hj])]
      unfold ic_fv
      rw [if_pos hr, List.getD_eq_getElem?_getD, List.getElem?_set_self hk]
      show some (Value.ref (b + t)) = some (if t + 1 = 1000000 then _ else ic_rv b (t + 1))
      rw [if_neg ht]
      rfl
    · rw [List.getElem?_set_ne (fun q => e q.symm), ic_row hj]
      unfold ic_fv
      rw [List.getD_eq_getElem?_getD, List.getD_eq_getElem?_getD, List.getElem?_set_ne (fun q => e q.symm)]
  · rw [List.getElem?_eq_none_iff.mpr (by simp; omega), List.getElem?_eq_none_iff.mpr (by simp; omega)]
theorem xx_putF (hd : decode F.2.2.1 pc = .ok (.putfield idx, 3)) (hs : sh[o]? = some (c, n, rs)) (hf : ic_FX F.1 idx c k) (hr : ic_isR (ic_ty c k) = true) (hfin : (ic_T c k).2.2.2 = true) (hin : F.2.1 = "<init>") (hdecl : (ic_T c k).1 = F.1) (hk9 : k < rs.length) (ht : ¬ t + 1 = 1000000) (h2 : sh2 = sh.set o (c, n, rs.set k (t + 1))) (kk : xx l E F kc (pc + 3) L st sh2 h) : xx l E F kc pc L (ic_pt E t :: ic_pt E o :: st) sh h := by
  intro p e s m args below meth c0 H locs ls N M S hl
  obtain ⟨hx, hb, -, -, -, hown, hname, hts, hKK, -⟩ := id N
  have hK := hKK.1
  obtain ⟨hc, hk, ref, hlk, hsm⟩ := hf
  have ho : o < sh.length := (List.getElem?_eq_some_iff.mp hs).1
  have he : (ic_ws E sh h)[o]? = some (ic_b E + o, .inr (c, (List.range (ic_N c)).map (ic_fv (ic_b E) c rs h o))) := by rw [ic_ws_at hs, ic_ob_c hc]
  have hap := va_apart (own := F.1) hts (ic_lays c hc) (ic_ty c) (ic_tyok c hc) (ic_nm c hc) hK (ic_cl c hc)
  obtain ⟨r, h1, cell, q1, q2, q3, q4⟩ := M.2 o _ he
  have hrr : r = (ic_R c, ic_T c, ic_N c) := Option.some.inj (h1.symm.trans (ic_cl c hc))
  subst hrr
  obtain ⟨hS, hfc, kC, hkC, hkind⟩ := hK.1 c _ (ic_cl c hc)
  obtain ⟨cf, kf, fi, f, hi, hsl⟩ := hS k hk
  have hlay := hts _ (ic_lays c hc _ (u_in_lay hk))
  unfold u_lay at hlay
  rw [if_pos hfin] at hlay
  have hst := (u_facts hfc hkC (u_lays hts (ic_lays c hc) hk) hi).1
  have hcf : m.cls = cf := by
    obtain ⟨_, _, c', _, _, _, -, -, hf', -, -, -, hown2, -⟩ := Cond.laysFinal_spec hlay
    have e1 : c' = cf := by have := hi.symm.trans hf'; simp at this; exact this.1.symm
    rw [hdecl] at hown2
    rw [← e1]
    exact Option.some.inj (hown.symm.trans hown2)
  have hnf := ic_nRef hr (ic_b E + t)
  have h6 := u_fits hfc hkC hkind (Or.inr hlay) hi (ic_tyok c hc k hk) hnf.1 hnf.2
  refine W.putFinK hx hb hown (hts _ hlk) (ic_same (own := F.1) (idx := idx) hts hsm _ hi) hst hcf (hname.trans hin) (by rw [q2]; exact h6) q1 q3 (by rw [hsl]; exact k2_hasslot (q4 k hk)) rfl rfl hd fun H' e1 e2 e3 => ?_
  rw [hsl] at e1 ⊢
  have hP := M.2.set (ic_D E sh h) he (e := .inr (c, ((List.range (ic_N c)).map (ic_fv (ic_b E) c rs h o)).set k (.ref (ic_b E + t)))) ⟨_, ic_cl c hc, t_OB.to (V := updV (vp_V ((List.range (ic_N c)).map (ic_fv (ic_b E) c rs h o))) k (.ref (ic_b E + t))) ⟨_, e1, q2, q3, t_set q4 hap hk _⟩ (fun j _ => vp_updV_set (by simp [hk]) _ j)⟩ e3
  rw [ic_row_put hr hk9 ht, ← ic_ob_c (n := n) hc, ic_ws_put ho, ← h2] at hP
  exact W.eq (g2 := F0 m (pc + 3) ls st) rfl (kk p e s m args below meth c0 H' _ ls N ⟨fun z => by rw [e2, M.1 z, h2, List.length_set], hP⟩ (S.put e2 e3 ((ic_D E sh h).2 o _ he)) hl)
theorem ic_aast {j v cv nv : Nat} {rv : List Nat} {C : String} (t0 : Nat) (ht : t = 102 ∨ t = 103) (htt : (ic_tys E)[t0]? = some (E.2.1 t, .object C)) (hd : decode F.2.2.1 pc = .ok (.aastore, 1)) (hs : sh[o]? = some (t, n, rs)) (hv : sh[v]? = some (cv, nv, rv)) (hcv : cv < 13) (hasg : ∀ (s : State) (comp cV : ClassId), F.2.2.2.2.2.2.2.2 s → s.vm.findClass C = some comp → ClassAt s (ic_R cv) cV → s.vm.assignable cV comp = true) (hj : j < n) (hn9 : n < 1000000) (hk9 : j < rs.length) (h2 : sh2 = sh.set o (t, n, rs.set j (v + 1))) (kk : xx l E F kc (pc + 1) L st sh2 h) : xx l E F kc pc L (ic_pt E v :: .int (nI j) :: ic_pt E o :: st) sh h := by
  intro p e s m args below meth c0 H locs ls N M S hl
  have hK := N.2.2.2.2.2.2.2.2.1.1
  have ho : o < sh.length := (List.getElem?_eq_some_iff.mp hs).1
  have hcl : (nI j).toNatClampNeg = j := nI_clamp (by omega)
  have hob : ∀ r2 : List Nat, ic_ob E (t, n, r2) h o = .inl (E.2.1 t, n, .inr (.inr (.inr (.inr (fun i => ic_ro (ic_b E) (r2.getD i 0)))))) := fun r2 => by
    unfold ic_ob
    rw [if_neg (show ¬ t < 100 by omega), if_neg (show ¬ t < 102 by omega)]
  have he : (ic_ws E sh h)[o]? = some (ic_b E + o, .inl (E.2.1 t, n, .inr (.inr (.inr (.inr (fun i => ic_ro (ic_b E) (rs.getD i 0))))))) := by rw [ic_ws_at hs, hob]
  have hve : (ic_ws E sh h)[v]? = some (ic_b E + v, .inr (cv, (List.range (ic_N cv)).map (ic_fv (ic_b E) cv rv h v))) := by rw [ic_ws_at hv, ic_ob_c hcv]
  obtain ⟨r, h1, cellV, g1, g2, g3, -⟩ := M.2 v _ hve
  have hrr : r = (ic_R cv, ic_T cv, ic_N cv) := Option.some.inj (h1.symm.trans (ic_cl cv hcv))
  subst hrr
  have hcls := (hK.1 cv _ (ic_cl cv hcv)).2
  obtain ⟨kA, comp, k1, k2, k3, -⟩ := (hK.2 t0 _ htt).2
  obtain ⟨kE, hkE, -⟩ := Vm.findClass_spec k3
  obtain ⟨kV, hkV, -⟩ := hcls.2
  refine W.aast N.1 N.2.1 (M.2 o _ he) (fun q z => by cases z) (fun z => by cases z) k1 k2 rfl hkE ⟨nI_pos (by omega), by show _ < (arrV _ _ _).slots.size; rw [arrV_size, hcl]; exact hj⟩ g1 (fun q z => by rw [g3] at z; cases z) (by rw [g2]; exact hkV) (by rw [g2]; exact hasg s comp _ N.2.2.2.2.2.2.2.2.2 k3 hcls) rfl rfl hd fun H' e1 e2 e3 => ?_
  have hP := M.2.set (ic_D E sh h) he (e := ic_ob E (t, n, rs.set j (v + 1)) h o) (by
    rw [hob]
    show H'[ic_b E + o]? = some (vp_cell _ _)
    rw [e1, hcl]
    show some ((arrV (E.2.1 t) n (fun i => va_rf (ic_ro (ic_b E) (rs.getD i 0)))).setSlot j (.ref (ic_b E + v))) = some (arrV (E.2.1 t) n (fun i => va_rf (ic_ro (ic_b E) ((rs.set j (v + 1)).getD i 0))))
    rw [arrV_store]
    refine congrArg (fun f => some (arrV (E.2.1 t) n f)) (funext fun q => ?_)
    unfold updV
    by_cases eq : q = j
    · rw [if_pos eq, eq, List.getD_eq_getElem?_getD, List.getElem?_set_self hk9]
      rfl
    · rw [if_neg eq]
      show va_rf (ic_ro (ic_b E) (rs.getD q 0)) = va_rf (ic_ro (ic_b E) ((rs.set j (v + 1)).getD q 0))
      rw [List.getD_eq_getElem?_getD, List.getD_eq_getElem?_getD, List.getElem?_set_ne (fun z => eq z.symm)]) e3
  rw [ic_ws_put ho, ← h2] at hP
  exact W.eq (g2 := F0 m (pc + 1) ls st) rfl (kk p e s m args below meth c0 H' _ ls N ⟨fun z => by rw [e2, M.1 z, h2, List.length_set], hP⟩ (S.put e2 e3 ((ic_D E sh h).2 o _ he)) hl)
theorem xx_aastM {j v nv : Nat} {rv : List Nat} (hd : decode F.2.2.1 pc = .ok (.aastore, 1)) (hs : sh[o]? = some (102, n, rs)) (hv : sh[v]? = some (4, nv, rv)) (hj : j < n) (hn9 : n < 1000000) (hk9 : j < rs.length) (h2 : sh2 = sh.set o (102, n, rs.set j (v + 1))) (kk : xx l E F kc (pc + 1) L st sh2 h) : xx l E F kc pc L (ic_pt E v :: .int (nI j) :: ic_pt E o :: st) sh h :=
  ic_aast (C := "InnerCircle$Moment") 2 (Or.inl rfl) rfl hd hs hv (by decide) (fun s comp cV _ h1 h2 => by
    have e : cV = comp := Option.some.inj (h2.1.symm.trans h1)
    rw [← e]
    exact va_assign h2) hj hn9 hk9 h2 kk
theorem xx_aastR {j v cv nv : Nat} {rv : List Nat} (hO : ∀ s, F.2.2.2.2.2.2.2.2 s → ic_Ov s) (hcv : cv = 9 ∨ cv ∈ ic_kn) (hcv2 : cv < 13) (hd : decode F.2.2.1 pc = .ok (.aastore, 1)) (hs : sh[o]? = some (103, n, rs)) (hv : sh[v]? = some (cv, nv, rv)) (hj : j < n) (hn9 : n < 1000000) (hk9 : j < rs.length) (h2 : sh2 = sh.set o (103, n, rs.set j (v + 1))) (kk : xx l E F kc (pc + 1) L st sh2 h) : xx l E F kc pc L (ic_pt E v :: .int (nI j) :: ic_pt E o :: st) sh h :=
  ic_aast (C := "InnerCircle$Rider") 3 (Or.inr rfl) rfl hd hs hv hcv2 (fun s comp cV hs h1 h2 => by
    rcases hcv with e | e
    · subst e
      have e : cV = comp := Option.some.inj (h2.1.symm.trans h1)
      rw [← e]
      exact va_assign h2
    · obtain ⟨c1, t1, f1, f2, f3⟩ := Cond.castable_spec (va_Nw.use (A := #[]) rfl ((hO s hs).2.2.2 cv e))
      cases h2.1.symm.trans f1
      cases h1.symm.trans f2
      exact f3) hj hn9 hk9 h2 kk
end RP
/-- the frame that knows the heap's size may forget it -/
theorem xx_z {l : Launch} {E : ic_E} {a b : String} {c : ByteArray} {d : Nat} {r : Option FieldType} {R : Room} {z : Prop} {Z : List Frame → Array Value → State → State → Prop} {X : State → Prop} {kc : Nat × Nat} {pc : Nat} {L : List (Nat × Value)} {st : List Value} {sh : List ic_S} {h : ic_H} (kk : xx l E (a, b, c, d, r, R, False, Z, X) kc pc L st sh h) : xx l E (a, b, c, d, r, R, z, Z, X) kc pc L st sh h :=
  fun p e s m args below meth c0 H locs ls N M S hl => kk p e s m args below meth c0 H locs ls N ⟨fun q => q.elim, M.2⟩ S hl
