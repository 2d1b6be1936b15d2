/-! contracts, returns, calls -/
/-- a method: name, bytes, locals, what it returns -/
abbrev ic_Y : Type := MethodName × ByteArray × Nat × Option FieldType
def ic_rm (d mc ms : Nat) : Room := { frames := d, cells := mc, slots := ms, locals := 48 * d }
def ic_Q (E : ic_E) (z : Prop) (sh' : List ic_S) (Q : Option Value → ic_H → Prop) : Array Value → State → Outcome → State → Prop := fun _ st oc t => (∃ (r : Option Value) (h' : ic_H), oc = .returned r ∧ Q r h' ∧ ic_M E z sh' h' t.heap) ∧ va_F (ic_A E) st t
def ic_P (E : ic_E) (z : Prop) (As : List Value) (sh : List ic_S) (h : ic_H) : Array Value → State → Prop := va_Pc As fun U => ic_M E z sh h U.heap ∧ ic_K E U U.heap
/-- THE CONTRACT of a method: with d frames of room, mc cells and ms slots to make, from the heap h of shapes sh it comes to the shapes sh' and an answer and a heap of which Q holds -/
def ic_C (l : Launch) (E : ic_E) (Y : ic_Y) (d mc ms : Nat) (z : Prop) (As : List Value) (sh : List ic_S) (h : ic_H) (sh' : List ic_S) (Q : Option Value → ic_H → Prop) : Prop :=
  Met l Y.1 (Cond.code Y.1 Y.2.1 Y.2.2.1 Y.2.2.2 :: ic_W) (ic_rm d mc ms) (ic_P E z As sh h) (ic_Q E z sh' Q) mc ms (ic_A E)
def ic_fr (E : ic_E) (Y : ic_Y) (d mc ms : Nat) (z : Prop) (sh' : List ic_S) (Q : Option Value → ic_H → Prop) : ic_F :=
  (Y.1.cls, Y.1.name, Y.2.1, Y.2.2.1, Y.2.2.2, ic_rm d mc ms, z, fun below args s => MQ below (ic_Q E z sh' Q) args s mc ms (ic_A E), fun _ => True)
theorem ic_intro {l : Launch} {E : ic_E} {Y : ic_Y} {d mc ms : Nat} {z : Prop} {As : List Value} {sh : List ic_S} {h : ic_H} {sh' : List ic_S} {Q : Option Value → ic_H → Prop} (hy : plainName Y.1.cls = true) (hn : (lg_sl As).length ≤ Y.2.2.1)
    (body : xx l E (ic_fr E Y d mc ms z sh' Q) (0, 0) 0 (lv_args 0 As) [] sh h) : ic_C l E Y d mc ms z As sh h sh' Q := by
  refine Met.ofW (cc := Y.2.1) (maxL := Y.2.2.1) (ret := Y.2.2.2) hy rfl ?_
  intro p e s m args below meth c s₁ B hml hP
  obtain ⟨rfl, hM, hK⟩ := hP
  have hts := atoms_spec (ws := Cond.code Y.1 Y.2.1 Y.2.2.1 Y.2.2.2 :: ic_W) B.pre
  have hown : s.vm.findClass Y.1.cls = some m.cls := findClass_of_methodNamed B.named
  have hl := lv_entry As (n := Y.2.2.1) hn
  rw [lg_entry_eq]
  exact body p e s m As.toArray below meth c s.heap [] _ ⟨B.exec, B.bytes, B.returns, B.notSynchronized, hml, hown, (name_of_methodNamed B.named B.method).1, fun w hw => hts w (List.mem_cons_of_mem _ hw), hK, trivial⟩ hM va_S.rf hl
section RT
variable {l : Launch} {E : ic_E} {Y : ic_Y} {d mc ms : Nat} {z : Prop} {sh' : List ic_S} {Q : Option Value → ic_H → Prop} {kc : Nat × Nat} {pc : Nat} {L : List (Nat × Value)} {h : ic_H}
theorem xx_iret {v : Int32} {ty : FieldType} (hd : decode Y.2.1 pc = .ok (.ireturn, 1)) (hr : Y.2.2.2 = some ty) (hn : narrow ty (.int v) = .int v) (h1 : kc.1 ≤ mc) (h2 : kc.2 ≤ ms) (hq : Q (some (.int v)) h) : xx l E (ic_fr E Y d mc ms z sh' Q) kc pc L [.int v] sh' h := by
  intro p e s m args below meth c H locs ls N M S hl
  refine W.widen (k := mc) (n := ms) h1 h2 ?_
  refine W.zret (ty := ty) N.1 N.2.1 (N.2.2.1.trans hr) hn (fun t ht hW => ⟨⟨_, _, rfl, hq, by rw [ht]; exact M⟩, S.F ht⟩) (fun q hq => S.2.2 q hq) hd N.2.2.2.1
theorem xx_vret (hd : decode Y.2.1 pc = .ok (.return_, 1)) (hr : Y.2.2.2 = none) (h1 : kc.1 ≤ mc) (h2 : kc.2 ≤ ms) (hq : Q none h) : xx l E (ic_fr E Y d mc ms z sh' Q) kc pc L [] sh' h := by
  intro p e s m args below meth c H locs ls N M S hl
  refine W.widen (k := mc) (n := ms) h1 h2 ?_
  refine W.vret N.1 N.2.1 (N.2.2.1.trans hr) (fun t ht hW => ⟨⟨_, _, rfl, hq, by rw [ht]; exact M⟩, S.F ht⟩) (fun q hq => S.2.2 q hq) hd N.2.2.2.1
end RT
/-- what a callee's posts say: an int and a heap; nothing but a heap; just this int and the heap as it was -/
def ic_qi (P : Int32 → ic_H → Prop) : Option Value → ic_H → Prop := fun r h' => ∃ v : Int32, r = some (.int v) ∧ P v h'
def ic_qv (P : ic_H → Prop) : Option Value → ic_H → Prop := fun r h' => r = none ∧ P h'
def ic_qe (v : Int32) (h : ic_H) : Option Value → ic_H → Prop := fun r h' => r = some (.int v) ∧ h' = h
section CL
variable {l : Launch} {E : ic_E} {F : ic_F} {kc : Nat × Nat} {pc : Nat} {L : List (Nat × Value)} {st : List Value} {sh sh2 : List ic_S} {h : ic_H}
theorem ic_ki {P : Int32 → ic_H → Prop} (kk : ∀ v h', P v h' → xx l E F kc pc L (.int v :: st) sh2 h') : ∀ r h', ic_qi P r h' → xx l E F kc pc L (r.toList ++ st) sh2 h' := by
  rintro r h' ⟨v, rfl, q⟩
  exact kk v h' q
theorem ic_kv {P : ic_H → Prop} (kk : ∀ h', P h' → xx l E F kc pc L st sh2 h') : ∀ r h', ic_qv P r h' → xx l E F kc pc L (r.toList ++ st) sh2 h' := by
  rintro r h' ⟨rfl, q⟩
  exact kk h' q
theorem ic_ke {v : Int32} (kk : xx l E F kc pc L (.int v :: st) sh2 h) : ∀ r h', ic_qe v h r h' → xx l E F kc pc L (r.toList ++ st) sh2 h' := by
  rintro r h' ⟨rfl, rfl⟩
  exact kk
/-- a method's own words -/
def ic_Yk (Y : ic_Y) (n : Nat) : Prop := Cond.code Y.1 Y.2.1 Y.2.2.1 Y.2.2.2 ∈ ic_W ∧ Cond.initialized Y.1.cls ∈ ic_W ∧ (Y.1.cls ≠ "java/lang/invoke/MethodHandle" ∧ Y.1.cls ≠ "java/lang/invoke/VarHandle") ∧ (parseMethodDescriptor Y.1.desc).map (fun d => d.parameters.length) = some n
def ic_cS (own : String) (idx : Nat) (Y : ic_Y) : Prop := Cond.methodLink own idx Y.1 ∈ ic_W ∧ Cond.static Y.1 ∈ ic_W
def ic_cV (own : String) (idx c : Nat) (Y : ic_Y) : Prop := c < 13 ∧ Y.1.cls = ic_R c ∧ Cond.methodLink own idx Y.1 ∈ ic_W ∧ Cond.instanceMethod Y.1 ∈ ic_W ∧ Cond.selects (ic_R c) Y.1 Y.1 ∈ ic_W
def ic_cI (own : String) (idx : Nat) (Y : ic_Y) : Prop := Y.1.name = "<init>" ∧ Cond.methodLink own idx Y.1 ∈ ic_W ∧ Cond.instanceMethod Y.1 ∈ ic_W
def ic_cN (own : String) (idx : Nat) (Y : ic_Y) (host : String) : Prop := (own, idx, Y.1, host) ∈ ic_nest
def ic_cU (own : String) (idx c : Nat) (x : MethodName) (owner : String) (Y : ic_Y) : Prop := c < 13 ∧ Cond.methodLink own idx x ∈ ic_W ∧ Cond.sameMethod x.cls owner x.name x.desc ∈ ic_W ∧ Cond.selects (ic_R c) x Y.1 ∈ ic_W ∧ Cond.instanceMethod Y.1 ∈ ic_W ∧ x.desc = Y.1.desc ∧
  (∃ (b0 : ByteArray) (m0 : Nat) (r0 : Option FieldType), Cond.code ⟨owner, x.name, x.desc⟩ b0 m0 r0 ∈ ic_W) ∧ Cond.instanceMethod ⟨owner, x.name, x.desc⟩ ∈ ic_W ∧ (owner ≠ "java/lang/invoke/MethodHandle" ∧ owner ≠ "java/lang/invoke/VarHandle")
def ic_cP (own : String) (idx : Nat) (Y : ic_Y) : Prop := Cond.methodLink own idx Y.1 ∈ ic_W ∧ Cond.sameMethod Y.1.cls Y.1.cls Y.1.name Y.1.desc ∈ ic_W ∧ Cond.superclass own Y.1.cls ∈ ic_W ∧ Cond.instanceMethod Y.1 ∈ ic_W ∧ Y.1.name ≠ "<init>"
theorem ic_blind {E : ic_E} {z : Prop} {As : List Value} {sh : List ic_S} {h : ic_H} : FrameBlind (ic_P E z As sh h) := by
  rintro a U g mk ⟨h1, h2, h3⟩
  exact ⟨h1, h2, ic_K.same (u := U) rfl h3⟩
theorem ic_pre {p : Program} {s : State} {m : MethodId} {args : Array Value} {meth : Method} {c : Code} {H : Heap} {locs : List Loc} {As : List Value} (N : ic_Fx E F p s m args meth c) (M : ic_M E F.2.2.2.2.2.2.1 sh h H) (S : va_S (ic_A E) s.heap H locs) :
    PreS s H (ic_P E F.2.2.2.2.2.2.1 As sh h) As :=
  ⟨ic_blind, fun U hU hW => ⟨rfl, by rw [hU]; exact M, by rw [hU]; exact (ic_KH N.2.2.2.2.2.2.2.2.1 S).warm hW⟩⟩
theorem ic_recv {p : Program} {s : State} {m : MethodId} {args : Array Value} {meth : Method} {c0 : Code} {H : Heap} {o c n : Nat} {rs : List Nat} (N : ic_Fx E F p s m args meth c0) (M : ic_M E F.2.2.2.2.2.2.1 sh h H) (hc : c < 13) (hs : sh[o]? = some (c, n, rs)) :
    ∃ cell : Cell, H[ic_b E + o]? = some cell ∧ cell.vm.isStatics = false ∧ s.vm.findClass (ic_R c) = some cell.cls := by
  have he : (ic_ws E sh h)[o]? = some (ic_b E + o, .inr (c, (List.range (ic_N c)).map (ic_fv (ic_b E) c rs h o))) := by rw [ic_ws_at hs, ic_ob_c hc]
  exact va_recv N.2.2.2.2.2.2.2.2.1.1 M.2 (ic_cl c hc) he
theorem ic_goodY {Y : ic_Y} {n : Nat} (hY : ic_Yk Y n) : GoodIn ic_W (Cond.code Y.1 Y.2.1 Y.2.2.1 Y.2.2.2 :: ic_W) := ic_good fun w hw => by
  rcases List.mem_cons.mp hw with rfl | hw
  · exact hY.1
  · exact hw
theorem ic_callB {p : Program} {s : State} {m : MethodId} {args : Array Value} {meth : Method} {c : Code} {Y : ic_Y} {n d' mc' ms' idx : Nat} (N : ic_Fx E F p s m args meth c) (hY : ic_Yk Y n) (hl : Cond.methodLink F.1 idx Y.1 ∈ ic_W) (hR : d' + 1 ≤ F.2.2.2.2.2.1.frames ∧ 8 + (Y.2.2.1 + 11) + 48 * d' ≤ F.2.2.2.2.2.1.locals) :
    CallB F.2.2.2.2.2.1 s args F.1 idx Y.1 Y.2.1 Y.2.2.1 Y.2.2.2 (Cond.code Y.1 Y.2.1 Y.2.2.1 Y.2.2.2 :: ic_W) (ic_rm d' mc' ms') mc' ms' n :=
  callB_of n N.2.2.2.2.2.2.2.1 (ic_goodY hY) rfl rfl rfl (N.2.2.2.2.2.2.2.1 _ hY.2.1) (N.2.2.2.2.2.2.2.1 _ hl) ⟨hY.2.2.1.1, hY.2.2.1.2, hY.2.2.2⟩ hR
theorem ic_after {p : Program} {e : Env} {s : State} {m : MethodId} {args : Array Value} {below : List Frame} {meth : Method} {c : Code} {H : Heap} {locs : List Loc} {ls : Array Slot} {mc' ms' : Nat} {st0 : List Value} {a : Array Value} {Q' : Option Value → ic_H → Prop} (N : ic_Fx E F p s m args meth c) (S : va_S (ic_A E) s.heap H locs) (hl : lv_has ls F.2.2.2.1 L)
    (hr : va_Run p l e F.2.2.2.2.2.1 s m args below meth c H locs kc.1 kc.2 mc' ms' (F0 m pc ls st0) st (ic_Q E F.2.2.2.2.2.2.1 sh2 Q' a) (ic_A E)) (kk : ∀ r h', Q' r h' → xx l E F (kc.1 + mc', kc.2 + ms') (pc + 3) L (r.toList ++ st) sh2 h') :
    W p l e F.2.2.2.2.2.1 s m args below meth c H locs kc.1 kc.2 (F.2.2.2.2.2.2.2.1 below args s) (F0 m pc ls st0) := by
  intro T hT X
  obtain ⟨v, st₀, t, T', L', h0, X', hL, e1, e2, ⟨⟨r, h', hv, hq, hm⟩, hz, hk⟩, stp⟩ := hr T hT X
  cases hv
  rw [h0] at hz hk
  obtain ⟨t2, a1, b1⟩ := kk v h' hq p e s m args below meth c T'.heap (locs ++ L') ls N (by rw [e1]; exact hm)
    ⟨Nat.le_trans S.1 (by rw [e1]; exact hz), fun q h1 h2 => by rw [e1, hk q (Nat.lt_of_lt_of_le h1 S.1) h2]; exact S.2.1 q h1 h2, fun q hq => by
      rcases List.mem_append.mp hq with w | w
      · exact S.2.2 q w
      · exact hL q w⟩ hl T' rfl X'
  exact ⟨t2, stp t2 a1, b1⟩
variable {Y : ic_Y} {n d' mc' ms' idx : Nat} {Q' : Option Value → ic_H → Prop} {st0 : List Value}
theorem xx_callS {As : List Value} (hC : ic_C l E Y d' mc' ms' F.2.2.2.2.2.2.1 As sh h sh2 Q') (hY : ic_Yk Y n) (hc : ic_cS F.1 idx Y) (hd : decode F.2.2.1 pc = .ok (.invokestatic idx, 3)) (hn : As.length = n) (hst : st0 = As.reverse ++ st) (hW : (st.map fun v => v.category).sum ≤ 8)
    (hR : d' + 1 ≤ F.2.2.2.2.2.1.frames ∧ 8 + (Y.2.2.1 + 11) + 48 * d' ≤ F.2.2.2.2.2.1.locals) (hf : kc.1 + mc' ≤ F.2.2.2.2.2.1.cells ∧ kc.2 + ms' ≤ F.2.2.2.2.2.1.slots) (kk : ∀ r h', Q' r h' → xx l E F (kc.1 + mc', kc.2 + ms') (pc + 3) L (r.toList ++ st) sh2 h') : xx l E F kc pc L st0 sh h := by
  intro p e s m args below meth c H locs ls N M S hl
  refine ic_after N S hl (va_runS (nL := F.2.2.2.1) (n := n) (As := As) (rest := st) ⟨N.1, N.2.1, N.2.2.2.2.1, N.2.2.2.2.2.1, N.2.2.2.2.2.2.2.1⟩ hC ⟨ic_callB N hY hc.1 hR, N.2.2.2.2.2.2.2.1 _ hc.2⟩ (ic_pre N M S) rfl hn hl.1 hst (lv_room hW) hd hf) kk
theorem xx_callSN {As : List Value} {host : String} (hC : ic_C l E Y d' mc' ms' F.2.2.2.2.2.2.1 As sh h sh2 Q') (hY : ic_Yk Y n) (hc : ic_cN F.1 idx Y host) (hs : Cond.static Y.1 ∈ ic_W) (hd : decode F.2.2.1 pc = .ok (.invokestatic idx, 3)) (hn : As.length = n) (hst : st0 = As.reverse ++ st) (hW : (st.map fun v => v.category).sum ≤ 8)
    (hR : d' + 1 ≤ F.2.2.2.2.2.1.frames ∧ 8 + (Y.2.2.1 + 11) + 48 * d' ≤ F.2.2.2.2.2.1.locals) (hf : kc.1 + mc' ≤ F.2.2.2.2.2.1.cells ∧ kc.2 + ms' ≤ F.2.2.2.2.2.1.slots) (kk : ∀ r h', Q' r h' → xx l E F (kc.1 + mc', kc.2 + ms') (pc + 3) L (r.toList ++ st) sh2 h') : xx l E F kc pc L st0 sh h := by
  intro p e s m args below meth c H locs ls N M S hl
  have hts := N.2.2.2.2.2.2.2.1
  refine ic_after N S hl (va_runSN (nL := F.2.2.2.1) (n := n) (As := As) (rest := st) (host := host) ⟨N.1, N.2.1, N.2.2.2.2.1, N.2.2.2.2.2.1, hts⟩ hC ⟨va_cnB n hts (ic_goodY hY) rfl rfl rfl (N.2.2.2.2.2.2.2.2.1.2.2.2.2 _ hc) (hts _ hY.2.1) ⟨hY.2.2.1.1, hY.2.2.1.2, hY.2.2.2⟩ hR, hts _ hs, trivial⟩ (ic_pre N M S) rfl hn hl.1 hst (lv_room hW) hd hf) kk
theorem xx_callV {o c nn : Nat} {rs : List Nat} {As : List Value} (hs : sh[o]? = some (c, nn, rs)) (hC : ic_C l E Y d' mc' ms' F.2.2.2.2.2.2.1 (ic_pt E o :: As) sh h sh2 Q') (hY : ic_Yk Y n) (hc : ic_cV F.1 idx c Y) (hd : decode F.2.2.1 pc = .ok (.invokevirtual idx, 3)) (hn : As.length = n) (hst : st0 = As.reverse ++ (ic_pt E o :: st)) (hW : (st.map fun v => v.category).sum ≤ 8)
    (hR : d' + 1 ≤ F.2.2.2.2.2.1.frames ∧ 8 + (Y.2.2.1 + 11) + 48 * d' ≤ F.2.2.2.2.2.1.locals) (hf : kc.1 + mc' ≤ F.2.2.2.2.2.1.cells ∧ kc.2 + ms' ≤ F.2.2.2.2.2.1.slots) (kk : ∀ r h', Q' r h' → xx l E F (kc.1 + mc', kc.2 + ms') (pc + 3) L (r.toList ++ st) sh2 h') : xx l E F kc pc L st0 sh h := by
  intro p e s m args below meth c0 H locs ls N M S hl
  have hts := N.2.2.2.2.2.2.2.1
  have hp := ic_pre (As := ic_pt E o :: As) N M S
  refine ic_after N S hl (va_runV (nL := F.2.2.2.1) (n := n) (As := As) (rest := st) (b := ic_b E + o) (C := ic_R c) ⟨N.1, N.2.1, N.2.2.2.2.1, N.2.2.2.2.2.1, hts⟩ hC ⟨ic_callB N hY hc.2.2.1 hR, hts _ hc.2.2.2.1, hts _ hc.2.2.2.2⟩ ⟨hp.1, ic_recv N M hc.1 hs, hp.2⟩ rfl hn hl.1 hst (lv_room hW) hd hf) kk
theorem xx_callI {o : Nat} {As : List Value} (hC : ic_C l E Y d' mc' ms' F.2.2.2.2.2.2.1 (ic_pt E o :: As) sh h sh2 Q') (hY : ic_Yk Y n) (hret : Y.2.2.2 = none) (hc : ic_cI F.1 idx Y) (hd : decode F.2.2.1 pc = .ok (.invokespecial idx, 3)) (hn : As.length = n) (hst : st0 = As.reverse ++ (ic_pt E o :: st)) (hW : (st.map fun v => v.category).sum ≤ 8)
    (hR : d' + 1 ≤ F.2.2.2.2.2.1.frames ∧ 8 + (Y.2.2.1 + 11) + 48 * d' ≤ F.2.2.2.2.2.1.locals) (hf : kc.1 + mc' ≤ F.2.2.2.2.2.1.cells ∧ kc.2 + ms' ≤ F.2.2.2.2.2.1.slots) (kk : ∀ r h', Q' r h' → xx l E F (kc.1 + mc', kc.2 + ms') (pc + 3) L (r.toList ++ st) sh2 h') : xx l E F kc pc L st0 sh h := by
  intro p e s m args below meth c0 H locs ls N M S hl
  have hts := N.2.2.2.2.2.2.2.1
  have cb := ic_callB (mc' := mc') (ms' := ms') N hY hc.2.1 hR
  rw [hret] at cb
  unfold ic_C at hC
  rw [hret] at hC
  refine ic_after N S hl (va_runI (nL := F.2.2.2.1) (n := n) (As := As) (rest := st) (b := ic_b E + o) ⟨N.1, N.2.1, N.2.2.2.2.1, N.2.2.2.2.2.1, hts⟩ hC ⟨cb, hc.1, hts _ hc.2.2⟩ (ic_pre (As := ic_pt E o :: As) N M S) rfl hn hl.1 hst (lv_room hW) hd hf) kk
theorem xx_callIN {o : Nat} {As : List Value} {host : String} (hC : ic_C l E Y d' mc' ms' F.2.2.2.2.2.2.1 (ic_pt E o :: As) sh h sh2 Q') (hY : ic_Yk Y n) (hret : Y.2.2.2 = none) (hc : ic_cN F.1 idx Y host) (hin : Y.1.name = "<init>" ∧ Cond.instanceMethod Y.1 ∈ ic_W) (hd : decode F.2.2.1 pc = .ok (.invokespecial idx, 3)) (hn : As.length = n) (hst : st0 = As.reverse ++ (ic_pt E o :: st)) (hW : (st.map fun v => v.category).sum ≤ 8)
    (hR : d' + 1 ≤ F.2.2.2.2.2.1.frames ∧ 8 + (Y.2.2.1 + 11) + 48 * d' ≤ F.2.2.2.2.2.1.locals) (hf : kc.1 + mc' ≤ F.2.2.2.2.2.1.cells ∧ kc.2 + ms' ≤ F.2.2.2.2.2.1.slots) (kk : ∀ r h', Q' r h' → xx l E F (kc.1 + mc', kc.2 + ms') (pc + 3) L (r.toList ++ st) sh2 h') : xx l E F kc pc L st0 sh h := by
  intro p e s m args below meth c0 H locs ls N M S hl
  have hts := N.2.2.2.2.2.2.2.1
  have hg := ic_goodY hY
  unfold ic_C at hC
  rw [hret] at hC hg
  refine ic_after N S hl (va_runIN (nL := F.2.2.2.1) (n := n) (As := As) (rest := st) (b := ic_b E + o) (host := host) ⟨N.1, N.2.1, N.2.2.2.2.1, N.2.2.2.2.2.1, hts⟩ hC ⟨va_cnB n hts hg rfl rfl rfl (N.2.2.2.2.2.2.2.2.1.2.2.2.2 _ hc) (hts _ hY.2.1) ⟨hY.2.2.1.1, hY.2.2.1.2, hY.2.2.2⟩ hR, hin.1, hts _ hin.2⟩ (ic_pre (As := ic_pt E o :: As) N M S) rfl hn hl.1 hst (lv_room hW) hd hf) kk
/-- a method that the reference names in a class above, or that overrides the one named -/
theorem xx_callU {o c nn : Nat} {rs : List Nat} {x : MethodName} {owner : String} {As : List Value} (hs : sh[o]? = some (c, nn, rs)) (hC : ic_C l E Y d' mc' ms' F.2.2.2.2.2.2.1 (ic_pt E o :: As) sh h sh2 Q') (hY : ic_Yk Y n) (hc : ic_cU F.1 idx c x owner Y) (hd : decode F.2.2.1 pc = .ok (.invokevirtual idx, 3)) (hn : As.length = n) (hst : st0 = As.reverse ++ (ic_pt E o :: st)) (hW : (st.map fun v => v.category).sum ≤ 8)
    (hR : d' + 1 ≤ F.2.2.2.2.2.1.frames ∧ 8 + (Y.2.2.1 + 11) + 48 * d' ≤ F.2.2.2.2.2.1.locals) (hf : kc.1 + mc' ≤ F.2.2.2.2.2.1.cells ∧ kc.2 + ms' ≤ F.2.2.2.2.2.1.slots) (kk : ∀ r h', Q' r h' → xx l E F (kc.1 + mc', kc.2 + ms') (pc + 3) L (r.toList ++ st) sh2 h') : xx l E F kc pc L st0 sh h := by
  intro p e s m args below meth c0 H locs ls N M S hl
  have hts := N.2.2.2.2.2.2.2.1
  have hp := ic_pre (As := ic_pt E o :: As) N M S
  obtain ⟨c1, c2, c3, c4, c5, c6, ⟨b0, m0, r0, c7⟩, c8, c9⟩ := hc
  have hcm : Cond.code Y.1 Y.2.1 Y.2.2.1 Y.2.2.2 ∈ Cond.code Y.1 Y.2.1 Y.2.2.1 Y.2.2.2 :: ic_W := List.mem_cons_self
  refine ic_after N S hl (va_runU (nL := F.2.2.2.1) (n := n) (As := As) (rest := st) (b := ic_b E + o) (C := ic_R c) (owner := owner) (x := x) ⟨N.1, N.2.1, N.2.2.2.2.1, N.2.2.2.2.2.1, hts⟩ hC
    ⟨⟨rfl, rfl, hR.1, hR.2, pay_in hts (ic_goodY hY), hcm⟩, hts _ hY.1, hts _ hY.2.1, c9, fun sig hg => ?_, hts _ c2, hts _ c3, va_Decl.of (hts _ c8) (hts _ c7), hts _ c4, hts _ c5⟩ ⟨hp.1, ic_recv N M c1 hs, hp.2⟩ rfl hn hl.1 hst (lv_room hW) hd hf) kk
  have h2 := hY.2.2.2
  rw [← c6, hg] at h2
  exact (Option.some.inj h2).symm
/-- super.m(..) -/
theorem xx_callP {o c nn : Nat} {rs : List Nat} {As : List Value} (hs : sh[o]? = some (c, nn, rs)) (hcc : c < 13) (hC : ic_C l E Y d' mc' ms' F.2.2.2.2.2.2.1 (ic_pt E o :: As) sh h sh2 Q') (hY : ic_Yk Y n) (hc : ic_cP F.1 idx Y) (hd : decode F.2.2.1 pc = .ok (.invokespecial idx, 3)) (hn : As.length = n) (hst : st0 = As.reverse ++ (ic_pt E o :: st)) (hW : (st.map fun v => v.category).sum ≤ 8)
    (hR : d' + 1 ≤ F.2.2.2.2.2.1.frames ∧ 8 + (Y.2.2.1 + 11) + 48 * d' ≤ F.2.2.2.2.2.1.locals) (hf : kc.1 + mc' ≤ F.2.2.2.2.2.1.cells ∧ kc.2 + ms' ≤ F.2.2.2.2.2.1.slots) (kk : ∀ r h', Q' r h' → xx l E F (kc.1 + mc', kc.2 + ms') (pc + 3) L (r.toList ++ st) sh2 h') : xx l E F kc pc L st0 sh h := by
  intro p e s m args below meth c0 H locs ls N M S hl
  have hts := N.2.2.2.2.2.2.2.1
  have hp := ic_pre (As := ic_pt E o :: As) N M S
  obtain ⟨c2, c3, c4, c5, c6⟩ := hc
  have hcm : Cond.code Y.1 Y.2.1 Y.2.2.1 Y.2.2.2 ∈ Cond.code Y.1 Y.2.1 Y.2.2.1 Y.2.2.2 :: ic_W := List.mem_cons_self
  refine ic_after N S hl (va_runSU (nL := F.2.2.2.1) (n := n) (As := As) (rest := st) (b := ic_b E + o) (C := ic_R c) (N.2.2.2.2.2.2.2.2.1.1.1 c _ (ic_cl c hcc)).2 ⟨N.1, N.2.1, N.2.2.2.2.1, N.2.2.2.2.2.1, hts⟩ hC
    ⟨⟨rfl, rfl, hR.1, hR.2, pay_in hts (ic_goodY hY), hcm⟩, hts _ c2, hts _ c3, hts _ c4, hts _ c5, hts _ hY.2.1, hts _ hY.1, c6, fun sig hg => ?_⟩ ⟨hp.1, ic_recv N M hcc hs, hp.2⟩ rfl hn hl.1 hst (lv_room hW) hd hf) kk
  have h2 := hY.2.2.2
  rw [hg] at h2
  exact (Option.some.inj h2).symm
end CL
