/-! the class: riders act -/
theorem va_sub1 {vm : Vm} {a b : ClassId} {k : Class} (hk : vm.classes[a]? = some k) (hs : k.super = some b) : vm.isSubclass a b = true := by
  have h := (Array.getElem?_eq_some_iff.mp hk).1
  unfold Vm.isSubclass
  rw [show vm.classes.size = (vm.classes.size - 1) + 1 by omega]
  simp [Vm.isSubclassAux, hk, hs]
/-- super.m(..), where m stands two classes above -/
theorem va_runSO {p : Program} {l : Launch} {e : Env} {R : Room} {s : State} {m : MethodId} {args : Array Value} {below : List Frame} {meth : Method} {c : Code} {H : Heap} {locs : List Loc} {cells slots : Nat} {y : MethodName} {Xc : String} {bytes cc : ByteArray} {maxL nL mc ms n index : Nat} {ret : Option FieldType} {ws : List Cond} {rm : Room} {Pc : Array Value → State → Prop} {Qc : Array Value → State → Outcome → State → Prop} {free : Addr → Prop} {Ts : List Cond} {own C : String} {cC : ClassId} {b : Addr} {As rest : List Value} {g : JFrame}
    (hat : ClassAt s C cC) (S : CallFix p m c cc nL s args Ts own) (hM : Met l y ws rm Pc Qc mc ms free) (hbk : rm.cells = mc ∧ rm.slots = ms ∧ rm.frames + 1 ≤ R.frames ∧ 8 + (maxL + 11) + rm.locals ≤ R.locals ∧ (∀ w ∈ ws, ∀ (a' : Array Value) (U : State), s.WarmedH U.vm → w.before a' U = true) ∧ Cond.code y bytes maxL ret ∈ ws)
    (hl1 : (Cond.methodLink own index ⟨Xc, y.name, y.desc⟩).before args s = true) (hl2 : (Cond.sameMethod Xc y.cls y.name y.desc).before args s = true) (hl3 : (Cond.superclass own Xc).before args s = true) (hl4 : (Cond.superclass Xc y.cls).before args s = true)
    (hinst : (Cond.instanceMethod y).before args s = true) (hini : (Cond.initialized y.cls).before args s = true) (hcode : (Cond.code y bytes maxL ret).before args s = true) (hno : y.name ≠ "<init>") (hlen : ∀ sig, parseMethodDescriptor y.desc = some sig → n = sig.parameters.length) (hp : PreV s H C b Pc As)
    (hg : g.method = m) (hn : As.length = n) (hsize : g.locals.size = nL) (hstack : g.stack = As.reverse ++ .ref b :: rest) (hW : 2 * g.monitorRoom + (rest.map fun v => v.category).sum ≤ 8) (hdg : decode cc g.pc = .ok (.invokespecial index, 3)) (hf : cells + mc ≤ R.cells ∧ slots + ms ≤ R.slots) :
    va_Run p l e R s m args below meth c H locs cells slots mc ms g rest (Qc (Value.ref b :: As).toArray) (free) := by
  obtain ⟨hrc, hrs, hfr, hlo, hws, hcw⟩ := hbk
  have hK : Back l R p e below s args y 3 8 (PreOf R mc ms Pc) (PostOf Qc mc ms free) := back_of (bytes := bytes) (maxL := maxL) (ret := ret) hM hp.1 hrc hrs hfr hlo hws hcw (fun a' U hW => word_at hW (Or.inl (by first | rfl | simp [Cond.onTables, Cond.keeps, Cond.steady])) hini)
  obtain ⟨hx, hb, hml, ho, -⟩ := S
  obtain ⟨-, ⟨cellB, hcB, hoB, hclB⟩, hPc⟩ := hp
  obtain ⟨hfc, kB, hkB, -⟩ := hat
  cases hfc.symm.trans hclB
  obtain ⟨mk, methM, hnamed, hmethM, hstM, habM⟩ := Cond.instanceMethod_spec hinst
  obtain ⟨methM', cM, hmethM', -, -, -, -, -, -, hsigM⟩ := Cond.code_spec hnamed hcode
  cases hmethM.symm.trans hmethM'
  obtain ⟨ps, dk, kp, hps, hdk, hkp, hsuper, -, -, hnid⟩ := Cond.superclass_spec ho hl3
  obtain ⟨ps2, dk2, kp2, hps2, hdk2, hkp2, hsuper2, -, -, hnid2⟩ := Cond.superclass_spec hps hl4
  have hpm : ps2 = mk.cls := Option.some.inj (hps2.symm.trans (findClass_of_methodNamed hnamed))
  have hsub : s.vm.isSubclass ps mk.cls = true := by rw [← hpm]; exact va_sub1 hdk2 hsuper2
  intro T hT X
  obtain ⟨vm₁, X₁, hstep₁⟩ := X.invokespecialUp hx ho hl1 hl2 hnamed hmethM hstM habM hno hdk hnid hps hsuper hsub (a := b) (cell := cellB) (by rw [hT]; exact hcB) (fun z h => by rw [h] at hoB; cases hoB) hkB (g := g) hg (argsL := As) (rest := rest) (hn.trans (hlen _ hsigM)) hstack (by rw [hb]; exact hdg)
  obtain ⟨v, ⟨U', l2, c2, s2⟩, X', ⟨g', mk', t, L, e1, e2, hq, h1, hL, h2, h3⟩, hsteps⟩ := hK m meth c ⟨T.setVm vm₁, locs, cells, slots⟩ { g with stack := rest } (.invokespecial index) mk (Value.ref b :: As).toArray X₁ hg (hsize.trans hml.symm) (by rw [hb]; exact hdg) hW (X₁.named hnamed) ⟨hf.1, hf.2, hPc (T.setVm vm₁) hT X₁.warmed⟩
  dsimp only [Pt.U, Pt.locs, Pt.cells, Pt.slots] at X' e1 e2 h1 h2 h3 hsteps
  subst h1; subst h2; subst h3
  exact ⟨v, (T.setVm vm₁).calling g' mk' (Value.ref b :: As).toArray, t, U', L, hT, X', hL, e1, e2, hq, fun target h => hstep₁ _ (by rw [doInvoke_state]; exact hsteps.trans h)⟩
def ic_cO (own : String) (idx : Nat) (Xc : String) (Y : ic_Y) : Prop := Cond.methodLink own idx ⟨Xc, Y.1.name, Y.1.desc⟩ ∈ ic_W ∧ Cond.sameMethod Xc Y.1.cls Y.1.name Y.1.desc ∈ ic_W ∧ Cond.superclass own Xc ∈ ic_W ∧ Cond.superclass Xc Y.1.cls ∈ ic_W ∧ Cond.instanceMethod Y.1 ∈ ic_W ∧ Y.1.name ≠ "<init>"
theorem xx_callO0 {l : Launch} {E : ic_E} {F : ic_F} {kc : Nat × Nat} {pc : Nat} {L : List (Nat × Value)} {st : List Value} {sh : List ic_S} {h : ic_H} {Y : ic_Y} {n d' idx : Nat} {Q' : Option Value → ic_H → Prop} {st0 : List Value} {sh2 : List ic_S} {o c nn : Nat} {rs : List Nat} {As : List Value} {Xc : String} (hs : sh[o]? = some (c, nn, rs)) (hcc : c < 13) (hC : ic_C l E Y d' 0 0 F.2.2.2.2.2.2.1 (ic_pt E o :: As) sh h sh2 Q') (hY : ic_Yk Y n) (hc : ic_cO F.1 idx Xc Y) (hd : decode F.2.2.1 pc = .ok (.invokespecial idx, 3)) (hn : As.length = n) (hst : st0 = As.reverse ++ (ic_pt E o :: st)) (hW : (st.map fun v => v.category).sum ≤ 8)
    (hR : d' + 1 ≤ F.2.2.2.2.2.1.frames ∧ 8 + (Y.2.2.1 + 11) + 48 * d' ≤ F.2.2.2.2.2.1.locals) (hf : kc.1 ≤ F.2.2.2.2.2.1.cells ∧ kc.2 ≤ F.2.2.2.2.2.1.slots) (kk : ∀ r h', Q' r h' → xx l E F kc (pc + 3) L (r.toList ++ st) sh2 h') : xx l E F kc pc L st0 sh h := by
  intro p e s m args below meth c0 H locs ls N M S hl
  have hts := N.2.2.2.2.2.2.2.1
  have hp := ic_pre (As := ic_pt E o :: As) N M S
  obtain ⟨c2, c3, c4, c5, c6, c7⟩ := hc
  have hcm : Cond.code Y.1 Y.2.1 Y.2.2.1 Y.2.2.2 ∈ Cond.code Y.1 Y.2.1 Y.2.2.1 Y.2.2.2 :: ic_W := List.mem_cons_self
  refine ic_after N S hl (va_runSO (nL := F.2.2.2.1) (n := n) (As := As) (rest := st) (b := ic_b E + o) (C := ic_R c) (N.2.2.2.2.2.2.2.2.1.1.1 c _ (ic_cl c hcc)).2 ⟨N.1, N.2.1, N.2.2.2.2.1, N.2.2.2.2.2.1, hts⟩ hC
    ⟨rfl, rfl, hR.1, hR.2, pay_in hts (ic_goodY hY), hcm⟩ (hts _ c2) (hts _ c3) (hts _ c4) (hts _ c5) (hts _ c6) (hts _ hY.2.1) (hts _ hY.1) c7 (fun sig hg => ?_) ⟨hp.1, ic_recv N M hcc hs, hp.2⟩ rfl hn hl.1 hst (lv_room hW) hd hf) kk
  have h2 := hY.2.2.2
  rw [hg] at h2
  exact (Option.some.inj h2).symm
theorem oX0_21 : ic_cO RX0 21 "InnerCircle$Clerk" mX9_reads := ⟨ic_in 1175 (by decide +kernel) rfl, ic_in 1176 (by decide +kernel) rfl, ic_in 289 (by decide +kernel) rfl, ic_in 277 (by decide +kernel) rfl, ic_in 1166 (by decide +kernel) rfl, by decide +kernel⟩
theorem oX2_21 : ic_cO RX2 21 "InnerCircle$Lady" mX9_stands := ⟨ic_in 1152 (by decide +kernel) rfl, ic_in 1153 (by decide +kernel) rfl, ic_in 265 (by decide +kernel) rfl, ic_in 253 (by decide +kernel) rfl, ic_in 1138 (by decide +kernel) rfl, by decide +kernel⟩
theorem oX2_24 : ic_cO RX2 24 "InnerCircle$Lady" mX9_rises := ⟨ic_in 1223 (by decide +kernel) rfl, ic_in 1224 (by decide +kernel) rfl, ic_in 265 (by decide +kernel) rfl, ic_in 253 (by decide +kernel) rfl, ic_in 1215 (by decide +kernel) rfl, by decide +kernel⟩
theorem xx_eqT {l : Launch} {E : ic_E} {F : ic_F} {kc : Nat × Nat} {pc : Nat} {L : List (Nat × Value)} {st : List Value} {sh : List ic_S} {h : ic_H} {v v2 : Value} (e : v = v2) (kk : xx l E F kc pc L (v2 :: st) sh h) : xx l E F kc pc L (v :: st) sh h := by rw [e]; exact kk
theorem rv_hn {b t : Nat} {w : ic_w} {o k : Nat} (h : w o k = t) (ht : t < 2 ^ 31) : ic_rv b (hn w o k).toNatClampNeg = ic_rv b t := by
  show ic_rv b (nI (w o k)).toNatClampNeg = _
  rw [h, nI_clamp ht]
/-- told, where nothing was parted by 0 -/
def mo_cl (W : ic_w) (l : List Nat) : ic_w := if W 114 40 = 0 then mo_lgs W l else W
theorem mo_cl_f (W : ic_w) (l : List Nat) {j : Nat} (h : j ≠ 36) : mo_cl W l 114 j = W 114 j := by
  unfold mo_cl
  split
  · exact mo_lgs_f _ _ h
  · rfl
theorem mo_cl_36 {W : ic_w} (l : List Nat) (h : W 114 36 ≤ 30) : mo_cl W l 114 36 ≤ 30 := by
  unfold mo_cl
  split
  · exact mo_lgs_36 _ h
  · exact h
theorem mo_cl_a (W : ic_w) (a b : List Nat) : mo_cl (mo_cl W a) b = mo_cl W (a ++ b) := by
  by_cases z : W 114 40 = 0
  · have e : mo_cl W a = mo_lgs W a := if_pos z
    have e2 : mo_cl W (a ++ b) = mo_lgs W (a ++ b) := if_pos z
    rw [e, e2, ← mo_lgs_a]
    exact if_pos (by rw [mo_lgs_f _ _ (by omega)]; exact z)
  · have e : mo_cl W a = W := if_neg z
    have e2 : mo_cl W (a ++ b) = W := if_neg z
    rw [e, e2]
    exact if_neg z
/-- the rider of the kind k acts as W says -/
def Ca (w W : ic_w) (k : Nat) : Prop := (w (27 + 2 * k) 0 = W 114 38 ∧ w (27 + 2 * k) 1 = W 114 39 ∧ w (27 + 2 * k) 3 = W 114 36 ∧ w (27 + 2 * k) 4 = W 114 40) ∧ (W 114 37 = k ∧ W 114 36 ≤ 30 ∧ W 114 40 ≤ 1) ∧ ∀ j, j < W 114 36 → w (28 + 2 * k) j = W 132 j
theorem Ca.of {w W V : ic_w} {k : Nat} (h : Ca w W k) (e : ∀ j, 36 ≤ j → j ≤ 40 → V 114 j = W 114 j) (e2 : V 132 = W 132) : Ca w V k := by
  unfold Ca
  rw [e _ (by omega) (by omega), e _ (by omega) (by omega), e _ (by omega) (by omega), e _ (by omega) (by omega), e _ (by omega) (by omega), e2]
  exact h
theorem Ca.skip {w W : ic_w} {k c : Nat} (h : Ca w W k) (z : ¬ (W 114 40 = 0 ∧ W 114 36 < 30)) : Ca w (mo_cl W [c]) k := by
  have e : mo_cl W [c] = W := by
    unfold mo_cl
    split
    · show mo_rn W c = W
      unfold mo_rn
      exact if_neg (by omega)
    · rfl
  rw [e]
  exact h
theorem Ca.log {w W : ic_w} {k c : Nat} (h : Ca w W k) (z : W 114 40 = 0) (z3 : W 114 36 < 30) : Ca (wu (wu w (28 + 2 * k) (W 114 36) c) (27 + 2 * k) 3 (W 114 36 + 1)) (mo_cl W [c]) k := by
  have e : mo_cl W [c] = wu (wu W 132 (W 114 36) c) 114 36 (W 114 36 + 1) := by
    unfold mo_cl
    rw [if_pos z]
    show mo_rn W c = _
    unfold mo_rn
    exact if_pos z3
  rw [e]
  obtain ⟨⟨a1, a2, a3, a4⟩, ⟨b1, b2, b3⟩, d⟩ := h
  refine ⟨⟨?_, ?_, ?_, ?_⟩, ⟨?_, ?_, ?_⟩, fun j hj => ?_⟩
  · rw [wu_k _ _ _ _ (by omega), wu_o _ _ _ _ (by omega), wu_k _ _ _ _ (by omega), wu_o _ _ _ _ (by omega)]; exact a1
  · rw [wu_k _ _ _ _ (by omega), wu_o _ _ _ _ (by omega), wu_k _ _ _ _ (by omega), wu_o _ _ _ _ (by omega)]; exact a2
  · rw [wu_s, wu_s]
  · rw [wu_k _ _ _ _ (by omega), wu_o _ _ _ _ (by omega), wu_k _ _ _ _ (by omega), wu_o _ _ _ _ (by omega)]; exact a4
  · rw [wu_k _ _ _ _ (by omega), wu_o _ _ _ _ (by omega)]; exact b1
  · rw [wu_s]; omega
  · rw [wu_k _ _ _ _ (by omega), wu_o _ _ _ _ (by omega)]; exact b3
  · rw [wu_s] at hj
    have e1 : wu (wu w (28 + 2 * k) (W 114 36) c) (27 + 2 * k) 3 (W 114 36 + 1) (28 + 2 * k) = wu w (28 + 2 * k) (W 114 36) c (28 + 2 * k) := wu_row _ _ _ (by omega)
    have e2 : wu (wu W 132 (W 114 36) c) 114 36 (W 114 36 + 1) 132 = wu W 132 (W 114 36) c 132 := wu_row _ _ _ (by omega)
    rw [e1, e2]
    by_cases y : j = W 114 36
    · rw [y, wu_s, wu_s]
    · rw [wu_k _ _ _ _ y, wu_k _ _ _ _ y]
      exact d j (by omega)
theorem Ca.set {w W : ic_w} {k b : Nat} (h : Ca w W k) (hb : b ≤ 1) : Ca (wu w (27 + 2 * k) 4 b) (wu W 114 40 b) k := by
  obtain ⟨⟨a1, a2, a3, a4⟩, ⟨b1, b2, b3⟩, d⟩ := h
  refine ⟨⟨?_, ?_, ?_, ?_⟩, ⟨?_, ?_, ?_⟩, fun j hj => ?_⟩
  · rw [wu_k _ _ _ _ (by omega), wu_k _ _ _ _ (by omega)]; exact a1
  · rw [wu_k _ _ _ _ (by omega), wu_k _ _ _ _ (by omega)]; exact a2
  · rw [wu_k _ _ _ _ (by omega), wu_k _ _ _ _ (by omega)]; exact a3
  · rw [wu_s, wu_s]
  · rw [wu_k _ _ _ _ (by omega)]; exact b1
  · rw [wu_k _ _ _ _ (by omega)]; exact b2
  · rw [wu_s]; exact hb
  · rw [wu_k _ _ _ _ (by omega)] at hj
    rw [wu_row _ _ _ (by omega), wu_row _ _ _ (by omega)]
    exact d j hj
theorem Ca.same {w W : ic_w} {k b : Nat} (h : Ca w W k) (hb : W 114 40 = b) : Ca w (wu W 114 40 b) k :=
  h.of (fun j h1 h2 => by by_cases z : j = 40; rw [z, wu_s, hb]; exact wu_k _ _ _ _ z) (wu_row _ _ _ (by omega))
def mo_rw0 (W : ic_w) : ic_w := wu (mo_rn W 12) 114 40 (mo_P W)
theorem mo_cl_1 {W : ic_w} (z : W 114 40 = 0) (c : Nat) : mo_cl W [c] = mo_rn W c := by
  unfold mo_cl
  rw [if_pos z]
  rfl
theorem mo_P_e {W V : ic_w} (e : ∀ j, 38 ≤ j → j ≤ 40 → V 114 j = W 114 j) : mo_P V = mo_P W := by
  unfold mo_P mo_D
  rw [e _ (by omega) (by omega), e _ (by omega) (by omega), e _ (by omega) (by omega)]
theorem mo_D_e {W V : ic_w} (e : ∀ j, 38 ≤ j → j ≤ 40 → V 114 j = W 114 j) : mo_D V = mo_D W := by
  unfold mo_D
  rw [e _ (by omega) (by omega), e _ (by omega) (by omega)]
theorem mo_P_0 {W : ic_w} (z : W 114 40 = 0) : mo_P W = if mo_D W = 0 then 1 else 0 := by
  unfold mo_P mo_pt
  rw [z]
  by_cases y : mo_D W = 0
  · rw [if_pos (Or.inr y), if_pos y]
  · rw [if_neg (by omega), if_neg y]
set_option maxHeartbeats 4000000 in
set_option maxRecDepth 100000 in
theorem cC_begins_1 {l : Launch} {E : ic_E} {w : ic_w} {W : ic_w} {c : Nat} (hc : c < 2 ^ 32) (hA : Ca w W 1) : ic_C l E mX9_begins 1 0 0 False [ic_pt E 29, .int (nI c)] SHs (hn w) SHs (ic_qv (fun h_ => ∃ w2, h_ = hn w2 ∧ (∀ a, a ≠ 29 → a ≠ 30 → w2 a = w a) ∧ Ca w2 (mo_cl W [c]) 1)) := by
  refine ic_intro (by decide +kernel) (Nat.le_of_ble_eq_true rfl) ?_
  show xx l E _ _ 0 [(0, ic_pt E 29), (1, .int (nI c))] _ _ _
  have a0_ : w 29 0 = W 114 38 := hA.1.1
  have a1_ : w 29 1 = W 114 39 := hA.1.2.1
  have a3_ : w 29 3 = W 114 36 := hA.1.2.2.1
  have a4_ : w 29 4 = W 114 40 := hA.1.2.2.2
  have b_ := hA.2.1
  refine xx_aload_nP (pc := 0) dX9_begins_0 0 rfl rfl ?_
  refine xx_getN (pc := 1) dX9_begins_1 sh_29 fX9_25_7 rfl ?_
  refine xx_if_neN (pc := 4) 16 dX9_begins_4 rfl (by omega) (fun c1 => ?_) (fun c1 => ?_)
  · exact xx_vret (pc := 16) dX9_begins_16 rfl (Nat.le_refl _) (Nat.le_refl _) (ic_rv0 ⟨w, rfl, fun _ _ _ => rfl, hA.skip (by omega)⟩)
  · refine xx_aload_nP (pc := 7) dX9_begins_7 0 rfl rfl ?_
    refine xx_getN (pc := 8) dX9_begins_8 sh_29 fX9_22_7 rfl ?_
    refine xx_bipush (pc := 11) dX9_begins_11 cc_bipush_30 ?_
    refine xx_icmp_ltN (pc := 13) 17 dX9_begins_13 rfl (by omega) (by omega) (fun c2 => ?_) (fun c2 => ?_)
    · refine xx_aload_nP (pc := 17) dX9_begins_17 0 rfl rfl ?_
      refine xx_getR (pc := 18) 30 dX9_begins_18 sh_29 fX9_9_7 rfl rfl (by decide) ?_
      refine xx_aload_nP (pc := 21) dX9_begins_21 0 rfl rfl ?_
      refine xx_getN (pc := 22) dX9_begins_22 sh_29 fX9_22_7 rfl ?_
      refine xx_iload_n (pc := 25) dX9_begins_25 1 rfl rfl ?_
      refine xx_iastN (pc := 26) dX9_begins_26 sh_30 (by omega) (by decide) ?_
      refine xx_nw (fun w3 ew3 => ?_)
      refine xx_aload_nP (pc := 27) dX9_begins_27 0 rfl rfl ?_
      refine xx_dup (pc := 28) dX9_begins_28 rfl ?_
      refine xx_getN (pc := 29) dX9_begins_29 sh_29 fX9_22_7 rfl ?_
      refine xx_iconst (pc := 32) dX9_begins_32 cc_iconst_1 ?_
      refine xx_iaddN (pc := 33) dX9_begins_33 ?_
      refine xx_eqI (y := nI (W 114 36 + 1)) (by rw [ew3, wu_o _ _ _ _ (by omega), a3_]) ?_
      refine xx_putN (pc := 34) dX9_begins_34 sh_29 fX9_22_7 rfl rfl ?_
      refine xx_nw (fun w4 ew4 => ?_)
      exact xx_vret (pc := 37) dX9_begins_37 rfl (Nat.le_refl _) (Nat.le_refl _) (ic_rv0 ⟨w4, rfl, fun a h1 h2 => by rw [ew4, wu_row _ _ _ h1, ew3, wu_row _ _ _ h2], by rw [ew4, ew3, a3_]; exact hA.log (by omega) (by omega)⟩)
    · exact xx_vret (pc := 16) dX9_begins_16 rfl (Nat.le_refl _) (Nat.le_refl _) (ic_rv0 ⟨w, rfl, fun _ _ _ => rfl, hA.skip (by omega)⟩)

set_option maxHeartbeats 4000000 in
set_option maxRecDepth 100000 in
theorem cC_begins_2 {l : Launch} {E : ic_E} {w : ic_w} {W : ic_w} {c : Nat} (hc : c < 2 ^ 32) (hA : Ca w W 2) : ic_C l E mX9_begins 1 0 0 False [ic_pt E 31, .int (nI c)] SHs (hn w) SHs (ic_qv (fun h_ => ∃ w2, h_ = hn w2 ∧ (∀ a, a ≠ 31 → a ≠ 32 → w2 a = w a) ∧ Ca w2 (mo_cl W [c]) 2)) := by
  refine ic_intro (by decide +kernel) (Nat.le_of_ble_eq_true rfl) ?_
  show xx l E _ _ 0 [(0, ic_pt E 31), (1, .int (nI c))] _ _ _
  have a0_ : w 31 0 = W 114 38 := hA.1.1
  have a1_ : w 31 1 = W 114 39 := hA.1.2.1
  have a3_ : w 31 3 = W 114 36 := hA.1.2.2.1
  have a4_ : w 31 4 = W 114 40 := hA.1.2.2.2
  have b_ := hA.2.1
  refine xx_aload_nP (pc := 0) dX9_begins_0 0 rfl rfl ?_
  refine xx_getN (pc := 1) dX9_begins_1 sh_31 fX9_25_3 rfl ?_
  refine xx_if_neN (pc := 4) 16 dX9_begins_4 rfl (by omega) (fun c1 => ?_) (fun c1 => ?_)
  · exact xx_vret (pc := 16) dX9_begins_16 rfl (Nat.le_refl _) (Nat.le_refl _) (ic_rv0 ⟨w, rfl, fun _ _ _ => rfl, hA.skip (by omega)⟩)
  · refine xx_aload_nP (pc := 7) dX9_begins_7 0 rfl rfl ?_
    refine xx_getN (pc := 8) dX9_begins_8 sh_31 fX9_22_3 rfl ?_
    refine xx_bipush (pc := 11) dX9_begins_11 cc_bipush_30 ?_
    refine xx_icmp_ltN (pc := 13) 17 dX9_begins_13 rfl (by omega) (by omega) (fun c2 => ?_) (fun c2 => ?_)
    · refine xx_aload_nP (pc := 17) dX9_begins_17 0 rfl rfl ?_
      refine xx_getR (pc := 18) 32 dX9_begins_18 sh_31 fX9_9_3 rfl rfl (by decide) ?_
      refine xx_aload_nP (pc := 21) dX9_begins_21 0 rfl rfl ?_
      refine xx_getN (pc := 22) dX9_begins_22 sh_31 fX9_22_3 rfl ?_
      refine xx_iload_n (pc := 25) dX9_begins_25 1 rfl rfl ?_
      refine xx_iastN (pc := 26) dX9_begins_26 sh_32 (by omega) (by decide) ?_
      refine xx_nw (fun w3 ew3 => ?_)
      refine xx_aload_nP (pc := 27) dX9_begins_27 0 rfl rfl ?_
      refine xx_dup (pc := 28) dX9_begins_28 rfl ?_
      refine xx_getN (pc := 29) dX9_begins_29 sh_31 fX9_22_3 rfl ?_
      refine xx_iconst (pc := 32) dX9_begins_32 cc_iconst_1 ?_
      refine xx_iaddN (pc := 33) dX9_begins_33 ?_
      refine xx_eqI (y := nI (W 114 36 + 1)) (by rw [ew3, wu_o _ _ _ _ (by omega), a3_]) ?_
      refine xx_putN (pc := 34) dX9_begins_34 sh_31 fX9_22_3 rfl rfl ?_
      refine xx_nw (fun w4 ew4 => ?_)
      exact xx_vret (pc := 37) dX9_begins_37 rfl (Nat.le_refl _) (Nat.le_refl _) (ic_rv0 ⟨w4, rfl, fun a h1 h2 => by rw [ew4, wu_row _ _ _ h1, ew3, wu_row _ _ _ h2], by rw [ew4, ew3, a3_]; exact hA.log (by omega) (by omega)⟩)
    · exact xx_vret (pc := 16) dX9_begins_16 rfl (Nat.le_refl _) (Nat.le_refl _) (ic_rv0 ⟨w, rfl, fun _ _ _ => rfl, hA.skip (by omega)⟩)

set_option maxHeartbeats 4000000 in
set_option maxRecDepth 100000 in
theorem cC_begins_3 {l : Launch} {E : ic_E} {w : ic_w} {W : ic_w} {c : Nat} (hc : c < 2 ^ 32) (hA : Ca w W 3) : ic_C l E mX9_begins 1 0 0 False [ic_pt E 33, .int (nI c)] SHs (hn w) SHs (ic_qv (fun h_ => ∃ w2, h_ = hn w2 ∧ (∀ a, a ≠ 33 → a ≠ 34 → w2 a = w a) ∧ Ca w2 (mo_cl W [c]) 3)) := by
  refine ic_intro (by decide +kernel) (Nat.le_of_ble_eq_true rfl) ?_
  show xx l E _ _ 0 [(0, ic_pt E 33), (1, .int (nI c))] _ _ _
  have a0_ : w 33 0 = W 114 38 := hA.1.1
  have a1_ : w 33 1 = W 114 39 := hA.1.2.1
  have a3_ : w 33 3 = W 114 36 := hA.1.2.2.1
  have a4_ : w 33 4 = W 114 40 := hA.1.2.2.2
  have b_ := hA.2.1
  refine xx_aload_nP (pc := 0) dX9_begins_0 0 rfl rfl ?_
  refine xx_getN (pc := 1) dX9_begins_1 sh_33 fX9_25_2 rfl ?_
  refine xx_if_neN (pc := 4) 16 dX9_begins_4 rfl (by omega) (fun c1 => ?_) (fun c1 => ?_)
  · exact xx_vret (pc := 16) dX9_begins_16 rfl (Nat.le_refl _) (Nat.le_refl _) (ic_rv0 ⟨w, rfl, fun _ _ _ => rfl, hA.skip (by omega)⟩)
  · refine xx_aload_nP (pc := 7) dX9_begins_7 0 rfl rfl ?_
    refine xx_getN (pc := 8) dX9_begins_8 sh_33 fX9_22_2 rfl ?_
    refine xx_bipush (pc := 11) dX9_begins_11 cc_bipush_30 ?_
    refine xx_icmp_ltN (pc := 13) 17 dX9_begins_13 rfl (by omega) (by omega) (fun c2 => ?_) (fun c2 => ?_)
    · refine xx_aload_nP (pc := 17) dX9_begins_17 0 rfl rfl ?_
      refine xx_getR (pc := 18) 34 dX9_begins_18 sh_33 fX9_9_2 rfl rfl (by decide) ?_
      refine xx_aload_nP (pc := 21) dX9_begins_21 0 rfl rfl ?_
      refine xx_getN (pc := 22) dX9_begins_22 sh_33 fX9_22_2 rfl ?_
      refine xx_iload_n (pc := 25) dX9_begins_25 1 rfl rfl ?_
      refine xx_iastN (pc := 26) dX9_begins_26 sh_34 (by omega) (by decide) ?_
      refine xx_nw (fun w3 ew3 => ?_)
      refine xx_aload_nP (pc := 27) dX9_begins_27 0 rfl rfl ?_
      refine xx_dup (pc := 28) dX9_begins_28 rfl ?_
      refine xx_getN (pc := 29) dX9_begins_29 sh_33 fX9_22_2 rfl ?_
      refine xx_iconst (pc := 32) dX9_begins_32 cc_iconst_1 ?_
      refine xx_iaddN (pc := 33) dX9_begins_33 ?_
      refine xx_eqI (y := nI (W 114 36 + 1)) (by rw [ew3, wu_o _ _ _ _ (by omega), a3_]) ?_
      refine xx_putN (pc := 34) dX9_begins_34 sh_33 fX9_22_2 rfl rfl ?_
      refine xx_nw (fun w4 ew4 => ?_)
      exact xx_vret (pc := 37) dX9_begins_37 rfl (Nat.le_refl _) (Nat.le_refl _) (ic_rv0 ⟨w4, rfl, fun a h1 h2 => by rw [ew4, wu_row _ _ _ h1, ew3, wu_row _ _ _ h2], by rw [ew4, ew3, a3_]; exact hA.log (by omega) (by omega)⟩)
    · exact xx_vret (pc := 16) dX9_begins_16 rfl (Nat.le_refl _) (Nat.le_refl _) (ic_rv0 ⟨w, rfl, fun _ _ _ => rfl, hA.skip (by omega)⟩)

set_option maxHeartbeats 4000000 in
set_option maxRecDepth 100000 in
theorem cC_begins_4 {l : Launch} {E : ic_E} {w : ic_w} {W : ic_w} {c : Nat} (hc : c < 2 ^ 32) (hA : Ca w W 4) : ic_C l E mX9_begins 1 0 0 False [ic_pt E 35, .int (nI c)] SHs (hn w) SHs (ic_qv (fun h_ => ∃ w2, h_ = hn w2 ∧ (∀ a, a ≠ 35 → a ≠ 36 → w2 a = w a) ∧ Ca w2 (mo_cl W [c]) 4)) := by
  refine ic_intro (by decide +kernel) (Nat.le_of_ble_eq_true rfl) ?_
  show xx l E _ _ 0 [(0, ic_pt E 35), (1, .int (nI c))] _ _ _
  have a0_ : w 35 0 = W 114 38 := hA.1.1
  have a1_ : w 35 1 = W 114 39 := hA.1.2.1
  have a3_ : w 35 3 = W 114 36 := hA.1.2.2.1
  have a4_ : w 35 4 = W 114 40 := hA.1.2.2.2
  have b_ := hA.2.1
  refine xx_aload_nP (pc := 0) dX9_begins_0 0 rfl rfl ?_
  refine xx_getN (pc := 1) dX9_begins_1 sh_35 fX9_25_1 rfl ?_
  refine xx_if_neN (pc := 4) 16 dX9_begins_4 rfl (by omega) (fun c1 => ?_) (fun c1 => ?_)
  · exact xx_vret (pc := 16) dX9_begins_16 rfl (Nat.le_refl _) (Nat.le_refl _) (ic_rv0 ⟨w, rfl, fun _ _ _ => rfl, hA.skip (by omega)⟩)
  · refine xx_aload_nP (pc := 7) dX9_begins_7 0 rfl rfl ?_
    refine xx_getN (pc := 8) dX9_begins_8 sh_35 fX9_22_1 rfl ?_
    refine xx_bipush (pc := 11) dX9_begins_11 cc_bipush_30 ?_
    refine xx_icmp_ltN (pc := 13) 17 dX9_begins_13 rfl (by omega) (by omega) (fun c2 => ?_) (fun c2 => ?_)
    · refine xx_aload_nP (pc := 17) dX9_begins_17 0 rfl rfl ?_
      refine xx_getR (pc := 18) 36 dX9_begins_18 sh_35 fX9_9_1 rfl rfl (by decide) ?_
      refine xx_aload_nP (pc := 21) dX9_begins_21 0 rfl rfl ?_
      refine xx_getN (pc := 22) dX9_begins_22 sh_35 fX9_22_1 rfl ?_
      refine xx_iload_n (pc := 25) dX9_begins_25 1 rfl rfl ?_
      refine xx_iastN (pc := 26) dX9_begins_26 sh_36 (by omega) (by decide) ?_
      refine xx_nw (fun w3 ew3 => ?_)
      refine xx_aload_nP (pc := 27) dX9_begins_27 0 rfl rfl ?_
      refine xx_dup (pc := 28) dX9_begins_28 rfl ?_
      refine xx_getN (pc := 29) dX9_begins_29 sh_35 fX9_22_1 rfl ?_
      refine xx_iconst (pc := 32) dX9_begins_32 cc_iconst_1 ?_
      refine xx_iaddN (pc := 33) dX9_begins_33 ?_
      refine xx_eqI (y := nI (W 114 36 + 1)) (by rw [ew3, wu_o _ _ _ _ (by omega), a3_]) ?_
      refine xx_putN (pc := 34) dX9_begins_34 sh_35 fX9_22_1 rfl rfl ?_
      refine xx_nw (fun w4 ew4 => ?_)
      exact xx_vret (pc := 37) dX9_begins_37 rfl (Nat.le_refl _) (Nat.le_refl _) (ic_rv0 ⟨w4, rfl, fun a h1 h2 => by rw [ew4, wu_row _ _ _ h1, ew3, wu_row _ _ _ h2], by rw [ew4, ew3, a3_]; exact hA.log (by omega) (by omega)⟩)
    · exact xx_vret (pc := 16) dX9_begins_16 rfl (Nat.le_refl _) (Nat.le_refl _) (ic_rv0 ⟨w, rfl, fun _ _ _ => rfl, hA.skip (by omega)⟩)

set_option maxHeartbeats 4000000 in
set_option maxRecDepth 100000 in
theorem cC_begins_5 {l : Launch} {E : ic_E} {w : ic_w} {W : ic_w} {c : Nat} (hc : c < 2 ^ 32) (hA : Ca w W 5) : ic_C l E mX9_begins 1 0 0 False [ic_pt E 37, .int (nI c)] SHs (hn w) SHs (ic_qv (fun h_ => ∃ w2, h_ = hn w2 ∧ (∀ a, a ≠ 37 → a ≠ 38 → w2 a = w a) ∧ Ca w2 (mo_cl W [c]) 5)) := by
  refine ic_intro (by decide +kernel) (Nat.le_of_ble_eq_true rfl) ?_
  show xx l E _ _ 0 [(0, ic_pt E 37), (1, .int (nI c))] _ _ _
  have a0_ : w 37 0 = W 114 38 := hA.1.1
  have a1_ : w 37 1 = W 114 39 := hA.1.2.1
  have a3_ : w 37 3 = W 114 36 := hA.1.2.2.1
  have a4_ : w 37 4 = W 114 40 := hA.1.2.2.2
  have b_ := hA.2.1
  refine xx_aload_nP (pc := 0) dX9_begins_0 0 rfl rfl ?_
  refine xx_getN (pc := 1) dX9_begins_1 sh_37 fX9_25_0 rfl ?_
  refine xx_if_neN (pc := 4) 16 dX9_begins_4 rfl (by omega) (fun c1 => ?_) (fun c1 => ?_)
  · exact xx_vret (pc := 16) dX9_begins_16 rfl (Nat.le_refl _) (Nat.le_refl _) (ic_rv0 ⟨w, rfl, fun _ _ _ => rfl, hA.skip (by omega)⟩)
  · refine xx_aload_nP (pc := 7) dX9_begins_7 0 rfl rfl ?_
    refine xx_getN (pc := 8) dX9_begins_8 sh_37 fX9_22_0 rfl ?_
    refine xx_bipush (pc := 11) dX9_begins_11 cc_bipush_30 ?_
    refine xx_icmp_ltN (pc := 13) 17 dX9_begins_13 rfl (by omega) (by omega) (fun c2 => ?_) (fun c2 => ?_)
    · refine xx_aload_nP (pc := 17) dX9_begins_17 0 rfl rfl ?_
      refine xx_getR (pc := 18) 38 dX9_begins_18 sh_37 fX9_9_0 rfl rfl (by decide) ?_
      refine xx_aload_nP (pc := 21) dX9_begins_21 0 rfl rfl ?_
      refine xx_getN (pc := 22) dX9_begins_22 sh_37 fX9_22_0 rfl ?_
      refine xx_iload_n (pc := 25) dX9_begins_25 1 rfl rfl ?_
      refine xx_iastN (pc := 26) dX9_begins_26 sh_38 (by omega) (by decide) ?_
      refine xx_nw (fun w3 ew3 => ?_)
      refine xx_aload_nP (pc := 27) dX9_begins_27 0 rfl rfl ?_
      refine xx_dup (pc := 28) dX9_begins_28 rfl ?_
      refine xx_getN (pc := 29) dX9_begins_29 sh_37 fX9_22_0 rfl ?_
      refine xx_iconst (pc := 32) dX9_begins_32 cc_iconst_1 ?_
      refine xx_iaddN (pc := 33) dX9_begins_33 ?_
      refine xx_eqI (y := nI (W 114 36 + 1)) (by rw [ew3, wu_o _ _ _ _ (by omega), a3_]) ?_
      refine xx_putN (pc := 34) dX9_begins_34 sh_37 fX9_22_0 rfl rfl ?_
      refine xx_nw (fun w4 ew4 => ?_)
      exact xx_vret (pc := 37) dX9_begins_37 rfl (Nat.le_refl _) (Nat.le_refl _) (ic_rv0 ⟨w4, rfl, fun a h1 h2 => by rw [ew4, wu_row _ _ _ h1, ew3, wu_row _ _ _ h2], by rw [ew4, ew3, a3_]; exact hA.log (by omega) (by omega)⟩)
    · exact xx_vret (pc := 16) dX9_begins_16 rfl (Nat.le_refl _) (Nat.le_refl _) (ic_rv0 ⟨w, rfl, fun _ _ _ => rfl, hA.skip (by omega)⟩)

set_option maxHeartbeats 4000000 in
set_option maxRecDepth 100000 in
theorem cC_standsP_1 {l : Launch} {E : ic_E} {w : ic_w} {W : ic_w} {x : Nat} (hA : Ca w W 1) : ic_C l E mX9_stands 2 0 0 False [ic_pt E 29, .int (nI x)] SHs (hn w) SHs (ic_qi (fun v_ h_ => v_ = nI (mo_sp (W 114 38) x) ∧ ∃ w2, h_ = hn w2 ∧ (∀ a, a ≠ 29 → a ≠ 30 → w2 a = w a) ∧ Ca w2 (mo_cl W [10]) 1)) := by
  refine ic_intro (by decide +kernel) (Nat.le_of_ble_eq_true rfl) ?_
  show xx l E _ _ 0 [(0, ic_pt E 29), (1, .int (nI x))] _ _ _
  have a0_ : w 29 0 = W 114 38 := hA.1.1
  have a1_ : w 29 1 = W 114 39 := hA.1.2.1
  have a3_ : w 29 3 = W 114 36 := hA.1.2.2.1
  have a4_ : w 29 4 = W 114 40 := hA.1.2.2.2
  have b_ := hA.2.1
  refine xx_aload_nP (pc := 0) dX9_stands_0 0 rfl rfl ?_
  refine xx_bipush (pc := 1) dX9_stands_1 cc_bipush_10 ?_
  refine xx_callU0 (pc := 3) (st := []) sh_29 (cC_begins_1 (w := w) (W := W) (c := 10) (by omega) hA) kX9_begins uX9_29_7 dX9_stands_3 rfl rfl (Nat.le_of_ble_eq_true rfl) ⟨Nat.le_of_ble_eq_true rfl, Nat.le_of_ble_eq_true rfl⟩ ⟨Nat.zero_le _, Nat.zero_le _⟩ (ic_kv (fun h_ qw1 => ?_))
  obtain ⟨w1, rfl, f_w1, hA_w1⟩ := qw1
  have g_w1 : ∀ a, a ≠ 29 → a ≠ 30 → w1 a = w a := fun a h1 h2 => (f_w1 a h1 h2).trans rfl
  have s_w1 : ∀ j, j ≠ 36 → j ≠ 40 → (mo_cl W [10]) 114 j = W 114 j := fun j h1 h2 => (mo_cl_f _ _ h1).trans rfl
  have z_w1 : (mo_cl W [10]) 114 40 = W 114 40 := (mo_cl_f _ _ (by omega)).trans rfl
  have a0_w1 : w1 29 0 = W 114 38 := hA_w1.1.1.trans (s_w1 38 (by omega) (by omega))
  have a1_w1 : w1 29 1 = W 114 39 := hA_w1.1.2.1.trans (s_w1 39 (by omega) (by omega))
  refine xx_iload_n (pc := 6) dX9_stands_6 1 rfl rfl ?_
  refine xx_iconst (pc := 7) dX9_stands_7 cc_iconst_5 ?_
  refine xx_imulN (pc := 8) dX9_stands_8 ?_
  refine xx_aload_nP (pc := 9) dX9_stands_9 0 rfl rfl ?_
  refine xx_getN (pc := 10) dX9_stands_10 sh_29 fX9_15_7 rfl ?_
  refine xx_eqI (y := nI (W 114 38)) (by rw [a0_w1]) ?_
  refine xx_isubM (pc := 13) dX9_stands_13 ?_
  exact xx_iret (pc := 14) dX9_stands_14 rfl (rfl) (Nat.le_refl _) (Nat.le_refl _) (ic_ri ⟨rfl, w1, rfl, g_w1, hA_w1⟩)

set_option maxHeartbeats 4000000 in
set_option maxRecDepth 100000 in
theorem cC_standsP_2 {l : Launch} {E : ic_E} {w : ic_w} {W : ic_w} {x : Nat} (hA : Ca w W 2) : ic_C l E mX9_stands 2 0 0 False [ic_pt E 31, .int (nI x)] SHs (hn w) SHs (ic_qi (fun v_ h_ => v_ = nI (mo_sp (W 114 38) x) ∧ ∃ w2, h_ = hn w2 ∧ (∀ a, a ≠ 31 → a ≠ 32 → w2 a = w a) ∧ Ca w2 (mo_cl W [10]) 2)) := by
  refine ic_intro (by decide +kernel) (Nat.le_of_ble_eq_true rfl) ?_
  show xx l E _ _ 0 [(0, ic_pt E 31), (1, .int (nI x))] _ _ _
  have a0_ : w 31 0 = W 114 38 := hA.1.1
  have a1_ : w 31 1 = W 114 39 := hA.1.2.1
  have a3_ : w 31 3 = W 114 36 := hA.1.2.2.1
  have a4_ : w 31 4 = W 114 40 := hA.1.2.2.2
  have b_ := hA.2.1
  refine xx_aload_nP (pc := 0) dX9_stands_0 0 rfl rfl ?_
  refine xx_bipush (pc := 1) dX9_stands_1 cc_bipush_10 ?_
  refine xx_callU0 (pc := 3) (st := []) sh_31 (cC_begins_2 (w := w) (W := W) (c := 10) (by omega) hA) kX9_begins uX9_29_3 dX9_stands_3 rfl rfl (Nat.le_of_ble_eq_true rfl) ⟨Nat.le_of_ble_eq_true rfl, Nat.le_of_ble_eq_true rfl⟩ ⟨Nat.zero_le _, Nat.zero_le _⟩ (ic_kv (fun h_ qw1 => ?_))
  obtain ⟨w1, rfl, f_w1, hA_w1⟩ := qw1
  have g_w1 : ∀ a, a ≠ 31 → a ≠ 32 → w1 a = w a := fun a h1 h2 => (f_w1 a h1 h2).trans rfl
  have s_w1 : ∀ j, j ≠ 36 → j ≠ 40 → (mo_cl W [10]) 114 j = W 114 j := fun j h1 h2 => (mo_cl_f _ _ h1).trans rfl
  have z_w1 : (mo_cl W [10]) 114 40 = W 114 40 := (mo_cl_f _ _ (by omega)).trans rfl
  have a0_w1 : w1 31 0 = W 114 38 := hA_w1.1.1.trans (s_w1 38 (by omega) (by omega))
  have a1_w1 : w1 31 1 = W 114 39 := hA_w1.1.2.1.trans (s_w1 39 (by omega) (by omega))
  refine xx_iload_n (pc := 6) dX9_stands_6 1 rfl rfl ?_
  refine xx_iconst (pc := 7) dX9_stands_7 cc_iconst_5 ?_
  refine xx_imulN (pc := 8) dX9_stands_8 ?_
  refine xx_aload_nP (pc := 9) dX9_stands_9 0 rfl rfl ?_
  refine xx_getN (pc := 10) dX9_stands_10 sh_31 fX9_15_3 rfl ?_
  refine xx_eqI (y := nI (W 114 38)) (by rw [a0_w1]) ?_
  refine xx_isubM (pc := 13) dX9_stands_13 ?_
  exact xx_iret (pc := 14) dX9_stands_14 rfl (rfl) (Nat.le_refl _) (Nat.le_refl _) (ic_ri ⟨rfl, w1, rfl, g_w1, hA_w1⟩)

set_option maxHeartbeats 4000000 in
set_option maxRecDepth 100000 in
theorem cC_standsP_3 {l : Launch} {E : ic_E} {w : ic_w} {W : ic_w} {x : Nat} (hA : Ca w W 3) : ic_C l E mX9_stands 2 0 0 False [ic_pt E 33, .int (nI x)] SHs (hn w) SHs (ic_qi (fun v_ h_ => v_ = nI (mo_sp (W 114 38) x) ∧ ∃ w2, h_ = hn w2 ∧ (∀ a, a ≠ 33 → a ≠ 34 → w2 a = w a) ∧ Ca w2 (mo_cl W [10]) 3)) := by
  refine ic_intro (by decide +kernel) (Nat.le_of_ble_eq_true rfl) ?_
  show xx l E _ _ 0 [(0, ic_pt E 33), (1, .int (nI x))] _ _ _
  have a0_ : w 33 0 = W 114 38 := hA.1.1
  have a1_ : w 33 1 = W 114 39 := hA.1.2.1
  have a3_ : w 33 3 = W 114 36 := hA.1.2.2.1
  have a4_ : w 33 4 = W 114 40 := hA.1.2.2.2
  have b_ := hA.2.1
  refine xx_aload_nP (pc := 0) dX9_stands_0 0 rfl rfl ?_
  refine xx_bipush (pc := 1) dX9_stands_1 cc_bipush_10 ?_
  refine xx_callU0 (pc := 3) (st := []) sh_33 (cC_begins_3 (w := w) (W := W) (c := 10) (by omega) hA) kX9_begins uX9_29_2 dX9_stands_3 rfl rfl (Nat.le_of_ble_eq_true rfl) ⟨Nat.le_of_ble_eq_true rfl, Nat.le_of_ble_eq_true rfl⟩ ⟨Nat.zero_le _, Nat.zero_le _⟩ (ic_kv (fun h_ qw1 => ?_))
  obtain ⟨w1, rfl, f_w1, hA_w1⟩ := qw1
  have g_w1 : ∀ a, a ≠ 33 → a ≠ 34 → w1 a = w a := fun a h1 h2 => (f_w1 a h1 h2).trans rfl
  have s_w1 : ∀ j, j ≠ 36 → j ≠ 40 → (mo_cl W [10]) 114 j = W 114 j := fun j h1 h2 => (mo_cl_f _ _ h1).trans rfl
  have z_w1 : (mo_cl W [10]) 114 40 = W 114 40 := (mo_cl_f _ _ (by omega)).trans rfl
  have a0_w1 : w1 33 0 = W 114 38 := hA_w1.1.1.trans (s_w1 38 (by omega) (by omega))
  have a1_w1 : w1 33 1 = W 114 39 := hA_w1.1.2.1.trans (s_w1 39 (by omega) (by omega))
  refine xx_iload_n (pc := 6) dX9_stands_6 1 rfl rfl ?_
  refine xx_iconst (pc := 7) dX9_stands_7 cc_iconst_5 ?_
  refine xx_imulN (pc := 8) dX9_stands_8 ?_
  refine xx_aload_nP (pc := 9) dX9_stands_9 0 rfl rfl ?_
  refine xx_getN (pc := 10) dX9_stands_10 sh_33 fX9_15_2 rfl ?_
  refine xx_eqI (y := nI (W 114 38)) (by rw [a0_w1]) ?_
  refine xx_isubM (pc := 13) dX9_stands_13 ?_
  exact xx_iret (pc := 14) dX9_stands_14 rfl (rfl) (Nat.le_refl _) (Nat.le_refl _) (ic_ri ⟨rfl, w1, rfl, g_w1, hA_w1⟩)

set_option maxHeartbeats 4000000 in
set_option maxRecDepth 100000 in
theorem cC_standsP_4 {l : Launch} {E : ic_E} {w : ic_w} {W : ic_w} {x : Nat} (hA : Ca w W 4) : ic_C l E mX9_stands 2 0 0 False [ic_pt E 35, .int (nI x)] SHs (hn w) SHs (ic_qi (fun v_ h_ => v_ = nI (mo_sp (W 114 38) x) ∧ ∃ w2, h_ = hn w2 ∧ (∀ a, a ≠ 35 → a ≠ 36 → w2 a = w a) ∧ Ca w2 (mo_cl W [10]) 4)) := by
  refine ic_intro (by decide +kernel) (Nat.le_of_ble_eq_true rfl) ?_
  show xx l E _ _ 0 [(0, ic_pt E 35), (1, .int (nI x))] _ _ _
  have a0_ : w 35 0 = W 114 38 := hA.1.1
  have a1_ : w 35 1 = W 114 39 := hA.1.2.1
  have a3_ : w 35 3 = W 114 36 := hA.1.2.2.1
  have a4_ : w 35 4 = W 114 40 := hA.1.2.2.2
  have b_ := hA.2.1
  refine xx_aload_nP (pc := 0) dX9_stands_0 0 rfl rfl ?_
  refine xx_bipush (pc := 1) dX9_stands_1 cc_bipush_10 ?_
  refine xx_callU0 (pc := 3) (st := []) sh_35 (cC_begins_4 (w := w) (W := W) (c := 10) (by omega) hA) kX9_begins uX9_29_1 dX9_stands_3 rfl rfl (Nat.le_of_ble_eq_true rfl) ⟨Nat.le_of_ble_eq_true rfl, Nat.le_of_ble_eq_true rfl⟩ ⟨Nat.zero_le _, Nat.zero_le _⟩ (ic_kv (fun h_ qw1 => ?_))
  obtain ⟨w1, rfl, f_w1, hA_w1⟩ := qw1
  have g_w1 : ∀ a, a ≠ 35 → a ≠ 36 → w1 a = w a := fun a h1 h2 => (f_w1 a h1 h2).trans rfl
  have s_w1 : ∀ j, j ≠ 36 → j ≠ 40 → (mo_cl W [10]) 114 j = W 114 j := fun j h1 h2 => (mo_cl_f _ _ h1).trans rfl
  have z_w1 : (mo_cl W [10]) 114 40 = W 114 40 := (mo_cl_f _ _ (by omega)).trans rfl
  have a0_w1 : w1 35 0 = W 114 38 := hA_w1.1.1.trans (s_w1 38 (by omega) (by omega))
  have a1_w1 : w1 35 1 = W 114 39 := hA_w1.1.2.1.trans (s_w1 39 (by omega) (by omega))
  refine xx_iload_n (pc := 6) dX9_stands_6 1 rfl rfl ?_
  refine xx_iconst (pc := 7) dX9_stands_7 cc_iconst_5 ?_
  refine xx_imulN (pc := 8) dX9_stands_8 ?_
  refine xx_aload_nP (pc := 9) dX9_stands_9 0 rfl rfl ?_
  refine xx_getN (pc := 10) dX9_stands_10 sh_35 fX9_15_1 rfl ?_
  refine xx_eqI (y := nI (W 114 38)) (by rw [a0_w1]) ?_
  refine xx_isubM (pc := 13) dX9_stands_13 ?_
  exact xx_iret (pc := 14) dX9_stands_14 rfl (rfl) (Nat.le_refl _) (Nat.le_refl _) (ic_ri ⟨rfl, w1, rfl, g_w1, hA_w1⟩)

set_option maxHeartbeats 4000000 in
set_option maxRecDepth 100000 in
theorem cC_standsP_5 {l : Launch} {E : ic_E} {w : ic_w} {W : ic_w} {x : Nat} (hA : Ca w W 5) : ic_C l E mX9_stands 2 0 0 False [ic_pt E 37, .int (nI x)] SHs (hn w) SHs (ic_qi (fun v_ h_ => v_ = nI (mo_sp (W 114 38) x) ∧ ∃ w2, h_ = hn w2 ∧ (∀ a, a ≠ 37 → a ≠ 38 → w2 a = w a) ∧ Ca w2 (mo_cl W [10]) 5)) := by
  refine ic_intro (by decide +kernel) (Nat.le_of_ble_eq_true rfl) ?_
  show xx l E _ _ 0 [(0, ic_pt E 37), (1, .int (nI x))] _ _ _
  have a0_ : w 37 0 = W 114 38 := hA.1.1
  have a1_ : w 37 1 = W 114 39 := hA.1.2.1
  have a3_ : w 37 3 = W 114 36 := hA.1.2.2.1
  have a4_ : w 37 4 = W 114 40 := hA.1.2.2.2
  have b_ := hA.2.1
  refine xx_aload_nP (pc := 0) dX9_stands_0 0 rfl rfl ?_
  refine xx_bipush (pc := 1) dX9_stands_1 cc_bipush_10 ?_
  refine xx_callU0 (pc := 3) (st := []) sh_37 (cC_begins_5 (w := w) (W := W) (c := 10) (by omega) hA) kX9_begins uX9_29_0 dX9_stands_3 rfl rfl (Nat.le_of_ble_eq_true rfl) ⟨Nat.le_of_ble_eq_true rfl, Nat.le_of_ble_eq_true rfl⟩ ⟨Nat.zero_le _, Nat.zero_le _⟩ (ic_kv (fun h_ qw1 => ?_))
  obtain ⟨w1, rfl, f_w1, hA_w1⟩ := qw1
  have g_w1 : ∀ a, a ≠ 37 → a ≠ 38 → w1 a = w a := fun a h1 h2 => (f_w1 a h1 h2).trans rfl
  have s_w1 : ∀ j, j ≠ 36 → j ≠ 40 → (mo_cl W [10]) 114 j = W 114 j := fun j h1 h2 => (mo_cl_f _ _ h1).trans rfl
  have z_w1 : (mo_cl W [10]) 114 40 = W 114 40 := (mo_cl_f _ _ (by omega)).trans rfl
  have a0_w1 : w1 37 0 = W 114 38 := hA_w1.1.1.trans (s_w1 38 (by omega) (by omega))
  have a1_w1 : w1 37 1 = W 114 39 := hA_w1.1.2.1.trans (s_w1 39 (by omega) (by omega))
  refine xx_iload_n (pc := 6) dX9_stands_6 1 rfl rfl ?_
  refine xx_iconst (pc := 7) dX9_stands_7 cc_iconst_5 ?_
  refine xx_imulN (pc := 8) dX9_stands_8 ?_
  refine xx_aload_nP (pc := 9) dX9_stands_9 0 rfl rfl ?_
  refine xx_getN (pc := 10) dX9_stands_10 sh_37 fX9_15_0 rfl ?_
  refine xx_eqI (y := nI (W 114 38)) (by rw [a0_w1]) ?_
  refine xx_isubM (pc := 13) dX9_stands_13 ?_
  exact xx_iret (pc := 14) dX9_stands_14 rfl (rfl) (Nat.le_refl _) (Nat.le_refl _) (ic_ri ⟨rfl, w1, rfl, g_w1, hA_w1⟩)

set_option maxHeartbeats 4000000 in
set_option maxRecDepth 100000 in
theorem cC_stands1_1 {l : Launch} {E : ic_E} {w : ic_w} {W : ic_w} {x : Nat} (hA : Ca w W 1) : ic_C l E mX7_stands 3 0 0 False [ic_pt E 29, .int (nI x)] SHs (hn w) SHs (ic_qi (fun v_ h_ => v_ = nI (mo_sp (W 114 38) x ^^^ 14) ∧ ∃ w2, h_ = hn w2 ∧ (∀ a, a ≠ 29 → a ≠ 30 → w2 a = w a) ∧ Ca w2 (mo_cl W [20, 10]) 1)) := by
  refine ic_intro (by decide +kernel) (Nat.le_of_ble_eq_true rfl) ?_
  show xx l E _ _ 0 [(0, ic_pt E 29), (1, .int (nI x))] _ _ _
  have a0_ : w 29 0 = W 114 38 := hA.1.1
  have a1_ : w 29 1 = W 114 39 := hA.1.2.1
  have a3_ : w 29 3 = W 114 36 := hA.1.2.2.1
  have a4_ : w 29 4 = W 114 40 := hA.1.2.2.2
  have b_ := hA.2.1
  refine xx_aload_nP (pc := 0) dX7_stands_0 0 rfl rfl ?_
  refine xx_bipush (pc := 1) dX7_stands_1 cc_bipush_20 ?_
  refine xx_callU0 (pc := 3) (st := []) sh_29 (cC_begins_1 (w := w) (W := W) (c := 20) (by omega) hA) kX9_begins uX7_7_7 dX7_stands_3 rfl rfl (Nat.le_of_ble_eq_true rfl) ⟨Nat.le_of_ble_eq_true rfl, Nat.le_of_ble_eq_true rfl⟩ ⟨Nat.zero_le _, Nat.zero_le _⟩ (ic_kv (fun h_ qw1 => ?_))
  obtain ⟨w1, rfl, f_w1, hA_w1⟩ := qw1
  have g_w1 : ∀ a, a ≠ 29 → a ≠ 30 → w1 a = w a := fun a h1 h2 => (f_w1 a h1 h2).trans rfl
  have s_w1 : ∀ j, j ≠ 36 → j ≠ 40 → (mo_cl W [20]) 114 j = W 114 j := fun j h1 h2 => (mo_cl_f _ _ h1).trans rfl
  have z_w1 : (mo_cl W [20]) 114 40 = W 114 40 := (mo_cl_f _ _ (by omega)).trans rfl
  have a0_w1 : w1 29 0 = W 114 38 := hA_w1.1.1.trans (s_w1 38 (by omega) (by omega))
  have a1_w1 : w1 29 1 = W 114 39 := hA_w1.1.2.1.trans (s_w1 39 (by omega) (by omega))
  refine xx_aload_nP (pc := 6) dX7_stands_6 0 rfl rfl ?_
  refine xx_iload_n (pc := 7) dX7_stands_7 1 rfl rfl ?_
  refine xx_callP0 (pc := 8) (st := []) sh_29 (by decide) (cC_standsP_1 (w := w1) (W := (mo_cl W [20])) (x := x) hA_w1) kX9_stands pX7_13 dX7_stands_8 rfl rfl (Nat.le_of_ble_eq_true rfl) ⟨Nat.le_of_ble_eq_true rfl, Nat.le_of_ble_eq_true rfl⟩ ⟨Nat.zero_le _, Nat.zero_le _⟩ (ic_ki (fun v_ h_ qw3 => ?_))
  obtain ⟨x_, q_⟩ := qw3
  obtain rfl : v_ = nI (mo_sp (W 114 38) x) := by rw [x_, s_w1 38 (by omega) (by omega)]
  obtain ⟨w3, rfl, f_w3, hA_w3⟩ := q_
  have g_w3 : ∀ a, a ≠ 29 → a ≠ 30 → w3 a = w a := fun a h1 h2 => (f_w3 a h1 h2).trans (g_w1 a h1 h2)
  have s_w3 : ∀ j, j ≠ 36 → j ≠ 40 → (mo_cl (mo_cl W [20]) [10]) 114 j = W 114 j := fun j h1 h2 => (mo_cl_f _ _ h1).trans (s_w1 j h1 h2)
  have z_w3 : (mo_cl (mo_cl W [20]) [10]) 114 40 = W 114 40 := (mo_cl_f _ _ (by omega)).trans z_w1
  have a0_w3 : w3 29 0 = W 114 38 := hA_w3.1.1.trans (s_w3 38 (by omega) (by omega))
  have a1_w3 : w3 29 1 = W 114 39 := hA_w3.1.2.1.trans (s_w3 39 (by omega) (by omega))
  refine xx_bipush (pc := 11) dX7_stands_11 cc_bipush_14 ?_
  refine xx_ixorN (pc := 13) dX7_stands_13 ?_
  exact xx_iret (pc := 14) dX7_stands_14 rfl (rfl) (Nat.le_refl _) (Nat.le_refl _) (ic_ri ⟨rfl, w3, rfl, g_w3, by have y_ := hA_w3; rw [mo_cl_a] at y_; exact y_⟩)

set_option maxHeartbeats 4000000 in
set_option maxRecDepth 100000 in
theorem cC_stands3_3 {l : Launch} {E : ic_E} {w : ic_w} {W : ic_w} {x : Nat} (hA : Ca w W 3) : ic_C l E mX2_stands 3 0 0 False [ic_pt E 33, .int (nI x)] SHs (hn w) SHs (ic_qi (fun v_ h_ => v_ = nI (mo_sp (W 114 38) (x + 11)) ∧ ∃ w2, h_ = hn w2 ∧ (∀ a, a ≠ 33 → a ≠ 34 → w2 a = w a) ∧ Ca w2 (mo_cl W [50, 10]) 3)) := by
  refine ic_intro (by decide +kernel) (Nat.le_of_ble_eq_true rfl) ?_
  show xx l E _ _ 0 [(0, ic_pt E 33), (1, .int (nI x))] _ _ _
  have a0_ : w 33 0 = W 114 38 := hA.1.1
  have a1_ : w 33 1 = W 114 39 := hA.1.2.1
  have a3_ : w 33 3 = W 114 36 := hA.1.2.2.1
  have a4_ : w 33 4 = W 114 40 := hA.1.2.2.2
  have b_ := hA.2.1
  refine xx_aload_nP (pc := 0) dX2_stands_0 0 rfl rfl ?_
  refine xx_bipush (pc := 1) dX2_stands_1 cc_bipush_50 ?_
  refine xx_callU0 (pc := 3) (st := []) sh_33 (cC_begins_3 (w := w) (W := W) (c := 50) (by omega) hA) kX9_begins uX2_15_2 dX2_stands_3 rfl rfl (Nat.le_of_ble_eq_true rfl) ⟨Nat.le_of_ble_eq_true rfl, Nat.le_of_ble_eq_true rfl⟩ ⟨Nat.zero_le _, Nat.zero_le _⟩ (ic_kv (fun h_ qw1 => ?_))
  obtain ⟨w1, rfl, f_w1, hA_w1⟩ := qw1
  have g_w1 : ∀ a, a ≠ 33 → a ≠ 34 → w1 a = w a := fun a h1 h2 => (f_w1 a h1 h2).trans rfl
  have s_w1 : ∀ j, j ≠ 36 → j ≠ 40 → (mo_cl W [50]) 114 j = W 114 j := fun j h1 h2 => (mo_cl_f _ _ h1).trans rfl
  have z_w1 : (mo_cl W [50]) 114 40 = W 114 40 := (mo_cl_f _ _ (by omega)).trans rfl
  have a0_w1 : w1 33 0 = W 114 38 := hA_w1.1.1.trans (s_w1 38 (by omega) (by omega))
  have a1_w1 : w1 33 1 = W 114 39 := hA_w1.1.2.1.trans (s_w1 39 (by omega) (by omega))
  refine xx_aload_nP (pc := 6) dX2_stands_6 0 rfl rfl ?_
  refine xx_iload_n (pc := 7) dX2_stands_7 1 rfl rfl ?_
  refine xx_bipush (pc := 8) dX2_stands_8 cc_bipush_11 ?_
  refine xx_iaddN (pc := 10) dX2_stands_10 ?_
  refine xx_callO0 (pc := 11) (st := []) sh_33 (by decide) (cC_standsP_3 (w := w1) (W := (mo_cl W [50])) (x := x + 11) hA_w1) kX9_stands oX2_21 dX2_stands_11 rfl rfl (Nat.le_of_ble_eq_true rfl) ⟨Nat.le_of_ble_eq_true rfl, Nat.le_of_ble_eq_true rfl⟩ ⟨Nat.zero_le _, Nat.zero_le _⟩ (ic_ki (fun v_ h_ qw3 => ?_))
  obtain ⟨x_, q_⟩ := qw3
  obtain rfl : v_ = nI (mo_sp (W 114 38) (x + 11)) := by rw [x_, s_w1 38 (by omega) (by omega)]
  obtain ⟨w3, rfl, f_w3, hA_w3⟩ := q_
  have g_w3 : ∀ a, a ≠ 33 → a ≠ 34 → w3 a = w a := fun a h1 h2 => (f_w3 a h1 h2).trans (g_w1 a h1 h2)
  have s_w3 : ∀ j, j ≠ 36 → j ≠ 40 → (mo_cl (mo_cl W [50]) [10]) 114 j = W 114 j := fun j h1 h2 => (mo_cl_f _ _ h1).trans (s_w1 j h1 h2)
  have z_w3 : (mo_cl (mo_cl W [50]) [10]) 114 40 = W 114 40 := (mo_cl_f _ _ (by omega)).trans z_w1
  have a0_w3 : w3 33 0 = W 114 38 := hA_w3.1.1.trans (s_w3 38 (by omega) (by omega))
  have a1_w3 : w3 33 1 = W 114 39 := hA_w3.1.2.1.trans (s_w3 39 (by omega) (by omega))
  exact xx_iret (pc := 14) dX2_stands_14 rfl (rfl) (Nat.le_refl _) (Nat.le_refl _) (ic_ri ⟨rfl, w3, rfl, g_w3, by have y_ := hA_w3; rw [mo_cl_a] at y_; exact y_⟩)

set_option maxHeartbeats 4000000 in
set_option maxRecDepth 100000 in
theorem cC_readsP_1 {l : Launch} {E : ic_E} {w : ic_w} {W : ic_w} {x : Nat} (hA : Ca w W 1) : ic_C l E mX9_reads 4 0 0 False [ic_pt E 29, .int (nI x)] SHs (hn w) SHs (ic_qi (fun v_ h_ => v_ = nI ((mo_sp (W 114 38) x ^^^ 14) + 4 * (W 114 39)) ∧ ∃ w2, h_ = hn w2 ∧ (∀ a, a ≠ 29 → a ≠ 30 → w2 a = w a) ∧ Ca w2 (mo_cl W [11, 20, 10]) 1)) := by
  refine ic_intro (by decide +kernel) (Nat.le_of_ble_eq_true rfl) ?_
  show xx l E _ _ 0 [(0, ic_pt E 29), (1, .int (nI x))] _ _ _
  have a0_ : w 29 0 = W 114 38 := hA.1.1
  have a1_ : w 29 1 = W 114 39 := hA.1.2.1
  have a3_ : w 29 3 = W 114 36 := hA.1.2.2.1
  have a4_ : w 29 4 = W 114 40 := hA.1.2.2.2
  have b_ := hA.2.1
  refine xx_aload_nP (pc := 0) dX9_reads_0 0 rfl rfl ?_
  refine xx_bipush (pc := 1) dX9_reads_1 cc_bipush_11 ?_
  refine xx_callU0 (pc := 3) (st := []) sh_29 (cC_begins_1 (w := w) (W := W) (c := 11) (by omega) hA) kX9_begins uX9_29_7 dX9_reads_3 rfl rfl (Nat.le_of_ble_eq_true rfl) ⟨Nat.le_of_ble_eq_true rfl, Nat.le_of_ble_eq_true rfl⟩ ⟨Nat.zero_le _, Nat.zero_le _⟩ (ic_kv (fun h_ qw1 => ?_))
  obtain ⟨w1, rfl, f_w1, hA_w1⟩ := qw1
  have g_w1 : ∀ a, a ≠ 29 → a ≠ 30 → w1 a = w a := fun a h1 h2 => (f_w1 a h1 h2).trans rfl
  have s_w1 : ∀ j, j ≠ 36 → j ≠ 40 → (mo_cl W [11]) 114 j = W 114 j := fun j h1 h2 => (mo_cl_f _ _ h1).trans rfl
  have z_w1 : (mo_cl W [11]) 114 40 = W 114 40 := (mo_cl_f _ _ (by omega)).trans rfl
  have a0_w1 : w1 29 0 = W 114 38 := hA_w1.1.1.trans (s_w1 38 (by omega) (by omega))
  have a1_w1 : w1 29 1 = W 114 39 := hA_w1.1.2.1.trans (s_w1 39 (by omega) (by omega))
  refine xx_aload_nP (pc := 6) dX9_reads_6 0 rfl rfl ?_
  refine xx_iload_n (pc := 7) dX9_reads_7 1 rfl rfl ?_
  refine xx_callU0 (pc := 8) (st := []) sh_29 (cC_stands1_1 (w := w1) (W := (mo_cl W [11])) (x := x) hA_w1) kX7_stands uX9_33_7 dX9_reads_8 rfl rfl (Nat.le_of_ble_eq_true rfl) ⟨Nat.le_of_ble_eq_true rfl, Nat.le_of_ble_eq_true rfl⟩ ⟨Nat.zero_le _, Nat.zero_le _⟩ (ic_ki (fun v_ h_ qw3 => ?_))
  obtain ⟨x_, q_⟩ := qw3
  obtain rfl : v_ = nI (mo_sp (W 114 38) x ^^^ 14) := by rw [x_, s_w1 38 (by omega) (by omega)]
  obtain ⟨w3, rfl, f_w3, hA_w3⟩ := q_
  have g_w3 : ∀ a, a ≠ 29 → a ≠ 30 → w3 a = w a := fun a h1 h2 => (f_w3 a h1 h2).trans (g_w1 a h1 h2)
  have s_w3 : ∀ j, j ≠ 36 → j ≠ 40 → (mo_cl (mo_cl W [11]) [20, 10]) 114 j = W 114 j := fun j h1 h2 => (mo_cl_f _ _ h1).trans (s_w1 j h1 h2)
  have z_w3 : (mo_cl (mo_cl W [11]) [20, 10]) 114 40 = W 114 40 := (mo_cl_f _ _ (by omega)).trans z_w1
  have a0_w3 : w3 29 0 = W 114 38 := hA_w3.1.1.trans (s_w3 38 (by omega) (by omega))
  have a1_w3 : w3 29 1 = W 114 39 := hA_w3.1.2.1.trans (s_w3 39 (by omega) (by omega))
  refine xx_iconst (pc := 11) dX9_reads_11 cc_iconst_4 ?_
  refine xx_aload_nP (pc := 12) dX9_reads_12 0 rfl rfl ?_
  refine xx_getN (pc := 13) dX9_reads_13 sh_29 fX9_19_7 rfl ?_
  refine xx_eqI (y := nI (W 114 39)) (by rw [a1_w3]) ?_
  refine xx_imulN (pc := 16) dX9_reads_16 ?_
  refine xx_iaddN (pc := 17) dX9_reads_17 ?_
  exact xx_iret (pc := 18) dX9_reads_18 rfl (rfl) (Nat.le_refl _) (Nat.le_refl _) (ic_ri ⟨rfl, w3, rfl, g_w3, by have y_ := hA_w3; rw [mo_cl_a] at y_; exact y_⟩)

set_option maxHeartbeats 4000000 in
set_option maxRecDepth 100000 in
theorem cC_readsP_2 {l : Launch} {E : ic_E} {w : ic_w} {W : ic_w} {x : Nat} (hA : Ca w W 2) : ic_C l E mX9_reads 4 0 0 False [ic_pt E 31, .int (nI x)] SHs (hn w) SHs (ic_qi (fun v_ h_ => v_ = nI ((mo_sp (W 114 38) x) + 4 * (W 114 39)) ∧ ∃ w2, h_ = hn w2 ∧ (∀ a, a ≠ 31 → a ≠ 32 → w2 a = w a) ∧ Ca w2 (mo_cl W [11, 10]) 2)) := by
  refine ic_intro (by decide +kernel) (Nat.le_of_ble_eq_true rfl) ?_
  show xx l E _ _ 0 [(0, ic_pt E 31), (1, .int (nI x))] _ _ _
  have a0_ : w 31 0 = W 114 38 := hA.1.1
  have a1_ : w 31 1 = W 114 39 := hA.1.2.1
  have a3_ : w 31 3 = W 114 36 := hA.1.2.2.1
  have a4_ : w 31 4 = W 114 40 := hA.1.2.2.2
  have b_ := hA.2.1
  refine xx_aload_nP (pc := 0) dX9_reads_0 0 rfl rfl ?_
  refine xx_bipush (pc := 1) dX9_reads_1 cc_bipush_11 ?_
  refine xx_callU0 (pc := 3) (st := []) sh_31 (cC_begins_2 (w := w) (W := W) (c := 11) (by omega) hA) kX9_begins uX9_29_3 dX9_reads_3 rfl rfl (Nat.le_of_ble_eq_true rfl) ⟨Nat.le_of_ble_eq_true rfl, Nat.le_of_ble_eq_true rfl⟩ ⟨Nat.zero_le _, Nat.zero_le _⟩ (ic_kv (fun h_ qw1 => ?_))
  obtain ⟨w1, rfl, f_w1, hA_w1⟩ := qw1
  have g_w1 : ∀ a, a ≠ 31 → a ≠ 32 → w1 a = w a := fun a h1 h2 => (f_w1 a h1 h2).trans rfl
  have s_w1 : ∀ j, j ≠ 36 → j ≠ 40 → (mo_cl W [11]) 114 j = W 114 j := fun j h1 h2 => (mo_cl_f _ _ h1).trans rfl
  have z_w1 : (mo_cl W [11]) 114 40 = W 114 40 := (mo_cl_f _ _ (by omega)).trans rfl
  have a0_w1 : w1 31 0 = W 114 38 := hA_w1.1.1.trans (s_w1 38 (by omega) (by omega))
  have a1_w1 : w1 31 1 = W 114 39 := hA_w1.1.2.1.trans (s_w1 39 (by omega) (by omega))
  refine xx_aload_nP (pc := 6) dX9_reads_6 0 rfl rfl ?_
  refine xx_iload_n (pc := 7) dX9_reads_7 1 rfl rfl ?_
  refine xx_callU0 (pc := 8) (st := []) sh_31 (cC_standsP_2 (w := w1) (W := (mo_cl W [11])) (x := x) hA_w1) kX9_stands uX9_33_3 dX9_reads_8 rfl rfl (Nat.le_of_ble_eq_true rfl) ⟨Nat.le_of_ble_eq_true rfl, Nat.le_of_ble_eq_true rfl⟩ ⟨Nat.zero_le _, Nat.zero_le _⟩ (ic_ki (fun v_ h_ qw3 => ?_))
  obtain ⟨x_, q_⟩ := qw3
  obtain rfl : v_ = nI (mo_sp (W 114 38) x) := by rw [x_, s_w1 38 (by omega) (by omega)]
  obtain ⟨w3, rfl, f_w3, hA_w3⟩ := q_
  have g_w3 : ∀ a, a ≠ 31 → a ≠ 32 → w3 a = w a := fun a h1 h2 => (f_w3 a h1 h2).trans (g_w1 a h1 h2)
  have s_w3 : ∀ j, j ≠ 36 → j ≠ 40 → (mo_cl (mo_cl W [11]) [10]) 114 j = W 114 j := fun j h1 h2 => (mo_cl_f _ _ h1).trans (s_w1 j h1 h2)
  have z_w3 : (mo_cl (mo_cl W [11]) [10]) 114 40 = W 114 40 := (mo_cl_f _ _ (by omega)).trans z_w1
  have a0_w3 : w3 31 0 = W 114 38 := hA_w3.1.1.trans (s_w3 38 (by omega) (by omega))
  have a1_w3 : w3 31 1 = W 114 39 := hA_w3.1.2.1.trans (s_w3 39 (by omega) (by omega))
  refine xx_iconst (pc := 11) dX9_reads_11 cc_iconst_4 ?_
  refine xx_aload_nP (pc := 12) dX9_reads_12 0 rfl rfl ?_
  refine xx_getN (pc := 13) dX9_reads_13 sh_31 fX9_19_3 rfl ?_
  refine xx_eqI (y := nI (W 114 39)) (by rw [a1_w3]) ?_
  refine xx_imulN (pc := 16) dX9_reads_16 ?_
  refine xx_iaddN (pc := 17) dX9_reads_17 ?_
  exact xx_iret (pc := 18) dX9_reads_18 rfl (rfl) (Nat.le_refl _) (Nat.le_refl _) (ic_ri ⟨rfl, w3, rfl, g_w3, by have y_ := hA_w3; rw [mo_cl_a] at y_; exact y_⟩)

set_option maxHeartbeats 4000000 in
set_option maxRecDepth 100000 in
theorem cC_readsP_3 {l : Launch} {E : ic_E} {w : ic_w} {W : ic_w} {x : Nat} (hA : Ca w W 3) : ic_C l E mX9_reads 4 0 0 False [ic_pt E 33, .int (nI x)] SHs (hn w) SHs (ic_qi (fun v_ h_ => v_ = nI ((mo_sp (W 114 38) (x + 11)) + 4 * (W 114 39)) ∧ ∃ w2, h_ = hn w2 ∧ (∀ a, a ≠ 33 → a ≠ 34 → w2 a = w a) ∧ Ca w2 (mo_cl W [11, 50, 10]) 3)) := by
  refine ic_intro (by decide +kernel) (Nat.le_of_ble_eq_true rfl) ?_
  show xx l E _ _ 0 [(0, ic_pt E 33), (1, .int (nI x))] _ _ _
  have a0_ : w 33 0 = W 114 38 := hA.1.1
  have a1_ : w 33 1 = W 114 39 := hA.1.2.1
  have a3_ : w 33 3 = W 114 36 := hA.1.2.2.1
  have a4_ : w 33 4 = W 114 40 := hA.1.2.2.2
  have b_ := hA.2.1
  refine xx_aload_nP (pc := 0) dX9_reads_0 0 rfl rfl ?_
  refine xx_bipush (pc := 1) dX9_reads_1 cc_bipush_11 ?_
  refine xx_callU0 (pc := 3) (st := []) sh_33 (cC_begins_3 (w := w) (W := W) (c := 11) (by omega) hA) kX9_begins uX9_29_2 dX9_reads_3 rfl rfl (Nat.le_of_ble_eq_true rfl) ⟨Nat.le_of_ble_eq_true rfl, Nat.le_of_ble_eq_true rfl⟩ ⟨Nat.zero_le _, Nat.zero_le _⟩ (ic_kv (fun h_ qw1 => ?_))
  obtain ⟨w1, rfl, f_w1, hA_w1⟩ := qw1
  have g_w1 : ∀ a, a ≠ 33 → a ≠ 34 → w1 a = w a := fun a h1 h2 => (f_w1 a h1 h2).trans rfl
  have s_w1 : ∀ j, j ≠ 36 → j ≠ 40 → (mo_cl W [11]) 114 j = W 114 j := fun j h1 h2 => (mo_cl_f _ _ h1).trans rfl
  have z_w1 : (mo_cl W [11]) 114 40 = W 114 40 := (mo_cl_f _ _ (by omega)).trans rfl
  have a0_w1 : w1 33 0 = W 114 38 := hA_w1.1.1.trans (s_w1 38 (by omega) (by omega))
  have a1_w1 : w1 33 1 = W 114 39 := hA_w1.1.2.1.trans (s_w1 39 (by omega) (by omega))
  refine xx_aload_nP (pc := 6) dX9_reads_6 0 rfl rfl ?_
  refine xx_iload_n (pc := 7) dX9_reads_7 1 rfl rfl ?_
  refine xx_callU0 (pc := 8) (st := []) sh_33 (cC_stands3_3 (w := w1) (W := (mo_cl W [11])) (x := x) hA_w1) kX2_stands uX9_33_2 dX9_reads_8 rfl rfl (Nat.le_of_ble_eq_true rfl) ⟨Nat.le_of_ble_eq_true rfl, Nat.le_of_ble_eq_true rfl⟩ ⟨Nat.zero_le _, Nat.zero_le _⟩ (ic_ki (fun v_ h_ qw3 => ?_))
  obtain ⟨x_, q_⟩ := qw3
  obtain rfl : v_ = nI (mo_sp (W 114 38) (x + 11)) := by rw [x_, s_w1 38 (by omega) (by omega)]
  obtain ⟨w3, rfl, f_w3, hA_w3⟩ := q_
  have g_w3 : ∀ a, a ≠ 33 → a ≠ 34 → w3 a = w a := fun a h1 h2 => (f_w3 a h1 h2).trans (g_w1 a h1 h2)
  have s_w3 : ∀ j, j ≠ 36 → j ≠ 40 → (mo_cl (mo_cl W [11]) [50, 10]) 114 j = W 114 j := fun j h1 h2 => (mo_cl_f _ _ h1).trans (s_w1 j h1 h2)
  have z_w3 : (mo_cl (mo_cl W [11]) [50, 10]) 114 40 = W 114 40 := (mo_cl_f _ _ (by omega)).trans z_w1
  have a0_w3 : w3 33 0 = W 114 38 := hA_w3.1.1.trans (s_w3 38 (by omega) (by omega))
  have a1_w3 : w3 33 1 = W 114 39 := hA_w3.1.2.1.trans (s_w3 39 (by omega) (by omega))
  refine xx_iconst (pc := 11) dX9_reads_11 cc_iconst_4 ?_
  refine xx_aload_nP (pc := 12) dX9_reads_12 0 rfl rfl ?_
  refine xx_getN (pc := 13) dX9_reads_13 sh_33 fX9_19_2 rfl ?_
  refine xx_eqI (y := nI (W 114 39)) (by rw [a1_w3]) ?_
  refine xx_imulN (pc := 16) dX9_reads_16 ?_
  refine xx_iaddN (pc := 17) dX9_reads_17 ?_
  exact xx_iret (pc := 18) dX9_reads_18 rfl (rfl) (Nat.le_refl _) (Nat.le_refl _) (ic_ri ⟨rfl, w3, rfl, g_w3, by have y_ := hA_w3; rw [mo_cl_a] at y_; exact y_⟩)

set_option maxHeartbeats 4000000 in
set_option maxRecDepth 100000 in
theorem cC_readsP_4 {l : Launch} {E : ic_E} {w : ic_w} {W : ic_w} {x : Nat} (hA : Ca w W 4) : ic_C l E mX9_reads 4 0 0 False [ic_pt E 35, .int (nI x)] SHs (hn w) SHs (ic_qi (fun v_ h_ => v_ = nI ((mo_sp (W 114 38) x) + 4 * (W 114 39)) ∧ ∃ w2, h_ = hn w2 ∧ (∀ a, a ≠ 35 → a ≠ 36 → w2 a = w a) ∧ Ca w2 (mo_cl W [11, 10]) 4)) := by
  refine ic_intro (by decide +kernel) (Nat.le_of_ble_eq_true rfl) ?_
  show xx l E _ _ 0 [(0, ic_pt E 35), (1, .int (nI x))] _ _ _
  have a0_ : w 35 0 = W 114 38 := hA.1.1
  have a1_ : w 35 1 = W 114 39 := hA.1.2.1
  have a3_ : w 35 3 = W 114 36 := hA.1.2.2.1
  have a4_ : w 35 4 = W 114 40 := hA.1.2.2.2
  have b_ := hA.2.1
  refine xx_aload_nP (pc := 0) dX9_reads_0 0 rfl rfl ?_
  refine xx_bipush (pc := 1) dX9_reads_1 cc_bipush_11 ?_
  refine xx_callU0 (pc := 3) (st := []) sh_35 (cC_begins_4 (w := w) (W := W) (c := 11) (by omega) hA) kX9_begins uX9_29_1 dX9_reads_3 rfl rfl (Nat.le_of_ble_eq_true rfl) ⟨Nat.le_of_ble_eq_true rfl, Nat.le_of_ble_eq_true rfl⟩ ⟨Nat.zero_le _, Nat.zero_le _⟩ (ic_kv (fun h_ qw1 => ?_))
  obtain ⟨w1, rfl, f_w1, hA_w1⟩ := qw1
  have g_w1 : ∀ a, a ≠ 35 → a ≠ 36 → w1 a = w a := fun a h1 h2 => (f_w1 a h1 h2).trans rfl
  have s_w1 : ∀ j, j ≠ 36 → j ≠ 40 → (mo_cl W [11]) 114 j = W 114 j := fun j h1 h2 => (mo_cl_f _ _ h1).trans rfl
  have z_w1 : (mo_cl W [11]) 114 40 = W 114 40 := (mo_cl_f _ _ (by omega)).trans rfl
  have a0_w1 : w1 35 0 = W 114 38 := hA_w1.1.1.trans (s_w1 38 (by omega) (by omega))
  have a1_w1 : w1 35 1 = W 114 39 := hA_w1.1.2.1.trans (s_w1 39 (by omega) (by omega))
  refine xx_aload_nP (pc := 6) dX9_reads_6 0 rfl rfl ?_
  refine xx_iload_n (pc := 7) dX9_reads_7 1 rfl rfl ?_
  refine xx_callU0 (pc := 8) (st := []) sh_35 (cC_standsP_4 (w := w1) (W := (mo_cl W [11])) (x := x) hA_w1) kX9_stands uX9_33_1 dX9_reads_8 rfl rfl (Nat.le_of_ble_eq_true rfl) ⟨Nat.le_of_ble_eq_true rfl, Nat.le_of_ble_eq_true rfl⟩ ⟨Nat.zero_le _, Nat.zero_le _⟩ (ic_ki (fun v_ h_ qw3 => ?_))
  obtain ⟨x_, q_⟩ := qw3
  obtain rfl : v_ = nI (mo_sp (W 114 38) x) := by rw [x_, s_w1 38 (by omega) (by omega)]
  obtain ⟨w3, rfl, f_w3, hA_w3⟩ := q_
  have g_w3 : ∀ a, a ≠ 35 → a ≠ 36 → w3 a = w a := fun a h1 h2 => (f_w3 a h1 h2).trans (g_w1 a h1 h2)
  have s_w3 : ∀ j, j ≠ 36 → j ≠ 40 → (mo_cl (mo_cl W [11]) [10]) 114 j = W 114 j := fun j h1 h2 => (mo_cl_f _ _ h1).trans (s_w1 j h1 h2)
  have z_w3 : (mo_cl (mo_cl W [11]) [10]) 114 40 = W 114 40 := (mo_cl_f _ _ (by omega)).trans z_w1
  have a0_w3 : w3 35 0 = W 114 38 := hA_w3.1.1.trans (s_w3 38 (by omega) (by omega))
  have a1_w3 : w3 35 1 = W 114 39 := hA_w3.1.2.1.trans (s_w3 39 (by omega) (by omega))
  refine xx_iconst (pc := 11) dX9_reads_11 cc_iconst_4 ?_
  refine xx_aload_nP (pc := 12) dX9_reads_12 0 rfl rfl ?_
  refine xx_getN (pc := 13) dX9_reads_13 sh_35 fX9_19_1 rfl ?_
  refine xx_eqI (y := nI (W 114 39)) (by rw [a1_w3]) ?_
  refine xx_imulN (pc := 16) dX9_reads_16 ?_
  refine xx_iaddN (pc := 17) dX9_reads_17 ?_
  exact xx_iret (pc := 18) dX9_reads_18 rfl (rfl) (Nat.le_refl _) (Nat.le_refl _) (ic_ri ⟨rfl, w3, rfl, g_w3, by have y_ := hA_w3; rw [mo_cl_a] at y_; exact y_⟩)

set_option maxHeartbeats 4000000 in
set_option maxRecDepth 100000 in
theorem cC_readsP_5 {l : Launch} {E : ic_E} {w : ic_w} {W : ic_w} {x : Nat} (hA : Ca w W 5) : ic_C l E mX9_reads 4 0 0 False [ic_pt E 37, .int (nI x)] SHs (hn w) SHs (ic_qi (fun v_ h_ => v_ = nI ((mo_sp (W 114 38) x) + 4 * (W 114 39)) ∧ ∃ w2, h_ = hn w2 ∧ (∀ a, a ≠ 37 → a ≠ 38 → w2 a = w a) ∧ Ca w2 (mo_cl W [11, 10]) 5)) := by
  refine ic_intro (by decide +kernel) (Nat.le_of_ble_eq_true rfl) ?_
  show xx l E _ _ 0 [(0, ic_pt E 37), (1, .int (nI x))] _ _ _
  have a0_ : w 37 0 = W 114 38 := hA.1.1
  have a1_ : w 37 1 = W 114 39 := hA.1.2.1
  have a3_ : w 37 3 = W 114 36 := hA.1.2.2.1
  have a4_ : w 37 4 = W 114 40 := hA.1.2.2.2
  have b_ := hA.2.1
  refine xx_aload_nP (pc := 0) dX9_reads_0 0 rfl rfl ?_
  refine xx_bipush (pc := 1) dX9_reads_1 cc_bipush_11 ?_
  refine xx_callU0 (pc := 3) (st := []) sh_37 (cC_begins_5 (w := w) (W := W) (c := 11) (by omega) hA) kX9_begins uX9_29_0 dX9_reads_3 rfl rfl (Nat.le_of_ble_eq_true rfl) ⟨Nat.le_of_ble_eq_true rfl, Nat.le_of_ble_eq_true rfl⟩ ⟨Nat.zero_le _, Nat.zero_le _⟩ (ic_kv (fun h_ qw1 => ?_))
  obtain ⟨w1, rfl, f_w1, hA_w1⟩ := qw1
  have g_w1 : ∀ a, a ≠ 37 → a ≠ 38 → w1 a = w a := fun a h1 h2 => (f_w1 a h1 h2).trans rfl
  have s_w1 : ∀ j, j ≠ 36 → j ≠ 40 → (mo_cl W [11]) 114 j = W 114 j := fun j h1 h2 => (mo_cl_f _ _ h1).trans rfl
  have z_w1 : (mo_cl W [11]) 114 40 = W 114 40 := (mo_cl_f _ _ (by omega)).trans rfl
  have a0_w1 : w1 37 0 = W 114 38 := hA_w1.1.1.trans (s_w1 38 (by omega) (by omega))
  have a1_w1 : w1 37 1 = W 114 39 := hA_w1.1.2.1.trans (s_w1 39 (by omega) (by omega))
  refine xx_aload_nP (pc := 6) dX9_reads_6 0 rfl rfl ?_
  refine xx_iload_n (pc := 7) dX9_reads_7 1 rfl rfl ?_
  refine xx_callU0 (pc := 8) (st := []) sh_37 (cC_standsP_5 (w := w1) (W := (mo_cl W [11])) (x := x) hA_w1) kX9_stands uX9_33_0 dX9_reads_8 rfl rfl (Nat.le_of_ble_eq_true rfl) ⟨Nat.le_of_ble_eq_true rfl, Nat.le_of_ble_eq_true rfl⟩ ⟨Nat.zero_le _, Nat.zero_le _⟩ (ic_ki (fun v_ h_ qw3 => ?_))
  obtain ⟨x_, q_⟩ := qw3
  obtain rfl : v_ = nI (mo_sp (W 114 38) x) := by rw [x_, s_w1 38 (by omega) (by omega)]
  obtain ⟨w3, rfl, f_w3, hA_w3⟩ := q_
  have g_w3 : ∀ a, a ≠ 37 → a ≠ 38 → w3 a = w a := fun a h1 h2 => (f_w3 a h1 h2).trans (g_w1 a h1 h2)
  have s_w3 : ∀ j, j ≠ 36 → j ≠ 40 → (mo_cl (mo_cl W [11]) [10]) 114 j = W 114 j := fun j h1 h2 => (mo_cl_f _ _ h1).trans (s_w1 j h1 h2)
  have z_w3 : (mo_cl (mo_cl W [11]) [10]) 114 40 = W 114 40 := (mo_cl_f _ _ (by omega)).trans z_w1
  have a0_w3 : w3 37 0 = W 114 38 := hA_w3.1.1.trans (s_w3 38 (by omega) (by omega))
  have a1_w3 : w3 37 1 = W 114 39 := hA_w3.1.2.1.trans (s_w3 39 (by omega) (by omega))
  refine xx_iconst (pc := 11) dX9_reads_11 cc_iconst_4 ?_
  refine xx_aload_nP (pc := 12) dX9_reads_12 0 rfl rfl ?_
  refine xx_getN (pc := 13) dX9_reads_13 sh_37 fX9_19_0 rfl ?_
  refine xx_eqI (y := nI (W 114 39)) (by rw [a1_w3]) ?_
  refine xx_imulN (pc := 16) dX9_reads_16 ?_
  refine xx_iaddN (pc := 17) dX9_reads_17 ?_
  exact xx_iret (pc := 18) dX9_reads_18 rfl (rfl) (Nat.le_refl _) (Nat.le_refl _) (ic_ri ⟨rfl, w3, rfl, g_w3, by have y_ := hA_w3; rw [mo_cl_a] at y_; exact y_⟩)

set_option maxHeartbeats 4000000 in
set_option maxRecDepth 100000 in
theorem cC_readsL_2 {l : Launch} {E : ic_E} {w : ic_w} {W : ic_w} {x : Nat} (hA : Ca w W 2) : ic_C l E mX3_reads 5 0 0 False [ic_pt E 31, .int (nI x)] SHs (hn w) SHs (ic_qi (fun v_ h_ => v_ = nI (((mo_sp (W 114 38) x) + 4 * (W 114 39)) * 3) ∧ ∃ w2, h_ = hn w2 ∧ (∀ a, a ≠ 31 → a ≠ 32 → w2 a = w a) ∧ Ca w2 (mo_cl W [30, 11, 10]) 2)) := by
  refine ic_intro (by decide +kernel) (Nat.le_of_ble_eq_true rfl) ?_
  show xx l E _ _ 0 [(0, ic_pt E 31), (1, .int (nI x))] _ _ _
  have a0_ : w 31 0 = W 114 38 := hA.1.1
  have a1_ : w 31 1 = W 114 39 := hA.1.2.1
  have a3_ : w 31 3 = W 114 36 := hA.1.2.2.1
  have a4_ : w 31 4 = W 114 40 := hA.1.2.2.2
  have b_ := hA.2.1
  refine xx_aload_nP (pc := 0) dX3_reads_0 0 rfl rfl ?_
  refine xx_bipush (pc := 1) dX3_reads_1 cc_bipush_30 ?_
  refine xx_callU0 (pc := 3) (st := []) sh_31 (cC_begins_2 (w := w) (W := W) (c := 30) (by omega) hA) kX9_begins uX3_11_3 dX3_reads_3 rfl rfl (Nat.le_of_ble_eq_true rfl) ⟨Nat.le_of_ble_eq_true rfl, Nat.le_of_ble_eq_true rfl⟩ ⟨Nat.zero_le _, Nat.zero_le _⟩ (ic_kv (fun h_ qw1 => ?_))
  obtain ⟨w1, rfl, f_w1, hA_w1⟩ := qw1
  have g_w1 : ∀ a, a ≠ 31 → a ≠ 32 → w1 a = w a := fun a h1 h2 => (f_w1 a h1 h2).trans rfl
  have s_w1 : ∀ j, j ≠ 36 → j ≠ 40 → (mo_cl W [30]) 114 j = W 114 j := fun j h1 h2 => (mo_cl_f _ _ h1).trans rfl
  have z_w1 : (mo_cl W [30]) 114 40 = W 114 40 := (mo_cl_f _ _ (by omega)).trans rfl
  have a0_w1 : w1 31 0 = W 114 38 := hA_w1.1.1.trans (s_w1 38 (by omega) (by omega))
  have a1_w1 : w1 31 1 = W 114 39 := hA_w1.1.2.1.trans (s_w1 39 (by omega) (by omega))
  refine xx_aload_nP (pc := 6) dX3_reads_6 0 rfl rfl ?_
  refine xx_iload_n (pc := 7) dX3_reads_7 1 rfl rfl ?_
  refine xx_callP0 (pc := 8) (st := []) sh_31 (by decide) (cC_readsP_2 (w := w1) (W := (mo_cl W [30])) (x := x) hA_w1) kX9_reads pX3_17 dX3_reads_8 rfl rfl (Nat.le_of_ble_eq_true rfl) ⟨Nat.le_of_ble_eq_true rfl, Nat.le_of_ble_eq_true rfl⟩ ⟨Nat.zero_le _, Nat.zero_le _⟩ (ic_ki (fun v_ h_ qw3 => ?_))
  obtain ⟨x_, q_⟩ := qw3
  obtain rfl : v_ = nI ((mo_sp (W 114 38) x) + 4 * (W 114 39)) := by rw [x_, s_w1 38 (by omega) (by omega), s_w1 39 (by omega) (by omega)]
  obtain ⟨w3, rfl, f_w3, hA_w3⟩ := q_
  have g_w3 : ∀ a, a ≠ 31 → a ≠ 32 → w3 a = w a := fun a h1 h2 => (f_w3 a h1 h2).trans (g_w1 a h1 h2)
  have s_w3 : ∀ j, j ≠ 36 → j ≠ 40 → (mo_cl (mo_cl W [30]) [11, 10]) 114 j = W 114 j := fun j h1 h2 => (mo_cl_f _ _ h1).trans (s_w1 j h1 h2)
  have z_w3 : (mo_cl (mo_cl W [30]) [11, 10]) 114 40 = W 114 40 := (mo_cl_f _ _ (by omega)).trans z_w1
  have a0_w3 : w3 31 0 = W 114 38 := hA_w3.1.1.trans (s_w3 38 (by omega) (by omega))
  have a1_w3 : w3 31 1 = W 114 39 := hA_w3.1.2.1.trans (s_w3 39 (by omega) (by omega))
  refine xx_iconst (pc := 11) dX3_reads_11 cc_iconst_3 ?_
  refine xx_imulN (pc := 12) dX3_reads_12 ?_
  exact xx_iret (pc := 13) dX3_reads_13 rfl (rfl) (Nat.le_refl _) (Nat.le_refl _) (ic_ri ⟨rfl, w3, rfl, g_w3, by have y_ := hA_w3; rw [mo_cl_a] at y_; exact y_⟩)

set_option maxHeartbeats 4000000 in
set_option maxRecDepth 100000 in
theorem cC_readsL_3 {l : Launch} {E : ic_E} {w : ic_w} {W : ic_w} {x : Nat} (hA : Ca w W 3) : ic_C l E mX3_reads 5 0 0 False [ic_pt E 33, .int (nI x)] SHs (hn w) SHs (ic_qi (fun v_ h_ => v_ = nI (((mo_sp (W 114 38) (x + 11)) + 4 * (W 114 39)) * 3) ∧ ∃ w2, h_ = hn w2 ∧ (∀ a, a ≠ 33 → a ≠ 34 → w2 a = w a) ∧ Ca w2 (mo_cl W [30, 11, 50, 10]) 3)) := by
  refine ic_intro (by decide +kernel) (Nat.le_of_ble_eq_true rfl) ?_
  show xx l E _ _ 0 [(0, ic_pt E 33), (1, .int (nI x))] _ _ _
  have a0_ : w 33 0 = W 114 38 := hA.1.1
  have a1_ : w 33 1 = W 114 39 := hA.1.2.1
  have a3_ : w 33 3 = W 114 36 := hA.1.2.2.1
  have a4_ : w 33 4 = W 114 40 := hA.1.2.2.2
  have b_ := hA.2.1
  refine xx_aload_nP (pc := 0) dX3_reads_0 0 rfl rfl ?_
  refine xx_bipush (pc := 1) dX3_reads_1 cc_bipush_30 ?_
  refine xx_callU0 (pc := 3) (st := []) sh_33 (cC_begins_3 (w := w) (W := W) (c := 30) (by omega) hA) kX9_begins uX3_11_2 dX3_reads_3 rfl rfl (Nat.le_of_ble_eq_true rfl) ⟨Nat.le_of_ble_eq_true rfl, Nat.le_of_ble_eq_true rfl⟩ ⟨Nat.zero_le _, Nat.zero_le _⟩ (ic_kv (fun h_ qw1 => ?_))
  obtain ⟨w1, rfl, f_w1, hA_w1⟩ := qw1
  have g_w1 : ∀ a, a ≠ 33 → a ≠ 34 → w1 a = w a := fun a h1 h2 => (f_w1 a h1 h2).trans rfl
  have s_w1 : ∀ j, j ≠ 36 → j ≠ 40 → (mo_cl W [30]) 114 j = W 114 j := fun j h1 h2 => (mo_cl_f _ _ h1).trans rfl
  have z_w1 : (mo_cl W [30]) 114 40 = W 114 40 := (mo_cl_f _ _ (by omega)).trans rfl
  have a0_w1 : w1 33 0 = W 114 38 := hA_w1.1.1.trans (s_w1 38 (by omega) (by omega))
  have a1_w1 : w1 33 1 = W 114 39 := hA_w1.1.2.1.trans (s_w1 39 (by omega) (by omega))
  refine xx_aload_nP (pc := 6) dX3_reads_6 0 rfl rfl ?_
  refine xx_iload_n (pc := 7) dX3_reads_7 1 rfl rfl ?_
  refine xx_callP0 (pc := 8) (st := []) sh_33 (by decide) (cC_readsP_3 (w := w1) (W := (mo_cl W [30])) (x := x) hA_w1) kX9_reads pX3_17 dX3_reads_8 rfl rfl (Nat.le_of_ble_eq_true rfl) ⟨Nat.le_of_ble_eq_true rfl, Nat.le_of_ble_eq_true rfl⟩ ⟨Nat.zero_le _, Nat.zero_le _⟩ (ic_ki (fun v_ h_ qw3 => ?_))
  obtain ⟨x_, q_⟩ := qw3
  obtain rfl : v_ = nI ((mo_sp (W 114 38) (x + 11)) + 4 * (W 114 39)) := by rw [x_, s_w1 38 (by omega) (by omega), s_w1 39 (by omega) (by omega)]
  obtain ⟨w3, rfl, f_w3, hA_w3⟩ := q_
  have g_w3 : ∀ a, a ≠ 33 → a ≠ 34 → w3 a = w a := fun a h1 h2 => (f_w3 a h1 h2).trans (g_w1 a h1 h2)
  have s_w3 : ∀ j, j ≠ 36 → j ≠ 40 → (mo_cl (mo_cl W [30]) [11, 50, 10]) 114 j = W 114 j := fun j h1 h2 => (mo_cl_f _ _ h1).trans (s_w1 j h1 h2)
  have z_w3 : (mo_cl (mo_cl W [30]) [11, 50, 10]) 114 40 = W 114 40 := (mo_cl_f _ _ (by omega)).trans z_w1
  have a0_w3 : w3 33 0 = W 114 38 := hA_w3.1.1.trans (s_w3 38 (by omega) (by omega))
  have a1_w3 : w3 33 1 = W 114 39 := hA_w3.1.2.1.trans (s_w3 39 (by omega) (by omega))
  refine xx_iconst (pc := 11) dX3_reads_11 cc_iconst_3 ?_
  refine xx_imulN (pc := 12) dX3_reads_12 ?_
  exact xx_iret (pc := 13) dX3_reads_13 rfl (rfl) (Nat.le_refl _) (Nat.le_refl _) (ic_ri ⟨rfl, w3, rfl, g_w3, by have y_ := hA_w3; rw [mo_cl_a] at y_; exact y_⟩)

set_option maxHeartbeats 4000000 in
set_option maxRecDepth 100000 in
theorem cC_reads5_5 {l : Launch} {E : ic_E} {w : ic_w} {W : ic_w} {x : Nat} (hA : Ca w W 5) : ic_C l E mX0_reads 5 0 0 False [ic_pt E 37, .int (nI x)] SHs (hn w) SHs (ic_qi (fun v_ h_ => v_ = nI (mo_mi 0 ((mo_sp (W 114 38) x) + 4 * (W 114 39))) ∧ ∃ w2, h_ = hn w2 ∧ (∀ a, a ≠ 37 → a ≠ 38 → w2 a = w a) ∧ Ca w2 (mo_cl W [60, 11, 10]) 5)) := by
  refine ic_intro (by decide +kernel) (Nat.le_of_ble_eq_true rfl) ?_
  show xx l E _ _ 0 [(0, ic_pt E 37), (1, .int (nI x))] _ _ _
  have a0_ : w 37 0 = W 114 38 := hA.1.1
  have a1_ : w 37 1 = W 114 39 := hA.1.2.1
  have a3_ : w 37 3 = W 114 36 := hA.1.2.2.1
  have a4_ : w 37 4 = W 114 40 := hA.1.2.2.2
  have b_ := hA.2.1
  refine xx_aload_nP (pc := 0) dX0_reads_0 0 rfl rfl ?_
  refine xx_bipush (pc := 1) dX0_reads_1 cc_bipush_60 ?_
  refine xx_callU0 (pc := 3) (st := []) sh_37 (cC_begins_5 (w := w) (W := W) (c := 60) (by omega) hA) kX9_begins uX0_15_0 dX0_reads_3 rfl rfl (Nat.le_of_ble_eq_true rfl) ⟨Nat.le_of_ble_eq_true rfl, Nat.le_of_ble_eq_true rfl⟩ ⟨Nat.zero_le _, Nat.zero_le _⟩ (ic_kv (fun h_ qw1 => ?_))
  obtain ⟨w1, rfl, f_w1, hA_w1⟩ := qw1
  have g_w1 : ∀ a, a ≠ 37 → a ≠ 38 → w1 a = w a := fun a h1 h2 => (f_w1 a h1 h2).trans rfl
  have s_w1 : ∀ j, j ≠ 36 → j ≠ 40 → (mo_cl W [60]) 114 j = W 114 j := fun j h1 h2 => (mo_cl_f _ _ h1).trans rfl
  have z_w1 : (mo_cl W [60]) 114 40 = W 114 40 := (mo_cl_f _ _ (by omega)).trans rfl
  have a0_w1 : w1 37 0 = W 114 38 := hA_w1.1.1.trans (s_w1 38 (by omega) (by omega))
  have a1_w1 : w1 37 1 = W 114 39 := hA_w1.1.2.1.trans (s_w1 39 (by omega) (by omega))
  refine xx_iconst (pc := 6) dX0_reads_6 cc_iconst_0 ?_
  refine xx_aload_nP (pc := 7) dX0_reads_7 0 rfl rfl ?_
  refine xx_iload_n (pc := 8) dX0_reads_8 1 rfl rfl ?_
  refine xx_callO0 (pc := 9) (st := [.int (nI 0)]) sh_37 (by decide) (cC_readsP_5 (w := w1) (W := (mo_cl W [60])) (x := x) hA_w1) kX9_reads oX0_21 dX0_reads_9 rfl rfl (Nat.le_of_ble_eq_true rfl) ⟨Nat.le_of_ble_eq_true rfl, Nat.le_of_ble_eq_true rfl⟩ ⟨Nat.zero_le _, Nat.zero_le _⟩ (ic_ki (fun v_ h_ qw3 => ?_))
  obtain ⟨x_, q_⟩ := qw3
  obtain rfl : v_ = nI ((mo_sp (W 114 38) x) + 4 * (W 114 39)) := by rw [x_, s_w1 38 (by omega) (by omega), s_w1 39 (by omega) (by omega)]
  obtain ⟨w3, rfl, f_w3, hA_w3⟩ := q_
  have g_w3 : ∀ a, a ≠ 37 → a ≠ 38 → w3 a = w a := fun a h1 h2 => (f_w3 a h1 h2).trans (g_w1 a h1 h2)
  have s_w3 : ∀ j, j ≠ 36 → j ≠ 40 → (mo_cl (mo_cl W [60]) [11, 10]) 114 j = W 114 j := fun j h1 h2 => (mo_cl_f _ _ h1).trans (s_w1 j h1 h2)
  have z_w3 : (mo_cl (mo_cl W [60]) [11, 10]) 114 40 = W 114 40 := (mo_cl_f _ _ (by omega)).trans z_w1
  have a0_w3 : w3 37 0 = W 114 38 := hA_w3.1.1.trans (s_w3 38 (by omega) (by omega))
  have a1_w3 : w3 37 1 = W 114 39 := hA_w3.1.2.1.trans (s_w3 39 (by omega) (by omega))
  refine xx_isubM (pc := 12) dX0_reads_12 ?_
  exact xx_iret (pc := 13) dX0_reads_13 rfl (rfl) (Nat.le_refl _) (Nat.le_refl _) (ic_ri ⟨rfl, w3, rfl, g_w3, by have y_ := hA_w3; rw [mo_cl_a] at y_; exact y_⟩)

