/-! THE CLAIM OUT OF ONE WALK OF THE LAW'S BODY. Your part is whole_start (and what it stands on); all else here is the same for every law, but numbers. -/
def R_law : String := "InnerCircleLaw"
def lw_P (b : Addr) (xs : List Int32) (args : Array Value) (s : State) : Prop := args = #[.ref b] ∧ s.IntsAt b xs ∧ xs.length ≤ 2560 ∧ (Jvm.Cond.and given_1 narrow_1).before args s = true
def lw_Q (_ : Array Value) (s : State) (o : Outcome) (t : State) : Prop := o = .returned (some (.int 1)) ∧ Framed s o t [] 600000 7302250
def lw_Z (below : List Frame) (a : Array Value) (s : State) : State → Prop := fun t => ∃ o, t.status = .running ∧ Ended t below o ∧ lw_Q a s o t
/-- the law's own end, with 1 on the stack, nothing written that was there before, its room as the claim has it -/
theorem lw_ret {p : Program} {l : Launch} {e : Env} {s : State} {m : MethodId} {below : List Frame} {meth : Method} {c : Code} {b : Nat} (hx : p.tables.exec = Jvm.exec) (hb : c.code = code) (hr : meth.sig.returnType = ret) (hlocks : meth.locks = false) {pc : Nat} {H : Heap} {ls : Array Slot} (hdg : decode code pc = .ok (.ireturn, 1)) : W p l e room_1 s m #[Value.ref b] below meth c H [] 600000 7302250 (lw_Z below #[Value.ref b] s) (F0 m pc ls [.int 1]) := by
  intro T hT X
  obtain ⟨fs, hret, hrun, hended, hW, hframe⟩ := X.leave (v := some (.int 1)) (hlocks := hlocks) (fun h => by rw [hr] at h; cases h)
  have hmeth' : T.vm.method? m = some meth := X.method'
  refine ⟨T.setFrames fs, ?_, .returned (some (.int 1)), hrun, hended, rfl, ⟨_, rfl⟩, hW, hframe⟩
  jvm_step X.here [X.here.top, hx, hb, hdg, hmeth', hr, ret, narrow_b1]
  (try refine ⟨rfl, ?_⟩); (try refine ⟨rfl, ?_⟩)
  first | (intro acts; rw [hret _ acts rfl rfl rfl]) | rw [hret _ _ rfl rfl rfl]
  exact Steps.refl _
/-- what holds at the law's entry: the machine, the code, the tables' words (any of lw_tbl by 'hts w (by decide +kernel)'), the script of L ints xs at the cell b, what the Statement gives of the start (any of its parts by flat_of_before) -/
def lw_At (p : Program) (s : State) (m : MethodId) (meth : Method) (c : Code) (b L : Nat) (xs : Nat → Int32) : Prop :=
  p.tables.exec = Jvm.exec ∧ c.code = code ∧ meth.sig.returnType = ret ∧ c.maxLocals = 4 ∧ s.vm.findClass R_law = some m.cls ∧ (∀ w ∈ lw_tbl, w.before #[Value.ref b] s = true) ∧ va_X b L xs s s.heap ∧ b < s.heap.size ∧ meth.locks = false ∧ (Jvm.Cond.and given_1 narrow_1).before #[Value.ref b] s = true
theorem lw_rt {p : Program} {l : Launch} {e : Env} {s : State} {m : MethodId} {below : List Frame} {meth : Method} {c : Code} {args : Array Value} (hx : p.tables.exec = Jvm.exec) (hb : c.code = code) (hr : meth.sig.returnType = ret) (hlocks : meth.locks = false) {pc : Nat} {H : Heap} {ls : Array Slot} (hdg : decode code pc = .ok (.ireturn, 1)) : W p l e room_1 s m args below meth c H [] 600000 7302250 (lw_Z below args s) (F0 m pc ls [.int 1]) := by
  intro T hT X
  obtain ⟨fs, hret, hrun, hended, hW, hframe⟩ := X.leave (v := some (.int 1)) (hlocks := hlocks) (fun h => by rw [hr] at h; cases h)
  have hmeth' : T.vm.method? m = some meth := X.method'
  refine ⟨T.setFrames fs, ?_, .returned (some (.int 1)), hrun, hended, rfl, ⟨_, rfl⟩, hW, hframe⟩
  jvm_step X.here [X.here.top, hx, hb, hdg, hmeth', hr, ret, narrow_b1]
  (try refine ⟨rfl, ?_⟩); (try refine ⟨rfl, ?_⟩)
  first | (intro acts; rw [hret _ acts rfl rfl rfl]) | rw [hret _ _ rfl rfl rfl]
  exact Steps.refl _

/-- the law's frame: what is told of the start is what the constructors need, and the script -/
def lw_F (E : ic_E) (nm : String) (b L : Nat) (xs : Nat → Int32) (z : Prop) : ic_F := (RL, nm, cL_law, 4, ret, room_1, z, fun below args s => lw_Z below args s, fun s => ic_Ov s ∧ va_X b L xs s s.heap ∧ b < s.heap.size ∧ s.heap.size = ic_b E)
def lw_L (E : ic_E) (b i : Nat) : List (Nat × Value) := [(3, .int (nI i)), (2, ic_pt E 114), (1, ic_pt E 0), (0, .ref b)]
section LW
variable {l : Launch} {E : ic_E} {nm : String} {b L : Nat} {xs : Nat → Int32} {z : Prop} {kc : Nat × Nat} {pc : Nat} {LL : List (Nat × Value)} {st : List Value} {sh : List ic_S} {h : ic_H}
theorem lw_sld {i : Nat} (hb : b < ic_b E) (hL : L ≤ 2560) (hi : i < L) (hd : decode cL_law pc = .ok (.iaload, 1)) (kk : xx l E (lw_F E nm b L xs z) kc (pc + 1) LL (.int (nI (tn (xs i))) :: st) sh h) : xx l E (lw_F E nm b L xs z) kc pc LL (.int (nI i) :: .ref b :: st) sh h := by
  intro p e s m args below meth c H locs ls N M S hl
  obtain ⟨-, hX, hbl, -⟩ := N.2.2.2.2.2.2.2.2.2
  have K := kk p e s m args below meth c H locs ls N M S hl
  rw [nI_tn] at K
  exact va_sld N.1 N.2.1 hX hbl (Nat.not_le.mpr hb) S (vp_in_nI hi (by omega)) hd (by rw [nI_clamp (by omega)]; exact K)
theorem lw_len (hb : b < ic_b E) (hd : decode cL_law pc = .ok (.arraylength, 1)) (kk : xx l E (lw_F E nm b L xs z) kc (pc + 1) LL (.int (nI L) :: st) sh h) : xx l E (lw_F E nm b L xs z) kc pc LL (.ref b :: st) sh h := by
  intro p e s m args below meth c H locs ls N M S hl
  obtain ⟨-, hX, hbl, -⟩ := N.2.2.2.2.2.2.2.2.2
  exact va_slen N.1 N.2.1 hX hbl (Nat.not_le.mpr hb) S hd (kk p e s m args below meth c H locs ls N M S hl)
theorem lw_one (hd : decode cL_law pc = .ok (.ireturn, 1)) (hk : kc.1 ≤ 600000 ∧ kc.2 ≤ 7302250) : xx l E (lw_F E nm b L xs z) kc pc LL [.int (nI 1)] sh h := by
  intro p e s m args below meth c H locs ls N M S hl
  refine va_forget (fun q hq => ?_) (W.widen (k := 600000) (n := 7302250) hk.1 hk.2 (lw_rt N.1 N.2.1 N.2.2.1 N.2.2.2.1 hd))
  rw [N.2.2.2.2.2.2.2.2.2.2.2.2]
  exact S.2.2 q hq
/-- one of the call's numbers -/
theorem lw_arg {i : Nat} (k : Nat) {n : Int} (hb : b < ic_b E) (hL : L ≤ 2560) (hi : i + k < L) (hn : Int32.ofInt n = nI k) (h1 : decode cL_law pc = .ok (.aload_n 0, 1)) (h2 : decode cL_law (pc + 1) = .ok (.iload_n 3, 1)) (h3 : decode cL_law (pc + 2) = .ok (.iconst n, 1)) (h4 : decode cL_law (pc + 3) = .ok (.iadd, 1)) (h5 : decode cL_law (pc + 4) = .ok (.iaload, 1)) (kk : xx l E (lw_F E nm b L xs z) kc (pc + 5) (lw_L E b i) (.int (nI (tn (xs (i + k)))) :: st) sh h) : xx l E (lw_F E nm b L xs z) kc pc (lw_L E b i) st sh h := by
  refine xx_aload_n (pc := pc) h1 3 rfl rfl ?_
  refine xx_iload_n (pc := pc + 1) h2 0 rfl rfl ?_
  refine xx_iconst (pc := pc + 2) h3 hn ?_
  refine xx_iadd (pc := pc + 3) h4 ?_
  rw [nI_add]
  exact lw_sld (pc := pc + 4) hb hL hi h5 kk
end LW
