/-! what makes things: the machine's step of new T[n][m] for ints; array classes over others -/
theorem ic_aoSpec {A : Array Value} {s : State} (h : (Cond.arrayOver (.array .int)).before A s = true) : ∃ comp cA kA, s.vm.findClass "[I" = some comp ∧ s.vm.classes[cA]? = some kA ∧ kA.kind = .array comp (.array .int) ∧ s.vm.findClass "[[I" = some cA := by
  unfold Cond.before Cond.holds at h
  simp only [Cond.value, beq_iff_eq] at h
  obtain ⟨comp, h1, h⟩ := Option.bind_eq_some_iff.mp h
  obtain ⟨cA, h2, h⟩ := Option.bind_eq_some_iff.mp h
  obtain ⟨kA, h3, h⟩ := Option.map_eq_some_iff.mp h
  obtain ⟨hlt, h4, -⟩ := Array.findIdx?_eq_some_iff_getElem.mp h2
  have e : s.vm.classes[cA] = kA := (Array.getElem?_eq_some_iff.mp h3).2
  rw [e] at h4
  refine ⟨comp, cA, kA, h1, h3, ?_, ?_⟩
  · cases hk : kA.kind with
    | array c2 ty =>
      rw [hk] at h4 h
      simp at h4 h
      rw [h4, h.1]
    | _ => rw [hk] at h; simp at h
  · cases hk : kA.kind with
    | array c2 ty =>
      rw [hk] at h
      simp at h
      exact h.2
    | _ => rw [hk] at h; simp at h
theorem ic_aoMv {u U : State} (hvm : u.vm.Alike U.vm) (h : (Cond.arrayOver (.array .int)).before #[] u = true) : (Cond.arrayOver (.array .int)).before #[] U = true := by
  have e1 : ∀ n, U.vm.findClass n = u.vm.findClass n := fun n => by rw [hvm.findClass]
  have e2 : ∀ comp : ClassId, (U.vm.classes.findIdx? fun (x : Class) => match x.kind with | .array component _ => component == comp | _ => false) = (u.vm.classes.findIdx? fun (x : Class) => match x.kind with | .array component _ => component == comp | _ => false) := fun comp => by
    have q1 := va_idx_bare U.vm comp
    have q2 := va_idx_bare u.vm comp
    have q3 : U.vm.bare = u.vm.bare := by first | exact hvm.bare_eq | exact hvm.bare_eq.symm
    rw [q3] at q1
    exact q1.symm.trans q2
  unfold Cond.before Cond.holds at h ⊢
  simp only [Cond.value, beq_iff_eq] at h ⊢
  obtain ⟨comp, h1, h⟩ := Option.bind_eq_some_iff.mp h
  obtain ⟨cA, h2, h⟩ := Option.bind_eq_some_iff.mp h
  obtain ⟨kA, h3, h⟩ := Option.map_eq_some_iff.mp h
  obtain ⟨k', hk', he⟩ := hvm.2.2 _ _ h3
  have hkind : k'.kind = kA.kind := by rw [he]
  refine Option.bind_eq_some_iff.mpr ⟨comp, (e1 _).trans h1, Option.bind_eq_some_iff.mpr ⟨cA, (e2 comp).trans h2, Option.map_eq_some_iff.mpr ⟨k', hk', ?_⟩⟩⟩
  rw [hkind, e1]
  exact h
/-- the outer row when i of its N places are filled; an inner row -/
def mn_out (c : ClassId) (N h0 i : Nat) : Cell := arrV c N (fun j => if j < i then .ref (h0 + 1 + j) else .null)
def mn_in (c : ClassId) (M : Nat) : Cell := arrV c M (fun _ => .int 0)
def mn_st (U : State) (c d : ClassId) (N M : Nat) : Nat → State
  | 0 => U.pushCell (mn_out c N U.heap.size 0)
  | i + 1 => ((mn_st U c d N M i).pushCell (mn_in d M)).setCell U.heap.size (mn_out c N U.heap.size (i + 1))
theorem mn_outS (c : ClassId) (N h0 i : Nat) : (mn_out c N h0 i).setSlot i (.ref (h0 + 1 + i)) = mn_out c N h0 (i + 1) := by
  unfold mn_out
  rw [arrV_store]
  refine congrArg (arrV c N) (funext fun j => ?_)
  unfold updV
  by_cases e : j = i
  · rw [if_pos e, if_pos (by omega), e]
  · rw [if_neg e]
    show (if j < i then Value.ref (h0 + 1 + j) else Value.null) = (if j < i + 1 then Value.ref (h0 + 1 + j) else Value.null)
    by_cases h : j < i
    · rw [if_pos h, if_pos (by omega)]
    · rw [if_neg h, if_neg (by omega)]
theorem mn_size (c : ClassId) (N h0 i : Nat) : (mn_out c N h0 i).slots.size = N := arrV_size _ _ _
theorem mn_facts (U : State) (c d : ClassId) (N M : Nat) : ∀ i, (mn_st U c d N M i).heap.size = U.heap.size + 1 + i ∧ (mn_st U c d N M i).heap[U.heap.size]? = some (mn_out c N U.heap.size i) ∧ (mn_st U c d N M i).vm = U.vm ∧ (mn_st U c d N M i).slotsUsed = U.slotsUsed + N + i * M ∧ (∀ a : Nat, a < U.heap.size → (mn_st U c d N M i).heap[a]? = U.heap[a]?) ∧ ∀ j, j < i → (mn_st U c d N M i).heap[U.heap.size + 1 + j]? = some (mn_in d M) := by
  intro i
  induction i with
  | zero =>
    refine ⟨by simp [mn_st, State.pushCell], by simp [mn_st], rfl, by simp [mn_st, mn_size], fun a ha => State.heap_pushCell_of_lt _ _ ha, fun j hj => absurd hj (Nat.not_lt_zero j)⟩
  | succ i ih =>
    obtain ⟨a1, a2, a3, a4, a5, a6⟩ := ih
    have lt0 : U.heap.size < (mn_st U c d N M i).heap.size := by omega
    have at0 : ((mn_st U c d N M i).pushCell (mn_in d M)).heap[U.heap.size]? = some (mn_out c N U.heap.size i) := by rw [State.heap_pushCell_of_lt (h := lt0)]; exact a2
    refine ⟨?_, State.heap_setCell_self at0, by simp [mn_st, a3], ?_, fun a ha => ?_, fun j hj => ?_⟩
    · simp [mn_st, State.setCell, State.pushCell, a1]
      omega
    · have e : (mn_in d M).slots.size = M := arrV_size _ _ _
      simp [mn_st, a4, e, Nat.succ_mul]
      omega
    · show (((mn_st U c d N M i).pushCell (mn_in d M)).setCell U.heap.size _).heap[a]? = _
      have lta : a < (mn_st U c d N M i).heap.size := by rw [a1]; omega
      rw [State.heap_setCell_other (Nat.ne_of_gt ha), State.heap_pushCell_of_lt (h := lta)]
      exact a5 a ha
    · show (((mn_st U c d N M i).pushCell (mn_in d M)).setCell U.heap.size _).heap[U.heap.size + 1 + j]? = _
      rw [State.heap_setCell_other (show U.heap.size ≠ U.heap.size + 1 + j by omega)]
      by_cases e : j = i
      · rw [e, ← a1]
        exact State.heap_pushCell_size _ _
      · have lta : U.heap.size + 1 + j < (mn_st U c d N M i).heap.size := by rw [a1]; omega
        rw [State.heap_pushCell_of_lt (h := lta)]
        exact a6 j (by omega)
theorem mn_top (U : State) (g : JFrame) (c d : ClassId) (N M : Nat) : ∀ i, mn_st (U.setTop g) c d N M i = (mn_st U c d N M i).setTop g := by
  intro i
  induction i with
  | zero => rfl
  | succ i ih => simp only [mn_st, ih, State.heap_setTop, State.pushCell_setTop, State.setCell_setTop]
section MN
variable {E : CtlPost} {e : Env} {d : Bool} {acts : List Action} {s : State}
/-- the innermost rows, one by one -/
theorem mn_make1 {y yc : ClassId} {ky : Class} {m : Int32} (hky : s.vm.classes[y]? = some ky) (hkind : ky.kind = .array yc .int) (hm : ¬ m < 0) (hl : ¬ m.toNatClampNeg > e.platform.arrayLengthLimit) (hh : ¬ m.toNatClampNeg * componentBytes .int > e.platform.maxHeapBytes) (h1 : s.heap.size < e.platform.maxCells) (h2 : s.slotsUsed + m.toNatClampNeg ≤ e.platform.maxSlots) {Q : Addr → Pre} (hq : ∀ acts', Q s.heap.size d acts' (s.pushCell (mn_in y m.toNatClampNeg))) :
    wp (Op.multianewarray.make y [m]) Q E e d acts s := by
  rw [Op.multianewarray.make]
  simp only [wp_bind', W.ite, hm, if_false, wp_pure', W.theClass, hky, hkind, Option.some.injEq, exists_eq_left']
  refine W.newArray_of hky hkind hl hh h1 h2 rfl (fun acts' => ?_)
  rw [arrV_new]
  exact hq acts'
theorem mn_make {c y yc : ClassId} {kc ky : Class} {n m : Int32} (hkc : s.vm.classes[c]? = some kc) (hkindc : kc.kind = .array y (.array .int)) (hky : s.vm.classes[y]? = some ky) (hkind : ky.kind = .array yc .int) (hn : ¬ n < 0) (hm : ¬ m < 0)
    (hl1 : ¬ n.toNatClampNeg > e.platform.arrayLengthLimit) (hh1 : ¬ n.toNatClampNeg * componentBytes (.array .int) > e.platform.maxHeapBytes) (hl2 : ¬ m.toNatClampNeg > e.platform.arrayLengthLimit) (hh2 : ¬ m.toNatClampNeg * componentBytes .int > e.platform.maxHeapBytes)
    (hc : s.heap.size + 1 + n.toNatClampNeg ≤ e.platform.maxCells) (hs : s.slotsUsed + n.toNatClampNeg + n.toNatClampNeg * m.toNatClampNeg ≤ e.platform.maxSlots) {Q : Addr → Pre} (hq : ∀ d' acts', Q s.heap.size d' acts' (mn_st s c y n.toNatClampNeg m.toNatClampNeg n.toNatClampNeg)) :
    wp (Op.multianewarray.make c [n, m]) Q E e d acts s := by
  have hfind : ([m].find? (· < 0)) = none := by simp [hm]
  generalize hN : n.toNatClampNeg = N at *
  generalize hM : m.toNatClampNeg = M at *
  rw [Op.multianewarray.make]
  simp only [wp_bind', W.ite, hn, if_false, wp_pure', W.theClass, hkc, hkindc, Option.some.injEq, exists_eq_left', hN]
  refine W.newArray_of hkc hkindc hl1 hh1 (by omega) (by have := Nat.zero_le (N * M); omega) rfl (fun acts' => ?_)
  rw [arrV_new]
  simp only [hfind]
  rw [ite_self, wp_bind', Std.Legacy.Range.forIn_eq_forIn_range']
  rw [show ([:N] : Std.Legacy.Range).size = N by simp [Std.Legacy.Range.size]]
  show wp (forIn (List.range' 0 N 1) PUnit.unit _) _ E e d acts' _
  refine wp_forIn_inv (fun rest t => ∃ i, i ≤ N ∧ rest = List.range' i (N - i) ∧ t = mn_st s c y N M i) _ _ ⟨0, Nat.zero_le _, rfl, rfl⟩ ?_ ?_
  · rintro x rest t d' acts'' Q' ⟨i, hi, hl, rfl⟩ hnext
    have hlt : i < N := Nat.lt_of_not_le fun h => by
      rw [show N - i = 0 by omega] at hl
      exact absurd hl (by simp)
    rw [show N - i = (N - (i + 1)) + 1 by omega, List.range'_succ] at hl
    obtain ⟨rfl, hrest⟩ := List.cons.inj hl
    obtain ⟨f1, f2, f3, f4, -, -⟩ := mn_facts s c y N M x
    have hmul : x * M + M ≤ N * M := by
      have := Nat.mul_le_mul_right M (show x + 1 ≤ N from hlt)
      rwa [Nat.succ_mul] at this
    simp only [wp_bind']
    refine mn_make1 (by rw [f3]; exact hky) hkind hm (by rw [hM]; exact hl2) (by rw [hM]; exact hh2) (by rw [f1]; omega) (by rw [f4, hM]; omega) (fun acts3 => ?_)
    have lt0 : s.heap.size < (mn_st s c y N M x).heap.size := by rw [f1]; omega
    simp only [wp_bind', W.writeLoc, wp_pure']
    refine ⟨mn_out c N s.heap.size x, by rw [State.heap_pushCell_of_lt (h := lt0)]; exact f2, by simp [mn_out, arrV], by rw [mn_size]; exact hlt, ?_, hnext _ _ _ ⟨x + 1, hlt, hrest, ?_⟩⟩
    · simp [mn_out, arrV, State.fitsSlot, State.slotType?, f3, hkc, hkindc]
      rfl
    · rw [f1, mn_outS, hM]
      rfl
  · rintro t d' acts'' ⟨i, hi, hl, rfl⟩
    have hiN : i = N := by
      rcases Nat.lt_or_ge i N with h | h
      · rw [show N - i = (N - (i + 1)) + 1 by omega, List.range'_succ] at hl
        cases hl
      · omega
    subst hiN
    simp only [wp_pure']
    exact hq _ _
end MN
