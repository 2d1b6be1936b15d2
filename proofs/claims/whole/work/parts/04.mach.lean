/-! the small machine over the kit's: heaps of numbers, shapes, one frame's walk -/
def ic_W : List Cond := lw_tbl.filter goodWord
theorem ic_in {w : Cond} (i : Nat) (h : lw_tbl[i]? = some w) (g : goodWord w = true) : w ∈ ic_W := List.mem_filter.mpr ⟨List.mem_of_getElem? h, g⟩
theorem ic_good {ws : List Cond} (h : ∀ w ∈ ws, w ∈ ic_W) : GoodIn ic_W ws := fun w hw => ⟨h w hw, good_of_word (List.mem_filter.mp (h w hw)).2⟩
abbrev ic_H : Type := Nat → Nat → Int32
def ic_up (h : ic_H) (o k : Nat) (v : Int32) : ic_H := fun a j => if a = o ∧ j = k then v else h a j
theorem ic_up_s (h : ic_H) (o k : Nat) (v : Int32) : ic_up h o k v o k = v := by simp [ic_up]
theorem ic_up_o (h : ic_H) {o k a j : Nat} (v : Int32) (n : a ≠ o) : ic_up h o k v a j = h a j := by simp [ic_up, n]
theorem ic_up_k (h : ic_H) {o k a j : Nat} (v : Int32) (n : j ≠ k) : ic_up h o k v a j = h a j := by simp [ic_up, n]
/-- a shape: the class's number (or 100 and on: rows of ints, bytes, moments, riders, rows of ints), how many, what its references are (0 null, t + 1 the thing t, 1000000 as the heap says) -/
abbrev ic_S : Type := Nat × Nat × List Nat
/-- classes and slots; array classes; where things begin; strings, their bytes; the table; a static that nothing looks at -/
abbrev ic_E : Type := va_G × (Nat → ClassId) × Nat × (Nat → Nat) × (Nat → Nat) × Nat × Value
abbrev ic_b (E : ic_E) : Nat := E.2.2.1
def ic_R (c : Nat) : String := match c with
  | 0 => RX0 | 1 => RX1 | 2 => RX2 | 3 => RX3 | 4 => RX4 | 5 => RX5 | 6 => RX6 | 7 => RX7 | 8 => RX8 | 9 => RX9 | 10 => RX10 | 11 => RX11 | _ => RX12
def ic_T (c : Nat) : u_T := match c with
  | 0 => TX0 | 1 => TX1 | 2 => TX2 | 3 => TX3 | 4 => TX4 | 5 => TX5 | 6 => TX6 | 7 => TX7 | 8 => TX8 | 9 => TX9 | 10 => TX10 | 11 => TX11 | _ => TX12
def ic_ty (c : Nat) : Nat → FieldType := match c with
  | 0 => tyX0 | 1 => tyX1 | 2 => tyX2 | 3 => tyX3 | 4 => tyX4 | 5 => tyX5 | 6 => tyX6 | 7 => tyX7 | 8 => tyX8 | 9 => tyX9 | 10 => tyX10 | 11 => tyX11 | _ => tyX12
def ic_N (c : Nat) : Nat := match c with
  | 0 => 5 | 1 => 5 | 2 => 5 | 3 => 5 | 4 => 4 | 5 => 16 | 6 => 11 | 7 => 5 | 8 => 9 | 9 => 5 | 10 => 11 | 11 => 17 | _ => 41
theorem ic_13 {P : Nat → Prop} (h0 : P 0) (h1 : P 1) (h2 : P 2) (h3 : P 3) (h4 : P 4) (h5 : P 5) (h6 : P 6) (h7 : P 7) (h8 : P 8) (h9 : P 9) (h10 : P 10) (h11 : P 11) (h12 : P 12) : ∀ c, c < 13 → P c := by
  intro c hc
  rcases (show c = 0 ∨ c = 1 ∨ c = 2 ∨ c = 3 ∨ c = 4 ∨ c = 5 ∨ c = 6 ∨ c = 7 ∨ c = 8 ∨ c = 9 ∨ c = 10 ∨ c = 11 ∨ c = 12 by omega) with rfl | rfl | rfl | rfl | rfl | rfl | rfl | rfl | rfl | rfl | rfl | rfl | rfl <;> assumption
theorem ic_cl : ∀ c, c < 13 → vwCl[c]? = some (ic_R c, ic_T c, ic_N c) := ic_13 rfl rfl rfl rfl rfl rfl rfl rfl rfl rfl rfl rfl rfl
theorem ic_tyok : ∀ c, c < 13 → ∀ k, k < ic_N c → parseFieldDescriptor (ic_T c k).2.2.1 = some (ic_ty c k) := ic_13 tyX0_ok tyX1_ok tyX2_ok tyX3_ok tyX4_ok tyX5_ok tyX6_ok tyX7_ok tyX8_ok tyX9_ok tyX10_ok tyX11_ok tyX12_ok
theorem ic_nm : ∀ c, c < 13 → ∀ a, a < ic_N c → ∀ b, b < ic_N c → a ≠ b → (ic_T c a).2.1 ≠ (ic_T c b).2.1 := ic_13 nmX0 nmX1 nmX2 nmX3 nmX4 nmX5 nmX6 nmX7 nmX8 nmX9 nmX10 nmX11 nmX12
set_option maxRecDepth 100000 in
theorem ic_lays : ∀ c, c < 13 → ∀ w ∈ u_ws (ic_R c) (ic_T c) (ic_N c), w ∈ ic_W := by
  have h : ∀ c, c < 13 → (u_ws (ic_R c) (ic_T c) (ic_N c)).all (fun w => decide (w ∈ lw_tbl) && goodWord w) = true := by decide +kernel
  intro c hc w hw
  have h1 := List.all_eq_true.mp (h c hc) w hw
  rw [Bool.and_eq_true] at h1
  exact List.mem_filter.mpr ⟨of_decide_eq_true h1.1, h1.2⟩
def ic_isR (t : FieldType) : Bool := match t with | .object _ => true | .array _ => true | _ => false
def ic_rv (b t : Nat) : Value := if t = 0 then .null else .ref (b + (t - 1))
def ic_ro (b t : Nat) : Option Nat := if t = 0 then none else some (b + (t - 1))
theorem ic_ro_rv (b t : Nat) : va_rf (ic_ro b t) = ic_rv b t := by
  unfold ic_ro ic_rv
  split <;> rfl
def ic_fv (b c : Nat) (rs : List Nat) (h : ic_H) (o k : Nat) : Value :=
  if ic_isR (ic_ty c k) = true then (if rs.getD k 0 = 1000000 then ic_rv b (h o k).toNatClampNeg else ic_rv b (rs.getD k 0)) else .int (h o k)
def ic_ob (E : ic_E) (sp : ic_S) (h : ic_H) (o : Nat) : va_E :=
  if sp.1 < 100 then .inr (sp.1, (List.range (ic_N sp.1)).map (ic_fv (ic_b E) sp.1 sp.2.2 h o))
  else if sp.1 < 102 then .inl (E.2.1 sp.1, sp.2.1, .inl (h o))
  else .inl (E.2.1 sp.1, sp.2.1, .inr (.inr (.inr (.inr (fun i => ic_ro (ic_b E) (sp.2.2.getD i 0))))))
def ic_ws (E : ic_E) (sh : List ic_S) (h : ic_H) : va_W := (List.range sh.length).map fun o => (ic_b E + o, ic_ob E (sh.getD o (100, 0, [])) h o)
theorem ic_ws_len (E : ic_E) (sh : List ic_S) (h : ic_H) : (ic_ws E sh h).length = sh.length := by simp [ic_ws]
theorem ic_ws_at {E : ic_E} {sh : List ic_S} {h : ic_H} {o : Nat} {sp : ic_S} (hs : sh[o]? = some sp) : (ic_ws E sh h)[o]? = some (ic_b E + o, ic_ob E sp h o) := by
  have hl : o < sh.length := (List.getElem?_eq_some_iff.mp hs).1
  have hg : sh.getD o (100, 0, []) = sp := by rw [List.getD_eq_getElem?_getD, hs]; rfl
  simp only [ic_ws, List.getElem?_map, List.getElem?_range hl, Option.map_some, hg]
theorem ic_ws_of {E : ic_E} {sh : List ic_S} {h : ic_H} {k : Nat} {q : Nat × va_E} (hk : (ic_ws E sh h)[k]? = some q) : ∃ sp, sh[k]? = some sp ∧ q = (ic_b E + k, ic_ob E sp h k) := by
  have hl : k < sh.length := by
    have := (List.getElem?_eq_some_iff.mp hk).1
    rwa [ic_ws_len] at this
  refine ⟨sh[k], List.getElem?_eq_getElem hl, ?_⟩
  rw [ic_ws_at (List.getElem?_eq_getElem hl)] at hk
  exact (Option.some.inj hk).symm
def ic_A (E : ic_E) : Nat → Prop := fun q => ic_b E ≤ q
theorem ic_D (E : ic_E) (sh : List ic_S) (h : ic_H) : va_D (ic_A E) (ic_ws E sh h) := by
  refine ⟨fun i j p q hi hj hpq => ?_, fun k q hk => ?_⟩
  · obtain ⟨_, -, rfl⟩ := ic_ws_of hi
    obtain ⟨_, -, rfl⟩ := ic_ws_of hj
    have : ic_b E + i = ic_b E + j := hpq
    omega
  · obtain ⟨_, -, rfl⟩ := ic_ws_of hk
    exact Nat.le_add_right _ _
/-- a row of a world set anew, when the shape there stays -/
theorem ic_ws_set {E : ic_E} {sh : List ic_S} {h h' : ic_H} {o : Nat} {sp : ic_S} {e : va_E} (hs : sh[o]? = some sp) (he : e = ic_ob E sp h' o) (ho : ∀ a, a ≠ o → ∀ sq, ic_ob E sq h' a = ic_ob E sq h a) : (ic_ws E sh h).set o (ic_b E + o, e) = ic_ws E sh h' := by
  apply List.ext_getElem?
  intro k
  by_cases hk : k = o
  · subst hk
    have hl : k < (ic_ws E sh h).length := by rw [ic_ws_len]; exact (List.getElem?_eq_some_iff.mp hs).1
    rw [List.getElem?_set_self hl, ic_ws_at hs, he]
  · rw [List.getElem?_set_ne (fun q => hk q.symm)]
    cases hq : sh[k]? with
    | none =>
      have hl : sh.length ≤ k := List.getElem?_eq_none_iff.mp hq
      rw [List.getElem?_eq_none_iff.mpr (by rw [ic_ws_len]; exact hl), List.getElem?_eq_none_iff.mpr (by rw [ic_ws_len]; exact hl)]
    | some sq => rw [ic_ws_at hq, ic_ws_at hq, ho k hk]
theorem ic_fv_o {b c : Nat} {rs : List Nat} {h : ic_H} {o a j k : Nat} {v : Int32} (n : a ≠ o ∨ j ≠ k) : ic_fv b c rs (ic_up h o k v) a j = ic_fv b c rs h a j := by
  have e : ic_up h o k v a j = h a j := by
    rcases n with n | n
    · exact ic_up_o h v n
    · exact ic_up_k h v n
  unfold ic_fv
  rw [e]
theorem ic_ob_o {E : ic_E} {h : ic_H} {o k a : Nat} {v : Int32} (n : a ≠ o) (sq : ic_S) : ic_ob E sq (ic_up h o k v) a = ic_ob E sq h a := by
  unfold ic_ob
  have e1 : ic_up h o k v a = h a := funext fun j => ic_up_o h v n
  have e2 : ic_fv (ic_b E) sq.1 sq.2.2 (ic_up h o k v) a = ic_fv (ic_b E) sq.1 sq.2.2 h a := funext fun j => ic_fv_o (Or.inl n)
  rw [e1, e2]
def ic_tys (E : ic_E) : List (ClassId × FieldType) := [(E.2.1 100, .int), (E.2.1 101, .byte), (E.2.1 102, .object "InnerCircle$Moment"), (E.2.1 103, .object "InnerCircle$Rider"), (E.2.1 104, .array .int)]
