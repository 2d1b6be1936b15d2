/-! heaps of naturals: every int is nI of a natural under 2 ^ 32 -/
abbrev ic_w : Type := Nat → Nat → Nat
def hn (w : ic_w) : ic_H := fun o k => nI (w o k)
def wu (w : ic_w) (o k v : Nat) : ic_w := fun a j => if a = o ∧ j = k then v else w a j
theorem wu_s (w : ic_w) (o k v : Nat) : wu w o k v o k = v := by simp [wu]
theorem wu_o (w : ic_w) {o a : Nat} (k v j : Nat) (n : a ≠ o) : wu w o k v a j = w a j := by simp [wu, n]
theorem wu_k (w : ic_w) (o : Nat) {k j : Nat} (a v : Nat) (n : j ≠ k) : wu w o k v a j = w a j := by simp [wu, n]
theorem wu_row (w : ic_w) {o a : Nat} (k v : Nat) (n : a ≠ o) : wu w o k v a = w a := funext fun j => wu_o w k v j n
theorem hn_up (w : ic_w) (o k v : Nat) : ic_up (hn w) o k (nI v) = hn (wu w o k v) := by
  funext a j
  unfold ic_up hn wu
  split <;> rfl
def tn (x : Int32) : Nat := x.toBitVec.toNat
theorem nI_tn (x : Int32) : nI (tn x) = x := by
  apply Int32.toBitVec_inj.mp
  show BitVec.ofNat 32 x.toBitVec.toNat = x.toBitVec
  simp
theorem tn_lt (x : Int32) : tn x < 2 ^ 32 := x.toBitVec.isLt
theorem tn_nI {n : Nat} (h : n < 2 ^ 32) : tn (nI n) = n := pk_tn h
theorem hn_ex (h : ic_H) : ∃ w : ic_w, h = hn w ∧ ∀ o k, w o k < 2 ^ 32 := ⟨fun o k => tn (h o k), funext fun o => funext fun k => (nI_tn _).symm, fun o k => tn_lt _⟩
theorem nI_mod (n : Nat) : nI (n % 2 ^ 32) = nI n := by
  apply Int32.toBitVec_inj.mp
  show BitVec.ofNat 32 (n % 2 ^ 32) = BitVec.ofNat 32 n
  apply BitVec.eq_of_toNat_eq
  simp
theorem nI_inj {a b : Nat} (ha : a < 2 ^ 32) (hb : b < 2 ^ 32) : nI a = nI b ↔ a = b := by
  refine ⟨fun e => ?_, fun e => by rw [e]⟩
  have := congrArg tn e
  rwa [tn_nI ha, tn_nI hb] at this
theorem nI_sgn {a : Nat} (ha : a < 2 ^ 32) : (nI a).toInt = if a < 2 ^ 31 then (a : Int) else (a : Int) - 2 ^ 32 := by
  show (BitVec.ofNat 32 a).toInt = _
  rw [BitVec.toInt_eq_toNat_cond, BitVec.toNat_ofNat, Nat.mod_eq_of_lt ha]
  split <;> split <;> omega
theorem nI_lt0 {a : Nat} (ha : a < 2 ^ 32) : nI a < 0 ↔ 2 ^ 31 ≤ a := by
  rw [Int32.lt_iff_toInt_lt, nI_sgn ha, Int32.toInt_zero]
  split <;> omega
theorem nI_subW {a b : Nat} (hb : b ≤ 2 ^ 32) : nI a - nI b = nI (a + (2 ^ 32 - b)) := by
  have e : nI (a + (2 ^ 32 - b)) + nI b = nI a := by
    rw [nI_add, show a + (2 ^ 32 - b) + b = a + 2 ^ 32 by omega, ← nI_mod, show (a + 2 ^ 32) % 2 ^ 32 = a % 2 ^ 32 by omega, nI_mod]
  rw [← e, Int32.add_sub_cancel]
section XW
variable {l : Launch} {E : ic_E} {F : ic_F} {kc : Nat × Nat} {pc : Nat} {L : List (Nat × Value)} {st : List Value} {sh sh2 : List ic_S} {w : ic_w}
theorem xx_getN {idx o c n k : Nat} {rs : List Nat} (hd : decode F.2.2.1 pc = .ok (.getfield idx, 3)) (hs : sh[o]? = some (c, n, rs)) (hf : ic_FX F.1 idx c k) (hr : ic_isR (ic_ty c k) = false) (kk : xx l E F kc (pc + 3) L (.int (nI (w o k)) :: st) sh (hn w)) : xx l E F kc pc L (ic_pt E o :: st) sh (hn w) := xx_getI hd hs hf hr kk
theorem xx_putN {idx o c n k x : Nat} {rs : List Nat} (hd : decode F.2.2.1 pc = .ok (.putfield idx, 3)) (hs : sh[o]? = some (c, n, rs)) (hf : ic_FX F.1 idx c k) (hr : ic_ty c k = .int) (hfin : (ic_T c k).2.2.2 = false) (kk : xx l E F kc (pc + 3) L st sh (hn (wu w o k x))) : xx l E F kc pc L (.int (nI x) :: ic_pt E o :: st) sh (hn w) := xx_putI hd hs hf (by rw [hr]; rfl) hfin (by rw [hr]; rfl) (by rw [hr]; rfl) (by rw [hn_up]; exact kk)
theorem xx_putB {idx o c n k x : Nat} {rs : List Nat} (hd : decode F.2.2.1 pc = .ok (.putfield idx, 3)) (hs : sh[o]? = some (c, n, rs)) (hf : ic_FX F.1 idx c k) (hr : ic_ty c k = .boolean) (hfin : (ic_T c k).2.2.2 = false) (hx : x ≤ 1) (kk : xx l E F kc (pc + 3) L st sh (hn (wu w o k x))) : xx l E F kc pc L (.int (nI x) :: ic_pt E o :: st) sh (hn w) := by
  have hb : narrow .boolean (.int (nI x)) = .int (nI x) ∧ fits .boolean (.int (nI x)) = true := by
    rcases (show x = 0 ∨ x = 1 by omega) with rfl | rfl <;> exact ⟨rfl, rfl⟩
  exact xx_putI hd hs hf (by rw [hr]; rfl) hfin (by rw [hr]; exact hb.1) (by rw [hr]; exact hb.2) (by rw [hn_up]; exact kk)
theorem xx_ialdN {o n j : Nat} {rs : List Nat} (hd : decode F.2.2.1 pc = .ok (.iaload, 1)) (hs : sh[o]? = some (100, n, rs)) (hj : j < n) (hn' : n < 2 ^ 31) (kk : xx l E F kc (pc + 1) L (.int (nI (w o j)) :: st) sh (hn w)) : xx l E F kc pc L (.int (nI j) :: ic_pt E o :: st) sh (hn w) := xx_iald j hd hs rfl hj hn' kk
theorem xx_baldN {o n j : Nat} {rs : List Nat} (hd : decode F.2.2.1 pc = .ok (.baload, 1)) (hs : sh[o]? = some (101, n, rs)) (hj : j < n) (hn' : n < 2 ^ 31) (kk : xx l E F kc (pc + 1) L (.int (nI (w o j)) :: st) sh (hn w)) : xx l E F kc pc L (.int (nI j) :: ic_pt E o :: st) sh (hn w) := xx_bald j hd hs rfl hj hn' kk
theorem xx_iastN {o n j x : Nat} {rs : List Nat} (hd : decode F.2.2.1 pc = .ok (.iastore, 1)) (hs : sh[o]? = some (100, n, rs)) (hj : j < n) (hn' : n < 2 ^ 31) (kk : xx l E F kc (pc + 1) L st sh (hn (wu w o j x))) : xx l E F kc pc L (.int (nI x) :: .int (nI j) :: ic_pt E o :: st) sh (hn w) := xx_iast j hd hs rfl hj hn' (by rw [hn_up]; exact kk)
theorem xx_isubW {h : ic_H} {a b : Nat} (hd : decode F.2.2.1 pc = .ok (.isub, 1)) (hb : b ≤ 2 ^ 32) (kk : xx l E F kc (pc + 1) L (.int (nI (a + (2 ^ 32 - b))) :: st) sh h) : xx l E F kc pc L (.int (nI b) :: .int (nI a) :: st) sh h := xx_isub hd (by rw [nI_subW hb]; exact kk)
theorem xx_if_ltS {h : ic_H} {a : Nat} {off : Int} (tgt : Nat) (hd : decode F.2.2.1 pc = .ok (.ifCond .lt off, 3)) (ht : (pc : Int) + off = (tgt : Int)) (ha : a < 2 ^ 32) (kt : 2 ^ 31 ≤ a → xx l E F kc tgt L st sh h) (kf : a < 2 ^ 31 → xx l E F kc (pc + 3) L st sh h) : xx l E F kc pc L (.int (nI a) :: st) sh h := xx_if_lt tgt hd ht (fun q => kt ((nI_lt0 ha).mp q)) (fun q => kf (Nat.lt_of_not_le fun z => q ((nI_lt0 ha).mpr z)))
theorem xx_if_geS {h : ic_H} {a : Nat} {off : Int} (tgt : Nat) (hd : decode F.2.2.1 pc = .ok (.ifCond .ge off, 3)) (ht : (pc : Int) + off = (tgt : Int)) (ha : a < 2 ^ 32) (kt : a < 2 ^ 31 → xx l E F kc tgt L st sh h) (kf : 2 ^ 31 ≤ a → xx l E F kc (pc + 3) L st sh h) : xx l E F kc pc L (.int (nI a) :: st) sh h := xx_if_ge tgt hd ht (fun q => kt (Nat.lt_of_not_le fun z => Int32.not_lt.mpr q ((nI_lt0 ha).mpr z))) (fun q => kf ((nI_lt0 ha).mp (Int32.not_le.mp q)))
variable {h : ic_H} {Y : ic_Y} {n d' idx : Nat} {Q' : Option Value → ic_H → Prop} {st0 : List Value}
theorem xx_callS0 {As : List Value} (hC : ic_C l E Y d' 0 0 F.2.2.2.2.2.2.1 As sh h sh2 Q') (hY : ic_Yk Y n) (hc : ic_cS F.1 idx Y) (hd : decode F.2.2.1 pc = .ok (.invokestatic idx, 3)) (hn : As.length = n) (hst : st0 = As.reverse ++ st) (hW : (st.map fun v => v.category).sum ≤ 8)
    (hR : d' + 1 ≤ F.2.2.2.2.2.1.frames ∧ 8 + (Y.2.2.1 + 11) + 48 * d' ≤ F.2.2.2.2.2.1.locals) (hf : kc.1 ≤ F.2.2.2.2.2.1.cells ∧ kc.2 ≤ F.2.2.2.2.2.1.slots) (kk : ∀ r h', Q' r h' → xx l E F kc (pc + 3) L (r.toList ++ st) sh2 h') : xx l E F kc pc L st0 sh h := xx_callS hC hY hc hd hn hst hW hR hf kk
theorem xx_callSN0 {As : List Value} {host : String} (hC : ic_C l E Y d' 0 0 F.2.2.2.2.2.2.1 As sh h sh2 Q') (hY : ic_Yk Y n) (hc : ic_cN F.1 idx Y host) (hs : Cond.static Y.1 ∈ ic_W) (hd : decode F.2.2.1 pc = .ok (.invokestatic idx, 3)) (hn : As.length = n) (hst : st0 = As.reverse ++ st) (hW : (st.map fun v => v.category).sum ≤ 8)
    (hR : d' + 1 ≤ F.2.2.2.2.2.1.frames ∧ 8 + (Y.2.2.1 + 11) + 48 * d' ≤ F.2.2.2.2.2.1.locals) (hf : kc.1 ≤ F.2.2.2.2.2.1.cells ∧ kc.2 ≤ F.2.2.2.2.2.1.slots) (kk : ∀ r h', Q' r h' → xx l E F kc (pc + 3) L (r.toList ++ st) sh2 h') : xx l E F kc pc L st0 sh h := xx_callSN hC hY hc hs hd hn hst hW hR hf kk
theorem xx_callV0 {o c nn : Nat} {rs : List Nat} {As : List Value} (hs : sh[o]? = some (c, nn, rs)) (hC : ic_C l E Y d' 0 0 F.2.2.2.2.2.2.1 (ic_pt E o :: As) sh h sh2 Q') (hY : ic_Yk Y n) (hc : ic_cV F.1 idx c Y) (hd : decode F.2.2.1 pc = .ok (.invokevirtual idx, 3)) (hn : As.length = n) (hst : st0 = As.reverse ++ (ic_pt E o :: st)) (hW : (st.map fun v => v.category).sum ≤ 8)
    (hR : d' + 1 ≤ F.2.2.2.2.2.1.frames ∧ 8 + (Y.2.2.1 + 11) + 48 * d' ≤ F.2.2.2.2.2.1.locals) (hf : kc.1 ≤ F.2.2.2.2.2.1.cells ∧ kc.2 ≤ F.2.2.2.2.2.1.slots) (kk : ∀ r h', Q' r h' → xx l E F kc (pc + 3) L (r.toList ++ st) sh2 h') : xx l E F kc pc L st0 sh h := xx_callV hs hC hY hc hd hn hst hW hR hf kk
theorem xx_callU0 {o c nn : Nat} {rs : List Nat} {x : MethodName} {owner : String} {As : List Value} (hs : sh[o]? = some (c, nn, rs)) (hC : ic_C l E Y d' 0 0 F.2.2.2.2.2.2.1 (ic_pt E o :: As) sh h sh2 Q') (hY : ic_Yk Y n) (hc : ic_cU F.1 idx c x owner Y) (hd : decode F.2.2.1 pc = .ok (.invokevirtual idx, 3)) (hn : As.length = n) (hst : st0 = As.reverse ++ (ic_pt E o :: st)) (hW : (st.map fun v => v.category).sum ≤ 8)
    (hR : d' + 1 ≤ F.2.2.2.2.2.1.frames ∧ 8 + (Y.2.2.1 + 11) + 48 * d' ≤ F.2.2.2.2.2.1.locals) (hf : kc.1 ≤ F.2.2.2.2.2.1.cells ∧ kc.2 ≤ F.2.2.2.2.2.1.slots) (kk : ∀ r h', Q' r h' → xx l E F kc (pc + 3) L (r.toList ++ st) sh2 h') : xx l E F kc pc L st0 sh h := xx_callU hs hC hY hc hd hn hst hW hR hf kk
theorem xx_callP0 {o c nn : Nat} {rs : List Nat} {As : List Value} (hs : sh[o]? = some (c, nn, rs)) (hcc : c < 13) (hC : ic_C l E Y d' 0 0 F.2.2.2.2.2.2.1 (ic_pt E o :: As) sh h sh2 Q') (hY : ic_Yk Y n) (hc : ic_cP F.1 idx Y) (hd : decode F.2.2.1 pc = .ok (.invokespecial idx, 3)) (hn : As.length = n) (hst : st0 = As.reverse ++ (ic_pt E o :: st)) (hW : (st.map fun v => v.category).sum ≤ 8)
    (hR : d' + 1 ≤ F.2.2.2.2.2.1.frames ∧ 8 + (Y.2.2.1 + 11) + 48 * d' ≤ F.2.2.2.2.2.1.locals) (hf : kc.1 ≤ F.2.2.2.2.2.1.cells ∧ kc.2 ≤ F.2.2.2.2.2.1.slots) (kk : ∀ r h', Q' r h' → xx l E F kc (pc + 3) L (r.toList ++ st) sh2 h') : xx l E F kc pc L st0 sh h := xx_callP hs hcc hC hY hc hd hn hst hW hR hf kk
theorem xx_callStr0 {i : Nat} {As : List Value} (hi : i < 18) (hC : ic_C l E Y d' 0 0 F.2.2.2.2.2.2.1 (ic_sp E i :: As) sh h sh2 Q') (hY : ic_Yk Y n) (hc : Y.1.cls = "java/lang/String" ∧ Cond.methodLink F.1 idx Y.1 ∈ ic_W ∧ Cond.instanceMethod Y.1 ∈ ic_W ∧ Cond.selects "java/lang/String" Y.1 Y.1 ∈ ic_W) (hd : decode F.2.2.1 pc = .ok (.invokevirtual idx, 3)) (hn : As.length = n) (hst : st0 = As.reverse ++ (ic_sp E i :: st)) (hW : (st.map fun v => v.category).sum ≤ 8)
    (hR : d' + 1 ≤ F.2.2.2.2.2.1.frames ∧ 8 + (Y.2.2.1 + 11) + 48 * d' ≤ F.2.2.2.2.2.1.locals) (hf : kc.1 ≤ F.2.2.2.2.2.1.cells ∧ kc.2 ≤ F.2.2.2.2.2.1.slots) (kk : ∀ r h', Q' r h' → xx l E F kc (pc + 3) L (r.toList ++ st) sh2 h') : xx l E F kc pc L st0 sh h := xx_callStr hi hC hY hc hd hn hst hW hR hf kk
theorem xx_nw {x : ic_w} (kk : ∀ z : ic_w, z = x → xx l E F kc pc L st sh (hn z)) : xx l E F kc pc L st sh (hn x) := kk x rfl
theorem xx_aload_nP {q : Fin 4} {i o : Nat} (hd : decode F.2.2.1 pc = .ok (.aload_n q, 1)) (j : Nat) (hi : (q : Nat) = i) (hj : L[j]? = some (i, ic_pt E o)) (kk : xx l E F kc (pc + 1) L (ic_pt E o :: st) sh h) : xx l E F kc pc L st sh h := xx_aload_n hd j hi hj kk
theorem xx_aloadP {i o : Nat} (hd : decode F.2.2.1 pc = .ok (.aload i, 2)) (j : Nat) (hj : L[j]? = some (i, ic_pt E o)) (kk : xx l E F kc (pc + 2) L (ic_pt E o :: st) sh h) : xx l E F kc pc L st sh h := xx_aload hd j hj kk
theorem xx_aload_nG {q : Fin 4} {i x : Nat} {v : Value} (hd : decode F.2.2.1 pc = .ok (.aload_n q, 1)) (j : Nat) (hi : (q : Nat) = i) (hj : L[j]? = some (i, v)) (hv : v = .ref x) (kk : xx l E F kc (pc + 1) L (v :: st) sh h) : xx l E F kc pc L st sh h := by
  subst hv
  exact xx_aload_n hd j hi hj kk
theorem xx_aloadG {i x : Nat} {v : Value} (hd : decode F.2.2.1 pc = .ok (.aload i, 2)) (j : Nat) (hj : L[j]? = some (i, v)) (hv : v = .ref x) (kk : xx l E F kc (pc + 2) L (v :: st) sh h) : xx l E F kc pc L st sh h := by
  subst hv
  exact xx_aload hd j hj kk
end XW
theorem xx_ialdE {l : Launch} {E : ic_E} {F : ic_F} {kc : Nat × Nat} {pc : Nat} {L : List (Nat × Value)} {st : List Value} {sh : List ic_S} {w : ic_w} {o n j j2 : Nat} {rs : List Nat} (hd : decode F.2.2.1 pc = .ok (.iaload, 1)) (hs : sh[o]? = some (100, n, rs)) (e : j = j2) (hj : j2 < n) (hn' : n < 2 ^ 31) (kk : xx l E F kc (pc + 1) L (.int (nI (w o j2)) :: st) sh (hn w)) : xx l E F kc pc L (.int (nI j) :: ic_pt E o :: st) sh (hn w) := by
  subst e
  exact xx_ialdN hd hs hj hn' kk
theorem xx_baldE {l : Launch} {E : ic_E} {F : ic_F} {kc : Nat × Nat} {pc : Nat} {L : List (Nat × Value)} {st : List Value} {sh : List ic_S} {w : ic_w} {o n j j2 : Nat} {rs : List Nat} (hd : decode F.2.2.1 pc = .ok (.baload, 1)) (hs : sh[o]? = some (101, n, rs)) (e : j = j2) (hj : j2 < n) (hn' : n < 2 ^ 31) (kk : xx l E F kc (pc + 1) L (.int (nI (w o j2)) :: st) sh (hn w)) : xx l E F kc pc L (.int (nI j) :: ic_pt E o :: st) sh (hn w) := by
  subst e
  exact xx_baldN hd hs hj hn' kk
theorem xx_iastE {l : Launch} {E : ic_E} {F : ic_F} {kc : Nat × Nat} {pc : Nat} {L : List (Nat × Value)} {st : List Value} {sh : List ic_S} {w : ic_w} {o n j j2 x : Nat} {rs : List Nat} (hd : decode F.2.2.1 pc = .ok (.iastore, 1)) (hs : sh[o]? = some (100, n, rs)) (e : j = j2) (hj : j2 < n) (hn' : n < 2 ^ 31) (kk : xx l E F kc (pc + 1) L st sh (hn (wu w o j2 x))) : xx l E F kc pc L (.int (nI x) :: .int (nI j) :: ic_pt E o :: st) sh (hn w) := by
  subst e
  exact xx_iastN hd hs hj hn' kk
