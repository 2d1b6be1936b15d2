/-! the class: what is shared -/
theorem hn_cp (w : ic_w) (o i o2 j n : Nat) : ic_cp (hn w) o i o2 j n = hn (wr w o2 (mo_cp (w o2) j (w o) i n)) := by
  funext a q
  unfold ic_cp hn wr va_cpy mo_cp
  by_cases h : a = o2
  · subst h
    simp only [if_true]
    split <;> rfl
  · simp only [if_neg h]
theorem xx_copyN {l : Launch} {E : ic_E} {F : ic_F} {kc : Nat × Nat} {pc : Nat} {L : List (Nat × Value)} {st : List Value} {sh : List ic_S} {w : ic_w} {idx o n0 o2 n2 i j n : Nat} {rs rs2 : List Nat} (hz : F.2.2.2.2.2.2.1 = False) (hd : decode F.2.2.1 pc = .ok (.invokestatic idx, 3)) (hl1 : Cond.methodLink F.1 idx arraycopyName ∈ ic_W)
    (hs : sh[o]? = some (100, n0, rs)) (hs2 : sh[o2]? = some (100, n2, rs2)) (h1 : i + n ≤ n0) (h2 : j + n ≤ n2) (hb : n0 < 2 ^ 31 ∧ n2 < 2 ^ 31) (hR : 1 ≤ F.2.2.2.2.2.1.frames ∧ (st.map fun v => v.category).sum + (nativeFrameWords "java/lang/System" "arraycopy" 5 + 11) ≤ F.2.2.2.2.2.1.locals)
    (kk : xx l E F kc (pc + 3) L st sh (hn (wr w o2 (mo_cp (w o2) j (w o) i n)))) : xx l E F kc pc L (.int (nI n) :: .int (nI j) :: ic_pt E o2 :: .int (nI i) :: ic_pt E o :: st) sh (hn w) :=
  xx_copy i j n hz hd hl1 a_all hs hs2 rfl rfl rfl h1 h2 hb hR (by rw [hn_cp]; exact kk)
theorem s_X11_isUnder : Cond.static mX11_isUnder.1 ∈ ic_W := sX11_348.2
theorem s_X11_has : Cond.static mX11_has.1 ∈ ic_W := sX11_236.2
theorem s_X11_within : Cond.static mX11_within.1 ∈ ic_W := sX11_94.2
theorem ic_ofWF {l : Launch} {y : MethodName} {ws ws' : List Cond} {rm : Room} {Pc : Array Value → State → Prop} {Qc : Array Value → State → Outcome → State → Prop} {mc ms : Nat} {free : Addr → Prop} {cc : ByteArray} {maxL : Nat} {ret : Option FieldType}
    (hy : plainFor y = true) (hw : ws = Cond.code y cc maxL ret :: ws')
    (body : ∀ p e s m args below meth c s₁, BodyLoose p l y (headSpec ws rm) cc maxL ret e s m args below meth c s₁ → c.maxLocals = maxL → Pc args s →
      W p l e (headSpec ws rm).room s m args below meth c s.heap [] 0 0 (MQ below Qc args s mc ms free) (entryFrame m args maxL)) : Met l y ws rm Pc Qc mc ms free := by
  refine MetFree.of_bodySF (code := cc) (maxLocals := maxL) (ret := ret) hy ?_ ?_
  · intro args s m h hn
    obtain ⟨meth, c, h1, h2, h3, h4, h5, h6, -, -⟩ := Cond.code_spec hn (atoms_spec (ws := ws) h _ (by rw [hw]; exact List.mem_cons_self))
    exact ⟨meth, c, h1, h2, h3, h4, h5, h6⟩
  · intro p e s m args below meth c s₁ B hml hP _
    have hh0 : s₁.heap = s.heap := by rw [B.state]; rfl
    obtain ⟨t, a1, o, b1, b2, b3⟩ := body p e s m args below meth c s₁ B hml hP s₁ hh0 (Stand.of_body B)
    exact ⟨t, o, a1, b1, b2, ⟨b3.1, b3.2⟩⟩
/-- a contract begun, in a class of which some methods are run otherwise -/
theorem ic_introF {l : Launch} {E : ic_E} {Y : ic_Y} {d mc ms : Nat} {z : Prop} {As : List Value} {sh : List ic_S} {h : ic_H} {sh' : List ic_S} {Q : Option Value → ic_H → Prop} (hy : plainFor Y.1 = true) (hn : (lg_sl As).length ≤ Y.2.2.1)
    (body : xx l E (ic_fr E Y d mc ms z sh' Q) (0, 0) 0 (lv_args 0 As) [] sh h) : ic_C l E Y d mc ms z As sh h sh' Q := by
  refine ic_ofWF (cc := Y.2.1) (maxL := Y.2.2.1) (ret := Y.2.2.2) hy rfl ?_
  intro p e s m args below meth c s₁ B hml hP
  obtain ⟨rfl, hM, hK⟩ := hP
  have hts := atoms_spec (ws := Cond.code Y.1 Y.2.1 Y.2.2.1 Y.2.2.2 :: ic_W) B.pre
  have hown : s.vm.findClass Y.1.cls = some m.cls := findClass_of_methodNamed B.named
  have hl := lv_entry As (n := Y.2.2.1) hn
  rw [lg_entry_eq]
  exact body p e s m As.toArray below meth c s.heap [] _ ⟨B.exec, B.bytes, B.returns, B.notSynchronized, hml, hown, (name_of_methodNamed B.named B.method).1, fun w hw => hts w (List.mem_cons_of_mem _ hw), hK, trivial⟩ hM va_S.rf hl
/-- ints that are naturals, and such below 0 -/
theorem xx_icmp_ltS {l : Launch} {E : ic_E} {F : ic_F} {kc : Nat × Nat} {pc : Nat} {L : List (Nat × Value)} {st : List Value} {sh : List ic_S} {h : ic_H} {a b : Nat} {off : Int} (tgt : Nat) (hd : decode F.2.2.1 pc = .ok (.if_icmp .lt off, 3)) (ht : (pc : Int) + off = (tgt : Int)) (ha : a < 2 ^ 32) (hb : b < 2 ^ 31) (kt : 2 ^ 31 ≤ a ∨ a < b → xx l E F kc tgt L st sh h) (kf : a < 2 ^ 31 ∧ b ≤ a → xx l E F kc (pc + 3) L st sh h) : xx l E F kc pc L (.int (nI b) :: .int (nI a) :: st) sh h := by
  refine xx_icmp_lt tgt hd ht (fun q => kt ?_) (fun q => kf ?_) <;> rw [Int32.lt_iff_toInt_lt, nI_sgn ha, nI_sgn (by omega), if_pos hb] at q <;> split at q <;> omega
theorem xx_icmp_geS {l : Launch} {E : ic_E} {F : ic_F} {kc : Nat × Nat} {pc : Nat} {L : List (Nat × Value)} {st : List Value} {sh : List ic_S} {h : ic_H} {a b : Nat} {off : Int} (tgt : Nat) (hd : decode F.2.2.1 pc = .ok (.if_icmp .ge off, 3)) (ht : (pc : Int) + off = (tgt : Int)) (ha : a < 2 ^ 32) (hb : b < 2 ^ 31) (kt : a < 2 ^ 31 ∧ b ≤ a → xx l E F kc tgt L st sh h) (kf : 2 ^ 31 ≤ a ∨ a < b → xx l E F kc (pc + 3) L st sh h) : xx l E F kc pc L (.int (nI b) :: .int (nI a) :: st) sh h := by
  refine xx_icmp_ge tgt hd ht (fun q => kt ?_) (fun q => kf ?_) <;> rw [Int32.le_iff_toInt_le, nI_sgn ha, nI_sgn (by omega), if_pos hb] at q <;> split at q <;> omega
/-- both may be below 0 -/
theorem xx_icmp_gtZ {l : Launch} {E : ic_E} {F : ic_F} {kc : Nat × Nat} {pc : Nat} {L : List (Nat × Value)} {st : List Value} {sh : List ic_S} {h : ic_H} {a b : Nat} {off : Int} (tgt : Nat) (hd : decode F.2.2.1 pc = .ok (.if_icmp .gt off, 3)) (ht : (pc : Int) + off = (tgt : Int)) (ha : a < 2 ^ 31) (hb : b < 2 ^ 32) (kt : 2 ^ 31 ≤ b ∨ b < a → xx l E F kc tgt L st sh h) (kf : b < 2 ^ 31 ∧ a ≤ b → xx l E F kc (pc + 3) L st sh h) : xx l E F kc pc L (.int (nI b) :: .int (nI a) :: st) sh h := by
  refine xx_icmp_gt tgt hd ht (fun q => kt ?_) (fun q => kf ?_) <;> rw [Int32.lt_iff_toInt_lt, nI_sgn hb, nI_sgn (by omega), if_pos ha] at q <;> split at q <;> omega
theorem xx_icmp_leZ {l : Launch} {E : ic_E} {F : ic_F} {kc : Nat × Nat} {pc : Nat} {L : List (Nat × Value)} {st : List Value} {sh : List ic_S} {h : ic_H} {a b : Nat} {off : Int} (tgt : Nat) (hd : decode F.2.2.1 pc = .ok (.if_icmp .le off, 3)) (ht : (pc : Int) + off = (tgt : Int)) (ha : a < 2 ^ 31) (hb : b < 2 ^ 32) (kt : b < 2 ^ 31 ∧ a ≤ b → xx l E F kc tgt L st sh h) (kf : 2 ^ 31 ≤ b ∨ b < a → xx l E F kc (pc + 3) L st sh h) : xx l E F kc pc L (.int (nI b) :: .int (nI a) :: st) sh h := by
  refine xx_icmp_le tgt hd ht (fun q => kt ?_) (fun q => kf ?_) <;> rw [Int32.le_iff_toInt_le, nI_sgn hb, nI_sgn (by omega), if_pos ha] at q <;> split at q <;> omega
/-- a bit of a set told by bits -/
theorem mo_set_bit (P : Nat → Bool) (k : Nat) : ∀ n, mo_set P n / 2 ^ k % 2 = if k < n ∧ P k = true then 1 else 0
  | 0 => by rw [mo_set, Nat.zero_div, if_neg (by omega)]
  | n + 1 => by
    have ih := mo_set_bit P k n
    have hl := mo_set_lt P n
    rw [mo_set]
    by_cases h : k = n
    · subst h
      have e0 : mo_set P k / 2 ^ k = 0 := Nat.div_eq_of_lt hl
      by_cases hp : P k = true
      · rw [if_pos hp, if_pos ⟨by omega, hp⟩, Nat.add_div_right _ (Nat.two_pow_pos k), e0]
      · rw [if_neg hp, if_neg (fun z => hp z.2), Nat.add_zero, e0]
    · by_cases h2 : k < n
      · have e1 : (mo_set P n + if P n = true then 2 ^ n else 0) / 2 ^ k % 2 = mo_set P n / 2 ^ k % 2 := by
          split
          · have : 2 ^ n = 2 ^ k * (2 * 2 ^ (n - k - 1)) := by rw [← Nat.mul_assoc, ← Nat.pow_succ, ← Nat.pow_add]; congr 1; omega
            rw [this, Nat.add_mul_div_left _ _ (Nat.two_pow_pos k)]
            omega
          · rfl
        rw [e1, ih]
        by_cases hp : P k = true
        · rw [if_pos ⟨h2, hp⟩, if_pos ⟨by omega, hp⟩]
        · rw [if_neg (fun z => hp z.2), if_neg (fun z => hp z.2)]
      · have e2 : (mo_set P n + if P n = true then 2 ^ n else 0) / 2 ^ k = 0 := by
          apply Nat.div_eq_of_lt
          have := mo_set_lt P (n + 1)
          rw [mo_set] at this
          exact Nat.lt_of_lt_of_le this (Nat.pow_le_pow_right (by omega) (by omega))
        rw [e2, if_neg (by omega)]
theorem mo_and1 (a : Nat) : a &&& 1 = a % 2 := Nat.and_one_is_mod a
theorem mo_and3 (a : Nat) : a &&& 3 = a % 4 := Nat.and_two_pow_sub_one_eq_mod a 2

set_option maxHeartbeats 4000000 in
set_option maxRecDepth 100000 in
theorem cC_within {l : Launch} {E : ic_E} {w : ic_w} {v lo hi : Nat} (hv : v < 2 ^ 32) (hlo : lo < 2 ^ 31) (hhi : hi < 2 ^ 31) : ic_C l E mX11_within 1 0 0 False [.int (nI v), .int (nI lo), .int (nI hi)] SHs (hn w) SHs (ic_qe (nI (ic_bo (lo ≤ v ∧ v ≤ hi))) (hn w)) := by
  refine ic_intro (by decide +kernel) (Nat.le_of_ble_eq_true rfl) ?_
  show xx l E _ _ 0 [(0, .int (nI v)), (1, .int (nI lo)), (2, .int (nI hi))] _ _ _
  refine xx_iload_n (pc := 0) dX11_within_0 0 rfl rfl ?_
  refine xx_iload_n (pc := 1) dX11_within_1 1 rfl rfl ?_
  refine xx_icmp_ltS (pc := 2) 14 dX11_within_2 rfl (by omega) (by omega) (fun c1 => ?_) (fun c1 => ?_)
  · refine xx_iconst (pc := 14) dX11_within_14 cc_iconst_0 ?_
    exact xx_iret (pc := 15) dX11_within_15 rfl (rfl) (Nat.le_refl _) (Nat.le_refl _) (ic_re (ic_bo_f (by omega)).symm)
  · refine xx_iload_n (pc := 5) dX11_within_5 0 rfl rfl ?_
    refine xx_iload_n (pc := 6) dX11_within_6 2 rfl rfl ?_
    refine xx_icmp_gtN (pc := 7) 14 dX11_within_7 rfl (by omega) (by omega) (fun c2 => ?_) (fun c2 => ?_)
    · refine xx_iconst (pc := 14) dX11_within_14 cc_iconst_0 ?_
      exact xx_iret (pc := 15) dX11_within_15 rfl (rfl) (Nat.le_refl _) (Nat.le_refl _) (ic_re (ic_bo_f (by omega)).symm)
    · refine xx_iconst (pc := 10) dX11_within_10 cc_iconst_1 ?_
      refine xx_goto (pc := 11) 15 dX11_within_11 rfl ?_
      exact xx_iret (pc := 15) dX11_within_15 rfl (rfl) (Nat.le_refl _) (Nat.le_refl _) (ic_re (ic_bo_t (by omega)).symm)

theorem cC_withinM {l : Launch} {E : ic_E} {w : ic_w} {v n : Nat} (hv : v < 2 ^ 32) (hn31 : n < 2 ^ 31) : ic_C l E mX11_within 1 0 0 False [.int (nI v), .int (nI 0), .int (nI (n + (4294967296 - 1)))] SHs (hn w) SHs (ic_qe (nI (ic_bo (v < n))) (hn w)) := by
  rcases Nat.eq_zero_or_pos n with h | h
  · subst h
    refine ic_intro (by decide +kernel) (Nat.le_of_ble_eq_true rfl) ?_
    show xx l E _ _ 0 [(0, .int (nI v)), (1, .int (nI 0)), (2, .int (nI (0 + (4294967296 - 1))))] _ _ _
    refine xx_iload_n (pc := 0) dX11_within_0 0 rfl rfl ?_
    refine xx_iload_n (pc := 1) dX11_within_1 1 rfl rfl ?_
    have e0 : ic_bo (v < 0) = 0 := ic_bo_f (by omega)
    rw [e0]
    refine xx_icmp_ltS (pc := 2) 14 dX11_within_2 rfl (by omega) (by omega) (fun c1 => ?_) (fun c1 => ?_)
    · refine xx_iconst (pc := 14) dX11_within_14 cc_iconst_0 ?_
      exact xx_iret (pc := 15) dX11_within_15 rfl (rfl) (Nat.le_refl _) (Nat.le_refl _) (ic_re rfl)
    · refine xx_iload_n (pc := 5) dX11_within_5 0 rfl rfl ?_
      refine xx_iload_n (pc := 6) dX11_within_6 2 rfl rfl ?_
      refine xx_icmp_gtZ (pc := 7) 14 dX11_within_7 rfl (by omega) (by omega) (fun c2 => ?_) (fun c2 => ?_)
      · refine xx_iconst (pc := 14) dX11_within_14 cc_iconst_0 ?_
        exact xx_iret (pc := 15) dX11_within_15 rfl (rfl) (Nat.le_refl _) (Nat.le_refl _) (ic_re rfl)
      · exfalso
        omega
  · have e : nI (n + (4294967296 - 1)) = nI (n - 1) := by
      have := nI_subW (a := n) (b := 1) (by omega)
      rw [pk_sub h] at this
      exact this.symm
    have K := cC_within (l := l) (E := E) (w := w) (v := v) (lo := 0) (hi := n - 1) hv (by omega) (by omega)
    rw [e]
    rw [ic_bo_iff (show v < n ↔ (0 ≤ v ∧ v ≤ n - 1) by omega)]
    exact K
set_option maxHeartbeats 4000000 in
set_option maxRecDepth 100000 in
theorem cC_has {l : Launch} {E : ic_E} {w : ic_w} {t k : Nat} (ht : t < 2 ^ 31) (hk : k < 32) : ic_C l E mX11_has 1 0 0 False [.int (nI t), .int (nI k)] SHs (hn w) SHs (ic_qe (nI (ic_bo (t / 2 ^ k % 2 = 1))) (hn w)) := by
  refine ic_intro (by decide +kernel) (Nat.le_of_ble_eq_true rfl) ?_
  show xx l E _ _ 0 [(0, .int (nI t)), (1, .int (nI k))] _ _ _
  refine xx_iload_n (pc := 0) dX11_has_0 0 rfl rfl ?_
  refine xx_iload_n (pc := 1) dX11_has_1 1 rfl rfl ?_
  refine xx_ishrN (pc := 2) dX11_has_2 (by omega) (by omega) ?_
  refine xx_iconst (pc := 3) dX11_has_3 cc_iconst_1 ?_
  refine xx_iandN (pc := 4) dX11_has_4 ?_
  refine xx_if_eqN (pc := 5) 12 dX11_has_5 rfl (by have := mo_and1 (t / 2 ^ k); omega) (fun c1 => ?_) (fun c1 => ?_)
  · have hx_ := mo_and1 (t / 2 ^ k)
    refine xx_iconst (pc := 12) dX11_has_12 cc_iconst_0 ?_
    exact xx_iret (pc := 13) dX11_has_13 rfl (rfl) (Nat.le_refl _) (Nat.le_refl _) (ic_re (ic_bo_f (by omega)).symm)
  · have hx_ := mo_and1 (t / 2 ^ k)
    refine xx_iconst (pc := 8) dX11_has_8 cc_iconst_1 ?_
    refine xx_goto (pc := 9) 13 dX11_has_9 rfl ?_
    exact xx_iret (pc := 13) dX11_has_13 rfl (rfl) (Nat.le_refl _) (Nat.le_refl _) (ic_re (ic_bo_t (by omega)).symm)

set_option maxHeartbeats 4000000 in
set_option maxRecDepth 100000 in
theorem cC_isMadeKind {l : Launch} {E : ic_E} {w : ic_w} {v : Nat} (hv : v < 2 ^ 32) : ic_C l E mX11_isMadeKind 2 0 0 False [.int (nI v)] SHs (hn w) SHs (ic_qe (nI (ic_bo (1 ≤ v ∧ v ≤ 5))) (hn w)) := by
  refine ic_intro (by decide +kernel) (Nat.le_of_ble_eq_true rfl) ?_
  show xx l E _ _ 0 [(0, .int (nI v))] _ _ _
  refine xx_iload_n (pc := 0) dX11_isMadeKind_0 0 rfl rfl ?_
  refine xx_iconst (pc := 1) dX11_isMadeKind_1 cc_iconst_1 ?_
  refine xx_iconst (pc := 2) dX11_isMadeKind_2 cc_iconst_5 ?_
  refine xx_callS0 (pc := 3) (st := []) (cC_within (w := w) (v := v) (lo := 1) (hi := 5) (by omega) (by omega) (by omega)) kX11_within sX11_94 dX11_isMadeKind_3 rfl rfl (Nat.le_of_ble_eq_true rfl) ⟨Nat.le_of_ble_eq_true rfl, Nat.le_of_ble_eq_true rfl⟩ ⟨Nat.zero_le _, Nat.zero_le _⟩ (ic_ke ?_)
  exact xx_iret (pc := 6) dX11_isMadeKind_6 rfl (ic_nbo) (Nat.le_refl _) (Nat.le_refl _) (ic_re (ic_bo_iff (by omega)))

set_option maxHeartbeats 4000000 in
set_option maxRecDepth 100000 in
theorem cC_isStop {l : Launch} {E : ic_E} {w : ic_w} {v : Nat} (hv : v < 2 ^ 32) : ic_C l E mX11_isStop 2 0 0 False [.int (nI v)] SHs (hn w) SHs (ic_qe (nI (ic_bo (v ≤ 5))) (hn w)) := by
  refine ic_intro (by decide +kernel) (Nat.le_of_ble_eq_true rfl) ?_
  show xx l E _ _ 0 [(0, .int (nI v))] _ _ _
  refine xx_iload_n (pc := 0) dX11_isStop_0 0 rfl rfl ?_
  refine xx_iconst (pc := 1) dX11_isStop_1 cc_iconst_0 ?_
  refine xx_iconst (pc := 2) dX11_isStop_2 cc_iconst_5 ?_
  refine xx_callS0 (pc := 3) (st := []) (cC_within (w := w) (v := v) (lo := 0) (hi := 5) (by omega) (by omega) (by omega)) kX11_within sX11_94 dX11_isStop_3 rfl rfl (Nat.le_of_ble_eq_true rfl) ⟨Nat.le_of_ble_eq_true rfl, Nat.le_of_ble_eq_true rfl⟩ ⟨Nat.zero_le _, Nat.zero_le _⟩ (ic_ke ?_)
  exact xx_iret (pc := 6) dX11_isStop_6 rfl (ic_nbo) (Nat.le_refl _) (Nat.le_refl _) (ic_re (ic_bo_iff (by omega)))

set_option maxHeartbeats 4000000 in
set_option maxRecDepth 100000 in
theorem cC_isPlanLength {l : Launch} {E : ic_E} {w : ic_w} {v : Nat} (hv : v < 2 ^ 32) : ic_C l E mX11_isPlanLength 2 0 0 False [.int (nI v)] SHs (hn w) SHs (ic_qe (nI (ic_bo (v ≤ 4))) (hn w)) := by
  refine ic_intro (by decide +kernel) (Nat.le_of_ble_eq_true rfl) ?_
  show xx l E _ _ 0 [(0, .int (nI v))] _ _ _
  refine xx_iload_n (pc := 0) dX11_isPlanLength_0 0 rfl rfl ?_
  refine xx_iconst (pc := 1) dX11_isPlanLength_1 cc_iconst_0 ?_
  refine xx_iconst (pc := 2) dX11_isPlanLength_2 cc_iconst_4 ?_
  refine xx_callS0 (pc := 3) (st := []) (cC_within (w := w) (v := v) (lo := 0) (hi := 4) (by omega) (by omega) (by omega)) kX11_within sX11_94 dX11_isPlanLength_3 rfl rfl (Nat.le_of_ble_eq_true rfl) ⟨Nat.le_of_ble_eq_true rfl, Nat.le_of_ble_eq_true rfl⟩ ⟨Nat.zero_le _, Nat.zero_le _⟩ (ic_ke ?_)
  exact xx_iret (pc := 6) dX11_isPlanLength_6 rfl (ic_nbo) (Nat.le_refl _) (Nat.le_refl _) (ic_re (ic_bo_iff (by omega)))

set_option maxHeartbeats 4000000 in
set_option maxRecDepth 100000 in
theorem cC_isSheet {l : Launch} {E : ic_E} {w : ic_w} {v : Nat} (hv : v < 2 ^ 32) : ic_C l E mX11_isSheet 2 0 0 False [.int (nI v)] SHs (hn w) SHs (ic_qe (nI (ic_bo (v ≤ 3))) (hn w)) := by
  refine ic_intro (by decide +kernel) (Nat.le_of_ble_eq_true rfl) ?_
  show xx l E _ _ 0 [(0, .int (nI v))] _ _ _
  refine xx_iload_n (pc := 0) dX11_isSheet_0 0 rfl rfl ?_
  refine xx_iconst (pc := 1) dX11_isSheet_1 cc_iconst_0 ?_
  refine xx_iconst (pc := 2) dX11_isSheet_2 cc_iconst_3 ?_
  refine xx_callS0 (pc := 3) (st := []) (cC_within (w := w) (v := v) (lo := 0) (hi := 3) (by omega) (by omega) (by omega)) kX11_within sX11_94 dX11_isSheet_3 rfl rfl (Nat.le_of_ble_eq_true rfl) ⟨Nat.le_of_ble_eq_true rfl, Nat.le_of_ble_eq_true rfl⟩ ⟨Nat.zero_le _, Nat.zero_le _⟩ (ic_ke ?_)
  exact xx_iret (pc := 6) dX11_isSheet_6 rfl (ic_nbo) (Nat.le_refl _) (Nat.le_refl _) (ic_re (ic_bo_iff (by omega)))

set_option maxHeartbeats 4000000 in
set_option maxRecDepth 100000 in
theorem cC_isShelf {l : Launch} {E : ic_E} {w : ic_w} {v : Nat} (hv : v < 2 ^ 32) : ic_C l E mX11_isShelf 2 0 0 False [.int (nI v)] SHs (hn w) SHs (ic_qe (nI (ic_bo (v ≤ 3))) (hn w)) := by
  refine ic_intro (by decide +kernel) (Nat.le_of_ble_eq_true rfl) ?_
  show xx l E _ _ 0 [(0, .int (nI v))] _ _ _
  refine xx_iload_n (pc := 0) dX11_isShelf_0 0 rfl rfl ?_
  refine xx_iconst (pc := 1) dX11_isShelf_1 cc_iconst_0 ?_
  refine xx_iconst (pc := 2) dX11_isShelf_2 cc_iconst_3 ?_
  refine xx_callS0 (pc := 3) (st := []) (cC_within (w := w) (v := v) (lo := 0) (hi := 3) (by omega) (by omega) (by omega)) kX11_within sX11_94 dX11_isShelf_3 rfl rfl (Nat.le_of_ble_eq_true rfl) ⟨Nat.le_of_ble_eq_true rfl, Nat.le_of_ble_eq_true rfl⟩ ⟨Nat.zero_le _, Nat.zero_le _⟩ (ic_ke ?_)
  exact xx_iret (pc := 6) dX11_isShelf_6 rfl (ic_nbo) (Nat.le_refl _) (Nat.le_refl _) (ic_re (ic_bo_iff (by omega)))

set_option maxHeartbeats 4000000 in
set_option maxRecDepth 100000 in
theorem cC_isUnder {l : Launch} {E : ic_E} {w : ic_w} {own ab : Nat} (ho : own ≤ 5) (ha : ab ≤ 5) : ic_C l E mX11_isUnder 1 0 0 False [.int (nI own), .int (nI ab)] SHs (hn w) SHs (ic_qe (nI (ic_bo (mo_under own ab = true))) (hn w)) := by
  refine ic_intro (by decide +kernel) (Nat.le_of_ble_eq_true rfl) ?_
  show xx l E _ _ 0 [(0, .int (nI own)), (1, .int (nI ab))] _ _ _
  rcases (show own = 0 ∨ own = 1 ∨ own = 2 ∨ own = 3 ∨ own = 4 ∨ own = 5 by omega) with rfl | rfl | rfl | rfl | rfl | rfl
  · refine xx_iload_n (pc := 0) dX11_isUnder_0 0 rfl rfl ?_
    refine xx_iload_n (pc := 1) dX11_isUnder_1 1 rfl rfl ?_
    refine xx_icmp_eqN (pc := 2) 18 dX11_isUnder_2 rfl (by omega) (by omega) (fun c1 => ?_) (fun c1 => ?_)
    · refine xx_iconst (pc := 18) dX11_isUnder_18 cc_iconst_1 ?_
      refine xx_goto (pc := 19) 23 dX11_isUnder_19 rfl ?_
      exact xx_iret (pc := 23) dX11_isUnder_23 rfl (rfl) (Nat.le_refl _) (Nat.le_refl _) (ic_re (by unfold mo_under; simp only [decide_eq_true_eq, and_true, true_and]; first | exact (ic_bo_t (by omega)).symm | exact (ic_bo_f (by omega)).symm))
    · refine xx_iload_n (pc := 5) dX11_isUnder_5 1 rfl rfl ?_
      refine xx_if_eqN (pc := 6) 18 dX11_isUnder_6 rfl (by omega) (fun c2 => ?_) (fun c2 => ?_)
      · refine xx_iconst (pc := 18) dX11_isUnder_18 cc_iconst_1 ?_
        refine xx_goto (pc := 19) 23 dX11_isUnder_19 rfl ?_
        exact xx_iret (pc := 23) dX11_isUnder_23 rfl (rfl) (Nat.le_refl _) (Nat.le_refl _) (ic_re (by unfold mo_under; simp only [decide_eq_true_eq, and_true, true_and]; first | exact (ic_bo_t (by omega)).symm | exact (ic_bo_f (by omega)).symm))
      · refine xx_getsT (pc := 9) dX11_isUnder_9 gX11_393 ?_
        refine xx_iload_n (pc := 12) dX11_isUnder_12 0 rfl rfl ?_
        refine xx_tald (pc := 13) 0 dX11_isUnder_13 rfl (by omega) ?_
        refine xx_eqI (y := nI (0)) (by decide +kernel) ?_
        refine xx_iload_n (pc := 14) dX11_isUnder_14 1 rfl rfl ?_
        refine xx_icmp_neN (pc := 15) 22 dX11_isUnder_15 rfl (by omega) (by omega) (fun c3 => ?_) (fun c3 => ?_)
        · refine xx_iconst (pc := 22) dX11_isUnder_22 cc_iconst_0 ?_
          exact xx_iret (pc := 23) dX11_isUnder_23 rfl (rfl) (Nat.le_refl _) (Nat.le_refl _) (ic_re (by unfold mo_under; simp only [decide_eq_true_eq, and_true, true_and]; first | exact (ic_bo_t (by omega)).symm | exact (ic_bo_f (by omega)).symm))
        · refine xx_iconst (pc := 18) dX11_isUnder_18 cc_iconst_1 ?_
          refine xx_goto (pc := 19) 23 dX11_isUnder_19 rfl ?_
          exact xx_iret (pc := 23) dX11_isUnder_23 rfl (rfl) (Nat.le_refl _) (Nat.le_refl _) (ic_re (by unfold mo_under; simp only [decide_eq_true_eq, and_true, true_and]; first | exact (ic_bo_t (by omega)).symm | exact (ic_bo_f (by omega)).symm))
  · refine xx_iload_n (pc := 0) dX11_isUnder_0 0 rfl rfl ?_
    refine xx_iload_n (pc := 1) dX11_isUnder_1 1 rfl rfl ?_
    refine xx_icmp_eqN (pc := 2) 18 dX11_isUnder_2 rfl (by omega) (by omega) (fun c1 => ?_) (fun c1 => ?_)
    · refine xx_iconst (pc := 18) dX11_isUnder_18 cc_iconst_1 ?_
      refine xx_goto (pc := 19) 23 dX11_isUnder_19 rfl ?_
      exact xx_iret (pc := 23) dX11_isUnder_23 rfl (rfl) (Nat.le_refl _) (Nat.le_refl _) (ic_re (by unfold mo_under; simp only [decide_eq_true_eq, and_true, true_and]; first | exact (ic_bo_t (by omega)).symm | exact (ic_bo_f (by omega)).symm))
    · refine xx_iload_n (pc := 5) dX11_isUnder_5 1 rfl rfl ?_
      refine xx_if_eqN (pc := 6) 18 dX11_isUnder_6 rfl (by omega) (fun c2 => ?_) (fun c2 => ?_)
      · refine xx_iconst (pc := 18) dX11_isUnder_18 cc_iconst_1 ?_
        refine xx_goto (pc := 19) 23 dX11_isUnder_19 rfl ?_
        exact xx_iret (pc := 23) dX11_isUnder_23 rfl (rfl) (Nat.le_refl _) (Nat.le_refl _) (ic_re (by unfold mo_under; simp only [decide_eq_true_eq, and_true, true_and]; first | exact (ic_bo_t (by omega)).symm | exact (ic_bo_f (by omega)).symm))
      · refine xx_getsT (pc := 9) dX11_isUnder_9 gX11_393 ?_
        refine xx_iload_n (pc := 12) dX11_isUnder_12 0 rfl rfl ?_
        refine xx_tald (pc := 13) 1 dX11_isUnder_13 rfl (by omega) ?_
        refine xx_eqI (y := nI (0)) (by decide +kernel) ?_
        refine xx_iload_n (pc := 14) dX11_isUnder_14 1 rfl rfl ?_
        refine xx_icmp_neN (pc := 15) 22 dX11_isUnder_15 rfl (by omega) (by omega) (fun c3 => ?_) (fun c3 => ?_)
        · refine xx_iconst (pc := 22) dX11_isUnder_22 cc_iconst_0 ?_
          exact xx_iret (pc := 23) dX11_isUnder_23 rfl (rfl) (Nat.le_refl _) (Nat.le_refl _) (ic_re (by unfold mo_under; simp only [decide_eq_true_eq, and_true, true_and]; first | exact (ic_bo_t (by omega)).symm | exact (ic_bo_f (by omega)).symm))
        · refine xx_iconst (pc := 18) dX11_isUnder_18 cc_iconst_1 ?_
          refine xx_goto (pc := 19) 23 dX11_isUnder_19 rfl ?_
          exact xx_iret (pc := 23) dX11_isUnder_23 rfl (rfl) (Nat.le_refl _) (Nat.le_refl _) (ic_re (by unfold mo_under; simp only [decide_eq_true_eq, and_true, true_and]; first | exact (ic_bo_t (by omega)).symm | exact (ic_bo_f (by omega)).symm))
  · refine xx_iload_n (pc := 0) dX11_isUnder_0 0 rfl rfl ?_
    refine xx_iload_n (pc := 1) dX11_isUnder_1 1 rfl rfl ?_
    refine xx_icmp_eqN (pc := 2) 18 dX11_isUnder_2 rfl (by omega) (by omega) (fun c1 => ?_) (fun c1 => ?_)
    · refine xx_iconst (pc := 18) dX11_isUnder_18 cc_iconst_1 ?_
      refine xx_goto (pc := 19) 23 dX11_isUnder_19 rfl ?_
      exact xx_iret (pc := 23) dX11_isUnder_23 rfl (rfl) (Nat.le_refl _) (Nat.le_refl _) (ic_re (by unfold mo_under; simp only [decide_eq_true_eq, and_true, true_and]; first | exact (ic_bo_t (by omega)).symm | exact (ic_bo_f (by omega)).symm))
    · refine xx_iload_n (pc := 5) dX11_isUnder_5 1 rfl rfl ?_
      refine xx_if_eqN (pc := 6) 18 dX11_isUnder_6 rfl (by omega) (fun c2 => ?_) (fun c2 => ?_)
      · refine xx_iconst (pc := 18) dX11_isUnder_18 cc_iconst_1 ?_
        refine xx_goto (pc := 19) 23 dX11_isUnder_19 rfl ?_
        exact xx_iret (pc := 23) dX11_isUnder_23 rfl (rfl) (Nat.le_refl _) (Nat.le_refl _) (ic_re (by unfold mo_under; simp only [decide_eq_true_eq, and_true, true_and]; first | exact (ic_bo_t (by omega)).symm | exact (ic_bo_f (by omega)).symm))
      · refine xx_getsT (pc := 9) dX11_isUnder_9 gX11_393 ?_
        refine xx_iload_n (pc := 12) dX11_isUnder_12 0 rfl rfl ?_
        refine xx_tald (pc := 13) 2 dX11_isUnder_13 rfl (by omega) ?_
        refine xx_eqI (y := nI (0)) (by decide +kernel) ?_
        refine xx_iload_n (pc := 14) dX11_isUnder_14 1 rfl rfl ?_
        refine xx_icmp_neN (pc := 15) 22 dX11_isUnder_15 rfl (by omega) (by omega) (fun c3 => ?_) (fun c3 => ?_)
        · refine xx_iconst (pc := 22) dX11_isUnder_22 cc_iconst_0 ?_
          exact xx_iret (pc := 23) dX11_isUnder_23 rfl (rfl) (Nat.le_refl _) (Nat.le_refl _) (ic_re (by unfold mo_under; simp only [decide_eq_true_eq, and_true, true_and]; first | exact (ic_bo_t (by omega)).symm | exact (ic_bo_f (by omega)).symm))
        · refine xx_iconst (pc := 18) dX11_isUnder_18 cc_iconst_1 ?_
          refine xx_goto (pc := 19) 23 dX11_isUnder_19 rfl ?_
          exact xx_iret (pc := 23) dX11_isUnder_23 rfl (rfl) (Nat.le_refl _) (Nat.le_refl _) (ic_re (by unfold mo_under; simp only [decide_eq_true_eq, and_true, true_and]; first | exact (ic_bo_t (by omega)).symm | exact (ic_bo_f (by omega)).symm))
  · refine xx_iload_n (pc := 0) dX11_isUnder_0 0 rfl rfl ?_
    refine xx_iload_n (pc := 1) dX11_isUnder_1 1 rfl rfl ?_
    refine xx_icmp_eqN (pc := 2) 18 dX11_isUnder_2 rfl (by omega) (by omega) (fun c1 => ?_) (fun c1 => ?_)
    · refine xx_iconst (pc := 18) dX11_isUnder_18 cc_iconst_1 ?_
      refine xx_goto (pc := 19) 23 dX11_isUnder_19 rfl ?_
      exact xx_iret (pc := 23) dX11_isUnder_23 rfl (rfl) (Nat.le_refl _) (Nat.le_refl _) (ic_re (by unfold mo_under; simp only [decide_eq_true_eq, and_true, true_and]; first | exact (ic_bo_t (by omega)).symm | exact (ic_bo_f (by omega)).symm))
    · refine xx_iload_n (pc := 5) dX11_isUnder_5 1 rfl rfl ?_
      refine xx_if_eqN (pc := 6) 18 dX11_isUnder_6 rfl (by omega) (fun c2 => ?_) (fun c2 => ?_)
      · refine xx_iconst (pc := 18) dX11_isUnder_18 cc_iconst_1 ?_
        refine xx_goto (pc := 19) 23 dX11_isUnder_19 rfl ?_
        exact xx_iret (pc := 23) dX11_isUnder_23 rfl (rfl) (Nat.le_refl _) (Nat.le_refl _) (ic_re (by unfold mo_under; simp only [decide_eq_true_eq, and_true, true_and]; first | exact (ic_bo_t (by omega)).symm | exact (ic_bo_f (by omega)).symm))
      · refine xx_getsT (pc := 9) dX11_isUnder_9 gX11_393 ?_
        refine xx_iload_n (pc := 12) dX11_isUnder_12 0 rfl rfl ?_
        refine xx_tald (pc := 13) 3 dX11_isUnder_13 rfl (by omega) ?_
        refine xx_eqI (y := nI (2)) (by decide +kernel) ?_
        refine xx_iload_n (pc := 14) dX11_isUnder_14 1 rfl rfl ?_
        refine xx_icmp_neN (pc := 15) 22 dX11_isUnder_15 rfl (by omega) (by omega) (fun c3 => ?_) (fun c3 => ?_)
        · refine xx_iconst (pc := 22) dX11_isUnder_22 cc_iconst_0 ?_
          exact xx_iret (pc := 23) dX11_isUnder_23 rfl (rfl) (Nat.le_refl _) (Nat.le_refl _) (ic_re (by unfold mo_under; simp only [decide_eq_true_eq, and_true, true_and]; first | exact (ic_bo_t (by omega)).symm | exact (ic_bo_f (by omega)).symm))
        · refine xx_iconst (pc := 18) dX11_isUnder_18 cc_iconst_1 ?_
          refine xx_goto (pc := 19) 23 dX11_isUnder_19 rfl ?_
          exact xx_iret (pc := 23) dX11_isUnder_23 rfl (rfl) (Nat.le_refl _) (Nat.le_refl _) (ic_re (by unfold mo_under; simp only [decide_eq_true_eq, and_true, true_and]; first | exact (ic_bo_t (by omega)).symm | exact (ic_bo_f (by omega)).symm))
  · refine xx_iload_n (pc := 0) dX11_isUnder_0 0 rfl rfl ?_
    refine xx_iload_n (pc := 1) dX11_isUnder_1 1 rfl rfl ?_
    refine xx_icmp_eqN (pc := 2) 18 dX11_isUnder_2 rfl (by omega) (by omega) (fun c1 => ?_) (fun c1 => ?_)
    · refine xx_iconst (pc := 18) dX11_isUnder_18 cc_iconst_1 ?_
      refine xx_goto (pc := 19) 23 dX11_isUnder_19 rfl ?_
      exact xx_iret (pc := 23) dX11_isUnder_23 rfl (rfl) (Nat.le_refl _) (Nat.le_refl _) (ic_re (by unfold mo_under; simp only [decide_eq_true_eq, and_true, true_and]; first | exact (ic_bo_t (by omega)).symm | exact (ic_bo_f (by omega)).symm))
    · refine xx_iload_n (pc := 5) dX11_isUnder_5 1 rfl rfl ?_
      refine xx_if_eqN (pc := 6) 18 dX11_isUnder_6 rfl (by omega) (fun c2 => ?_) (fun c2 => ?_)
      · refine xx_iconst (pc := 18) dX11_isUnder_18 cc_iconst_1 ?_
        refine xx_goto (pc := 19) 23 dX11_isUnder_19 rfl ?_
        exact xx_iret (pc := 23) dX11_isUnder_23 rfl (rfl) (Nat.le_refl _) (Nat.le_refl _) (ic_re (by unfold mo_under; simp only [decide_eq_true_eq, and_true, true_and]; first | exact (ic_bo_t (by omega)).symm | exact (ic_bo_f (by omega)).symm))
      · refine xx_getsT (pc := 9) dX11_isUnder_9 gX11_393 ?_
        refine xx_iload_n (pc := 12) dX11_isUnder_12 0 rfl rfl ?_
        refine xx_tald (pc := 13) 4 dX11_isUnder_13 rfl (by omega) ?_
        refine xx_eqI (y := nI (0)) (by decide +kernel) ?_
        refine xx_iload_n (pc := 14) dX11_isUnder_14 1 rfl rfl ?_
        refine xx_icmp_neN (pc := 15) 22 dX11_isUnder_15 rfl (by omega) (by omega) (fun c3 => ?_) (fun c3 => ?_)
        · refine xx_iconst (pc := 22) dX11_isUnder_22 cc_iconst_0 ?_
          exact xx_iret (pc := 23) dX11_isUnder_23 rfl (rfl) (Nat.le_refl _) (Nat.le_refl _) (ic_re (by unfold mo_under; simp only [decide_eq_true_eq, and_true, true_and]; first | exact (ic_bo_t (by omega)).symm | exact (ic_bo_f (by omega)).symm))
        · refine xx_iconst (pc := 18) dX11_isUnder_18 cc_iconst_1 ?_
          refine xx_goto (pc := 19) 23 dX11_isUnder_19 rfl ?_
          exact xx_iret (pc := 23) dX11_isUnder_23 rfl (rfl) (Nat.le_refl _) (Nat.le_refl _) (ic_re (by unfold mo_under; simp only [decide_eq_true_eq, and_true, true_and]; first | exact (ic_bo_t (by omega)).symm | exact (ic_bo_f (by omega)).symm))
  · refine xx_iload_n (pc := 0) dX11_isUnder_0 0 rfl rfl ?_
    refine xx_iload_n (pc := 1) dX11_isUnder_1 1 rfl rfl ?_
    refine xx_icmp_eqN (pc := 2) 18 dX11_isUnder_2 rfl (by omega) (by omega) (fun c1 => ?_) (fun c1 => ?_)
    · refine xx_iconst (pc := 18) dX11_isUnder_18 cc_iconst_1 ?_
      refine xx_goto (pc := 19) 23 dX11_isUnder_19 rfl ?_
      exact xx_iret (pc := 23) dX11_isUnder_23 rfl (rfl) (Nat.le_refl _) (Nat.le_refl _) (ic_re (by unfold mo_under; simp only [decide_eq_true_eq, and_true, true_and]; first | exact (ic_bo_t (by omega)).symm | exact (ic_bo_f (by omega)).symm))
    · refine xx_iload_n (pc := 5) dX11_isUnder_5 1 rfl rfl ?_
      refine xx_if_eqN (pc := 6) 18 dX11_isUnder_6 rfl (by omega) (fun c2 => ?_) (fun c2 => ?_)
      · refine xx_iconst (pc := 18) dX11_isUnder_18 cc_iconst_1 ?_
        refine xx_goto (pc := 19) 23 dX11_isUnder_19 rfl ?_
        exact xx_iret (pc := 23) dX11_isUnder_23 rfl (rfl) (Nat.le_refl _) (Nat.le_refl _) (ic_re (by unfold mo_under; simp only [decide_eq_true_eq, and_true, true_and]; first | exact (ic_bo_t (by omega)).symm | exact (ic_bo_f (by omega)).symm))
      · refine xx_getsT (pc := 9) dX11_isUnder_9 gX11_393 ?_
        refine xx_iload_n (pc := 12) dX11_isUnder_12 0 rfl rfl ?_
        refine xx_tald (pc := 13) 5 dX11_isUnder_13 rfl (by omega) ?_
        refine xx_eqI (y := nI (4)) (by decide +kernel) ?_
        refine xx_iload_n (pc := 14) dX11_isUnder_14 1 rfl rfl ?_
        refine xx_icmp_neN (pc := 15) 22 dX11_isUnder_15 rfl (by omega) (by omega) (fun c3 => ?_) (fun c3 => ?_)
        · refine xx_iconst (pc := 22) dX11_isUnder_22 cc_iconst_0 ?_
          exact xx_iret (pc := 23) dX11_isUnder_23 rfl (rfl) (Nat.le_refl _) (Nat.le_refl _) (ic_re (by unfold mo_under; simp only [decide_eq_true_eq, and_true, true_and]; first | exact (ic_bo_t (by omega)).symm | exact (ic_bo_f (by omega)).symm))
        · refine xx_iconst (pc := 18) dX11_isUnder_18 cc_iconst_1 ?_
          refine xx_goto (pc := 19) 23 dX11_isUnder_19 rfl ?_
          exact xx_iret (pc := 23) dX11_isUnder_23 rfl (rfl) (Nat.le_refl _) (Nat.le_refl _) (ic_re (by unfold mo_under; simp only [decide_eq_true_eq, and_true, true_and]; first | exact (ic_bo_t (by omega)).symm | exact (ic_bo_f (by omega)).symm))

set_option maxHeartbeats 4000000 in
set_option maxRecDepth 100000 in
theorem cC_isRider {l : Launch} {E : ic_E} {w : ic_w} {k : Nat} (hk : k < 2 ^ 32) (hn6 : w 39 10 ≤ 6) : ic_C l E mX11_isRider 2 0 0 False [ic_pt E 0, .int (nI k)] SHs (hn w) SHs (ic_qe (nI (ic_bo (k < w 39 10))) (hn w)) := by
  refine ic_intro (by decide +kernel) (Nat.le_of_ble_eq_true rfl) ?_
  show xx l E _ _ 0 [(0, ic_pt E 0), (1, .int (nI k))] _ _ _
  refine xx_iload_n (pc := 0) dX11_isRider_0 1 rfl rfl ?_
  refine xx_iconst (pc := 1) dX11_isRider_1 cc_iconst_0 ?_
  refine xx_aload_nP (pc := 2) dX11_isRider_2 0 rfl rfl ?_
  refine xx_getR (pc := 3) 39 dX11_isRider_3 sh_0 fX11_74_11 rfl rfl (by decide) ?_
  refine xx_getN (pc := 6) dX11_isRider_6 sh_39 fX11_101_5 rfl ?_
  refine xx_iconst (pc := 9) dX11_isRider_9 cc_iconst_1 ?_
  refine xx_isubW (pc := 10) dX11_isRider_10 (by omega) ?_
  refine xx_callS0 (pc := 11) (st := []) (cC_withinM (w := w) (v := k) (n := (w 39 10)) (by omega) (by omega)) kX11_within sX11_94 dX11_isRider_11 rfl rfl (Nat.le_of_ble_eq_true rfl) ⟨Nat.le_of_ble_eq_true rfl, Nat.le_of_ble_eq_true rfl⟩ ⟨Nat.zero_le _, Nat.zero_le _⟩ (ic_ke ?_)
  exact xx_iret (pc := 14) dX11_isRider_14 rfl (ic_nbo) (Nat.le_refl _) (Nat.le_refl _) (ic_re rfl)

set_option maxHeartbeats 4000000 in
set_option maxRecDepth 100000 in
theorem cC_isSetOfRiders {l : Launch} {E : ic_E} {w : ic_w} {k : Nat} (hk : k < 2 ^ 32) (hn6 : w 39 10 ≤ 6) : ic_C l E mX11_isSetOfRiders 2 0 0 False [ic_pt E 0, .int (nI k)] SHs (hn w) SHs (ic_qe (nI (ic_bo (k < 2 ^ w 39 10))) (hn w)) := by
  refine ic_intro (by decide +kernel) (Nat.le_of_ble_eq_true rfl) ?_
  show xx l E _ _ 0 [(0, ic_pt E 0), (1, .int (nI k))] _ _ _
  have hp := mo_p2 hn6
  refine xx_iload_n (pc := 0) dX11_isSetOfRiders_0 1 rfl rfl ?_
  refine xx_iconst (pc := 1) dX11_isSetOfRiders_1 cc_iconst_0 ?_
  refine xx_iconst (pc := 2) dX11_isSetOfRiders_2 cc_iconst_1 ?_
  refine xx_aload_nP (pc := 3) dX11_isSetOfRiders_3 0 rfl rfl ?_
  refine xx_getR (pc := 4) 39 dX11_isSetOfRiders_4 sh_0 fX11_74_11 rfl rfl (by decide) ?_
  refine xx_getN (pc := 7) dX11_isSetOfRiders_7 sh_39 fX11_101_5 rfl ?_
  refine xx_ishlN (pc := 10) dX11_isSetOfRiders_10 (by omega) (by omega) ?_
  refine xx_iconst (pc := 11) dX11_isSetOfRiders_11 cc_iconst_1 ?_
  refine xx_isubW (pc := 12) dX11_isSetOfRiders_12 (by omega) ?_
  refine xx_callS0 (pc := 13) (st := []) (cC_withinM (w := w) (v := k) (n := (1 * 2 ^ (w 39 10))) (by omega) (by omega)) kX11_within sX11_94 dX11_isSetOfRiders_13 rfl rfl (Nat.le_of_ble_eq_true rfl) ⟨Nat.le_of_ble_eq_true rfl, Nat.le_of_ble_eq_true rfl⟩ ⟨Nat.zero_le _, Nat.zero_le _⟩ (ic_ke ?_)
  exact xx_iret (pc := 16) dX11_isSetOfRiders_16 rfl (ic_nbo) (Nat.le_refl _) (Nat.le_refl _) (ic_re (by rw [Nat.one_mul]))

set_option maxHeartbeats 4000000 in
set_option maxRecDepth 100000 in
theorem cC_isAct {l : Launch} {E : ic_E} {w : ic_w} {k : Nat} (hk : k < 2 ^ 32) (hn6 : w 39 10 ≤ 6) : ic_C l E mX11_isAct 2 0 0 False [ic_pt E 0, .int (nI k)] SHs (hn w) SHs (ic_qe (nI (ic_bo (k ≤ w 39 10))) (hn w)) := by
  refine ic_intro (by decide +kernel) (Nat.le_of_ble_eq_true rfl) ?_
  show xx l E _ _ 0 [(0, ic_pt E 0), (1, .int (nI k))] _ _ _
  refine xx_iload_n (pc := 0) dX11_isAct_0 1 rfl rfl ?_
  refine xx_iconst (pc := 1) dX11_isAct_1 cc_iconst_0 ?_
  refine xx_aload_nP (pc := 2) dX11_isAct_2 0 rfl rfl ?_
  refine xx_getR (pc := 3) 39 dX11_isAct_3 sh_0 fX11_74_11 rfl rfl (by decide) ?_
  refine xx_getN (pc := 6) dX11_isAct_6 sh_39 fX11_101_5 rfl ?_
  refine xx_callS0 (pc := 9) (st := []) (cC_within (w := w) (v := k) (lo := 0) (hi := w 39 10) (by omega) (by omega) (by omega)) kX11_within sX11_94 dX11_isAct_9 rfl rfl (Nat.le_of_ble_eq_true rfl) ⟨Nat.le_of_ble_eq_true rfl, Nat.le_of_ble_eq_true rfl⟩ ⟨Nat.zero_le _, Nat.zero_le _⟩ (ic_ke ?_)
  exact xx_iret (pc := 12) dX11_isAct_12 rfl (ic_nbo) (Nat.le_refl _) (Nat.le_refl _) (ic_re (ic_bo_iff (by omega)))

set_option maxHeartbeats 4000000 in
set_option maxRecDepth 100000 in
theorem cC_isCell {l : Launch} {E : ic_E} {w : ic_w} {k b : Nat} (hk : k < 2 ^ 32) (hb : b < 2 ^ 32) (hr4 : w 0 9 ≤ 4) : ic_C l E mX11_isCell 2 0 0 False [ic_pt E 0, .int (nI k), .int (nI b)] SHs (hn w) SHs (ic_qe (nI (ic_bo (k < w 0 9 ∧ b ≤ 2))) (hn w)) := by
  refine ic_intro (by decide +kernel) (Nat.le_of_ble_eq_true rfl) ?_
  show xx l E _ _ 0 [(0, ic_pt E 0), (1, .int (nI k)), (2, .int (nI b))] _ _ _
  refine xx_iload_n (pc := 0) dX11_isCell_0 1 rfl rfl ?_
  refine xx_iconst (pc := 1) dX11_isCell_1 cc_iconst_0 ?_
  refine xx_aload_nP (pc := 2) dX11_isCell_2 0 rfl rfl ?_
  refine xx_getN (pc := 3) dX11_isCell_3 sh_0 fX11_321_11 rfl ?_
  refine xx_iconst (pc := 6) dX11_isCell_6 cc_iconst_1 ?_
  refine xx_isubW (pc := 7) dX11_isCell_7 (by omega) ?_
  refine xx_callS0 (pc := 8) (st := []) (cC_withinM (w := w) (v := k) (n := (w 0 9)) (by omega) (by omega)) kX11_within sX11_94 dX11_isCell_8 rfl rfl (Nat.le_of_ble_eq_true rfl) ⟨Nat.le_of_ble_eq_true rfl, Nat.le_of_ble_eq_true rfl⟩ ⟨Nat.zero_le _, Nat.zero_le _⟩ (ic_ke ?_)
  refine xx_if_eqB (pc := 11) 27 dX11_isCell_11 rfl (fun c1 => ?_) (fun c1 => ?_)
  · refine xx_iconst (pc := 27) dX11_isCell_27 cc_iconst_0 ?_
    exact xx_iret (pc := 28) dX11_isCell_28 rfl (rfl) (Nat.le_refl _) (Nat.le_refl _) (ic_re (ic_bo_f (by omega)).symm)
  · refine xx_iload_n (pc := 14) dX11_isCell_14 2 rfl rfl ?_
    refine xx_iconst (pc := 15) dX11_isCell_15 cc_iconst_0 ?_
    refine xx_iconst (pc := 16) dX11_isCell_16 cc_iconst_2 ?_
    refine xx_callS0 (pc := 17) (st := []) (cC_within (w := w) (v := b) (lo := 0) (hi := 2) (by omega) (by omega) (by omega)) kX11_within sX11_94 dX11_isCell_17 rfl rfl (Nat.le_of_ble_eq_true rfl) ⟨Nat.le_of_ble_eq_true rfl, Nat.le_of_ble_eq_true rfl⟩ ⟨Nat.zero_le _, Nat.zero_le _⟩ (ic_ke ?_)
    refine xx_if_eqB (pc := 20) 27 dX11_isCell_20 rfl (fun c2 => ?_) (fun c2 => ?_)
    · refine xx_iconst (pc := 27) dX11_isCell_27 cc_iconst_0 ?_
      exact xx_iret (pc := 28) dX11_isCell_28 rfl (rfl) (Nat.le_refl _) (Nat.le_refl _) (ic_re (ic_bo_f (by omega)).symm)
    · refine xx_iconst (pc := 23) dX11_isCell_23 cc_iconst_1 ?_
      refine xx_goto (pc := 24) 28 dX11_isCell_24 rfl ?_
      exact xx_iret (pc := 28) dX11_isCell_28 rfl (rfl) (Nat.le_refl _) (Nat.le_refl _) (ic_re (ic_bo_t (by omega)).symm)

set_option maxHeartbeats 4000000 in
set_option maxRecDepth 100000 in
theorem cC_mostOf {l : Launch} {E : ic_E} {w : ic_w} {k : Nat} (hk : 1 ≤ k ∧ k ≤ 5) : ic_C l E mX11_mostOf 1 0 0 False [.int (nI k)] SHs (hn w) SHs (ic_qe (nI (mo_top k)) (hn w)) := by
  refine ic_intro (by decide +kernel) (Nat.le_of_ble_eq_true rfl) ?_
  show xx l E _ _ 0 [(0, .int (nI k))] _ _ _
  rcases (show k = 1 ∨ k = 2 ∨ k = 3 ∨ k = 4 ∨ k = 5 by omega) with rfl | rfl | rfl | rfl | rfl
  · refine xx_iload_n (pc := 0) dX11_mostOf_0 0 rfl rfl ?_
    refine xx_tin (pc := 1) 32 dX11_mostOf_1 (by decide) (by decide) rfl rfl ?_
    refine xx_bipush (pc := 32) dX11_mostOf_32 cc_bipush_99 ?_
    exact xx_iret (pc := 34) dX11_mostOf_34 rfl (rfl) (Nat.le_refl _) (Nat.le_refl _) (ic_re (by rfl))
  · refine xx_iload_n (pc := 0) dX11_mostOf_0 0 rfl rfl ?_
    refine xx_tin (pc := 1) 35 dX11_mostOf_1 (by decide) (by decide) rfl rfl ?_
    refine xx_bipush (pc := 35) dX11_mostOf_35 cc_bipush_9 ?_
    exact xx_iret (pc := 37) dX11_mostOf_37 rfl (rfl) (Nat.le_refl _) (Nat.le_refl _) (ic_re (by rfl))
  · refine xx_iload_n (pc := 0) dX11_mostOf_0 0 rfl rfl ?_
    refine xx_tin (pc := 1) 40 dX11_mostOf_1 (by decide) (by decide) rfl rfl ?_
    refine xx_iconst (pc := 40) dX11_mostOf_40 cc_iconst_5 ?_
    exact xx_iret (pc := 41) dX11_mostOf_41 rfl (rfl) (Nat.le_refl _) (Nat.le_refl _) (ic_re (by rfl))
  · refine xx_iload_n (pc := 0) dX11_mostOf_0 0 rfl rfl ?_
    refine xx_tin (pc := 1) 38 dX11_mostOf_1 (by decide) (by decide) rfl rfl ?_
    refine xx_iconst (pc := 38) dX11_mostOf_38 cc_iconst_1 ?_
    exact xx_iret (pc := 39) dX11_mostOf_39 rfl (rfl) (Nat.le_refl _) (Nat.le_refl _) (ic_re (by rfl))
  · refine xx_iload_n (pc := 0) dX11_mostOf_0 0 rfl rfl ?_
    refine xx_tout (pc := 1) 40 dX11_mostOf_1 (by decide) rfl ?_
    refine xx_iconst (pc := 40) dX11_mostOf_40 cc_iconst_5 ?_
    exact xx_iret (pc := 41) dX11_mostOf_41 rfl (rfl) (Nat.le_refl _) (Nat.le_refl _) (ic_re (by rfl))

set_option maxHeartbeats 4000000 in
set_option maxRecDepth 100000 in
theorem cC_nextChance {l : Launch} {E : ic_E} {w : ic_w} {z : Nat} : ic_C l E mX11_nextChance 1 0 0 False [.int (nI z)] SHs (hn w) SHs (ic_qe (nI (mo_z z)) (hn w)) := by
  refine ic_intro (by decide +kernel) (Nat.le_of_ble_eq_true rfl) ?_
  show xx l E _ _ 0 [(0, .int (nI z))] _ _ _
  refine xx_iload_n (pc := 0) dX11_nextChance_0 0 rfl rfl ?_
  refine xx_ldcw (v := nI 1103515245) (pc := 1) dX11_nextChance_1 oX11_396 ?_
  refine xx_imulN (pc := 4) dX11_nextChance_4 ?_
  refine xx_sipush (pc := 5) dX11_nextChance_5 cc_sipush_12345 ?_
  refine xx_iaddN (pc := 8) dX11_nextChance_8 ?_
  exact xx_iret (pc := 9) dX11_nextChance_9 rfl (rfl) (Nat.le_refl _) (Nat.le_refl _) (ic_rE (nI_mod _).symm)

set_option maxHeartbeats 4000000 in
set_option maxRecDepth 100000 in
theorem cC_max {l : Launch} {E : ic_E} {w : ic_w} {a b : Nat} (ha : a < 2 ^ 31) (hb : b < 2 ^ 31) : ic_C l E mJ9_max_7cf53 1 0 0 False [.int (nI a), .int (nI b)] SHs (hn w) SHs (ic_qe (nI (max a b)) (hn w)) := by
  refine ic_introF (by decide +kernel) (Nat.le_of_ble_eq_true rfl) ?_
  show xx l E _ _ 0 [(0, .int (nI a)), (1, .int (nI b))] _ _ _
  refine xx_iload_n (pc := 0) dJ9_max_7cf53_0 0 rfl rfl ?_
  refine xx_iload_n (pc := 1) dJ9_max_7cf53_1 1 rfl rfl ?_
  refine xx_icmp_ltN (pc := 2) 9 dJ9_max_7cf53_2 rfl (by omega) (by omega) (fun c1 => ?_) (fun c1 => ?_)
  · refine xx_iload_n (pc := 9) dJ9_max_7cf53_9 1 rfl rfl ?_
    exact xx_iret (pc := 10) dJ9_max_7cf53_10 rfl (rfl) (Nat.le_refl _) (Nat.le_refl _) (ic_re (by omega))
  · refine xx_iload_n (pc := 5) dJ9_max_7cf53_5 0 rfl rfl ?_
    refine xx_goto (pc := 6) 10 dJ9_max_7cf53_6 rfl ?_
    exact xx_iret (pc := 10) dJ9_max_7cf53_10 rfl (rfl) (Nat.le_refl _) (Nat.le_refl _) (ic_re (by omega))

set_option maxHeartbeats 4000000 in
set_option maxRecDepth 100000 in
theorem cC_min {l : Launch} {E : ic_E} {w : ic_w} {a b : Nat} (ha : a < 2 ^ 31) (hb : b < 2 ^ 31) : ic_C l E mJ9_min_7cf53 1 0 0 False [.int (nI a), .int (nI b)] SHs (hn w) SHs (ic_qe (nI (min a b)) (hn w)) := by
  refine ic_introF (by decide +kernel) (Nat.le_of_ble_eq_true rfl) ?_
  show xx l E _ _ 0 [(0, .int (nI a)), (1, .int (nI b))] _ _ _
  refine xx_iload_n (pc := 0) dJ9_min_7cf53_0 0 rfl rfl ?_
  refine xx_iload_n (pc := 1) dJ9_min_7cf53_1 1 rfl rfl ?_
  refine xx_icmp_gtN (pc := 2) 9 dJ9_min_7cf53_2 rfl (by omega) (by omega) (fun c1 => ?_) (fun c1 => ?_)
  · refine xx_iload_n (pc := 9) dJ9_min_7cf53_9 1 rfl rfl ?_
    exact xx_iret (pc := 10) dJ9_min_7cf53_10 rfl (rfl) (Nat.le_refl _) (Nat.le_refl _) (ic_re (by omega))
  · refine xx_iload_n (pc := 5) dJ9_min_7cf53_5 0 rfl rfl ?_
    refine xx_goto (pc := 6) 10 dJ9_min_7cf53_6 rfl ?_
    exact xx_iret (pc := 10) dJ9_min_7cf53_10 rfl (rfl) (Nat.le_refl _) (Nat.le_refl _) (ic_re (by omega))

theorem nI_neW {a b : Nat} (h : b ≤ a) (hb : b ≤ 2 ^ 32) : nI (a + (4294967296 - b)) = nI (a - b) := by
  have e1 := nI_subW (a := a) (b := b) (by omega)
  rw [pk_sub h] at e1
  exact e1.symm
theorem cC_max0 {l : Launch} {E : ic_E} {w : ic_w} {a b : Nat} (ha : a < 2 ^ 30) (hb : b < 2 ^ 30) : ic_C l E mJ9_max_7cf53 1 0 0 False [.int (nI 0), .int (nI (a + (4294967296 - b)))] SHs (hn w) SHs (ic_qe (nI (a - b)) (hn w)) := by
  by_cases q : b ≤ a
  · have K := cC_max (l := l) (E := E) (w := w) (a := 0) (b := a - b) (by omega) (by omega)
    rw [Nat.zero_max] at K
    rw [nI_neW q (by omega)]
    exact K
  · refine ic_introF (by decide +kernel) (Nat.le_of_ble_eq_true rfl) ?_
    show xx l E _ _ 0 [(0, .int (nI 0)), (1, .int (nI (a + (4294967296 - b))))] _ _ _
    refine xx_iload_n (pc := 0) dJ9_max_7cf53_0 0 rfl rfl ?_
    refine xx_iload_n (pc := 1) dJ9_max_7cf53_1 1 rfl rfl ?_
    have hneg : nI (a + (4294967296 - b)) < 0 := (nI_lt0 (by omega)).mpr (by omega)
    refine xx_icmp_lt (pc := 2) 9 dJ9_max_7cf53_2 rfl (fun c1 => ?_) (fun c1 => ?_)
    · rw [nI_0] at c1
      exact absurd hneg (Int32.not_lt.mpr (Int32.le_of_lt c1))
    · refine xx_iload_n (pc := 5) dJ9_max_7cf53_5 0 rfl rfl ?_
      refine xx_goto (pc := 6) 10 dJ9_max_7cf53_6 rfl ?_
      exact xx_iret (pc := 10) dJ9_max_7cf53_10 rfl (rfl) (Nat.le_refl _) (Nat.le_refl _) (ic_re (by omega))
set_option maxHeartbeats 4000000 in
set_option maxRecDepth 100000 in
theorem cC_floorMod {l : Launch} {E : ic_E} {w : ic_w} {a : Nat} (ha : a < 2 ^ 31) : ic_C l E mJ9_floorMod_7cf53 1 0 0 False [.int (nI a), .int (nI 6)] SHs (hn w) SHs (ic_qe (nI (a % 6)) (hn w)) := by
  refine ic_introF (by decide +kernel) (Nat.le_of_ble_eq_true rfl) ?_
  show xx l E _ _ 0 [(0, .int (nI a)), (1, .int (nI 6))] _ _ _
  refine xx_iload_n (pc := 0) dJ9_floorMod_7cf53_0 0 rfl rfl ?_
  refine xx_iload_n (pc := 1) dJ9_floorMod_7cf53_1 1 rfl rfl ?_
  refine xx_iremN (pc := 2) dJ9_floorMod_7cf53_2 (by omega) (by omega) (by omega) ?_
  refine xx_istore_n (L' := [(2, .int (nI (a % 6))), (0, .int (nI a)), (1, .int (nI 6))]) (pc := 3) dJ9_floorMod_7cf53_3 rfl (Nat.le_of_ble_eq_true rfl) rfl ?_
  refine xx_iload_n (pc := 4) dJ9_floorMod_7cf53_4 1 rfl rfl ?_
  refine xx_iload_n (pc := 5) dJ9_floorMod_7cf53_5 2 rfl rfl ?_
  refine xx_ixorN (pc := 6) dJ9_floorMod_7cf53_6 ?_
  refine xx_if_geS (pc := 7) 18 dJ9_floorMod_7cf53_7 rfl (by exact Nat.lt_trans (Nat.xor_lt_two_pow ha (by omega)) (by omega)) (fun c1 => ?_) (fun c1 => by exfalso; have := Nat.xor_lt_two_pow (n := 31) (x := a) (y := 6) ha (by omega); omega)
  refine xx_iload_n (pc := 18) dJ9_floorMod_7cf53_18 0 rfl rfl ?_
  exact xx_iret (pc := 19) dJ9_floorMod_7cf53_19 rfl (rfl) (Nat.le_refl _) (Nat.le_refl _) (ic_re (by rfl))

