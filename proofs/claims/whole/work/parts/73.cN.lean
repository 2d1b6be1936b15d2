/-! plans by what they come to: most, how many, the first, the fewest acts, who is ever OUT -/
def pl_mx : Nat → (Nat → Nat) → Nat
  | 0, _ => 0
  | m + 1, s => if s 2 ≤ s 1 then 0 else (fun a => mo_worth s a + pl_mx m (mo_go s a)) (mo_am (fun a => mo_worth s a + pl_mx m (mo_go s a)) (s 0))
def pl_f (m : Nat) (s : Nat → Nat) (a : Nat) : Nat := mo_worth s a + pl_mx m (mo_go s a)
theorem pl_mx_s (m : Nat) (s : Nat → Nat) : pl_mx (m + 1) s = if s 2 ≤ s 1 then 0 else pl_f m s (mo_am (pl_f m s) (s 0)) := rfl
def pl_cn (f c : Nat → Nat) : Nat → Nat
  | 0 => c 0
  | n + 1 => if f (mo_am f n) < f (n + 1) then c (n + 1) else if f (n + 1) = f (mo_am f n) then pl_cn f c n + c (n + 1) else pl_cn f c n
def pl_ct : Nat → (Nat → Nat) → Nat
  | 0, _ => 1
  | m + 1, s => if s 2 ≤ s 1 then 1 else pl_cn (pl_f m s) (fun a => pl_ct m (mo_go s a)) (s 0)
def pl_fi : Nat → (Nat → Nat) → Nat → Nat
  | 0, _, _ => 0
  | m + 1, s, j => if s 2 ≤ s 1 then 0 else if j = 0 then mo_am (pl_f m s) (s 0) else pl_fi m (mo_go s (mo_am (pl_f m s) (s 0))) (j - 1)
def pl_mn (g : Nat → Nat) : Nat → Nat
  | 0 => g 0
  | n + 1 => min (pl_mn g n) (g (n + 1))
def pl_fw (want : Nat) : Nat → (Nat → Nat) → Nat
  | 0, s => if want &&& (mo_outs s ^^^ 4294967295) = 0 then 0 else 100
  | m + 1, s => if s 2 ≤ s 1 then (if want &&& (mo_outs s ^^^ 4294967295) = 0 then 0 else 100) else pl_mn (fun a => (if a = 0 then 0 else 1) + pl_fw want m (mo_go s a)) (s 0)
def pl_or (h : Nat → Nat) : Nat → Nat
  | 0 => h 0
  | n + 1 => pl_or h n ||| h (n + 1)
def pl_ev : Nat → (Nat → Nat) → Nat
  | 0, s => mo_outs s
  | m + 1, s => if s 2 ≤ s 1 then mo_outs s else pl_or (fun a => pl_ev m (mo_go s a)) (s 0)
theorem pl_mx_le : ∀ (m : Nat) (s : Nat → Nat), In s → Ru s → pl_mx m s ≤ 33 * m
  | 0, _, _, _ => Nat.zero_le _
  | m + 1, s, h, r => by
    rw [pl_mx_s]
    split
    · omega
    · have h0 := h.n
      have h1 := mo_am_le (pl_f m s) (s 0)
      have h2 := mo_worth_le h (act := mo_am (pl_f m s) (s 0)) (by omega)
      have h3 := pl_mx_le m _ (In_go h (act := mo_am (pl_f m s) (s 0)) (by omega) (by omega)) (Ru_go r h (by omega))
      show mo_worth s _ + pl_mx m _ ≤ _
      omega
theorem pl_f_le {m : Nat} {s : Nat → Nat} (h : In s) (r : Ru s) {a : Nat} (ha : a ≤ 6) (ht : s 1 < s 2) : pl_f m s a ≤ 33 + 33 * m := by
  have h2 := mo_worth_le h (act := a) ha
  have h3 := pl_mx_le m _ (In_go h ha ht) (Ru_go r h ha)
  unfold pl_f
  omega
/-- what plans make of a summary -/
def pl_P (x y : mo_X) (v c len few ev : Nat) (fi : Nat → Nat) : Prop :=
  y.1 16 = (if mo_bt x.1 v then v else x.1 16) ∧ y.1 17 = (if mo_bt x.1 v then c else if v = x.1 16 then x.1 17 + c else x.1 17) ∧ y.1 18 = (if mo_bt x.1 v then len else x.1 18) ∧ y.1 19 = x.1 19 ∧ y.1 20 = min (x.1 20) few ∧ y.1 21 = x.1 21 ||| ev ∧ (mo_bt x.1 v → ∀ j, j < len → y.2 j = fi j) ∧ (¬ mo_bt x.1 v → y.2 = x.2)
theorem pl_P_m {x y z : mo_X} {v1 v2 c1 c2 len f1 f2 e1 e2 : Nat} {g1 g2 : Nat → Nat} (h : pl_P x y v1 c1 len f1 e1 g1) (g : pl_P y z v2 c2 len f2 e2 g2) (b1 : v1 < 4294967295) (b2 : v2 < 4294967295) :
    pl_P x z (if v1 < v2 then v2 else v1) (if v1 < v2 then c2 else if v2 = v1 then c1 + c2 else c1) len (min f1 f2) (e1 ||| e2) (if v1 < v2 then g2 else g1) := by
  obtain ⟨h16, h17, h18, h19, h20, h21, ha, hb⟩ := h
  obtain ⟨g16, g17, g18, g19, g20, g21, ga, gb⟩ := g
  have e20 : z.1 20 = min (x.1 20) (min f1 f2) := by rw [g20, h20]; omega
  have e21 : z.1 21 = x.1 21 ||| (e1 ||| e2) := by rw [g21, h21, Nat.or_assoc]
  unfold mo_bt at *
  by_cases p : x.1 16 = 4294967295 ∨ x.1 16 < v1
  · rw [if_pos p] at h16 h17 h18
    have ha := ha p
    by_cases q : v1 < v2
    · have p2 : x.1 16 = 4294967295 ∨ x.1 16 < v2 := by omega
      have q2 : y.1 16 = 4294967295 ∨ y.1 16 < v2 := by omega
      rw [if_pos q2] at g16 g17 g18
      unfold pl_P mo_bt
      rw [if_pos q, if_pos q, if_pos q, if_pos p2, if_pos p2, if_pos p2]
      exact ⟨g16, g17, g18, g19.trans h19, e20, e21, fun _ => ga q2, fun z => absurd p2 z⟩
    · have q2 : ¬ (y.1 16 = 4294967295 ∨ y.1 16 < v2) := by omega
      rw [if_neg q2] at g16 g17 g18
      unfold pl_P mo_bt
      rw [if_neg q, if_neg q, if_neg q, if_pos p, if_pos p, if_pos p]
      refine ⟨g16.trans h16, ?_, g18.trans h18, g19.trans h19, e20, e21, fun _ j hj => by rw [gb q2]; exact ha j hj, fun z => absurd p z⟩
      rw [g17, h16, h17]
  · rw [if_neg p] at h16 h17 h18
    have hb := hb p
    by_cases q : v1 < v2
    · unfold pl_P mo_bt
      rw [if_pos q, if_pos q, if_pos q]
      rw [h16] at g16 g17 g18 ga gb
      have p1 : ¬ v1 = x.1 16 ∨ v1 = x.1 16 := by omega
      by_cases r : x.1 16 = 4294967295 ∨ x.1 16 < v2
      · rw [if_pos r] at g16 g17 g18 ⊢
        rw [if_pos r, if_pos r]
        exact ⟨g16, g17, g18, g19.trans h19, e20, e21, fun _ => ga r, fun z => absurd r z⟩
      · rw [if_neg r] at g16 g17 g18 ⊢
        rw [if_neg r, if_neg r]
        refine ⟨g16, ?_, g18.trans h18, g19.trans h19, e20, e21, fun z => absurd z r, fun _ => (gb r).trans hb⟩
        rw [g17, h17, if_neg (show ¬ v1 = x.1 16 by omega)]
    · have q2 : ¬ (y.1 16 = 4294967295 ∨ y.1 16 < v2) := by omega
      rw [if_neg q2] at g16 g17 g18
      unfold pl_P mo_bt
      rw [if_neg q, if_neg q, if_neg q, if_neg p, if_neg p, if_neg p]
      refine ⟨g16.trans h16, ?_, g18.trans h18, g19.trans h19, e20, e21, fun z => absurd z p, fun _ => (gb q2).trans hb⟩
      rw [g17, h16, h17]
      by_cases r : v1 = x.1 16
      · rw [if_pos r, if_pos r]
        by_cases t : v2 = v1
        · rw [if_pos t, if_pos (by omega)]
          omega
        · rw [if_neg t, if_neg (by omega)]
      · rw [if_neg r, if_neg r, if_neg (by omega)]
theorem pl_P_u {x : mo_X} (h20 : x.1 20 ≤ 9) (k sum few out : Nat) (acts fi : Nat → Nat) (hf : ∀ j, j < k → fi j = acts j) : pl_P x (mo_up x k sum few out acts) sum 1 k (few + (if x.1 19 &&& (out ^^^ 4294967295) = 0 then 0 else 100)) out fi := by
  refine ⟨rfl, rfl, rfl, rfl, ?_, rfl, fun b j hj => ?_, fun b => if_neg b⟩
  · show mo_u20 x.1 few out = _
    unfold mo_u20
    by_cases z : x.1 19 &&& (out ^^^ 4294967295) = 0
    · rw [if_pos z]
      by_cases y : few < x.1 20
      · rw [if_pos ⟨z, y⟩]; omega
      · rw [if_neg (fun q => y q.2)]; omega
    · rw [if_neg z, if_neg (fun q => z q.1)]
      omega
  · show (if mo_bt x.1 sum then acts else x.2) j = fi j
    rw [if_pos b, hf j hj]
theorem pl_P_e {x y : mo_X} {v c len few ev v2 c2 len2 few2 ev2 : Nat} {fi fi2 : Nat → Nat} (h : pl_P x y v c len few ev fi) (e1 : v = v2) (e2 : c = c2) (e3 : len = len2) (e4 : few = few2) (e5 : ev = ev2) (e6 : ∀ j, j < len → fi j = fi2 j) : pl_P x y v2 c2 len2 few2 ev2 fi2 := by
  subst e1 e2 e3 e4 e5
  exact ⟨h.1, h.2.1, h.2.2.1, h.2.2.2.1, h.2.2.2.2.1, h.2.2.2.2.2.1, fun b j hj => (h.2.2.2.2.2.2.1 b j hj).trans (e6 j hj), h.2.2.2.2.2.2.2⟩
theorem pl_R : ∀ (m : Nat) (s : Nat → Nat) (k sum few : Nat) (acts : Nat → Nat) (x : mo_X), In s → Ru s → sum + 33 * m ≤ 1000 → m ≤ 16 → x.1 20 ≤ 9 →
    pl_P x (mo_pln m s k sum few acts x) (sum + pl_mx m s) (pl_ct m s) (k + min m (s 2 - s 1)) (few + pl_fw (x.1 19) m s) (pl_ev m s) (fun j => if j < k then acts j else pl_fi m s (j - k))
  | 0, s, k, sum, few, acts, x, _, _, _, _, h20 => by
    refine pl_P_e (pl_P_u h20 k sum few (mo_outs s) acts (fun j => if j < k then acts j else pl_fi 0 s (j - k)) (fun j hj => if_pos hj)) rfl rfl (by omega) rfl rfl (fun j _ => rfl)
  | m + 1, s, k, sum, few, acts, x, hI, hR, hs, hm, h20 => by
    have h0 := hI.n
    rw [mo_pln]
    by_cases z : s 2 ≤ s 1
    · rw [if_pos z]
      refine pl_P_e (pl_P_u h20 k sum few (mo_outs s) acts (fun j => if j < k then acts j else pl_fi (m + 1) s (j - k)) (fun j hj => if_pos hj)) ?_ ?_ (by omega) ?_ ?_ (fun j _ => rfl)
      · rw [pl_mx_s, if_pos z]; rfl
      · rw [pl_ct, if_pos z]
      · rw [pl_fw, if_pos z]
      · rw [pl_ev, if_pos z]
    · rw [if_neg z]
      have key : ∀ n, n ≤ s 0 → pl_P x (mo_fold (fun a y => mo_pln m (mo_go s a) (k + 1) (sum + mo_worth s a) (if a = 0 then few else few + 1) (fu acts k a) y) (n + 1) x) (sum + pl_f m s (mo_am (pl_f m s) n)) (pl_cn (pl_f m s) (fun a => pl_ct m (mo_go s a)) n) (k + min (m + 1) (s 2 - s 1)) (few + pl_mn (fun a => (if a = 0 then 0 else 1) + pl_fw (x.1 19) m (mo_go s a)) n) (pl_or (fun a => pl_ev m (mo_go s a)) n) (fun j => if j < k + 1 then fu acts k (mo_am (pl_f m s) n) j else pl_fi m (mo_go s (mo_am (pl_f m s) n)) (j - (k + 1))) := by
        intro n
        induction n with
        | zero =>
          intro _
          have w0 := mo_worth_le hI (act := 0) (by omega)
          have g1 := mo_go_1 s 0
          have g2 : mo_go s 0 2 = s 2 := mo_go_r _ (by omega) h0 (by omega)
          refine pl_P_e (pl_R m (mo_go s 0) (k + 1) (sum + mo_worth s 0) few (fu acts k 0) x (In_go hI (by omega) (by omega)) (Ru_go hR hI (by omega)) (by omega) (by omega) h20) ?_ rfl (by omega) ?_ rfl (fun j _ => rfl)
          · show _ = sum + (mo_worth s 0 + pl_mx m (mo_go s 0))
            omega
          · show few + _ = few + ((if 0 = 0 then 0 else 1) + _)
            rw [if_pos rfl, Nat.zero_add]
        | succ n ih =>
          intro hn
          have ih := ih (by omega)
          have w0 := mo_worth_le hI (act := n + 1) (by omega)
          have g1 := mo_go_1 s (n + 1)
          have g2 : mo_go s (n + 1) 2 = s 2 := mo_go_r _ (by omega) h0 (by omega)
          have hl1 := pl_f_le hI hR (m := m) (a := mo_am (pl_f m s) n) (by have := mo_am_le (pl_f m s) n; omega) (by omega)
          have hl2 := pl_f_le hI hR (m := m) (a := n + 1) (by omega) (by omega)
          have e19 := ih.2.2.2.1
          have e20 := ih.2.2.2.2.1
          have st := pl_R m (mo_go s (n + 1)) (k + 1) (sum + mo_worth s (n + 1)) (few + 1) (fu acts k (n + 1)) (mo_fold (fun a y => mo_pln m (mo_go s a) (k + 1) (sum + mo_worth s a) (if a = 0 then few else few + 1) (fu acts k a) y) (n + 1) x) (In_go hI (by omega) (by omega)) (Ru_go hR hI (by omega)) (by omega) (by omega) (by rw [e20]; omega)
          rw [e19] at st
          have st2 := pl_P_e st (v2 := sum + pl_f m s (n + 1)) (len2 := k + min (m + 1) (s 2 - s 1)) (by unfold pl_f; omega) rfl (by omega) rfl rfl (fun j _ => rfl)
          have mg := pl_P_m ih st2 (by omega) (by omega)
          rw [mo_fold, if_neg (show ¬ n + 1 = 0 by omega)]
          refine pl_P_e mg ?_ ?_ rfl ?_ rfl (fun j hj => ?_)
          · rw [mo_am]
            by_cases y : pl_f m s (mo_am (pl_f m s) n) < pl_f m s (n + 1)
            · rw [if_pos y, if_pos (by omega)]
            · rw [if_neg y, if_neg (by omega)]
          · rw [pl_cn]
            by_cases y : pl_f m s (mo_am (pl_f m s) n) < pl_f m s (n + 1)
            · rw [if_pos y, if_pos (by omega)]
            · rw [if_neg y, if_neg (by omega)]
              by_cases t : pl_f m s (n + 1) = pl_f m s (mo_am (pl_f m s) n)
              · rw [if_pos t, if_pos (by omega)]
              · rw [if_neg t, if_neg (by omega)]
          · rw [pl_mn, if_neg (show ¬ n + 1 = 0 by omega)]
            omega
          · rw [mo_am]
            by_cases y : pl_f m s (mo_am (pl_f m s) n) < pl_f m s (n + 1)
            · rw [if_pos y, if_pos (by omega)]
            · rw [if_neg y, if_neg (by omega)]
      refine pl_P_e (key (s 0) (Nat.le_refl _)) ?_ ?_ rfl ?_ ?_ (fun j hj => ?_)
      · rw [pl_mx_s, if_neg z]
      · rw [pl_ct, if_neg z]
      · rw [pl_fw, if_neg z]
      · rw [pl_ev, if_neg z]
      · rw [pl_fi, if_neg z]
        by_cases y : j < k
        · rw [if_pos (by omega), if_pos y, fu_n _ (by omega)]
        · rw [if_neg y]
          by_cases t : j = k
          · subst t
            rw [if_pos (by omega), if_pos (by omega), fu_s]
          · rw [if_neg (by omega), if_neg (by omega), show j - (k + 1) = j - k - 1 by omega]
/-- one of whom nothing changes when told -/
theorem mo_idle_go {s : Nat → Nat} {q : Nat} (h1 : it s q 4 ≤ 1) (h : mo_deed s q = 2) : mo_go s (q + 1) = mo_go s 0 ∧ mo_worth s (q + 1) = mo_worth s 0 := by
  obtain ⟨a, b⟩ := mo_stay h1 h
  have a0 : mo_w1 s 0 = 0 := if_pos rfl
  have b0 : mo_s1 s 0 = s := if_pos rfl
  have w : mo_worth s (q + 1) = mo_worth s 0 := by unfold mo_worth; rw [a, b, a0, b0]
  refine ⟨?_, w⟩
  funext k
  unfold mo_go
  rw [w, b, b0]
theorem size_s : ∀ n, n < 6 → ∀ x, x < 64 → x < 2 ^ n → mo_size (x + 2 ^ n) = mo_size x + 1 := by decide +kernel
theorem size_set (P : Nat → Bool) : ∀ n, n ≤ 6 → mo_size (mo_set P n) = mo_cnt P n
  | 0, _ => rfl
  | n + 1, h => by
    have l := mo_set_lt P n
    have l2 : 2 ^ n ≤ 64 := mo_p2 (by omega)
    rw [mo_set, mo_cnt]
    split
    · rw [size_s n (by omega) _ (by omega) l, size_set P n (by omega)]
    · exact size_set P n (by omega)
/-- the count where those of whom nothing changes are counted at once -/
theorem pl_cw {f c : Nat → Nat} {idl : Nat → Bool} {n : Nat} (hid : ∀ q, q < n → idl q = true → f (q + 1) = f 0 ∧ c (q + 1) = c 0) (a : Nat) (ha : a < n) :
    (idl a = true → pl_cn f c (a + 1) + (if f 0 = f (mo_am f (a + 1)) then (mo_cnt idl n - mo_cnt idl (a + 1)) * c 0 else 0) = pl_cn f c a + (if f 0 = f (mo_am f a) then (mo_cnt idl n - mo_cnt idl a) * c 0 else 0) ∧ mo_am f (a + 1) = mo_am f a) := by
  intro h
  have hm : ∀ j, f 0 ≤ f (mo_am f j) := by
    intro j
    induction j with
    | zero => exact Nat.le_refl _
    | succ j ih =>
      rw [mo_am]
      split <;> omega
  have hc : ∀ j, mo_cnt idl (a + 1) ≤ mo_cnt idl (a + 1 + j) := by
    intro j
    induction j with
    | zero => exact Nat.le_refl _
    | succ j ih =>
      have : mo_cnt idl (a + 1 + j) ≤ mo_cnt idl (a + 1 + (j + 1)) := by
        show _ ≤ mo_cnt idl (a + 1 + j) + _
        omega
      omega
  have hc2 := hc (n - (a + 1))
  rw [show a + 1 + (n - (a + 1)) = n by omega] at hc2
  have h1 := mo_cnt_t h
  obtain ⟨e1, e2⟩ := hid a ha h
  have hz := hm a
  have ea : mo_am f (a + 1) = mo_am f a := by rw [mo_am, e1, if_neg (by omega)]
  refine ⟨?_, ea⟩
  rw [ea, pl_cn, e1, e2, if_neg (by omega)]
  by_cases y : f 0 = f (mo_am f a)
  · rw [if_pos y, if_pos y, if_pos y, show mo_cnt idl n - mo_cnt idl a = (mo_cnt idl n - mo_cnt idl (a + 1)) + 1 by omega, Nat.add_mul, Nat.one_mul]
    omega
  · rw [if_neg y, if_neg y, if_neg y]

