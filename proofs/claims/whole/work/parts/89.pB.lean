/-! the reader of the rules: the word that comes -/
/-- the number read in k bytes from a -/
def tk_v (f : Nat → Nat) : Nat → Nat → Nat → Nat
  | 0, _, v => v
  | k + 1, a, v => tk_v f k (a + 1) (if 9999 < v then v else v * 10 + f a - 48)
def tk_a (f : Nat → Nat) (n a : Nat) : Nat := tk_s f (n - a) a
def tk_e (f : Nat → Nat) (n a : Nat) : Nat := if tk_k f n a = 0 then a else if tk_k f n a = 3 then a + 1 else tk_r f (tk_k f n a) (n - a) a
def tk_n (f : Nat → Nat) (n a : Nat) : Nat := if tk_k f n a = 2 then tk_v f (tk_e f n a - a) a 0 else 0
theorem tk_v_s (f : Nat → Nat) : ∀ (k a v : Nat), tk_v f (k + 1) a v = if 9999 < tk_v f k a v then tk_v f k a v else tk_v f k a v * 10 + f (a + k) - 48 := by
  intro k
  induction k with
  | zero => intro a v; rfl
  | succ k ih =>
    intro a v
    have h := ih (a + 1) (if 9999 < v then v else v * 10 + f a - 48)
    rw [show a + 1 + k = a + (k + 1) by omega] at h
    exact h
theorem tk_s_go {f : Nat → Nat} {n a : Nat} (h : a < n) (z : f a = 32) : tk_s f (n - a) a = tk_s f (n - (a + 1)) (a + 1) := by
  rw [show n - a = (n - (a + 1)) + 1 by omega, tk_s, if_pos z]
theorem tk_s_at {f : Nat → Nat} {n a : Nat} (z : ¬ (a < n ∧ f a = 32)) : tk_s f (n - a) a = a := by
  by_cases h : a < n
  · rw [show n - a = (n - (a + 1)) + 1 by omega, tk_s, if_neg (by omega)]
  · rw [show n - a = 0 by omega]
    rfl
theorem tk_r_go {f : Nat → Nat} {n a t : Nat} (h : a < n) (z : tk_c (f a) = t) : tk_r f t (n - a) a = tk_r f t (n - (a + 1)) (a + 1) := by
  rw [show n - a = (n - (a + 1)) + 1 by omega, tk_r, if_pos z]
theorem tk_r_at {f : Nat → Nat} {n a t : Nat} (z : ¬ (a < n ∧ tk_c (f a) = t)) : tk_r f t (n - a) a = a := by
  by_cases h : a < n
  · rw [show n - a = (n - (a + 1)) + 1 by omega, tk_r, if_neg (fun y => z ⟨h, y⟩)]
  · rw [show n - a = 0 by omega]
    rfl
theorem tk_b_at {f : Nat → Nat} {n a : Nat} (h : tk_b f n a ≠ 4294967295) : a < n ∧ tk_b f n a = f a := by
  unfold tk_b at h ⊢
  by_cases z : a < n
  · rw [if_pos z]
    exact ⟨z, rfl⟩
  · rw [if_neg z] at h
    exact absurd rfl h
theorem tk_c_1 {v : Nat} : tk_c v = 1 ↔ (97 ≤ v ∧ v ≤ 122) := by
  unfold tk_c
  split
  · simp [*]
  · split <;> simp [*]
theorem tk_c_2 {v : Nat} : tk_c v = 2 ↔ (48 ≤ v ∧ v ≤ 57) := by
  unfold tk_c
  split
  · constructor
    · intro h; omega
    · intro h; omega
  · split <;> simp [*]
theorem tk_c_le (v : Nat) : 1 ≤ tk_c v ∧ tk_c v ≤ 3 := by
  unfold tk_c
  split
  · omega
  · split <;> omega
theorem tk_mid {f : Nat → Nat} {n a e T : Nat} (_hT : tk_k f n a = T) (h2 : (T = 1 → tk_r f 1 (n - a) a = tk_r f 1 (n - e) e) ∧ (T ≠ 1 → e = a)) (_he : a ≤ e ∧ e ≤ n) (hal : T = 1 → ¬ (e < n ∧ tk_c (f e) = 1)) : (T = 2 ∧ tk_r f 2 (n - a) a = tk_r f 2 (n - e) e ∧ 0 = tk_v f (e - a) a 0) ∨ (T ≠ 2 ∧ 0 = 0 ∧ (T = 1 → tk_r f 1 (n - a) a = e) ∧ (T ≠ 1 → e = a)) := by
  by_cases z : T = 2
  · have ea := h2.2 (by omega)
    refine Or.inl ⟨z, by rw [ea], by rw [ea, Nat.sub_self]; rfl⟩
  · exact Or.inr ⟨z, rfl, fun h => (h2.1 h).trans (tk_r_at (hal h)), h2.2⟩
theorem tk_fin1 {f : Nat → Nat} {n a e T v x : Nat} (hT : tk_k f n a = T) (h3 : (T = 2 ∧ tk_r f 2 (n - a) a = tk_r f 2 (n - e) e ∧ v = tk_v f (e - a) a 0) ∨ (T ≠ 2 ∧ v = 0 ∧ (T = 1 → tk_r f 1 (n - a) a = e) ∧ (T ≠ 1 → e = a))) (ht : T ≤ 3) (hdg : T = 2 → ¬ (e < n ∧ tk_c (f e) = 2)) (hx : x = if T = 3 then e + 1 else e) : x = tk_e f n a := by
  unfold tk_e
  rw [hT, hx]
  rcases (show T = 0 ∨ T = 1 ∨ T = 2 ∨ T = 3 by omega) with rfl | rfl | rfl | rfl
  · rw [if_neg (by omega), if_pos rfl]
    rcases h3 with h | h
    · omega
    · exact h.2.2.2 (by omega)
  · rw [if_neg (by omega), if_neg (by omega), if_neg (by omega)]
    rcases h3 with h | h
    · omega
    · exact (h.2.2.1 rfl).symm
  · rw [if_neg (by omega), if_neg (by omega), if_neg (by omega)]
    rcases h3 with h | h
    · rw [h.2.1, tk_r_at (hdg rfl)]
    · omega
  · rw [if_pos rfl, if_neg (by omega), if_pos rfl]
    rcases h3 with h | h
    · omega
    · rw [h.2.2.2 (by omega)]
theorem tk_fin2 {f : Nat → Nat} {n a e T v : Nat} (hT : tk_k f n a = T) (h3 : (T = 2 ∧ tk_r f 2 (n - a) a = tk_r f 2 (n - e) e ∧ v = tk_v f (e - a) a 0) ∨ (T ≠ 2 ∧ v = 0 ∧ (T = 1 → tk_r f 1 (n - a) a = e) ∧ (T ≠ 1 → e = a))) (ht : T ≤ 3) (hdg : T = 2 → ¬ (e < n ∧ tk_c (f e) = 2)) : v = tk_n f n a := by
  unfold tk_n
  rw [hT]
  rcases h3 with h | h
  · rw [if_pos h.1, ← tk_fin1 hT (Or.inl h) ht hdg rfl, if_neg (by omega)]
    exact h.2.2
  · rw [if_neg h.1]
    exact h.2.1
set_option maxHeartbeats 4000000 in
set_option maxRecDepth 100000 in
theorem cM_nextToken {l : Launch} {E : ic_E} {w : ic_w} {f : Nat → Nat} {n : Nat} (hX : Tx w f n) (h8 : w 114 8 ≤ n)  : ic_C l E mX12_nextToken 3 0 0 False [ic_pt E 114] SHs (hn w) SHs (ic_qv (fun h_ => ∃ w2, h_ = hn w2 ∧ ((∀ a, a ≠ 114 → w2 a = w a) ∧ ∀ j, j ≠ 6 → j ≠ 7 → j ≠ 8 → j ≠ 9 → w2 114 j = w 114 j) ∧ w2 114 6 = tk_k f n (tk_a f n (w 114 8)) ∧ w2 114 7 = tk_a f n (w 114 8) ∧ w2 114 8 = tk_e f n (tk_a f n (w 114 8)) ∧ w2 114 9 = tk_n f n (tk_a f n (w 114 8)))) := by
  refine ic_intro (by decide +kernel) (Nat.le_of_ble_eq_true rfl) ?_
  show xx l E _ _ 0 [(0, ic_pt E 114)] _ _ _
  have n2_ := hX.2.1
  have lp3 : ∀ (n_ : Nat) (a T e v b : Nat) (u : ic_w), u 114 6 = T → u 114 7 = a → u 114 8 = e → u 114 9 = v → (∀ a, a ≠ 114 → u a = w a) → (∀ j, j ≠ 6 → j ≠ 7 → j ≠ 8 → j ≠ 9 → u 114 j = w 114 j) → tk_a f n (w 114 8) = a → tk_k f n a = T → a ≤ e ∧ e ≤ n → (T = 2 ∧ tk_r f 2 (n - a) a = tk_r f 2 (n - e) e ∧ v = tk_v f (e - a) a 0) ∨ (T ≠ 2 ∧ v = 0 ∧ (T = 1 → tk_r f 1 (n - a) a = e) ∧ (T ≠ 1 → e = a)) → v ≤ 100245 → n - e < n_ → xx l E (ic_fr E mX12_nextToken 3 0 0 False SHs (ic_qv (fun h_ => ∃ w2, h_ = hn w2 ∧ ((∀ a, a ≠ 114 → w2 a = w a) ∧ ∀ j, j ≠ 6 → j ≠ 7 → j ≠ 8 → j ≠ 9 → w2 114 j = w 114 j) ∧ w2 114 6 = tk_k f n (tk_a f n (w 114 8)) ∧ w2 114 7 = tk_a f n (w 114 8) ∧ w2 114 8 = tk_e f n (tk_a f n (w 114 8)) ∧ w2 114 9 = tk_n f n (tk_a f n (w 114 8))))) (0, 0) 126 [(1, .int (nI b)), (0, ic_pt E 114)] [] SHs (hn u) := by
    intro n_
    induction n_ with
    | zero => intro a T e v b u f6_u f7_u f8_u f9_u r_u k_u hA hT he h3 hv hm_; exact absurd hm_ (Nat.not_lt_zero _)
    | succ n_ ih_ =>
      intro a T e v b u f6_u f7_u f8_u f9_u r_u k_u hA hT he h3 hv hm_
      have hX_u : Tx u f n := hX.of (k_u 5 (by omega) (by omega) (by omega) (by omega)) (r_u 118 (by omega))
      have t3_ : T ≤ 3 := by rw [← hT]; unfold tk_k; split; exact (tk_c_le _).2; omega
      refine xx_aload_nP (pc := 126) dX12_nextToken_126 1 rfl rfl ?_
      refine xx_getN (pc := 127) dX12_nextToken_127 sh_114 fX12_174_12 rfl ?_
      refine xx_eqI (y := nI (T)) (by rw [f6_u]) ?_
      refine xx_iconst (pc := 130) dX12_nextToken_130 cc_iconst_2 ?_
      refine xx_icmp_neN (pc := 131) 201 dX12_nextToken_131 rfl (by omega) (by omega) (fun c301 => ?_) (fun c301 => ?_)
      · have hdg_ : T = 2 → ¬ (e < n ∧ tk_c (f e) = 2) := fun h => absurd h (by omega)
        refine xx_aload_nP (pc := 201) dX12_nextToken_201 1 rfl rfl ?_
        refine xx_dup (pc := 202) dX12_nextToken_202 rfl ?_
        refine xx_getN (pc := 203) dX12_nextToken_203 sh_114 fX12_159_12 rfl ?_
        refine xx_eqI (y := nI (e)) (by rw [f8_u]) ?_
        refine xx_aload_nP (pc := 206) dX12_nextToken_206 1 rfl rfl ?_
        refine xx_getN (pc := 207) dX12_nextToken_207 sh_114 fX12_174_12 rfl ?_
        refine xx_eqI (y := nI (T)) (by rw [f6_u]) ?_
        refine xx_iconst (pc := 210) dX12_nextToken_210 cc_iconst_2 ?_
        refine xx_icmp_leN (pc := 211) 218 dX12_nextToken_211 rfl (by omega) (by omega) (fun c302 => ?_) (fun c302 => ?_)
        · refine xx_iconst (pc := 218) dX12_nextToken_218 cc_iconst_0 ?_
          refine xx_iaddN (pc := 219) dX12_nextToken_219 ?_
          refine xx_putN (pc := 220) dX12_nextToken_220 sh_114 fX12_159_12 rfl rfl ?_
          refine xx_nw (fun w303 ew303 => ?_)
          have f8_w303 : w303 114 8 = e + 0 := by rw [ew303, wu_s]
          have f6_w303 : w303 114 6 = T := by rw [ew303, wu_k _ _ _ _ (by omega)]; exact f6_u
          have f7_w303 : w303 114 7 = a := by rw [ew303, wu_k _ _ _ _ (by omega)]; exact f7_u
          have f9_w303 : w303 114 9 = v := by rw [ew303, wu_k _ _ _ _ (by omega)]; exact f9_u
          have r_w303 : ∀ a, a ≠ 114 → w303 a = w a := fun a h => by rw [ew303, wu_row _ _ _ h]; exact r_u a h
          have k_w303 : ∀ j, j ≠ 6 → j ≠ 7 → j ≠ 8 → j ≠ 9 → w303 114 j = w 114 j := fun j h6 h7 h8 h9 => by rw [ew303, wu_k _ _ _ _ h8]; exact k_u j h6 h7 h8 h9
          have hX_w303 : Tx w303 f n := hX.of (k_w303 5 (by omega) (by omega) (by omega) (by omega)) (r_w303 118 (by omega))
          exact xx_vret (pc := 223) dX12_nextToken_223 rfl (Nat.le_refl _) (Nat.le_refl _) (ic_rv0 ⟨w303, rfl, ⟨r_w303, k_w303⟩, by rw [f6_w303, hA, hT], by rw [f7_w303, hA], by rw [f8_w303, hA]; exact tk_fin1 hT h3 (by omega) hdg_ (by split <;> omega), by rw [f9_w303, hA]; exact tk_fin2 hT h3 (by omega) hdg_⟩)
        · refine xx_iconst (pc := 214) dX12_nextToken_214 cc_iconst_1 ?_
          refine xx_goto (pc := 215) 219 dX12_nextToken_215 rfl ?_
          refine xx_iaddN (pc := 219) dX12_nextToken_219 ?_
          refine xx_putN (pc := 220) dX12_nextToken_220 sh_114 fX12_159_12 rfl rfl ?_
          refine xx_nw (fun w304 ew304 => ?_)
          have f8_w304 : w304 114 8 = e + 1 := by rw [ew304, wu_s]
          have f6_w304 : w304 114 6 = T := by rw [ew304, wu_k _ _ _ _ (by omega)]; exact f6_u
          have f7_w304 : w304 114 7 = a := by rw [ew304, wu_k _ _ _ _ (by omega)]; exact f7_u
          have f9_w304 : w304 114 9 = v := by rw [ew304, wu_k _ _ _ _ (by omega)]; exact f9_u
          have r_w304 : ∀ a, a ≠ 114 → w304 a = w a := fun a h => by rw [ew304, wu_row _ _ _ h]; exact r_u a h
          have k_w304 : ∀ j, j ≠ 6 → j ≠ 7 → j ≠ 8 → j ≠ 9 → w304 114 j = w 114 j := fun j h6 h7 h8 h9 => by rw [ew304, wu_k _ _ _ _ h8]; exact k_u j h6 h7 h8 h9
          have hX_w304 : Tx w304 f n := hX.of (k_w304 5 (by omega) (by omega) (by omega) (by omega)) (r_w304 118 (by omega))
          exact xx_vret (pc := 223) dX12_nextToken_223 rfl (Nat.le_refl _) (Nat.le_refl _) (ic_rv0 ⟨w304, rfl, ⟨r_w304, k_w304⟩, by rw [f6_w304, hA, hT], by rw [f7_w304, hA], by rw [f8_w304, hA]; exact tk_fin1 hT h3 (by omega) hdg_ (by split <;> omega), by rw [f9_w304, hA]; exact tk_fin2 hT h3 (by omega) hdg_⟩)
      · refine xx_aload_nP (pc := 134) dX12_nextToken_134 1 rfl rfl ?_
        refine xx_aload_nP (pc := 135) dX12_nextToken_135 1 rfl rfl ?_
        refine xx_getN (pc := 136) dX12_nextToken_136 sh_114 fX12_159_12 rfl ?_
        refine xx_eqI (y := nI (e)) (by rw [f8_u]) ?_
        have hb_b305 := tk_b_lt hX_u (e)
        refine xx_callV0 (pc := 139) (st := []) sh_114 (cM_byteAt (w := u) (a := e) (by omega) hX_u) kX12_byteAt vX12_165_12 dX12_nextToken_139 rfl rfl (Nat.le_of_ble_eq_true rfl) ⟨Nat.le_of_ble_eq_true rfl, Nat.le_of_ble_eq_true rfl⟩ ⟨Nat.zero_le _, Nat.zero_le _⟩ (ic_ke ?_)
        refine xx_callS0 (pc := 142) (st := []) (cM_isDigit (w := u) (v := tk_b f n e) (by omega)) kX12_isDigit sX12_171 dX12_nextToken_142 rfl rfl (Nat.le_of_ble_eq_true rfl) ⟨Nat.le_of_ble_eq_true rfl, Nat.le_of_ble_eq_true rfl⟩ ⟨Nat.zero_le _, Nat.zero_le _⟩ (ic_ke ?_)
        refine xx_if_eqB (pc := 145) 201 dX12_nextToken_145 rfl (fun c306 => ?_) (fun c306 => ?_)
        · have hdg_ : T = 2 → ¬ (e < n ∧ tk_c (f e) = 2) := fun _ y => by have y2 := tk_c_2.mp y.2; have y3 : tk_b f n e = f e := if_pos y.1; omega
          refine xx_aload_nP (pc := 201) dX12_nextToken_201 1 rfl rfl ?_
          refine xx_dup (pc := 202) dX12_nextToken_202 rfl ?_
          refine xx_getN (pc := 203) dX12_nextToken_203 sh_114 fX12_159_12 rfl ?_
          refine xx_eqI (y := nI (e)) (by rw [f8_u]) ?_
          refine xx_aload_nP (pc := 206) dX12_nextToken_206 1 rfl rfl ?_
          refine xx_getN (pc := 207) dX12_nextToken_207 sh_114 fX12_174_12 rfl ?_
          refine xx_eqI (y := nI (T)) (by rw [f6_u]) ?_
          refine xx_iconst (pc := 210) dX12_nextToken_210 cc_iconst_2 ?_
          refine xx_icmp_leN (pc := 211) 218 dX12_nextToken_211 rfl (by omega) (by omega) (fun c307 => ?_) (fun c307 => ?_)
          · refine xx_iconst (pc := 218) dX12_nextToken_218 cc_iconst_0 ?_
            refine xx_iaddN (pc := 219) dX12_nextToken_219 ?_
            refine xx_putN (pc := 220) dX12_nextToken_220 sh_114 fX12_159_12 rfl rfl ?_
            refine xx_nw (fun w308 ew308 => ?_)
            have f8_w308 : w308 114 8 = e + 0 := by rw [ew308, wu_s]
            have f6_w308 : w308 114 6 = T := by rw [ew308, wu_k _ _ _ _ (by omega)]; exact f6_u
            have f7_w308 : w308 114 7 = a := by rw [ew308, wu_k _ _ _ _ (by omega)]; exact f7_u
            have f9_w308 : w308 114 9 = v := by rw [ew308, wu_k _ _ _ _ (by omega)]; exact f9_u
            have r_w308 : ∀ a, a ≠ 114 → w308 a = w a := fun a h => by rw [ew308, wu_row _ _ _ h]; exact r_u a h
            have k_w308 : ∀ j, j ≠ 6 → j ≠ 7 → j ≠ 8 → j ≠ 9 → w308 114 j = w 114 j := fun j h6 h7 h8 h9 => by rw [ew308, wu_k _ _ _ _ h8]; exact k_u j h6 h7 h8 h9
            have hX_w308 : Tx w308 f n := hX.of (k_w308 5 (by omega) (by omega) (by omega) (by omega)) (r_w308 118 (by omega))
            exact xx_vret (pc := 223) dX12_nextToken_223 rfl (Nat.le_refl _) (Nat.le_refl _) (ic_rv0 ⟨w308, rfl, ⟨r_w308, k_w308⟩, by rw [f6_w308, hA, hT], by rw [f7_w308, hA], by rw [f8_w308, hA]; exact tk_fin1 hT h3 (by omega) hdg_ (by split <;> omega), by rw [f9_w308, hA]; exact tk_fin2 hT h3 (by omega) hdg_⟩)
          · refine xx_iconst (pc := 214) dX12_nextToken_214 cc_iconst_1 ?_
            refine xx_goto (pc := 215) 219 dX12_nextToken_215 rfl ?_
            refine xx_iaddN (pc := 219) dX12_nextToken_219 ?_
            refine xx_putN (pc := 220) dX12_nextToken_220 sh_114 fX12_159_12 rfl rfl ?_
            refine xx_nw (fun w309 ew309 => ?_)
            have f8_w309 : w309 114 8 = e + 1 := by rw [ew309, wu_s]
            have f6_w309 : w309 114 6 = T := by rw [ew309, wu_k _ _ _ _ (by omega)]; exact f6_u
            have f7_w309 : w309 114 7 = a := by rw [ew309, wu_k _ _ _ _ (by omega)]; exact f7_u
            have f9_w309 : w309 114 9 = v := by rw [ew309, wu_k _ _ _ _ (by omega)]; exact f9_u
            have r_w309 : ∀ a, a ≠ 114 → w309 a = w a := fun a h => by rw [ew309, wu_row _ _ _ h]; exact r_u a h
            have k_w309 : ∀ j, j ≠ 6 → j ≠ 7 → j ≠ 8 → j ≠ 9 → w309 114 j = w 114 j := fun j h6 h7 h8 h9 => by rw [ew309, wu_k _ _ _ _ h8]; exact k_u j h6 h7 h8 h9
            have hX_w309 : Tx w309 f n := hX.of (k_w309 5 (by omega) (by omega) (by omega) (by omega)) (r_w309 118 (by omega))
            exact xx_vret (pc := 223) dX12_nextToken_223 rfl (Nat.le_refl _) (Nat.le_refl _) (ic_rv0 ⟨w309, rfl, ⟨r_w309, k_w309⟩, by rw [f6_w309, hA, hT], by rw [f7_w309, hA], by rw [f8_w309, hA]; exact tk_fin1 hT h3 (by omega) hdg_ (by split <;> omega), by rw [f9_w309, hA]; exact tk_fin2 hT h3 (by omega) hdg_⟩)
        · refine xx_aload_nP (pc := 148) dX12_nextToken_148 1 rfl rfl ?_
          refine xx_aload_nP (pc := 149) dX12_nextToken_149 1 rfl rfl ?_
          refine xx_getN (pc := 150) dX12_nextToken_150 sh_114 fX12_177_12 rfl ?_
          refine xx_eqI (y := nI (v)) (by rw [f9_u]) ?_
          refine xx_sipush (pc := 153) dX12_nextToken_153 cc_sipush_9999 ?_
          refine xx_icmp_leN (pc := 156) 166 dX12_nextToken_156 rfl (by omega) (by omega) (fun c310 => ?_) (fun c310 => ?_)
          · refine xx_bipush (pc := 166) dX12_nextToken_166 cc_bipush_10 ?_
            refine xx_aload_nP (pc := 168) dX12_nextToken_168 1 rfl rfl ?_
            refine xx_getN (pc := 169) dX12_nextToken_169 sh_114 fX12_177_12 rfl ?_
            refine xx_eqI (y := nI (v)) (by rw [f9_u]) ?_
            refine xx_imulN (pc := 172) dX12_nextToken_172 ?_
            refine xx_aload_nP (pc := 173) dX12_nextToken_173 1 rfl rfl ?_
            refine xx_aload_nP (pc := 174) dX12_nextToken_174 1 rfl rfl ?_
            refine xx_getN (pc := 175) dX12_nextToken_175 sh_114 fX12_159_12 rfl ?_
            refine xx_eqI (y := nI (e)) (by rw [f8_u]) ?_
            have hb_b311 := tk_b_lt hX_u (e)
            refine xx_callV0 (pc := 178) (st := [.int (nI (10 * v)), ic_pt E 114]) sh_114 (cM_byteAt (w := u) (a := e) (by omega) hX_u) kX12_byteAt vX12_165_12 dX12_nextToken_178 rfl rfl (Nat.le_of_ble_eq_true rfl) ⟨Nat.le_of_ble_eq_true rfl, Nat.le_of_ble_eq_true rfl⟩ ⟨Nat.zero_le _, Nat.zero_le _⟩ (ic_ke ?_)
            refine xx_iaddN (pc := 181) dX12_nextToken_181 ?_
            refine xx_bipush (pc := 182) dX12_nextToken_182 cc_bipush_48 ?_
            refine xx_isubN (pc := 184) dX12_nextToken_184 (by omega) ?_
            refine xx_putN (pc := 185) dX12_nextToken_185 sh_114 fX12_177_12 rfl rfl ?_
            refine xx_nw (fun w312 ew312 => ?_)
            have f9_w312 : w312 114 9 = ((10 * v) + (tk_b f n e)) - 48 := by rw [ew312, wu_s]
            have f6_w312 : w312 114 6 = T := by rw [ew312, wu_k _ _ _ _ (by omega)]; exact f6_u
            have f7_w312 : w312 114 7 = a := by rw [ew312, wu_k _ _ _ _ (by omega)]; exact f7_u
            have f8_w312 : w312 114 8 = e := by rw [ew312, wu_k _ _ _ _ (by omega)]; exact f8_u
            have r_w312 : ∀ a, a ≠ 114 → w312 a = w a := fun a h => by rw [ew312, wu_row _ _ _ h]; exact r_u a h
            have k_w312 : ∀ j, j ≠ 6 → j ≠ 7 → j ≠ 8 → j ≠ 9 → w312 114 j = w 114 j := fun j h6 h7 h8 h9 => by rw [ew312, wu_k _ _ _ _ h9]; exact k_u j h6 h7 h8 h9
            have hX_w312 : Tx w312 f n := hX.of (k_w312 5 (by omega) (by omega) (by omega) (by omega)) (r_w312 118 (by omega))
            refine xx_aload_nP (pc := 188) dX12_nextToken_188 1 rfl rfl ?_
            refine xx_dup (pc := 189) dX12_nextToken_189 rfl ?_
            refine xx_getN (pc := 190) dX12_nextToken_190 sh_114 fX12_159_12 rfl ?_
            refine xx_eqI (y := nI (e)) (by rw [f8_w312]) ?_
            refine xx_iconst (pc := 193) dX12_nextToken_193 cc_iconst_1 ?_
            refine xx_iaddN (pc := 194) dX12_nextToken_194 ?_
            refine xx_putN (pc := 195) dX12_nextToken_195 sh_114 fX12_159_12 rfl rfl ?_
            refine xx_nw (fun w313 ew313 => ?_)
            have f8_w313 : w313 114 8 = e + 1 := by rw [ew313, wu_s]
            have f6_w313 : w313 114 6 = T := by rw [ew313, wu_k _ _ _ _ (by omega)]; exact f6_w312
            have f7_w313 : w313 114 7 = a := by rw [ew313, wu_k _ _ _ _ (by omega)]; exact f7_w312
            have f9_w313 : w313 114 9 = ((10 * v) + (tk_b f n e)) - 48 := by rw [ew313, wu_k _ _ _ _ (by omega)]; exact f9_w312
            have r_w313 : ∀ a, a ≠ 114 → w313 a = w a := fun a h => by rw [ew313, wu_row _ _ _ h]; exact r_w312 a h
            have k_w313 : ∀ j, j ≠ 6 → j ≠ 7 → j ≠ 8 → j ≠ 9 → w313 114 j = w 114 j := fun j h6 h7 h8 h9 => by rw [ew313, wu_k _ _ _ _ h8]; exact k_w312 j h6 h7 h8 h9
            have hX_w313 : Tx w313 f n := hX.of (k_w313 5 (by omega) (by omega) (by omega) (by omega)) (r_w313 118 (by omega))
            refine xx_goto (pc := 198) 126 dX12_nextToken_198 rfl ?_
            have be_ := tk_b_at (f := f) (n := n) (a := e) (by omega)
            have hz_ : T = 2 ∧ tk_r f 2 (n - a) a = tk_r f 2 (n - e) e ∧ v = tk_v f (e - a) a 0 := by rcases h3 with h | h; exact h; exact absurd h.1 (by omega)
            have hv2_ : ((10 * v) + (tk_b f n e)) - 48 = tk_v f (e + 1 - a) a 0 := by rw [show e + 1 - a = (e - a) + 1 by omega, tk_v_s, ← hz_.2.2]; first | (rw [if_pos (by omega)]; done) | (rw [if_neg (by omega), show a + (e - a) = e by omega]; omega)
            exact xx_sub [0, 1] rfl (ih_ (a) T (e + 1) (((10 * v) + (tk_b f n e)) - 48) b w313 f6_w313 f7_w313 f8_w313 f9_w313 r_w313 k_w313 hA hT (by omega) (Or.inl ⟨hz_.1, hz_.2.1.trans (tk_r_go be_.1 (tk_c_2.mpr (by omega))), hv2_⟩) (by omega) (by omega))
          · refine xx_aload_nP (pc := 159) dX12_nextToken_159 1 rfl rfl ?_
            refine xx_getN (pc := 160) dX12_nextToken_160 sh_114 fX12_177_12 rfl ?_
            refine xx_eqI (y := nI (v)) (by rw [f9_u]) ?_
            refine xx_goto (pc := 163) 185 dX12_nextToken_163 rfl ?_
            refine xx_putN (pc := 185) dX12_nextToken_185 sh_114 fX12_177_12 rfl rfl ?_
            refine xx_nw (fun w314 ew314 => ?_)
            have f9_w314 : w314 114 9 = v := by rw [ew314, wu_s]
            have f6_w314 : w314 114 6 = T := by rw [ew314, wu_k _ _ _ _ (by omega)]; exact f6_u
            have f7_w314 : w314 114 7 = a := by rw [ew314, wu_k _ _ _ _ (by omega)]; exact f7_u
            have f8_w314 : w314 114 8 = e := by rw [ew314, wu_k _ _ _ _ (by omega)]; exact f8_u
            have r_w314 : ∀ a, a ≠ 114 → w314 a = w a := fun a h => by rw [ew314, wu_row _ _ _ h]; exact r_u a h
            have k_w314 : ∀ j, j ≠ 6 → j ≠ 7 → j ≠ 8 → j ≠ 9 → w314 114 j = w 114 j := fun j h6 h7 h8 h9 => by rw [ew314, wu_k _ _ _ _ h9]; exact k_u j h6 h7 h8 h9
            have hX_w314 : Tx w314 f n := hX.of (k_w314 5 (by omega) (by omega) (by omega) (by omega)) (r_w314 118 (by omega))
            refine xx_aload_nP (pc := 188) dX12_nextToken_188 1 rfl rfl ?_
            refine xx_dup (pc := 189) dX12_nextToken_189 rfl ?_
            refine xx_getN (pc := 190) dX12_nextToken_190 sh_114 fX12_159_12 rfl ?_
            refine xx_eqI (y := nI (e)) (by rw [f8_w314]) ?_
            refine xx_iconst (pc := 193) dX12_nextToken_193 cc_iconst_1 ?_
            refine xx_iaddN (pc := 194) dX12_nextToken_194 ?_
            refine xx_putN (pc := 195) dX12_nextToken_195 sh_114 fX12_159_12 rfl rfl ?_
            refine xx_nw (fun w315 ew315 => ?_)
            have f8_w315 : w315 114 8 = e + 1 := by rw [ew315, wu_s]
            have f6_w315 : w315 114 6 = T := by rw [ew315, wu_k _ _ _ _ (by omega)]; exact f6_w314
            have f7_w315 : w315 114 7 = a := by rw [ew315, wu_k _ _ _ _ (by omega)]; exact f7_w314
            have f9_w315 : w315 114 9 = v := by rw [ew315, wu_k _ _ _ _ (by omega)]; exact f9_w314
            have r_w315 : ∀ a, a ≠ 114 → w315 a = w a := fun a h => by rw [ew315, wu_row _ _ _ h]; exact r_w314 a h
            have k_w315 : ∀ j, j ≠ 6 → j ≠ 7 → j ≠ 8 → j ≠ 9 → w315 114 j = w 114 j := fun j h6 h7 h8 h9 => by rw [ew315, wu_k _ _ _ _ h8]; exact k_w314 j h6 h7 h8 h9
            have hX_w315 : Tx w315 f n := hX.of (k_w315 5 (by omega) (by omega) (by omega) (by omega)) (r_w315 118 (by omega))
            refine xx_goto (pc := 198) 126 dX12_nextToken_198 rfl ?_
            have be_ := tk_b_at (f := f) (n := n) (a := e) (by omega)
            have hz_ : T = 2 ∧ tk_r f 2 (n - a) a = tk_r f 2 (n - e) e ∧ v = tk_v f (e - a) a 0 := by rcases h3 with h | h; exact h; exact absurd h.1 (by omega)
            have hv2_ : v = tk_v f (e + 1 - a) a 0 := by rw [show e + 1 - a = (e - a) + 1 by omega, tk_v_s, ← hz_.2.2]; first | (rw [if_pos (by omega)]; done) | (rw [if_neg (by omega), show a + (e - a) = e by omega]; omega)
            exact xx_sub [0, 1] rfl (ih_ (a) T (e + 1) (v) b w315 f6_w315 f7_w315 f8_w315 f9_w315 r_w315 k_w315 hA hT (by omega) (Or.inl ⟨hz_.1, hz_.2.1.trans (tk_r_go be_.1 (tk_c_2.mpr (by omega))), hv2_⟩) (by omega) (by omega))
  have lp2 : ∀ (n_ : Nat) (a T e b : Nat) (u : ic_w), u 114 6 = T → u 114 7 = a → u 114 8 = e → u 114 9 = 0 → (∀ a, a ≠ 114 → u a = w a) → (∀ j, j ≠ 6 → j ≠ 7 → j ≠ 8 → j ≠ 9 → u 114 j = w 114 j) → tk_a f n (w 114 8) = a → tk_k f n a = T → a ≤ e ∧ e ≤ n → (T = 1 → tk_r f 1 (n - a) a = tk_r f 1 (n - e) e) ∧ (T ≠ 1 → e = a) → n - e < n_ → xx l E (ic_fr E mX12_nextToken 3 0 0 False SHs (ic_qv (fun h_ => ∃ w2, h_ = hn w2 ∧ ((∀ a, a ≠ 114 → w2 a = w a) ∧ ∀ j, j ≠ 6 → j ≠ 7 → j ≠ 8 → j ≠ 9 → w2 114 j = w 114 j) ∧ w2 114 6 = tk_k f n (tk_a f n (w 114 8)) ∧ w2 114 7 = tk_a f n (w 114 8) ∧ w2 114 8 = tk_e f n (tk_a f n (w 114 8)) ∧ w2 114 9 = tk_n f n (tk_a f n (w 114 8))))) (0, 0) 91 [(1, .int (nI b)), (0, ic_pt E 114)] [] SHs (hn u) := by
    intro n_
    induction n_ with
    | zero => intro a T e b u f6_u f7_u f8_u f9_u r_u k_u hA hT he h2 hm_; exact absurd hm_ (Nat.not_lt_zero _)
    | succ n_ ih_ =>
      intro a T e b u f6_u f7_u f8_u f9_u r_u k_u hA hT he h2 hm_
      have hX_u : Tx u f n := hX.of (k_u 5 (by omega) (by omega) (by omega) (by omega)) (r_u 118 (by omega))
      have t3_ : T ≤ 3 := by rw [← hT]; unfold tk_k; split; exact (tk_c_le _).2; omega
      refine xx_aload_nP (pc := 91) dX12_nextToken_91 1 rfl rfl ?_
      refine xx_getN (pc := 92) dX12_nextToken_92 sh_114 fX12_174_12 rfl ?_
      refine xx_eqI (y := nI (T)) (by rw [f6_u]) ?_
      refine xx_iconst (pc := 95) dX12_nextToken_95 cc_iconst_1 ?_
      refine xx_icmp_neN (pc := 96) 126 dX12_nextToken_96 rfl (by omega) (by omega) (fun c201 => ?_) (fun c201 => ?_)
      · have hal_ : T = 1 → ¬ (e < n ∧ tk_c (f e) = 1) := fun h => absurd h (by omega)
        exact xx_sub [0, 1] rfl (lp3 (n + 1) a T e 0 b u f6_u f7_u f8_u f9_u r_u k_u hA hT he (tk_mid hT h2 he hal_) (by omega) (by omega))
      · refine xx_aload_nP (pc := 99) dX12_nextToken_99 1 rfl rfl ?_
        refine xx_aload_nP (pc := 100) dX12_nextToken_100 1 rfl rfl ?_
        refine xx_getN (pc := 101) dX12_nextToken_101 sh_114 fX12_159_12 rfl ?_
        refine xx_eqI (y := nI (e)) (by rw [f8_u]) ?_
        have hb_b202 := tk_b_lt hX_u (e)
        refine xx_callV0 (pc := 104) (st := []) sh_114 (cM_byteAt (w := u) (a := e) (by omega) hX_u) kX12_byteAt vX12_165_12 dX12_nextToken_104 rfl rfl (Nat.le_of_ble_eq_true rfl) ⟨Nat.le_of_ble_eq_true rfl, Nat.le_of_ble_eq_true rfl⟩ ⟨Nat.zero_le _, Nat.zero_le _⟩ (ic_ke ?_)
        refine xx_callS0 (pc := 107) (st := []) (cM_isAlpha (w := u) (v := tk_b f n e) (by omega)) kX12_isAlpha sX12_168 dX12_nextToken_107 rfl rfl (Nat.le_of_ble_eq_true rfl) ⟨Nat.le_of_ble_eq_true rfl, Nat.le_of_ble_eq_true rfl⟩ ⟨Nat.zero_le _, Nat.zero_le _⟩ (ic_ke ?_)
        refine xx_if_eqB (pc := 110) 126 dX12_nextToken_110 rfl (fun c203 => ?_) (fun c203 => ?_)
        · have hal_ : T = 1 → ¬ (e < n ∧ tk_c (f e) = 1) := fun _ y => by have y2 := tk_c_1.mp y.2; have y3 : tk_b f n e = f e := if_pos y.1; omega
          exact xx_sub [0, 1] rfl (lp3 (n + 1) a T e 0 b u f6_u f7_u f8_u f9_u r_u k_u hA hT he (tk_mid hT h2 he hal_) (by omega) (by omega))
        · refine xx_aload_nP (pc := 113) dX12_nextToken_113 1 rfl rfl ?_
          refine xx_dup (pc := 114) dX12_nextToken_114 rfl ?_
          refine xx_getN (pc := 115) dX12_nextToken_115 sh_114 fX12_159_12 rfl ?_
          refine xx_eqI (y := nI (e)) (by rw [f8_u]) ?_
          refine xx_iconst (pc := 118) dX12_nextToken_118 cc_iconst_1 ?_
          refine xx_iaddN (pc := 119) dX12_nextToken_119 ?_
          refine xx_putN (pc := 120) dX12_nextToken_120 sh_114 fX12_159_12 rfl rfl ?_
          refine xx_nw (fun w204 ew204 => ?_)
          have f8_w204 : w204 114 8 = e + 1 := by rw [ew204, wu_s]
          have f6_w204 : w204 114 6 = T := by rw [ew204, wu_k _ _ _ _ (by omega)]; exact f6_u
          have f7_w204 : w204 114 7 = a := by rw [ew204, wu_k _ _ _ _ (by omega)]; exact f7_u
          have f9_w204 : w204 114 9 = 0 := by rw [ew204, wu_k _ _ _ _ (by omega)]; exact f9_u
          have r_w204 : ∀ a, a ≠ 114 → w204 a = w a := fun a h => by rw [ew204, wu_row _ _ _ h]; exact r_u a h
          have k_w204 : ∀ j, j ≠ 6 → j ≠ 7 → j ≠ 8 → j ≠ 9 → w204 114 j = w 114 j := fun j h6 h7 h8 h9 => by rw [ew204, wu_k _ _ _ _ h8]; exact k_u j h6 h7 h8 h9
          have hX_w204 : Tx w204 f n := hX.of (k_w204 5 (by omega) (by omega) (by omega) (by omega)) (r_w204 118 (by omega))
          refine xx_goto (pc := 123) 91 dX12_nextToken_123 rfl ?_
          have be_ := tk_b_at (f := f) (n := n) (a := e) (by omega)
          exact xx_sub [0, 1] rfl (ih_ a T (e + 1) b w204 f6_w204 f7_w204 f8_w204 f9_w204 r_w204 k_w204 hA hT (by omega) ⟨fun h => (h2.1 h).trans (tk_r_go be_.1 (tk_c_1.mpr (by omega))), fun h => absurd h (by omega)⟩ (by omega))
  refine xx_aload_nP (pc := 0) dX12_nextToken_0 0 rfl rfl ?_
  refine xx_aload_nP (pc := 1) dX12_nextToken_1 0 rfl rfl ?_
  refine xx_getN (pc := 2) dX12_nextToken_2 sh_114 fX12_159_12 rfl ?_
  refine xx_eqI (y := nI (w 114 8)) (rfl) ?_
  refine xx_putN (pc := 5) dX12_nextToken_5 sh_114 fX12_162_12 rfl rfl ?_
  refine xx_nw (fun w1 ew1 => ?_)
  have f7_w1 : w1 114 7 = w 114 8 := by rw [ew1, wu_s]
  have f6_w1 : w1 114 6 = w 114 6 := by rw [ew1, wu_k _ _ _ _ (by omega)]
  have f8_w1 : w1 114 8 = w 114 8 := by rw [ew1, wu_k _ _ _ _ (by omega)]
  have f9_w1 : w1 114 9 = w 114 9 := by rw [ew1, wu_k _ _ _ _ (by omega)]
  have r_w1 : ∀ a, a ≠ 114 → w1 a = w a := fun a h => by rw [ew1, wu_row _ _ _ h]
  have k_w1 : ∀ j, j ≠ 6 → j ≠ 7 → j ≠ 8 → j ≠ 9 → w1 114 j = w 114 j := fun j h6 h7 h8 h9 => by rw [ew1, wu_k _ _ _ _ h7]
  have hX_w1 : Tx w1 f n := hX.of (k_w1 5 (by omega) (by omega) (by omega) (by omega)) (r_w1 118 (by omega))
  have lp1 : ∀ (n_ : Nat) (a : Nat) (u : ic_w), u 114 6 = w 114 6 → u 114 7 = a → u 114 8 = w 114 8 → u 114 9 = w 114 9 → (∀ a, a ≠ 114 → u a = w a) → (∀ j, j ≠ 6 → j ≠ 7 → j ≠ 8 → j ≠ 9 → u 114 j = w 114 j) → tk_s f (n - w 114 8) (w 114 8) = tk_s f (n - a) a → a ≤ n → n - a < n_ → xx l E (ic_fr E mX12_nextToken 3 0 0 False SHs (ic_qv (fun h_ => ∃ w2, h_ = hn w2 ∧ ((∀ a, a ≠ 114 → w2 a = w a) ∧ ∀ j, j ≠ 6 → j ≠ 7 → j ≠ 8 → j ≠ 9 → w2 114 j = w 114 j) ∧ w2 114 6 = tk_k f n (tk_a f n (w 114 8)) ∧ w2 114 7 = tk_a f n (w 114 8) ∧ w2 114 8 = tk_e f n (tk_a f n (w 114 8)) ∧ w2 114 9 = tk_n f n (tk_a f n (w 114 8))))) (0, 0) 8 [(0, ic_pt E 114)] [] SHs (hn u) := by
    intro n_
    induction n_ with
    | zero => intro a u f6_u f7_u f8_u f9_u r_u k_u hq ha hm_; exact absurd hm_ (Nat.not_lt_zero _)
    | succ n_ ih_ =>
      intro a u f6_u f7_u f8_u f9_u r_u k_u hq ha hm_
      have hX_u : Tx u f n := hX.of (k_u 5 (by omega) (by omega) (by omega) (by omega)) (r_u 118 (by omega))
      refine xx_aload_nP (pc := 8) dX12_nextToken_8 0 rfl rfl ?_
      refine xx_aload_nP (pc := 9) dX12_nextToken_9 0 rfl rfl ?_
      refine xx_getN (pc := 10) dX12_nextToken_10 sh_114 fX12_162_12 rfl ?_
      refine xx_eqI (y := nI (a)) (by rw [f7_u]) ?_
      have hb_b21 := tk_b_lt hX_u (a)
      refine xx_callV0 (pc := 13) (st := []) sh_114 (cM_byteAt (w := u) (a := a) (by omega) hX_u) kX12_byteAt vX12_165_12 dX12_nextToken_13 rfl rfl (Nat.le_of_ble_eq_true rfl) ⟨Nat.le_of_ble_eq_true rfl, Nat.le_of_ble_eq_true rfl⟩ ⟨Nat.zero_le _, Nat.zero_le _⟩ (ic_ke ?_)
      refine xx_bipush (pc := 16) dX12_nextToken_16 cc_bipush_32 ?_
      refine xx_icmp_neN (pc := 18) 34 dX12_nextToken_18 rfl (by omega) (by omega) (fun c22 => ?_) (fun c22 => ?_)
      · have e_ : a < n → tk_b f n a = f a := fun h => if_pos h
        have e2_ : a < n → f a ≤ 255 := fun h => (hX.2.2 a h).2
        have e3_ : ¬ a < n → tk_b f n a = 4294967295 := fun h => if_neg h
        have hA_ : tk_a f n (w 114 8) = a := by unfold tk_a; rw [hq]; exact tk_s_at (fun y => by have := e_ y.1; omega)
        refine xx_aload_nP (pc := 34) dX12_nextToken_34 0 rfl rfl ?_
        refine xx_aload_nP (pc := 35) dX12_nextToken_35 0 rfl rfl ?_
        refine xx_getN (pc := 36) dX12_nextToken_36 sh_114 fX12_162_12 rfl ?_
        refine xx_eqI (y := nI (a)) (by rw [f7_u]) ?_
        refine xx_putN (pc := 39) dX12_nextToken_39 sh_114 fX12_159_12 rfl rfl ?_
        refine xx_nw (fun w23 ew23 => ?_)
        have f8_w23 : w23 114 8 = a := by rw [ew23, wu_s]
        have f6_w23 : w23 114 6 = w 114 6 := by rw [ew23, wu_k _ _ _ _ (by omega)]; exact f6_u
        have f7_w23 : w23 114 7 = a := by rw [ew23, wu_k _ _ _ _ (by omega)]; exact f7_u
        have f9_w23 : w23 114 9 = w 114 9 := by rw [ew23, wu_k _ _ _ _ (by omega)]; exact f9_u
        have r_w23 : ∀ a, a ≠ 114 → w23 a = w a := fun a h => by rw [ew23, wu_row _ _ _ h]; exact r_u a h
        have k_w23 : ∀ j, j ≠ 6 → j ≠ 7 → j ≠ 8 → j ≠ 9 → w23 114 j = w 114 j := fun j h6 h7 h8 h9 => by rw [ew23, wu_k _ _ _ _ h8]; exact k_u j h6 h7 h8 h9
        have hX_w23 : Tx w23 f n := hX.of (k_w23 5 (by omega) (by omega) (by omega) (by omega)) (r_w23 118 (by omega))
        refine xx_aload_nP (pc := 42) dX12_nextToken_42 0 rfl rfl ?_
        refine xx_aload_nP (pc := 43) dX12_nextToken_43 0 rfl rfl ?_
        refine xx_getN (pc := 44) dX12_nextToken_44 sh_114 fX12_162_12 rfl ?_
        refine xx_eqI (y := nI (a)) (by rw [f7_w23]) ?_
        have hb_b24 := tk_b_lt hX_w23 (a)
        refine xx_callV0 (pc := 47) (st := []) sh_114 (cM_byteAt (w := w23) (a := a) (by omega) hX_w23) kX12_byteAt vX12_165_12 dX12_nextToken_47 rfl rfl (Nat.le_of_ble_eq_true rfl) ⟨Nat.le_of_ble_eq_true rfl, Nat.le_of_ble_eq_true rfl⟩ ⟨Nat.zero_le _, Nat.zero_le _⟩ (ic_ke ?_)
        refine xx_istore_n (L' := [(1, .int (nI (tk_b f n a))), (0, ic_pt E 114)]) (pc := 50) dX12_nextToken_50 rfl (Nat.le_of_ble_eq_true rfl) rfl ?_
        refine xx_aload_nP (pc := 51) dX12_nextToken_51 1 rfl rfl ?_
        refine xx_iload_n (pc := 52) dX12_nextToken_52 0 rfl rfl ?_
        refine xx_if_geS (pc := 53) 60 dX12_nextToken_53 rfl (by omega) (fun c25 => ?_) (fun c25 => ?_)
        · refine xx_iload_n (pc := 60) dX12_nextToken_60 0 rfl rfl ?_
          refine xx_callS0 (pc := 61) (st := [ic_pt E 114]) (cM_isAlpha (w := w23) (v := tk_b f n a) (by omega)) kX12_isAlpha sX12_168 dX12_nextToken_61 rfl rfl (Nat.le_of_ble_eq_true rfl) ⟨Nat.le_of_ble_eq_true rfl, Nat.le_of_ble_eq_true rfl⟩ ⟨Nat.zero_le _, Nat.zero_le _⟩ (ic_ke ?_)
          refine xx_if_eqB (pc := 64) 71 dX12_nextToken_64 rfl (fun c26 => ?_) (fun c26 => ?_)
          · refine xx_iload_n (pc := 71) dX12_nextToken_71 0 rfl rfl ?_
            refine xx_callS0 (pc := 72) (st := [ic_pt E 114]) (cM_isDigit (w := w23) (v := tk_b f n a) (by omega)) kX12_isDigit sX12_171 dX12_nextToken_72 rfl rfl (Nat.le_of_ble_eq_true rfl) ⟨Nat.le_of_ble_eq_true rfl, Nat.le_of_ble_eq_true rfl⟩ ⟨Nat.zero_le _, Nat.zero_le _⟩ (ic_ke ?_)
            refine xx_if_eqB (pc := 75) 82 dX12_nextToken_75 rfl (fun c27 => ?_) (fun c27 => ?_)
            · refine xx_iconst (pc := 82) dX12_nextToken_82 cc_iconst_3 ?_
              have hl_ : a < n := by by_cases h : a < n; exact h; have := e3_ h; omega
              have el_ := e_ hl_
              have hT_ : tk_k f n a = 3 := (if_pos hl_).trans (by unfold tk_c; rw [if_neg (by omega), if_neg (by omega)])
              refine xx_putN (pc := 83) dX12_nextToken_83 sh_114 fX12_174_12 rfl rfl ?_
              refine xx_nw (fun w28 ew28 => ?_)
              have f6_w28 : w28 114 6 = 3 := by rw [ew28, wu_s]
              have f7_w28 : w28 114 7 = a := by rw [ew28, wu_k _ _ _ _ (by omega)]; exact f7_w23
              have f8_w28 : w28 114 8 = a := by rw [ew28, wu_k _ _ _ _ (by omega)]; exact f8_w23
              have f9_w28 : w28 114 9 = w 114 9 := by rw [ew28, wu_k _ _ _ _ (by omega)]; exact f9_w23
              have r_w28 : ∀ a, a ≠ 114 → w28 a = w a := fun a h => by rw [ew28, wu_row _ _ _ h]; exact r_w23 a h
              have k_w28 : ∀ j, j ≠ 6 → j ≠ 7 → j ≠ 8 → j ≠ 9 → w28 114 j = w 114 j := fun j h6 h7 h8 h9 => by rw [ew28, wu_k _ _ _ _ h6]; exact k_w23 j h6 h7 h8 h9
              have hX_w28 : Tx w28 f n := hX.of (k_w28 5 (by omega) (by omega) (by omega) (by omega)) (r_w28 118 (by omega))
              refine xx_aload_nP (pc := 86) dX12_nextToken_86 1 rfl rfl ?_
              refine xx_iconst (pc := 87) dX12_nextToken_87 cc_iconst_0 ?_
              refine xx_putN (pc := 88) dX12_nextToken_88 sh_114 fX12_177_12 rfl rfl ?_
              refine xx_nw (fun w29 ew29 => ?_)
              have f9_w29 : w29 114 9 = 0 := by rw [ew29, wu_s]
              have f6_w29 : w29 114 6 = 3 := by rw [ew29, wu_k _ _ _ _ (by omega)]; exact f6_w28
              have f7_w29 : w29 114 7 = a := by rw [ew29, wu_k _ _ _ _ (by omega)]; exact f7_w28
              have f8_w29 : w29 114 8 = a := by rw [ew29, wu_k _ _ _ _ (by omega)]; exact f8_w28
              have r_w29 : ∀ a, a ≠ 114 → w29 a = w a := fun a h => by rw [ew29, wu_row _ _ _ h]; exact r_w28 a h
              have k_w29 : ∀ j, j ≠ 6 → j ≠ 7 → j ≠ 8 → j ≠ 9 → w29 114 j = w 114 j := fun j h6 h7 h8 h9 => by rw [ew29, wu_k _ _ _ _ h9]; exact k_w28 j h6 h7 h8 h9
              have hX_w29 : Tx w29 f n := hX.of (k_w29 5 (by omega) (by omega) (by omega) (by omega)) (r_w29 118 (by omega))
              exact xx_sub [0, 1] rfl (lp2 (n + 1) a 3 a (tk_b f n a) w29 f6_w29 f7_w29 f8_w29 f9_w29 r_w29 k_w29 hA_ hT_ (by omega) ⟨fun _ => rfl, fun _ => rfl⟩ (by omega))
            · refine xx_iconst (pc := 78) dX12_nextToken_78 cc_iconst_2 ?_
              refine xx_goto (pc := 79) 83 dX12_nextToken_79 rfl ?_
              have hl_ : a < n := by by_cases h : a < n; exact h; have := e3_ h; omega
              have el_ := e_ hl_
              have hT_ : tk_k f n a = 2 := (if_pos hl_).trans (tk_c_2.mpr (by omega))
              refine xx_putN (pc := 83) dX12_nextToken_83 sh_114 fX12_174_12 rfl rfl ?_
              refine xx_nw (fun w30 ew30 => ?_)
              have f6_w30 : w30 114 6 = 2 := by rw [ew30, wu_s]
              have f7_w30 : w30 114 7 = a := by rw [ew30, wu_k _ _ _ _ (by omega)]; exact f7_w23
              have f8_w30 : w30 114 8 = a := by rw [ew30, wu_k _ _ _ _ (by omega)]; exact f8_w23
              have f9_w30 : w30 114 9 = w 114 9 := by rw [ew30, wu_k _ _ _ _ (by omega)]; exact f9_w23
              have r_w30 : ∀ a, a ≠ 114 → w30 a = w a := fun a h => by rw [ew30, wu_row _ _ _ h]; exact r_w23 a h
              have k_w30 : ∀ j, j ≠ 6 → j ≠ 7 → j ≠ 8 → j ≠ 9 → w30 114 j = w 114 j := fun j h6 h7 h8 h9 => by rw [ew30, wu_k _ _ _ _ h6]; exact k_w23 j h6 h7 h8 h9
              have hX_w30 : Tx w30 f n := hX.of (k_w30 5 (by omega) (by omega) (by omega) (by omega)) (r_w30 118 (by omega))
              refine xx_aload_nP (pc := 86) dX12_nextToken_86 1 rfl rfl ?_
              refine xx_iconst (pc := 87) dX12_nextToken_87 cc_iconst_0 ?_
              refine xx_putN (pc := 88) dX12_nextToken_88 sh_114 fX12_177_12 rfl rfl ?_
              refine xx_nw (fun w31 ew31 => ?_)
              have f9_w31 : w31 114 9 = 0 := by rw [ew31, wu_s]
              have f6_w31 : w31 114 6 = 2 := by rw [ew31, wu_k _ _ _ _ (by omega)]; exact f6_w30
              have f7_w31 : w31 114 7 = a := by rw [ew31, wu_k _ _ _ _ (by omega)]; exact f7_w30
              have f8_w31 : w31 114 8 = a := by rw [ew31, wu_k _ _ _ _ (by omega)]; exact f8_w30
              have r_w31 : ∀ a, a ≠ 114 → w31 a = w a := fun a h => by rw [ew31, wu_row _ _ _ h]; exact r_w30 a h
              have k_w31 : ∀ j, j ≠ 6 → j ≠ 7 → j ≠ 8 → j ≠ 9 → w31 114 j = w 114 j := fun j h6 h7 h8 h9 => by rw [ew31, wu_k _ _ _ _ h9]; exact k_w30 j h6 h7 h8 h9
              have hX_w31 : Tx w31 f n := hX.of (k_w31 5 (by omega) (by omega) (by omega) (by omega)) (r_w31 118 (by omega))
              exact xx_sub [0, 1] rfl (lp2 (n + 1) a 2 a (tk_b f n a) w31 f6_w31 f7_w31 f8_w31 f9_w31 r_w31 k_w31 hA_ hT_ (by omega) ⟨fun _ => rfl, fun _ => rfl⟩ (by omega))
          · refine xx_iconst (pc := 67) dX12_nextToken_67 cc_iconst_1 ?_
            refine xx_goto (pc := 68) 83 dX12_nextToken_68 rfl ?_
            have hl_ : a < n := by by_cases h : a < n; exact h; have := e3_ h; omega
            have el_ := e_ hl_
            have hT_ : tk_k f n a = 1 := (if_pos hl_).trans (tk_c_1.mpr (by omega))
            refine xx_putN (pc := 83) dX12_nextToken_83 sh_114 fX12_174_12 rfl rfl ?_
            refine xx_nw (fun w32 ew32 => ?_)
            have f6_w32 : w32 114 6 = 1 := by rw [ew32, wu_s]
            have f7_w32 : w32 114 7 = a := by rw [ew32, wu_k _ _ _ _ (by omega)]; exact f7_w23
            have f8_w32 : w32 114 8 = a := by rw [ew32, wu_k _ _ _ _ (by omega)]; exact f8_w23
            have f9_w32 : w32 114 9 = w 114 9 := by rw [ew32, wu_k _ _ _ _ (by omega)]; exact f9_w23
            have r_w32 : ∀ a, a ≠ 114 → w32 a = w a := fun a h => by rw [ew32, wu_row _ _ _ h]; exact r_w23 a h
            have k_w32 : ∀ j, j ≠ 6 → j ≠ 7 → j ≠ 8 → j ≠ 9 → w32 114 j = w 114 j := fun j h6 h7 h8 h9 => by rw [ew32, wu_k _ _ _ _ h6]; exact k_w23 j h6 h7 h8 h9
            have hX_w32 : Tx w32 f n := hX.of (k_w32 5 (by omega) (by omega) (by omega) (by omega)) (r_w32 118 (by omega))
            refine xx_aload_nP (pc := 86) dX12_nextToken_86 1 rfl rfl ?_
            refine xx_iconst (pc := 87) dX12_nextToken_87 cc_iconst_0 ?_
            refine xx_putN (pc := 88) dX12_nextToken_88 sh_114 fX12_177_12 rfl rfl ?_
            refine xx_nw (fun w33 ew33 => ?_)
            have f9_w33 : w33 114 9 = 0 := by rw [ew33, wu_s]
            have f6_w33 : w33 114 6 = 1 := by rw [ew33, wu_k _ _ _ _ (by omega)]; exact f6_w32
            have f7_w33 : w33 114 7 = a := by rw [ew33, wu_k _ _ _ _ (by omega)]; exact f7_w32
            have f8_w33 : w33 114 8 = a := by rw [ew33, wu_k _ _ _ _ (by omega)]; exact f8_w32
            have r_w33 : ∀ a, a ≠ 114 → w33 a = w a := fun a h => by rw [ew33, wu_row _ _ _ h]; exact r_w32 a h
            have k_w33 : ∀ j, j ≠ 6 → j ≠ 7 → j ≠ 8 → j ≠ 9 → w33 114 j = w 114 j := fun j h6 h7 h8 h9 => by rw [ew33, wu_k _ _ _ _ h9]; exact k_w32 j h6 h7 h8 h9
            have hX_w33 : Tx w33 f n := hX.of (k_w33 5 (by omega) (by omega) (by omega) (by omega)) (r_w33 118 (by omega))
            exact xx_sub [0, 1] rfl (lp2 (n + 1) a 1 a (tk_b f n a) w33 f6_w33 f7_w33 f8_w33 f9_w33 r_w33 k_w33 hA_ hT_ (by omega) ⟨fun _ => rfl, fun _ => rfl⟩ (by omega))
        · refine xx_iconst (pc := 56) dX12_nextToken_56 cc_iconst_0 ?_
          refine xx_goto (pc := 57) 83 dX12_nextToken_57 rfl ?_
          have hT_ : tk_k f n a = 0 := if_neg (fun h => by have := e_ h; have := e2_ h; omega)
          refine xx_putN (pc := 83) dX12_nextToken_83 sh_114 fX12_174_12 rfl rfl ?_
          refine xx_nw (fun w34 ew34 => ?_)
          have f6_w34 : w34 114 6 = 0 := by rw [ew34, wu_s]
          have f7_w34 : w34 114 7 = a := by rw [ew34, wu_k _ _ _ _ (by omega)]; exact f7_w23
          have f8_w34 : w34 114 8 = a := by rw [ew34, wu_k _ _ _ _ (by omega)]; exact f8_w23
          have f9_w34 : w34 114 9 = w 114 9 := by rw [ew34, wu_k _ _ _ _ (by omega)]; exact f9_w23
          have r_w34 : ∀ a, a ≠ 114 → w34 a = w a := fun a h => by rw [ew34, wu_row _ _ _ h]; exact r_w23 a h
          have k_w34 : ∀ j, j ≠ 6 → j ≠ 7 → j ≠ 8 → j ≠ 9 → w34 114 j = w 114 j := fun j h6 h7 h8 h9 => by rw [ew34, wu_k _ _ _ _ h6]; exact k_w23 j h6 h7 h8 h9
          have hX_w34 : Tx w34 f n := hX.of (k_w34 5 (by omega) (by omega) (by omega) (by omega)) (r_w34 118 (by omega))
          refine xx_aload_nP (pc := 86) dX12_nextToken_86 1 rfl rfl ?_
          refine xx_iconst (pc := 87) dX12_nextToken_87 cc_iconst_0 ?_
          refine xx_putN (pc := 88) dX12_nextToken_88 sh_114 fX12_177_12 rfl rfl ?_
          refine xx_nw (fun w35 ew35 => ?_)
          have f9_w35 : w35 114 9 = 0 := by rw [ew35, wu_s]
          have f6_w35 : w35 114 6 = 0 := by rw [ew35, wu_k _ _ _ _ (by omega)]; exact f6_w34
          have f7_w35 : w35 114 7 = a := by rw [ew35, wu_k _ _ _ _ (by omega)]; exact f7_w34
          have f8_w35 : w35 114 8 = a := by rw [ew35, wu_k _ _ _ _ (by omega)]; exact f8_w34
          have r_w35 : ∀ a, a ≠ 114 → w35 a = w a := fun a h => by rw [ew35, wu_row _ _ _ h]; exact r_w34 a h
          have k_w35 : ∀ j, j ≠ 6 → j ≠ 7 → j ≠ 8 → j ≠ 9 → w35 114 j = w 114 j := fun j h6 h7 h8 h9 => by rw [ew35, wu_k _ _ _ _ h9]; exact k_w34 j h6 h7 h8 h9
          have hX_w35 : Tx w35 f n := hX.of (k_w35 5 (by omega) (by omega) (by omega) (by omega)) (r_w35 118 (by omega))
          exact xx_sub [0, 1] rfl (lp2 (n + 1) a 0 a (tk_b f n a) w35 f6_w35 f7_w35 f8_w35 f9_w35 r_w35 k_w35 hA_ hT_ (by omega) ⟨fun _ => rfl, fun _ => rfl⟩ (by omega))
      · have ba_ := tk_b_at (f := f) (n := n) (a := a) (by omega)
        refine xx_aload_nP (pc := 21) dX12_nextToken_21 0 rfl rfl ?_
        refine xx_dup (pc := 22) dX12_nextToken_22 rfl ?_
        refine xx_getN (pc := 23) dX12_nextToken_23 sh_114 fX12_162_12 rfl ?_
        refine xx_eqI (y := nI (a)) (by rw [f7_u]) ?_
        refine xx_iconst (pc := 26) dX12_nextToken_26 cc_iconst_1 ?_
        refine xx_iaddN (pc := 27) dX12_nextToken_27 ?_
        refine xx_putN (pc := 28) dX12_nextToken_28 sh_114 fX12_162_12 rfl rfl ?_
        refine xx_nw (fun w36 ew36 => ?_)
        have f7_w36 : w36 114 7 = a + 1 := by rw [ew36, wu_s]
        have f6_w36 : w36 114 6 = w 114 6 := by rw [ew36, wu_k _ _ _ _ (by omega)]; exact f6_u
        have f8_w36 : w36 114 8 = w 114 8 := by rw [ew36, wu_k _ _ _ _ (by omega)]; exact f8_u
        have f9_w36 : w36 114 9 = w 114 9 := by rw [ew36, wu_k _ _ _ _ (by omega)]; exact f9_u
        have r_w36 : ∀ a, a ≠ 114 → w36 a = w a := fun a h => by rw [ew36, wu_row _ _ _ h]; exact r_u a h
        have k_w36 : ∀ j, j ≠ 6 → j ≠ 7 → j ≠ 8 → j ≠ 9 → w36 114 j = w 114 j := fun j h6 h7 h8 h9 => by rw [ew36, wu_k _ _ _ _ h7]; exact k_u j h6 h7 h8 h9
        have hX_w36 : Tx w36 f n := hX.of (k_w36 5 (by omega) (by omega) (by omega) (by omega)) (r_w36 118 (by omega))
        refine xx_goto (pc := 31) 8 dX12_nextToken_31 rfl ?_
        exact xx_sub [0] rfl (ih_ (a + 1) w36 f6_w36 f7_w36 f8_w36 f9_w36 r_w36 k_w36 (hq.trans (tk_s_go ba_.1 (by omega))) (by omega) (by omega))
  exact xx_sub [0] rfl (lp1 (n + 1) (w 114 8) w1 f6_w1 f7_w1 f8_w1 f9_w1 r_w1 k_w1 rfl h8 (by omega))

