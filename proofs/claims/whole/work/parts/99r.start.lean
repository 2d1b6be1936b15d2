/-! the law from its entry-/
set_option maxHeartbeats 4000000 in
set_option maxRecDepth 100000 in
theorem lw_pro {l : Launch} {E : ic_E} {nm : String} {b L : Nat} {xs : Nat → Int32} (hcat : Value.category E.2.2.2.2.2.2 = 1) (hb : b < ic_b E) (hL : L ≤ 2560) : xx l E (lw_F E nm b L xs True) (0, 0) 0 [(0, .ref b)] [] ss_0 (hn (fun _ _ => 0)) := by
  refine xx_new (c := 11) (rs := [0, 0, 0, 0, 0, 0, 0, 0, 0, 0, 0, 0, 0, 0, 0, 0, 1000000]) (sh2 := ss_1) (n := 0) (pc := 0) dL_law_0 (by decide) ⟨show Cond.classLink RL 7 (ic_R 11) ∈ ic_W from ic_in 115 (by decide +kernel) rfl, show Cond.instantiable (ic_R 11) (ic_N 11) ∈ ic_W from ic_in 116 (by decide +kernel) rfl, show Cond.initialized (ic_R 11) ∈ ic_W from ic_in 95 (by decide +kernel) rfl⟩ trivial ls_0 rfl (by decide +kernel) (fun _ => rfl) ⟨Nat.le_of_ble_eq_true rfl, Nat.le_of_ble_eq_true rfl⟩ ?_
  refine xx_dup (pc := 3) dL_law_3 rfl ?_
  refine xx_callII (pc := 4) (o := 0) (As := []) (st := [ic_pt E 0]) (fun _ h => h.1) (cI_0 (w := fun _ _ => 0) zf_0) kX11_init rfl iL_9 dL_law_4 rfl rfl (Nat.le_of_ble_eq_true rfl) ⟨Nat.le_of_ble_eq_true rfl, Nat.le_of_ble_eq_true rfl⟩ ⟨Nat.le_of_ble_eq_true rfl, Nat.le_of_ble_eq_true rfl⟩ (ic_kv (fun h_ q_ => ?_))
  obtain rfl := q_
  refine xx_astore_n (pc := 7) (L' := [(1, ic_pt E 0), (0, .ref b)]) dL_law_7 rfl (Nat.le_of_ble_eq_true rfl) rfl ?_
  refine xx_new (c := 12) (rs := [0, 0, 0, 0, 0, 0, 0, 0, 0, 0, 0, 0, 0, 0, 0, 0, 0, 0, 0, 0, 0, 0, 0, 0, 0, 0, 0, 0, 0, 0, 0, 0, 0, 0, 0, 0, 0, 0, 0, 0, 0]) (sh2 := ss_187) (n := 114) (pc := 8) dL_law_8 (by decide) ⟨show Cond.classLink RL 10 (ic_R 12) ∈ ic_W from ic_in 1264 (by decide +kernel) rfl, show Cond.instantiable (ic_R 12) (ic_N 12) ∈ ic_W from ic_in 1265 (by decide +kernel) rfl, show Cond.initialized (ic_R 12) ∈ ic_W from ic_in 107 (by decide +kernel) rfl⟩ trivial ls_186 rfl (by decide +kernel) (fun k => congrFun ((cz_0 zf_0).h (Nat.le_refl _)) k) ⟨Nat.le_of_ble_eq_true rfl, Nat.le_of_ble_eq_true rfl⟩ ?_
  refine xx_dup (pc := 11) dL_law_11 rfl ?_
  refine xx_callII (pc := 12) (o := 114) (As := []) (st := [ic_pt E 114]) (fun _ h => h.1) (cI_30 (w := cw_0 (fun _ _ => 0)) ((cz_0 zf_0).le (by decide))) kX12_init rfl iL_12 dL_law_12 rfl rfl (Nat.le_of_ble_eq_true rfl) ⟨Nat.le_of_ble_eq_true rfl, Nat.le_of_ble_eq_true rfl⟩ ⟨Nat.le_of_ble_eq_true rfl, Nat.le_of_ble_eq_true rfl⟩ (ic_kv (fun h_ q_ => ?_))
  obtain rfl := q_
  refine xx_astore_n (pc := 15) (L' := [(2, ic_pt E 114), (1, ic_pt E 0), (0, .ref b)]) dL_law_15 rfl (Nat.le_of_ble_eq_true rfl) rfl ?_
  refine xx_iconst (pc := 16) dL_law_16 cc_iconst_0 ?_
  refine xx_istore_n (pc := 17) (L' := lw_L E b 0) dL_law_17 rfl (Nat.le_of_ble_eq_true rfl) rfl ?_
  rw [ss_all]
  exact xx_z (lw_loop hcat hb hL ⟨Nat.le_of_ble_eq_true rfl, Nat.le_of_ble_eq_true rfl⟩ (L + 1) 0 cw_w0 i_rel (Nat.zero_le _) (by omega))
set_option maxHeartbeats 4000000 in
set_option maxRecDepth 100000 in
/-- the law, from its entry, for every script -/
theorem whole_start {p : Program} {e : Env} {s : State} {m : MethodId} {below : List Frame} {meth : Method} {c : Code} (l : Launch) (hflags : l.flags = flags0) {b L : Nat} {xs : Nat → Int32} (hL : L ≤ 2560) (C0 : lw_At p s m meth c b L xs) : W p l e room_1 s m #[Value.ref b] below meth c s.heap [] 0 0 (lw_Z below #[Value.ref b] s) (entryFrame m ([Value.ref b] : List Value).toArray 4) := by
  obtain ⟨hx, hb, hr, hml, hown, hts, hX, hbl, hlocks, hgv⟩ := id C0
  obtain ⟨E, e1, e2, e3, e4⟩ := ic_env hts hgv
  have hbE : b < ic_b E := by rw [e1]; exact hbl
  have hl := lv_entry ([.ref b]) (n := 4) (Nat.le_of_ble_eq_true rfl)
  rw [lg_entry_eq]
  exact lw_pro (nm := meth.name) e4 hbE hL p e s m #[Value.ref b] below meth c s.heap [] _ ⟨hx, hb, hr, hlocks, hml, hown, rfl, fun w hw => hts w (List.mem_filter.mp hw).1, e2, e3, hX, hbl, e1.symm⟩ ⟨fun _ => e1.symm, fun k q h => by simp [ic_ws, ss_0] at h⟩ va_S.rf hl
