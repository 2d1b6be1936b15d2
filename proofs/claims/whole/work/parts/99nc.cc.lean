/-! the law's calls: the others -/
set_option maxHeartbeats 4000000 in
set_option maxRecDepth 100000 in
theorem lc_10 {l : Launch} {E : ic_E} {nm : String} {b L : Nat} {xs : Nat → Int32} {kc : Nat × Nat} {w : ic_w} {i : Nat} (hb : b < ic_b E) (hL : L ≤ 2560) (hi : i + 4 < L) (hk : kc.1 ≤ 600000 ∧ kc.2 ≤ 7302250) (h : Rel w) (kk : ∀ u, Rel u → xx l E (lw_F E nm b L xs False) kc 1755 (lw_L E b i) [] SHs (hn u)) : xx l E (lw_F E nm b L xs False) kc 582 (lw_L E b i) [] SHs (hn w) := by
  have hs := h.2.1
  have hI := hs.1
  have hR := hs.2.1
  have hP := hs.2.2.1
  refine xx_aload_nP (pc := 582) dL_law_582 2 rfl rfl ?_
  refine lw_arg (pc := 583) 1 hb hL (by omega) cc_iconst_1 dL_law_583 dL_law_584 dL_law_585 dL_law_586 dL_law_587 ?_
  refine xx_i2l (pc := 588) dL_law_588 ?_
  refine xx_bipush (v := 32) (pc := 589) dL_law_589 rfl ?_
  refine xx_lshl (pc := 591) dL_law_591 ?_
  refine lw_arg (pc := 592) 2 hb hL (by omega) cc_iconst_2 dL_law_592 dL_law_593 dL_law_594 dL_law_595 dL_law_596 ?_
  refine xx_i2l (pc := 597) dL_law_597 ?_
  refine xx_ldc2 (pc := 598) dL_law_598 oL_58 ?_
  refine xx_land (pc := 601) dL_law_601 ?_
  refine xx_lor (pc := 602) dL_law_602 ?_
  refine lw_arg (pc := 603) 3 hb hL (by omega) cc_iconst_3 dL_law_603 dL_law_604 dL_law_605 dL_law_606 dL_law_607 ?_
  refine xx_callV0 (pc := 608) (st := []) sh_0 (cC_feed (w := w) (tn_lt _) h.2.2.2.2.1.1) kX11_feed vL_60_11 dL_law_608 rfl rfl (Nat.le_of_ble_eq_true rfl) ⟨Nat.le_of_ble_eq_true rfl, Nat.le_of_ble_eq_true rfl⟩ hk (ic_ki (fun v1 h1 q1 => ?_))
  obtain ⟨rfl, w1, rfl, ⟨f1, f2⟩, t1⟩ := q1
  have e114 : w1 114 = w 114 := f1 114 (by omega) (by omega)
  have e118 : w1 118 = w 118 := f1 118 (by omega) (by omega)
  have e5 : w1 115 = w 115 := f1 115 (by omega) (by omega)
  have hc : Cw w1 (w 115) := h.1.of39 (fun a _ _ => f1 a (by omega) (by omega))
  refine xx_aload_nP (pc := 611) dL_law_611 1 rfl rfl ?_
  refine lw_arg (pc := 612) 1 hb hL (by omega) cc_iconst_1 dL_law_612 dL_law_613 dL_law_614 dL_law_615 dL_law_616 ?_
  refine xx_i2l (pc := 617) dL_law_617 ?_
  refine xx_bipush (v := 32) (pc := 618) dL_law_618 rfl ?_
  refine xx_lshl (pc := 620) dL_law_620 ?_
  refine lw_arg (pc := 621) 2 hb hL (by omega) cc_iconst_2 dL_law_621 dL_law_622 dL_law_623 dL_law_624 dL_law_625 ?_
  refine xx_i2l (pc := 626) dL_law_626 ?_
  refine xx_ldc2 (pc := 627) dL_law_627 oL_58 ?_
  refine xx_land (pc := 630) dL_law_630 ?_
  refine xx_lor (pc := 631) dL_law_631 ?_
  refine lw_arg (pc := 632) 3 hb hL (by omega) cc_iconst_3 dL_law_632 dL_law_633 dL_law_634 dL_law_635 dL_law_636 ?_
  refine xx_callV0 (pc := 637) (st := [.int _]) sh_114 (cM_feed (w := w1) (tn_lt _) (by rw [e114]; exact h.2.2.2.2.1.1.2.1)) kX12_feed vL_64_12 dL_law_637 rfl rfl (Nat.le_of_ble_eq_true rfl) ⟨Nat.le_of_ble_eq_true rfl, Nat.le_of_ble_eq_true rfl⟩ hk (ic_ki (fun v2 h2 q2 => ?_))
  obtain ⟨rfl, rfl⟩ := q2
  refine xx_icmp_eq (pc := 640) 1755 dL_law_640 (by decide) (fun _ => ?_) (fun c => absurd ?_ c)
  · have g1 : ∀ a, (10 ≤ a ∧ a ≤ 38) ∨ 63 ≤ a → w1 a = w a := fun a ha => f1 a (by omega) (by omega)
    by_cases c : (1 ≤ (tn (xs (i + 3))) ∧ (tn (xs (i + 3))) ≤ 8) ∧ w 114 5 + (tn (xs (i + 3))) ≤ 200
    · rw [if_pos c, if_pos c] at t1
      rw [e114, e118, if_pos c]
      refine kk _ (h.tape g1 f2 hc t1 (fd_le _ h.2.2.2.2.1.2) (fun a q1 q2 q3 q4 => by rw [wu_row _ _ _ q1, wr_n _ q3]) (fun j hj => by rw [wu_k _ _ _ _ (by omega), wr_n _ (by omega)]) (by rw [wu_row _ _ _ (by omega), wr_s]) (wu_s _ _ _ _) (by rw [wu_row _ _ _ (by omega), wr_n _ (by omega), e5]) hs)
    · rw [if_neg c, if_neg c] at t1
      rw [e114, if_neg c]
      refine kk _ (h.tape g1 f2 hc t1 h.2.2.2.2.1.2 (fun a _ _ _ _ => rfl) (fun j hj => rfl) e118 (by rw [e114]) e5 hs)
  · rw [e114]
set_option maxHeartbeats 4000000 in
set_option maxRecDepth 100000 in
theorem lc_11 {l : Launch} {E : ic_E} {nm : String} {b L : Nat} {xs : Nat → Int32} {kc : Nat × Nat} {w : ic_w} {i : Nat} (hcat : Value.category E.2.2.2.2.2.2 = 1) (hb : b < ic_b E) (hL : L ≤ 2560) (hi : i + 4 < L) (hk : kc.1 ≤ 600000 ∧ kc.2 ≤ 7302250) (h : Rel w) (kk : ∀ u, Rel u → xx l E (lw_F E nm b L xs False) kc 1755 (lw_L E b i) [] SHs (hn u)) : xx l E (lw_F E nm b L xs False) kc 645 (lw_L E b i) [] SHs (hn w) := by
  have hs := h.2.1
  have hI := hs.1
  have hR := hs.2.1
  have hP := hs.2.2.1
  refine xx_aload_nP (pc := 645) dL_law_645 2 rfl rfl ?_
  refine xx_callV0 (pc := 646) (st := []) sh_0 (cC_rules (w := w) hcat h.2.2.2.2.1.1.1 h.2.2.2.2.1.1.2.1 (fun j hj => ⟨h.2.2.2.2.1.1.2.2 j hj, h.2.2.2.2.1.2 j hj⟩) h.1 hI) kX11_rules vL_65_11 dL_law_646 rfl rfl (Nat.le_of_ble_eq_true rfl) ⟨Nat.le_of_ble_eq_true rfl, Nat.le_of_ble_eq_true rfl⟩ hk (ic_ki (fun v1 h1 q1 => ?_))
  obtain ⟨rfl, w1, rfl, ⟨f1, f2⟩, f6, c1⟩ := q1
  have e114 : w1 114 = w 114 := f1 114 (by omega) (by omega) (by omega)
  have e118 : w1 118 = w 118 := f1 118 (by omega) (by omega) (by omega)
  have e5 : w1 115 = w 115 := f1 115 (by omega) (by omega) (by omega)
  refine xx_aload_nP (pc := 649) dL_law_649 1 rfl rfl ?_
  refine xx_callV0 (pc := 650) (st := [.int _]) sh_114 (cZ_rules (w := w1) (f := w 118) (n := w 114 5) ⟨by rw [e114], h.2.2.2.2.1.1.2.1, fun j hj => ⟨by rw [e118], h.2.2.2.2.1.2 j hj⟩⟩) kX12_rules vL_68_12 dL_law_650 rfl rfl (Nat.le_of_ble_eq_true rfl) ⟨Nat.le_of_ble_eq_true rfl, Nat.le_of_ble_eq_true rfl⟩ hk (ic_ki (fun v2 h2 q2 => ?_))
  obtain ⟨rfl, w2, rfl, k2, k5, k115⟩ := q2
  refine xx_icmp_eq (pc := 653) 1755 dL_law_653 (by decide) (fun _ => ?_) (fun c => absurd ?_ c)
  · refine kk _ (h.tape (u := w1) (f := w 118) (n := 0) (fun a ha => f1 a (by omega) (by omega) (by omega)) f2 c1 ⟨f6, by omega, fun j hj => by omega⟩ (fun j hj => by omega) (fun a q1 q2 q3 q4 => k2.1 a q1 q2 q4) (fun j hj => k2.2.1 j (by omega)) ((k2.1 118 (by omega) (by omega) (by omega)).trans e118) k5 (k115.trans (by rw [e5])) (hs.rul h.2.2.2.2.1.1.2.1))
  · rw [e5]
set_option maxHeartbeats 4000000 in
set_option maxRecDepth 100000 in
theorem lc_35 {l : Launch} {E : ic_E} {nm : String} {b L : Nat} {xs : Nat → Int32} {kc : Nat × Nat} {w : ic_w} {i : Nat} (hb : b < ic_b E) (hL : L ≤ 2560) (hi : i + 4 < L) (hk : kc.1 ≤ 600000 ∧ kc.2 ≤ 7302250) (h : Rel w) (kk : ∀ u, Rel u → xx l E (lw_F E nm b L xs False) kc 1755 (lw_L E b i) [] SHs (hn u)) : xx l E (lw_F E nm b L xs False) kc 1237 (lw_L E b i) [] SHs (hn w) := by
  have hs := h.2.1
  have hI := hs.1
  have hR := hs.2.1
  have hP := hs.2.2.1
  refine xx_aload_nP (pc := 1237) dL_law_1237 2 rfl rfl ?_
  refine lw_arg (pc := 1238) 1 hb hL (by omega) cc_iconst_1 dL_law_1238 dL_law_1239 dL_law_1240 dL_law_1241 dL_law_1242 ?_
  refine xx_callV0 (pc := 1243) (st := []) sh_0 (cC_prove (w := w) (tn_lt _) (R := w 125) h.1 hI hR) kX11_prove vL_161_11 dL_law_1243 rfl rfl (Nat.le_of_ble_eq_true rfl) ⟨Nat.le_of_ble_eq_true rfl, Nat.le_of_ble_eq_true rfl⟩ hk (ic_ki (fun v1 h1 q1 => ?_))
  obtain ⟨rfl, w1, rfl, f1⟩ := q1
  have e5 : w1 115 = w 115 := by
    split at f1
    · exact f1.1 115 (by omega)
    · rw [f1]
  refine xx_aload_nP (pc := 1246) dL_law_1246 1 rfl rfl ?_
  refine lw_arg (pc := 1247) 1 hb hL (by omega) cc_iconst_1 dL_law_1247 dL_law_1248 dL_law_1249 dL_law_1250 dL_law_1251 ?_
  refine xx_callV0 (pc := 1252) (st := [.int _]) sh_114 (cM_prove (w := w1) (tn_lt _) (by rw [e5]; exact hI) (by rw [e5]; exact hR)) kX12_prove vL_164_12 dL_law_1252 rfl rfl (Nat.le_of_ble_eq_true rfl) ⟨Nat.le_of_ble_eq_true rfl, Nat.le_of_ble_eq_true rfl⟩ hk (ic_ki (fun v2 h2 q2 => ?_))
  obtain ⟨rfl, w2, rfl, k2⟩ := q2
  refine xx_icmp_eq (pc := 1255) 1755 dL_law_1255 (by decide) (fun _ => ?_) (fun c => absurd ?_ c)
  · by_cases c : (tn (xs (i + 1))) ≤ 4
    · rw [if_pos c] at f1 k2
      obtain ⟨f1, f55, f0, z1⟩ := f1
      obtain ⟨k2, k125, k28⟩ := k2
      have hok := mo_sm_ok hI (tn (xs (i + 1))) 0
      have h18 := z1.2.1
      have e125 : w1 125 = w 125 := f1 125 (by omega)
      rw [e5, e125] at k125
      rw [e5] at k28
      have hn0 := hI.n
      exact kk _ (h.rows f1 f55 f0 z1 (prw_R hI h.2.2.2.2.2.1.2 _ h18 (fun j hj => Nat.le_trans (hok.1 j hj) hn0) hok.2).2 (fun a ha => k2.1 a (mo_kr_of (by omega)) (by omega)) (fun j hj => k2.2 j (mo_kf_of (by omega)) (by omega)) k125 k28)
    · rw [if_neg c] at f1 k2
      subst f1
      subst k2
      exact kk _ h
  · rw [e5]
set_option maxHeartbeats 4000000 in
set_option maxRecDepth 100000 in
theorem lc_37 {l : Launch} {E : ic_E} {nm : String} {b L : Nat} {xs : Nat → Int32} {kc : Nat × Nat} {w : ic_w} {i : Nat} (hb : b < ic_b E) (hL : L ≤ 2560) (hi : i + 4 < L) (hk : kc.1 ≤ 600000 ∧ kc.2 ≤ 7302250) (h : Rel w) (kk : ∀ u, Rel u → xx l E (lw_F E nm b L xs False) kc 1755 (lw_L E b i) [] SHs (hn u)) : xx l E (lw_F E nm b L xs False) kc 1293 (lw_L E b i) [] SHs (hn w) := by
  have hs := h.2.1
  have hI := hs.1
  have hR := hs.2.1
  have hP := hs.2.2.1
  refine xx_aload_nP (pc := 1293) dL_law_1293 2 rfl rfl ?_
  refine lw_arg (pc := 1294) 1 hb hL (by omega) cc_iconst_1 dL_law_1294 dL_law_1295 dL_law_1296 dL_law_1297 dL_law_1298 ?_
  refine lw_arg (pc := 1299) 2 hb hL (by omega) cc_iconst_2 dL_law_1299 dL_law_1300 dL_law_1301 dL_law_1302 dL_law_1303 ?_
  refine lw_arg (pc := 1304) 3 hb hL (by omega) cc_iconst_3 dL_law_1304 dL_law_1305 dL_law_1306 dL_law_1307 dL_law_1308 ?_
  refine xx_callV0 (pc := 1309) (st := []) sh_0 (cC_alterRow (w := w) (tn_lt _) (tn_lt _) (tn_lt _) h.2.2.2.2.2.1.1) kX11_alterRow vL_169_11 dL_law_1309 rfl rfl (Nat.le_of_ble_eq_true rfl) ⟨Nat.le_of_ble_eq_true rfl, Nat.le_of_ble_eq_true rfl⟩ hk (ic_ki (fun v1 h1 q1 => ?_))
  obtain ⟨rfl, w1, rfl, f1, z1⟩ := q1
  have e28 : w1 114 28 = w 114 28 := by rw [f1 114 (by omega)]
  have e125 : w1 125 = w 125 := f1 125 (by omega)
  refine xx_aload_nP (pc := 1312) dL_law_1312 1 rfl rfl ?_
  refine lw_arg (pc := 1313) 1 hb hL (by omega) cc_iconst_1 dL_law_1313 dL_law_1314 dL_law_1315 dL_law_1316 dL_law_1317 ?_
  refine lw_arg (pc := 1318) 2 hb hL (by omega) cc_iconst_2 dL_law_1318 dL_law_1319 dL_law_1320 dL_law_1321 dL_law_1322 ?_
  refine lw_arg (pc := 1323) 3 hb hL (by omega) cc_iconst_3 dL_law_1323 dL_law_1324 dL_law_1325 dL_law_1326 dL_law_1327 ?_
  refine xx_callV0 (pc := 1328) (st := [.int _]) sh_114 (cM_alterRow (w := w1) (tn_lt _) (tn_lt _) (tn_lt _) (by rw [e28]; exact h.2.2.2.2.2.1.1.2.1)) kX12_alterRow vL_172_12 dL_law_1328 rfl rfl (Nat.le_of_ble_eq_true rfl) ⟨Nat.le_of_ble_eq_true rfl, Nat.le_of_ble_eq_true rfl⟩ hk (ic_ki (fun v2 h2 q2 => ?_))
  obtain ⟨rfl, rfl⟩ := q2
  refine xx_icmp_eq (pc := 1331) 1755 dL_law_1331 (by decide) (fun _ => ?_) (fun c => absurd ?_ c)
  · have g1 : ∀ a, ((4 ≤ a ∧ a ≤ 11) ∨ (16 ≤ a ∧ a ≤ 54) ∨ (56 ≤ a ∧ a ≤ 64) ∨ (67 ≤ a ∧ a ≤ 94) ∨ 114 ≤ a) → w1 a = w a := fun a ha => f1 a (by omega)
    have e55 : w1 55 0 = w 55 0 := by rw [f1 55 (by omega)]
    have e0 : ∀ j, j ≠ 9 → w1 0 j = w 0 j := fun j _ => by rw [f1 0 (by omega)]
    rw [e28]
    by_cases c : tn (xs (i + 1)) < w 114 28 ∧ tn (xs (i + 2)) ≤ 2
    · rw [if_pos c] at z1 ⊢
      refine kk _ (h.rows g1 e55 e0 z1 (fun j hj => ?_) (fun a ha => wu_row _ _ _ (by omega)) (fun j hj => by rw [wu_o _ _ _ _ (by omega)]) (by rw [wu_fu, e125]) (by rw [wu_o _ _ _ _ (by omega), e28]))
      have := h.2.2.2.2.2.1.2 j hj
      unfold fu
      split
      · exact tn_lt _
      · exact this
    · rw [if_neg c] at z1 ⊢
      exact kk _ (h.rows g1 e55 e0 z1 h.2.2.2.2.2.1.2 (fun a ha => rfl) (fun j hj => rfl) e125 e28)
  · rw [e28, e125]
set_option maxHeartbeats 4000000 in
set_option maxRecDepth 100000 in
theorem lc_39 {l : Launch} {E : ic_E} {nm : String} {b L : Nat} {xs : Nat → Int32} {kc : Nat × Nat} {w : ic_w} {i : Nat} (hb : b < ic_b E) (hL : L ≤ 2560) (hi : i + 4 < L) (hk : kc.1 ≤ 600000 ∧ kc.2 ≤ 7302250) (h : Rel w) (kk : ∀ u, Rel u → xx l E (lw_F E nm b L xs False) kc 1755 (lw_L E b i) [] SHs (hn u)) : xx l E (lw_F E nm b L xs False) kc 1349 (lw_L E b i) [] SHs (hn w) := by
  have hs := h.2.1
  have hI := hs.1
  have hR := hs.2.1
  have hP := hs.2.2.1
  refine xx_aload_nP (pc := 1349) dL_law_1349 2 rfl rfl ?_
  refine lw_arg (pc := 1350) 1 hb hL (by omega) cc_iconst_1 dL_law_1350 dL_law_1351 dL_law_1352 dL_law_1353 dL_law_1354 ?_
  refine lw_arg (pc := 1355) 2 hb hL (by omega) cc_iconst_2 dL_law_1355 dL_law_1356 dL_law_1357 dL_law_1358 dL_law_1359 ?_
  refine lw_arg (pc := 1360) 3 hb hL (by omega) cc_iconst_3 dL_law_1360 dL_law_1361 dL_law_1362 dL_law_1363 dL_law_1364 ?_
  refine xx_callV0 (pc := 1365) (st := []) sh_0 (cC_sheet (w := w) (tn_lt _) (tn_lt _) (tn_lt _) h.2.2.2.2.2.2.1) kX11_sheet vL_177_11 dL_law_1365 rfl rfl (Nat.le_of_ble_eq_true rfl) ⟨Nat.le_of_ble_eq_true rfl, Nat.le_of_ble_eq_true rfl⟩ hk (ic_ki (fun v1 h1 q1 => ?_))
  obtain ⟨rfl, w1, rfl, f1, z1⟩ := q1
  have e126 : w1 126 = w 126 := f1 126 (by omega)
  have e127 : w1 127 = w 127 := f1 127 (by omega)
  have e128 : w1 128 = w 128 := f1 128 (by omega)
  refine xx_aload_nP (pc := 1368) dL_law_1368 1 rfl rfl ?_
  refine lw_arg (pc := 1369) 1 hb hL (by omega) cc_iconst_1 dL_law_1369 dL_law_1370 dL_law_1371 dL_law_1372 dL_law_1373 ?_
  refine lw_arg (pc := 1374) 2 hb hL (by omega) cc_iconst_2 dL_law_1374 dL_law_1375 dL_law_1376 dL_law_1377 dL_law_1378 ?_
  refine lw_arg (pc := 1379) 3 hb hL (by omega) cc_iconst_3 dL_law_1379 dL_law_1380 dL_law_1381 dL_law_1382 dL_law_1383 ?_
  refine xx_callV0 (pc := 1384) (st := [.int _]) sh_114 (cM_sheet (w := w1) (tn_lt _) (tn_lt _) (tn_lt _)) kX12_sheet vL_180_12 dL_law_1384 rfl rfl (Nat.le_of_ble_eq_true rfl) ⟨Nat.le_of_ble_eq_true rfl, Nat.le_of_ble_eq_true rfl⟩ hk (ic_ki (fun v2 h2 q2 => ?_))
  obtain ⟨rfl, rfl⟩ := q2
  refine xx_icmp_eq (pc := 1387) 1755 dL_law_1387 (by decide) (fun _ => ?_) (fun c => absurd ?_ c)
  · have g1 : ∀ a, a < 16 ∨ 22 < a → w1 a = w a := fun a ha => f1 a (by omega)
    by_cases c : (tn (xs (i + 1))) ≤ 3 ∧ ((tn (xs (i + 2))) = 4294967295 ∨ ((tn (xs (i + 2))) ≤ 4 ∧ (tn (xs (i + 3))) ≤ 40))
    · rw [if_pos c, if_pos c, if_pos c] at z1
      rw [if_pos c]
      exact kk _ (h.shts g1 z1 (fun a ha => by rw [wr_n _ (by omega), wu_row _ _ _ (by omega), wu_row _ _ _ (by omega)]) (by rw [wr_n _ (by omega), wu_row _ _ _ (by omega), wu_fu, e126]) (by rw [wr_n _ (by omega), wu_fu, wu_row _ _ _ (by omega), e127]) (by rw [wr_s, e128]))
    · rw [if_neg c, if_neg c, if_neg c] at z1
      rw [if_neg c]
      exact kk _ (h.shts g1 z1 (fun a ha => rfl) e126 e127 e128)
  · rfl
set_option maxHeartbeats 4000000 in
set_option maxRecDepth 100000 in
theorem lc_40 {l : Launch} {E : ic_E} {nm : String} {b L : Nat} {xs : Nat → Int32} {kc : Nat × Nat} {w : ic_w} {i : Nat} (hb : b < ic_b E) (hL : L ≤ 2560) (hi : i + 4 < L) (hk : kc.1 ≤ 600000 ∧ kc.2 ≤ 7302250) (h : Rel w) (kk : ∀ u, Rel u → xx l E (lw_F E nm b L xs False) kc 1755 (lw_L E b i) [] SHs (hn u)) : xx l E (lw_F E nm b L xs False) kc 1392 (lw_L E b i) [] SHs (hn w) := by
  have hs := h.2.1
  have hI := hs.1
  have hR := hs.2.1
  have hP := hs.2.2.1
  refine xx_aload_nP (pc := 1392) dL_law_1392 2 rfl rfl ?_
  refine lw_arg (pc := 1393) 1 hb hL (by omega) cc_iconst_1 dL_law_1393 dL_law_1394 dL_law_1395 dL_law_1396 dL_law_1397 ?_
  refine lw_arg (pc := 1398) 2 hb hL (by omega) cc_iconst_2 dL_law_1398 dL_law_1399 dL_law_1400 dL_law_1401 dL_law_1402 ?_
  refine lw_arg (pc := 1403) 3 hb hL (by omega) cc_iconst_3 dL_law_1403 dL_law_1404 dL_law_1405 dL_law_1406 dL_law_1407 ?_
  refine xx_callV0 (pc := 1408) (st := []) sh_0 (cC_write (w := w) (tn_lt _) (tn_lt _) (tn_lt _) h.2.2.2.2.2.2.1) kX11_write vL_181_11 dL_law_1408 rfl rfl (Nat.le_of_ble_eq_true rfl) ⟨Nat.le_of_ble_eq_true rfl, Nat.le_of_ble_eq_true rfl⟩ hk (ic_ki (fun v1 h1 q1 => ?_))
  obtain ⟨rfl, w1, rfl, f1, z1⟩ := q1
  have e126 : w1 126 = w 126 := f1 126 (by omega)
  have e127 : w1 127 = w 127 := f1 127 (by omega)
  have e128 : w1 128 = w 128 := f1 128 (by omega)
  have st1 : mo_St w1 := by
    have := Ct.St h.2.2.2.2.2.2.1
    unfold mo_St at this ⊢
    rw [e126, e127, e128]
    exact this
  refine xx_aload_nP (pc := 1411) dL_law_1411 1 rfl rfl ?_
  refine lw_arg (pc := 1412) 1 hb hL (by omega) cc_iconst_1 dL_law_1412 dL_law_1413 dL_law_1414 dL_law_1415 dL_law_1416 ?_
  refine lw_arg (pc := 1417) 2 hb hL (by omega) cc_iconst_2 dL_law_1417 dL_law_1418 dL_law_1419 dL_law_1420 dL_law_1421 ?_
  refine lw_arg (pc := 1422) 3 hb hL (by omega) cc_iconst_3 dL_law_1422 dL_law_1423 dL_law_1424 dL_law_1425 dL_law_1426 ?_
  refine xx_callV0 (pc := 1427) (st := [.int _]) sh_114 (cM_write (w := w1) (tn_lt _) (tn_lt _) (tn_lt _) st1) kX12_write vL_184_12 dL_law_1427 rfl rfl (Nat.le_of_ble_eq_true rfl) ⟨Nat.le_of_ble_eq_true rfl, Nat.le_of_ble_eq_true rfl⟩ hk (ic_ki (fun v2 h2 q2 => ?_))
  obtain ⟨rfl, rfl⟩ := q2
  refine xx_icmp_eq (pc := 1430) 1755 dL_law_1430 (by decide) (fun _ => ?_) (fun c => absurd ?_ c)
  · have g1 : ∀ a, a < 16 ∨ 22 < a → w1 a = w a := fun a ha => f1 a (by omega)
    rw [e126, e127]
    by_cases c : (tn (xs (i + 1))) ≤ 3 ∧ w 126 (tn (xs (i + 1))) ≠ 4294967295 ∧ (tn (xs (i + 2))) < w 127 (tn (xs (i + 1)))
    · rw [if_pos c] at z1 ⊢
      exact kk _ (h.shts g1 z1 (fun a ha => wu_row _ _ _ (by omega)) (by rw [wu_row _ _ _ (by omega), e126]) (by rw [wu_row _ _ _ (by omega), e127]) (by rw [wu_fu, e128]))
    · rw [if_neg c] at z1 ⊢
      exact kk _ (h.shts g1 z1 (fun a ha => rfl) e126 e127 e128)
  · rw [e126, e127]
set_option maxHeartbeats 4000000 in
set_option maxRecDepth 100000 in
theorem lc_44 {l : Launch} {E : ic_E} {nm : String} {b L : Nat} {xs : Nat → Int32} {kc : Nat × Nat} {w : ic_w} {i : Nat} (hb : b < ic_b E) (hL : L ≤ 2560) (hi : i + 4 < L) (hk : kc.1 ≤ 600000 ∧ kc.2 ≤ 7302250) (h : Rel w) (kk : ∀ u, Rel u → xx l E (lw_F E nm b L xs False) kc 1755 (lw_L E b i) [] SHs (hn u)) : xx l E (lw_F E nm b L xs False) kc 1564 (lw_L E b i) [] SHs (hn w) := by
  have hs := h.2.1
  have hI := hs.1
  have hR := hs.2.1
  have hP := hs.2.2.1
  refine xx_aload_nP (pc := 1564) dL_law_1564 2 rfl rfl ?_
  refine lw_arg (pc := 1565) 1 hb hL (by omega) cc_iconst_1 dL_law_1565 dL_law_1566 dL_law_1567 dL_law_1568 dL_law_1569 ?_
  refine lw_arg (pc := 1570) 2 hb hL (by omega) cc_iconst_2 dL_law_1570 dL_law_1571 dL_law_1572 dL_law_1573 dL_law_1574 ?_
  refine lw_arg (pc := 1575) 3 hb hL (by omega) cc_iconst_3 dL_law_1575 dL_law_1576 dL_law_1577 dL_law_1578 dL_law_1579 ?_
  refine xx_callV0 (pc := 1580) (st := []) sh_0 (cC_shelf (w := w) (tn_lt _) (tn_lt _) (tn_lt _) h.1.1 hI h.2.2.2.2.2.2.2.1.1 h.2.2.2.2.2.2.1) kX11_shelf vL_197_11 dL_law_1580 rfl rfl (Nat.le_of_ble_eq_true rfl) ⟨Nat.le_of_ble_eq_true rfl, Nat.le_of_ble_eq_true rfl⟩ hk (ic_ki (fun v1 h1 q1 => ?_))
  obtain ⟨rfl, w1, rfl, f1, z1⟩ := q1
  have e126 : w1 126 = w 126 := f1 126 (by omega)
  have e127 : w1 127 = w 127 := f1 127 (by omega)
  have e128 : w1 128 = w 128 := f1 128 (by omega)
  have st1 : mo_St w1 := by
    have := Ct.St h.2.2.2.2.2.2.1
    unfold mo_St at this ⊢
    rw [e126, e127, e128]
    exact this
  have e5 : w1 115 = w 115 := f1 115 (by omega)
  have e129 : w1 129 = w 129 := f1 129 (by omega)
  have e130 : w1 130 = w 130 := f1 130 (by omega)
  have e131 : w1 131 = w 131 := f1 131 (by omega)
  refine xx_aload_nP (pc := 1583) dL_law_1583 1 rfl rfl ?_
  refine lw_arg (pc := 1584) 1 hb hL (by omega) cc_iconst_1 dL_law_1584 dL_law_1585 dL_law_1586 dL_law_1587 dL_law_1588 ?_
  refine lw_arg (pc := 1589) 2 hb hL (by omega) cc_iconst_2 dL_law_1589 dL_law_1590 dL_law_1591 dL_law_1592 dL_law_1593 ?_
  refine lw_arg (pc := 1594) 3 hb hL (by omega) cc_iconst_3 dL_law_1594 dL_law_1595 dL_law_1596 dL_law_1597 dL_law_1598 ?_
  refine xx_callV0 (pc := 1599) (st := [.int _]) sh_114 (cM_shelf (w := w1) (tn_lt _) (tn_lt _) (tn_lt _) st1 (by rw [e5]; exact hI)) kX12_shelf vL_200_12 dL_law_1599 rfl rfl (Nat.le_of_ble_eq_true rfl) ⟨Nat.le_of_ble_eq_true rfl, Nat.le_of_ble_eq_true rfl⟩ hk (ic_ki (fun v2 h2 q2 => ?_))
  obtain ⟨rfl, rfl⟩ := q2
  refine xx_icmp_eq (pc := 1602) 1755 dL_law_1602 (by decide) (fun _ => ?_) (fun c => absurd ?_ c)
  · rw [e5, e126, e127]
    by_cases c : (tn (xs (i + 1))) ≤ 3 ∧ (tn (xs (i + 2))) ≤ 2 ∧ ((tn (xs (i + 2))) = 0 → (tn (xs (i + 3))) < w 115 0) ∧ ((tn (xs (i + 2))) = 1 → (tn (xs (i + 3))) ≤ 3)
    · rw [if_pos c, if_pos c, if_pos c] at z1
      rw [if_pos c]
      refine kk _ (h.shlv f1 z1 (fun q hq => ?_) (fun a ha => by rw [wu_row _ _ _ (by omega), wu_row _ _ _ (by omega), wu_row _ _ _ (by omega)]) (by rw [wu_row _ _ _ (by omega), wu_row _ _ _ (by omega), wu_fu, e129]) (by rw [wu_row _ _ _ (by omega), wu_fu, wu_row _ _ _ (by omega), e130]) (by rw [wu_fu, wu_row _ _ _ (by omega), wu_row _ _ _ (by omega), e131]))
      have sv := h.2.2.2.2.2.2.2.1.2 q hq
      have ha3 := tn_lt (xs (i + 3))
      have ct : (tn (xs (i + 2))) = 1 → (w 126 (tn (xs (i + 3))) = 4294967295 ∨ w 126 (tn (xs (i + 3))) ≤ 4) ∧ w 127 (tn (xs (i + 3))) ≤ 40 := fun z => ⟨(h.2.2.2.2.2.2.1 (tn (xs (i + 3))) (by have := c.2.2.2 z; omega)).2.2.1, (h.2.2.2.2.2.2.1 (tn (xs (i + 3))) (by have := c.2.2.2 z; omega)).2.2.2.1⟩
      refine ⟨?_, ?_, ?_⟩
      · unfold fu
        split
        · split
          · omega
          · split <;> omega
        · exact sv.1
      · unfold fu
        split
        · split
          · exact ha3
          · split
            · rename_i z
              have := ct z.1
              omega
            · omega
        · exact sv.2.1
      · unfold fu
        split
        · split
          · rename_i z
            exact (ct z.1).2
          · omega
        · exact sv.2.2
    · rw [if_neg c, if_neg c, if_neg c] at z1
      rw [if_neg c]
      exact kk _ (h.shlv f1 z1 h.2.2.2.2.2.2.2.1.2 (fun a ha => rfl) e129 e130 e131)
  · rw [e5]
set_option maxHeartbeats 4000000 in
set_option maxRecDepth 100000 in
theorem lc_46 {l : Launch} {E : ic_E} {nm : String} {b L : Nat} {xs : Nat → Int32} {kc : Nat × Nat} {w : ic_w} {i : Nat} (hb : b < ic_b E) (hL : L ≤ 2560) (hi : i + 4 < L) (hk : kc.1 ≤ 600000 ∧ kc.2 ≤ 7302250) (h : Rel w) (kk : ∀ u, Rel u → xx l E (lw_F E nm b L xs False) kc 1755 (lw_L E b i) [] SHs (hn u)) : xx l E (lw_F E nm b L xs False) kc 1640 (lw_L E b i) [] SHs (hn w) := by
  have hs := h.2.1
  have hI := hs.1
  have hR := hs.2.1
  have hP := hs.2.2.1
  refine xx_aload_nP (pc := 1640) dL_law_1640 2 rfl rfl ?_
  refine lw_arg (pc := 1641) 1 hb hL (by omega) cc_iconst_1 dL_law_1641 dL_law_1642 dL_law_1643 dL_law_1644 dL_law_1645 ?_
  refine lw_arg (pc := 1646) 2 hb hL (by omega) cc_iconst_2 dL_law_1646 dL_law_1647 dL_law_1648 dL_law_1649 dL_law_1650 ?_
  refine lw_arg (pc := 1651) 3 hb hL (by omega) cc_iconst_3 dL_law_1651 dL_law_1652 dL_law_1653 dL_law_1654 dL_law_1655 ?_
  refine xx_callV0 (pc := 1656) (st := []) sh_0 (cC_act (w := w) (tn_lt _) (tn_lt _) (tn_lt _) h.1.1 hI h.2.2.2.2.2.2.2.1.1) kX11_act vL_205_11 dL_law_1656 rfl rfl (Nat.le_of_ble_eq_true rfl) ⟨Nat.le_of_ble_eq_true rfl, Nat.le_of_ble_eq_true rfl⟩ hk (ic_ki (fun v1 h1 q1 => ?_))
  obtain ⟨rfl, w1, rfl, ⟨f1, f2⟩, z1⟩ := q1
  have e5 : w1 115 = w 115 := f1 115 (by omega) (by omega)
  have e129 : w1 129 = w 129 := f1 129 (by omega) (by omega)
  have e130 : w1 130 = w 130 := f1 130 (by omega) (by omega)
  have sv1 : mo_Sv w1 := by
    unfold mo_Sv
    rw [e129, e130, f1 131 (by omega) (by omega)]
    exact h.2.2.2.2.2.2.2.1.2
  have eo : w1 = ov w1 w := ov_id (fun a ha => f1 a (by omega) (by omega))
  have ea : mo_ac0 w1 (tn (xs (i + 1))) = ov w1 (mo_acc w (w 115) (w 130) (tn (xs (i + 1)))) := by
    rw [mo_acc_e, e5, e130, ← ov_acc, ← eo]
  have sv := h.2.2.2.2.2.2.2.1.2 (tn (xs (i + 1)))
  have ho : ((tn (xs (i + 1))) ≤ 3 ∧ (tn (xs (i + 2))) ≤ 3 ∧ mo_ho w1 (tn (xs (i + 1))) = 1) ↔ ((tn (xs (i + 1))) ≤ 3 ∧ (tn (xs (i + 2))) ≤ 3 ∧ w 129 (tn (xs (i + 1))) = 1 ∧ w 130 (tn (xs (i + 1))) < w 115 0) := by
    unfold mo_ho
    rw [e129, e130, e5]
    constructor
    · rintro ⟨a1, a2, a3⟩
      split at a3
      · omega
      · exact ⟨a1, a2, by omega, by omega⟩
    · rintro ⟨a1, a2, a3, a4⟩
      exact ⟨a1, a2, by rw [if_neg (by omega)]; exact a3⟩
  refine xx_aload_nP (pc := 1659) dL_law_1659 1 rfl rfl ?_
  refine lw_arg (pc := 1660) 1 hb hL (by omega) cc_iconst_1 dL_law_1660 dL_law_1661 dL_law_1662 dL_law_1663 dL_law_1664 ?_
  refine lw_arg (pc := 1665) 2 hb hL (by omega) cc_iconst_2 dL_law_1665 dL_law_1666 dL_law_1667 dL_law_1668 dL_law_1669 ?_
  refine lw_arg (pc := 1670) 3 hb hL (by omega) cc_iconst_3 dL_law_1670 dL_law_1671 dL_law_1672 dL_law_1673 dL_law_1674 ?_
  refine xx_callV0 (pc := 1675) (st := [.int _]) sh_114 (cM_act (w := w1) (tn_lt _) (tn_lt _) (tn_lt _) sv1 (by rw [e5]; exact hI)) kX12_act vL_208_12 dL_law_1675 rfl rfl (Nat.le_of_ble_eq_true rfl) ⟨Nat.le_of_ble_eq_true rfl, Nat.le_of_ble_eq_true rfl⟩ hk (ic_ki (fun v2 h2 q2 => ?_))
  obtain ⟨rfl, rfl⟩ := q2
  refine xx_icmp_eq (pc := 1678) 1755 dL_law_1678 (by decide) (fun _ => ?_) (fun c => absurd ?_ c)
  · have l36 := z1.le
    by_cases c : (tn (xs (i + 1))) ≤ 3 ∧ (tn (xs (i + 2))) ≤ 3 ∧ w 129 (tn (xs (i + 1))) = 1 ∧ w 130 (tn (xs (i + 1))) < w 115 0
    · rw [if_pos c] at z1 l36
      rw [if_pos (ho.mpr c), ea, ov_aw]
      have aw := (Aw_acc w (w 115) (w 130) (tn (xs (i + 1)))).tr (Aw_aw (mo_acc w (w 115) (w 130) (tn (xs (i + 1)))) (tn (xs (i + 2))))
      refine kk _ (h.acts f1 f2 z1 l36 (fun a q1 q2 => ?_) (fun j hj => ?_) (ov_f _ _ _ (by omega)).symm ?_)
      · by_cases z : a < 114
        · unfold ov
          rw [if_pos z]
        · funext j
          rw [ov_f _ _ _ (by omega), aw.1 a q1 q2, f1 a (by omega) (by omega)]
      · rw [ov_f _ _ _ (by omega), aw.2 j (by omega), f1 114 (by omega) (by omega)]
      · funext j
        exact (ov_f _ _ _ (by omega)).symm
    · rw [if_neg c] at z1 l36
      rw [if_neg (fun z => c (ho.mp z))]
      refine kk _ (h.acts f1 f2 z1 l36 (fun a q1 q2 => wu_row _ _ _ q1) (fun j hj => wu_k _ _ _ _ (by omega)) (by rw [wu_s, wu_s]) ?_)
      rw [wu_row _ _ _ (by omega), wu_row _ _ _ (by omega), f1 132 (by omega) (by omega)]
  · by_cases c : (tn (xs (i + 1))) ≤ 3 ∧ (tn (xs (i + 2))) ≤ 3 ∧ w 129 (tn (xs (i + 1))) = 1 ∧ w 130 (tn (xs (i + 1))) < w 115 0
    · rw [if_pos c, if_pos (ho.mpr c), ea, ov_aw, ov_av, ov_f _ _ _ (by omega)]
    · rw [if_neg c, if_neg (fun z => c (ho.mp z))]
set_option maxHeartbeats 4000000 in
set_option maxRecDepth 100000 in
theorem lc_49 {l : Launch} {E : ic_E} {nm : String} {b L : Nat} {xs : Nat → Int32} {kc : Nat × Nat} {w : ic_w} {i : Nat} (hb : b < ic_b E) (hL : L ≤ 2560) (hi : i + 4 < L) (hk : kc.1 ≤ 600000 ∧ kc.2 ≤ 7302250) (h : Rel w) (kk : ∀ u, Rel u → xx l E (lw_F E nm b L xs False) kc 1755 (lw_L E b i) [] SHs (hn u)) : xx l E (lw_F E nm b L xs False) kc 1729 (lw_L E b i) [] SHs (hn w) := by
  have hs := h.2.1
  have hI := hs.1
  have hR := hs.2.1
  have hP := hs.2.2.1
  refine xx_aload_nP (pc := 1729) dL_law_1729 2 rfl rfl ?_
  refine xx_callV0 (pc := 1730) (st := []) sh_0 (cC_keep (w := w) ) kX11_keep vL_217_11 dL_law_1730 rfl rfl (Nat.le_of_ble_eq_true rfl) ⟨Nat.le_of_ble_eq_true rfl, Nat.le_of_ble_eq_true rfl⟩ hk (ic_ki (fun v1 h1 q1 => ?_))
  obtain ⟨rfl, w1, rfl, f1, f2, f3, n1⟩ := q1
  have E : ∀ a, a ≠ 0 → (a < 67 ∨ 94 < a) → w1 a = w a := f1
  have e5 : w1 115 = w 115 := E 115 (by omega) (by omega)
  have e6 : w1 116 = w 116 := E 116 (by omega) (by omega)
  have e4 : w1 114 = w 114 := E 114 (by omega) (by omega)
  refine xx_aload_nP (pc := 1733) dL_law_1733 1 rfl rfl ?_
  refine xx_callV0 (pc := 1734) (st := [.int _]) sh_114 (cM_keep (w := w1) ) kX12_keep vL_220_12 dL_law_1734 rfl rfl (Nat.le_of_ble_eq_true rfl) ⟨Nat.le_of_ble_eq_true rfl, Nat.le_of_ble_eq_true rfl⟩ hk (ic_ki (fun v2 h2 q2 => ?_))
  obtain ⟨rfl, rfl⟩ := q2
  refine xx_icmp_eq (pc := 1737) 1755 dL_law_1737 (by decide) (fun _ => ?_) (fun c => absurd ?_ c)
  · rw [e5, e6, cp_all hs.2.2.2 h.2.2.2.1.2.2.1]
    have e5 : w1 115 = w 115 := E 115 (by omega) (by omega)
    have D : ∀ a, a ≠ 0 → (a < 67 ∨ 94 < a) → a ≠ 114 → a ≠ 116 → wu (wr w1 116 (w 115)) 114 2 1 a = w a := fun a q1 q2 q3 q4 => by rw [wu_row _ _ _ q3, wr_n _ q4]; exact E a q1 q2
    have D0 : ∀ j, j ≠ 2 → wu (wr w1 116 (w 115)) 114 2 1 0 j = w 0 j := fun j hj => by rw [wu_o _ _ _ _ (by omega), wr_n _ (by omega)]; exact f2 j hj
    have D4 : ∀ j, j ≠ 2 → wu (wr w1 116 (w 115)) 114 2 1 114 j = w 114 j := fun j hj => by rw [wu_k _ _ _ _ hj, wr_n _ (by omega), e4]
    refine kk _ ?_
    generalize hv : wu (wr w1 116 (w 115)) 114 2 1 = v at D D0 D4
    have v5 : v 115 = w 115 := D 115 (by omega) (by omega) (by omega) (by omega)
    have v6 : v 116 = w 115 := by rw [← hv, wu_row _ _ _ (by omega), wr_s]
    have v42 : v 114 2 = 1 := by rw [← hv]; exact wu_s _ _ _ _
    have v02 : v 0 2 = 1 := by rw [← hv, wu_o _ _ _ _ (by omega), wr_n _ (by omega)]; exact f3
    have vB : ∀ a, 67 ≤ a → a ≤ 94 → v a = w1 a := fun a q1 q2 => by rw [← hv, wu_row _ _ _ (by omega), wr_n _ (by omega)]
    refine ⟨?_, by rw [v5]; exact hs, by rw [D 63 (by omega) (by omega) (by omega) (by omega), D 64 (by omega) (by omega) (by omega) (by omega)]; exact h.2.2.1, ⟨by omega, by omega, by rw [v6]; exact hs.2.2.2, fun _ => ⟨by rw [v6]; exact hs, w, n1.ofB vB, by rw [v6]; exact h.1⟩⟩, ?_, ?_, ?_, ?_, ?_⟩
    · rw [v5]
      exact h.1.of39 (fun a _ _ => D a (by omega) (by omega) (by omega) (by omega))
    · exact h.2.2.2.2.1.of (D0 6 (by omega)) (D 4 (by omega) (by omega) (by omega) (by omega)) (D4 5 (by omega)) (D 118 (by omega) (by omega) (by omega) (by omega))
    · exact h.2.2.2.2.2.1.of (D0 9 (by omega)) (fun a h1 h2 => D a (by omega) (by omega) (by omega) (by omega)) (D4 28 (by omega)) (D 125 (by omega) (by omega) (by omega) (by omega))
    · rw [D 126 (by omega) (by omega) (by omega) (by omega), D 127 (by omega) (by omega) (by omega) (by omega), D 128 (by omega) (by omega) (by omega) (by omega)]
      exact h.2.2.2.2.2.2.1.of (fun a h1 h2 => D a (by omega) (by omega) (by omega) (by omega))
    · exact h.2.2.2.2.2.2.2.1.of (fun a h1 h2 => D a (by omega) (by omega) (by omega) (by omega)) (D 129 (by omega) (by omega) (by omega) (by omega)) (D 130 (by omega) (by omega) (by omega) (by omega)) (D 131 (by omega) (by omega) (by omega) (by omega))
    · exact h.2.2.2.2.2.2.2.2.of (D0 16 (by omega)) (fun a h1 h2 => D a (by omega) (by omega) (by omega) (by omega)) (D4 36 (by omega)) (D 132 (by omega) (by omega) (by omega) (by omega))
  · rfl
set_option maxHeartbeats 4000000 in
set_option maxRecDepth 100000 in
theorem lc_50 {l : Launch} {E : ic_E} {nm : String} {b L : Nat} {xs : Nat → Int32} {kc : Nat × Nat} {w : ic_w} {i : Nat} (hb : b < ic_b E) (hL : L ≤ 2560) (hi : i + 4 < L) (hk : kc.1 ≤ 600000 ∧ kc.2 ≤ 7302250) (h : Rel w) (kk : ∀ u, Rel u → xx l E (lw_F E nm b L xs False) kc 1755 (lw_L E b i) [] SHs (hn u)) : xx l E (lw_F E nm b L xs False) kc 1742 (lw_L E b i) [] SHs (hn w) := by
  have hs := h.2.1
  have hI := hs.1
  have hR := hs.2.1
  have hP := hs.2.2.1
  refine xx_aload_nP (pc := 1742) dL_law_1742 2 rfl rfl ?_
  refine xx_callV0 (pc := 1743) (st := []) sh_0 (cC_again9 (w := w) (by rw [h.2.2.2.1.2.1]; exact h.2.2.2.1.1)) kX11_again vL_221_11 dL_law_1743 rfl rfl (Nat.le_of_ble_eq_true rfl) ⟨Nat.le_of_ble_eq_true rfl, Nat.le_of_ble_eq_true rfl⟩ hk (ic_ki (fun v1 h1 q1 => ?_))
  obtain ⟨rfl, w1, rfl, f1, f2, n1⟩ := q1
  obtain ⟨lk1, lk2, lk3, lk4⟩ := h.2.2.2.1
  have e5 : w1 115 = w 115 := f1 115 (by omega)
  have e6 : w1 116 = w 116 := f1 116 (by omega)
  have e4 : w1 114 = w 114 := f1 114 (by omega)
  refine xx_aload_nP (pc := 1746) dL_law_1746 1 rfl rfl ?_
  refine xx_callV0 (pc := 1747) (st := [.int _]) sh_114 (cM_again (w := w1) (by rw [e4]; exact lk1)) kX12_again vL_224_12 dL_law_1747 rfl rfl (Nat.le_of_ble_eq_true rfl) ⟨Nat.le_of_ble_eq_true rfl, Nat.le_of_ble_eq_true rfl⟩ hk (ic_ki (fun v2 h2 q2 => ?_))
  obtain ⟨rfl, rfl⟩ := q2
  refine xx_icmp_eq (pc := 1750) 1755 dL_law_1750 (by decide) (fun _ => ?_) (fun c => absurd ?_ c)
  · rw [e4, e5, e6, cp_all lk3 hs.2.2.2]
    by_cases c : w 114 2 = 0
    · rw [if_pos c]
      rw [f2 (by omega)]
      exact kk _ h
    · rw [if_neg c]
      obtain ⟨hk1, v, hk2, hk3⟩ := lk4 (by omega)
      have hc1 : Cw w1 (w 116) := hk3.nk hk1.1 hk1.1.2.2.1.1 (by have := hk1.1.2.2.1.2.2; omega) ((n1 (by omega)).tr hk2)
      refine kk _ (h.go (u := w1) ⟨fun a ha => f1 a (by omega), ?_, ?_⟩ hc1 (Gm.rr _ _) (wr_s _ _ _) hk1)
      · rw [f1 63 (by omega)]
        exact h.2.2.1.1
      · rw [f1 64 (by omega)]
        exact h.2.2.1.2
  · rw [e4, e5, e6, cp_all lk3 hs.2.2.2, lk2]
    by_cases c : w 114 2 = 0
    · rw [if_pos c, if_pos c]
    · rw [if_neg c, if_neg c]
      obtain ⟨hk1, v, hk2, hk3⟩ := lk4 (by omega)
      rw [hk2.1.1, hk3.1.n]
