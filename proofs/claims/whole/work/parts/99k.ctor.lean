/-! the constructors: shapes as they grow -/
def Zf (n : Nat) (w : ic_w) : Prop := ∀ a, n ≤ a → w a = fun _ => 0
theorem Zf.up {n m o k v : Nat} {w : ic_w} (h : Zf n w) (hm : n ≤ m) (ho : o < m) : Zf m (wu w o k v) := fun a ha => by rw [wu_row _ _ _ (by omega)]; exact h a (by omega)
theorem Zf.le {n m : Nat} {w : ic_w} (h : Zf n w) (hm : n ≤ m) : Zf m w := fun a ha => h a (by omega)
theorem Zf.h {n m : Nat} {w : ic_w} (h : Zf n w) (hm : n ≤ m) : hn w m = fun _ => 0 := funext fun k => by
  show nI (w m k) = 0
  rw [h m hm]
  rfl
theorem oi_all : Cond.instanceMethod Lib.objectInit ∈ ic_W ∧ Cond.code Lib.objectInit ⟨#[0xb1]⟩ 1 none ∈ ic_W := ⟨ic_in 121 (by decide +kernel) rfl, ic_in 122 (by decide +kernel) rfl⟩
def ss_0 : List ic_S := []
theorem ls_0 : ss_0.length = 0 := rfl
def ss_1 : List ic_S := ss_0 ++ [(11, 0, [0, 0, 0, 0, 0, 0, 0, 0, 0, 0, 0, 0, 0, 0, 0, 0, 1000000])]
theorem ls_1 : ss_1.length = 1 := by unfold ss_1; rw [List.length_append, ls_0]; rfl
def ss_2 : List ic_S := ss_1 ++ [(4, 0, [0, 0, 0, 0])]
theorem ls_2 : ss_2.length = 2 := by unfold ss_2; rw [List.length_append, ls_1]; rfl
def ss_3 : List ic_S := ss_2 ++ [(100, 6, [])]
theorem ls_3 : ss_3.length = 3 := by unfold ss_3; rw [List.length_append, ls_2]; rfl
def ss_4 : List ic_S := ss_3.set 1 (4, 0, [0, 0, 3, 0])
theorem ls_4 : ss_4.length = 3 := by unfold ss_4; rw [List.length_set, ls_3]
def ss_5 : List ic_S := ss_4 ++ [(100, 6, [])]
theorem ls_5 : ss_5.length = 4 := by unfold ss_5; rw [List.length_append, ls_4]; rfl
def ss_6 : List ic_S := ss_5.set 1 (4, 0, [0, 0, 3, 4])
theorem ls_6 : ss_6.length = 4 := by unfold ss_6; rw [List.length_set, ls_5]
def cw_1 (w : ic_w) : ic_w := w
theorem cz_1 {w : ic_w} (hz : Zf 2 w) : Zf 4 (cw_1 w) := by
  unfold cw_1
  exact Zf.le (n := 2) (m := 4) (hz) (by decide)
set_option maxHeartbeats 4000000 in
set_option maxRecDepth 100000 in
theorem cI_1 {l : Launch} {E : ic_E} {w : ic_w} (hz : Zf 2 w) : ic_CI l E mX4_init 1 2 12 True [ic_pt E 1] ss_2 (hn w) ss_6 (ic_qv (fun h_ => h_ = hn (cw_1 w))) := by
  refine ic_introI (by decide +kernel) (Nat.le_of_ble_eq_true rfl) ?_
  show xx l E _ _ 0 [(0, ic_pt E 1)] _ _ _
  refine xx_aload_nP (pc := 0) dX4_init_0 0 rfl rfl ?_
  refine xx_objI (pc := 1) dX4_init_1 (show Cond.methodLink RX4 3 Lib.objectInit ∈ ic_W from ic_in 128 (by decide +kernel) rfl) oi_all ⟨Nat.le_of_ble_eq_true rfl, Nat.le_of_ble_eq_true rfl⟩ (Nat.le_of_ble_eq_true rfl) ?_
  refine xx_aload_nP (pc := 4) dX4_init_4 0 rfl rfl ?_
  refine xx_bipush (pc := 5) dX4_init_5 cc_bipush_6 ?_
  refine xx_newaI (n := 2) (N := 6) (sh2 := ss_3) (pc := 7) dX4_init_7 (ic_in 152 (by decide +kernel) rfl) trivial ls_2 rfl (by decide) (hz.h (by decide)) ⟨Nat.le_of_ble_eq_true rfl, Nat.le_of_ble_eq_true rfl⟩ ?_
  refine xx_putF (o := 1) (t := 2) (sh2 := ss_4) (pc := 9) dX4_init_9 (show ss_3[1]? = some (4, 0, [0, 0, 0, 0]) by decide +kernel) fX4_9_4 rfl rfl rfl rfl (by decide) (by decide) rfl ?_
  refine xx_aload_nP (pc := 12) dX4_init_12 0 rfl rfl ?_
  refine xx_bipush (pc := 13) dX4_init_13 cc_bipush_6 ?_
  refine xx_newaI (n := 3) (N := 6) (sh2 := ss_5) (pc := 15) dX4_init_15 (ic_in 152 (by decide +kernel) rfl) trivial ls_4 rfl (by decide) (hz.h (by decide)) ⟨Nat.le_of_ble_eq_true rfl, Nat.le_of_ble_eq_true rfl⟩ ?_
  refine xx_putF (o := 1) (t := 3) (sh2 := ss_6) (pc := 17) dX4_init_17 (show ss_5[1]? = some (4, 0, [0, 0, 3, 0]) by decide +kernel) fX4_15_4 rfl rfl rfl rfl (by decide) (by decide) rfl ?_
  exact xx_vretI (pc := 20) dX4_init_20 rfl (Nat.le_of_ble_eq_true rfl) (Nat.le_of_ble_eq_true rfl) (ic_rv0 (by first | rfl | (rw [rfl]; rfl)))
def ss_7 : List ic_S := ss_6.set 0 (11, 0, [0, 0, 0, 2, 0, 0, 0, 0, 0, 0, 0, 0, 0, 0, 0, 0, 1000000])
theorem ls_7 : ss_7.length = 4 := by unfold ss_7; rw [List.length_set, ls_6]
def ss_8 : List ic_S := ss_7 ++ [(101, 200, [])]
theorem ls_8 : ss_8.length = 5 := by unfold ss_8; rw [List.length_append, ls_7]; rfl
def ss_9 : List ic_S := ss_8.set 0 (11, 0, [0, 0, 0, 2, 0, 5, 0, 0, 0, 0, 0, 0, 0, 0, 0, 0, 1000000])
theorem ls_9 : ss_9.length = 5 := by unfold ss_9; rw [List.length_set, ls_8]
def ss_10 : List ic_S := ss_9 ++ [(10, 0, [0, 0, 0, 0, 0, 0, 1000000, 0, 0, 0, 0])]
theorem ls_10 : ss_10.length = 6 := by unfold ss_10; rw [List.length_append, ls_9]; rfl
def ss_11 : List ic_S := ss_10 ++ [(100, 8, [])]
theorem ls_11 : ss_11.length = 7 := by unfold ss_11; rw [List.length_append, ls_10]; rfl
def ss_12 : List ic_S := ss_11.set 5 (10, 0, [0, 7, 0, 0, 0, 0, 1000000, 0, 0, 0, 0])
theorem ls_12 : ss_12.length = 7 := by unfold ss_12; rw [List.length_set, ls_11]
def ss_13 : List ic_S := ss_12 ++ [(100, 8, [])]
theorem ls_13 : ss_13.length = 8 := by unfold ss_13; rw [List.length_append, ls_12]; rfl
def ss_14 : List ic_S := ss_13.set 5 (10, 0, [0, 7, 8, 0, 0, 0, 1000000, 0, 0, 0, 0])
theorem ls_14 : ss_14.length = 8 := by unfold ss_14; rw [List.length_set, ls_13]
def ss_15 : List ic_S := ss_14 ++ [(100, 8, [])]
theorem ls_15 : ss_15.length = 9 := by unfold ss_15; rw [List.length_append, ls_14]; rfl
def ss_16 : List ic_S := ss_15.set 5 (10, 0, [0, 7, 8, 9, 0, 0, 1000000, 0, 0, 0, 0])
theorem ls_16 : ss_16.length = 9 := by unfold ss_16; rw [List.length_set, ls_15]
def ss_17 : List ic_S := ss_16 ++ [(100, 200, [])]
theorem ls_17 : ss_17.length = 10 := by unfold ss_17; rw [List.length_append, ls_16]; rfl
def ss_18 : List ic_S := ss_17.set 5 (10, 0, [0, 7, 8, 9, 10, 0, 1000000, 0, 0, 0, 0])
theorem ls_18 : ss_18.length = 10 := by unfold ss_18; rw [List.length_set, ls_17]
def ss_19 : List ic_S := ss_18 ++ [(101, 0, [])]
theorem ls_19 : ss_19.length = 11 := by unfold ss_19; rw [List.length_append, ls_18]; rfl
def cw_2 (w : ic_w) : ic_w := (wu w 5 6 11)
theorem cz_2 {w : ic_w} (hz : Zf 6 w) : Zf 11 (cw_2 w) := by
  unfold cw_2
  exact Zf.le (n := 6) (m := 11) ((Zf.up (n := 6) (m := 6) (hz) (by decide) (by decide))) (by decide)
set_option maxHeartbeats 4000000 in
set_option maxRecDepth 100000 in
theorem cI_2 {l : Launch} {E : ic_E} {w : ic_w} (hz : Zf 6 w) : ic_CI l E mX10_init 1 5 224 True [ic_pt E 5] ss_10 (hn w) ss_19 (ic_qv (fun h_ => h_ = hn (cw_2 w))) := by
  refine ic_introI (by decide +kernel) (Nat.le_of_ble_eq_true rfl) ?_
  show xx l E _ _ 0 [(0, ic_pt E 5)] _ _ _
  refine xx_aload_nP (pc := 0) dX10_init_0 0 rfl rfl ?_
  refine xx_objI (pc := 1) dX10_init_1 (show Cond.methodLink RX10 5 Lib.objectInit ∈ ic_W from ic_in 158 (by decide +kernel) rfl) oi_all ⟨Nat.le_of_ble_eq_true rfl, Nat.le_of_ble_eq_true rfl⟩ (Nat.le_of_ble_eq_true rfl) ?_
  refine xx_aload_nP (pc := 4) dX10_init_4 0 rfl rfl ?_
  refine xx_bipush (pc := 5) dX10_init_5 cc_bipush_8 ?_
  refine xx_newaI (n := 6) (N := 8) (sh2 := ss_11) (pc := 7) dX10_init_7 (ic_in 152 (by decide +kernel) rfl) trivial ls_10 rfl (by decide) (hz.h (by decide)) ⟨Nat.le_of_ble_eq_true rfl, Nat.le_of_ble_eq_true rfl⟩ ?_
  refine xx_putF (o := 5) (t := 6) (sh2 := ss_12) (pc := 9) dX10_init_9 (show ss_11[5]? = some (10, 0, [0, 0, 0, 0, 0, 0, 1000000, 0, 0, 0, 0]) by decide +kernel) fX10_11_10 rfl rfl rfl rfl (by decide) (by decide) rfl ?_
  refine xx_aload_nP (pc := 12) dX10_init_12 0 rfl rfl ?_
  refine xx_bipush (pc := 13) dX10_init_13 cc_bipush_8 ?_
  refine xx_newaI (n := 7) (N := 8) (sh2 := ss_13) (pc := 15) dX10_init_15 (ic_in 152 (by decide +kernel) rfl) trivial ls_12 rfl (by decide) (hz.h (by decide)) ⟨Nat.le_of_ble_eq_true rfl, Nat.le_of_ble_eq_true rfl⟩ ?_
  refine xx_putF (o := 5) (t := 7) (sh2 := ss_14) (pc := 17) dX10_init_17 (show ss_13[5]? = some (10, 0, [0, 7, 0, 0, 0, 0, 1000000, 0, 0, 0, 0]) by decide +kernel) fX10_15_10 rfl rfl rfl rfl (by decide) (by decide) rfl ?_
  refine xx_aload_nP (pc := 20) dX10_init_20 0 rfl rfl ?_
  refine xx_bipush (pc := 21) dX10_init_21 cc_bipush_8 ?_
  refine xx_newaI (n := 8) (N := 8) (sh2 := ss_15) (pc := 23) dX10_init_23 (ic_in 152 (by decide +kernel) rfl) trivial ls_14 rfl (by decide) (hz.h (by decide)) ⟨Nat.le_of_ble_eq_true rfl, Nat.le_of_ble_eq_true rfl⟩ ?_
  refine xx_putF (o := 5) (t := 8) (sh2 := ss_16) (pc := 25) dX10_init_25 (show ss_15[5]? = some (10, 0, [0, 7, 8, 0, 0, 0, 1000000, 0, 0, 0, 0]) by decide +kernel) fX10_18_10 rfl rfl rfl rfl (by decide) (by decide) rfl ?_
  refine xx_aload_nP (pc := 28) dX10_init_28 0 rfl rfl ?_
  refine xx_sipush (pc := 29) dX10_init_29 cc_sipush_200 ?_
  refine xx_newaI (n := 9) (N := 200) (sh2 := ss_17) (pc := 32) dX10_init_32 (ic_in 152 (by decide +kernel) rfl) trivial ls_16 rfl (by decide) (hz.h (by decide)) ⟨Nat.le_of_ble_eq_true rfl, Nat.le_of_ble_eq_true rfl⟩ ?_
  refine xx_putF (o := 5) (t := 9) (sh2 := ss_18) (pc := 34) dX10_init_34 (show ss_17[5]? = some (10, 0, [0, 7, 8, 9, 0, 0, 1000000, 0, 0, 0, 0]) by decide +kernel) fX10_21_10 rfl rfl rfl rfl (by decide) (by decide) rfl ?_
  refine xx_aload_nP (pc := 37) dX10_init_37 0 rfl rfl ?_
  refine xx_iconst (pc := 38) dX10_init_38 cc_iconst_0 ?_
  refine xx_newaB (n := 10) (N := 0) (sh2 := ss_19) (pc := 39) dX10_init_39 (ic_in 197 (by decide +kernel) rfl) trivial ls_18 rfl (by decide) (hz.h (by decide)) ⟨Nat.le_of_ble_eq_true rfl, Nat.le_of_ble_eq_true rfl⟩ ?_
  refine xx_putDN 11 (pc := 41) dX10_init_41 (show ss_19[5]? = some (10, 0, [0, 7, 8, 9, 10, 0, 1000000, 0, 0, 0, 0]) by decide +kernel) fX10_24_10 rfl rfl rfl (rfl) (by omega) rfl rfl ?_
  refine xx_nw (fun w1 ew1 => ?_)
  have hz_w1 : Zf 11 w1 := by rw [ew1]; exact hz.up (by decide) (by decide)
  exact xx_vretI (pc := 44) dX10_init_44 rfl (Nat.le_of_ble_eq_true rfl) (Nat.le_of_ble_eq_true rfl) (ic_rv0 (by first | rfl | (rw [ew1]; rfl)))
def ss_20 : List ic_S := ss_19.set 0 (11, 0, [0, 0, 0, 2, 0, 5, 0, 6, 0, 0, 0, 0, 0, 0, 0, 0, 1000000])
theorem ls_20 : ss_20.length = 11 := by unfold ss_20; rw [List.length_set, ls_19]
def ss_21 : List ic_S := (ss_20 ++ [(104, 4, [13, 14, 15, 16])]) ++ List.replicate 4 (100, 3, [])
theorem ls_21 : ss_21.length = 16 := by decide +kernel
def ss_22 : List ic_S := ss_21.set 0 (11, 0, [0, 0, 0, 2, 0, 5, 0, 6, 12, 0, 0, 0, 0, 0, 0, 0, 1000000])
theorem ls_22 : ss_22.length = 16 := by unfold ss_22; rw [List.length_set, ls_21]
def ss_23 : List ic_S := ss_22 ++ [(100, 4, [])]
theorem ls_23 : ss_23.length = 17 := by unfold ss_23; rw [List.length_append, ls_22]; rfl
def ss_24 : List ic_S := ss_23.set 0 (11, 0, [0, 0, 0, 2, 0, 5, 0, 6, 12, 0, 17, 0, 0, 0, 0, 0, 1000000])
theorem ls_24 : ss_24.length = 17 := by unfold ss_24; rw [List.length_set, ls_23]
def ss_25 : List ic_S := ss_24 ++ [(100, 4, [])]
theorem ls_25 : ss_25.length = 18 := by unfold ss_25; rw [List.length_append, ls_24]; rfl
def ss_26 : List ic_S := ss_25.set 0 (11, 0, [0, 0, 0, 2, 0, 5, 0, 6, 12, 0, 17, 18, 0, 0, 0, 0, 1000000])
theorem ls_26 : ss_26.length = 18 := by unfold ss_26; rw [List.length_set, ls_25]
def ss_27 : List ic_S := (ss_26 ++ [(104, 4, [20, 21, 22, 23])]) ++ List.replicate 4 (100, 40, [])
theorem ls_27 : ss_27.length = 23 := by decide +kernel
def ss_28 : List ic_S := ss_27.set 0 (11, 0, [0, 0, 0, 2, 0, 5, 0, 6, 12, 0, 17, 18, 19, 0, 0, 0, 1000000])
theorem ls_28 : ss_28.length = 23 := by unfold ss_28; rw [List.length_set, ls_27]
def ss_29 : List ic_S := ss_28 ++ [(100, 4, [])]
theorem ls_29 : ss_29.length = 24 := by unfold ss_29; rw [List.length_append, ls_28]; rfl
def ss_30 : List ic_S := ss_29.set 0 (11, 0, [0, 0, 0, 2, 0, 5, 0, 6, 12, 0, 17, 18, 19, 24, 0, 0, 1000000])
theorem ls_30 : ss_30.length = 24 := by unfold ss_30; rw [List.length_set, ls_29]
def ss_31 : List ic_S := ss_30 ++ [(100, 4, [])]
theorem ls_31 : ss_31.length = 25 := by unfold ss_31; rw [List.length_append, ls_30]; rfl
def ss_32 : List ic_S := ss_31.set 0 (11, 0, [0, 0, 0, 2, 0, 5, 0, 6, 12, 0, 17, 18, 19, 24, 25, 0, 1000000])
theorem ls_32 : ss_32.length = 25 := by unfold ss_32; rw [List.length_set, ls_31]
def ss_33 : List ic_S := ss_32 ++ [(100, 4, [])]
theorem ls_33 : ss_33.length = 26 := by unfold ss_33; rw [List.length_append, ls_32]; rfl
def ss_34 : List ic_S := ss_33.set 0 (11, 0, [0, 0, 0, 2, 0, 5, 0, 6, 12, 0, 17, 18, 19, 24, 25, 26, 1000000])
theorem ls_34 : ss_34.length = 26 := by unfold ss_34; rw [List.length_set, ls_33]
def ss_35 : List ic_S := ss_34 ++ [(103, 6, [0, 0, 0, 0, 0, 0])]
theorem ls_35 : ss_35.length = 27 := by unfold ss_35; rw [List.length_append, ls_34]; rfl
def ss_36 : List ic_S := ss_35 ++ [(9, 0, [0, 0, 0, 0, 0])]
theorem ls_36 : ss_36.length = 28 := by unfold ss_36; rw [List.length_append, ls_35]; rfl
def ss_37 : List ic_S := ss_36 ++ [(100, 30, [])]
theorem ls_37 : ss_37.length = 29 := by unfold ss_37; rw [List.length_append, ls_36]; rfl
def ss_38 : List ic_S := ss_37.set 27 (9, 0, [0, 0, 29, 0, 0])
theorem ls_38 : ss_38.length = 29 := by unfold ss_38; rw [List.length_set, ls_37]
def cw_3 (w : ic_w) : ic_w := w
theorem cz_3 {w : ic_w} (hz : Zf 28 w) : Zf 29 (cw_3 w) := by
  unfold cw_3
  exact Zf.le (n := 28) (m := 29) (hz) (by decide)
set_option maxHeartbeats 4000000 in
set_option maxRecDepth 100000 in
theorem cI_3 {l : Launch} {E : ic_E} {w : ic_w} (hz : Zf 28 w) : ic_CI l E mX9_init 1 1 30 True [ic_pt E 27] ss_36 (hn w) ss_38 (ic_qv (fun h_ => h_ = hn (cw_3 w))) := by
  refine ic_introI (by decide +kernel) (Nat.le_of_ble_eq_true rfl) ?_
  show xx l E _ _ 0 [(0, ic_pt E 27)] _ _ _
  refine xx_aload_nP (pc := 0) dX9_init_0 0 rfl rfl ?_
  refine xx_objI (pc := 1) dX9_init_1 (show Cond.methodLink RX9 3 Lib.objectInit ∈ ic_W from ic_in 206 (by decide +kernel) rfl) oi_all ⟨Nat.le_of_ble_eq_true rfl, Nat.le_of_ble_eq_true rfl⟩ (Nat.le_of_ble_eq_true rfl) ?_
  refine xx_aload_nP (pc := 4) dX9_init_4 0 rfl rfl ?_
  refine xx_bipush (pc := 5) dX9_init_5 cc_bipush_30 ?_
  refine xx_newaI (n := 28) (N := 30) (sh2 := ss_37) (pc := 7) dX9_init_7 (ic_in 152 (by decide +kernel) rfl) trivial ls_36 rfl (by decide) (hz.h (by decide)) ⟨Nat.le_of_ble_eq_true rfl, Nat.le_of_ble_eq_true rfl⟩ ?_
  refine xx_putF (o := 27) (t := 28) (sh2 := ss_38) (pc := 9) dX9_init_9 (show ss_37[27]? = some (9, 0, [0, 0, 0, 0, 0]) by decide +kernel) fX9_9_9 rfl rfl rfl rfl (by decide) (by decide) rfl ?_
  exact xx_vretI (pc := 12) dX9_init_12 rfl (Nat.le_of_ble_eq_true rfl) (Nat.le_of_ble_eq_true rfl) (ic_rv0 (by first | rfl | (rw [rfl]; rfl)))
def ss_39 : List ic_S := ss_38.set 26 (103, 6, [28, 0, 0, 0, 0, 0])
theorem ls_39 : ss_39.length = 29 := by unfold ss_39; rw [List.length_set, ls_38]
def ss_40 : List ic_S := ss_39 ++ [(7, 0, [0, 0, 0, 0, 0])]
theorem ls_40 : ss_40.length = 30 := by unfold ss_40; rw [List.length_append, ls_39]; rfl
def ss_41 : List ic_S := ss_40 ++ [(100, 30, [])]
theorem ls_41 : ss_41.length = 31 := by unfold ss_41; rw [List.length_append, ls_40]; rfl
def ss_42 : List ic_S := ss_41.set 29 (7, 0, [0, 0, 31, 0, 0])
theorem ls_42 : ss_42.length = 31 := by unfold ss_42; rw [List.length_set, ls_41]
def cw_5 (w : ic_w) : ic_w := w
theorem cz_5 {w : ic_w} (hz : Zf 30 w) : Zf 31 (cw_5 w) := by
  unfold cw_5
  exact Zf.le (n := 30) (m := 31) (hz) (by decide)
set_option maxHeartbeats 4000000 in
set_option maxRecDepth 100000 in
theorem cI_5 {l : Launch} {E : ic_E} {w : ic_w} (hz : Zf 30 w) : ic_CI l E mX9_init 1 1 30 True [ic_pt E 29] ss_40 (hn w) ss_42 (ic_qv (fun h_ => h_ = hn (cw_5 w))) := by
  refine ic_introI (by decide +kernel) (Nat.le_of_ble_eq_true rfl) ?_
  show xx l E _ _ 0 [(0, ic_pt E 29)] _ _ _
  refine xx_aload_nP (pc := 0) dX9_init_0 0 rfl rfl ?_
  refine xx_objI (pc := 1) dX9_init_1 (show Cond.methodLink RX9 3 Lib.objectInit ∈ ic_W from ic_in 206 (by decide +kernel) rfl) oi_all ⟨Nat.le_of_ble_eq_true rfl, Nat.le_of_ble_eq_true rfl⟩ (Nat.le_of_ble_eq_true rfl) ?_
  refine xx_aload_nP (pc := 4) dX9_init_4 0 rfl rfl ?_
  refine xx_bipush (pc := 5) dX9_init_5 cc_bipush_30 ?_
  refine xx_newaI (n := 30) (N := 30) (sh2 := ss_41) (pc := 7) dX9_init_7 (ic_in 152 (by decide +kernel) rfl) trivial ls_40 rfl (by decide) (hz.h (by decide)) ⟨Nat.le_of_ble_eq_true rfl, Nat.le_of_ble_eq_true rfl⟩ ?_
  refine xx_putF (o := 29) (t := 30) (sh2 := ss_42) (pc := 9) dX9_init_9 (show ss_41[29]? = some (7, 0, [0, 0, 0, 0, 0]) by decide +kernel) fX9_9_7 rfl rfl rfl rfl (by decide) (by decide) rfl ?_
  exact xx_vretI (pc := 12) dX9_init_12 rfl (Nat.le_of_ble_eq_true rfl) (Nat.le_of_ble_eq_true rfl) (ic_rv0 (by first | rfl | (rw [rfl]; rfl)))
def cw_4 (w : ic_w) : ic_w := (cw_5 w)
theorem cz_4 {w : ic_w} (hz : Zf 30 w) : Zf 31 (cw_4 w) := by
  unfold cw_4
  exact Zf.le (n := 31) (m := 31) ((cz_5 (Zf.le (n := 30) (m := 30) (hz) (by decide)))) (by decide)
set_option maxHeartbeats 4000000 in
set_option maxRecDepth 100000 in
theorem cI_4 {l : Launch} {E : ic_E} {w : ic_w} (hz : Zf 30 w) : ic_CI l E mX7_init 2 1 30 True [ic_pt E 29] ss_40 (hn w) ss_42 (ic_qv (fun h_ => h_ = hn (cw_4 w))) := by
  refine ic_introI (by decide +kernel) (Nat.le_of_ble_eq_true rfl) ?_
  show xx l E _ _ 0 [(0, ic_pt E 29)] _ _ _
  refine xx_aload_nP (pc := 0) dX7_init_0 0 rfl rfl ?_
  refine xx_callIJ (pc := 1) (o := 29) (As := []) (st := []) (fun _ h => h) (cI_5 (w := w) (hz.le (by decide))) kX9_init rfl nX7_1 ⟨rfl, ic_in 204 (by decide +kernel) rfl⟩ dX7_init_1 rfl rfl (Nat.le_of_ble_eq_true rfl) ⟨Nat.le_of_ble_eq_true rfl, Nat.le_of_ble_eq_true rfl⟩ ⟨Nat.le_of_ble_eq_true rfl, Nat.le_of_ble_eq_true rfl⟩ (ic_kv (fun h_ q_ => ?_))
  subst q_
  refine xx_nw (fun w1 ew1 => ?_)
  have hz_w1 : Zf 31 w1 := by rw [ew1]; exact cz_5 (hz.le (by decide))
  exact xx_vretI (pc := 4) dX7_init_4 rfl (Nat.le_of_ble_eq_true rfl) (Nat.le_of_ble_eq_true rfl) (ic_rv0 (by first | rfl | (rw [ew1]; rfl)))
def ss_43 : List ic_S := ss_42.set 26 (103, 6, [28, 30, 0, 0, 0, 0])
theorem ls_43 : ss_43.length = 31 := by unfold ss_43; rw [List.length_set, ls_42]
def ss_44 : List ic_S := ss_43 ++ [(3, 0, [0, 0, 0, 0, 0])]
theorem ls_44 : ss_44.length = 32 := by unfold ss_44; rw [List.length_append, ls_43]; rfl
def ss_45 : List ic_S := ss_44 ++ [(100, 30, [])]
theorem ls_45 : ss_45.length = 33 := by unfold ss_45; rw [List.length_append, ls_44]; rfl
def ss_46 : List ic_S := ss_45.set 31 (3, 0, [0, 0, 33, 0, 0])
theorem ls_46 : ss_46.length = 33 := by unfold ss_46; rw [List.length_set, ls_45]
def cw_7 (w : ic_w) : ic_w := w
theorem cz_7 {w : ic_w} (hz : Zf 32 w) : Zf 33 (cw_7 w) := by
  unfold cw_7
  exact Zf.le (n := 32) (m := 33) (hz) (by decide)
set_option maxHeartbeats 4000000 in
set_option maxRecDepth 100000 in
theorem cI_7 {l : Launch} {E : ic_E} {w : ic_w} (hz : Zf 32 w) : ic_CI l E mX9_init 1 1 30 True [ic_pt E 31] ss_44 (hn w) ss_46 (ic_qv (fun h_ => h_ = hn (cw_7 w))) := by
  refine ic_introI (by decide +kernel) (Nat.le_of_ble_eq_true rfl) ?_
  show xx l E _ _ 0 [(0, ic_pt E 31)] _ _ _
  refine xx_aload_nP (pc := 0) dX9_init_0 0 rfl rfl ?_
  refine xx_objI (pc := 1) dX9_init_1 (show Cond.methodLink RX9 3 Lib.objectInit ∈ ic_W from ic_in 206 (by decide +kernel) rfl) oi_all ⟨Nat.le_of_ble_eq_true rfl, Nat.le_of_ble_eq_true rfl⟩ (Nat.le_of_ble_eq_true rfl) ?_
  refine xx_aload_nP (pc := 4) dX9_init_4 0 rfl rfl ?_
  refine xx_bipush (pc := 5) dX9_init_5 cc_bipush_30 ?_
  refine xx_newaI (n := 32) (N := 30) (sh2 := ss_45) (pc := 7) dX9_init_7 (ic_in 152 (by decide +kernel) rfl) trivial ls_44 rfl (by decide) (hz.h (by decide)) ⟨Nat.le_of_ble_eq_true rfl, Nat.le_of_ble_eq_true rfl⟩ ?_
  refine xx_putF (o := 31) (t := 32) (sh2 := ss_46) (pc := 9) dX9_init_9 (show ss_45[31]? = some (3, 0, [0, 0, 0, 0, 0]) by decide +kernel) fX9_9_3 rfl rfl rfl rfl (by decide) (by decide) rfl ?_
  exact xx_vretI (pc := 12) dX9_init_12 rfl (Nat.le_of_ble_eq_true rfl) (Nat.le_of_ble_eq_true rfl) (ic_rv0 (by first | rfl | (rw [rfl]; rfl)))
def cw_6 (w : ic_w) : ic_w := (cw_7 w)
theorem cz_6 {w : ic_w} (hz : Zf 32 w) : Zf 33 (cw_6 w) := by
  unfold cw_6
  exact Zf.le (n := 33) (m := 33) ((cz_7 (Zf.le (n := 32) (m := 32) (hz) (by decide)))) (by decide)
set_option maxHeartbeats 4000000 in
set_option maxRecDepth 100000 in
theorem cI_6 {l : Launch} {E : ic_E} {w : ic_w} (hz : Zf 32 w) : ic_CI l E mX3_init 2 1 30 True [ic_pt E 31] ss_44 (hn w) ss_46 (ic_qv (fun h_ => h_ = hn (cw_6 w))) := by
  refine ic_introI (by decide +kernel) (Nat.le_of_ble_eq_true rfl) ?_
  show xx l E _ _ 0 [(0, ic_pt E 31)] _ _ _
  refine xx_aload_nP (pc := 0) dX3_init_0 0 rfl rfl ?_
  refine xx_callIJ (pc := 1) (o := 31) (As := []) (st := []) (fun _ h => h) (cI_7 (w := w) (hz.le (by decide))) kX9_init rfl nX3_1 ⟨rfl, ic_in 204 (by decide +kernel) rfl⟩ dX3_init_1 rfl rfl (Nat.le_of_ble_eq_true rfl) ⟨Nat.le_of_ble_eq_true rfl, Nat.le_of_ble_eq_true rfl⟩ ⟨Nat.le_of_ble_eq_true rfl, Nat.le_of_ble_eq_true rfl⟩ (ic_kv (fun h_ q_ => ?_))
  subst q_
  refine xx_nw (fun w1 ew1 => ?_)
  have hz_w1 : Zf 33 w1 := by rw [ew1]; exact cz_7 (hz.le (by decide))
  exact xx_vretI (pc := 4) dX3_init_4 rfl (Nat.le_of_ble_eq_true rfl) (Nat.le_of_ble_eq_true rfl) (ic_rv0 (by first | rfl | (rw [ew1]; rfl)))
def ss_47 : List ic_S := ss_46.set 26 (103, 6, [28, 30, 32, 0, 0, 0])
theorem ls_47 : ss_47.length = 33 := by unfold ss_47; rw [List.length_set, ls_46]
def ss_48 : List ic_S := ss_47 ++ [(2, 0, [0, 0, 0, 0, 0])]
theorem ls_48 : ss_48.length = 34 := by unfold ss_48; rw [List.length_append, ls_47]; rfl
def ss_49 : List ic_S := ss_48 ++ [(100, 30, [])]
theorem ls_49 : ss_49.length = 35 := by unfold ss_49; rw [List.length_append, ls_48]; rfl
def ss_50 : List ic_S := ss_49.set 33 (2, 0, [0, 0, 35, 0, 0])
theorem ls_50 : ss_50.length = 35 := by unfold ss_50; rw [List.length_set, ls_49]
def cw_10 (w : ic_w) : ic_w := w
theorem cz_10 {w : ic_w} (hz : Zf 34 w) : Zf 35 (cw_10 w) := by
  unfold cw_10
  exact Zf.le (n := 34) (m := 35) (hz) (by decide)
set_option maxHeartbeats 4000000 in
set_option maxRecDepth 100000 in
theorem cI_10 {l : Launch} {E : ic_E} {w : ic_w} (hz : Zf 34 w) : ic_CI l E mX9_init 1 1 30 True [ic_pt E 33] ss_48 (hn w) ss_50 (ic_qv (fun h_ => h_ = hn (cw_10 w))) := by
  refine ic_introI (by decide +kernel) (Nat.le_of_ble_eq_true rfl) ?_
  show xx l E _ _ 0 [(0, ic_pt E 33)] _ _ _
  refine xx_aload_nP (pc := 0) dX9_init_0 0 rfl rfl ?_
  refine xx_objI (pc := 1) dX9_init_1 (show Cond.methodLink RX9 3 Lib.objectInit ∈ ic_W from ic_in 206 (by decide +kernel) rfl) oi_all ⟨Nat.le_of_ble_eq_true rfl, Nat.le_of_ble_eq_true rfl⟩ (Nat.le_of_ble_eq_true rfl) ?_
  refine xx_aload_nP (pc := 4) dX9_init_4 0 rfl rfl ?_
  refine xx_bipush (pc := 5) dX9_init_5 cc_bipush_30 ?_
  refine xx_newaI (n := 34) (N := 30) (sh2 := ss_49) (pc := 7) dX9_init_7 (ic_in 152 (by decide +kernel) rfl) trivial ls_48 rfl (by decide) (hz.h (by decide)) ⟨Nat.le_of_ble_eq_true rfl, Nat.le_of_ble_eq_true rfl⟩ ?_
  refine xx_putF (o := 33) (t := 34) (sh2 := ss_50) (pc := 9) dX9_init_9 (show ss_49[33]? = some (2, 0, [0, 0, 0, 0, 0]) by decide +kernel) fX9_9_2 rfl rfl rfl rfl (by decide) (by decide) rfl ?_
  exact xx_vretI (pc := 12) dX9_init_12 rfl (Nat.le_of_ble_eq_true rfl) (Nat.le_of_ble_eq_true rfl) (ic_rv0 (by first | rfl | (rw [rfl]; rfl)))
def cw_9 (w : ic_w) : ic_w := (cw_10 w)
theorem cz_9 {w : ic_w} (hz : Zf 34 w) : Zf 35 (cw_9 w) := by
  unfold cw_9
  exact Zf.le (n := 35) (m := 35) ((cz_10 (Zf.le (n := 34) (m := 34) (hz) (by decide)))) (by decide)
set_option maxHeartbeats 4000000 in
set_option maxRecDepth 100000 in
theorem cI_9 {l : Launch} {E : ic_E} {w : ic_w} (hz : Zf 34 w) : ic_CI l E mX3_init 2 1 30 True [ic_pt E 33] ss_48 (hn w) ss_50 (ic_qv (fun h_ => h_ = hn (cw_9 w))) := by
  refine ic_introI (by decide +kernel) (Nat.le_of_ble_eq_true rfl) ?_
  show xx l E _ _ 0 [(0, ic_pt E 33)] _ _ _
  refine xx_aload_nP (pc := 0) dX3_init_0 0 rfl rfl ?_
  refine xx_callIJ (pc := 1) (o := 33) (As := []) (st := []) (fun _ h => h) (cI_10 (w := w) (hz.le (by decide))) kX9_init rfl nX3_1 ⟨rfl, ic_in 204 (by decide +kernel) rfl⟩ dX3_init_1 rfl rfl (Nat.le_of_ble_eq_true rfl) ⟨Nat.le_of_ble_eq_true rfl, Nat.le_of_ble_eq_true rfl⟩ ⟨Nat.le_of_ble_eq_true rfl, Nat.le_of_ble_eq_true rfl⟩ (ic_kv (fun h_ q_ => ?_))
  subst q_
  refine xx_nw (fun w1 ew1 => ?_)
  have hz_w1 : Zf 35 w1 := by rw [ew1]; exact cz_10 (hz.le (by decide))
  exact xx_vretI (pc := 4) dX3_init_4 rfl (Nat.le_of_ble_eq_true rfl) (Nat.le_of_ble_eq_true rfl) (ic_rv0 (by first | rfl | (rw [ew1]; rfl)))
def cw_8 (w : ic_w) : ic_w := (cw_9 w)
theorem cz_8 {w : ic_w} (hz : Zf 34 w) : Zf 35 (cw_8 w) := by
  unfold cw_8
  exact Zf.le (n := 35) (m := 35) ((cz_9 (Zf.le (n := 34) (m := 34) (hz) (by decide)))) (by decide)
set_option maxHeartbeats 4000000 in
set_option maxRecDepth 100000 in
theorem cI_8 {l : Launch} {E : ic_E} {w : ic_w} (hz : Zf 34 w) : ic_CI l E mX2_init 3 1 30 True [ic_pt E 33] ss_48 (hn w) ss_50 (ic_qv (fun h_ => h_ = hn (cw_8 w))) := by
  refine ic_introI (by decide +kernel) (Nat.le_of_ble_eq_true rfl) ?_
  show xx l E _ _ 0 [(0, ic_pt E 33)] _ _ _
  refine xx_aload_nP (pc := 0) dX2_init_0 0 rfl rfl ?_
  refine xx_callIJ (pc := 1) (o := 33) (As := []) (st := []) (fun _ h => h) (cI_9 (w := w) (hz.le (by decide))) kX3_init rfl nX2_1 ⟨rfl, ic_in 245 (by decide +kernel) rfl⟩ dX2_init_1 rfl rfl (Nat.le_of_ble_eq_true rfl) ⟨Nat.le_of_ble_eq_true rfl, Nat.le_of_ble_eq_true rfl⟩ ⟨Nat.le_of_ble_eq_true rfl, Nat.le_of_ble_eq_true rfl⟩ (ic_kv (fun h_ q_ => ?_))
  subst q_
  refine xx_nw (fun w1 ew1 => ?_)
  have hz_w1 : Zf 35 w1 := by rw [ew1]; exact cz_9 (hz.le (by decide))
  exact xx_vretI (pc := 4) dX2_init_4 rfl (Nat.le_of_ble_eq_true rfl) (Nat.le_of_ble_eq_true rfl) (ic_rv0 (by first | rfl | (rw [ew1]; rfl)))
def ss_51 : List ic_S := ss_50.set 26 (103, 6, [28, 30, 32, 34, 0, 0])
theorem ls_51 : ss_51.length = 35 := by unfold ss_51; rw [List.length_set, ls_50]
def ss_52 : List ic_S := ss_51 ++ [(1, 0, [0, 0, 0, 0, 0])]
theorem ls_52 : ss_52.length = 36 := by unfold ss_52; rw [List.length_append, ls_51]; rfl
def ss_53 : List ic_S := ss_52 ++ [(100, 30, [])]
theorem ls_53 : ss_53.length = 37 := by unfold ss_53; rw [List.length_append, ls_52]; rfl
def ss_54 : List ic_S := ss_53.set 35 (1, 0, [0, 0, 37, 0, 0])
theorem ls_54 : ss_54.length = 37 := by unfold ss_54; rw [List.length_set, ls_53]
def cw_12 (w : ic_w) : ic_w := w
theorem cz_12 {w : ic_w} (hz : Zf 36 w) : Zf 37 (cw_12 w) := by
  unfold cw_12
  exact Zf.le (n := 36) (m := 37) (hz) (by decide)
set_option maxHeartbeats 4000000 in
set_option maxRecDepth 100000 in
theorem cI_12 {l : Launch} {E : ic_E} {w : ic_w} (hz : Zf 36 w) : ic_CI l E mX9_init 1 1 30 True [ic_pt E 35] ss_52 (hn w) ss_54 (ic_qv (fun h_ => h_ = hn (cw_12 w))) := by
  refine ic_introI (by decide +kernel) (Nat.le_of_ble_eq_true rfl) ?_
  show xx l E _ _ 0 [(0, ic_pt E 35)] _ _ _
  refine xx_aload_nP (pc := 0) dX9_init_0 0 rfl rfl ?_
  refine xx_objI (pc := 1) dX9_init_1 (show Cond.methodLink RX9 3 Lib.objectInit ∈ ic_W from ic_in 206 (by decide +kernel) rfl) oi_all ⟨Nat.le_of_ble_eq_true rfl, Nat.le_of_ble_eq_true rfl⟩ (Nat.le_of_ble_eq_true rfl) ?_
  refine xx_aload_nP (pc := 4) dX9_init_4 0 rfl rfl ?_
  refine xx_bipush (pc := 5) dX9_init_5 cc_bipush_30 ?_
  refine xx_newaI (n := 36) (N := 30) (sh2 := ss_53) (pc := 7) dX9_init_7 (ic_in 152 (by decide +kernel) rfl) trivial ls_52 rfl (by decide) (hz.h (by decide)) ⟨Nat.le_of_ble_eq_true rfl, Nat.le_of_ble_eq_true rfl⟩ ?_
  refine xx_putF (o := 35) (t := 36) (sh2 := ss_54) (pc := 9) dX9_init_9 (show ss_53[35]? = some (1, 0, [0, 0, 0, 0, 0]) by decide +kernel) fX9_9_1 rfl rfl rfl rfl (by decide) (by decide) rfl ?_
  exact xx_vretI (pc := 12) dX9_init_12 rfl (Nat.le_of_ble_eq_true rfl) (Nat.le_of_ble_eq_true rfl) (ic_rv0 (by first | rfl | (rw [rfl]; rfl)))
def cw_11 (w : ic_w) : ic_w := (cw_12 w)
theorem cz_11 {w : ic_w} (hz : Zf 36 w) : Zf 37 (cw_11 w) := by
  unfold cw_11
  exact Zf.le (n := 37) (m := 37) ((cz_12 (Zf.le (n := 36) (m := 36) (hz) (by decide)))) (by decide)
set_option maxHeartbeats 4000000 in
set_option maxRecDepth 100000 in
theorem cI_11 {l : Launch} {E : ic_E} {w : ic_w} (hz : Zf 36 w) : ic_CI l E mX1_init 2 1 30 True [ic_pt E 35] ss_52 (hn w) ss_54 (ic_qv (fun h_ => h_ = hn (cw_11 w))) := by
  refine ic_introI (by decide +kernel) (Nat.le_of_ble_eq_true rfl) ?_
  show xx l E _ _ 0 [(0, ic_pt E 35)] _ _ _
  refine xx_aload_nP (pc := 0) dX1_init_0 0 rfl rfl ?_
  refine xx_callIJ (pc := 1) (o := 35) (As := []) (st := []) (fun _ h => h) (cI_12 (w := w) (hz.le (by decide))) kX9_init rfl nX1_1 ⟨rfl, ic_in 204 (by decide +kernel) rfl⟩ dX1_init_1 rfl rfl (Nat.le_of_ble_eq_true rfl) ⟨Nat.le_of_ble_eq_true rfl, Nat.le_of_ble_eq_true rfl⟩ ⟨Nat.le_of_ble_eq_true rfl, Nat.le_of_ble_eq_true rfl⟩ (ic_kv (fun h_ q_ => ?_))
  subst q_
  refine xx_nw (fun w1 ew1 => ?_)
  have hz_w1 : Zf 37 w1 := by rw [ew1]; exact cz_12 (hz.le (by decide))
  exact xx_vretI (pc := 4) dX1_init_4 rfl (Nat.le_of_ble_eq_true rfl) (Nat.le_of_ble_eq_true rfl) (ic_rv0 (by first | rfl | (rw [ew1]; rfl)))
def ss_55 : List ic_S := ss_54.set 26 (103, 6, [28, 30, 32, 34, 36, 0])
theorem ls_55 : ss_55.length = 37 := by unfold ss_55; rw [List.length_set, ls_54]
def ss_56 : List ic_S := ss_55 ++ [(0, 0, [0, 0, 0, 0, 0])]
theorem ls_56 : ss_56.length = 38 := by unfold ss_56; rw [List.length_append, ls_55]; rfl
def ss_57 : List ic_S := ss_56 ++ [(100, 30, [])]
theorem ls_57 : ss_57.length = 39 := by unfold ss_57; rw [List.length_append, ls_56]; rfl
def ss_58 : List ic_S := ss_57.set 37 (0, 0, [0, 0, 39, 0, 0])
theorem ls_58 : ss_58.length = 39 := by unfold ss_58; rw [List.length_set, ls_57]
def cw_15 (w : ic_w) : ic_w := w
theorem cz_15 {w : ic_w} (hz : Zf 38 w) : Zf 39 (cw_15 w) := by
  unfold cw_15
  exact Zf.le (n := 38) (m := 39) (hz) (by decide)
set_option maxHeartbeats 4000000 in
set_option maxRecDepth 100000 in
theorem cI_15 {l : Launch} {E : ic_E} {w : ic_w} (hz : Zf 38 w) : ic_CI l E mX9_init 1 1 30 True [ic_pt E 37] ss_56 (hn w) ss_58 (ic_qv (fun h_ => h_ = hn (cw_15 w))) := by
  refine ic_introI (by decide +kernel) (Nat.le_of_ble_eq_true rfl) ?_
  show xx l E _ _ 0 [(0, ic_pt E 37)] _ _ _
  refine xx_aload_nP (pc := 0) dX9_init_0 0 rfl rfl ?_
  refine xx_objI (pc := 1) dX9_init_1 (show Cond.methodLink RX9 3 Lib.objectInit ∈ ic_W from ic_in 206 (by decide +kernel) rfl) oi_all ⟨Nat.le_of_ble_eq_true rfl, Nat.le_of_ble_eq_true rfl⟩ (Nat.le_of_ble_eq_true rfl) ?_
  refine xx_aload_nP (pc := 4) dX9_init_4 0 rfl rfl ?_
  refine xx_bipush (pc := 5) dX9_init_5 cc_bipush_30 ?_
  refine xx_newaI (n := 38) (N := 30) (sh2 := ss_57) (pc := 7) dX9_init_7 (ic_in 152 (by decide +kernel) rfl) trivial ls_56 rfl (by decide) (hz.h (by decide)) ⟨Nat.le_of_ble_eq_true rfl, Nat.le_of_ble_eq_true rfl⟩ ?_
  refine xx_putF (o := 37) (t := 38) (sh2 := ss_58) (pc := 9) dX9_init_9 (show ss_57[37]? = some (0, 0, [0, 0, 0, 0, 0]) by decide +kernel) fX9_9_0 rfl rfl rfl rfl (by decide) (by decide) rfl ?_
  exact xx_vretI (pc := 12) dX9_init_12 rfl (Nat.le_of_ble_eq_true rfl) (Nat.le_of_ble_eq_true rfl) (ic_rv0 (by first | rfl | (rw [rfl]; rfl)))
def cw_14 (w : ic_w) : ic_w := (cw_15 w)
theorem cz_14 {w : ic_w} (hz : Zf 38 w) : Zf 39 (cw_14 w) := by
  unfold cw_14
  exact Zf.le (n := 39) (m := 39) ((cz_15 (Zf.le (n := 38) (m := 38) (hz) (by decide)))) (by decide)
set_option maxHeartbeats 4000000 in
set_option maxRecDepth 100000 in
theorem cI_14 {l : Launch} {E : ic_E} {w : ic_w} (hz : Zf 38 w) : ic_CI l E mX1_init 2 1 30 True [ic_pt E 37] ss_56 (hn w) ss_58 (ic_qv (fun h_ => h_ = hn (cw_14 w))) := by
  refine ic_introI (by decide +kernel) (Nat.le_of_ble_eq_true rfl) ?_
  show xx l E _ _ 0 [(0, ic_pt E 37)] _ _ _
  refine xx_aload_nP (pc := 0) dX1_init_0 0 rfl rfl ?_
  refine xx_callIJ (pc := 1) (o := 37) (As := []) (st := []) (fun _ h => h) (cI_15 (w := w) (hz.le (by decide))) kX9_init rfl nX1_1 ⟨rfl, ic_in 204 (by decide +kernel) rfl⟩ dX1_init_1 rfl rfl (Nat.le_of_ble_eq_true rfl) ⟨Nat.le_of_ble_eq_true rfl, Nat.le_of_ble_eq_true rfl⟩ ⟨Nat.le_of_ble_eq_true rfl, Nat.le_of_ble_eq_true rfl⟩ (ic_kv (fun h_ q_ => ?_))
  subst q_
  refine xx_nw (fun w1 ew1 => ?_)
  have hz_w1 : Zf 39 w1 := by rw [ew1]; exact cz_15 (hz.le (by decide))
  exact xx_vretI (pc := 4) dX1_init_4 rfl (Nat.le_of_ble_eq_true rfl) (Nat.le_of_ble_eq_true rfl) (ic_rv0 (by first | rfl | (rw [ew1]; rfl)))
def cw_13 (w : ic_w) : ic_w := (cw_14 w)
theorem cz_13 {w : ic_w} (hz : Zf 38 w) : Zf 39 (cw_13 w) := by
  unfold cw_13
  exact Zf.le (n := 39) (m := 39) ((cz_14 (Zf.le (n := 38) (m := 38) (hz) (by decide)))) (by decide)
set_option maxHeartbeats 4000000 in
set_option maxRecDepth 100000 in
theorem cI_13 {l : Launch} {E : ic_E} {w : ic_w} (hz : Zf 38 w) : ic_CI l E mX0_init 3 1 30 True [ic_pt E 37] ss_56 (hn w) ss_58 (ic_qv (fun h_ => h_ = hn (cw_13 w))) := by
  refine ic_introI (by decide +kernel) (Nat.le_of_ble_eq_true rfl) ?_
  show xx l E _ _ 0 [(0, ic_pt E 37)] _ _ _
  refine xx_aload_nP (pc := 0) dX0_init_0 0 rfl rfl ?_
  refine xx_callIJ (pc := 1) (o := 37) (As := []) (st := []) (fun _ h => h) (cI_14 (w := w) (hz.le (by decide))) kX1_init rfl nX0_1 ⟨rfl, ic_in 269 (by decide +kernel) rfl⟩ dX0_init_1 rfl rfl (Nat.le_of_ble_eq_true rfl) ⟨Nat.le_of_ble_eq_true rfl, Nat.le_of_ble_eq_true rfl⟩ ⟨Nat.le_of_ble_eq_true rfl, Nat.le_of_ble_eq_true rfl⟩ (ic_kv (fun h_ q_ => ?_))
  subst q_
  refine xx_nw (fun w1 ew1 => ?_)
  have hz_w1 : Zf 39 w1 := by rw [ew1]; exact cz_14 (hz.le (by decide))
  exact xx_vretI (pc := 4) dX0_init_4 rfl (Nat.le_of_ble_eq_true rfl) (Nat.le_of_ble_eq_true rfl) (ic_rv0 (by first | rfl | (rw [ew1]; rfl)))
def ss_59 : List ic_S := ss_58.set 26 (103, 6, [28, 30, 32, 34, 36, 38])
theorem ls_59 : ss_59.length = 39 := by unfold ss_59; rw [List.length_set, ls_58]
def ss_60 : List ic_S := ss_59 ++ [(5, 0, [0, 0, 0, 0, 0, 0, 0, 0, 0, 0, 0, 0, 0, 0, 0, 0])]
theorem ls_60 : ss_60.length = 40 := by unfold ss_60; rw [List.length_append, ls_59]; rfl
def ss_61 : List ic_S := ss_60 ++ [(100, 16, [])]
theorem ls_61 : ss_61.length = 41 := by unfold ss_61; rw [List.length_append, ls_60]; rfl
def ss_62 : List ic_S := ss_61.set 39 (5, 0, [0, 41, 0, 0, 0, 0, 0, 0, 0, 0, 0, 0, 0, 0, 0, 0])
theorem ls_62 : ss_62.length = 41 := by unfold ss_62; rw [List.length_set, ls_61]
def ss_63 : List ic_S := ss_62 ++ [(100, 6, [])]
theorem ls_63 : ss_63.length = 42 := by unfold ss_63; rw [List.length_append, ls_62]; rfl
def ss_64 : List ic_S := ss_63.set 39 (5, 0, [0, 41, 42, 0, 0, 0, 0, 0, 0, 0, 0, 0, 0, 0, 0, 0])
theorem ls_64 : ss_64.length = 42 := by unfold ss_64; rw [List.length_set, ls_63]
def ss_65 : List ic_S := ss_64 ++ [(100, 6, [])]
theorem ls_65 : ss_65.length = 43 := by unfold ss_65; rw [List.length_append, ls_64]; rfl
def ss_66 : List ic_S := ss_65.set 39 (5, 0, [0, 41, 42, 43, 0, 0, 0, 0, 0, 0, 0, 0, 0, 0, 0, 0])
theorem ls_66 : ss_66.length = 43 := by unfold ss_66; rw [List.length_set, ls_65]
def ss_67 : List ic_S := ss_66 ++ [(100, 6, [])]
theorem ls_67 : ss_67.length = 44 := by unfold ss_67; rw [List.length_append, ls_66]; rfl
def ss_68 : List ic_S := ss_67.set 39 (5, 0, [0, 41, 42, 43, 44, 0, 0, 0, 0, 0, 0, 0, 0, 0, 0, 0])
theorem ls_68 : ss_68.length = 44 := by unfold ss_68; rw [List.length_set, ls_67]
def ss_69 : List ic_S := ss_68 ++ [(100, 6, [])]
theorem ls_69 : ss_69.length = 45 := by unfold ss_69; rw [List.length_append, ls_68]; rfl
def ss_70 : List ic_S := ss_69.set 39 (5, 0, [0, 41, 42, 43, 44, 45, 0, 0, 0, 0, 0, 0, 0, 0, 0, 0])
theorem ls_70 : ss_70.length = 45 := by unfold ss_70; rw [List.length_set, ls_69]
def ss_71 : List ic_S := ss_70 ++ [(100, 6, [])]
theorem ls_71 : ss_71.length = 46 := by unfold ss_71; rw [List.length_append, ls_70]; rfl
def ss_72 : List ic_S := ss_71.set 39 (5, 0, [0, 41, 42, 43, 44, 45, 46, 0, 0, 0, 0, 0, 0, 0, 0, 0])
theorem ls_72 : ss_72.length = 46 := by unfold ss_72; rw [List.length_set, ls_71]
def ss_73 : List ic_S := ss_72 ++ [(4, 0, [0, 0, 0, 0])]
theorem ls_73 : ss_73.length = 47 := by unfold ss_73; rw [List.length_append, ls_72]; rfl
def ss_74 : List ic_S := ss_73 ++ [(100, 6, [])]
theorem ls_74 : ss_74.length = 48 := by unfold ss_74; rw [List.length_append, ls_73]; rfl
def ss_75 : List ic_S := ss_74.set 46 (4, 0, [0, 0, 48, 0])
theorem ls_75 : ss_75.length = 48 := by unfold ss_75; rw [List.length_set, ls_74]
def ss_76 : List ic_S := ss_75 ++ [(100, 6, [])]
theorem ls_76 : ss_76.length = 49 := by unfold ss_76; rw [List.length_append, ls_75]; rfl
def ss_77 : List ic_S := ss_76.set 46 (4, 0, [0, 0, 48, 49])
theorem ls_77 : ss_77.length = 49 := by unfold ss_77; rw [List.length_set, ls_76]
def cw_17 (w : ic_w) : ic_w := w
theorem cz_17 {w : ic_w} (hz : Zf 47 w) : Zf 49 (cw_17 w) := by
  unfold cw_17
  exact Zf.le (n := 47) (m := 49) (hz) (by decide)
set_option maxHeartbeats 4000000 in
set_option maxRecDepth 100000 in
theorem cI_17 {l : Launch} {E : ic_E} {w : ic_w} (hz : Zf 47 w) : ic_CI l E mX4_init 1 2 12 True [ic_pt E 46] ss_73 (hn w) ss_77 (ic_qv (fun h_ => h_ = hn (cw_17 w))) := by
  refine ic_introI (by decide +kernel) (Nat.le_of_ble_eq_true rfl) ?_
  show xx l E _ _ 0 [(0, ic_pt E 46)] _ _ _
  refine xx_aload_nP (pc := 0) dX4_init_0 0 rfl rfl ?_
  refine xx_objI (pc := 1) dX4_init_1 (show Cond.methodLink RX4 3 Lib.objectInit ∈ ic_W from ic_in 128 (by decide +kernel) rfl) oi_all ⟨Nat.le_of_ble_eq_true rfl, Nat.le_of_ble_eq_true rfl⟩ (Nat.le_of_ble_eq_true rfl) ?_
  refine xx_aload_nP (pc := 4) dX4_init_4 0 rfl rfl ?_
  refine xx_bipush (pc := 5) dX4_init_5 cc_bipush_6 ?_
  refine xx_newaI (n := 47) (N := 6) (sh2 := ss_74) (pc := 7) dX4_init_7 (ic_in 152 (by decide +kernel) rfl) trivial ls_73 rfl (by decide) (hz.h (by decide)) ⟨Nat.le_of_ble_eq_true rfl, Nat.le_of_ble_eq_true rfl⟩ ?_
  refine xx_putF (o := 46) (t := 47) (sh2 := ss_75) (pc := 9) dX4_init_9 (show ss_74[46]? = some (4, 0, [0, 0, 0, 0]) by decide +kernel) fX4_9_4 rfl rfl rfl rfl (by decide) (by decide) rfl ?_
  refine xx_aload_nP (pc := 12) dX4_init_12 0 rfl rfl ?_
  refine xx_bipush (pc := 13) dX4_init_13 cc_bipush_6 ?_
  refine xx_newaI (n := 48) (N := 6) (sh2 := ss_76) (pc := 15) dX4_init_15 (ic_in 152 (by decide +kernel) rfl) trivial ls_75 rfl (by decide) (hz.h (by decide)) ⟨Nat.le_of_ble_eq_true rfl, Nat.le_of_ble_eq_true rfl⟩ ?_
  refine xx_putF (o := 46) (t := 48) (sh2 := ss_77) (pc := 17) dX4_init_17 (show ss_76[46]? = some (4, 0, [0, 0, 48, 0]) by decide +kernel) fX4_15_4 rfl rfl rfl rfl (by decide) (by decide) rfl ?_
  exact xx_vretI (pc := 20) dX4_init_20 rfl (Nat.le_of_ble_eq_true rfl) (Nat.le_of_ble_eq_true rfl) (ic_rv0 (by first | rfl | (rw [rfl]; rfl)))
def ss_78 : List ic_S := ss_77.set 39 (5, 0, [0, 41, 42, 43, 44, 45, 46, 47, 0, 0, 0, 0, 0, 0, 0, 0])
theorem ls_78 : ss_78.length = 49 := by unfold ss_78; rw [List.length_set, ls_77]
def ss_79 : List ic_S := ss_78 ++ [(10, 0, [0, 0, 0, 0, 0, 0, 1000000, 0, 0, 0, 0])]
theorem ls_79 : ss_79.length = 50 := by unfold ss_79; rw [List.length_append, ls_78]; rfl
def ss_80 : List ic_S := ss_79 ++ [(100, 8, [])]
theorem ls_80 : ss_80.length = 51 := by unfold ss_80; rw [List.length_append, ls_79]; rfl
def ss_81 : List ic_S := ss_80.set 49 (10, 0, [0, 51, 0, 0, 0, 0, 1000000, 0, 0, 0, 0])
theorem ls_81 : ss_81.length = 51 := by unfold ss_81; rw [List.length_set, ls_80]
def ss_82 : List ic_S := ss_81 ++ [(100, 8, [])]
theorem ls_82 : ss_82.length = 52 := by unfold ss_82; rw [List.length_append, ls_81]; rfl
def ss_83 : List ic_S := ss_82.set 49 (10, 0, [0, 51, 52, 0, 0, 0, 1000000, 0, 0, 0, 0])
theorem ls_83 : ss_83.length = 52 := by unfold ss_83; rw [List.length_set, ls_82]
def ss_84 : List ic_S := ss_83 ++ [(100, 8, [])]
theorem ls_84 : ss_84.length = 53 := by unfold ss_84; rw [List.length_append, ls_83]; rfl
def ss_85 : List ic_S := ss_84.set 49 (10, 0, [0, 51, 52, 53, 0, 0, 1000000, 0, 0, 0, 0])
theorem ls_85 : ss_85.length = 53 := by unfold ss_85; rw [List.length_set, ls_84]
def ss_86 : List ic_S := ss_85 ++ [(100, 200, [])]
theorem ls_86 : ss_86.length = 54 := by unfold ss_86; rw [List.length_append, ls_85]; rfl
def ss_87 : List ic_S := ss_86.set 49 (10, 0, [0, 51, 52, 53, 54, 0, 1000000, 0, 0, 0, 0])
theorem ls_87 : ss_87.length = 54 := by unfold ss_87; rw [List.length_set, ls_86]
def ss_88 : List ic_S := ss_87 ++ [(101, 0, [])]
theorem ls_88 : ss_88.length = 55 := by unfold ss_88; rw [List.length_append, ls_87]; rfl
def cw_18 (w : ic_w) : ic_w := (wu w 49 6 55)
theorem cz_18 {w : ic_w} (hz : Zf 50 w) : Zf 55 (cw_18 w) := by
  unfold cw_18
  exact Zf.le (n := 50) (m := 55) ((Zf.up (n := 50) (m := 50) (hz) (by decide) (by decide))) (by decide)
set_option maxHeartbeats 4000000 in
set_option maxRecDepth 100000 in
theorem cI_18 {l : Launch} {E : ic_E} {w : ic_w} (hz : Zf 50 w) : ic_CI l E mX10_init 1 5 224 True [ic_pt E 49] ss_79 (hn w) ss_88 (ic_qv (fun h_ => h_ = hn (cw_18 w))) := by
  refine ic_introI (by decide +kernel) (Nat.le_of_ble_eq_true rfl) ?_
  show xx l E _ _ 0 [(0, ic_pt E 49)] _ _ _
  refine xx_aload_nP (pc := 0) dX10_init_0 0 rfl rfl ?_
  refine xx_objI (pc := 1) dX10_init_1 (show Cond.methodLink RX10 5 Lib.objectInit ∈ ic_W from ic_in 158 (by decide +kernel) rfl) oi_all ⟨Nat.le_of_ble_eq_true rfl, Nat.le_of_ble_eq_true rfl⟩ (Nat.le_of_ble_eq_true rfl) ?_
  refine xx_aload_nP (pc := 4) dX10_init_4 0 rfl rfl ?_
  refine xx_bipush (pc := 5) dX10_init_5 cc_bipush_8 ?_
  refine xx_newaI (n := 50) (N := 8) (sh2 := ss_80) (pc := 7) dX10_init_7 (ic_in 152 (by decide +kernel) rfl) trivial ls_79 rfl (by decide) (hz.h (by decide)) ⟨Nat.le_of_ble_eq_true rfl, Nat.le_of_ble_eq_true rfl⟩ ?_
  refine xx_putF (o := 49) (t := 50) (sh2 := ss_81) (pc := 9) dX10_init_9 (show ss_80[49]? = some (10, 0, [0, 0, 0, 0, 0, 0, 1000000, 0, 0, 0, 0]) by decide +kernel) fX10_11_10 rfl rfl rfl rfl (by decide) (by decide) rfl ?_
  refine xx_aload_nP (pc := 12) dX10_init_12 0 rfl rfl ?_
  refine xx_bipush (pc := 13) dX10_init_13 cc_bipush_8 ?_
  refine xx_newaI (n := 51) (N := 8) (sh2 := ss_82) (pc := 15) dX10_init_15 (ic_in 152 (by decide +kernel) rfl) trivial ls_81 rfl (by decide) (hz.h (by decide)) ⟨Nat.le_of_ble_eq_true rfl, Nat.le_of_ble_eq_true rfl⟩ ?_
  refine xx_putF (o := 49) (t := 51) (sh2 := ss_83) (pc := 17) dX10_init_17 (show ss_82[49]? = some (10, 0, [0, 51, 0, 0, 0, 0, 1000000, 0, 0, 0, 0]) by decide +kernel) fX10_15_10 rfl rfl rfl rfl (by decide) (by decide) rfl ?_
  refine xx_aload_nP (pc := 20) dX10_init_20 0 rfl rfl ?_
  refine xx_bipush (pc := 21) dX10_init_21 cc_bipush_8 ?_
  refine xx_newaI (n := 52) (N := 8) (sh2 := ss_84) (pc := 23) dX10_init_23 (ic_in 152 (by decide +kernel) rfl) trivial ls_83 rfl (by decide) (hz.h (by decide)) ⟨Nat.le_of_ble_eq_true rfl, Nat.le_of_ble_eq_true rfl⟩ ?_
  refine xx_putF (o := 49) (t := 52) (sh2 := ss_85) (pc := 25) dX10_init_25 (show ss_84[49]? = some (10, 0, [0, 51, 52, 0, 0, 0, 1000000, 0, 0, 0, 0]) by decide +kernel) fX10_18_10 rfl rfl rfl rfl (by decide) (by decide) rfl ?_
  refine xx_aload_nP (pc := 28) dX10_init_28 0 rfl rfl ?_
  refine xx_sipush (pc := 29) dX10_init_29 cc_sipush_200 ?_
  refine xx_newaI (n := 53) (N := 200) (sh2 := ss_86) (pc := 32) dX10_init_32 (ic_in 152 (by decide +kernel) rfl) trivial ls_85 rfl (by decide) (hz.h (by decide)) ⟨Nat.le_of_ble_eq_true rfl, Nat.le_of_ble_eq_true rfl⟩ ?_
  refine xx_putF (o := 49) (t := 53) (sh2 := ss_87) (pc := 34) dX10_init_34 (show ss_86[49]? = some (10, 0, [0, 51, 52, 53, 0, 0, 1000000, 0, 0, 0, 0]) by decide +kernel) fX10_21_10 rfl rfl rfl rfl (by decide) (by decide) rfl ?_
  refine xx_aload_nP (pc := 37) dX10_init_37 0 rfl rfl ?_
  refine xx_iconst (pc := 38) dX10_init_38 cc_iconst_0 ?_
  refine xx_newaB (n := 54) (N := 0) (sh2 := ss_88) (pc := 39) dX10_init_39 (ic_in 197 (by decide +kernel) rfl) trivial ls_87 rfl (by decide) (hz.h (by decide)) ⟨Nat.le_of_ble_eq_true rfl, Nat.le_of_ble_eq_true rfl⟩ ?_
  refine xx_putDN 55 (pc := 41) dX10_init_41 (show ss_88[49]? = some (10, 0, [0, 51, 52, 53, 54, 0, 1000000, 0, 0, 0, 0]) by decide +kernel) fX10_24_10 rfl rfl rfl (rfl) (by omega) rfl rfl ?_
  refine xx_nw (fun w1 ew1 => ?_)
  have hz_w1 : Zf 55 w1 := by rw [ew1]; exact hz.up (by decide) (by decide)
  exact xx_vretI (pc := 44) dX10_init_44 rfl (Nat.le_of_ble_eq_true rfl) (Nat.le_of_ble_eq_true rfl) (ic_rv0 (by first | rfl | (rw [ew1]; rfl)))
def ss_89 : List ic_S := ss_88.set 39 (5, 0, [0, 41, 42, 43, 44, 45, 46, 47, 50, 0, 0, 0, 0, 0, 0, 0])
theorem ls_89 : ss_89.length = 55 := by unfold ss_89; rw [List.length_set, ls_88]
def ss_90 : List ic_S := ss_89 ++ [(8, 0, [0, 0, 0, 0, 0, 0, 0, 0, 0])]
theorem ls_90 : ss_90.length = 56 := by unfold ss_90; rw [List.length_append, ls_89]; rfl
def ss_91 : List ic_S := (ss_90 ++ [(104, 6, [58, 59, 60, 61, 62, 63])]) ++ List.replicate 6 (100, 4, [])
theorem ls_91 : ss_91.length = 63 := by decide +kernel
def ss_92 : List ic_S := ss_91.set 55 (8, 0, [0, 57, 0, 0, 0, 0, 0, 0, 0])
theorem ls_92 : ss_92.length = 63 := by unfold ss_92; rw [List.length_set, ls_91]
def ss_93 : List ic_S := ss_92 ++ [(100, 16, [])]
theorem ls_93 : ss_93.length = 64 := by unfold ss_93; rw [List.length_append, ls_92]; rfl
def ss_94 : List ic_S := ss_93.set 55 (8, 0, [0, 57, 64, 0, 0, 0, 0, 0, 0])
theorem ls_94 : ss_94.length = 64 := by unfold ss_94; rw [List.length_set, ls_93]
def ss_95 : List ic_S := ss_94 ++ [(100, 16, [])]
theorem ls_95 : ss_95.length = 65 := by unfold ss_95; rw [List.length_append, ls_94]; rfl
def ss_96 : List ic_S := ss_95.set 55 (8, 0, [0, 57, 64, 65, 0, 0, 0, 0, 0])
theorem ls_96 : ss_96.length = 65 := by unfold ss_96; rw [List.length_set, ls_95]
def cw_19 (w : ic_w) : ic_w := w
theorem cz_19 {w : ic_w} (hz : Zf 56 w) : Zf 65 (cw_19 w) := by
  unfold cw_19
  exact Zf.le (n := 56) (m := 65) (hz) (by decide)
set_option maxHeartbeats 4000000 in
set_option maxRecDepth 100000 in
theorem cI_19 {l : Launch} {E : ic_E} {w : ic_w} (hz : Zf 56 w) : ic_CI l E mX8_init 1 9 62 True [ic_pt E 55] ss_90 (hn w) ss_96 (ic_qv (fun h_ => h_ = hn (cw_19 w))) := by
  refine ic_introI (by decide +kernel) (Nat.le_of_ble_eq_true rfl) ?_
  show xx l E _ _ 0 [(0, ic_pt E 55)] _ _ _
  refine xx_aload_nP (pc := 0) dX8_init_0 0 rfl rfl ?_
  refine xx_objI (pc := 1) dX8_init_1 (show Cond.methodLink RX8 3 Lib.objectInit ∈ ic_W from ic_in 305 (by decide +kernel) rfl) oi_all ⟨Nat.le_of_ble_eq_true rfl, Nat.le_of_ble_eq_true rfl⟩ (Nat.le_of_ble_eq_true rfl) ?_
  refine xx_aload_nP (pc := 4) dX8_init_4 0 rfl rfl ?_
  refine xx_bipush (pc := 5) dX8_init_5 cc_bipush_6 ?_
  refine xx_iconst (pc := 7) dX8_init_7 cc_iconst_4 ?_
  refine xx_mna (n := 56) (N := 6) (K := 4) (rs := [58, 59, 60, 61, 62, 63]) (sh2 := ss_91) (fun _ h => h) (pc := 8) dX8_init_8 ⟨show Cond.classLink RX8 9 "[[I" ∈ ic_W from ic_in 306 (by decide +kernel) rfl, ic_in 152 (by decide +kernel) rfl⟩ trivial ls_90 rfl (by decide) (by decide) (fun k => by rcases k with _ | _ | _ | _ | _ | _ | k <;> first | rfl | (rw [if_neg (by omega)]; rfl)) (fun a ha => hz.h (by omega)) ⟨Nat.le_of_ble_eq_true rfl, Nat.le_of_ble_eq_true rfl⟩ ?_
  refine xx_putF (o := 55) (t := 56) (sh2 := ss_92) (pc := 12) dX8_init_12 (show ss_91[55]? = some (8, 0, [0, 0, 0, 0, 0, 0, 0, 0, 0]) by decide +kernel) fX8_11_8 rfl rfl rfl rfl (by decide) (by decide) rfl ?_
  refine xx_aload_nP (pc := 15) dX8_init_15 0 rfl rfl ?_
  refine xx_bipush (pc := 16) dX8_init_16 cc_bipush_16 ?_
  refine xx_newaI (n := 63) (N := 16) (sh2 := ss_93) (pc := 18) dX8_init_18 (ic_in 152 (by decide +kernel) rfl) trivial ls_92 rfl (by decide) (hz.h (by decide)) ⟨Nat.le_of_ble_eq_true rfl, Nat.le_of_ble_eq_true rfl⟩ ?_
  refine xx_putF (o := 55) (t := 63) (sh2 := ss_94) (pc := 20) dX8_init_20 (show ss_93[55]? = some (8, 0, [0, 57, 0, 0, 0, 0, 0, 0, 0]) by decide +kernel) fX8_16_8 rfl rfl rfl rfl (by decide) (by decide) rfl ?_
  refine xx_aload_nP (pc := 23) dX8_init_23 0 rfl rfl ?_
  refine xx_bipush (pc := 24) dX8_init_24 cc_bipush_16 ?_
  refine xx_newaI (n := 64) (N := 16) (sh2 := ss_95) (pc := 26) dX8_init_26 (ic_in 152 (by decide +kernel) rfl) trivial ls_94 rfl (by decide) (hz.h (by decide)) ⟨Nat.le_of_ble_eq_true rfl, Nat.le_of_ble_eq_true rfl⟩ ?_
  refine xx_putF (o := 55) (t := 64) (sh2 := ss_96) (pc := 28) dX8_init_28 (show ss_95[55]? = some (8, 0, [0, 57, 64, 0, 0, 0, 0, 0, 0]) by decide +kernel) fX8_20_8 rfl rfl rfl rfl (by decide) (by decide) rfl ?_
  exact xx_vretI (pc := 31) dX8_init_31 rfl (Nat.le_of_ble_eq_true rfl) (Nat.le_of_ble_eq_true rfl) (ic_rv0 (by first | rfl | (rw [rfl]; rfl)))
def ss_97 : List ic_S := ss_96.set 39 (5, 0, [0, 41, 42, 43, 44, 45, 46, 47, 50, 56, 0, 0, 0, 0, 0, 0])
theorem ls_97 : ss_97.length = 65 := by unfold ss_97; rw [List.length_set, ls_96]
def ss_98 : List ic_S := ss_97 ++ [(100, 6, [])]
theorem ls_98 : ss_98.length = 66 := by unfold ss_98; rw [List.length_append, ls_97]; rfl
def ss_99 : List ic_S := ss_98.set 39 (5, 0, [0, 41, 42, 43, 44, 45, 46, 47, 50, 56, 0, 0, 0, 0, 66, 0])
theorem ls_99 : ss_99.length = 66 := by unfold ss_99; rw [List.length_set, ls_98]
def ss_100 : List ic_S := ss_99 ++ [(100, 5, [])]
theorem ls_100 : ss_100.length = 67 := by unfold ss_100; rw [List.length_append, ls_99]; rfl
def ss_101 : List ic_S := ss_100.set 39 (5, 0, [0, 41, 42, 43, 44, 45, 46, 47, 50, 56, 0, 0, 0, 0, 66, 67])
theorem ls_101 : ss_101.length = 67 := by unfold ss_101; rw [List.length_set, ls_100]
def ss_102 : List ic_S := ss_101.set 39 (5, 0, [27, 41, 42, 43, 44, 45, 46, 47, 50, 56, 0, 0, 0, 0, 66, 67])
theorem ls_102 : ss_102.length = 67 := by unfold ss_102; rw [List.length_set, ls_101]
def cw_16 (w : ic_w) : ic_w := (wu (wu (wu (wu (wu (wu (wu (wu (wu (wu (wu (wu (wu (wu (wu (wu (wu (wu (cw_19 (cw_18 (cw_17 w))) 39 11 12) 39 13 1) 40 0 5) 40 1 5) 40 2 5) 40 3 5) 40 4 5) 40 5 5) 40 6 5) 40 7 5) 40 8 5) 40 9 5) 40 10 5) 40 11 5) 40 12 5) 40 13 5) 40 14 5) 40 15 5)
theorem cz_16 {w : ic_w} (hz : Zf 40 w) : Zf 67 (cw_16 w) := by
  unfold cw_16
  exact Zf.le (n := 65) (m := 67) ((Zf.up (n := 65) (m := 65) ((Zf.up (n := 65) (m := 65) ((Zf.up (n := 65) (m := 65) ((Zf.up (n := 65) (m := 65) ((Zf.up (n := 65) (m := 65) ((Zf.up (n := 65) (m := 65) ((Zf.up (n := 65) (m := 65) ((Zf.up (n := 65) (m := 65) ((Zf.up (n := 65) (m := 65) ((Zf.up (n := 65) (m := 65) ((Zf.up (n := 65) (m := 65) ((Zf.up (n := 65) (m := 65) ((Zf.up (n := 65) (m := 65) ((Zf.up (n := 65) (m := 65) ((Zf.up (n := 65) (m := 65) ((Zf.up (n := 65) (m := 65) ((Zf.up (n := 65) (m := 65) ((Zf.up (n := 65) (m := 65) ((cz_19 (Zf.le (n := 55) (m := 56) ((cz_18 (Zf.le (n := 49) (m := 50) ((cz_17 (Zf.le (n := 40) (m := 47) (hz) (by decide)))) (by decide)))) (by decide)))) (by decide) (by decide))) (by decide) (by decide))) (by decide) (by decide))) (by decide) (by decide))) (by decide) (by decide))) (by decide) (by decide))) (by decide) (by decide))) (by decide) (by decide))) (by decide) (by decide))) (by decide) (by decide))) (by decide) (by decide))) (by decide) (by decide))) (by decide) (by decide))) (by decide) (by decide))) (by decide) (by decide))) (by decide) (by decide))) (by decide) (by decide))) (by decide) (by decide))) (by decide)
set_option maxHeartbeats 4000000 in
set_option maxRecDepth 100000 in
theorem cI_16 {l : Launch} {E : ic_E} {w : ic_w} (hz : Zf 40 w) : ic_CI l E mX5_init 2 27 379 True [ic_pt E 39, ic_pt E 26] ss_60 (hn w) ss_102 (ic_qv (fun h_ => h_ = hn (cw_16 w))) := by
  refine ic_introI (by decide +kernel) (Nat.le_of_ble_eq_true rfl) ?_
  show xx l E _ _ 0 [(0, ic_pt E 39), (1, ic_pt E 26)] _ _ _
  refine xx_aload_nP (pc := 0) dX5_init_0 0 rfl rfl ?_
  refine xx_objI (pc := 1) dX5_init_1 (show Cond.methodLink RX5 3 Lib.objectInit ∈ ic_W from ic_in 295 (by decide +kernel) rfl) oi_all ⟨Nat.le_of_ble_eq_true rfl, Nat.le_of_ble_eq_true rfl⟩ (Nat.le_of_ble_eq_true rfl) ?_
  refine xx_aload_nP (pc := 4) dX5_init_4 0 rfl rfl ?_
  refine xx_bipush (pc := 5) dX5_init_5 cc_bipush_16 ?_
  refine xx_newaI (n := 40) (N := 16) (sh2 := ss_61) (pc := 7) dX5_init_7 (ic_in 152 (by decide +kernel) rfl) trivial ls_60 rfl (by decide) (hz.h (by decide)) ⟨Nat.le_of_ble_eq_true rfl, Nat.le_of_ble_eq_true rfl⟩ ?_
  refine xx_putF (o := 39) (t := 40) (sh2 := ss_62) (pc := 9) dX5_init_9 (show ss_61[39]? = some (5, 0, [0, 0, 0, 0, 0, 0, 0, 0, 0, 0, 0, 0, 0, 0, 0, 0]) by decide +kernel) fX5_9_5 rfl rfl rfl rfl (by decide) (by decide) rfl ?_
  refine xx_aload_nP (pc := 12) dX5_init_12 0 rfl rfl ?_
  refine xx_bipush (pc := 13) dX5_init_13 cc_bipush_6 ?_
  refine xx_newaI (n := 41) (N := 6) (sh2 := ss_63) (pc := 15) dX5_init_15 (ic_in 152 (by decide +kernel) rfl) trivial ls_62 rfl (by decide) (hz.h (by decide)) ⟨Nat.le_of_ble_eq_true rfl, Nat.le_of_ble_eq_true rfl⟩ ?_
  refine xx_putF (o := 39) (t := 41) (sh2 := ss_64) (pc := 17) dX5_init_17 (show ss_63[39]? = some (5, 0, [0, 41, 0, 0, 0, 0, 0, 0, 0, 0, 0, 0, 0, 0, 0, 0]) by decide +kernel) fX5_15_5 rfl rfl rfl rfl (by decide) (by decide) rfl ?_
  refine xx_aload_nP (pc := 20) dX5_init_20 0 rfl rfl ?_
  refine xx_bipush (pc := 21) dX5_init_21 cc_bipush_6 ?_
  refine xx_newaI (n := 42) (N := 6) (sh2 := ss_65) (pc := 23) dX5_init_23 (ic_in 152 (by decide +kernel) rfl) trivial ls_64 rfl (by decide) (hz.h (by decide)) ⟨Nat.le_of_ble_eq_true rfl, Nat.le_of_ble_eq_true rfl⟩ ?_
  refine xx_putF (o := 39) (t := 42) (sh2 := ss_66) (pc := 25) dX5_init_25 (show ss_65[39]? = some (5, 0, [0, 41, 42, 0, 0, 0, 0, 0, 0, 0, 0, 0, 0, 0, 0, 0]) by decide +kernel) fX5_18_5 rfl rfl rfl rfl (by decide) (by decide) rfl ?_
  refine xx_aload_nP (pc := 28) dX5_init_28 0 rfl rfl ?_
  refine xx_bipush (pc := 29) dX5_init_29 cc_bipush_6 ?_
  refine xx_newaI (n := 43) (N := 6) (sh2 := ss_67) (pc := 31) dX5_init_31 (ic_in 152 (by decide +kernel) rfl) trivial ls_66 rfl (by decide) (hz.h (by decide)) ⟨Nat.le_of_ble_eq_true rfl, Nat.le_of_ble_eq_true rfl⟩ ?_
  refine xx_putF (o := 39) (t := 43) (sh2 := ss_68) (pc := 33) dX5_init_33 (show ss_67[39]? = some (5, 0, [0, 41, 42, 43, 0, 0, 0, 0, 0, 0, 0, 0, 0, 0, 0, 0]) by decide +kernel) fX5_21_5 rfl rfl rfl rfl (by decide) (by decide) rfl ?_
  refine xx_aload_nP (pc := 36) dX5_init_36 0 rfl rfl ?_
  refine xx_bipush (pc := 37) dX5_init_37 cc_bipush_6 ?_
  refine xx_newaI (n := 44) (N := 6) (sh2 := ss_69) (pc := 39) dX5_init_39 (ic_in 152 (by decide +kernel) rfl) trivial ls_68 rfl (by decide) (hz.h (by decide)) ⟨Nat.le_of_ble_eq_true rfl, Nat.le_of_ble_eq_true rfl⟩ ?_
  refine xx_putF (o := 39) (t := 44) (sh2 := ss_70) (pc := 41) dX5_init_41 (show ss_69[39]? = some (5, 0, [0, 41, 42, 43, 44, 0, 0, 0, 0, 0, 0, 0, 0, 0, 0, 0]) by decide +kernel) fX5_24_5 rfl rfl rfl rfl (by decide) (by decide) rfl ?_
  refine xx_aload_nP (pc := 44) dX5_init_44 0 rfl rfl ?_
  refine xx_bipush (pc := 45) dX5_init_45 cc_bipush_6 ?_
  refine xx_newaI (n := 45) (N := 6) (sh2 := ss_71) (pc := 47) dX5_init_47 (ic_in 152 (by decide +kernel) rfl) trivial ls_70 rfl (by decide) (hz.h (by decide)) ⟨Nat.le_of_ble_eq_true rfl, Nat.le_of_ble_eq_true rfl⟩ ?_
  refine xx_putF (o := 39) (t := 45) (sh2 := ss_72) (pc := 49) dX5_init_49 (show ss_71[39]? = some (5, 0, [0, 41, 42, 43, 44, 45, 0, 0, 0, 0, 0, 0, 0, 0, 0, 0]) by decide +kernel) fX5_27_5 rfl rfl rfl rfl (by decide) (by decide) rfl ?_
  refine xx_aload_nP (pc := 52) dX5_init_52 0 rfl rfl ?_
  refine xx_new (c := 4) (n := 46) (rs := [0, 0, 0, 0]) (sh2 := ss_73) (pc := 53) dX5_init_53 (by decide) ⟨show Cond.classLink RX5 30 (ic_R 4) ∈ ic_W from ic_in 296 (by decide +kernel) rfl, show Cond.instantiable (ic_R 4) (ic_N 4) ∈ ic_W from ic_in 124 (by decide +kernel) rfl, show Cond.initialized (ic_R 4) ∈ ic_W from ic_in 96 (by decide +kernel) rfl⟩ trivial ls_72 rfl (by decide) (fun k => congrFun (hz.h (by decide)) k) ⟨Nat.le_of_ble_eq_true rfl, Nat.le_of_ble_eq_true rfl⟩ ?_
  refine xx_dup (pc := 56) dX5_init_56 rfl ?_
  refine xx_callIJ (pc := 57) (o := 46) (As := []) (st := [ic_pt E 46, ic_pt E 39]) (fun _ h => h) (cI_17 (w := w) (hz.le (by decide))) kX4_init rfl nX5_32 ⟨rfl, ic_in 126 (by decide +kernel) rfl⟩ dX5_init_57 rfl rfl (Nat.le_of_ble_eq_true rfl) ⟨Nat.le_of_ble_eq_true rfl, Nat.le_of_ble_eq_true rfl⟩ ⟨Nat.le_of_ble_eq_true rfl, Nat.le_of_ble_eq_true rfl⟩ (ic_kv (fun h_ q_ => ?_))
  subst q_
  refine xx_nw (fun w1 ew1 => ?_)
  have hz_w1 : Zf 49 w1 := by rw [ew1]; exact cz_17 (hz.le (by decide))
  refine xx_putF (o := 39) (t := 46) (sh2 := ss_78) (pc := 60) dX5_init_60 (show ss_77[39]? = some (5, 0, [0, 41, 42, 43, 44, 45, 46, 0, 0, 0, 0, 0, 0, 0, 0, 0]) by decide +kernel) fX5_33_5 rfl rfl rfl rfl (by decide) (by decide) rfl ?_
  refine xx_aload_nP (pc := 63) dX5_init_63 0 rfl rfl ?_
  refine xx_new (c := 10) (n := 49) (rs := [0, 0, 0, 0, 0, 0, 1000000, 0, 0, 0, 0]) (sh2 := ss_79) (pc := 64) dX5_init_64 (by decide) ⟨show Cond.classLink RX5 37 (ic_R 10) ∈ ic_W from ic_in 298 (by decide +kernel) rfl, show Cond.instantiable (ic_R 10) (ic_N 10) ∈ ic_W from ic_in 154 (by decide +kernel) rfl, show Cond.initialized (ic_R 10) ∈ ic_W from ic_in 97 (by decide +kernel) rfl⟩ trivial ls_78 rfl (by decide) (fun k => congrFun (hz_w1.h (by decide)) k) ⟨Nat.le_of_ble_eq_true rfl, Nat.le_of_ble_eq_true rfl⟩ ?_
  refine xx_dup (pc := 67) dX5_init_67 rfl ?_
  refine xx_callIJ (pc := 68) (o := 49) (As := []) (st := [ic_pt E 49, ic_pt E 39]) (fun _ h => h) (cI_18 (w := w1) (hz_w1.le (by decide))) kX10_init rfl nX5_39 ⟨rfl, ic_in 156 (by decide +kernel) rfl⟩ dX5_init_68 rfl rfl (Nat.le_of_ble_eq_true rfl) ⟨Nat.le_of_ble_eq_true rfl, Nat.le_of_ble_eq_true rfl⟩ ⟨Nat.le_of_ble_eq_true rfl, Nat.le_of_ble_eq_true rfl⟩ (ic_kv (fun h_ q_ => ?_))
  subst q_
  refine xx_nw (fun w2 ew2 => ?_)
  have hz_w2 : Zf 55 w2 := by rw [ew2]; exact cz_18 (hz_w1.le (by decide))
  refine xx_putF (o := 39) (t := 49) (sh2 := ss_89) (pc := 71) dX5_init_71 (show ss_88[39]? = some (5, 0, [0, 41, 42, 43, 44, 45, 46, 47, 0, 0, 0, 0, 0, 0, 0, 0]) by decide +kernel) fX5_40_5 rfl rfl rfl rfl (by decide) (by decide) rfl ?_
  refine xx_aload_nP (pc := 74) dX5_init_74 0 rfl rfl ?_
  refine xx_new (c := 8) (n := 55) (rs := [0, 0, 0, 0, 0, 0, 0, 0, 0]) (sh2 := ss_90) (pc := 75) dX5_init_75 (by decide) ⟨show Cond.classLink RX5 44 (ic_R 8) ∈ ic_W from ic_in 300 (by decide +kernel) rfl, show Cond.instantiable (ic_R 8) (ic_N 8) ∈ ic_W from ic_in 301 (by decide +kernel) rfl, show Cond.initialized (ic_R 8) ∈ ic_W from ic_in 105 (by decide +kernel) rfl⟩ trivial ls_89 rfl (by decide) (fun k => congrFun (hz_w2.h (by decide)) k) ⟨Nat.le_of_ble_eq_true rfl, Nat.le_of_ble_eq_true rfl⟩ ?_
  refine xx_dup (pc := 78) dX5_init_78 rfl ?_
  refine xx_callIJ (pc := 79) (o := 55) (As := []) (st := [ic_pt E 55, ic_pt E 39]) (fun _ h => h) (cI_19 (w := w2) (hz_w2.le (by decide))) kX8_init rfl nX5_46 ⟨rfl, ic_in 303 (by decide +kernel) rfl⟩ dX5_init_79 rfl rfl (Nat.le_of_ble_eq_true rfl) ⟨Nat.le_of_ble_eq_true rfl, Nat.le_of_ble_eq_true rfl⟩ ⟨Nat.le_of_ble_eq_true rfl, Nat.le_of_ble_eq_true rfl⟩ (ic_kv (fun h_ q_ => ?_))
  subst q_
  refine xx_nw (fun w3 ew3 => ?_)
  have hz_w3 : Zf 65 w3 := by rw [ew3]; exact cz_19 (hz_w2.le (by decide))
  refine xx_putF (o := 39) (t := 55) (sh2 := ss_97) (pc := 82) dX5_init_82 (show ss_96[39]? = some (5, 0, [0, 41, 42, 43, 44, 45, 46, 47, 50, 0, 0, 0, 0, 0, 0, 0]) by decide +kernel) fX5_47_5 rfl rfl rfl rfl (by decide) (by decide) rfl ?_
  refine xx_aload_nP (pc := 85) dX5_init_85 0 rfl rfl ?_
  refine xx_bipush (pc := 86) dX5_init_86 cc_bipush_12 ?_
  refine xx_putN (pc := 88) dX5_init_88 (show ss_97[39]? = some (5, 0, [0, 41, 42, 43, 44, 45, 46, 47, 50, 56, 0, 0, 0, 0, 0, 0]) by decide +kernel) fX5_51_5 rfl rfl ?_
  refine xx_nw (fun w4 ew4 => ?_)
  have hz_w4 : Zf 65 w4 := by rw [ew4]; exact hz_w3.up (by decide) (by decide)
  refine xx_aload_nP (pc := 91) dX5_init_91 0 rfl rfl ?_
  refine xx_iconst (pc := 92) dX5_init_92 cc_iconst_1 ?_
  refine xx_putN (pc := 93) dX5_init_93 (show ss_97[39]? = some (5, 0, [0, 41, 42, 43, 44, 45, 46, 47, 50, 56, 0, 0, 0, 0, 0, 0]) by decide +kernel) fX5_55_5 rfl rfl ?_
  refine xx_nw (fun w5 ew5 => ?_)
  have hz_w5 : Zf 65 w5 := by rw [ew5]; exact hz_w4.up (by decide) (by decide)
  refine xx_aload_nP (pc := 96) dX5_init_96 0 rfl rfl ?_
  refine xx_bipush (pc := 97) dX5_init_97 cc_bipush_6 ?_
  refine xx_newaI (n := 65) (N := 6) (sh2 := ss_98) (pc := 99) dX5_init_99 (ic_in 152 (by decide +kernel) rfl) trivial ls_97 rfl (by decide) (hz_w5.h (by decide)) ⟨Nat.le_of_ble_eq_true rfl, Nat.le_of_ble_eq_true rfl⟩ ?_
  refine xx_putF (o := 39) (t := 65) (sh2 := ss_99) (pc := 101) dX5_init_101 (show ss_98[39]? = some (5, 0, [0, 41, 42, 43, 44, 45, 46, 47, 50, 56, 0, 0, 0, 0, 0, 0]) by decide +kernel) fX5_58_5 rfl rfl rfl rfl (by decide) (by decide) rfl ?_
  refine xx_aload_nP (pc := 104) dX5_init_104 0 rfl rfl ?_
  refine xx_iconst (pc := 105) dX5_init_105 cc_iconst_5 ?_
  refine xx_newaI (n := 66) (N := 5) (sh2 := ss_100) (pc := 106) dX5_init_106 (ic_in 152 (by decide +kernel) rfl) trivial ls_99 rfl (by decide) (hz_w5.h (by decide)) ⟨Nat.le_of_ble_eq_true rfl, Nat.le_of_ble_eq_true rfl⟩ ?_
  refine xx_putF (o := 39) (t := 66) (sh2 := ss_101) (pc := 108) dX5_init_108 (show ss_100[39]? = some (5, 0, [0, 41, 42, 43, 44, 45, 46, 47, 50, 56, 0, 0, 0, 0, 66, 0]) by decide +kernel) fX5_61_5 rfl rfl rfl rfl (by decide) (by decide) rfl ?_
  refine xx_aload_nP (pc := 111) dX5_init_111 0 rfl rfl ?_
  refine xx_aload_nP (pc := 112) dX5_init_112 1 rfl rfl ?_
  refine xx_putF (o := 39) (t := 26) (sh2 := ss_102) (pc := 113) dX5_init_113 (show ss_101[39]? = some (5, 0, [0, 41, 42, 43, 44, 45, 46, 47, 50, 56, 0, 0, 0, 0, 66, 67]) by decide +kernel) fX5_64_5 rfl rfl rfl rfl (by decide) (by decide) rfl ?_
  refine xx_iconst (pc := 116) dX5_init_116 cc_iconst_0 ?_
  refine xx_istore_n (L' := [(2, .int (nI 0)), (0, ic_pt E 39), (1, ic_pt E 26)]) (pc := 117) dX5_init_117 rfl (Nat.le_of_ble_eq_true rfl) rfl ?_
  refine xx_iload_n (pc := 118) dX5_init_118 0 rfl rfl ?_
  refine xx_bipush (pc := 119) dX5_init_119 cc_bipush_16 ?_
  refine xx_icmp_geN (pc := 121) 137 dX5_init_121 rfl (by omega) (by omega) (fun c_ => by exfalso; omega) (fun _ => ?_)
  refine xx_aload_nP (pc := 124) dX5_init_124 1 rfl rfl ?_
  refine xx_getR (pc := 125) 40 dX5_init_125 (show ss_102[39]? = some (5, 0, [27, 41, 42, 43, 44, 45, 46, 47, 50, 56, 0, 0, 0, 0, 66, 67]) by decide +kernel) fX5_9_5 rfl rfl (by decide) ?_
  refine xx_iload_n (pc := 128) dX5_init_128 0 rfl rfl ?_
  refine xx_iconst (pc := 129) dX5_init_129 cc_iconst_5 ?_
  refine xx_iastN (pc := 130) dX5_init_130 (show ss_102[40]? = some (100, 16, []) by decide +kernel) (by omega) (by decide) ?_
  refine xx_nw (fun w6 ew6 => ?_)
  have hz_w6 : Zf 67 w6 := by rw [ew6]; exact hz_w5.up (by decide) (by decide)
  refine xx_iincN (L' := [(2, .int (nI 1)), (0, ic_pt E 39), (1, ic_pt E 26)]) (pc := 131) dX5_init_131 0 rfl cc_iconst_1 (Nat.le_of_ble_eq_true rfl) rfl ?_
  refine xx_goto (pc := 134) 118 dX5_init_134 rfl ?_
  refine xx_iload_n (pc := 118) dX5_init_118 0 rfl rfl ?_
  refine xx_bipush (pc := 119) dX5_init_119 cc_bipush_16 ?_
  refine xx_icmp_geN (pc := 121) 137 dX5_init_121 rfl (by omega) (by omega) (fun c_ => by exfalso; omega) (fun _ => ?_)
  refine xx_aload_nP (pc := 124) dX5_init_124 1 rfl rfl ?_
  refine xx_getR (pc := 125) 40 dX5_init_125 (show ss_102[39]? = some (5, 0, [27, 41, 42, 43, 44, 45, 46, 47, 50, 56, 0, 0, 0, 0, 66, 67]) by decide +kernel) fX5_9_5 rfl rfl (by decide) ?_
  refine xx_iload_n (pc := 128) dX5_init_128 0 rfl rfl ?_
  refine xx_iconst (pc := 129) dX5_init_129 cc_iconst_5 ?_
  refine xx_iastN (pc := 130) dX5_init_130 (show ss_102[40]? = some (100, 16, []) by decide +kernel) (by omega) (by decide) ?_
  refine xx_nw (fun w7 ew7 => ?_)
  have hz_w7 : Zf 67 w7 := by rw [ew7]; exact hz_w6.up (by decide) (by decide)
  refine xx_iincN (L' := [(2, .int (nI 2)), (0, ic_pt E 39), (1, ic_pt E 26)]) (pc := 131) dX5_init_131 0 rfl cc_iconst_1 (Nat.le_of_ble_eq_true rfl) rfl ?_
  refine xx_goto (pc := 134) 118 dX5_init_134 rfl ?_
  refine xx_iload_n (pc := 118) dX5_init_118 0 rfl rfl ?_
  refine xx_bipush (pc := 119) dX5_init_119 cc_bipush_16 ?_
  refine xx_icmp_geN (pc := 121) 137 dX5_init_121 rfl (by omega) (by omega) (fun c_ => by exfalso; omega) (fun _ => ?_)
  refine xx_aload_nP (pc := 124) dX5_init_124 1 rfl rfl ?_
  refine xx_getR (pc := 125) 40 dX5_init_125 (show ss_102[39]? = some (5, 0, [27, 41, 42, 43, 44, 45, 46, 47, 50, 56, 0, 0, 0, 0, 66, 67]) by decide +kernel) fX5_9_5 rfl rfl (by decide) ?_
  refine xx_iload_n (pc := 128) dX5_init_128 0 rfl rfl ?_
  refine xx_iconst (pc := 129) dX5_init_129 cc_iconst_5 ?_
  refine xx_iastN (pc := 130) dX5_init_130 (show ss_102[40]? = some (100, 16, []) by decide +kernel) (by omega) (by decide) ?_
  refine xx_nw (fun w8 ew8 => ?_)
  have hz_w8 : Zf 67 w8 := by rw [ew8]; exact hz_w7.up (by decide) (by decide)
  refine xx_iincN (L' := [(2, .int (nI 3)), (0, ic_pt E 39), (1, ic_pt E 26)]) (pc := 131) dX5_init_131 0 rfl cc_iconst_1 (Nat.le_of_ble_eq_true rfl) rfl ?_
  refine xx_goto (pc := 134) 118 dX5_init_134 rfl ?_
  refine xx_iload_n (pc := 118) dX5_init_118 0 rfl rfl ?_
  refine xx_bipush (pc := 119) dX5_init_119 cc_bipush_16 ?_
  refine xx_icmp_geN (pc := 121) 137 dX5_init_121 rfl (by omega) (by omega) (fun c_ => by exfalso; omega) (fun _ => ?_)
  refine xx_aload_nP (pc := 124) dX5_init_124 1 rfl rfl ?_
  refine xx_getR (pc := 125) 40 dX5_init_125 (show ss_102[39]? = some (5, 0, [27, 41, 42, 43, 44, 45, 46, 47, 50, 56, 0, 0, 0, 0, 66, 67]) by decide +kernel) fX5_9_5 rfl rfl (by decide) ?_
  refine xx_iload_n (pc := 128) dX5_init_128 0 rfl rfl ?_
  refine xx_iconst (pc := 129) dX5_init_129 cc_iconst_5 ?_
  refine xx_iastN (pc := 130) dX5_init_130 (show ss_102[40]? = some (100, 16, []) by decide +kernel) (by omega) (by decide) ?_
  refine xx_nw (fun w9 ew9 => ?_)
  have hz_w9 : Zf 67 w9 := by rw [ew9]; exact hz_w8.up (by decide) (by decide)
  refine xx_iincN (L' := [(2, .int (nI 4)), (0, ic_pt E 39), (1, ic_pt E 26)]) (pc := 131) dX5_init_131 0 rfl cc_iconst_1 (Nat.le_of_ble_eq_true rfl) rfl ?_
  refine xx_goto (pc := 134) 118 dX5_init_134 rfl ?_
  refine xx_iload_n (pc := 118) dX5_init_118 0 rfl rfl ?_
  refine xx_bipush (pc := 119) dX5_init_119 cc_bipush_16 ?_
  refine xx_icmp_geN (pc := 121) 137 dX5_init_121 rfl (by omega) (by omega) (fun c_ => by exfalso; omega) (fun _ => ?_)
  refine xx_aload_nP (pc := 124) dX5_init_124 1 rfl rfl ?_
  refine xx_getR (pc := 125) 40 dX5_init_125 (show ss_102[39]? = some (5, 0, [27, 41, 42, 43, 44, 45, 46, 47, 50, 56, 0, 0, 0, 0, 66, 67]) by decide +kernel) fX5_9_5 rfl rfl (by decide) ?_
  refine xx_iload_n (pc := 128) dX5_init_128 0 rfl rfl ?_
  refine xx_iconst (pc := 129) dX5_init_129 cc_iconst_5 ?_
  refine xx_iastN (pc := 130) dX5_init_130 (show ss_102[40]? = some (100, 16, []) by decide +kernel) (by omega) (by decide) ?_
  refine xx_nw (fun w10 ew10 => ?_)
  have hz_w10 : Zf 67 w10 := by rw [ew10]; exact hz_w9.up (by decide) (by decide)
  refine xx_iincN (L' := [(2, .int (nI 5)), (0, ic_pt E 39), (1, ic_pt E 26)]) (pc := 131) dX5_init_131 0 rfl cc_iconst_1 (Nat.le_of_ble_eq_true rfl) rfl ?_
  refine xx_goto (pc := 134) 118 dX5_init_134 rfl ?_
  refine xx_iload_n (pc := 118) dX5_init_118 0 rfl rfl ?_
  refine xx_bipush (pc := 119) dX5_init_119 cc_bipush_16 ?_
  refine xx_icmp_geN (pc := 121) 137 dX5_init_121 rfl (by omega) (by omega) (fun c_ => by exfalso; omega) (fun _ => ?_)
  refine xx_aload_nP (pc := 124) dX5_init_124 1 rfl rfl ?_
  refine xx_getR (pc := 125) 40 dX5_init_125 (show ss_102[39]? = some (5, 0, [27, 41, 42, 43, 44, 45, 46, 47, 50, 56, 0, 0, 0, 0, 66, 67]) by decide +kernel) fX5_9_5 rfl rfl (by decide) ?_
  refine xx_iload_n (pc := 128) dX5_init_128 0 rfl rfl ?_
  refine xx_iconst (pc := 129) dX5_init_129 cc_iconst_5 ?_
  refine xx_iastN (pc := 130) dX5_init_130 (show ss_102[40]? = some (100, 16, []) by decide +kernel) (by omega) (by decide) ?_
  refine xx_nw (fun w11 ew11 => ?_)
  have hz_w11 : Zf 67 w11 := by rw [ew11]; exact hz_w10.up (by decide) (by decide)
  refine xx_iincN (L' := [(2, .int (nI 6)), (0, ic_pt E 39), (1, ic_pt E 26)]) (pc := 131) dX5_init_131 0 rfl cc_iconst_1 (Nat.le_of_ble_eq_true rfl) rfl ?_
  refine xx_goto (pc := 134) 118 dX5_init_134 rfl ?_
  refine xx_iload_n (pc := 118) dX5_init_118 0 rfl rfl ?_
  refine xx_bipush (pc := 119) dX5_init_119 cc_bipush_16 ?_
  refine xx_icmp_geN (pc := 121) 137 dX5_init_121 rfl (by omega) (by omega) (fun c_ => by exfalso; omega) (fun _ => ?_)
  refine xx_aload_nP (pc := 124) dX5_init_124 1 rfl rfl ?_
  refine xx_getR (pc := 125) 40 dX5_init_125 (show ss_102[39]? = some (5, 0, [27, 41, 42, 43, 44, 45, 46, 47, 50, 56, 0, 0, 0, 0, 66, 67]) by decide +kernel) fX5_9_5 rfl rfl (by decide) ?_
  refine xx_iload_n (pc := 128) dX5_init_128 0 rfl rfl ?_
  refine xx_iconst (pc := 129) dX5_init_129 cc_iconst_5 ?_
  refine xx_iastN (pc := 130) dX5_init_130 (show ss_102[40]? = some (100, 16, []) by decide +kernel) (by omega) (by decide) ?_
  refine xx_nw (fun w12 ew12 => ?_)
  have hz_w12 : Zf 67 w12 := by rw [ew12]; exact hz_w11.up (by decide) (by decide)
  refine xx_iincN (L' := [(2, .int (nI 7)), (0, ic_pt E 39), (1, ic_pt E 26)]) (pc := 131) dX5_init_131 0 rfl cc_iconst_1 (Nat.le_of_ble_eq_true rfl) rfl ?_
  refine xx_goto (pc := 134) 118 dX5_init_134 rfl ?_
  refine xx_iload_n (pc := 118) dX5_init_118 0 rfl rfl ?_
  refine xx_bipush (pc := 119) dX5_init_119 cc_bipush_16 ?_
  refine xx_icmp_geN (pc := 121) 137 dX5_init_121 rfl (by omega) (by omega) (fun c_ => by exfalso; omega) (fun _ => ?_)
  refine xx_aload_nP (pc := 124) dX5_init_124 1 rfl rfl ?_
  refine xx_getR (pc := 125) 40 dX5_init_125 (show ss_102[39]? = some (5, 0, [27, 41, 42, 43, 44, 45, 46, 47, 50, 56, 0, 0, 0, 0, 66, 67]) by decide +kernel) fX5_9_5 rfl rfl (by decide) ?_
  refine xx_iload_n (pc := 128) dX5_init_128 0 rfl rfl ?_
  refine xx_iconst (pc := 129) dX5_init_129 cc_iconst_5 ?_
  refine xx_iastN (pc := 130) dX5_init_130 (show ss_102[40]? = some (100, 16, []) by decide +kernel) (by omega) (by decide) ?_
  refine xx_nw (fun w13 ew13 => ?_)
  have hz_w13 : Zf 67 w13 := by rw [ew13]; exact hz_w12.up (by decide) (by decide)
  refine xx_iincN (L' := [(2, .int (nI 8)), (0, ic_pt E 39), (1, ic_pt E 26)]) (pc := 131) dX5_init_131 0 rfl cc_iconst_1 (Nat.le_of_ble_eq_true rfl) rfl ?_
  refine xx_goto (pc := 134) 118 dX5_init_134 rfl ?_
  refine xx_iload_n (pc := 118) dX5_init_118 0 rfl rfl ?_
  refine xx_bipush (pc := 119) dX5_init_119 cc_bipush_16 ?_
  refine xx_icmp_geN (pc := 121) 137 dX5_init_121 rfl (by omega) (by omega) (fun c_ => by exfalso; omega) (fun _ => ?_)
  refine xx_aload_nP (pc := 124) dX5_init_124 1 rfl rfl ?_
  refine xx_getR (pc := 125) 40 dX5_init_125 (show ss_102[39]? = some (5, 0, [27, 41, 42, 43, 44, 45, 46, 47, 50, 56, 0, 0, 0, 0, 66, 67]) by decide +kernel) fX5_9_5 rfl rfl (by decide) ?_
  refine xx_iload_n (pc := 128) dX5_init_128 0 rfl rfl ?_
  refine xx_iconst (pc := 129) dX5_init_129 cc_iconst_5 ?_
  refine xx_iastN (pc := 130) dX5_init_130 (show ss_102[40]? = some (100, 16, []) by decide +kernel) (by omega) (by decide) ?_
  refine xx_nw (fun w14 ew14 => ?_)
  have hz_w14 : Zf 67 w14 := by rw [ew14]; exact hz_w13.up (by decide) (by decide)
  refine xx_iincN (L' := [(2, .int (nI 9)), (0, ic_pt E 39), (1, ic_pt E 26)]) (pc := 131) dX5_init_131 0 rfl cc_iconst_1 (Nat.le_of_ble_eq_true rfl) rfl ?_
  refine xx_goto (pc := 134) 118 dX5_init_134 rfl ?_
  refine xx_iload_n (pc := 118) dX5_init_118 0 rfl rfl ?_
  refine xx_bipush (pc := 119) dX5_init_119 cc_bipush_16 ?_
  refine xx_icmp_geN (pc := 121) 137 dX5_init_121 rfl (by omega) (by omega) (fun c_ => by exfalso; omega) (fun _ => ?_)
  refine xx_aload_nP (pc := 124) dX5_init_124 1 rfl rfl ?_
  refine xx_getR (pc := 125) 40 dX5_init_125 (show ss_102[39]? = some (5, 0, [27, 41, 42, 43, 44, 45, 46, 47, 50, 56, 0, 0, 0, 0, 66, 67]) by decide +kernel) fX5_9_5 rfl rfl (by decide) ?_
  refine xx_iload_n (pc := 128) dX5_init_128 0 rfl rfl ?_
  refine xx_iconst (pc := 129) dX5_init_129 cc_iconst_5 ?_
  refine xx_iastN (pc := 130) dX5_init_130 (show ss_102[40]? = some (100, 16, []) by decide +kernel) (by omega) (by decide) ?_
  refine xx_nw (fun w15 ew15 => ?_)
  have hz_w15 : Zf 67 w15 := by rw [ew15]; exact hz_w14.up (by decide) (by decide)
  refine xx_iincN (L' := [(2, .int (nI 10)), (0, ic_pt E 39), (1, ic_pt E 26)]) (pc := 131) dX5_init_131 0 rfl cc_iconst_1 (Nat.le_of_ble_eq_true rfl) rfl ?_
  refine xx_goto (pc := 134) 118 dX5_init_134 rfl ?_
  refine xx_iload_n (pc := 118) dX5_init_118 0 rfl rfl ?_
  refine xx_bipush (pc := 119) dX5_init_119 cc_bipush_16 ?_
  refine xx_icmp_geN (pc := 121) 137 dX5_init_121 rfl (by omega) (by omega) (fun c_ => by exfalso; omega) (fun _ => ?_)
  refine xx_aload_nP (pc := 124) dX5_init_124 1 rfl rfl ?_
  refine xx_getR (pc := 125) 40 dX5_init_125 (show ss_102[39]? = some (5, 0, [27, 41, 42, 43, 44, 45, 46, 47, 50, 56, 0, 0, 0, 0, 66, 67]) by decide +kernel) fX5_9_5 rfl rfl (by decide) ?_
  refine xx_iload_n (pc := 128) dX5_init_128 0 rfl rfl ?_
  refine xx_iconst (pc := 129) dX5_init_129 cc_iconst_5 ?_
  refine xx_iastN (pc := 130) dX5_init_130 (show ss_102[40]? = some (100, 16, []) by decide +kernel) (by omega) (by decide) ?_
  refine xx_nw (fun w16 ew16 => ?_)
  have hz_w16 : Zf 67 w16 := by rw [ew16]; exact hz_w15.up (by decide) (by decide)
  refine xx_iincN (L' := [(2, .int (nI 11)), (0, ic_pt E 39), (1, ic_pt E 26)]) (pc := 131) dX5_init_131 0 rfl cc_iconst_1 (Nat.le_of_ble_eq_true rfl) rfl ?_
  refine xx_goto (pc := 134) 118 dX5_init_134 rfl ?_
  refine xx_iload_n (pc := 118) dX5_init_118 0 rfl rfl ?_
  refine xx_bipush (pc := 119) dX5_init_119 cc_bipush_16 ?_
  refine xx_icmp_geN (pc := 121) 137 dX5_init_121 rfl (by omega) (by omega) (fun c_ => by exfalso; omega) (fun _ => ?_)
  refine xx_aload_nP (pc := 124) dX5_init_124 1 rfl rfl ?_
  refine xx_getR (pc := 125) 40 dX5_init_125 (show ss_102[39]? = some (5, 0, [27, 41, 42, 43, 44, 45, 46, 47, 50, 56, 0, 0, 0, 0, 66, 67]) by decide +kernel) fX5_9_5 rfl rfl (by decide) ?_
  refine xx_iload_n (pc := 128) dX5_init_128 0 rfl rfl ?_
  refine xx_iconst (pc := 129) dX5_init_129 cc_iconst_5 ?_
  refine xx_iastN (pc := 130) dX5_init_130 (show ss_102[40]? = some (100, 16, []) by decide +kernel) (by omega) (by decide) ?_
  refine xx_nw (fun w17 ew17 => ?_)
  have hz_w17 : Zf 67 w17 := by rw [ew17]; exact hz_w16.up (by decide) (by decide)
  refine xx_iincN (L' := [(2, .int (nI 12)), (0, ic_pt E 39), (1, ic_pt E 26)]) (pc := 131) dX5_init_131 0 rfl cc_iconst_1 (Nat.le_of_ble_eq_true rfl) rfl ?_
  refine xx_goto (pc := 134) 118 dX5_init_134 rfl ?_
  refine xx_iload_n (pc := 118) dX5_init_118 0 rfl rfl ?_
  refine xx_bipush (pc := 119) dX5_init_119 cc_bipush_16 ?_
  refine xx_icmp_geN (pc := 121) 137 dX5_init_121 rfl (by omega) (by omega) (fun c_ => by exfalso; omega) (fun _ => ?_)
  refine xx_aload_nP (pc := 124) dX5_init_124 1 rfl rfl ?_
  refine xx_getR (pc := 125) 40 dX5_init_125 (show ss_102[39]? = some (5, 0, [27, 41, 42, 43, 44, 45, 46, 47, 50, 56, 0, 0, 0, 0, 66, 67]) by decide +kernel) fX5_9_5 rfl rfl (by decide) ?_
  refine xx_iload_n (pc := 128) dX5_init_128 0 rfl rfl ?_
  refine xx_iconst (pc := 129) dX5_init_129 cc_iconst_5 ?_
  refine xx_iastN (pc := 130) dX5_init_130 (show ss_102[40]? = some (100, 16, []) by decide +kernel) (by omega) (by decide) ?_
  refine xx_nw (fun w18 ew18 => ?_)
  have hz_w18 : Zf 67 w18 := by rw [ew18]; exact hz_w17.up (by decide) (by decide)
  refine xx_iincN (L' := [(2, .int (nI 13)), (0, ic_pt E 39), (1, ic_pt E 26)]) (pc := 131) dX5_init_131 0 rfl cc_iconst_1 (Nat.le_of_ble_eq_true rfl) rfl ?_
  refine xx_goto (pc := 134) 118 dX5_init_134 rfl ?_
  refine xx_iload_n (pc := 118) dX5_init_118 0 rfl rfl ?_
  refine xx_bipush (pc := 119) dX5_init_119 cc_bipush_16 ?_
  refine xx_icmp_geN (pc := 121) 137 dX5_init_121 rfl (by omega) (by omega) (fun c_ => by exfalso; omega) (fun _ => ?_)
  refine xx_aload_nP (pc := 124) dX5_init_124 1 rfl rfl ?_
  refine xx_getR (pc := 125) 40 dX5_init_125 (show ss_102[39]? = some (5, 0, [27, 41, 42, 43, 44, 45, 46, 47, 50, 56, 0, 0, 0, 0, 66, 67]) by decide +kernel) fX5_9_5 rfl rfl (by decide) ?_
  refine xx_iload_n (pc := 128) dX5_init_128 0 rfl rfl ?_
  refine xx_iconst (pc := 129) dX5_init_129 cc_iconst_5 ?_
  refine xx_iastN (pc := 130) dX5_init_130 (show ss_102[40]? = some (100, 16, []) by decide +kernel) (by omega) (by decide) ?_
  refine xx_nw (fun w19 ew19 => ?_)
  have hz_w19 : Zf 67 w19 := by rw [ew19]; exact hz_w18.up (by decide) (by decide)
  refine xx_iincN (L' := [(2, .int (nI 14)), (0, ic_pt E 39), (1, ic_pt E 26)]) (pc := 131) dX5_init_131 0 rfl cc_iconst_1 (Nat.le_of_ble_eq_true rfl) rfl ?_
  refine xx_goto (pc := 134) 118 dX5_init_134 rfl ?_
  refine xx_iload_n (pc := 118) dX5_init_118 0 rfl rfl ?_
  refine xx_bipush (pc := 119) dX5_init_119 cc_bipush_16 ?_
  refine xx_icmp_geN (pc := 121) 137 dX5_init_121 rfl (by omega) (by omega) (fun c_ => by exfalso; omega) (fun _ => ?_)
  refine xx_aload_nP (pc := 124) dX5_init_124 1 rfl rfl ?_
  refine xx_getR (pc := 125) 40 dX5_init_125 (show ss_102[39]? = some (5, 0, [27, 41, 42, 43, 44, 45, 46, 47, 50, 56, 0, 0, 0, 0, 66, 67]) by decide +kernel) fX5_9_5 rfl rfl (by decide) ?_
  refine xx_iload_n (pc := 128) dX5_init_128 0 rfl rfl ?_
  refine xx_iconst (pc := 129) dX5_init_129 cc_iconst_5 ?_
  refine xx_iastN (pc := 130) dX5_init_130 (show ss_102[40]? = some (100, 16, []) by decide +kernel) (by omega) (by decide) ?_
  refine xx_nw (fun w20 ew20 => ?_)
  have hz_w20 : Zf 67 w20 := by rw [ew20]; exact hz_w19.up (by decide) (by decide)
  refine xx_iincN (L' := [(2, .int (nI 15)), (0, ic_pt E 39), (1, ic_pt E 26)]) (pc := 131) dX5_init_131 0 rfl cc_iconst_1 (Nat.le_of_ble_eq_true rfl) rfl ?_
  refine xx_goto (pc := 134) 118 dX5_init_134 rfl ?_
  refine xx_iload_n (pc := 118) dX5_init_118 0 rfl rfl ?_
  refine xx_bipush (pc := 119) dX5_init_119 cc_bipush_16 ?_
  refine xx_icmp_geN (pc := 121) 137 dX5_init_121 rfl (by omega) (by omega) (fun c_ => by exfalso; omega) (fun _ => ?_)
  refine xx_aload_nP (pc := 124) dX5_init_124 1 rfl rfl ?_
  refine xx_getR (pc := 125) 40 dX5_init_125 (show ss_102[39]? = some (5, 0, [27, 41, 42, 43, 44, 45, 46, 47, 50, 56, 0, 0, 0, 0, 66, 67]) by decide +kernel) fX5_9_5 rfl rfl (by decide) ?_
  refine xx_iload_n (pc := 128) dX5_init_128 0 rfl rfl ?_
  refine xx_iconst (pc := 129) dX5_init_129 cc_iconst_5 ?_
  refine xx_iastN (pc := 130) dX5_init_130 (show ss_102[40]? = some (100, 16, []) by decide +kernel) (by omega) (by decide) ?_
  refine xx_nw (fun w21 ew21 => ?_)
  have hz_w21 : Zf 67 w21 := by rw [ew21]; exact hz_w20.up (by decide) (by decide)
  refine xx_iincN (L' := [(2, .int (nI 16)), (0, ic_pt E 39), (1, ic_pt E 26)]) (pc := 131) dX5_init_131 0 rfl cc_iconst_1 (Nat.le_of_ble_eq_true rfl) rfl ?_
  refine xx_goto (pc := 134) 118 dX5_init_134 rfl ?_
  refine xx_iload_n (pc := 118) dX5_init_118 0 rfl rfl ?_
  refine xx_bipush (pc := 119) dX5_init_119 cc_bipush_16 ?_
  refine xx_icmp_geN (pc := 121) 137 dX5_init_121 rfl (by omega) (by omega) (fun _ => ?_) (fun c_ => by exfalso; omega)
  exact xx_vretI (pc := 137) dX5_init_137 rfl (Nat.le_of_ble_eq_true rfl) (Nat.le_of_ble_eq_true rfl) (ic_rv0 (by first | rfl | (rw [ew21, ew20, ew19, ew18, ew17, ew16, ew15, ew14, ew13, ew12, ew11, ew10, ew9, ew8, ew7, ew6, ew5, ew4, ew3, ew2, ew1]; rfl)))
def ss_103 : List ic_S := ss_102.set 0 (11, 0, [40, 0, 0, 2, 0, 5, 0, 6, 12, 0, 17, 18, 19, 24, 25, 26, 1000000])
theorem ls_103 : ss_103.length = 67 := by unfold ss_103; rw [List.length_set, ls_102]
def ss_104 : List ic_S := ss_103 ++ [(5, 0, [0, 0, 0, 0, 0, 0, 0, 0, 0, 0, 0, 0, 0, 0, 0, 0])]
theorem ls_104 : ss_104.length = 68 := by unfold ss_104; rw [List.length_append, ls_103]; rfl
def ss_105 : List ic_S := ss_104 ++ [(100, 16, [])]
theorem ls_105 : ss_105.length = 69 := by unfold ss_105; rw [List.length_append, ls_104]; rfl
def ss_106 : List ic_S := ss_105.set 67 (5, 0, [0, 69, 0, 0, 0, 0, 0, 0, 0, 0, 0, 0, 0, 0, 0, 0])
theorem ls_106 : ss_106.length = 69 := by unfold ss_106; rw [List.length_set, ls_105]
def ss_107 : List ic_S := ss_106 ++ [(100, 6, [])]
theorem ls_107 : ss_107.length = 70 := by unfold ss_107; rw [List.length_append, ls_106]; rfl
def ss_108 : List ic_S := ss_107.set 67 (5, 0, [0, 69, 70, 0, 0, 0, 0, 0, 0, 0, 0, 0, 0, 0, 0, 0])
theorem ls_108 : ss_108.length = 70 := by unfold ss_108; rw [List.length_set, ls_107]
def ss_109 : List ic_S := ss_108 ++ [(100, 6, [])]
theorem ls_109 : ss_109.length = 71 := by unfold ss_109; rw [List.length_append, ls_108]; rfl
def ss_110 : List ic_S := ss_109.set 67 (5, 0, [0, 69, 70, 71, 0, 0, 0, 0, 0, 0, 0, 0, 0, 0, 0, 0])
theorem ls_110 : ss_110.length = 71 := by unfold ss_110; rw [List.length_set, ls_109]
def ss_111 : List ic_S := ss_110 ++ [(100, 6, [])]
theorem ls_111 : ss_111.length = 72 := by unfold ss_111; rw [List.length_append, ls_110]; rfl
def ss_112 : List ic_S := ss_111.set 67 (5, 0, [0, 69, 70, 71, 72, 0, 0, 0, 0, 0, 0, 0, 0, 0, 0, 0])
theorem ls_112 : ss_112.length = 72 := by unfold ss_112; rw [List.length_set, ls_111]
def ss_113 : List ic_S := ss_112 ++ [(100, 6, [])]
theorem ls_113 : ss_113.length = 73 := by unfold ss_113; rw [List.length_append, ls_112]; rfl
def ss_114 : List ic_S := ss_113.set 67 (5, 0, [0, 69, 70, 71, 72, 73, 0, 0, 0, 0, 0, 0, 0, 0, 0, 0])
theorem ls_114 : ss_114.length = 73 := by unfold ss_114; rw [List.length_set, ls_113]
def ss_115 : List ic_S := ss_114 ++ [(100, 6, [])]
theorem ls_115 : ss_115.length = 74 := by unfold ss_115; rw [List.length_append, ls_114]; rfl
def ss_116 : List ic_S := ss_115.set 67 (5, 0, [0, 69, 70, 71, 72, 73, 74, 0, 0, 0, 0, 0, 0, 0, 0, 0])
theorem ls_116 : ss_116.length = 74 := by unfold ss_116; rw [List.length_set, ls_115]
def ss_117 : List ic_S := ss_116 ++ [(4, 0, [0, 0, 0, 0])]
theorem ls_117 : ss_117.length = 75 := by unfold ss_117; rw [List.length_append, ls_116]; rfl
def ss_118 : List ic_S := ss_117 ++ [(100, 6, [])]
theorem ls_118 : ss_118.length = 76 := by unfold ss_118; rw [List.length_append, ls_117]; rfl
def ss_119 : List ic_S := ss_118.set 74 (4, 0, [0, 0, 76, 0])
theorem ls_119 : ss_119.length = 76 := by unfold ss_119; rw [List.length_set, ls_118]
def ss_120 : List ic_S := ss_119 ++ [(100, 6, [])]
theorem ls_120 : ss_120.length = 77 := by unfold ss_120; rw [List.length_append, ls_119]; rfl
def ss_121 : List ic_S := ss_120.set 74 (4, 0, [0, 0, 76, 77])
theorem ls_121 : ss_121.length = 77 := by unfold ss_121; rw [List.length_set, ls_120]
def cw_21 (w : ic_w) : ic_w := w
theorem cz_21 {w : ic_w} (hz : Zf 75 w) : Zf 77 (cw_21 w) := by
  unfold cw_21
  exact Zf.le (n := 75) (m := 77) (hz) (by decide)
set_option maxHeartbeats 4000000 in
set_option maxRecDepth 100000 in
theorem cI_21 {l : Launch} {E : ic_E} {w : ic_w} (hz : Zf 75 w) : ic_CI l E mX4_init 1 2 12 True [ic_pt E 74] ss_117 (hn w) ss_121 (ic_qv (fun h_ => h_ = hn (cw_21 w))) := by
  refine ic_introI (by decide +kernel) (Nat.le_of_ble_eq_true rfl) ?_
  show xx l E _ _ 0 [(0, ic_pt E 74)] _ _ _
  refine xx_aload_nP (pc := 0) dX4_init_0 0 rfl rfl ?_
  refine xx_objI (pc := 1) dX4_init_1 (show Cond.methodLink RX4 3 Lib.objectInit ∈ ic_W from ic_in 128 (by decide +kernel) rfl) oi_all ⟨Nat.le_of_ble_eq_true rfl, Nat.le_of_ble_eq_true rfl⟩ (Nat.le_of_ble_eq_true rfl) ?_
  refine xx_aload_nP (pc := 4) dX4_init_4 0 rfl rfl ?_
  refine xx_bipush (pc := 5) dX4_init_5 cc_bipush_6 ?_
  refine xx_newaI (n := 75) (N := 6) (sh2 := ss_118) (pc := 7) dX4_init_7 (ic_in 152 (by decide +kernel) rfl) trivial ls_117 rfl (by decide) (hz.h (by decide)) ⟨Nat.le_of_ble_eq_true rfl, Nat.le_of_ble_eq_true rfl⟩ ?_
  refine xx_putF (o := 74) (t := 75) (sh2 := ss_119) (pc := 9) dX4_init_9 (show ss_118[74]? = some (4, 0, [0, 0, 0, 0]) by decide +kernel) fX4_9_4 rfl rfl rfl rfl (by decide) (by decide) rfl ?_
  refine xx_aload_nP (pc := 12) dX4_init_12 0 rfl rfl ?_
  refine xx_bipush (pc := 13) dX4_init_13 cc_bipush_6 ?_
  refine xx_newaI (n := 76) (N := 6) (sh2 := ss_120) (pc := 15) dX4_init_15 (ic_in 152 (by decide +kernel) rfl) trivial ls_119 rfl (by decide) (hz.h (by decide)) ⟨Nat.le_of_ble_eq_true rfl, Nat.le_of_ble_eq_true rfl⟩ ?_
  refine xx_putF (o := 74) (t := 76) (sh2 := ss_121) (pc := 17) dX4_init_17 (show ss_120[74]? = some (4, 0, [0, 0, 76, 0]) by decide +kernel) fX4_15_4 rfl rfl rfl rfl (by decide) (by decide) rfl ?_
  exact xx_vretI (pc := 20) dX4_init_20 rfl (Nat.le_of_ble_eq_true rfl) (Nat.le_of_ble_eq_true rfl) (ic_rv0 (by first | rfl | (rw [rfl]; rfl)))
def ss_122 : List ic_S := ss_121.set 67 (5, 0, [0, 69, 70, 71, 72, 73, 74, 75, 0, 0, 0, 0, 0, 0, 0, 0])
theorem ls_122 : ss_122.length = 77 := by unfold ss_122; rw [List.length_set, ls_121]
def ss_123 : List ic_S := ss_122 ++ [(10, 0, [0, 0, 0, 0, 0, 0, 1000000, 0, 0, 0, 0])]
theorem ls_123 : ss_123.length = 78 := by unfold ss_123; rw [List.length_append, ls_122]; rfl
def ss_124 : List ic_S := ss_123 ++ [(100, 8, [])]
theorem ls_124 : ss_124.length = 79 := by unfold ss_124; rw [List.length_append, ls_123]; rfl
def ss_125 : List ic_S := ss_124.set 77 (10, 0, [0, 79, 0, 0, 0, 0, 1000000, 0, 0, 0, 0])
theorem ls_125 : ss_125.length = 79 := by unfold ss_125; rw [List.length_set, ls_124]
def ss_126 : List ic_S := ss_125 ++ [(100, 8, [])]
theorem ls_126 : ss_126.length = 80 := by unfold ss_126; rw [List.length_append, ls_125]; rfl
def ss_127 : List ic_S := ss_126.set 77 (10, 0, [0, 79, 80, 0, 0, 0, 1000000, 0, 0, 0, 0])
theorem ls_127 : ss_127.length = 80 := by unfold ss_127; rw [List.length_set, ls_126]
def ss_128 : List ic_S := ss_127 ++ [(100, 8, [])]
theorem ls_128 : ss_128.length = 81 := by unfold ss_128; rw [List.length_append, ls_127]; rfl
def ss_129 : List ic_S := ss_128.set 77 (10, 0, [0, 79, 80, 81, 0, 0, 1000000, 0, 0, 0, 0])
theorem ls_129 : ss_129.length = 81 := by unfold ss_129; rw [List.length_set, ls_128]
def ss_130 : List ic_S := ss_129 ++ [(100, 200, [])]
theorem ls_130 : ss_130.length = 82 := by unfold ss_130; rw [List.length_append, ls_129]; rfl
def ss_131 : List ic_S := ss_130.set 77 (10, 0, [0, 79, 80, 81, 82, 0, 1000000, 0, 0, 0, 0])
theorem ls_131 : ss_131.length = 82 := by unfold ss_131; rw [List.length_set, ls_130]
def ss_132 : List ic_S := ss_131 ++ [(101, 0, [])]
theorem ls_132 : ss_132.length = 83 := by unfold ss_132; rw [List.length_append, ls_131]; rfl
def cw_22 (w : ic_w) : ic_w := (wu w 77 6 83)
theorem cz_22 {w : ic_w} (hz : Zf 78 w) : Zf 83 (cw_22 w) := by
  unfold cw_22
  exact Zf.le (n := 78) (m := 83) ((Zf.up (n := 78) (m := 78) (hz) (by decide) (by decide))) (by decide)
set_option maxHeartbeats 4000000 in
set_option maxRecDepth 100000 in
theorem cI_22 {l : Launch} {E : ic_E} {w : ic_w} (hz : Zf 78 w) : ic_CI l E mX10_init 1 5 224 True [ic_pt E 77] ss_123 (hn w) ss_132 (ic_qv (fun h_ => h_ = hn (cw_22 w))) := by
  refine ic_introI (by decide +kernel) (Nat.le_of_ble_eq_true rfl) ?_
  show xx l E _ _ 0 [(0, ic_pt E 77)] _ _ _
  refine xx_aload_nP (pc := 0) dX10_init_0 0 rfl rfl ?_
  refine xx_objI (pc := 1) dX10_init_1 (show Cond.methodLink RX10 5 Lib.objectInit ∈ ic_W from ic_in 158 (by decide +kernel) rfl) oi_all ⟨Nat.le_of_ble_eq_true rfl, Nat.le_of_ble_eq_true rfl⟩ (Nat.le_of_ble_eq_true rfl) ?_
  refine xx_aload_nP (pc := 4) dX10_init_4 0 rfl rfl ?_
  refine xx_bipush (pc := 5) dX10_init_5 cc_bipush_8 ?_
  refine xx_newaI (n := 78) (N := 8) (sh2 := ss_124) (pc := 7) dX10_init_7 (ic_in 152 (by decide +kernel) rfl) trivial ls_123 rfl (by decide) (hz.h (by decide)) ⟨Nat.le_of_ble_eq_true rfl, Nat.le_of_ble_eq_true rfl⟩ ?_
  refine xx_putF (o := 77) (t := 78) (sh2 := ss_125) (pc := 9) dX10_init_9 (show ss_124[77]? = some (10, 0, [0, 0, 0, 0, 0, 0, 1000000, 0, 0, 0, 0]) by decide +kernel) fX10_11_10 rfl rfl rfl rfl (by decide) (by decide) rfl ?_
  refine xx_aload_nP (pc := 12) dX10_init_12 0 rfl rfl ?_
  refine xx_bipush (pc := 13) dX10_init_13 cc_bipush_8 ?_
  refine xx_newaI (n := 79) (N := 8) (sh2 := ss_126) (pc := 15) dX10_init_15 (ic_in 152 (by decide +kernel) rfl) trivial ls_125 rfl (by decide) (hz.h (by decide)) ⟨Nat.le_of_ble_eq_true rfl, Nat.le_of_ble_eq_true rfl⟩ ?_
  refine xx_putF (o := 77) (t := 79) (sh2 := ss_127) (pc := 17) dX10_init_17 (show ss_126[77]? = some (10, 0, [0, 79, 0, 0, 0, 0, 1000000, 0, 0, 0, 0]) by decide +kernel) fX10_15_10 rfl rfl rfl rfl (by decide) (by decide) rfl ?_
  refine xx_aload_nP (pc := 20) dX10_init_20 0 rfl rfl ?_
  refine xx_bipush (pc := 21) dX10_init_21 cc_bipush_8 ?_
  refine xx_newaI (n := 80) (N := 8) (sh2 := ss_128) (pc := 23) dX10_init_23 (ic_in 152 (by decide +kernel) rfl) trivial ls_127 rfl (by decide) (hz.h (by decide)) ⟨Nat.le_of_ble_eq_true rfl, Nat.le_of_ble_eq_true rfl⟩ ?_
  refine xx_putF (o := 77) (t := 80) (sh2 := ss_129) (pc := 25) dX10_init_25 (show ss_128[77]? = some (10, 0, [0, 79, 80, 0, 0, 0, 1000000, 0, 0, 0, 0]) by decide +kernel) fX10_18_10 rfl rfl rfl rfl (by decide) (by decide) rfl ?_
  refine xx_aload_nP (pc := 28) dX10_init_28 0 rfl rfl ?_
  refine xx_sipush (pc := 29) dX10_init_29 cc_sipush_200 ?_
  refine xx_newaI (n := 81) (N := 200) (sh2 := ss_130) (pc := 32) dX10_init_32 (ic_in 152 (by decide +kernel) rfl) trivial ls_129 rfl (by decide) (hz.h (by decide)) ⟨Nat.le_of_ble_eq_true rfl, Nat.le_of_ble_eq_true rfl⟩ ?_
  refine xx_putF (o := 77) (t := 81) (sh2 := ss_131) (pc := 34) dX10_init_34 (show ss_130[77]? = some (10, 0, [0, 79, 80, 81, 0, 0, 1000000, 0, 0, 0, 0]) by decide +kernel) fX10_21_10 rfl rfl rfl rfl (by decide) (by decide) rfl ?_
  refine xx_aload_nP (pc := 37) dX10_init_37 0 rfl rfl ?_
  refine xx_iconst (pc := 38) dX10_init_38 cc_iconst_0 ?_
  refine xx_newaB (n := 82) (N := 0) (sh2 := ss_132) (pc := 39) dX10_init_39 (ic_in 197 (by decide +kernel) rfl) trivial ls_131 rfl (by decide) (hz.h (by decide)) ⟨Nat.le_of_ble_eq_true rfl, Nat.le_of_ble_eq_true rfl⟩ ?_
  refine xx_putDN 83 (pc := 41) dX10_init_41 (show ss_132[77]? = some (10, 0, [0, 79, 80, 81, 82, 0, 1000000, 0, 0, 0, 0]) by decide +kernel) fX10_24_10 rfl rfl rfl (rfl) (by omega) rfl rfl ?_
  refine xx_nw (fun w1 ew1 => ?_)
  have hz_w1 : Zf 83 w1 := by rw [ew1]; exact hz.up (by decide) (by decide)
  exact xx_vretI (pc := 44) dX10_init_44 rfl (Nat.le_of_ble_eq_true rfl) (Nat.le_of_ble_eq_true rfl) (ic_rv0 (by first | rfl | (rw [ew1]; rfl)))
def ss_133 : List ic_S := ss_132.set 67 (5, 0, [0, 69, 70, 71, 72, 73, 74, 75, 78, 0, 0, 0, 0, 0, 0, 0])
theorem ls_133 : ss_133.length = 83 := by unfold ss_133; rw [List.length_set, ls_132]
def ss_134 : List ic_S := ss_133 ++ [(8, 0, [0, 0, 0, 0, 0, 0, 0, 0, 0])]
theorem ls_134 : ss_134.length = 84 := by unfold ss_134; rw [List.length_append, ls_133]; rfl
def ss_135 : List ic_S := (ss_134 ++ [(104, 6, [86, 87, 88, 89, 90, 91])]) ++ List.replicate 6 (100, 4, [])
theorem ls_135 : ss_135.length = 91 := by decide +kernel
def ss_136 : List ic_S := ss_135.set 83 (8, 0, [0, 85, 0, 0, 0, 0, 0, 0, 0])
theorem ls_136 : ss_136.length = 91 := by unfold ss_136; rw [List.length_set, ls_135]
def ss_137 : List ic_S := ss_136 ++ [(100, 16, [])]
theorem ls_137 : ss_137.length = 92 := by unfold ss_137; rw [List.length_append, ls_136]; rfl
def ss_138 : List ic_S := ss_137.set 83 (8, 0, [0, 85, 92, 0, 0, 0, 0, 0, 0])
theorem ls_138 : ss_138.length = 92 := by unfold ss_138; rw [List.length_set, ls_137]
def ss_139 : List ic_S := ss_138 ++ [(100, 16, [])]
theorem ls_139 : ss_139.length = 93 := by unfold ss_139; rw [List.length_append, ls_138]; rfl
def ss_140 : List ic_S := ss_139.set 83 (8, 0, [0, 85, 92, 93, 0, 0, 0, 0, 0])
theorem ls_140 : ss_140.length = 93 := by unfold ss_140; rw [List.length_set, ls_139]
def cw_23 (w : ic_w) : ic_w := w
theorem cz_23 {w : ic_w} (hz : Zf 84 w) : Zf 93 (cw_23 w) := by
  unfold cw_23
  exact Zf.le (n := 84) (m := 93) (hz) (by decide)
set_option maxHeartbeats 4000000 in
set_option maxRecDepth 100000 in
theorem cI_23 {l : Launch} {E : ic_E} {w : ic_w} (hz : Zf 84 w) : ic_CI l E mX8_init 1 9 62 True [ic_pt E 83] ss_134 (hn w) ss_140 (ic_qv (fun h_ => h_ = hn (cw_23 w))) := by
  refine ic_introI (by decide +kernel) (Nat.le_of_ble_eq_true rfl) ?_
  show xx l E _ _ 0 [(0, ic_pt E 83)] _ _ _
  refine xx_aload_nP (pc := 0) dX8_init_0 0 rfl rfl ?_
  refine xx_objI (pc := 1) dX8_init_1 (show Cond.methodLink RX8 3 Lib.objectInit ∈ ic_W from ic_in 305 (by decide +kernel) rfl) oi_all ⟨Nat.le_of_ble_eq_true rfl, Nat.le_of_ble_eq_true rfl⟩ (Nat.le_of_ble_eq_true rfl) ?_
  refine xx_aload_nP (pc := 4) dX8_init_4 0 rfl rfl ?_
  refine xx_bipush (pc := 5) dX8_init_5 cc_bipush_6 ?_
  refine xx_iconst (pc := 7) dX8_init_7 cc_iconst_4 ?_
  refine xx_mna (n := 84) (N := 6) (K := 4) (rs := [86, 87, 88, 89, 90, 91]) (sh2 := ss_135) (fun _ h => h) (pc := 8) dX8_init_8 ⟨show Cond.classLink RX8 9 "[[I" ∈ ic_W from ic_in 306 (by decide +kernel) rfl, ic_in 152 (by decide +kernel) rfl⟩ trivial ls_134 rfl (by decide) (by decide) (fun k => by rcases k with _ | _ | _ | _ | _ | _ | k <;> first | rfl | (rw [if_neg (by omega)]; rfl)) (fun a ha => hz.h (by omega)) ⟨Nat.le_of_ble_eq_true rfl, Nat.le_of_ble_eq_true rfl⟩ ?_
  refine xx_putF (o := 83) (t := 84) (sh2 := ss_136) (pc := 12) dX8_init_12 (show ss_135[83]? = some (8, 0, [0, 0, 0, 0, 0, 0, 0, 0, 0]) by decide +kernel) fX8_11_8 rfl rfl rfl rfl (by decide) (by decide) rfl ?_
  refine xx_aload_nP (pc := 15) dX8_init_15 0 rfl rfl ?_
  refine xx_bipush (pc := 16) dX8_init_16 cc_bipush_16 ?_
  refine xx_newaI (n := 91) (N := 16) (sh2 := ss_137) (pc := 18) dX8_init_18 (ic_in 152 (by decide +kernel) rfl) trivial ls_136 rfl (by decide) (hz.h (by decide)) ⟨Nat.le_of_ble_eq_true rfl, Nat.le_of_ble_eq_true rfl⟩ ?_
  refine xx_putF (o := 83) (t := 91) (sh2 := ss_138) (pc := 20) dX8_init_20 (show ss_137[83]? = some (8, 0, [0, 85, 0, 0, 0, 0, 0, 0, 0]) by decide +kernel) fX8_16_8 rfl rfl rfl rfl (by decide) (by decide) rfl ?_
  refine xx_aload_nP (pc := 23) dX8_init_23 0 rfl rfl ?_
  refine xx_bipush (pc := 24) dX8_init_24 cc_bipush_16 ?_
  refine xx_newaI (n := 92) (N := 16) (sh2 := ss_139) (pc := 26) dX8_init_26 (ic_in 152 (by decide +kernel) rfl) trivial ls_138 rfl (by decide) (hz.h (by decide)) ⟨Nat.le_of_ble_eq_true rfl, Nat.le_of_ble_eq_true rfl⟩ ?_
  refine xx_putF (o := 83) (t := 92) (sh2 := ss_140) (pc := 28) dX8_init_28 (show ss_139[83]? = some (8, 0, [0, 85, 92, 0, 0, 0, 0, 0, 0]) by decide +kernel) fX8_20_8 rfl rfl rfl rfl (by decide) (by decide) rfl ?_
  exact xx_vretI (pc := 31) dX8_init_31 rfl (Nat.le_of_ble_eq_true rfl) (Nat.le_of_ble_eq_true rfl) (ic_rv0 (by first | rfl | (rw [rfl]; rfl)))
def ss_141 : List ic_S := ss_140.set 67 (5, 0, [0, 69, 70, 71, 72, 73, 74, 75, 78, 84, 0, 0, 0, 0, 0, 0])
theorem ls_141 : ss_141.length = 93 := by unfold ss_141; rw [List.length_set, ls_140]
def ss_142 : List ic_S := ss_141 ++ [(100, 6, [])]
theorem ls_142 : ss_142.length = 94 := by unfold ss_142; rw [List.length_append, ls_141]; rfl
def ss_143 : List ic_S := ss_142.set 67 (5, 0, [0, 69, 70, 71, 72, 73, 74, 75, 78, 84, 0, 0, 0, 0, 94, 0])
theorem ls_143 : ss_143.length = 94 := by unfold ss_143; rw [List.length_set, ls_142]
def ss_144 : List ic_S := ss_143 ++ [(100, 5, [])]
theorem ls_144 : ss_144.length = 95 := by unfold ss_144; rw [List.length_append, ls_143]; rfl
def ss_145 : List ic_S := ss_144.set 67 (5, 0, [0, 69, 70, 71, 72, 73, 74, 75, 78, 84, 0, 0, 0, 0, 94, 95])
theorem ls_145 : ss_145.length = 95 := by unfold ss_145; rw [List.length_set, ls_144]
def ss_146 : List ic_S := ss_145.set 67 (5, 0, [27, 69, 70, 71, 72, 73, 74, 75, 78, 84, 0, 0, 0, 0, 94, 95])
theorem ls_146 : ss_146.length = 95 := by unfold ss_146; rw [List.length_set, ls_145]
def cw_20 (w : ic_w) : ic_w := (wu (wu (wu (wu (wu (wu (wu (wu (wu (wu (wu (wu (wu (wu (wu (wu (wu (wu (cw_23 (cw_22 (cw_21 w))) 67 11 12) 67 13 1) 68 0 5) 68 1 5) 68 2 5) 68 3 5) 68 4 5) 68 5 5) 68 6 5) 68 7 5) 68 8 5) 68 9 5) 68 10 5) 68 11 5) 68 12 5) 68 13 5) 68 14 5) 68 15 5)
theorem cz_20 {w : ic_w} (hz : Zf 68 w) : Zf 95 (cw_20 w) := by
  unfold cw_20
  exact Zf.le (n := 93) (m := 95) ((Zf.up (n := 93) (m := 93) ((Zf.up (n := 93) (m := 93) ((Zf.up (n := 93) (m := 93) ((Zf.up (n := 93) (m := 93) ((Zf.up (n := 93) (m := 93) ((Zf.up (n := 93) (m := 93) ((Zf.up (n := 93) (m := 93) ((Zf.up (n := 93) (m := 93) ((Zf.up (n := 93) (m := 93) ((Zf.up (n := 93) (m := 93) ((Zf.up (n := 93) (m := 93) ((Zf.up (n := 93) (m := 93) ((Zf.up (n := 93) (m := 93) ((Zf.up (n := 93) (m := 93) ((Zf.up (n := 93) (m := 93) ((Zf.up (n := 93) (m := 93) ((Zf.up (n := 93) (m := 93) ((Zf.up (n := 93) (m := 93) ((cz_23 (Zf.le (n := 83) (m := 84) ((cz_22 (Zf.le (n := 77) (m := 78) ((cz_21 (Zf.le (n := 68) (m := 75) (hz) (by decide)))) (by decide)))) (by decide)))) (by decide) (by decide))) (by decide) (by decide))) (by decide) (by decide))) (by decide) (by decide))) (by decide) (by decide))) (by decide) (by decide))) (by decide) (by decide))) (by decide) (by decide))) (by decide) (by decide))) (by decide) (by decide))) (by decide) (by decide))) (by decide) (by decide))) (by decide) (by decide))) (by decide) (by decide))) (by decide) (by decide))) (by decide) (by decide))) (by decide) (by decide))) (by decide) (by decide))) (by decide)
set_option maxHeartbeats 4000000 in
set_option maxRecDepth 100000 in
theorem cI_20 {l : Launch} {E : ic_E} {w : ic_w} (hz : Zf 68 w) : ic_CI l E mX5_init 2 27 379 True [ic_pt E 67, ic_pt E 26] ss_104 (hn w) ss_146 (ic_qv (fun h_ => h_ = hn (cw_20 w))) := by
  refine ic_introI (by decide +kernel) (Nat.le_of_ble_eq_true rfl) ?_
  show xx l E _ _ 0 [(0, ic_pt E 67), (1, ic_pt E 26)] _ _ _
  refine xx_aload_nP (pc := 0) dX5_init_0 0 rfl rfl ?_
  refine xx_objI (pc := 1) dX5_init_1 (show Cond.methodLink RX5 3 Lib.objectInit ∈ ic_W from ic_in 295 (by decide +kernel) rfl) oi_all ⟨Nat.le_of_ble_eq_true rfl, Nat.le_of_ble_eq_true rfl⟩ (Nat.le_of_ble_eq_true rfl) ?_
  refine xx_aload_nP (pc := 4) dX5_init_4 0 rfl rfl ?_
  refine xx_bipush (pc := 5) dX5_init_5 cc_bipush_16 ?_
  refine xx_newaI (n := 68) (N := 16) (sh2 := ss_105) (pc := 7) dX5_init_7 (ic_in 152 (by decide +kernel) rfl) trivial ls_104 rfl (by decide) (hz.h (by decide)) ⟨Nat.le_of_ble_eq_true rfl, Nat.le_of_ble_eq_true rfl⟩ ?_
  refine xx_putF (o := 67) (t := 68) (sh2 := ss_106) (pc := 9) dX5_init_9 (show ss_105[67]? = some (5, 0, [0, 0, 0, 0, 0, 0, 0, 0, 0, 0, 0, 0, 0, 0, 0, 0]) by decide +kernel) fX5_9_5 rfl rfl rfl rfl (by decide) (by decide) rfl ?_
  refine xx_aload_nP (pc := 12) dX5_init_12 0 rfl rfl ?_
  refine xx_bipush (pc := 13) dX5_init_13 cc_bipush_6 ?_
  refine xx_newaI (n := 69) (N := 6) (sh2 := ss_107) (pc := 15) dX5_init_15 (ic_in 152 (by decide +kernel) rfl) trivial ls_106 rfl (by decide) (hz.h (by decide)) ⟨Nat.le_of_ble_eq_true rfl, Nat.le_of_ble_eq_true rfl⟩ ?_
  refine xx_putF (o := 67) (t := 69) (sh2 := ss_108) (pc := 17) dX5_init_17 (show ss_107[67]? = some (5, 0, [0, 69, 0, 0, 0, 0, 0, 0, 0, 0, 0, 0, 0, 0, 0, 0]) by decide +kernel) fX5_15_5 rfl rfl rfl rfl (by decide) (by decide) rfl ?_
  refine xx_aload_nP (pc := 20) dX5_init_20 0 rfl rfl ?_
  refine xx_bipush (pc := 21) dX5_init_21 cc_bipush_6 ?_
  refine xx_newaI (n := 70) (N := 6) (sh2 := ss_109) (pc := 23) dX5_init_23 (ic_in 152 (by decide +kernel) rfl) trivial ls_108 rfl (by decide) (hz.h (by decide)) ⟨Nat.le_of_ble_eq_true rfl, Nat.le_of_ble_eq_true rfl⟩ ?_
  refine xx_putF (o := 67) (t := 70) (sh2 := ss_110) (pc := 25) dX5_init_25 (show ss_109[67]? = some (5, 0, [0, 69, 70, 0, 0, 0, 0, 0, 0, 0, 0, 0, 0, 0, 0, 0]) by decide +kernel) fX5_18_5 rfl rfl rfl rfl (by decide) (by decide) rfl ?_
  refine xx_aload_nP (pc := 28) dX5_init_28 0 rfl rfl ?_
  refine xx_bipush (pc := 29) dX5_init_29 cc_bipush_6 ?_
  refine xx_newaI (n := 71) (N := 6) (sh2 := ss_111) (pc := 31) dX5_init_31 (ic_in 152 (by decide +kernel) rfl) trivial ls_110 rfl (by decide) (hz.h (by decide)) ⟨Nat.le_of_ble_eq_true rfl, Nat.le_of_ble_eq_true rfl⟩ ?_
  refine xx_putF (o := 67) (t := 71) (sh2 := ss_112) (pc := 33) dX5_init_33 (show ss_111[67]? = some (5, 0, [0, 69, 70, 71, 0, 0, 0, 0, 0, 0, 0, 0, 0, 0, 0, 0]) by decide +kernel) fX5_21_5 rfl rfl rfl rfl (by decide) (by decide) rfl ?_
  refine xx_aload_nP (pc := 36) dX5_init_36 0 rfl rfl ?_
  refine xx_bipush (pc := 37) dX5_init_37 cc_bipush_6 ?_
  refine xx_newaI (n := 72) (N := 6) (sh2 := ss_113) (pc := 39) dX5_init_39 (ic_in 152 (by decide +kernel) rfl) trivial ls_112 rfl (by decide) (hz.h (by decide)) ⟨Nat.le_of_ble_eq_true rfl, Nat.le_of_ble_eq_true rfl⟩ ?_
  refine xx_putF (o := 67) (t := 72) (sh2 := ss_114) (pc := 41) dX5_init_41 (show ss_113[67]? = some (5, 0, [0, 69, 70, 71, 72, 0, 0, 0, 0, 0, 0, 0, 0, 0, 0, 0]) by decide +kernel) fX5_24_5 rfl rfl rfl rfl (by decide) (by decide) rfl ?_
  refine xx_aload_nP (pc := 44) dX5_init_44 0 rfl rfl ?_
  refine xx_bipush (pc := 45) dX5_init_45 cc_bipush_6 ?_
  refine xx_newaI (n := 73) (N := 6) (sh2 := ss_115) (pc := 47) dX5_init_47 (ic_in 152 (by decide +kernel) rfl) trivial ls_114 rfl (by decide) (hz.h (by decide)) ⟨Nat.le_of_ble_eq_true rfl, Nat.le_of_ble_eq_true rfl⟩ ?_
  refine xx_putF (o := 67) (t := 73) (sh2 := ss_116) (pc := 49) dX5_init_49 (show ss_115[67]? = some (5, 0, [0, 69, 70, 71, 72, 73, 0, 0, 0, 0, 0, 0, 0, 0, 0, 0]) by decide +kernel) fX5_27_5 rfl rfl rfl rfl (by decide) (by decide) rfl ?_
  refine xx_aload_nP (pc := 52) dX5_init_52 0 rfl rfl ?_
  refine xx_new (c := 4) (n := 74) (rs := [0, 0, 0, 0]) (sh2 := ss_117) (pc := 53) dX5_init_53 (by decide) ⟨show Cond.classLink RX5 30 (ic_R 4) ∈ ic_W from ic_in 296 (by decide +kernel) rfl, show Cond.instantiable (ic_R 4) (ic_N 4) ∈ ic_W from ic_in 124 (by decide +kernel) rfl, show Cond.initialized (ic_R 4) ∈ ic_W from ic_in 96 (by decide +kernel) rfl⟩ trivial ls_116 rfl (by decide) (fun k => congrFun (hz.h (by decide)) k) ⟨Nat.le_of_ble_eq_true rfl, Nat.le_of_ble_eq_true rfl⟩ ?_
  refine xx_dup (pc := 56) dX5_init_56 rfl ?_
  refine xx_callIJ (pc := 57) (o := 74) (As := []) (st := [ic_pt E 74, ic_pt E 67]) (fun _ h => h) (cI_21 (w := w) (hz.le (by decide))) kX4_init rfl nX5_32 ⟨rfl, ic_in 126 (by decide +kernel) rfl⟩ dX5_init_57 rfl rfl (Nat.le_of_ble_eq_true rfl) ⟨Nat.le_of_ble_eq_true rfl, Nat.le_of_ble_eq_true rfl⟩ ⟨Nat.le_of_ble_eq_true rfl, Nat.le_of_ble_eq_true rfl⟩ (ic_kv (fun h_ q_ => ?_))
  subst q_
  refine xx_nw (fun w1 ew1 => ?_)
  have hz_w1 : Zf 77 w1 := by rw [ew1]; exact cz_21 (hz.le (by decide))
  refine xx_putF (o := 67) (t := 74) (sh2 := ss_122) (pc := 60) dX5_init_60 (show ss_121[67]? = some (5, 0, [0, 69, 70, 71, 72, 73, 74, 0, 0, 0, 0, 0, 0, 0, 0, 0]) by decide +kernel) fX5_33_5 rfl rfl rfl rfl (by decide) (by decide) rfl ?_
  refine xx_aload_nP (pc := 63) dX5_init_63 0 rfl rfl ?_
  refine xx_new (c := 10) (n := 77) (rs := [0, 0, 0, 0, 0, 0, 1000000, 0, 0, 0, 0]) (sh2 := ss_123) (pc := 64) dX5_init_64 (by decide) ⟨show Cond.classLink RX5 37 (ic_R 10) ∈ ic_W from ic_in 298 (by decide +kernel) rfl, show Cond.instantiable (ic_R 10) (ic_N 10) ∈ ic_W from ic_in 154 (by decide +kernel) rfl, show Cond.initialized (ic_R 10) ∈ ic_W from ic_in 97 (by decide +kernel) rfl⟩ trivial ls_122 rfl (by decide) (fun k => congrFun (hz_w1.h (by decide)) k) ⟨Nat.le_of_ble_eq_true rfl, Nat.le_of_ble_eq_true rfl⟩ ?_
  refine xx_dup (pc := 67) dX5_init_67 rfl ?_
  refine xx_callIJ (pc := 68) (o := 77) (As := []) (st := [ic_pt E 77, ic_pt E 67]) (fun _ h => h) (cI_22 (w := w1) (hz_w1.le (by decide))) kX10_init rfl nX5_39 ⟨rfl, ic_in 156 (by decide +kernel) rfl⟩ dX5_init_68 rfl rfl (Nat.le_of_ble_eq_true rfl) ⟨Nat.le_of_ble_eq_true rfl, Nat.le_of_ble_eq_true rfl⟩ ⟨Nat.le_of_ble_eq_true rfl, Nat.le_of_ble_eq_true rfl⟩ (ic_kv (fun h_ q_ => ?_))
  subst q_
  refine xx_nw (fun w2 ew2 => ?_)
  have hz_w2 : Zf 83 w2 := by rw [ew2]; exact cz_22 (hz_w1.le (by decide))
  refine xx_putF (o := 67) (t := 77) (sh2 := ss_133) (pc := 71) dX5_init_71 (show ss_132[67]? = some (5, 0, [0, 69, 70, 71, 72, 73, 74, 75, 0, 0, 0, 0, 0, 0, 0, 0]) by decide +kernel) fX5_40_5 rfl rfl rfl rfl (by decide) (by decide) rfl ?_
  refine xx_aload_nP (pc := 74) dX5_init_74 0 rfl rfl ?_
  refine xx_new (c := 8) (n := 83) (rs := [0, 0, 0, 0, 0, 0, 0, 0, 0]) (sh2 := ss_134) (pc := 75) dX5_init_75 (by decide) ⟨show Cond.classLink RX5 44 (ic_R 8) ∈ ic_W from ic_in 300 (by decide +kernel) rfl, show Cond.instantiable (ic_R 8) (ic_N 8) ∈ ic_W from ic_in 301 (by decide +kernel) rfl, show Cond.initialized (ic_R 8) ∈ ic_W from ic_in 105 (by decide +kernel) rfl⟩ trivial ls_133 rfl (by decide) (fun k => congrFun (hz_w2.h (by decide)) k) ⟨Nat.le_of_ble_eq_true rfl, Nat.le_of_ble_eq_true rfl⟩ ?_
  refine xx_dup (pc := 78) dX5_init_78 rfl ?_
  refine xx_callIJ (pc := 79) (o := 83) (As := []) (st := [ic_pt E 83, ic_pt E 67]) (fun _ h => h) (cI_23 (w := w2) (hz_w2.le (by decide))) kX8_init rfl nX5_46 ⟨rfl, ic_in 303 (by decide +kernel) rfl⟩ dX5_init_79 rfl rfl (Nat.le_of_ble_eq_true rfl) ⟨Nat.le_of_ble_eq_true rfl, Nat.le_of_ble_eq_true rfl⟩ ⟨Nat.le_of_ble_eq_true rfl, Nat.le_of_ble_eq_true rfl⟩ (ic_kv (fun h_ q_ => ?_))
  subst q_
  refine xx_nw (fun w3 ew3 => ?_)
  have hz_w3 : Zf 93 w3 := by rw [ew3]; exact cz_23 (hz_w2.le (by decide))
  refine xx_putF (o := 67) (t := 83) (sh2 := ss_141) (pc := 82) dX5_init_82 (show ss_140[67]? = some (5, 0, [0, 69, 70, 71, 72, 73, 74, 75, 78, 0, 0, 0, 0, 0, 0, 0]) by decide +kernel) fX5_47_5 rfl rfl rfl rfl (by decide) (by decide) rfl ?_
  refine xx_aload_nP (pc := 85) dX5_init_85 0 rfl rfl ?_
  refine xx_bipush (pc := 86) dX5_init_86 cc_bipush_12 ?_
  refine xx_putN (pc := 88) dX5_init_88 (show ss_141[67]? = some (5, 0, [0, 69, 70, 71, 72, 73, 74, 75, 78, 84, 0, 0, 0, 0, 0, 0]) by decide +kernel) fX5_51_5 rfl rfl ?_
  refine xx_nw (fun w4 ew4 => ?_)
  have hz_w4 : Zf 93 w4 := by rw [ew4]; exact hz_w3.up (by decide) (by decide)
  refine xx_aload_nP (pc := 91) dX5_init_91 0 rfl rfl ?_
  refine xx_iconst (pc := 92) dX5_init_92 cc_iconst_1 ?_
  refine xx_putN (pc := 93) dX5_init_93 (show ss_141[67]? = some (5, 0, [0, 69, 70, 71, 72, 73, 74, 75, 78, 84, 0, 0, 0, 0, 0, 0]) by decide +kernel) fX5_55_5 rfl rfl ?_
  refine xx_nw (fun w5 ew5 => ?_)
  have hz_w5 : Zf 93 w5 := by rw [ew5]; exact hz_w4.up (by decide) (by decide)
  refine xx_aload_nP (pc := 96) dX5_init_96 0 rfl rfl ?_
  refine xx_bipush (pc := 97) dX5_init_97 cc_bipush_6 ?_
  refine xx_newaI (n := 93) (N := 6) (sh2 := ss_142) (pc := 99) dX5_init_99 (ic_in 152 (by decide +kernel) rfl) trivial ls_141 rfl (by decide) (hz_w5.h (by decide)) ⟨Nat.le_of_ble_eq_true rfl, Nat.le_of_ble_eq_true rfl⟩ ?_
  refine xx_putF (o := 67) (t := 93) (sh2 := ss_143) (pc := 101) dX5_init_101 (show ss_142[67]? = some (5, 0, [0, 69, 70, 71, 72, 73, 74, 75, 78, 84, 0, 0, 0, 0, 0, 0]) by decide +kernel) fX5_58_5 rfl rfl rfl rfl (by decide) (by decide) rfl ?_
  refine xx_aload_nP (pc := 104) dX5_init_104 0 rfl rfl ?_
  refine xx_iconst (pc := 105) dX5_init_105 cc_iconst_5 ?_
  refine xx_newaI (n := 94) (N := 5) (sh2 := ss_144) (pc := 106) dX5_init_106 (ic_in 152 (by decide +kernel) rfl) trivial ls_143 rfl (by decide) (hz_w5.h (by decide)) ⟨Nat.le_of_ble_eq_true rfl, Nat.le_of_ble_eq_true rfl⟩ ?_
  refine xx_putF (o := 67) (t := 94) (sh2 := ss_145) (pc := 108) dX5_init_108 (show ss_144[67]? = some (5, 0, [0, 69, 70, 71, 72, 73, 74, 75, 78, 84, 0, 0, 0, 0, 94, 0]) by decide +kernel) fX5_61_5 rfl rfl rfl rfl (by decide) (by decide) rfl ?_
  refine xx_aload_nP (pc := 111) dX5_init_111 0 rfl rfl ?_
  refine xx_aload_nP (pc := 112) dX5_init_112 1 rfl rfl ?_
  refine xx_putF (o := 67) (t := 26) (sh2 := ss_146) (pc := 113) dX5_init_113 (show ss_145[67]? = some (5, 0, [0, 69, 70, 71, 72, 73, 74, 75, 78, 84, 0, 0, 0, 0, 94, 95]) by decide +kernel) fX5_64_5 rfl rfl rfl rfl (by decide) (by decide) rfl ?_
  refine xx_iconst (pc := 116) dX5_init_116 cc_iconst_0 ?_
  refine xx_istore_n (L' := [(2, .int (nI 0)), (0, ic_pt E 67), (1, ic_pt E 26)]) (pc := 117) dX5_init_117 rfl (Nat.le_of_ble_eq_true rfl) rfl ?_
  refine xx_iload_n (pc := 118) dX5_init_118 0 rfl rfl ?_
  refine xx_bipush (pc := 119) dX5_init_119 cc_bipush_16 ?_
  refine xx_icmp_geN (pc := 121) 137 dX5_init_121 rfl (by omega) (by omega) (fun c_ => by exfalso; omega) (fun _ => ?_)
  refine xx_aload_nP (pc := 124) dX5_init_124 1 rfl rfl ?_
  refine xx_getR (pc := 125) 68 dX5_init_125 (show ss_146[67]? = some (5, 0, [27, 69, 70, 71, 72, 73, 74, 75, 78, 84, 0, 0, 0, 0, 94, 95]) by decide +kernel) fX5_9_5 rfl rfl (by decide) ?_
  refine xx_iload_n (pc := 128) dX5_init_128 0 rfl rfl ?_
  refine xx_iconst (pc := 129) dX5_init_129 cc_iconst_5 ?_
  refine xx_iastN (pc := 130) dX5_init_130 (show ss_146[68]? = some (100, 16, []) by decide +kernel) (by omega) (by decide) ?_
  refine xx_nw (fun w6 ew6 => ?_)
  have hz_w6 : Zf 95 w6 := by rw [ew6]; exact hz_w5.up (by decide) (by decide)
  refine xx_iincN (L' := [(2, .int (nI 1)), (0, ic_pt E 67), (1, ic_pt E 26)]) (pc := 131) dX5_init_131 0 rfl cc_iconst_1 (Nat.le_of_ble_eq_true rfl) rfl ?_
  refine xx_goto (pc := 134) 118 dX5_init_134 rfl ?_
  refine xx_iload_n (pc := 118) dX5_init_118 0 rfl rfl ?_
  refine xx_bipush (pc := 119) dX5_init_119 cc_bipush_16 ?_
  refine xx_icmp_geN (pc := 121) 137 dX5_init_121 rfl (by omega) (by omega) (fun c_ => by exfalso; omega) (fun _ => ?_)
  refine xx_aload_nP (pc := 124) dX5_init_124 1 rfl rfl ?_
  refine xx_getR (pc := 125) 68 dX5_init_125 (show ss_146[67]? = some (5, 0, [27, 69, 70, 71, 72, 73, 74, 75, 78, 84, 0, 0, 0, 0, 94, 95]) by decide +kernel) fX5_9_5 rfl rfl (by decide) ?_
  refine xx_iload_n (pc := 128) dX5_init_128 0 rfl rfl ?_
  refine xx_iconst (pc := 129) dX5_init_129 cc_iconst_5 ?_
  refine xx_iastN (pc := 130) dX5_init_130 (show ss_146[68]? = some (100, 16, []) by decide +kernel) (by omega) (by decide) ?_
  refine xx_nw (fun w7 ew7 => ?_)
  have hz_w7 : Zf 95 w7 := by rw [ew7]; exact hz_w6.up (by decide) (by decide)
  refine xx_iincN (L' := [(2, .int (nI 2)), (0, ic_pt E 67), (1, ic_pt E 26)]) (pc := 131) dX5_init_131 0 rfl cc_iconst_1 (Nat.le_of_ble_eq_true rfl) rfl ?_
  refine xx_goto (pc := 134) 118 dX5_init_134 rfl ?_
  refine xx_iload_n (pc := 118) dX5_init_118 0 rfl rfl ?_
  refine xx_bipush (pc := 119) dX5_init_119 cc_bipush_16 ?_
  refine xx_icmp_geN (pc := 121) 137 dX5_init_121 rfl (by omega) (by omega) (fun c_ => by exfalso; omega) (fun _ => ?_)
  refine xx_aload_nP (pc := 124) dX5_init_124 1 rfl rfl ?_
  refine xx_getR (pc := 125) 68 dX5_init_125 (show ss_146[67]? = some (5, 0, [27, 69, 70, 71, 72, 73, 74, 75, 78, 84, 0, 0, 0, 0, 94, 95]) by decide +kernel) fX5_9_5 rfl rfl (by decide) ?_
  refine xx_iload_n (pc := 128) dX5_init_128 0 rfl rfl ?_
  refine xx_iconst (pc := 129) dX5_init_129 cc_iconst_5 ?_
  refine xx_iastN (pc := 130) dX5_init_130 (show ss_146[68]? = some (100, 16, []) by decide +kernel) (by omega) (by decide) ?_
  refine xx_nw (fun w8 ew8 => ?_)
  have hz_w8 : Zf 95 w8 := by rw [ew8]; exact hz_w7.up (by decide) (by decide)
  refine xx_iincN (L' := [(2, .int (nI 3)), (0, ic_pt E 67), (1, ic_pt E 26)]) (pc := 131) dX5_init_131 0 rfl cc_iconst_1 (Nat.le_of_ble_eq_true rfl) rfl ?_
  refine xx_goto (pc := 134) 118 dX5_init_134 rfl ?_
  refine xx_iload_n (pc := 118) dX5_init_118 0 rfl rfl ?_
  refine xx_bipush (pc := 119) dX5_init_119 cc_bipush_16 ?_
  refine xx_icmp_geN (pc := 121) 137 dX5_init_121 rfl (by omega) (by omega) (fun c_ => by exfalso; omega) (fun _ => ?_)
  refine xx_aload_nP (pc := 124) dX5_init_124 1 rfl rfl ?_
  refine xx_getR (pc := 125) 68 dX5_init_125 (show ss_146[67]? = some (5, 0, [27, 69, 70, 71, 72, 73, 74, 75, 78, 84, 0, 0, 0, 0, 94, 95]) by decide +kernel) fX5_9_5 rfl rfl (by decide) ?_
  refine xx_iload_n (pc := 128) dX5_init_128 0 rfl rfl ?_
  refine xx_iconst (pc := 129) dX5_init_129 cc_iconst_5 ?_
  refine xx_iastN (pc := 130) dX5_init_130 (show ss_146[68]? = some (100, 16, []) by decide +kernel) (by omega) (by decide) ?_
  refine xx_nw (fun w9 ew9 => ?_)
  have hz_w9 : Zf 95 w9 := by rw [ew9]; exact hz_w8.up (by decide) (by decide)
  refine xx_iincN (L' := [(2, .int (nI 4)), (0, ic_pt E 67), (1, ic_pt E 26)]) (pc := 131) dX5_init_131 0 rfl cc_iconst_1 (Nat.le_of_ble_eq_true rfl) rfl ?_
  refine xx_goto (pc := 134) 118 dX5_init_134 rfl ?_
  refine xx_iload_n (pc := 118) dX5_init_118 0 rfl rfl ?_
  refine xx_bipush (pc := 119) dX5_init_119 cc_bipush_16 ?_
  refine xx_icmp_geN (pc := 121) 137 dX5_init_121 rfl (by omega) (by omega) (fun c_ => by exfalso; omega) (fun _ => ?_)
  refine xx_aload_nP (pc := 124) dX5_init_124 1 rfl rfl ?_
  refine xx_getR (pc := 125) 68 dX5_init_125 (show ss_146[67]? = some (5, 0, [27, 69, 70, 71, 72, 73, 74, 75, 78, 84, 0, 0, 0, 0, 94, 95]) by decide +kernel) fX5_9_5 rfl rfl (by decide) ?_
  refine xx_iload_n (pc := 128) dX5_init_128 0 rfl rfl ?_
  refine xx_iconst (pc := 129) dX5_init_129 cc_iconst_5 ?_
  refine xx_iastN (pc := 130) dX5_init_130 (show ss_146[68]? = some (100, 16, []) by decide +kernel) (by omega) (by decide) ?_
  refine xx_nw (fun w10 ew10 => ?_)
  have hz_w10 : Zf 95 w10 := by rw [ew10]; exact hz_w9.up (by decide) (by decide)
  refine xx_iincN (L' := [(2, .int (nI 5)), (0, ic_pt E 67), (1, ic_pt E 26)]) (pc := 131) dX5_init_131 0 rfl cc_iconst_1 (Nat.le_of_ble_eq_true rfl) rfl ?_
  refine xx_goto (pc := 134) 118 dX5_init_134 rfl ?_
  refine xx_iload_n (pc := 118) dX5_init_118 0 rfl rfl ?_
  refine xx_bipush (pc := 119) dX5_init_119 cc_bipush_16 ?_
  refine xx_icmp_geN (pc := 121) 137 dX5_init_121 rfl (by omega) (by omega) (fun c_ => by exfalso; omega) (fun _ => ?_)
  refine xx_aload_nP (pc := 124) dX5_init_124 1 rfl rfl ?_
  refine xx_getR (pc := 125) 68 dX5_init_125 (show ss_146[67]? = some (5, 0, [27, 69, 70, 71, 72, 73, 74, 75, 78, 84, 0, 0, 0, 0, 94, 95]) by decide +kernel) fX5_9_5 rfl rfl (by decide) ?_
  refine xx_iload_n (pc := 128) dX5_init_128 0 rfl rfl ?_
  refine xx_iconst (pc := 129) dX5_init_129 cc_iconst_5 ?_
  refine xx_iastN (pc := 130) dX5_init_130 (show ss_146[68]? = some (100, 16, []) by decide +kernel) (by omega) (by decide) ?_
  refine xx_nw (fun w11 ew11 => ?_)
  have hz_w11 : Zf 95 w11 := by rw [ew11]; exact hz_w10.up (by decide) (by decide)
  refine xx_iincN (L' := [(2, .int (nI 6)), (0, ic_pt E 67), (1, ic_pt E 26)]) (pc := 131) dX5_init_131 0 rfl cc_iconst_1 (Nat.le_of_ble_eq_true rfl) rfl ?_
  refine xx_goto (pc := 134) 118 dX5_init_134 rfl ?_
  refine xx_iload_n (pc := 118) dX5_init_118 0 rfl rfl ?_
  refine xx_bipush (pc := 119) dX5_init_119 cc_bipush_16 ?_
  refine xx_icmp_geN (pc := 121) 137 dX5_init_121 rfl (by omega) (by omega) (fun c_ => by exfalso; omega) (fun _ => ?_)
  refine xx_aload_nP (pc := 124) dX5_init_124 1 rfl rfl ?_
  refine xx_getR (pc := 125) 68 dX5_init_125 (show ss_146[67]? = some (5, 0, [27, 69, 70, 71, 72, 73, 74, 75, 78, 84, 0, 0, 0, 0, 94, 95]) by decide +kernel) fX5_9_5 rfl rfl (by decide) ?_
  refine xx_iload_n (pc := 128) dX5_init_128 0 rfl rfl ?_
  refine xx_iconst (pc := 129) dX5_init_129 cc_iconst_5 ?_
  refine xx_iastN (pc := 130) dX5_init_130 (show ss_146[68]? = some (100, 16, []) by decide +kernel) (by omega) (by decide) ?_
  refine xx_nw (fun w12 ew12 => ?_)
  have hz_w12 : Zf 95 w12 := by rw [ew12]; exact hz_w11.up (by decide) (by decide)
  refine xx_iincN (L' := [(2, .int (nI 7)), (0, ic_pt E 67), (1, ic_pt E 26)]) (pc := 131) dX5_init_131 0 rfl cc_iconst_1 (Nat.le_of_ble_eq_true rfl) rfl ?_
  refine xx_goto (pc := 134) 118 dX5_init_134 rfl ?_
  refine xx_iload_n (pc := 118) dX5_init_118 0 rfl rfl ?_
  refine xx_bipush (pc := 119) dX5_init_119 cc_bipush_16 ?_
  refine xx_icmp_geN (pc := 121) 137 dX5_init_121 rfl (by omega) (by omega) (fun c_ => by exfalso; omega) (fun _ => ?_)
  refine xx_aload_nP (pc := 124) dX5_init_124 1 rfl rfl ?_
  refine xx_getR (pc := 125) 68 dX5_init_125 (show ss_146[67]? = some (5, 0, [27, 69, 70, 71, 72, 73, 74, 75, 78, 84, 0, 0, 0, 0, 94, 95]) by decide +kernel) fX5_9_5 rfl rfl (by decide) ?_
  refine xx_iload_n (pc := 128) dX5_init_128 0 rfl rfl ?_
  refine xx_iconst (pc := 129) dX5_init_129 cc_iconst_5 ?_
  refine xx_iastN (pc := 130) dX5_init_130 (show ss_146[68]? = some (100, 16, []) by decide +kernel) (by omega) (by decide) ?_
  refine xx_nw (fun w13 ew13 => ?_)
  have hz_w13 : Zf 95 w13 := by rw [ew13]; exact hz_w12.up (by decide) (by decide)
  refine xx_iincN (L' := [(2, .int (nI 8)), (0, ic_pt E 67), (1, ic_pt E 26)]) (pc := 131) dX5_init_131 0 rfl cc_iconst_1 (Nat.le_of_ble_eq_true rfl) rfl ?_
  refine xx_goto (pc := 134) 118 dX5_init_134 rfl ?_
  refine xx_iload_n (pc := 118) dX5_init_118 0 rfl rfl ?_
  refine xx_bipush (pc := 119) dX5_init_119 cc_bipush_16 ?_
  refine xx_icmp_geN (pc := 121) 137 dX5_init_121 rfl (by omega) (by omega) (fun c_ => by exfalso; omega) (fun _ => ?_)
  refine xx_aload_nP (pc := 124) dX5_init_124 1 rfl rfl ?_
  refine xx_getR (pc := 125) 68 dX5_init_125 (show ss_146[67]? = some (5, 0, [27, 69, 70, 71, 72, 73, 74, 75, 78, 84, 0, 0, 0, 0, 94, 95]) by decide +kernel) fX5_9_5 rfl rfl (by decide) ?_
  refine xx_iload_n (pc := 128) dX5_init_128 0 rfl rfl ?_
  refine xx_iconst (pc := 129) dX5_init_129 cc_iconst_5 ?_
  refine xx_iastN (pc := 130) dX5_init_130 (show ss_146[68]? = some (100, 16, []) by decide +kernel) (by omega) (by decide) ?_
  refine xx_nw (fun w14 ew14 => ?_)
  have hz_w14 : Zf 95 w14 := by rw [ew14]; exact hz_w13.up (by decide) (by decide)
  refine xx_iincN (L' := [(2, .int (nI 9)), (0, ic_pt E 67), (1, ic_pt E 26)]) (pc := 131) dX5_init_131 0 rfl cc_iconst_1 (Nat.le_of_ble_eq_true rfl) rfl ?_
  refine xx_goto (pc := 134) 118 dX5_init_134 rfl ?_
  refine xx_iload_n (pc := 118) dX5_init_118 0 rfl rfl ?_
  refine xx_bipush (pc := 119) dX5_init_119 cc_bipush_16 ?_
  refine xx_icmp_geN (pc := 121) 137 dX5_init_121 rfl (by omega) (by omega) (fun c_ => by exfalso; omega) (fun _ => ?_)
  refine xx_aload_nP (pc := 124) dX5_init_124 1 rfl rfl ?_
  refine xx_getR (pc := 125) 68 dX5_init_125 (show ss_146[67]? = some (5, 0, [27, 69, 70, 71, 72, 73, 74, 75, 78, 84, 0, 0, 0, 0, 94, 95]) by decide +kernel) fX5_9_5 rfl rfl (by decide) ?_
  refine xx_iload_n (pc := 128) dX5_init_128 0 rfl rfl ?_
  refine xx_iconst (pc := 129) dX5_init_129 cc_iconst_5 ?_
  refine xx_iastN (pc := 130) dX5_init_130 (show ss_146[68]? = some (100, 16, []) by decide +kernel) (by omega) (by decide) ?_
  refine xx_nw (fun w15 ew15 => ?_)
  have hz_w15 : Zf 95 w15 := by rw [ew15]; exact hz_w14.up (by decide) (by decide)
  refine xx_iincN (L' := [(2, .int (nI 10)), (0, ic_pt E 67), (1, ic_pt E 26)]) (pc := 131) dX5_init_131 0 rfl cc_iconst_1 (Nat.le_of_ble_eq_true rfl) rfl ?_
  refine xx_goto (pc := 134) 118 dX5_init_134 rfl ?_
  refine xx_iload_n (pc := 118) dX5_init_118 0 rfl rfl ?_
  refine xx_bipush (pc := 119) dX5_init_119 cc_bipush_16 ?_
  refine xx_icmp_geN (pc := 121) 137 dX5_init_121 rfl (by omega) (by omega) (fun c_ => by exfalso; omega) (fun _ => ?_)
  refine xx_aload_nP (pc := 124) dX5_init_124 1 rfl rfl ?_
  refine xx_getR (pc := 125) 68 dX5_init_125 (show ss_146[67]? = some (5, 0, [27, 69, 70, 71, 72, 73, 74, 75, 78, 84, 0, 0, 0, 0, 94, 95]) by decide +kernel) fX5_9_5 rfl rfl (by decide) ?_
  refine xx_iload_n (pc := 128) dX5_init_128 0 rfl rfl ?_
  refine xx_iconst (pc := 129) dX5_init_129 cc_iconst_5 ?_
  refine xx_iastN (pc := 130) dX5_init_130 (show ss_146[68]? = some (100, 16, []) by decide +kernel) (by omega) (by decide) ?_
  refine xx_nw (fun w16 ew16 => ?_)
  have hz_w16 : Zf 95 w16 := by rw [ew16]; exact hz_w15.up (by decide) (by decide)
  refine xx_iincN (L' := [(2, .int (nI 11)), (0, ic_pt E 67), (1, ic_pt E 26)]) (pc := 131) dX5_init_131 0 rfl cc_iconst_1 (Nat.le_of_ble_eq_true rfl) rfl ?_
  refine xx_goto (pc := 134) 118 dX5_init_134 rfl ?_
  refine xx_iload_n (pc := 118) dX5_init_118 0 rfl rfl ?_
  refine xx_bipush (pc := 119) dX5_init_119 cc_bipush_16 ?_
  refine xx_icmp_geN (pc := 121) 137 dX5_init_121 rfl (by omega) (by omega) (fun c_ => by exfalso; omega) (fun _ => ?_)
  refine xx_aload_nP (pc := 124) dX5_init_124 1 rfl rfl ?_
  refine xx_getR (pc := 125) 68 dX5_init_125 (show ss_146[67]? = some (5, 0, [27, 69, 70, 71, 72, 73, 74, 75, 78, 84, 0, 0, 0, 0, 94, 95]) by decide +kernel) fX5_9_5 rfl rfl (by decide) ?_
  refine xx_iload_n (pc := 128) dX5_init_128 0 rfl rfl ?_
  refine xx_iconst (pc := 129) dX5_init_129 cc_iconst_5 ?_
  refine xx_iastN (pc := 130) dX5_init_130 (show ss_146[68]? = some (100, 16, []) by decide +kernel) (by omega) (by decide) ?_
  refine xx_nw (fun w17 ew17 => ?_)
  have hz_w17 : Zf 95 w17 := by rw [ew17]; exact hz_w16.up (by decide) (by decide)
  refine xx_iincN (L' := [(2, .int (nI 12)), (0, ic_pt E 67), (1, ic_pt E 26)]) (pc := 131) dX5_init_131 0 rfl cc_iconst_1 (Nat.le_of_ble_eq_true rfl) rfl ?_
  refine xx_goto (pc := 134) 118 dX5_init_134 rfl ?_
  refine xx_iload_n (pc := 118) dX5_init_118 0 rfl rfl ?_
  refine xx_bipush (pc := 119) dX5_init_119 cc_bipush_16 ?_
  refine xx_icmp_geN (pc := 121) 137 dX5_init_121 rfl (by omega) (by omega) (fun c_ => by exfalso; omega) (fun _ => ?_)
  refine xx_aload_nP (pc := 124) dX5_init_124 1 rfl rfl ?_
  refine xx_getR (pc := 125) 68 dX5_init_125 (show ss_146[67]? = some (5, 0, [27, 69, 70, 71, 72, 73, 74, 75, 78, 84, 0, 0, 0, 0, 94, 95]) by decide +kernel) fX5_9_5 rfl rfl (by decide) ?_
  refine xx_iload_n (pc := 128) dX5_init_128 0 rfl rfl ?_
  refine xx_iconst (pc := 129) dX5_init_129 cc_iconst_5 ?_
  refine xx_iastN (pc := 130) dX5_init_130 (show ss_146[68]? = some (100, 16, []) by decide +kernel) (by omega) (by decide) ?_
  refine xx_nw (fun w18 ew18 => ?_)
  have hz_w18 : Zf 95 w18 := by rw [ew18]; exact hz_w17.up (by decide) (by decide)
  refine xx_iincN (L' := [(2, .int (nI 13)), (0, ic_pt E 67), (1, ic_pt E 26)]) (pc := 131) dX5_init_131 0 rfl cc_iconst_1 (Nat.le_of_ble_eq_true rfl) rfl ?_
  refine xx_goto (pc := 134) 118 dX5_init_134 rfl ?_
  refine xx_iload_n (pc := 118) dX5_init_118 0 rfl rfl ?_
  refine xx_bipush (pc := 119) dX5_init_119 cc_bipush_16 ?_
  refine xx_icmp_geN (pc := 121) 137 dX5_init_121 rfl (by omega) (by omega) (fun c_ => by exfalso; omega) (fun _ => ?_)
  refine xx_aload_nP (pc := 124) dX5_init_124 1 rfl rfl ?_
  refine xx_getR (pc := 125) 68 dX5_init_125 (show ss_146[67]? = some (5, 0, [27, 69, 70, 71, 72, 73, 74, 75, 78, 84, 0, 0, 0, 0, 94, 95]) by decide +kernel) fX5_9_5 rfl rfl (by decide) ?_
  refine xx_iload_n (pc := 128) dX5_init_128 0 rfl rfl ?_
  refine xx_iconst (pc := 129) dX5_init_129 cc_iconst_5 ?_
  refine xx_iastN (pc := 130) dX5_init_130 (show ss_146[68]? = some (100, 16, []) by decide +kernel) (by omega) (by decide) ?_
  refine xx_nw (fun w19 ew19 => ?_)
  have hz_w19 : Zf 95 w19 := by rw [ew19]; exact hz_w18.up (by decide) (by decide)
  refine xx_iincN (L' := [(2, .int (nI 14)), (0, ic_pt E 67), (1, ic_pt E 26)]) (pc := 131) dX5_init_131 0 rfl cc_iconst_1 (Nat.le_of_ble_eq_true rfl) rfl ?_
  refine xx_goto (pc := 134) 118 dX5_init_134 rfl ?_
  refine xx_iload_n (pc := 118) dX5_init_118 0 rfl rfl ?_
  refine xx_bipush (pc := 119) dX5_init_119 cc_bipush_16 ?_
  refine xx_icmp_geN (pc := 121) 137 dX5_init_121 rfl (by omega) (by omega) (fun c_ => by exfalso; omega) (fun _ => ?_)
  refine xx_aload_nP (pc := 124) dX5_init_124 1 rfl rfl ?_
  refine xx_getR (pc := 125) 68 dX5_init_125 (show ss_146[67]? = some (5, 0, [27, 69, 70, 71, 72, 73, 74, 75, 78, 84, 0, 0, 0, 0, 94, 95]) by decide +kernel) fX5_9_5 rfl rfl (by decide) ?_
  refine xx_iload_n (pc := 128) dX5_init_128 0 rfl rfl ?_
  refine xx_iconst (pc := 129) dX5_init_129 cc_iconst_5 ?_
  refine xx_iastN (pc := 130) dX5_init_130 (show ss_146[68]? = some (100, 16, []) by decide +kernel) (by omega) (by decide) ?_
  refine xx_nw (fun w20 ew20 => ?_)
  have hz_w20 : Zf 95 w20 := by rw [ew20]; exact hz_w19.up (by decide) (by decide)
  refine xx_iincN (L' := [(2, .int (nI 15)), (0, ic_pt E 67), (1, ic_pt E 26)]) (pc := 131) dX5_init_131 0 rfl cc_iconst_1 (Nat.le_of_ble_eq_true rfl) rfl ?_
  refine xx_goto (pc := 134) 118 dX5_init_134 rfl ?_
  refine xx_iload_n (pc := 118) dX5_init_118 0 rfl rfl ?_
  refine xx_bipush (pc := 119) dX5_init_119 cc_bipush_16 ?_
  refine xx_icmp_geN (pc := 121) 137 dX5_init_121 rfl (by omega) (by omega) (fun c_ => by exfalso; omega) (fun _ => ?_)
  refine xx_aload_nP (pc := 124) dX5_init_124 1 rfl rfl ?_
  refine xx_getR (pc := 125) 68 dX5_init_125 (show ss_146[67]? = some (5, 0, [27, 69, 70, 71, 72, 73, 74, 75, 78, 84, 0, 0, 0, 0, 94, 95]) by decide +kernel) fX5_9_5 rfl rfl (by decide) ?_
  refine xx_iload_n (pc := 128) dX5_init_128 0 rfl rfl ?_
  refine xx_iconst (pc := 129) dX5_init_129 cc_iconst_5 ?_
  refine xx_iastN (pc := 130) dX5_init_130 (show ss_146[68]? = some (100, 16, []) by decide +kernel) (by omega) (by decide) ?_
  refine xx_nw (fun w21 ew21 => ?_)
  have hz_w21 : Zf 95 w21 := by rw [ew21]; exact hz_w20.up (by decide) (by decide)
  refine xx_iincN (L' := [(2, .int (nI 16)), (0, ic_pt E 67), (1, ic_pt E 26)]) (pc := 131) dX5_init_131 0 rfl cc_iconst_1 (Nat.le_of_ble_eq_true rfl) rfl ?_
  refine xx_goto (pc := 134) 118 dX5_init_134 rfl ?_
  refine xx_iload_n (pc := 118) dX5_init_118 0 rfl rfl ?_
  refine xx_bipush (pc := 119) dX5_init_119 cc_bipush_16 ?_
  refine xx_icmp_geN (pc := 121) 137 dX5_init_121 rfl (by omega) (by omega) (fun _ => ?_) (fun c_ => by exfalso; omega)
  exact xx_vretI (pc := 137) dX5_init_137 rfl (Nat.le_of_ble_eq_true rfl) (Nat.le_of_ble_eq_true rfl) (ic_rv0 (by first | rfl | (rw [ew21, ew20, ew19, ew18, ew17, ew16, ew15, ew14, ew13, ew12, ew11, ew10, ew9, ew8, ew7, ew6, ew5, ew4, ew3, ew2, ew1]; rfl)))
def ss_147 : List ic_S := ss_146.set 0 (11, 0, [40, 68, 0, 2, 0, 5, 0, 6, 12, 0, 17, 18, 19, 24, 25, 26, 1000000])
theorem ls_147 : ss_147.length = 95 := by unfold ss_147; rw [List.length_set, ls_146]
def ss_148 : List ic_S := ss_147 ++ [(6, 0, [0, 0, 0, 0, 0, 0, 0, 0, 0, 0, 0])]
theorem ls_148 : ss_148.length = 96 := by unfold ss_148; rw [List.length_append, ls_147]; rfl
def ss_149 : List ic_S := ss_148 ++ [(102, 5, [0, 0, 0, 0, 0])]
theorem ls_149 : ss_149.length = 97 := by unfold ss_149; rw [List.length_append, ls_148]; rfl
def ss_150 : List ic_S := ss_149.set 95 (6, 0, [0, 97, 0, 0, 0, 0, 0, 0, 0, 0, 0])
theorem ls_150 : ss_150.length = 97 := by unfold ss_150; rw [List.length_set, ls_149]
def ss_151 : List ic_S := ss_150 ++ [(100, 4, [])]
theorem ls_151 : ss_151.length = 98 := by unfold ss_151; rw [List.length_append, ls_150]; rfl
def ss_152 : List ic_S := ss_151.set 95 (6, 0, [0, 97, 98, 0, 0, 0, 0, 0, 0, 0, 0])
theorem ls_152 : ss_152.length = 98 := by unfold ss_152; rw [List.length_set, ls_151]
def ss_153 : List ic_S := ss_152 ++ [(100, 4, [])]
theorem ls_153 : ss_153.length = 99 := by unfold ss_153; rw [List.length_append, ls_152]; rfl
def ss_154 : List ic_S := ss_153.set 95 (6, 0, [0, 97, 98, 99, 0, 0, 0, 0, 0, 0, 0])
theorem ls_154 : ss_154.length = 99 := by unfold ss_154; rw [List.length_set, ls_153]
def ss_155 : List ic_S := ss_154.set 95 (6, 0, [40, 97, 98, 99, 0, 0, 0, 0, 0, 0, 0])
theorem ls_155 : ss_155.length = 99 := by unfold ss_155; rw [List.length_set, ls_154]
def ss_156 : List ic_S := ss_155 ++ [(4, 0, [0, 0, 0, 0])]
theorem ls_156 : ss_156.length = 100 := by unfold ss_156; rw [List.length_append, ls_155]; rfl
def ss_157 : List ic_S := ss_156 ++ [(100, 6, [])]
theorem ls_157 : ss_157.length = 101 := by unfold ss_157; rw [List.length_append, ls_156]; rfl
def ss_158 : List ic_S := ss_157.set 99 (4, 0, [0, 0, 101, 0])
theorem ls_158 : ss_158.length = 101 := by unfold ss_158; rw [List.length_set, ls_157]
def ss_159 : List ic_S := ss_158 ++ [(100, 6, [])]
theorem ls_159 : ss_159.length = 102 := by unfold ss_159; rw [List.length_append, ls_158]; rfl
def ss_160 : List ic_S := ss_159.set 99 (4, 0, [0, 0, 101, 102])
theorem ls_160 : ss_160.length = 102 := by unfold ss_160; rw [List.length_set, ls_159]
def cw_25 (w : ic_w) : ic_w := w
theorem cz_25 {w : ic_w} (hz : Zf 100 w) : Zf 102 (cw_25 w) := by
  unfold cw_25
  exact Zf.le (n := 100) (m := 102) (hz) (by decide)
set_option maxHeartbeats 4000000 in
set_option maxRecDepth 100000 in
theorem cI_25 {l : Launch} {E : ic_E} {w : ic_w} (hz : Zf 100 w) : ic_CI l E mX4_init 1 2 12 True [ic_pt E 99] ss_156 (hn w) ss_160 (ic_qv (fun h_ => h_ = hn (cw_25 w))) := by
  refine ic_introI (by decide +kernel) (Nat.le_of_ble_eq_true rfl) ?_
  show xx l E _ _ 0 [(0, ic_pt E 99)] _ _ _
  refine xx_aload_nP (pc := 0) dX4_init_0 0 rfl rfl ?_
  refine xx_objI (pc := 1) dX4_init_1 (show Cond.methodLink RX4 3 Lib.objectInit ∈ ic_W from ic_in 128 (by decide +kernel) rfl) oi_all ⟨Nat.le_of_ble_eq_true rfl, Nat.le_of_ble_eq_true rfl⟩ (Nat.le_of_ble_eq_true rfl) ?_
  refine xx_aload_nP (pc := 4) dX4_init_4 0 rfl rfl ?_
  refine xx_bipush (pc := 5) dX4_init_5 cc_bipush_6 ?_
  refine xx_newaI (n := 100) (N := 6) (sh2 := ss_157) (pc := 7) dX4_init_7 (ic_in 152 (by decide +kernel) rfl) trivial ls_156 rfl (by decide) (hz.h (by decide)) ⟨Nat.le_of_ble_eq_true rfl, Nat.le_of_ble_eq_true rfl⟩ ?_
  refine xx_putF (o := 99) (t := 100) (sh2 := ss_158) (pc := 9) dX4_init_9 (show ss_157[99]? = some (4, 0, [0, 0, 0, 0]) by decide +kernel) fX4_9_4 rfl rfl rfl rfl (by decide) (by decide) rfl ?_
  refine xx_aload_nP (pc := 12) dX4_init_12 0 rfl rfl ?_
  refine xx_bipush (pc := 13) dX4_init_13 cc_bipush_6 ?_
  refine xx_newaI (n := 101) (N := 6) (sh2 := ss_159) (pc := 15) dX4_init_15 (ic_in 152 (by decide +kernel) rfl) trivial ls_158 rfl (by decide) (hz.h (by decide)) ⟨Nat.le_of_ble_eq_true rfl, Nat.le_of_ble_eq_true rfl⟩ ?_
  refine xx_putF (o := 99) (t := 101) (sh2 := ss_160) (pc := 17) dX4_init_17 (show ss_159[99]? = some (4, 0, [0, 0, 101, 0]) by decide +kernel) fX4_15_4 rfl rfl rfl rfl (by decide) (by decide) rfl ?_
  exact xx_vretI (pc := 20) dX4_init_20 rfl (Nat.le_of_ble_eq_true rfl) (Nat.le_of_ble_eq_true rfl) (ic_rv0 (by first | rfl | (rw [rfl]; rfl)))
def ss_161 : List ic_S := ss_160.set 96 (102, 5, [100, 0, 0, 0, 0])
theorem ls_161 : ss_161.length = 102 := by unfold ss_161; rw [List.length_set, ls_160]
def ss_162 : List ic_S := ss_161 ++ [(4, 0, [0, 0, 0, 0])]
theorem ls_162 : ss_162.length = 103 := by unfold ss_162; rw [List.length_append, ls_161]; rfl
def ss_163 : List ic_S := ss_162 ++ [(100, 6, [])]
theorem ls_163 : ss_163.length = 104 := by unfold ss_163; rw [List.length_append, ls_162]; rfl
def ss_164 : List ic_S := ss_163.set 102 (4, 0, [0, 0, 104, 0])
theorem ls_164 : ss_164.length = 104 := by unfold ss_164; rw [List.length_set, ls_163]
def ss_165 : List ic_S := ss_164 ++ [(100, 6, [])]
theorem ls_165 : ss_165.length = 105 := by unfold ss_165; rw [List.length_append, ls_164]; rfl
def ss_166 : List ic_S := ss_165.set 102 (4, 0, [0, 0, 104, 105])
theorem ls_166 : ss_166.length = 105 := by unfold ss_166; rw [List.length_set, ls_165]
def cw_26 (w : ic_w) : ic_w := w
theorem cz_26 {w : ic_w} (hz : Zf 103 w) : Zf 105 (cw_26 w) := by
  unfold cw_26
  exact Zf.le (n := 103) (m := 105) (hz) (by decide)
set_option maxHeartbeats 4000000 in
set_option maxRecDepth 100000 in
theorem cI_26 {l : Launch} {E : ic_E} {w : ic_w} (hz : Zf 103 w) : ic_CI l E mX4_init 1 2 12 True [ic_pt E 102] ss_162 (hn w) ss_166 (ic_qv (fun h_ => h_ = hn (cw_26 w))) := by
  refine ic_introI (by decide +kernel) (Nat.le_of_ble_eq_true rfl) ?_
  show xx l E _ _ 0 [(0, ic_pt E 102)] _ _ _
  refine xx_aload_nP (pc := 0) dX4_init_0 0 rfl rfl ?_
  refine xx_objI (pc := 1) dX4_init_1 (show Cond.methodLink RX4 3 Lib.objectInit ∈ ic_W from ic_in 128 (by decide +kernel) rfl) oi_all ⟨Nat.le_of_ble_eq_true rfl, Nat.le_of_ble_eq_true rfl⟩ (Nat.le_of_ble_eq_true rfl) ?_
  refine xx_aload_nP (pc := 4) dX4_init_4 0 rfl rfl ?_
  refine xx_bipush (pc := 5) dX4_init_5 cc_bipush_6 ?_
  refine xx_newaI (n := 103) (N := 6) (sh2 := ss_163) (pc := 7) dX4_init_7 (ic_in 152 (by decide +kernel) rfl) trivial ls_162 rfl (by decide) (hz.h (by decide)) ⟨Nat.le_of_ble_eq_true rfl, Nat.le_of_ble_eq_true rfl⟩ ?_
  refine xx_putF (o := 102) (t := 103) (sh2 := ss_164) (pc := 9) dX4_init_9 (show ss_163[102]? = some (4, 0, [0, 0, 0, 0]) by decide +kernel) fX4_9_4 rfl rfl rfl rfl (by decide) (by decide) rfl ?_
  refine xx_aload_nP (pc := 12) dX4_init_12 0 rfl rfl ?_
  refine xx_bipush (pc := 13) dX4_init_13 cc_bipush_6 ?_
  refine xx_newaI (n := 104) (N := 6) (sh2 := ss_165) (pc := 15) dX4_init_15 (ic_in 152 (by decide +kernel) rfl) trivial ls_164 rfl (by decide) (hz.h (by decide)) ⟨Nat.le_of_ble_eq_true rfl, Nat.le_of_ble_eq_true rfl⟩ ?_
  refine xx_putF (o := 102) (t := 104) (sh2 := ss_166) (pc := 17) dX4_init_17 (show ss_165[102]? = some (4, 0, [0, 0, 104, 0]) by decide +kernel) fX4_15_4 rfl rfl rfl rfl (by decide) (by decide) rfl ?_
  exact xx_vretI (pc := 20) dX4_init_20 rfl (Nat.le_of_ble_eq_true rfl) (Nat.le_of_ble_eq_true rfl) (ic_rv0 (by first | rfl | (rw [rfl]; rfl)))
def ss_167 : List ic_S := ss_166.set 96 (102, 5, [100, 103, 0, 0, 0])
theorem ls_167 : ss_167.length = 105 := by unfold ss_167; rw [List.length_set, ls_166]
def ss_168 : List ic_S := ss_167 ++ [(4, 0, [0, 0, 0, 0])]
theorem ls_168 : ss_168.length = 106 := by unfold ss_168; rw [List.length_append, ls_167]; rfl
def ss_169 : List ic_S := ss_168 ++ [(100, 6, [])]
theorem ls_169 : ss_169.length = 107 := by unfold ss_169; rw [List.length_append, ls_168]; rfl
def ss_170 : List ic_S := ss_169.set 105 (4, 0, [0, 0, 107, 0])
theorem ls_170 : ss_170.length = 107 := by unfold ss_170; rw [List.length_set, ls_169]
def ss_171 : List ic_S := ss_170 ++ [(100, 6, [])]
theorem ls_171 : ss_171.length = 108 := by unfold ss_171; rw [List.length_append, ls_170]; rfl
def ss_172 : List ic_S := ss_171.set 105 (4, 0, [0, 0, 107, 108])
theorem ls_172 : ss_172.length = 108 := by unfold ss_172; rw [List.length_set, ls_171]
def cw_27 (w : ic_w) : ic_w := w
theorem cz_27 {w : ic_w} (hz : Zf 106 w) : Zf 108 (cw_27 w) := by
  unfold cw_27
  exact Zf.le (n := 106) (m := 108) (hz) (by decide)
set_option maxHeartbeats 4000000 in
set_option maxRecDepth 100000 in
theorem cI_27 {l : Launch} {E : ic_E} {w : ic_w} (hz : Zf 106 w) : ic_CI l E mX4_init 1 2 12 True [ic_pt E 105] ss_168 (hn w) ss_172 (ic_qv (fun h_ => h_ = hn (cw_27 w))) := by
  refine ic_introI (by decide +kernel) (Nat.le_of_ble_eq_true rfl) ?_
  show xx l E _ _ 0 [(0, ic_pt E 105)] _ _ _
  refine xx_aload_nP (pc := 0) dX4_init_0 0 rfl rfl ?_
  refine xx_objI (pc := 1) dX4_init_1 (show Cond.methodLink RX4 3 Lib.objectInit ∈ ic_W from ic_in 128 (by decide +kernel) rfl) oi_all ⟨Nat.le_of_ble_eq_true rfl, Nat.le_of_ble_eq_true rfl⟩ (Nat.le_of_ble_eq_true rfl) ?_
  refine xx_aload_nP (pc := 4) dX4_init_4 0 rfl rfl ?_
  refine xx_bipush (pc := 5) dX4_init_5 cc_bipush_6 ?_
  refine xx_newaI (n := 106) (N := 6) (sh2 := ss_169) (pc := 7) dX4_init_7 (ic_in 152 (by decide +kernel) rfl) trivial ls_168 rfl (by decide) (hz.h (by decide)) ⟨Nat.le_of_ble_eq_true rfl, Nat.le_of_ble_eq_true rfl⟩ ?_
  refine xx_putF (o := 105) (t := 106) (sh2 := ss_170) (pc := 9) dX4_init_9 (show ss_169[105]? = some (4, 0, [0, 0, 0, 0]) by decide +kernel) fX4_9_4 rfl rfl rfl rfl (by decide) (by decide) rfl ?_
  refine xx_aload_nP (pc := 12) dX4_init_12 0 rfl rfl ?_
  refine xx_bipush (pc := 13) dX4_init_13 cc_bipush_6 ?_
  refine xx_newaI (n := 107) (N := 6) (sh2 := ss_171) (pc := 15) dX4_init_15 (ic_in 152 (by decide +kernel) rfl) trivial ls_170 rfl (by decide) (hz.h (by decide)) ⟨Nat.le_of_ble_eq_true rfl, Nat.le_of_ble_eq_true rfl⟩ ?_
  refine xx_putF (o := 105) (t := 107) (sh2 := ss_172) (pc := 17) dX4_init_17 (show ss_171[105]? = some (4, 0, [0, 0, 107, 0]) by decide +kernel) fX4_15_4 rfl rfl rfl rfl (by decide) (by decide) rfl ?_
  exact xx_vretI (pc := 20) dX4_init_20 rfl (Nat.le_of_ble_eq_true rfl) (Nat.le_of_ble_eq_true rfl) (ic_rv0 (by first | rfl | (rw [rfl]; rfl)))
def ss_173 : List ic_S := ss_172.set 96 (102, 5, [100, 103, 106, 0, 0])
theorem ls_173 : ss_173.length = 108 := by unfold ss_173; rw [List.length_set, ls_172]
def ss_174 : List ic_S := ss_173 ++ [(4, 0, [0, 0, 0, 0])]
theorem ls_174 : ss_174.length = 109 := by unfold ss_174; rw [List.length_append, ls_173]; rfl
def ss_175 : List ic_S := ss_174 ++ [(100, 6, [])]
theorem ls_175 : ss_175.length = 110 := by unfold ss_175; rw [List.length_append, ls_174]; rfl
def ss_176 : List ic_S := ss_175.set 108 (4, 0, [0, 0, 110, 0])
theorem ls_176 : ss_176.length = 110 := by unfold ss_176; rw [List.length_set, ls_175]
def ss_177 : List ic_S := ss_176 ++ [(100, 6, [])]
theorem ls_177 : ss_177.length = 111 := by unfold ss_177; rw [List.length_append, ls_176]; rfl
def ss_178 : List ic_S := ss_177.set 108 (4, 0, [0, 0, 110, 111])
theorem ls_178 : ss_178.length = 111 := by unfold ss_178; rw [List.length_set, ls_177]
def cw_28 (w : ic_w) : ic_w := w
theorem cz_28 {w : ic_w} (hz : Zf 109 w) : Zf 111 (cw_28 w) := by
  unfold cw_28
  exact Zf.le (n := 109) (m := 111) (hz) (by decide)
set_option maxHeartbeats 4000000 in
set_option maxRecDepth 100000 in
theorem cI_28 {l : Launch} {E : ic_E} {w : ic_w} (hz : Zf 109 w) : ic_CI l E mX4_init 1 2 12 True [ic_pt E 108] ss_174 (hn w) ss_178 (ic_qv (fun h_ => h_ = hn (cw_28 w))) := by
  refine ic_introI (by decide +kernel) (Nat.le_of_ble_eq_true rfl) ?_
  show xx l E _ _ 0 [(0, ic_pt E 108)] _ _ _
  refine xx_aload_nP (pc := 0) dX4_init_0 0 rfl rfl ?_
  refine xx_objI (pc := 1) dX4_init_1 (show Cond.methodLink RX4 3 Lib.objectInit ∈ ic_W from ic_in 128 (by decide +kernel) rfl) oi_all ⟨Nat.le_of_ble_eq_true rfl, Nat.le_of_ble_eq_true rfl⟩ (Nat.le_of_ble_eq_true rfl) ?_
  refine xx_aload_nP (pc := 4) dX4_init_4 0 rfl rfl ?_
  refine xx_bipush (pc := 5) dX4_init_5 cc_bipush_6 ?_
  refine xx_newaI (n := 109) (N := 6) (sh2 := ss_175) (pc := 7) dX4_init_7 (ic_in 152 (by decide +kernel) rfl) trivial ls_174 rfl (by decide) (hz.h (by decide)) ⟨Nat.le_of_ble_eq_true rfl, Nat.le_of_ble_eq_true rfl⟩ ?_
  refine xx_putF (o := 108) (t := 109) (sh2 := ss_176) (pc := 9) dX4_init_9 (show ss_175[108]? = some (4, 0, [0, 0, 0, 0]) by decide +kernel) fX4_9_4 rfl rfl rfl rfl (by decide) (by decide) rfl ?_
  refine xx_aload_nP (pc := 12) dX4_init_12 0 rfl rfl ?_
  refine xx_bipush (pc := 13) dX4_init_13 cc_bipush_6 ?_
  refine xx_newaI (n := 110) (N := 6) (sh2 := ss_177) (pc := 15) dX4_init_15 (ic_in 152 (by decide +kernel) rfl) trivial ls_176 rfl (by decide) (hz.h (by decide)) ⟨Nat.le_of_ble_eq_true rfl, Nat.le_of_ble_eq_true rfl⟩ ?_
  refine xx_putF (o := 108) (t := 110) (sh2 := ss_178) (pc := 17) dX4_init_17 (show ss_177[108]? = some (4, 0, [0, 0, 110, 0]) by decide +kernel) fX4_15_4 rfl rfl rfl rfl (by decide) (by decide) rfl ?_
  exact xx_vretI (pc := 20) dX4_init_20 rfl (Nat.le_of_ble_eq_true rfl) (Nat.le_of_ble_eq_true rfl) (ic_rv0 (by first | rfl | (rw [rfl]; rfl)))
def ss_179 : List ic_S := ss_178.set 96 (102, 5, [100, 103, 106, 109, 0])
theorem ls_179 : ss_179.length = 111 := by unfold ss_179; rw [List.length_set, ls_178]
def ss_180 : List ic_S := ss_179 ++ [(4, 0, [0, 0, 0, 0])]
theorem ls_180 : ss_180.length = 112 := by unfold ss_180; rw [List.length_append, ls_179]; rfl
def ss_181 : List ic_S := ss_180 ++ [(100, 6, [])]
theorem ls_181 : ss_181.length = 113 := by unfold ss_181; rw [List.length_append, ls_180]; rfl
def ss_182 : List ic_S := ss_181.set 111 (4, 0, [0, 0, 113, 0])
theorem ls_182 : ss_182.length = 113 := by unfold ss_182; rw [List.length_set, ls_181]
def ss_183 : List ic_S := ss_182 ++ [(100, 6, [])]
theorem ls_183 : ss_183.length = 114 := by unfold ss_183; rw [List.length_append, ls_182]; rfl
def ss_184 : List ic_S := ss_183.set 111 (4, 0, [0, 0, 113, 114])
theorem ls_184 : ss_184.length = 114 := by unfold ss_184; rw [List.length_set, ls_183]
def cw_29 (w : ic_w) : ic_w := w
theorem cz_29 {w : ic_w} (hz : Zf 112 w) : Zf 114 (cw_29 w) := by
  unfold cw_29
  exact Zf.le (n := 112) (m := 114) (hz) (by decide)
set_option maxHeartbeats 4000000 in
set_option maxRecDepth 100000 in
theorem cI_29 {l : Launch} {E : ic_E} {w : ic_w} (hz : Zf 112 w) : ic_CI l E mX4_init 1 2 12 True [ic_pt E 111] ss_180 (hn w) ss_184 (ic_qv (fun h_ => h_ = hn (cw_29 w))) := by
  refine ic_introI (by decide +kernel) (Nat.le_of_ble_eq_true rfl) ?_
  show xx l E _ _ 0 [(0, ic_pt E 111)] _ _ _
  refine xx_aload_nP (pc := 0) dX4_init_0 0 rfl rfl ?_
  refine xx_objI (pc := 1) dX4_init_1 (show Cond.methodLink RX4 3 Lib.objectInit ∈ ic_W from ic_in 128 (by decide +kernel) rfl) oi_all ⟨Nat.le_of_ble_eq_true rfl, Nat.le_of_ble_eq_true rfl⟩ (Nat.le_of_ble_eq_true rfl) ?_
  refine xx_aload_nP (pc := 4) dX4_init_4 0 rfl rfl ?_
  refine xx_bipush (pc := 5) dX4_init_5 cc_bipush_6 ?_
  refine xx_newaI (n := 112) (N := 6) (sh2 := ss_181) (pc := 7) dX4_init_7 (ic_in 152 (by decide +kernel) rfl) trivial ls_180 rfl (by decide) (hz.h (by decide)) ⟨Nat.le_of_ble_eq_true rfl, Nat.le_of_ble_eq_true rfl⟩ ?_
  refine xx_putF (o := 111) (t := 112) (sh2 := ss_182) (pc := 9) dX4_init_9 (show ss_181[111]? = some (4, 0, [0, 0, 0, 0]) by decide +kernel) fX4_9_4 rfl rfl rfl rfl (by decide) (by decide) rfl ?_
  refine xx_aload_nP (pc := 12) dX4_init_12 0 rfl rfl ?_
  refine xx_bipush (pc := 13) dX4_init_13 cc_bipush_6 ?_
  refine xx_newaI (n := 113) (N := 6) (sh2 := ss_183) (pc := 15) dX4_init_15 (ic_in 152 (by decide +kernel) rfl) trivial ls_182 rfl (by decide) (hz.h (by decide)) ⟨Nat.le_of_ble_eq_true rfl, Nat.le_of_ble_eq_true rfl⟩ ?_
  refine xx_putF (o := 111) (t := 113) (sh2 := ss_184) (pc := 17) dX4_init_17 (show ss_183[111]? = some (4, 0, [0, 0, 113, 0]) by decide +kernel) fX4_15_4 rfl rfl rfl rfl (by decide) (by decide) rfl ?_
  exact xx_vretI (pc := 20) dX4_init_20 rfl (Nat.le_of_ble_eq_true rfl) (Nat.le_of_ble_eq_true rfl) (ic_rv0 (by first | rfl | (rw [rfl]; rfl)))
def ss_185 : List ic_S := ss_184.set 96 (102, 5, [100, 103, 106, 109, 112])
theorem ls_185 : ss_185.length = 114 := by unfold ss_185; rw [List.length_set, ls_184]
def cw_24 (w : ic_w) : ic_w := (cw_29 (cw_28 (cw_27 (cw_26 (cw_25 w)))))
theorem cz_24 {w : ic_w} (hz : Zf 96 w) : Zf 114 (cw_24 w) := by
  unfold cw_24
  exact Zf.le (n := 114) (m := 114) ((cz_29 (Zf.le (n := 111) (m := 112) ((cz_28 (Zf.le (n := 108) (m := 109) ((cz_27 (Zf.le (n := 105) (m := 106) ((cz_26 (Zf.le (n := 102) (m := 103) ((cz_25 (Zf.le (n := 96) (m := 100) (hz) (by decide)))) (by decide)))) (by decide)))) (by decide)))) (by decide)))) (by decide)
set_option maxHeartbeats 4000000 in
set_option maxRecDepth 100000 in
theorem cI_24 {l : Launch} {E : ic_E} {w : ic_w} (hz : Zf 96 w) : ic_CI l E mX6_init 2 18 93 True [ic_pt E 95, ic_pt E 39] ss_148 (hn w) ss_185 (ic_qv (fun h_ => h_ = hn (cw_24 w))) := by
  refine ic_introI (by decide +kernel) (Nat.le_of_ble_eq_true rfl) ?_
  show xx l E _ _ 0 [(0, ic_pt E 95), (1, ic_pt E 39)] _ _ _
  refine xx_aload_nP (pc := 0) dX6_init_0 0 rfl rfl ?_
  refine xx_objI (pc := 1) dX6_init_1 (show Cond.methodLink RX6 3 Lib.objectInit ∈ ic_W from ic_in 414 (by decide +kernel) rfl) oi_all ⟨Nat.le_of_ble_eq_true rfl, Nat.le_of_ble_eq_true rfl⟩ (Nat.le_of_ble_eq_true rfl) ?_
  refine xx_aload_nP (pc := 4) dX6_init_4 0 rfl rfl ?_
  refine xx_iconst (pc := 5) dX6_init_5 cc_iconst_5 ?_
  refine xx_newqM (n := 96) (N := 5) (rs := [0, 0, 0, 0, 0]) (sh2 := ss_149) (fun _ h => h) (pc := 6) dX6_init_6 (show Cond.classLink RX6 9 "InnerCircle$Moment" ∈ ic_W from ic_in 415 (by decide +kernel) rfl) trivial ls_148 rfl (by decide) (fun k => by rcases k with _ | _ | _ | _ | _ | k <;> rfl) ⟨Nat.le_of_ble_eq_true rfl, Nat.le_of_ble_eq_true rfl⟩ ?_
  refine xx_putF (o := 95) (t := 96) (sh2 := ss_150) (pc := 9) dX6_init_9 (show ss_149[95]? = some (6, 0, [0, 0, 0, 0, 0, 0, 0, 0, 0, 0, 0]) by decide +kernel) fX6_11_6 rfl rfl rfl rfl (by decide) (by decide) rfl ?_
  refine xx_aload_nP (pc := 12) dX6_init_12 0 rfl rfl ?_
  refine xx_iconst (pc := 13) dX6_init_13 cc_iconst_4 ?_
  refine xx_newaI (n := 97) (N := 4) (sh2 := ss_151) (pc := 14) dX6_init_14 (ic_in 152 (by decide +kernel) rfl) trivial ls_150 rfl (by decide) (hz.h (by decide)) ⟨Nat.le_of_ble_eq_true rfl, Nat.le_of_ble_eq_true rfl⟩ ?_
  refine xx_putF (o := 95) (t := 97) (sh2 := ss_152) (pc := 16) dX6_init_16 (show ss_151[95]? = some (6, 0, [0, 97, 0, 0, 0, 0, 0, 0, 0, 0, 0]) by decide +kernel) fX6_17_6 rfl rfl rfl rfl (by decide) (by decide) rfl ?_
  refine xx_aload_nP (pc := 19) dX6_init_19 0 rfl rfl ?_
  refine xx_iconst (pc := 20) dX6_init_20 cc_iconst_4 ?_
  refine xx_newaI (n := 98) (N := 4) (sh2 := ss_153) (pc := 21) dX6_init_21 (ic_in 152 (by decide +kernel) rfl) trivial ls_152 rfl (by decide) (hz.h (by decide)) ⟨Nat.le_of_ble_eq_true rfl, Nat.le_of_ble_eq_true rfl⟩ ?_
  refine xx_putF (o := 95) (t := 98) (sh2 := ss_154) (pc := 23) dX6_init_23 (show ss_153[95]? = some (6, 0, [0, 97, 98, 0, 0, 0, 0, 0, 0, 0, 0]) by decide +kernel) fX6_21_6 rfl rfl rfl rfl (by decide) (by decide) rfl ?_
  refine xx_aload_nP (pc := 26) dX6_init_26 0 rfl rfl ?_
  refine xx_aload_nP (pc := 27) dX6_init_27 1 rfl rfl ?_
  refine xx_putF (o := 95) (t := 39) (sh2 := ss_155) (pc := 28) dX6_init_28 (show ss_154[95]? = some (6, 0, [0, 97, 98, 99, 0, 0, 0, 0, 0, 0, 0]) by decide +kernel) fX6_24_6 rfl rfl rfl rfl (by decide) (by decide) rfl ?_
  refine xx_iconst (pc := 31) dX6_init_31 cc_iconst_0 ?_
  refine xx_istore_n (L' := [(2, .int (nI 0)), (0, ic_pt E 95), (1, ic_pt E 39)]) (pc := 32) dX6_init_32 rfl (Nat.le_of_ble_eq_true rfl) rfl ?_
  refine xx_iload_n (pc := 33) dX6_init_33 0 rfl rfl ?_
  refine xx_iconst (pc := 34) dX6_init_34 cc_iconst_4 ?_
  refine xx_icmp_gtN (pc := 35) 57 dX6_init_35 rfl (by omega) (by omega) (fun c_ => by exfalso; omega) (fun _ => ?_)
  refine xx_aload_nP (pc := 38) dX6_init_38 1 rfl rfl ?_
  refine xx_getR (pc := 39) 96 dX6_init_39 (show ss_155[95]? = some (6, 0, [40, 97, 98, 99, 0, 0, 0, 0, 0, 0, 0]) by decide +kernel) fX6_11_6 rfl rfl (by decide) ?_
  refine xx_iload_n (pc := 42) dX6_init_42 0 rfl rfl ?_
  refine xx_new (c := 4) (n := 99) (rs := [0, 0, 0, 0]) (sh2 := ss_156) (pc := 43) dX6_init_43 (by decide) ⟨show Cond.classLink RX6 9 (ic_R 4) ∈ ic_W from ic_in 415 (by decide +kernel) rfl, show Cond.instantiable (ic_R 4) (ic_N 4) ∈ ic_W from ic_in 124 (by decide +kernel) rfl, show Cond.initialized (ic_R 4) ∈ ic_W from ic_in 96 (by decide +kernel) rfl⟩ trivial ls_155 rfl (by decide) (fun k => congrFun (hz.h (by decide)) k) ⟨Nat.le_of_ble_eq_true rfl, Nat.le_of_ble_eq_true rfl⟩ ?_
  refine xx_dup (pc := 46) dX6_init_46 rfl ?_
  refine xx_callIJ (pc := 47) (o := 99) (As := []) (st := [ic_pt E 99, .int (nI 0), ic_pt E 96]) (fun _ h => h) (cI_25 (w := w) (hz.le (by decide))) kX4_init rfl nX6_28 ⟨rfl, ic_in 126 (by decide +kernel) rfl⟩ dX6_init_47 rfl rfl (Nat.le_of_ble_eq_true rfl) ⟨Nat.le_of_ble_eq_true rfl, Nat.le_of_ble_eq_true rfl⟩ ⟨Nat.le_of_ble_eq_true rfl, Nat.le_of_ble_eq_true rfl⟩ (ic_kv (fun h_ q_ => ?_))
  subst q_
  refine xx_nw (fun w1 ew1 => ?_)
  have hz_w1 : Zf 102 w1 := by rw [ew1]; exact cz_25 (hz.le (by decide))
  refine xx_aastM (sh2 := ss_161) (pc := 50) dX6_init_50 (show ss_160[96]? = some (102, 5, [0, 0, 0, 0, 0]) by decide +kernel) (show ss_160[99]? = some (4, 0, [0, 0, 101, 102]) by decide +kernel) (by decide) (by decide) (by decide) rfl ?_
  refine xx_iincN (L' := [(2, .int (nI 1)), (0, ic_pt E 95), (1, ic_pt E 39)]) (pc := 51) dX6_init_51 0 rfl cc_iconst_1 (Nat.le_of_ble_eq_true rfl) rfl ?_
  refine xx_goto (pc := 54) 33 dX6_init_54 rfl ?_
  refine xx_iload_n (pc := 33) dX6_init_33 0 rfl rfl ?_
  refine xx_iconst (pc := 34) dX6_init_34 cc_iconst_4 ?_
  refine xx_icmp_gtN (pc := 35) 57 dX6_init_35 rfl (by omega) (by omega) (fun c_ => by exfalso; omega) (fun _ => ?_)
  refine xx_aload_nP (pc := 38) dX6_init_38 1 rfl rfl ?_
  refine xx_getR (pc := 39) 96 dX6_init_39 (show ss_161[95]? = some (6, 0, [40, 97, 98, 99, 0, 0, 0, 0, 0, 0, 0]) by decide +kernel) fX6_11_6 rfl rfl (by decide) ?_
  refine xx_iload_n (pc := 42) dX6_init_42 0 rfl rfl ?_
  refine xx_new (c := 4) (n := 102) (rs := [0, 0, 0, 0]) (sh2 := ss_162) (pc := 43) dX6_init_43 (by decide) ⟨show Cond.classLink RX6 9 (ic_R 4) ∈ ic_W from ic_in 415 (by decide +kernel) rfl, show Cond.instantiable (ic_R 4) (ic_N 4) ∈ ic_W from ic_in 124 (by decide +kernel) rfl, show Cond.initialized (ic_R 4) ∈ ic_W from ic_in 96 (by decide +kernel) rfl⟩ trivial ls_161 rfl (by decide) (fun k => congrFun (hz_w1.h (by decide)) k) ⟨Nat.le_of_ble_eq_true rfl, Nat.le_of_ble_eq_true rfl⟩ ?_
  refine xx_dup (pc := 46) dX6_init_46 rfl ?_
  refine xx_callIJ (pc := 47) (o := 102) (As := []) (st := [ic_pt E 102, .int (nI 1), ic_pt E 96]) (fun _ h => h) (cI_26 (w := w1) (hz_w1.le (by decide))) kX4_init rfl nX6_28 ⟨rfl, ic_in 126 (by decide +kernel) rfl⟩ dX6_init_47 rfl rfl (Nat.le_of_ble_eq_true rfl) ⟨Nat.le_of_ble_eq_true rfl, Nat.le_of_ble_eq_true rfl⟩ ⟨Nat.le_of_ble_eq_true rfl, Nat.le_of_ble_eq_true rfl⟩ (ic_kv (fun h_ q_ => ?_))
  subst q_
  refine xx_nw (fun w2 ew2 => ?_)
  have hz_w2 : Zf 105 w2 := by rw [ew2]; exact cz_26 (hz_w1.le (by decide))
  refine xx_aastM (sh2 := ss_167) (pc := 50) dX6_init_50 (show ss_166[96]? = some (102, 5, [100, 0, 0, 0, 0]) by decide +kernel) (show ss_166[102]? = some (4, 0, [0, 0, 104, 105]) by decide +kernel) (by decide) (by decide) (by decide) rfl ?_
  refine xx_iincN (L' := [(2, .int (nI 2)), (0, ic_pt E 95), (1, ic_pt E 39)]) (pc := 51) dX6_init_51 0 rfl cc_iconst_1 (Nat.le_of_ble_eq_true rfl) rfl ?_
  refine xx_goto (pc := 54) 33 dX6_init_54 rfl ?_
  refine xx_iload_n (pc := 33) dX6_init_33 0 rfl rfl ?_
  refine xx_iconst (pc := 34) dX6_init_34 cc_iconst_4 ?_
  refine xx_icmp_gtN (pc := 35) 57 dX6_init_35 rfl (by omega) (by omega) (fun c_ => by exfalso; omega) (fun _ => ?_)
  refine xx_aload_nP (pc := 38) dX6_init_38 1 rfl rfl ?_
  refine xx_getR (pc := 39) 96 dX6_init_39 (show ss_167[95]? = some (6, 0, [40, 97, 98, 99, 0, 0, 0, 0, 0, 0, 0]) by decide +kernel) fX6_11_6 rfl rfl (by decide) ?_
  refine xx_iload_n (pc := 42) dX6_init_42 0 rfl rfl ?_
  refine xx_new (c := 4) (n := 105) (rs := [0, 0, 0, 0]) (sh2 := ss_168) (pc := 43) dX6_init_43 (by decide) ⟨show Cond.classLink RX6 9 (ic_R 4) ∈ ic_W from ic_in 415 (by decide +kernel) rfl, show Cond.instantiable (ic_R 4) (ic_N 4) ∈ ic_W from ic_in 124 (by decide +kernel) rfl, show Cond.initialized (ic_R 4) ∈ ic_W from ic_in 96 (by decide +kernel) rfl⟩ trivial ls_167 rfl (by decide) (fun k => congrFun (hz_w2.h (by decide)) k) ⟨Nat.le_of_ble_eq_true rfl, Nat.le_of_ble_eq_true rfl⟩ ?_
  refine xx_dup (pc := 46) dX6_init_46 rfl ?_
  refine xx_callIJ (pc := 47) (o := 105) (As := []) (st := [ic_pt E 105, .int (nI 2), ic_pt E 96]) (fun _ h => h) (cI_27 (w := w2) (hz_w2.le (by decide))) kX4_init rfl nX6_28 ⟨rfl, ic_in 126 (by decide +kernel) rfl⟩ dX6_init_47 rfl rfl (Nat.le_of_ble_eq_true rfl) ⟨Nat.le_of_ble_eq_true rfl, Nat.le_of_ble_eq_true rfl⟩ ⟨Nat.le_of_ble_eq_true rfl, Nat.le_of_ble_eq_true rfl⟩ (ic_kv (fun h_ q_ => ?_))
  subst q_
  refine xx_nw (fun w3 ew3 => ?_)
  have hz_w3 : Zf 108 w3 := by rw [ew3]; exact cz_27 (hz_w2.le (by decide))
  refine xx_aastM (sh2 := ss_173) (pc := 50) dX6_init_50 (show ss_172[96]? = some (102, 5, [100, 103, 0, 0, 0]) by decide +kernel) (show ss_172[105]? = some (4, 0, [0, 0, 107, 108]) by decide +kernel) (by decide) (by decide) (by decide) rfl ?_
  refine xx_iincN (L' := [(2, .int (nI 3)), (0, ic_pt E 95), (1, ic_pt E 39)]) (pc := 51) dX6_init_51 0 rfl cc_iconst_1 (Nat.le_of_ble_eq_true rfl) rfl ?_
  refine xx_goto (pc := 54) 33 dX6_init_54 rfl ?_
  refine xx_iload_n (pc := 33) dX6_init_33 0 rfl rfl ?_
  refine xx_iconst (pc := 34) dX6_init_34 cc_iconst_4 ?_
  refine xx_icmp_gtN (pc := 35) 57 dX6_init_35 rfl (by omega) (by omega) (fun c_ => by exfalso; omega) (fun _ => ?_)
  refine xx_aload_nP (pc := 38) dX6_init_38 1 rfl rfl ?_
  refine xx_getR (pc := 39) 96 dX6_init_39 (show ss_173[95]? = some (6, 0, [40, 97, 98, 99, 0, 0, 0, 0, 0, 0, 0]) by decide +kernel) fX6_11_6 rfl rfl (by decide) ?_
  refine xx_iload_n (pc := 42) dX6_init_42 0 rfl rfl ?_
  refine xx_new (c := 4) (n := 108) (rs := [0, 0, 0, 0]) (sh2 := ss_174) (pc := 43) dX6_init_43 (by decide) ⟨show Cond.classLink RX6 9 (ic_R 4) ∈ ic_W from ic_in 415 (by decide +kernel) rfl, show Cond.instantiable (ic_R 4) (ic_N 4) ∈ ic_W from ic_in 124 (by decide +kernel) rfl, show Cond.initialized (ic_R 4) ∈ ic_W from ic_in 96 (by decide +kernel) rfl⟩ trivial ls_173 rfl (by decide) (fun k => congrFun (hz_w3.h (by decide)) k) ⟨Nat.le_of_ble_eq_true rfl, Nat.le_of_ble_eq_true rfl⟩ ?_
  refine xx_dup (pc := 46) dX6_init_46 rfl ?_
  refine xx_callIJ (pc := 47) (o := 108) (As := []) (st := [ic_pt E 108, .int (nI 3), ic_pt E 96]) (fun _ h => h) (cI_28 (w := w3) (hz_w3.le (by decide))) kX4_init rfl nX6_28 ⟨rfl, ic_in 126 (by decide +kernel) rfl⟩ dX6_init_47 rfl rfl (Nat.le_of_ble_eq_true rfl) ⟨Nat.le_of_ble_eq_true rfl, Nat.le_of_ble_eq_true rfl⟩ ⟨Nat.le_of_ble_eq_true rfl, Nat.le_of_ble_eq_true rfl⟩ (ic_kv (fun h_ q_ => ?_))
  subst q_
  refine xx_nw (fun w4 ew4 => ?_)
  have hz_w4 : Zf 111 w4 := by rw [ew4]; exact cz_28 (hz_w3.le (by decide))
  refine xx_aastM (sh2 := ss_179) (pc := 50) dX6_init_50 (show ss_178[96]? = some (102, 5, [100, 103, 106, 0, 0]) by decide +kernel) (show ss_178[108]? = some (4, 0, [0, 0, 110, 111]) by decide +kernel) (by decide) (by decide) (by decide) rfl ?_
  refine xx_iincN (L' := [(2, .int (nI 4)), (0, ic_pt E 95), (1, ic_pt E 39)]) (pc := 51) dX6_init_51 0 rfl cc_iconst_1 (Nat.le_of_ble_eq_true rfl) rfl ?_
  refine xx_goto (pc := 54) 33 dX6_init_54 rfl ?_
  refine xx_iload_n (pc := 33) dX6_init_33 0 rfl rfl ?_
  refine xx_iconst (pc := 34) dX6_init_34 cc_iconst_4 ?_
  refine xx_icmp_gtN (pc := 35) 57 dX6_init_35 rfl (by omega) (by omega) (fun c_ => by exfalso; omega) (fun _ => ?_)
  refine xx_aload_nP (pc := 38) dX6_init_38 1 rfl rfl ?_
  refine xx_getR (pc := 39) 96 dX6_init_39 (show ss_179[95]? = some (6, 0, [40, 97, 98, 99, 0, 0, 0, 0, 0, 0, 0]) by decide +kernel) fX6_11_6 rfl rfl (by decide) ?_
  refine xx_iload_n (pc := 42) dX6_init_42 0 rfl rfl ?_
  refine xx_new (c := 4) (n := 111) (rs := [0, 0, 0, 0]) (sh2 := ss_180) (pc := 43) dX6_init_43 (by decide) ⟨show Cond.classLink RX6 9 (ic_R 4) ∈ ic_W from ic_in 415 (by decide +kernel) rfl, show Cond.instantiable (ic_R 4) (ic_N 4) ∈ ic_W from ic_in 124 (by decide +kernel) rfl, show Cond.initialized (ic_R 4) ∈ ic_W from ic_in 96 (by decide +kernel) rfl⟩ trivial ls_179 rfl (by decide) (fun k => congrFun (hz_w4.h (by decide)) k) ⟨Nat.le_of_ble_eq_true rfl, Nat.le_of_ble_eq_true rfl⟩ ?_
  refine xx_dup (pc := 46) dX6_init_46 rfl ?_
  refine xx_callIJ (pc := 47) (o := 111) (As := []) (st := [ic_pt E 111, .int (nI 4), ic_pt E 96]) (fun _ h => h) (cI_29 (w := w4) (hz_w4.le (by decide))) kX4_init rfl nX6_28 ⟨rfl, ic_in 126 (by decide +kernel) rfl⟩ dX6_init_47 rfl rfl (Nat.le_of_ble_eq_true rfl) ⟨Nat.le_of_ble_eq_true rfl, Nat.le_of_ble_eq_true rfl⟩ ⟨Nat.le_of_ble_eq_true rfl, Nat.le_of_ble_eq_true rfl⟩ (ic_kv (fun h_ q_ => ?_))
  subst q_
  refine xx_nw (fun w5 ew5 => ?_)
  have hz_w5 : Zf 114 w5 := by rw [ew5]; exact cz_29 (hz_w4.le (by decide))
  refine xx_aastM (sh2 := ss_185) (pc := 50) dX6_init_50 (show ss_184[96]? = some (102, 5, [100, 103, 106, 109, 0]) by decide +kernel) (show ss_184[111]? = some (4, 0, [0, 0, 113, 114]) by decide +kernel) (by decide) (by decide) (by decide) rfl ?_
  refine xx_iincN (L' := [(2, .int (nI 5)), (0, ic_pt E 95), (1, ic_pt E 39)]) (pc := 51) dX6_init_51 0 rfl cc_iconst_1 (Nat.le_of_ble_eq_true rfl) rfl ?_
  refine xx_goto (pc := 54) 33 dX6_init_54 rfl ?_
  refine xx_iload_n (pc := 33) dX6_init_33 0 rfl rfl ?_
  refine xx_iconst (pc := 34) dX6_init_34 cc_iconst_4 ?_
  refine xx_icmp_gtN (pc := 35) 57 dX6_init_35 rfl (by omega) (by omega) (fun _ => ?_) (fun c_ => by exfalso; omega)
  exact xx_vretI (pc := 57) dX6_init_57 rfl (Nat.le_of_ble_eq_true rfl) (Nat.le_of_ble_eq_true rfl) (ic_rv0 (by first | rfl | (rw [ew5, ew4, ew3, ew2, ew1]; rfl)))
def ss_186 : List ic_S := ss_185.set 0 (11, 0, [40, 68, 0, 2, 96, 5, 0, 6, 12, 0, 17, 18, 19, 24, 25, 26, 1000000])
theorem ls_186 : ss_186.length = 114 := by unfold ss_186; rw [List.length_set, ls_185]
def cw_0 (w : ic_w) : ic_w := (cw_24 (cw_20 (cw_16 (cw_13 (cw_11 (cw_8 (cw_6 (cw_4 (cw_3 (wu (wu (wu (wu (wu (wu (wu (wu (cw_2 (cw_1 w)) 16 0 4294967295) 16 1 4294967295) 16 2 4294967295) 16 3 4294967295) 23 0 2) 23 1 2) 23 2 2) 23 3 2))))))))))
theorem cz_0 {w : ic_w} (hz : Zf 1 w) : Zf 114 (cw_0 w) := by
  unfold cw_0
  exact Zf.le (n := 114) (m := 114) ((cz_24 (Zf.le (n := 95) (m := 96) ((cz_20 (Zf.le (n := 67) (m := 68) ((cz_16 (Zf.le (n := 39) (m := 40) ((cz_13 (Zf.le (n := 37) (m := 38) ((cz_11 (Zf.le (n := 35) (m := 36) ((cz_8 (Zf.le (n := 33) (m := 34) ((cz_6 (Zf.le (n := 31) (m := 32) ((cz_4 (Zf.le (n := 29) (m := 30) ((cz_3 (Zf.le (n := 24) (m := 28) ((Zf.up (n := 24) (m := 24) ((Zf.up (n := 24) (m := 24) ((Zf.up (n := 24) (m := 24) ((Zf.up (n := 17) (m := 24) ((Zf.up (n := 17) (m := 17) ((Zf.up (n := 17) (m := 17) ((Zf.up (n := 17) (m := 17) ((Zf.up (n := 11) (m := 17) ((cz_2 (Zf.le (n := 4) (m := 6) ((cz_1 (Zf.le (n := 1) (m := 2) (hz) (by decide)))) (by decide)))) (by decide) (by decide))) (by decide) (by decide))) (by decide) (by decide))) (by decide) (by decide))) (by decide) (by decide))) (by decide) (by decide))) (by decide) (by decide))) (by decide) (by decide))) (by decide)))) (by decide)))) (by decide)))) (by decide)))) (by decide)))) (by decide)))) (by decide)))) (by decide)))) (by decide)))) (by decide)
set_option maxHeartbeats 4000000 in
set_option maxRecDepth 100000 in
theorem cI_0 {l : Launch} {E : ic_E} {w : ic_w} (hz : Zf 1 w) : ic_CI l E mX11_init 4 113 1761 True [ic_pt E 0] ss_1 (hn w) ss_186 (ic_qv (fun h_ => h_ = hn (cw_0 w))) := by
  refine ic_introI (by decide +kernel) (Nat.le_of_ble_eq_true rfl) ?_
  show xx l E _ _ 0 [(0, ic_pt E 0)] _ _ _
  refine xx_aload_nP (pc := 0) dX11_init_0 0 rfl rfl ?_
  refine xx_objI (pc := 1) dX11_init_1 (show Cond.methodLink RX11 1 Lib.objectInit ∈ ic_W from ic_in 120 (by decide +kernel) rfl) oi_all ⟨Nat.le_of_ble_eq_true rfl, Nat.le_of_ble_eq_true rfl⟩ (Nat.le_of_ble_eq_true rfl) ?_
  refine xx_aload_nP (pc := 4) dX11_init_4 0 rfl rfl ?_
  refine xx_new (c := 4) (n := 1) (rs := [0, 0, 0, 0]) (sh2 := ss_2) (pc := 5) dX11_init_5 (by decide) ⟨show Cond.classLink RX11 7 (ic_R 4) ∈ ic_W from ic_in 123 (by decide +kernel) rfl, show Cond.instantiable (ic_R 4) (ic_N 4) ∈ ic_W from ic_in 124 (by decide +kernel) rfl, show Cond.initialized (ic_R 4) ∈ ic_W from ic_in 96 (by decide +kernel) rfl⟩ trivial ls_1 rfl (by decide) (fun k => congrFun (hz.h (by decide)) k) ⟨Nat.le_of_ble_eq_true rfl, Nat.le_of_ble_eq_true rfl⟩ ?_
  refine xx_dup (pc := 8) dX11_init_8 rfl ?_
  refine xx_callIJ (pc := 9) (o := 1) (As := []) (st := [ic_pt E 1, ic_pt E 0]) (fun _ h => h) (cI_1 (w := w) (hz.le (by decide))) kX4_init rfl nX11_9 ⟨rfl, ic_in 126 (by decide +kernel) rfl⟩ dX11_init_9 rfl rfl (Nat.le_of_ble_eq_true rfl) ⟨Nat.le_of_ble_eq_true rfl, Nat.le_of_ble_eq_true rfl⟩ ⟨Nat.le_of_ble_eq_true rfl, Nat.le_of_ble_eq_true rfl⟩ (ic_kv (fun h_ q_ => ?_))
  subst q_
  refine xx_nw (fun w1 ew1 => ?_)
  have hz_w1 : Zf 4 w1 := by rw [ew1]; exact cz_1 (hz.le (by decide))
  refine xx_putF (o := 0) (t := 1) (sh2 := ss_7) (pc := 12) dX11_init_12 (show ss_6[0]? = some (11, 0, [0, 0, 0, 0, 0, 0, 0, 0, 0, 0, 0, 0, 0, 0, 0, 0, 1000000]) by decide +kernel) fX11_10_11 rfl rfl rfl rfl (by decide) (by decide) rfl ?_
  refine xx_aload_nP (pc := 15) dX11_init_15 0 rfl rfl ?_
  refine xx_sipush (pc := 16) dX11_init_16 cc_sipush_200 ?_
  refine xx_newaB (n := 4) (N := 200) (sh2 := ss_8) (pc := 19) dX11_init_19 (ic_in 197 (by decide +kernel) rfl) trivial ls_7 rfl (by decide) (hz_w1.h (by decide)) ⟨Nat.le_of_ble_eq_true rfl, Nat.le_of_ble_eq_true rfl⟩ ?_
  refine xx_putF (o := 0) (t := 4) (sh2 := ss_9) (pc := 21) dX11_init_21 (show ss_8[0]? = some (11, 0, [0, 0, 0, 2, 0, 0, 0, 0, 0, 0, 0, 0, 0, 0, 0, 0, 1000000]) by decide +kernel) fX11_16_11 rfl rfl rfl rfl (by decide) (by decide) rfl ?_
  refine xx_aload_nP (pc := 24) dX11_init_24 0 rfl rfl ?_
  refine xx_new (c := 10) (n := 5) (rs := [0, 0, 0, 0, 0, 0, 1000000, 0, 0, 0, 0]) (sh2 := ss_10) (pc := 25) dX11_init_25 (by decide) ⟨show Cond.classLink RX11 20 (ic_R 10) ∈ ic_W from ic_in 153 (by decide +kernel) rfl, show Cond.instantiable (ic_R 10) (ic_N 10) ∈ ic_W from ic_in 154 (by decide +kernel) rfl, show Cond.initialized (ic_R 10) ∈ ic_W from ic_in 97 (by decide +kernel) rfl⟩ trivial ls_9 rfl (by decide) (fun k => congrFun (hz_w1.h (by decide)) k) ⟨Nat.le_of_ble_eq_true rfl, Nat.le_of_ble_eq_true rfl⟩ ?_
  refine xx_dup (pc := 28) dX11_init_28 rfl ?_
  refine xx_callIJ (pc := 29) (o := 5) (As := []) (st := [ic_pt E 5, ic_pt E 0]) (fun _ h => h) (cI_2 (w := w1) (hz_w1.le (by decide))) kX10_init rfl nX11_22 ⟨rfl, ic_in 156 (by decide +kernel) rfl⟩ dX11_init_29 rfl rfl (Nat.le_of_ble_eq_true rfl) ⟨Nat.le_of_ble_eq_true rfl, Nat.le_of_ble_eq_true rfl⟩ ⟨Nat.le_of_ble_eq_true rfl, Nat.le_of_ble_eq_true rfl⟩ (ic_kv (fun h_ q_ => ?_))
  subst q_
  refine xx_nw (fun w2 ew2 => ?_)
  have hz_w2 : Zf 11 w2 := by rw [ew2]; exact cz_2 (hz_w1.le (by decide))
  refine xx_putF (o := 0) (t := 5) (sh2 := ss_20) (pc := 32) dX11_init_32 (show ss_19[0]? = some (11, 0, [0, 0, 0, 2, 0, 5, 0, 0, 0, 0, 0, 0, 0, 0, 0, 0, 1000000]) by decide +kernel) fX11_23_11 rfl rfl rfl rfl (by decide) (by decide) rfl ?_
  refine xx_aload_nP (pc := 35) dX11_init_35 0 rfl rfl ?_
  refine xx_iconst (pc := 36) dX11_init_36 cc_iconst_4 ?_
  refine xx_iconst (pc := 37) dX11_init_37 cc_iconst_3 ?_
  refine xx_mna (n := 11) (N := 4) (K := 3) (rs := [13, 14, 15, 16]) (sh2 := ss_21) (fun _ h => h) (pc := 38) dX11_init_38 ⟨show Cond.classLink RX11 27 "[[I" ∈ ic_W from ic_in 198 (by decide +kernel) rfl, ic_in 152 (by decide +kernel) rfl⟩ trivial ls_20 rfl (by decide) (by decide) (fun k => by rcases k with _ | _ | _ | _ | k <;> first | rfl | (rw [if_neg (by omega)]; rfl)) (fun a ha => hz_w2.h (by omega)) ⟨Nat.le_of_ble_eq_true rfl, Nat.le_of_ble_eq_true rfl⟩ ?_
  refine xx_putF (o := 0) (t := 11) (sh2 := ss_22) (pc := 42) dX11_init_42 (show ss_21[0]? = some (11, 0, [0, 0, 0, 2, 0, 5, 0, 6, 0, 0, 0, 0, 0, 0, 0, 0, 1000000]) by decide +kernel) fX11_29_11 rfl rfl rfl rfl (by decide) (by decide) rfl ?_
  refine xx_aload_nP (pc := 45) dX11_init_45 0 rfl rfl ?_
  refine xx_iconst (pc := 46) dX11_init_46 cc_iconst_4 ?_
  refine xx_newaI (n := 16) (N := 4) (sh2 := ss_23) (pc := 47) dX11_init_47 (ic_in 152 (by decide +kernel) rfl) trivial ls_22 rfl (by decide) (hz_w2.h (by decide)) ⟨Nat.le_of_ble_eq_true rfl, Nat.le_of_ble_eq_true rfl⟩ ?_
  refine xx_dup (pc := 49) dX11_init_49 rfl ?_
  refine xx_iconst (pc := 50) dX11_init_50 cc_iconst_0 ?_
  refine xx_iconst (pc := 51) dX11_init_51 cc_iconst_m1 ?_
  refine xx_iastN (pc := 52) dX11_init_52 (show ss_23[16]? = some (100, 4, []) by decide +kernel) (by omega) (by decide) ?_
  refine xx_nw (fun w3 ew3 => ?_)
  have hz_w3 : Zf 17 w3 := by rw [ew3]; exact hz_w2.up (by decide) (by decide)
  refine xx_dup (pc := 53) dX11_init_53 rfl ?_
  refine xx_iconst (pc := 54) dX11_init_54 cc_iconst_1 ?_
  refine xx_iconst (pc := 55) dX11_init_55 cc_iconst_m1 ?_
  refine xx_iastN (pc := 56) dX11_init_56 (show ss_23[16]? = some (100, 4, []) by decide +kernel) (by omega) (by decide) ?_
  refine xx_nw (fun w4 ew4 => ?_)
  have hz_w4 : Zf 17 w4 := by rw [ew4]; exact hz_w3.up (by decide) (by decide)
  refine xx_dup (pc := 57) dX11_init_57 rfl ?_
  refine xx_iconst (pc := 58) dX11_init_58 cc_iconst_2 ?_
  refine xx_iconst (pc := 59) dX11_init_59 cc_iconst_m1 ?_
  refine xx_iastN (pc := 60) dX11_init_60 (show ss_23[16]? = some (100, 4, []) by decide +kernel) (by omega) (by decide) ?_
  refine xx_nw (fun w5 ew5 => ?_)
  have hz_w5 : Zf 17 w5 := by rw [ew5]; exact hz_w4.up (by decide) (by decide)
  refine xx_dup (pc := 61) dX11_init_61 rfl ?_
  refine xx_iconst (pc := 62) dX11_init_62 cc_iconst_3 ?_
  refine xx_iconst (pc := 63) dX11_init_63 cc_iconst_m1 ?_
  refine xx_iastN (pc := 64) dX11_init_64 (show ss_23[16]? = some (100, 4, []) by decide +kernel) (by omega) (by decide) ?_
  refine xx_nw (fun w6 ew6 => ?_)
  have hz_w6 : Zf 17 w6 := by rw [ew6]; exact hz_w5.up (by decide) (by decide)
  refine xx_putF (o := 0) (t := 16) (sh2 := ss_24) (pc := 65) dX11_init_65 (show ss_23[0]? = some (11, 0, [0, 0, 0, 2, 0, 5, 0, 6, 12, 0, 0, 0, 0, 0, 0, 0, 1000000]) by decide +kernel) fX11_32_11 rfl rfl rfl rfl (by decide) (by decide) rfl ?_
  refine xx_aload_nP (pc := 68) dX11_init_68 0 rfl rfl ?_
  refine xx_iconst (pc := 69) dX11_init_69 cc_iconst_4 ?_
  refine xx_newaI (n := 17) (N := 4) (sh2 := ss_25) (pc := 70) dX11_init_70 (ic_in 152 (by decide +kernel) rfl) trivial ls_24 rfl (by decide) (hz_w6.h (by decide)) ⟨Nat.le_of_ble_eq_true rfl, Nat.le_of_ble_eq_true rfl⟩ ?_
  refine xx_putF (o := 0) (t := 17) (sh2 := ss_26) (pc := 72) dX11_init_72 (show ss_25[0]? = some (11, 0, [0, 0, 0, 2, 0, 5, 0, 6, 12, 0, 17, 0, 0, 0, 0, 0, 1000000]) by decide +kernel) fX11_36_11 rfl rfl rfl rfl (by decide) (by decide) rfl ?_
  refine xx_aload_nP (pc := 75) dX11_init_75 0 rfl rfl ?_
  refine xx_iconst (pc := 76) dX11_init_76 cc_iconst_4 ?_
  refine xx_bipush (pc := 77) dX11_init_77 cc_bipush_40 ?_
  refine xx_mna (n := 18) (N := 4) (K := 40) (rs := [20, 21, 22, 23]) (sh2 := ss_27) (fun _ h => h) (pc := 79) dX11_init_79 ⟨show Cond.classLink RX11 27 "[[I" ∈ ic_W from ic_in 198 (by decide +kernel) rfl, ic_in 152 (by decide +kernel) rfl⟩ trivial ls_26 rfl (by decide) (by decide) (fun k => by rcases k with _ | _ | _ | _ | k <;> first | rfl | (rw [if_neg (by omega)]; rfl)) (fun a ha => hz_w6.h (by omega)) ⟨Nat.le_of_ble_eq_true rfl, Nat.le_of_ble_eq_true rfl⟩ ?_
  refine xx_putF (o := 0) (t := 18) (sh2 := ss_28) (pc := 83) dX11_init_83 (show ss_27[0]? = some (11, 0, [0, 0, 0, 2, 0, 5, 0, 6, 12, 0, 17, 18, 0, 0, 0, 0, 1000000]) by decide +kernel) fX11_39_11 rfl rfl rfl rfl (by decide) (by decide) rfl ?_
  refine xx_aload_nP (pc := 86) dX11_init_86 0 rfl rfl ?_
  refine xx_iconst (pc := 87) dX11_init_87 cc_iconst_4 ?_
  refine xx_newaI (n := 23) (N := 4) (sh2 := ss_29) (pc := 88) dX11_init_88 (ic_in 152 (by decide +kernel) rfl) trivial ls_28 rfl (by decide) (hz_w6.h (by decide)) ⟨Nat.le_of_ble_eq_true rfl, Nat.le_of_ble_eq_true rfl⟩ ?_
  refine xx_dup (pc := 90) dX11_init_90 rfl ?_
  refine xx_iconst (pc := 91) dX11_init_91 cc_iconst_0 ?_
  refine xx_iconst (pc := 92) dX11_init_92 cc_iconst_2 ?_
  refine xx_iastN (pc := 93) dX11_init_93 (show ss_29[23]? = some (100, 4, []) by decide +kernel) (by omega) (by decide) ?_
  refine xx_nw (fun w7 ew7 => ?_)
  have hz_w7 : Zf 24 w7 := by rw [ew7]; exact hz_w6.up (by decide) (by decide)
  refine xx_dup (pc := 94) dX11_init_94 rfl ?_
  refine xx_iconst (pc := 95) dX11_init_95 cc_iconst_1 ?_
  refine xx_iconst (pc := 96) dX11_init_96 cc_iconst_2 ?_
  refine xx_iastN (pc := 97) dX11_init_97 (show ss_29[23]? = some (100, 4, []) by decide +kernel) (by omega) (by decide) ?_
  refine xx_nw (fun w8 ew8 => ?_)
  have hz_w8 : Zf 24 w8 := by rw [ew8]; exact hz_w7.up (by decide) (by decide)
  refine xx_dup (pc := 98) dX11_init_98 rfl ?_
  refine xx_iconst (pc := 99) dX11_init_99 cc_iconst_2 ?_
  refine xx_iconst (pc := 100) dX11_init_100 cc_iconst_2 ?_
  refine xx_iastN (pc := 101) dX11_init_101 (show ss_29[23]? = some (100, 4, []) by decide +kernel) (by omega) (by decide) ?_
  refine xx_nw (fun w9 ew9 => ?_)
  have hz_w9 : Zf 24 w9 := by rw [ew9]; exact hz_w8.up (by decide) (by decide)
  refine xx_dup (pc := 102) dX11_init_102 rfl ?_
  refine xx_iconst (pc := 103) dX11_init_103 cc_iconst_3 ?_
  refine xx_iconst (pc := 104) dX11_init_104 cc_iconst_2 ?_
  refine xx_iastN (pc := 105) dX11_init_105 (show ss_29[23]? = some (100, 4, []) by decide +kernel) (by omega) (by decide) ?_
  refine xx_nw (fun w10 ew10 => ?_)
  have hz_w10 : Zf 24 w10 := by rw [ew10]; exact hz_w9.up (by decide) (by decide)
  refine xx_putF (o := 0) (t := 23) (sh2 := ss_30) (pc := 106) dX11_init_106 (show ss_29[0]? = some (11, 0, [0, 0, 0, 2, 0, 5, 0, 6, 12, 0, 17, 18, 19, 0, 0, 0, 1000000]) by decide +kernel) fX11_42_11 rfl rfl rfl rfl (by decide) (by decide) rfl ?_
  refine xx_aload_nP (pc := 109) dX11_init_109 0 rfl rfl ?_
  refine xx_iconst (pc := 110) dX11_init_110 cc_iconst_4 ?_
  refine xx_newaI (n := 24) (N := 4) (sh2 := ss_31) (pc := 111) dX11_init_111 (ic_in 152 (by decide +kernel) rfl) trivial ls_30 rfl (by decide) (hz_w10.h (by decide)) ⟨Nat.le_of_ble_eq_true rfl, Nat.le_of_ble_eq_true rfl⟩ ?_
  refine xx_putF (o := 0) (t := 24) (sh2 := ss_32) (pc := 113) dX11_init_113 (show ss_31[0]? = some (11, 0, [0, 0, 0, 2, 0, 5, 0, 6, 12, 0, 17, 18, 19, 24, 0, 0, 1000000]) by decide +kernel) fX11_45_11 rfl rfl rfl rfl (by decide) (by decide) rfl ?_
  refine xx_aload_nP (pc := 116) dX11_init_116 0 rfl rfl ?_
  refine xx_iconst (pc := 117) dX11_init_117 cc_iconst_4 ?_
  refine xx_newaI (n := 25) (N := 4) (sh2 := ss_33) (pc := 118) dX11_init_118 (ic_in 152 (by decide +kernel) rfl) trivial ls_32 rfl (by decide) (hz_w10.h (by decide)) ⟨Nat.le_of_ble_eq_true rfl, Nat.le_of_ble_eq_true rfl⟩ ?_
  refine xx_putF (o := 0) (t := 25) (sh2 := ss_34) (pc := 120) dX11_init_120 (show ss_33[0]? = some (11, 0, [0, 0, 0, 2, 0, 5, 0, 6, 12, 0, 17, 18, 19, 24, 25, 0, 1000000]) by decide +kernel) fX11_48_11 rfl rfl rfl rfl (by decide) (by decide) rfl ?_
  refine xx_bipush (pc := 123) dX11_init_123 cc_bipush_6 ?_
  refine xx_newqR (n := 26) (N := 6) (rs := [0, 0, 0, 0, 0, 0]) (sh2 := ss_35) (fun _ h => h) (pc := 125) dX11_init_125 (show Cond.classLink RX11 51 "InnerCircle$Rider" ∈ ic_W from ic_in 200 (by decide +kernel) rfl) trivial ls_34 rfl (by decide) (fun k => by rcases k with _ | _ | _ | _ | _ | _ | k <;> rfl) ⟨Nat.le_of_ble_eq_true rfl, Nat.le_of_ble_eq_true rfl⟩ ?_
  refine xx_astore_n (L' := [(1, ic_pt E 26), (0, ic_pt E 0)]) (pc := 128) dX11_init_128 rfl (Nat.le_of_ble_eq_true rfl) rfl ?_
  refine xx_aload_nP (pc := 129) dX11_init_129 0 rfl rfl ?_
  refine xx_iconst (pc := 130) dX11_init_130 cc_iconst_0 ?_
  refine xx_new (c := 9) (n := 27) (rs := [0, 0, 0, 0, 0]) (sh2 := ss_36) (pc := 131) dX11_init_131 (by decide) ⟨show Cond.classLink RX11 51 (ic_R 9) ∈ ic_W from ic_in 200 (by decide +kernel) rfl, show Cond.instantiable (ic_R 9) (ic_N 9) ∈ ic_W from ic_in 202 (by decide +kernel) rfl, show Cond.initialized (ic_R 9) ∈ ic_W from ic_in 98 (by decide +kernel) rfl⟩ trivial ls_35 rfl (by decide) (fun k => congrFun (hz_w10.h (by decide)) k) ⟨Nat.le_of_ble_eq_true rfl, Nat.le_of_ble_eq_true rfl⟩ ?_
  refine xx_dup (pc := 134) dX11_init_134 rfl ?_
  refine xx_callIJ (pc := 135) (o := 27) (As := []) (st := [ic_pt E 27, .int (nI 0), ic_pt E 26]) (fun _ h => h) (cI_3 (w := w10) (hz_w10.le (by decide))) kX9_init rfl nX11_53 ⟨rfl, ic_in 204 (by decide +kernel) rfl⟩ dX11_init_135 rfl rfl (Nat.le_of_ble_eq_true rfl) ⟨Nat.le_of_ble_eq_true rfl, Nat.le_of_ble_eq_true rfl⟩ ⟨Nat.le_of_ble_eq_true rfl, Nat.le_of_ble_eq_true rfl⟩ (ic_kv (fun h_ q_ => ?_))
  subst q_
  refine xx_nw (fun w11 ew11 => ?_)
  have hz_w11 : Zf 29 w11 := by rw [ew11]; exact cz_3 (hz_w10.le (by decide))
  refine xx_aastR (sh2 := ss_39) (fun _ h => h) (by decide) (by decide) (pc := 138) dX11_init_138 (show ss_38[26]? = some (103, 6, [0, 0, 0, 0, 0, 0]) by decide +kernel) (show ss_38[27]? = some (9, 0, [0, 0, 29, 0, 0]) by decide +kernel) (by decide) (by decide) (by decide) rfl ?_
  refine xx_aload_nP (pc := 139) dX11_init_139 0 rfl rfl ?_
  refine xx_iconst (pc := 140) dX11_init_140 cc_iconst_1 ?_
  refine xx_new (c := 7) (n := 29) (rs := [0, 0, 0, 0, 0]) (sh2 := ss_40) (pc := 141) dX11_init_141 (by decide) ⟨show Cond.classLink RX11 54 (ic_R 7) ∈ ic_W from ic_in 230 (by decide +kernel) rfl, show Cond.instantiable (ic_R 7) (ic_N 7) ∈ ic_W from ic_in 231 (by decide +kernel) rfl, show Cond.initialized (ic_R 7) ∈ ic_W from ic_in 99 (by decide +kernel) rfl⟩ trivial ls_39 rfl (by decide) (fun k => congrFun (hz_w11.h (by decide)) k) ⟨Nat.le_of_ble_eq_true rfl, Nat.le_of_ble_eq_true rfl⟩ ?_
  refine xx_dup (pc := 144) dX11_init_144 rfl ?_
  refine xx_callIJ (pc := 145) (o := 29) (As := []) (st := [ic_pt E 29, .int (nI 1), ic_pt E 26]) (fun _ h => h) (cI_4 (w := w11) (hz_w11.le (by decide))) kX7_init rfl nX11_56 ⟨rfl, ic_in 233 (by decide +kernel) rfl⟩ dX11_init_145 rfl rfl (Nat.le_of_ble_eq_true rfl) ⟨Nat.le_of_ble_eq_true rfl, Nat.le_of_ble_eq_true rfl⟩ ⟨Nat.le_of_ble_eq_true rfl, Nat.le_of_ble_eq_true rfl⟩ (ic_kv (fun h_ q_ => ?_))
  subst q_
  refine xx_nw (fun w12 ew12 => ?_)
  have hz_w12 : Zf 31 w12 := by rw [ew12]; exact cz_4 (hz_w11.le (by decide))
  refine xx_aastR (sh2 := ss_43) (fun _ h => h) (by decide) (by decide) (pc := 148) dX11_init_148 (show ss_42[26]? = some (103, 6, [28, 0, 0, 0, 0, 0]) by decide +kernel) (show ss_42[29]? = some (7, 0, [0, 0, 31, 0, 0]) by decide +kernel) (by decide) (by decide) (by decide) rfl ?_
  refine xx_aload_nP (pc := 149) dX11_init_149 0 rfl rfl ?_
  refine xx_iconst (pc := 150) dX11_init_150 cc_iconst_2 ?_
  refine xx_new (c := 3) (n := 31) (rs := [0, 0, 0, 0, 0]) (sh2 := ss_44) (pc := 151) dX11_init_151 (by decide) ⟨show Cond.classLink RX11 57 (ic_R 3) ∈ ic_W from ic_in 242 (by decide +kernel) rfl, show Cond.instantiable (ic_R 3) (ic_N 3) ∈ ic_W from ic_in 243 (by decide +kernel) rfl, show Cond.initialized (ic_R 3) ∈ ic_W from ic_in 100 (by decide +kernel) rfl⟩ trivial ls_43 rfl (by decide) (fun k => congrFun (hz_w12.h (by decide)) k) ⟨Nat.le_of_ble_eq_true rfl, Nat.le_of_ble_eq_true rfl⟩ ?_
  refine xx_dup (pc := 154) dX11_init_154 rfl ?_
  refine xx_callIJ (pc := 155) (o := 31) (As := []) (st := [ic_pt E 31, .int (nI 2), ic_pt E 26]) (fun _ h => h) (cI_6 (w := w12) (hz_w12.le (by decide))) kX3_init rfl nX11_59 ⟨rfl, ic_in 245 (by decide +kernel) rfl⟩ dX11_init_155 rfl rfl (Nat.le_of_ble_eq_true rfl) ⟨Nat.le_of_ble_eq_true rfl, Nat.le_of_ble_eq_true rfl⟩ ⟨Nat.le_of_ble_eq_true rfl, Nat.le_of_ble_eq_true rfl⟩ (ic_kv (fun h_ q_ => ?_))
  subst q_
  refine xx_nw (fun w13 ew13 => ?_)
  have hz_w13 : Zf 33 w13 := by rw [ew13]; exact cz_6 (hz_w12.le (by decide))
  refine xx_aastR (sh2 := ss_47) (fun _ h => h) (by decide) (by decide) (pc := 158) dX11_init_158 (show ss_46[26]? = some (103, 6, [28, 30, 0, 0, 0, 0]) by decide +kernel) (show ss_46[31]? = some (3, 0, [0, 0, 33, 0, 0]) by decide +kernel) (by decide) (by decide) (by decide) rfl ?_
  refine xx_aload_nP (pc := 159) dX11_init_159 0 rfl rfl ?_
  refine xx_iconst (pc := 160) dX11_init_160 cc_iconst_3 ?_
  refine xx_new (c := 2) (n := 33) (rs := [0, 0, 0, 0, 0]) (sh2 := ss_48) (pc := 161) dX11_init_161 (by decide) ⟨show Cond.classLink RX11 60 (ic_R 2) ∈ ic_W from ic_in 254 (by decide +kernel) rfl, show Cond.instantiable (ic_R 2) (ic_N 2) ∈ ic_W from ic_in 255 (by decide +kernel) rfl, show Cond.initialized (ic_R 2) ∈ ic_W from ic_in 101 (by decide +kernel) rfl⟩ trivial ls_47 rfl (by decide) (fun k => congrFun (hz_w13.h (by decide)) k) ⟨Nat.le_of_ble_eq_true rfl, Nat.le_of_ble_eq_true rfl⟩ ?_
  refine xx_dup (pc := 164) dX11_init_164 rfl ?_
  refine xx_callIJ (pc := 165) (o := 33) (As := []) (st := [ic_pt E 33, .int (nI 3), ic_pt E 26]) (fun _ h => h) (cI_8 (w := w13) (hz_w13.le (by decide))) kX2_init rfl nX11_62 ⟨rfl, ic_in 257 (by decide +kernel) rfl⟩ dX11_init_165 rfl rfl (Nat.le_of_ble_eq_true rfl) ⟨Nat.le_of_ble_eq_true rfl, Nat.le_of_ble_eq_true rfl⟩ ⟨Nat.le_of_ble_eq_true rfl, Nat.le_of_ble_eq_true rfl⟩ (ic_kv (fun h_ q_ => ?_))
  subst q_
  refine xx_nw (fun w14 ew14 => ?_)
  have hz_w14 : Zf 35 w14 := by rw [ew14]; exact cz_8 (hz_w13.le (by decide))
  refine xx_aastR (sh2 := ss_51) (fun _ h => h) (by decide) (by decide) (pc := 168) dX11_init_168 (show ss_50[26]? = some (103, 6, [28, 30, 32, 0, 0, 0]) by decide +kernel) (show ss_50[33]? = some (2, 0, [0, 0, 35, 0, 0]) by decide +kernel) (by decide) (by decide) (by decide) rfl ?_
  refine xx_aload_nP (pc := 169) dX11_init_169 0 rfl rfl ?_
  refine xx_iconst (pc := 170) dX11_init_170 cc_iconst_4 ?_
  refine xx_new (c := 1) (n := 35) (rs := [0, 0, 0, 0, 0]) (sh2 := ss_52) (pc := 171) dX11_init_171 (by decide) ⟨show Cond.classLink RX11 63 (ic_R 1) ∈ ic_W from ic_in 266 (by decide +kernel) rfl, show Cond.instantiable (ic_R 1) (ic_N 1) ∈ ic_W from ic_in 267 (by decide +kernel) rfl, show Cond.initialized (ic_R 1) ∈ ic_W from ic_in 102 (by decide +kernel) rfl⟩ trivial ls_51 rfl (by decide) (fun k => congrFun (hz_w14.h (by decide)) k) ⟨Nat.le_of_ble_eq_true rfl, Nat.le_of_ble_eq_true rfl⟩ ?_
  refine xx_dup (pc := 174) dX11_init_174 rfl ?_
  refine xx_callIJ (pc := 175) (o := 35) (As := []) (st := [ic_pt E 35, .int (nI 4), ic_pt E 26]) (fun _ h => h) (cI_11 (w := w14) (hz_w14.le (by decide))) kX1_init rfl nX11_65 ⟨rfl, ic_in 269 (by decide +kernel) rfl⟩ dX11_init_175 rfl rfl (Nat.le_of_ble_eq_true rfl) ⟨Nat.le_of_ble_eq_true rfl, Nat.le_of_ble_eq_true rfl⟩ ⟨Nat.le_of_ble_eq_true rfl, Nat.le_of_ble_eq_true rfl⟩ (ic_kv (fun h_ q_ => ?_))
  subst q_
  refine xx_nw (fun w15 ew15 => ?_)
  have hz_w15 : Zf 37 w15 := by rw [ew15]; exact cz_11 (hz_w14.le (by decide))
  refine xx_aastR (sh2 := ss_55) (fun _ h => h) (by decide) (by decide) (pc := 178) dX11_init_178 (show ss_54[26]? = some (103, 6, [28, 30, 32, 34, 0, 0]) by decide +kernel) (show ss_54[35]? = some (1, 0, [0, 0, 37, 0, 0]) by decide +kernel) (by decide) (by decide) (by decide) rfl ?_
  refine xx_aload_nP (pc := 179) dX11_init_179 0 rfl rfl ?_
  refine xx_iconst (pc := 180) dX11_init_180 cc_iconst_5 ?_
  refine xx_new (c := 0) (n := 37) (rs := [0, 0, 0, 0, 0]) (sh2 := ss_56) (pc := 181) dX11_init_181 (by decide) ⟨show Cond.classLink RX11 66 (ic_R 0) ∈ ic_W from ic_in 278 (by decide +kernel) rfl, show Cond.instantiable (ic_R 0) (ic_N 0) ∈ ic_W from ic_in 279 (by decide +kernel) rfl, show Cond.initialized (ic_R 0) ∈ ic_W from ic_in 103 (by decide +kernel) rfl⟩ trivial ls_55 rfl (by decide) (fun k => congrFun (hz_w15.h (by decide)) k) ⟨Nat.le_of_ble_eq_true rfl, Nat.le_of_ble_eq_true rfl⟩ ?_
  refine xx_dup (pc := 184) dX11_init_184 rfl ?_
  refine xx_callIJ (pc := 185) (o := 37) (As := []) (st := [ic_pt E 37, .int (nI 5), ic_pt E 26]) (fun _ h => h) (cI_13 (w := w15) (hz_w15.le (by decide))) kX0_init rfl nX11_68 ⟨rfl, ic_in 281 (by decide +kernel) rfl⟩ dX11_init_185 rfl rfl (Nat.le_of_ble_eq_true rfl) ⟨Nat.le_of_ble_eq_true rfl, Nat.le_of_ble_eq_true rfl⟩ ⟨Nat.le_of_ble_eq_true rfl, Nat.le_of_ble_eq_true rfl⟩ (ic_kv (fun h_ q_ => ?_))
  subst q_
  refine xx_nw (fun w16 ew16 => ?_)
  have hz_w16 : Zf 39 w16 := by rw [ew16]; exact cz_13 (hz_w15.le (by decide))
  refine xx_aastR (sh2 := ss_59) (fun _ h => h) (by decide) (by decide) (pc := 188) dX11_init_188 (show ss_58[26]? = some (103, 6, [28, 30, 32, 34, 36, 0]) by decide +kernel) (show ss_58[37]? = some (0, 0, [0, 0, 39, 0, 0]) by decide +kernel) (by decide) (by decide) (by decide) rfl ?_
  refine xx_aload_nP (pc := 189) dX11_init_189 1 rfl rfl ?_
  refine xx_new (c := 5) (n := 39) (rs := [0, 0, 0, 0, 0, 0, 0, 0, 0, 0, 0, 0, 0, 0, 0, 0]) (sh2 := ss_60) (pc := 190) dX11_init_190 (by decide) ⟨show Cond.classLink RX11 69 (ic_R 5) ∈ ic_W from ic_in 290 (by decide +kernel) rfl, show Cond.instantiable (ic_R 5) (ic_N 5) ∈ ic_W from ic_in 291 (by decide +kernel) rfl, show Cond.initialized (ic_R 5) ∈ ic_W from ic_in 104 (by decide +kernel) rfl⟩ trivial ls_59 rfl (by decide) (fun k => congrFun (hz_w16.h (by decide)) k) ⟨Nat.le_of_ble_eq_true rfl, Nat.le_of_ble_eq_true rfl⟩ ?_
  refine xx_dup (pc := 193) dX11_init_193 rfl ?_
  refine xx_aload_nP (pc := 194) dX11_init_194 0 rfl rfl ?_
  refine xx_callII (pc := 195) (o := 39) (As := [ic_pt E 26]) (st := [ic_pt E 39, ic_pt E 0]) (fun _ h => h) (cI_16 (w := w16) (hz_w16.le (by decide))) kX5_init rfl iX11_71 dX11_init_195 rfl rfl (Nat.le_of_ble_eq_true rfl) ⟨Nat.le_of_ble_eq_true rfl, Nat.le_of_ble_eq_true rfl⟩ ⟨Nat.le_of_ble_eq_true rfl, Nat.le_of_ble_eq_true rfl⟩ (ic_kv (fun h_ q_ => ?_))
  subst q_
  refine xx_nw (fun w17 ew17 => ?_)
  have hz_w17 : Zf 67 w17 := by rw [ew17]; exact cz_16 (hz_w16.le (by decide))
  refine xx_putF (o := 0) (t := 39) (sh2 := ss_103) (pc := 198) dX11_init_198 (show ss_102[0]? = some (11, 0, [0, 0, 0, 2, 0, 5, 0, 6, 12, 0, 17, 18, 19, 24, 25, 26, 1000000]) by decide +kernel) fX11_74_11 rfl rfl rfl rfl (by decide) (by decide) rfl ?_
  refine xx_aload_nP (pc := 201) dX11_init_201 1 rfl rfl ?_
  refine xx_new (c := 5) (n := 67) (rs := [0, 0, 0, 0, 0, 0, 0, 0, 0, 0, 0, 0, 0, 0, 0, 0]) (sh2 := ss_104) (pc := 202) dX11_init_202 (by decide) ⟨show Cond.classLink RX11 69 (ic_R 5) ∈ ic_W from ic_in 290 (by decide +kernel) rfl, show Cond.instantiable (ic_R 5) (ic_N 5) ∈ ic_W from ic_in 291 (by decide +kernel) rfl, show Cond.initialized (ic_R 5) ∈ ic_W from ic_in 104 (by decide +kernel) rfl⟩ trivial ls_103 rfl (by decide) (fun k => congrFun (hz_w17.h (by decide)) k) ⟨Nat.le_of_ble_eq_true rfl, Nat.le_of_ble_eq_true rfl⟩ ?_
  refine xx_dup (pc := 205) dX11_init_205 rfl ?_
  refine xx_aload_nP (pc := 206) dX11_init_206 0 rfl rfl ?_
  refine xx_callII (pc := 207) (o := 67) (As := [ic_pt E 26]) (st := [ic_pt E 67, ic_pt E 0]) (fun _ h => h) (cI_20 (w := w17) (hz_w17.le (by decide))) kX5_init rfl iX11_71 dX11_init_207 rfl rfl (Nat.le_of_ble_eq_true rfl) ⟨Nat.le_of_ble_eq_true rfl, Nat.le_of_ble_eq_true rfl⟩ ⟨Nat.le_of_ble_eq_true rfl, Nat.le_of_ble_eq_true rfl⟩ (ic_kv (fun h_ q_ => ?_))
  subst q_
  refine xx_nw (fun w18 ew18 => ?_)
  have hz_w18 : Zf 95 w18 := by rw [ew18]; exact cz_20 (hz_w17.le (by decide))
  refine xx_putF (o := 0) (t := 67) (sh2 := ss_147) (pc := 210) dX11_init_210 (show ss_146[0]? = some (11, 0, [40, 0, 0, 2, 0, 5, 0, 6, 12, 0, 17, 18, 19, 24, 25, 26, 1000000]) by decide +kernel) fX11_78_11 rfl rfl rfl rfl (by decide) (by decide) rfl ?_
  refine xx_aload_nP (pc := 213) dX11_init_213 1 rfl rfl ?_
  refine xx_new (c := 6) (n := 95) (rs := [0, 0, 0, 0, 0, 0, 0, 0, 0, 0, 0]) (sh2 := ss_148) (pc := 214) dX11_init_214 (by decide) ⟨show Cond.classLink RX11 81 (ic_R 6) ∈ ic_W from ic_in 409 (by decide +kernel) rfl, show Cond.instantiable (ic_R 6) (ic_N 6) ∈ ic_W from ic_in 410 (by decide +kernel) rfl, show Cond.initialized (ic_R 6) ∈ ic_W from ic_in 106 (by decide +kernel) rfl⟩ trivial ls_147 rfl (by decide) (fun k => congrFun (hz_w18.h (by decide)) k) ⟨Nat.le_of_ble_eq_true rfl, Nat.le_of_ble_eq_true rfl⟩ ?_
  refine xx_dup (pc := 217) dX11_init_217 rfl ?_
  refine xx_aload_nP (pc := 218) dX11_init_218 1 rfl rfl ?_
  refine xx_getR (pc := 219) 39 dX11_init_219 (show ss_148[0]? = some (11, 0, [40, 68, 0, 2, 0, 5, 0, 6, 12, 0, 17, 18, 19, 24, 25, 26, 1000000]) by decide +kernel) fX11_74_11 rfl rfl (by decide) ?_
  refine xx_callII (pc := 222) (o := 95) (As := [ic_pt E 39]) (st := [ic_pt E 95, ic_pt E 0]) (fun _ h => h) (cI_24 (w := w18) (hz_w18.le (by decide))) kX6_init rfl iX11_83 dX11_init_222 rfl rfl (Nat.le_of_ble_eq_true rfl) ⟨Nat.le_of_ble_eq_true rfl, Nat.le_of_ble_eq_true rfl⟩ ⟨Nat.le_of_ble_eq_true rfl, Nat.le_of_ble_eq_true rfl⟩ (ic_kv (fun h_ q_ => ?_))
  subst q_
  refine xx_nw (fun w19 ew19 => ?_)
  have hz_w19 : Zf 114 w19 := by rw [ew19]; exact cz_24 (hz_w18.le (by decide))
  refine xx_putF (o := 0) (t := 95) (sh2 := ss_186) (pc := 225) dX11_init_225 (show ss_185[0]? = some (11, 0, [40, 68, 0, 2, 0, 5, 0, 6, 12, 0, 17, 18, 19, 24, 25, 26, 1000000]) by decide +kernel) fX11_86_11 rfl rfl rfl rfl (by decide) (by decide) rfl ?_
  exact xx_vretI (pc := 228) dX11_init_228 rfl (Nat.le_of_ble_eq_true rfl) (Nat.le_of_ble_eq_true rfl) (ic_rv0 (by first | rfl | (rw [ew19, ew18, ew17, ew16, ew15, ew14, ew13, ew12, ew11, ew10, ew9, ew8, ew7, ew6, ew5, ew4, ew3, ew2, ew1]; rfl)))
def ss_187 : List ic_S := ss_186 ++ [(12, 0, [0, 0, 0, 0, 0, 0, 0, 0, 0, 0, 0, 0, 0, 0, 0, 0, 0, 0, 0, 0, 0, 0, 0, 0, 0, 0, 0, 0, 0, 0, 0, 0, 0, 0, 0, 0, 0, 0, 0, 0, 0])]
theorem ls_187 : ss_187.length = 115 := by unfold ss_187; rw [List.length_append, ls_186]; rfl
def ss_188 : List ic_S := ss_187 ++ [(100, 578, [])]
theorem ls_188 : ss_188.length = 116 := by unfold ss_188; rw [List.length_append, ls_187]; rfl
def ss_189 : List ic_S := ss_188.set 114 (12, 0, [116, 0, 0, 0, 0, 0, 0, 0, 0, 0, 0, 0, 0, 0, 0, 0, 0, 0, 0, 0, 0, 0, 0, 0, 0, 0, 0, 0, 0, 0, 0, 0, 0, 0, 0, 0, 0, 0, 0, 0, 0])
theorem ls_189 : ss_189.length = 116 := by unfold ss_189; rw [List.length_set, ls_188]
def ss_190 : List ic_S := ss_189 ++ [(100, 578, [])]
theorem ls_190 : ss_190.length = 117 := by unfold ss_190; rw [List.length_append, ls_189]; rfl
def ss_191 : List ic_S := ss_190.set 114 (12, 0, [116, 117, 0, 0, 0, 0, 0, 0, 0, 0, 0, 0, 0, 0, 0, 0, 0, 0, 0, 0, 0, 0, 0, 0, 0, 0, 0, 0, 0, 0, 0, 0, 0, 0, 0, 0, 0, 0, 0, 0, 0])
theorem ls_191 : ss_191.length = 117 := by unfold ss_191; rw [List.length_set, ls_190]
def ss_192 : List ic_S := ss_191 ++ [(100, 220, [])]
theorem ls_192 : ss_192.length = 118 := by unfold ss_192; rw [List.length_append, ls_191]; rfl
def ss_193 : List ic_S := ss_192.set 114 (12, 0, [116, 117, 0, 118, 0, 0, 0, 0, 0, 0, 0, 0, 0, 0, 0, 0, 0, 0, 0, 0, 0, 0, 0, 0, 0, 0, 0, 0, 0, 0, 0, 0, 0, 0, 0, 0, 0, 0, 0, 0, 0])
theorem ls_193 : ss_193.length = 118 := by unfold ss_193; rw [List.length_set, ls_192]
def ss_194 : List ic_S := ss_193 ++ [(100, 200, [])]
theorem ls_194 : ss_194.length = 119 := by unfold ss_194; rw [List.length_append, ls_193]; rfl
def ss_195 : List ic_S := ss_194.set 114 (12, 0, [116, 117, 0, 118, 119, 0, 0, 0, 0, 0, 0, 0, 0, 0, 0, 0, 0, 0, 0, 0, 0, 0, 0, 0, 0, 0, 0, 0, 0, 0, 0, 0, 0, 0, 0, 0, 0, 0, 0, 0, 0])
theorem ls_195 : ss_195.length = 119 := by unfold ss_195; rw [List.length_set, ls_194]
def ss_196 : List ic_S := ss_195 ++ [(100, 578, [])]
theorem ls_196 : ss_196.length = 120 := by unfold ss_196; rw [List.length_append, ls_195]; rfl
def ss_197 : List ic_S := ss_196.set 114 (12, 0, [116, 117, 0, 118, 119, 0, 0, 0, 0, 0, 0, 0, 120, 0, 0, 0, 0, 0, 0, 0, 0, 0, 0, 0, 0, 0, 0, 0, 0, 0, 0, 0, 0, 0, 0, 0, 0, 0, 0, 0, 0])
theorem ls_197 : ss_197.length = 120 := by unfold ss_197; rw [List.length_set, ls_196]
def ss_198 : List ic_S := ss_197 ++ [(100, 6, [])]
theorem ls_198 : ss_198.length = 121 := by unfold ss_198; rw [List.length_append, ls_197]; rfl
def ss_199 : List ic_S := ss_198.set 114 (12, 0, [116, 117, 0, 118, 119, 0, 0, 0, 0, 0, 0, 0, 120, 121, 0, 0, 0, 0, 0, 0, 0, 0, 0, 0, 0, 0, 0, 0, 0, 0, 0, 0, 0, 0, 0, 0, 0, 0, 0, 0, 0])
theorem ls_199 : ss_199.length = 121 := by unfold ss_199; rw [List.length_set, ls_198]
def ss_200 : List ic_S := ss_199 ++ [(100, 4, [])]
theorem ls_200 : ss_200.length = 122 := by unfold ss_200; rw [List.length_append, ls_199]; rfl
def ss_201 : List ic_S := ss_200.set 114 (12, 0, [116, 117, 0, 118, 119, 0, 0, 0, 0, 0, 0, 0, 120, 121, 122, 0, 0, 0, 0, 0, 0, 0, 0, 0, 0, 0, 0, 0, 0, 0, 0, 0, 0, 0, 0, 0, 0, 0, 0, 0, 0])
theorem ls_201 : ss_201.length = 122 := by unfold ss_201; rw [List.length_set, ls_200]
def ss_202 : List ic_S := ss_201 ++ [(100, 4, [])]
theorem ls_202 : ss_202.length = 123 := by unfold ss_202; rw [List.length_append, ls_201]; rfl
def ss_203 : List ic_S := ss_202.set 114 (12, 0, [116, 117, 0, 118, 119, 0, 0, 0, 0, 0, 0, 0, 120, 121, 122, 123, 0, 0, 0, 0, 0, 0, 0, 0, 0, 0, 0, 0, 0, 0, 0, 0, 0, 0, 0, 0, 0, 0, 0, 0, 0])
theorem ls_203 : ss_203.length = 123 := by unfold ss_203; rw [List.length_set, ls_202]
def ss_204 : List ic_S := ss_203 ++ [(100, 16, [])]
theorem ls_204 : ss_204.length = 124 := by unfold ss_204; rw [List.length_append, ls_203]; rfl
def ss_205 : List ic_S := ss_204.set 114 (12, 0, [116, 117, 0, 118, 119, 0, 0, 0, 0, 0, 0, 0, 120, 121, 122, 123, 0, 0, 0, 0, 0, 0, 0, 124, 0, 0, 0, 0, 0, 0, 0, 0, 0, 0, 0, 0, 0, 0, 0, 0, 0])
theorem ls_205 : ss_205.length = 124 := by unfold ss_205; rw [List.length_set, ls_204]
def ss_206 : List ic_S := ss_205 ++ [(100, 16, [])]
theorem ls_206 : ss_206.length = 125 := by unfold ss_206; rw [List.length_append, ls_205]; rfl
def ss_207 : List ic_S := ss_206.set 114 (12, 0, [116, 117, 0, 118, 119, 0, 0, 0, 0, 0, 0, 0, 120, 121, 122, 123, 0, 0, 0, 0, 0, 0, 0, 124, 125, 0, 0, 0, 0, 0, 0, 0, 0, 0, 0, 0, 0, 0, 0, 0, 0])
theorem ls_207 : ss_207.length = 125 := by unfold ss_207; rw [List.length_set, ls_206]
def ss_208 : List ic_S := ss_207 ++ [(100, 12, [])]
theorem ls_208 : ss_208.length = 126 := by unfold ss_208; rw [List.length_append, ls_207]; rfl
def ss_209 : List ic_S := ss_208.set 114 (12, 0, [116, 117, 0, 118, 119, 0, 0, 0, 0, 0, 0, 0, 120, 121, 122, 123, 0, 0, 0, 0, 0, 0, 0, 124, 125, 0, 0, 126, 0, 0, 0, 0, 0, 0, 0, 0, 0, 0, 0, 0, 0])
theorem ls_209 : ss_209.length = 126 := by unfold ss_209; rw [List.length_set, ls_208]
def ss_210 : List ic_S := ss_209 ++ [(100, 4, [])]
theorem ls_210 : ss_210.length = 127 := by unfold ss_210; rw [List.length_append, ls_209]; rfl
def ss_211 : List ic_S := ss_210.set 114 (12, 0, [116, 117, 0, 118, 119, 0, 0, 0, 0, 0, 0, 0, 120, 121, 122, 123, 0, 0, 0, 0, 0, 0, 0, 124, 125, 0, 0, 126, 0, 127, 0, 0, 0, 0, 0, 0, 0, 0, 0, 0, 0])
theorem ls_211 : ss_211.length = 127 := by unfold ss_211; rw [List.length_set, ls_210]
def ss_212 : List ic_S := ss_211 ++ [(100, 4, [])]
theorem ls_212 : ss_212.length = 128 := by unfold ss_212; rw [List.length_append, ls_211]; rfl
def ss_213 : List ic_S := ss_212.set 114 (12, 0, [116, 117, 0, 118, 119, 0, 0, 0, 0, 0, 0, 0, 120, 121, 122, 123, 0, 0, 0, 0, 0, 0, 0, 124, 125, 0, 0, 126, 0, 127, 128, 0, 0, 0, 0, 0, 0, 0, 0, 0, 0])
theorem ls_213 : ss_213.length = 128 := by unfold ss_213; rw [List.length_set, ls_212]
def ss_214 : List ic_S := ss_213 ++ [(100, 160, [])]
theorem ls_214 : ss_214.length = 129 := by unfold ss_214; rw [List.length_append, ls_213]; rfl
def ss_215 : List ic_S := ss_214.set 114 (12, 0, [116, 117, 0, 118, 119, 0, 0, 0, 0, 0, 0, 0, 120, 121, 122, 123, 0, 0, 0, 0, 0, 0, 0, 124, 125, 0, 0, 126, 0, 127, 128, 129, 0, 0, 0, 0, 0, 0, 0, 0, 0])
theorem ls_215 : ss_215.length = 129 := by unfold ss_215; rw [List.length_set, ls_214]
def ss_216 : List ic_S := ss_215 ++ [(100, 4, [])]
theorem ls_216 : ss_216.length = 130 := by unfold ss_216; rw [List.length_append, ls_215]; rfl
def ss_217 : List ic_S := ss_216.set 114 (12, 0, [116, 117, 0, 118, 119, 0, 0, 0, 0, 0, 0, 0, 120, 121, 122, 123, 0, 0, 0, 0, 0, 0, 0, 124, 125, 0, 0, 126, 0, 127, 128, 129, 130, 0, 0, 0, 0, 0, 0, 0, 0])
theorem ls_217 : ss_217.length = 130 := by unfold ss_217; rw [List.length_set, ls_216]
def ss_218 : List ic_S := ss_217 ++ [(100, 4, [])]
theorem ls_218 : ss_218.length = 131 := by unfold ss_218; rw [List.length_append, ls_217]; rfl
def ss_219 : List ic_S := ss_218.set 114 (12, 0, [116, 117, 0, 118, 119, 0, 0, 0, 0, 0, 0, 0, 120, 121, 122, 123, 0, 0, 0, 0, 0, 0, 0, 124, 125, 0, 0, 126, 0, 127, 128, 129, 130, 131, 0, 0, 0, 0, 0, 0, 0])
theorem ls_219 : ss_219.length = 131 := by unfold ss_219; rw [List.length_set, ls_218]
def ss_220 : List ic_S := ss_219 ++ [(100, 4, [])]
theorem ls_220 : ss_220.length = 132 := by unfold ss_220; rw [List.length_append, ls_219]; rfl
def ss_221 : List ic_S := ss_220.set 114 (12, 0, [116, 117, 0, 118, 119, 0, 0, 0, 0, 0, 0, 0, 120, 121, 122, 123, 0, 0, 0, 0, 0, 0, 0, 124, 125, 0, 0, 126, 0, 127, 128, 129, 130, 131, 132, 0, 0, 0, 0, 0, 0])
theorem ls_221 : ss_221.length = 132 := by unfold ss_221; rw [List.length_set, ls_220]
def ss_222 : List ic_S := ss_221 ++ [(100, 30, [])]
theorem ls_222 : ss_222.length = 133 := by unfold ss_222; rw [List.length_append, ls_221]; rfl
def ss_223 : List ic_S := ss_222.set 114 (12, 0, [116, 117, 0, 118, 119, 0, 0, 0, 0, 0, 0, 0, 120, 121, 122, 123, 0, 0, 0, 0, 0, 0, 0, 124, 125, 0, 0, 126, 0, 127, 128, 129, 130, 131, 132, 133, 0, 0, 0, 0, 0])
theorem ls_223 : ss_223.length = 133 := by unfold ss_223; rw [List.length_set, ls_222]
def cw_30 (w : ic_w) : ic_w := (wu (wu (wu (wu (wu (wu (wu (wu (wu (wu (wu (wu (wu (wu (wu (wu (wu (wu (wu (wu (wu (wu w 126 0 4294967295) 126 1 4294967295) 126 2 4294967295) 126 3 4294967295) 115 2 12) 115 4 1) 115 56 5) 115 57 5) 115 58 5) 115 59 5) 115 60 5) 115 61 5) 115 62 5) 115 63 5) 115 64 5) 115 65 5) 115 66 5) 115 67 5) 115 68 5) 115 69 5) 115 70 5) 115 71 5)
theorem cz_30 {w : ic_w} (hz : Zf 115 w) : Zf 133 (cw_30 w) := by
  unfold cw_30
  exact Zf.le (n := 127) (m := 133) ((Zf.up (n := 127) (m := 127) ((Zf.up (n := 127) (m := 127) ((Zf.up (n := 127) (m := 127) ((Zf.up (n := 127) (m := 127) ((Zf.up (n := 127) (m := 127) ((Zf.up (n := 127) (m := 127) ((Zf.up (n := 127) (m := 127) ((Zf.up (n := 127) (m := 127) ((Zf.up (n := 127) (m := 127) ((Zf.up (n := 127) (m := 127) ((Zf.up (n := 127) (m := 127) ((Zf.up (n := 127) (m := 127) ((Zf.up (n := 127) (m := 127) ((Zf.up (n := 127) (m := 127) ((Zf.up (n := 127) (m := 127) ((Zf.up (n := 127) (m := 127) ((Zf.up (n := 127) (m := 127) ((Zf.up (n := 127) (m := 127) ((Zf.up (n := 127) (m := 127) ((Zf.up (n := 127) (m := 127) ((Zf.up (n := 127) (m := 127) ((Zf.up (n := 115) (m := 127) (hz) (by decide) (by decide))) (by decide) (by decide))) (by decide) (by decide))) (by decide) (by decide))) (by decide) (by decide))) (by decide) (by decide))) (by decide) (by decide))) (by decide) (by decide))) (by decide) (by decide))) (by decide) (by decide))) (by decide) (by decide))) (by decide) (by decide))) (by decide) (by decide))) (by decide) (by decide))) (by decide) (by decide))) (by decide) (by decide))) (by decide) (by decide))) (by decide) (by decide))) (by decide) (by decide))) (by decide) (by decide))) (by decide) (by decide))) (by decide) (by decide))) (by decide)
set_option maxHeartbeats 4000000 in
set_option maxRecDepth 100000 in
theorem cI_30 {l : Launch} {E : ic_E} {w : ic_w} (hz : Zf 115 w) : ic_CI l E mX12_init 1 18 2422 True [ic_pt E 114] ss_187 (hn w) ss_223 (ic_qv (fun h_ => h_ = hn (cw_30 w))) := by
  refine ic_introI (by decide +kernel) (Nat.le_of_ble_eq_true rfl) ?_
  show xx l E _ _ 0 [(0, ic_pt E 114)] _ _ _
  refine xx_aload_nP (pc := 0) dX12_init_0 0 rfl rfl ?_
  refine xx_objI (pc := 1) dX12_init_1 (show Cond.methodLink RX12 1 Lib.objectInit ∈ ic_W from ic_in 1269 (by decide +kernel) rfl) oi_all ⟨Nat.le_of_ble_eq_true rfl, Nat.le_of_ble_eq_true rfl⟩ (Nat.le_of_ble_eq_true rfl) ?_
  refine xx_aload_nP (pc := 4) dX12_init_4 0 rfl rfl ?_
  refine xx_sipush (pc := 5) dX12_init_5 cc_sipush_578 ?_
  refine xx_newaI (n := 115) (N := 578) (sh2 := ss_188) (pc := 8) dX12_init_8 (ic_in 152 (by decide +kernel) rfl) trivial ls_187 rfl (by decide) (hz.h (by decide)) ⟨Nat.le_of_ble_eq_true rfl, Nat.le_of_ble_eq_true rfl⟩ ?_
  refine xx_putF (o := 114) (t := 115) (sh2 := ss_189) (pc := 10) dX12_init_10 (show ss_188[114]? = some (12, 0, [0, 0, 0, 0, 0, 0, 0, 0, 0, 0, 0, 0, 0, 0, 0, 0, 0, 0, 0, 0, 0, 0, 0, 0, 0, 0, 0, 0, 0, 0, 0, 0, 0, 0, 0, 0, 0, 0, 0, 0, 0]) by decide +kernel) fX12_7_12 rfl rfl rfl rfl (by decide) (by decide) rfl ?_
  refine xx_aload_nP (pc := 13) dX12_init_13 0 rfl rfl ?_
  refine xx_sipush (pc := 14) dX12_init_14 cc_sipush_578 ?_
  refine xx_newaI (n := 116) (N := 578) (sh2 := ss_190) (pc := 17) dX12_init_17 (ic_in 152 (by decide +kernel) rfl) trivial ls_189 rfl (by decide) (hz.h (by decide)) ⟨Nat.le_of_ble_eq_true rfl, Nat.le_of_ble_eq_true rfl⟩ ?_
  refine xx_putF (o := 114) (t := 116) (sh2 := ss_191) (pc := 19) dX12_init_19 (show ss_190[114]? = some (12, 0, [116, 0, 0, 0, 0, 0, 0, 0, 0, 0, 0, 0, 0, 0, 0, 0, 0, 0, 0, 0, 0, 0, 0, 0, 0, 0, 0, 0, 0, 0, 0, 0, 0, 0, 0, 0, 0, 0, 0, 0, 0]) by decide +kernel) fX12_13_12 rfl rfl rfl rfl (by decide) (by decide) rfl ?_
  refine xx_aload_nP (pc := 22) dX12_init_22 0 rfl rfl ?_
  refine xx_sipush (pc := 23) dX12_init_23 cc_sipush_220 ?_
  refine xx_newaI (n := 117) (N := 220) (sh2 := ss_192) (pc := 26) dX12_init_26 (ic_in 152 (by decide +kernel) rfl) trivial ls_191 rfl (by decide) (hz.h (by decide)) ⟨Nat.le_of_ble_eq_true rfl, Nat.le_of_ble_eq_true rfl⟩ ?_
  refine xx_putF (o := 114) (t := 117) (sh2 := ss_193) (pc := 28) dX12_init_28 (show ss_192[114]? = some (12, 0, [116, 117, 0, 0, 0, 0, 0, 0, 0, 0, 0, 0, 0, 0, 0, 0, 0, 0, 0, 0, 0, 0, 0, 0, 0, 0, 0, 0, 0, 0, 0, 0, 0, 0, 0, 0, 0, 0, 0, 0, 0]) by decide +kernel) fX12_16_12 rfl rfl rfl rfl (by decide) (by decide) rfl ?_
  refine xx_aload_nP (pc := 31) dX12_init_31 0 rfl rfl ?_
  refine xx_sipush (pc := 32) dX12_init_32 cc_sipush_200 ?_
  refine xx_newaI (n := 118) (N := 200) (sh2 := ss_194) (pc := 35) dX12_init_35 (ic_in 152 (by decide +kernel) rfl) trivial ls_193 rfl (by decide) (hz.h (by decide)) ⟨Nat.le_of_ble_eq_true rfl, Nat.le_of_ble_eq_true rfl⟩ ?_
  refine xx_putF (o := 114) (t := 118) (sh2 := ss_195) (pc := 37) dX12_init_37 (show ss_194[114]? = some (12, 0, [116, 117, 0, 118, 0, 0, 0, 0, 0, 0, 0, 0, 0, 0, 0, 0, 0, 0, 0, 0, 0, 0, 0, 0, 0, 0, 0, 0, 0, 0, 0, 0, 0, 0, 0, 0, 0, 0, 0, 0, 0]) by decide +kernel) fX12_19_12 rfl rfl rfl rfl (by decide) (by decide) rfl ?_
  refine xx_aload_nP (pc := 40) dX12_init_40 0 rfl rfl ?_
  refine xx_sipush (pc := 41) dX12_init_41 cc_sipush_578 ?_
  refine xx_newaI (n := 119) (N := 578) (sh2 := ss_196) (pc := 44) dX12_init_44 (ic_in 152 (by decide +kernel) rfl) trivial ls_195 rfl (by decide) (hz.h (by decide)) ⟨Nat.le_of_ble_eq_true rfl, Nat.le_of_ble_eq_true rfl⟩ ?_
  refine xx_putF (o := 114) (t := 119) (sh2 := ss_197) (pc := 46) dX12_init_46 (show ss_196[114]? = some (12, 0, [116, 117, 0, 118, 119, 0, 0, 0, 0, 0, 0, 0, 0, 0, 0, 0, 0, 0, 0, 0, 0, 0, 0, 0, 0, 0, 0, 0, 0, 0, 0, 0, 0, 0, 0, 0, 0, 0, 0, 0, 0]) by decide +kernel) fX12_22_12 rfl rfl rfl rfl (by decide) (by decide) rfl ?_
  refine xx_aload_nP (pc := 49) dX12_init_49 0 rfl rfl ?_
  refine xx_bipush (pc := 50) dX12_init_50 cc_bipush_6 ?_
  refine xx_newaI (n := 120) (N := 6) (sh2 := ss_198) (pc := 52) dX12_init_52 (ic_in 152 (by decide +kernel) rfl) trivial ls_197 rfl (by decide) (hz.h (by decide)) ⟨Nat.le_of_ble_eq_true rfl, Nat.le_of_ble_eq_true rfl⟩ ?_
  refine xx_putF (o := 114) (t := 120) (sh2 := ss_199) (pc := 54) dX12_init_54 (show ss_198[114]? = some (12, 0, [116, 117, 0, 118, 119, 0, 0, 0, 0, 0, 0, 0, 120, 0, 0, 0, 0, 0, 0, 0, 0, 0, 0, 0, 0, 0, 0, 0, 0, 0, 0, 0, 0, 0, 0, 0, 0, 0, 0, 0, 0]) by decide +kernel) fX12_25_12 rfl rfl rfl rfl (by decide) (by decide) rfl ?_
  refine xx_aload_nP (pc := 57) dX12_init_57 0 rfl rfl ?_
  refine xx_iconst (pc := 58) dX12_init_58 cc_iconst_4 ?_
  refine xx_newaI (n := 121) (N := 4) (sh2 := ss_200) (pc := 59) dX12_init_59 (ic_in 152 (by decide +kernel) rfl) trivial ls_199 rfl (by decide) (hz.h (by decide)) ⟨Nat.le_of_ble_eq_true rfl, Nat.le_of_ble_eq_true rfl⟩ ?_
  refine xx_putF (o := 114) (t := 121) (sh2 := ss_201) (pc := 61) dX12_init_61 (show ss_200[114]? = some (12, 0, [116, 117, 0, 118, 119, 0, 0, 0, 0, 0, 0, 0, 120, 121, 0, 0, 0, 0, 0, 0, 0, 0, 0, 0, 0, 0, 0, 0, 0, 0, 0, 0, 0, 0, 0, 0, 0, 0, 0, 0, 0]) by decide +kernel) fX12_28_12 rfl rfl rfl rfl (by decide) (by decide) rfl ?_
  refine xx_aload_nP (pc := 64) dX12_init_64 0 rfl rfl ?_
  refine xx_iconst (pc := 65) dX12_init_65 cc_iconst_4 ?_
  refine xx_newaI (n := 122) (N := 4) (sh2 := ss_202) (pc := 66) dX12_init_66 (ic_in 152 (by decide +kernel) rfl) trivial ls_201 rfl (by decide) (hz.h (by decide)) ⟨Nat.le_of_ble_eq_true rfl, Nat.le_of_ble_eq_true rfl⟩ ?_
  refine xx_putF (o := 114) (t := 122) (sh2 := ss_203) (pc := 68) dX12_init_68 (show ss_202[114]? = some (12, 0, [116, 117, 0, 118, 119, 0, 0, 0, 0, 0, 0, 0, 120, 121, 122, 0, 0, 0, 0, 0, 0, 0, 0, 0, 0, 0, 0, 0, 0, 0, 0, 0, 0, 0, 0, 0, 0, 0, 0, 0, 0]) by decide +kernel) fX12_31_12 rfl rfl rfl rfl (by decide) (by decide) rfl ?_
  refine xx_aload_nP (pc := 71) dX12_init_71 0 rfl rfl ?_
  refine xx_bipush (pc := 72) dX12_init_72 cc_bipush_16 ?_
  refine xx_newaI (n := 123) (N := 16) (sh2 := ss_204) (pc := 74) dX12_init_74 (ic_in 152 (by decide +kernel) rfl) trivial ls_203 rfl (by decide) (hz.h (by decide)) ⟨Nat.le_of_ble_eq_true rfl, Nat.le_of_ble_eq_true rfl⟩ ?_
  refine xx_putF (o := 114) (t := 123) (sh2 := ss_205) (pc := 76) dX12_init_76 (show ss_204[114]? = some (12, 0, [116, 117, 0, 118, 119, 0, 0, 0, 0, 0, 0, 0, 120, 121, 122, 123, 0, 0, 0, 0, 0, 0, 0, 0, 0, 0, 0, 0, 0, 0, 0, 0, 0, 0, 0, 0, 0, 0, 0, 0, 0]) by decide +kernel) fX12_34_12 rfl rfl rfl rfl (by decide) (by decide) rfl ?_
  refine xx_aload_nP (pc := 79) dX12_init_79 0 rfl rfl ?_
  refine xx_bipush (pc := 80) dX12_init_80 cc_bipush_16 ?_
  refine xx_newaI (n := 124) (N := 16) (sh2 := ss_206) (pc := 82) dX12_init_82 (ic_in 152 (by decide +kernel) rfl) trivial ls_205 rfl (by decide) (hz.h (by decide)) ⟨Nat.le_of_ble_eq_true rfl, Nat.le_of_ble_eq_true rfl⟩ ?_
  refine xx_putF (o := 114) (t := 124) (sh2 := ss_207) (pc := 84) dX12_init_84 (show ss_206[114]? = some (12, 0, [116, 117, 0, 118, 119, 0, 0, 0, 0, 0, 0, 0, 120, 121, 122, 123, 0, 0, 0, 0, 0, 0, 0, 124, 0, 0, 0, 0, 0, 0, 0, 0, 0, 0, 0, 0, 0, 0, 0, 0, 0]) by decide +kernel) fX12_37_12 rfl rfl rfl rfl (by decide) (by decide) rfl ?_
  refine xx_aload_nP (pc := 87) dX12_init_87 0 rfl rfl ?_
  refine xx_bipush (pc := 88) dX12_init_88 cc_bipush_12 ?_
  refine xx_newaI (n := 125) (N := 12) (sh2 := ss_208) (pc := 90) dX12_init_90 (ic_in 152 (by decide +kernel) rfl) trivial ls_207 rfl (by decide) (hz.h (by decide)) ⟨Nat.le_of_ble_eq_true rfl, Nat.le_of_ble_eq_true rfl⟩ ?_
  refine xx_putF (o := 114) (t := 125) (sh2 := ss_209) (pc := 92) dX12_init_92 (show ss_208[114]? = some (12, 0, [116, 117, 0, 118, 119, 0, 0, 0, 0, 0, 0, 0, 120, 121, 122, 123, 0, 0, 0, 0, 0, 0, 0, 124, 125, 0, 0, 0, 0, 0, 0, 0, 0, 0, 0, 0, 0, 0, 0, 0, 0]) by decide +kernel) fX12_40_12 rfl rfl rfl rfl (by decide) (by decide) rfl ?_
  refine xx_aload_nP (pc := 95) dX12_init_95 0 rfl rfl ?_
  refine xx_iconst (pc := 96) dX12_init_96 cc_iconst_4 ?_
  refine xx_newaI (n := 126) (N := 4) (sh2 := ss_210) (pc := 97) dX12_init_97 (ic_in 152 (by decide +kernel) rfl) trivial ls_209 rfl (by decide) (hz.h (by decide)) ⟨Nat.le_of_ble_eq_true rfl, Nat.le_of_ble_eq_true rfl⟩ ?_
  refine xx_dup (pc := 99) dX12_init_99 rfl ?_
  refine xx_iconst (pc := 100) dX12_init_100 cc_iconst_0 ?_
  refine xx_iconst (pc := 101) dX12_init_101 cc_iconst_m1 ?_
  refine xx_iastN (pc := 102) dX12_init_102 (show ss_210[126]? = some (100, 4, []) by decide +kernel) (by omega) (by decide) ?_
  refine xx_nw (fun w1 ew1 => ?_)
  have hz_w1 : Zf 127 w1 := by rw [ew1]; exact hz.up (by decide) (by decide)
  refine xx_dup (pc := 103) dX12_init_103 rfl ?_
  refine xx_iconst (pc := 104) dX12_init_104 cc_iconst_1 ?_
  refine xx_iconst (pc := 105) dX12_init_105 cc_iconst_m1 ?_
  refine xx_iastN (pc := 106) dX12_init_106 (show ss_210[126]? = some (100, 4, []) by decide +kernel) (by omega) (by decide) ?_
  refine xx_nw (fun w2 ew2 => ?_)
  have hz_w2 : Zf 127 w2 := by rw [ew2]; exact hz_w1.up (by decide) (by decide)
  refine xx_dup (pc := 107) dX12_init_107 rfl ?_
  refine xx_iconst (pc := 108) dX12_init_108 cc_iconst_2 ?_
  refine xx_iconst (pc := 109) dX12_init_109 cc_iconst_m1 ?_
  refine xx_iastN (pc := 110) dX12_init_110 (show ss_210[126]? = some (100, 4, []) by decide +kernel) (by omega) (by decide) ?_
  refine xx_nw (fun w3 ew3 => ?_)
  have hz_w3 : Zf 127 w3 := by rw [ew3]; exact hz_w2.up (by decide) (by decide)
  refine xx_dup (pc := 111) dX12_init_111 rfl ?_
  refine xx_iconst (pc := 112) dX12_init_112 cc_iconst_3 ?_
  refine xx_iconst (pc := 113) dX12_init_113 cc_iconst_m1 ?_
  refine xx_iastN (pc := 114) dX12_init_114 (show ss_210[126]? = some (100, 4, []) by decide +kernel) (by omega) (by decide) ?_
  refine xx_nw (fun w4 ew4 => ?_)
  have hz_w4 : Zf 127 w4 := by rw [ew4]; exact hz_w3.up (by decide) (by decide)
  refine xx_putF (o := 114) (t := 126) (sh2 := ss_211) (pc := 115) dX12_init_115 (show ss_210[114]? = some (12, 0, [116, 117, 0, 118, 119, 0, 0, 0, 0, 0, 0, 0, 120, 121, 122, 123, 0, 0, 0, 0, 0, 0, 0, 124, 125, 0, 0, 126, 0, 0, 0, 0, 0, 0, 0, 0, 0, 0, 0, 0, 0]) by decide +kernel) fX12_43_12 rfl rfl rfl rfl (by decide) (by decide) rfl ?_
  refine xx_aload_nP (pc := 118) dX12_init_118 0 rfl rfl ?_
  refine xx_iconst (pc := 119) dX12_init_119 cc_iconst_4 ?_
  refine xx_newaI (n := 127) (N := 4) (sh2 := ss_212) (pc := 120) dX12_init_120 (ic_in 152 (by decide +kernel) rfl) trivial ls_211 rfl (by decide) (hz_w4.h (by decide)) ⟨Nat.le_of_ble_eq_true rfl, Nat.le_of_ble_eq_true rfl⟩ ?_
  refine xx_putF (o := 114) (t := 127) (sh2 := ss_213) (pc := 122) dX12_init_122 (show ss_212[114]? = some (12, 0, [116, 117, 0, 118, 119, 0, 0, 0, 0, 0, 0, 0, 120, 121, 122, 123, 0, 0, 0, 0, 0, 0, 0, 124, 125, 0, 0, 126, 0, 127, 0, 0, 0, 0, 0, 0, 0, 0, 0, 0, 0]) by decide +kernel) fX12_46_12 rfl rfl rfl rfl (by decide) (by decide) rfl ?_
  refine xx_aload_nP (pc := 125) dX12_init_125 0 rfl rfl ?_
  refine xx_sipush (pc := 126) dX12_init_126 cc_sipush_160 ?_
  refine xx_newaI (n := 128) (N := 160) (sh2 := ss_214) (pc := 129) dX12_init_129 (ic_in 152 (by decide +kernel) rfl) trivial ls_213 rfl (by decide) (hz_w4.h (by decide)) ⟨Nat.le_of_ble_eq_true rfl, Nat.le_of_ble_eq_true rfl⟩ ?_
  refine xx_putF (o := 114) (t := 128) (sh2 := ss_215) (pc := 131) dX12_init_131 (show ss_214[114]? = some (12, 0, [116, 117, 0, 118, 119, 0, 0, 0, 0, 0, 0, 0, 120, 121, 122, 123, 0, 0, 0, 0, 0, 0, 0, 124, 125, 0, 0, 126, 0, 127, 128, 0, 0, 0, 0, 0, 0, 0, 0, 0, 0]) by decide +kernel) fX12_49_12 rfl rfl rfl rfl (by decide) (by decide) rfl ?_
  refine xx_aload_nP (pc := 134) dX12_init_134 0 rfl rfl ?_
  refine xx_iconst (pc := 135) dX12_init_135 cc_iconst_4 ?_
  refine xx_newaI (n := 129) (N := 4) (sh2 := ss_216) (pc := 136) dX12_init_136 (ic_in 152 (by decide +kernel) rfl) trivial ls_215 rfl (by decide) (hz_w4.h (by decide)) ⟨Nat.le_of_ble_eq_true rfl, Nat.le_of_ble_eq_true rfl⟩ ?_
  refine xx_putF (o := 114) (t := 129) (sh2 := ss_217) (pc := 138) dX12_init_138 (show ss_216[114]? = some (12, 0, [116, 117, 0, 118, 119, 0, 0, 0, 0, 0, 0, 0, 120, 121, 122, 123, 0, 0, 0, 0, 0, 0, 0, 124, 125, 0, 0, 126, 0, 127, 128, 129, 0, 0, 0, 0, 0, 0, 0, 0, 0]) by decide +kernel) fX12_52_12 rfl rfl rfl rfl (by decide) (by decide) rfl ?_
  refine xx_aload_nP (pc := 141) dX12_init_141 0 rfl rfl ?_
  refine xx_iconst (pc := 142) dX12_init_142 cc_iconst_4 ?_
  refine xx_newaI (n := 130) (N := 4) (sh2 := ss_218) (pc := 143) dX12_init_143 (ic_in 152 (by decide +kernel) rfl) trivial ls_217 rfl (by decide) (hz_w4.h (by decide)) ⟨Nat.le_of_ble_eq_true rfl, Nat.le_of_ble_eq_true rfl⟩ ?_
  refine xx_putF (o := 114) (t := 130) (sh2 := ss_219) (pc := 145) dX12_init_145 (show ss_218[114]? = some (12, 0, [116, 117, 0, 118, 119, 0, 0, 0, 0, 0, 0, 0, 120, 121, 122, 123, 0, 0, 0, 0, 0, 0, 0, 124, 125, 0, 0, 126, 0, 127, 128, 129, 130, 0, 0, 0, 0, 0, 0, 0, 0]) by decide +kernel) fX12_55_12 rfl rfl rfl rfl (by decide) (by decide) rfl ?_
  refine xx_aload_nP (pc := 148) dX12_init_148 0 rfl rfl ?_
  refine xx_iconst (pc := 149) dX12_init_149 cc_iconst_4 ?_
  refine xx_newaI (n := 131) (N := 4) (sh2 := ss_220) (pc := 150) dX12_init_150 (ic_in 152 (by decide +kernel) rfl) trivial ls_219 rfl (by decide) (hz_w4.h (by decide)) ⟨Nat.le_of_ble_eq_true rfl, Nat.le_of_ble_eq_true rfl⟩ ?_
  refine xx_putF (o := 114) (t := 131) (sh2 := ss_221) (pc := 152) dX12_init_152 (show ss_220[114]? = some (12, 0, [116, 117, 0, 118, 119, 0, 0, 0, 0, 0, 0, 0, 120, 121, 122, 123, 0, 0, 0, 0, 0, 0, 0, 124, 125, 0, 0, 126, 0, 127, 128, 129, 130, 131, 0, 0, 0, 0, 0, 0, 0]) by decide +kernel) fX12_58_12 rfl rfl rfl rfl (by decide) (by decide) rfl ?_
  refine xx_aload_nP (pc := 155) dX12_init_155 0 rfl rfl ?_
  refine xx_bipush (pc := 156) dX12_init_156 cc_bipush_30 ?_
  refine xx_newaI (n := 132) (N := 30) (sh2 := ss_222) (pc := 158) dX12_init_158 (ic_in 152 (by decide +kernel) rfl) trivial ls_221 rfl (by decide) (hz_w4.h (by decide)) ⟨Nat.le_of_ble_eq_true rfl, Nat.le_of_ble_eq_true rfl⟩ ?_
  refine xx_putF (o := 114) (t := 132) (sh2 := ss_223) (pc := 160) dX12_init_160 (show ss_222[114]? = some (12, 0, [116, 117, 0, 118, 119, 0, 0, 0, 0, 0, 0, 0, 120, 121, 122, 123, 0, 0, 0, 0, 0, 0, 0, 124, 125, 0, 0, 126, 0, 127, 128, 129, 130, 131, 132, 0, 0, 0, 0, 0, 0]) by decide +kernel) fX12_61_12 rfl rfl rfl rfl (by decide) (by decide) rfl ?_
  refine xx_aload_nP (pc := 163) dX12_init_163 0 rfl rfl ?_
  refine xx_getR (pc := 164) 115 dX12_init_164 (show ss_223[114]? = some (12, 0, [116, 117, 0, 118, 119, 0, 0, 0, 0, 0, 0, 0, 120, 121, 122, 123, 0, 0, 0, 0, 0, 0, 0, 124, 125, 0, 0, 126, 0, 127, 128, 129, 130, 131, 132, 133, 0, 0, 0, 0, 0]) by decide +kernel) fX12_7_12 rfl rfl (by decide) ?_
  refine xx_iconst (pc := 167) dX12_init_167 cc_iconst_2 ?_
  refine xx_bipush (pc := 168) dX12_init_168 cc_bipush_12 ?_
  refine xx_iastN (pc := 170) dX12_init_170 (show ss_223[115]? = some (100, 578, []) by decide +kernel) (by omega) (by decide) ?_
  refine xx_nw (fun w5 ew5 => ?_)
  have hz_w5 : Zf 133 w5 := by rw [ew5]; exact hz_w4.up (by decide) (by decide)
  refine xx_aload_nP (pc := 171) dX12_init_171 0 rfl rfl ?_
  refine xx_getR (pc := 172) 115 dX12_init_172 (show ss_223[114]? = some (12, 0, [116, 117, 0, 118, 119, 0, 0, 0, 0, 0, 0, 0, 120, 121, 122, 123, 0, 0, 0, 0, 0, 0, 0, 124, 125, 0, 0, 126, 0, 127, 128, 129, 130, 131, 132, 133, 0, 0, 0, 0, 0]) by decide +kernel) fX12_7_12 rfl rfl (by decide) ?_
  refine xx_iconst (pc := 175) dX12_init_175 cc_iconst_4 ?_
  refine xx_iconst (pc := 176) dX12_init_176 cc_iconst_1 ?_
  refine xx_iastN (pc := 177) dX12_init_177 (show ss_223[115]? = some (100, 578, []) by decide +kernel) (by omega) (by decide) ?_
  refine xx_nw (fun w6 ew6 => ?_)
  have hz_w6 : Zf 133 w6 := by rw [ew6]; exact hz_w5.up (by decide) (by decide)
  refine xx_iconst (pc := 178) dX12_init_178 cc_iconst_0 ?_
  refine xx_istore_n (L' := [(1, .int (nI 0)), (0, ic_pt E 114)]) (pc := 179) dX12_init_179 rfl (Nat.le_of_ble_eq_true rfl) rfl ?_
  refine xx_iload_n (pc := 180) dX12_init_180 0 rfl rfl ?_
  refine xx_bipush (pc := 181) dX12_init_181 cc_bipush_16 ?_
  refine xx_icmp_geN (pc := 183) 202 dX12_init_183 rfl (by omega) (by omega) (fun c_ => by exfalso; omega) (fun _ => ?_)
  refine xx_aload_nP (pc := 186) dX12_init_186 1 rfl rfl ?_
  refine xx_getR (pc := 187) 115 dX12_init_187 (show ss_223[114]? = some (12, 0, [116, 117, 0, 118, 119, 0, 0, 0, 0, 0, 0, 0, 120, 121, 122, 123, 0, 0, 0, 0, 0, 0, 0, 124, 125, 0, 0, 126, 0, 127, 128, 129, 130, 131, 132, 133, 0, 0, 0, 0, 0]) by decide +kernel) fX12_7_12 rfl rfl (by decide) ?_
  refine xx_bipush (pc := 190) dX12_init_190 cc_bipush_56 ?_
  refine xx_iload_n (pc := 192) dX12_init_192 0 rfl rfl ?_
  refine xx_iaddN (pc := 193) dX12_init_193 ?_
  refine xx_eqI (y := nI 56) rfl ?_
  refine xx_iconst (pc := 194) dX12_init_194 cc_iconst_5 ?_
  refine xx_iastN (pc := 195) dX12_init_195 (show ss_223[115]? = some (100, 578, []) by decide +kernel) (by omega) (by decide) ?_
  refine xx_nw (fun w7 ew7 => ?_)
  have hz_w7 : Zf 133 w7 := by rw [ew7]; exact hz_w6.up (by decide) (by decide)
  refine xx_iincN (L' := [(1, .int (nI 1)), (0, ic_pt E 114)]) (pc := 196) dX12_init_196 0 rfl cc_iconst_1 (Nat.le_of_ble_eq_true rfl) rfl ?_
  refine xx_goto (pc := 199) 180 dX12_init_199 rfl ?_
  refine xx_iload_n (pc := 180) dX12_init_180 0 rfl rfl ?_
  refine xx_bipush (pc := 181) dX12_init_181 cc_bipush_16 ?_
  refine xx_icmp_geN (pc := 183) 202 dX12_init_183 rfl (by omega) (by omega) (fun c_ => by exfalso; omega) (fun _ => ?_)
  refine xx_aload_nP (pc := 186) dX12_init_186 1 rfl rfl ?_
  refine xx_getR (pc := 187) 115 dX12_init_187 (show ss_223[114]? = some (12, 0, [116, 117, 0, 118, 119, 0, 0, 0, 0, 0, 0, 0, 120, 121, 122, 123, 0, 0, 0, 0, 0, 0, 0, 124, 125, 0, 0, 126, 0, 127, 128, 129, 130, 131, 132, 133, 0, 0, 0, 0, 0]) by decide +kernel) fX12_7_12 rfl rfl (by decide) ?_
  refine xx_bipush (pc := 190) dX12_init_190 cc_bipush_56 ?_
  refine xx_iload_n (pc := 192) dX12_init_192 0 rfl rfl ?_
  refine xx_iaddN (pc := 193) dX12_init_193 ?_
  refine xx_eqI (y := nI 57) rfl ?_
  refine xx_iconst (pc := 194) dX12_init_194 cc_iconst_5 ?_
  refine xx_iastN (pc := 195) dX12_init_195 (show ss_223[115]? = some (100, 578, []) by decide +kernel) (by omega) (by decide) ?_
  refine xx_nw (fun w8 ew8 => ?_)
  have hz_w8 : Zf 133 w8 := by rw [ew8]; exact hz_w7.up (by decide) (by decide)
  refine xx_iincN (L' := [(1, .int (nI 2)), (0, ic_pt E 114)]) (pc := 196) dX12_init_196 0 rfl cc_iconst_1 (Nat.le_of_ble_eq_true rfl) rfl ?_
  refine xx_goto (pc := 199) 180 dX12_init_199 rfl ?_
  refine xx_iload_n (pc := 180) dX12_init_180 0 rfl rfl ?_
  refine xx_bipush (pc := 181) dX12_init_181 cc_bipush_16 ?_
  refine xx_icmp_geN (pc := 183) 202 dX12_init_183 rfl (by omega) (by omega) (fun c_ => by exfalso; omega) (fun _ => ?_)
  refine xx_aload_nP (pc := 186) dX12_init_186 1 rfl rfl ?_
  refine xx_getR (pc := 187) 115 dX12_init_187 (show ss_223[114]? = some (12, 0, [116, 117, 0, 118, 119, 0, 0, 0, 0, 0, 0, 0, 120, 121, 122, 123, 0, 0, 0, 0, 0, 0, 0, 124, 125, 0, 0, 126, 0, 127, 128, 129, 130, 131, 132, 133, 0, 0, 0, 0, 0]) by decide +kernel) fX12_7_12 rfl rfl (by decide) ?_
  refine xx_bipush (pc := 190) dX12_init_190 cc_bipush_56 ?_
  refine xx_iload_n (pc := 192) dX12_init_192 0 rfl rfl ?_
  refine xx_iaddN (pc := 193) dX12_init_193 ?_
  refine xx_eqI (y := nI 58) rfl ?_
  refine xx_iconst (pc := 194) dX12_init_194 cc_iconst_5 ?_
  refine xx_iastN (pc := 195) dX12_init_195 (show ss_223[115]? = some (100, 578, []) by decide +kernel) (by omega) (by decide) ?_
  refine xx_nw (fun w9 ew9 => ?_)
  have hz_w9 : Zf 133 w9 := by rw [ew9]; exact hz_w8.up (by decide) (by decide)
  refine xx_iincN (L' := [(1, .int (nI 3)), (0, ic_pt E 114)]) (pc := 196) dX12_init_196 0 rfl cc_iconst_1 (Nat.le_of_ble_eq_true rfl) rfl ?_
  refine xx_goto (pc := 199) 180 dX12_init_199 rfl ?_
  refine xx_iload_n (pc := 180) dX12_init_180 0 rfl rfl ?_
  refine xx_bipush (pc := 181) dX12_init_181 cc_bipush_16 ?_
  refine xx_icmp_geN (pc := 183) 202 dX12_init_183 rfl (by omega) (by omega) (fun c_ => by exfalso; omega) (fun _ => ?_)
  refine xx_aload_nP (pc := 186) dX12_init_186 1 rfl rfl ?_
  refine xx_getR (pc := 187) 115 dX12_init_187 (show ss_223[114]? = some (12, 0, [116, 117, 0, 118, 119, 0, 0, 0, 0, 0, 0, 0, 120, 121, 122, 123, 0, 0, 0, 0, 0, 0, 0, 124, 125, 0, 0, 126, 0, 127, 128, 129, 130, 131, 132, 133, 0, 0, 0, 0, 0]) by decide +kernel) fX12_7_12 rfl rfl (by decide) ?_
  refine xx_bipush (pc := 190) dX12_init_190 cc_bipush_56 ?_
  refine xx_iload_n (pc := 192) dX12_init_192 0 rfl rfl ?_
  refine xx_iaddN (pc := 193) dX12_init_193 ?_
  refine xx_eqI (y := nI 59) rfl ?_
  refine xx_iconst (pc := 194) dX12_init_194 cc_iconst_5 ?_
  refine xx_iastN (pc := 195) dX12_init_195 (show ss_223[115]? = some (100, 578, []) by decide +kernel) (by omega) (by decide) ?_
  refine xx_nw (fun w10 ew10 => ?_)
  have hz_w10 : Zf 133 w10 := by rw [ew10]; exact hz_w9.up (by decide) (by decide)
  refine xx_iincN (L' := [(1, .int (nI 4)), (0, ic_pt E 114)]) (pc := 196) dX12_init_196 0 rfl cc_iconst_1 (Nat.le_of_ble_eq_true rfl) rfl ?_
  refine xx_goto (pc := 199) 180 dX12_init_199 rfl ?_
  refine xx_iload_n (pc := 180) dX12_init_180 0 rfl rfl ?_
  refine xx_bipush (pc := 181) dX12_init_181 cc_bipush_16 ?_
  refine xx_icmp_geN (pc := 183) 202 dX12_init_183 rfl (by omega) (by omega) (fun c_ => by exfalso; omega) (fun _ => ?_)
  refine xx_aload_nP (pc := 186) dX12_init_186 1 rfl rfl ?_
  refine xx_getR (pc := 187) 115 dX12_init_187 (show ss_223[114]? = some (12, 0, [116, 117, 0, 118, 119, 0, 0, 0, 0, 0, 0, 0, 120, 121, 122, 123, 0, 0, 0, 0, 0, 0, 0, 124, 125, 0, 0, 126, 0, 127, 128, 129, 130, 131, 132, 133, 0, 0, 0, 0, 0]) by decide +kernel) fX12_7_12 rfl rfl (by decide) ?_
  refine xx_bipush (pc := 190) dX12_init_190 cc_bipush_56 ?_
  refine xx_iload_n (pc := 192) dX12_init_192 0 rfl rfl ?_
  refine xx_iaddN (pc := 193) dX12_init_193 ?_
  refine xx_eqI (y := nI 60) rfl ?_
  refine xx_iconst (pc := 194) dX12_init_194 cc_iconst_5 ?_
  refine xx_iastN (pc := 195) dX12_init_195 (show ss_223[115]? = some (100, 578, []) by decide +kernel) (by omega) (by decide) ?_
  refine xx_nw (fun w11 ew11 => ?_)
  have hz_w11 : Zf 133 w11 := by rw [ew11]; exact hz_w10.up (by decide) (by decide)
  refine xx_iincN (L' := [(1, .int (nI 5)), (0, ic_pt E 114)]) (pc := 196) dX12_init_196 0 rfl cc_iconst_1 (Nat.le_of_ble_eq_true rfl) rfl ?_
  refine xx_goto (pc := 199) 180 dX12_init_199 rfl ?_
  refine xx_iload_n (pc := 180) dX12_init_180 0 rfl rfl ?_
  refine xx_bipush (pc := 181) dX12_init_181 cc_bipush_16 ?_
  refine xx_icmp_geN (pc := 183) 202 dX12_init_183 rfl (by omega) (by omega) (fun c_ => by exfalso; omega) (fun _ => ?_)
  refine xx_aload_nP (pc := 186) dX12_init_186 1 rfl rfl ?_
  refine xx_getR (pc := 187) 115 dX12_init_187 (show ss_223[114]? = some (12, 0, [116, 117, 0, 118, 119, 0, 0, 0, 0, 0, 0, 0, 120, 121, 122, 123, 0, 0, 0, 0, 0, 0, 0, 124, 125, 0, 0, 126, 0, 127, 128, 129, 130, 131, 132, 133, 0, 0, 0, 0, 0]) by decide +kernel) fX12_7_12 rfl rfl (by decide) ?_
  refine xx_bipush (pc := 190) dX12_init_190 cc_bipush_56 ?_
  refine xx_iload_n (pc := 192) dX12_init_192 0 rfl rfl ?_
  refine xx_iaddN (pc := 193) dX12_init_193 ?_
  refine xx_eqI (y := nI 61) rfl ?_
  refine xx_iconst (pc := 194) dX12_init_194 cc_iconst_5 ?_
  refine xx_iastN (pc := 195) dX12_init_195 (show ss_223[115]? = some (100, 578, []) by decide +kernel) (by omega) (by decide) ?_
  refine xx_nw (fun w12 ew12 => ?_)
  have hz_w12 : Zf 133 w12 := by rw [ew12]; exact hz_w11.up (by decide) (by decide)
  refine xx_iincN (L' := [(1, .int (nI 6)), (0, ic_pt E 114)]) (pc := 196) dX12_init_196 0 rfl cc_iconst_1 (Nat.le_of_ble_eq_true rfl) rfl ?_
  refine xx_goto (pc := 199) 180 dX12_init_199 rfl ?_
  refine xx_iload_n (pc := 180) dX12_init_180 0 rfl rfl ?_
  refine xx_bipush (pc := 181) dX12_init_181 cc_bipush_16 ?_
  refine xx_icmp_geN (pc := 183) 202 dX12_init_183 rfl (by omega) (by omega) (fun c_ => by exfalso; omega) (fun _ => ?_)
  refine xx_aload_nP (pc := 186) dX12_init_186 1 rfl rfl ?_
  refine xx_getR (pc := 187) 115 dX12_init_187 (show ss_223[114]? = some (12, 0, [116, 117, 0, 118, 119, 0, 0, 0, 0, 0, 0, 0, 120, 121, 122, 123, 0, 0, 0, 0, 0, 0, 0, 124, 125, 0, 0, 126, 0, 127, 128, 129, 130, 131, 132, 133, 0, 0, 0, 0, 0]) by decide +kernel) fX12_7_12 rfl rfl (by decide) ?_
  refine xx_bipush (pc := 190) dX12_init_190 cc_bipush_56 ?_
  refine xx_iload_n (pc := 192) dX12_init_192 0 rfl rfl ?_
  refine xx_iaddN (pc := 193) dX12_init_193 ?_
  refine xx_eqI (y := nI 62) rfl ?_
  refine xx_iconst (pc := 194) dX12_init_194 cc_iconst_5 ?_
  refine xx_iastN (pc := 195) dX12_init_195 (show ss_223[115]? = some (100, 578, []) by decide +kernel) (by omega) (by decide) ?_
  refine xx_nw (fun w13 ew13 => ?_)
  have hz_w13 : Zf 133 w13 := by rw [ew13]; exact hz_w12.up (by decide) (by decide)
  refine xx_iincN (L' := [(1, .int (nI 7)), (0, ic_pt E 114)]) (pc := 196) dX12_init_196 0 rfl cc_iconst_1 (Nat.le_of_ble_eq_true rfl) rfl ?_
  refine xx_goto (pc := 199) 180 dX12_init_199 rfl ?_
  refine xx_iload_n (pc := 180) dX12_init_180 0 rfl rfl ?_
  refine xx_bipush (pc := 181) dX12_init_181 cc_bipush_16 ?_
  refine xx_icmp_geN (pc := 183) 202 dX12_init_183 rfl (by omega) (by omega) (fun c_ => by exfalso; omega) (fun _ => ?_)
  refine xx_aload_nP (pc := 186) dX12_init_186 1 rfl rfl ?_
  refine xx_getR (pc := 187) 115 dX12_init_187 (show ss_223[114]? = some (12, 0, [116, 117, 0, 118, 119, 0, 0, 0, 0, 0, 0, 0, 120, 121, 122, 123, 0, 0, 0, 0, 0, 0, 0, 124, 125, 0, 0, 126, 0, 127, 128, 129, 130, 131, 132, 133, 0, 0, 0, 0, 0]) by decide +kernel) fX12_7_12 rfl rfl (by decide) ?_
  refine xx_bipush (pc := 190) dX12_init_190 cc_bipush_56 ?_
  refine xx_iload_n (pc := 192) dX12_init_192 0 rfl rfl ?_
  refine xx_iaddN (pc := 193) dX12_init_193 ?_
  refine xx_eqI (y := nI 63) rfl ?_
  refine xx_iconst (pc := 194) dX12_init_194 cc_iconst_5 ?_
  refine xx_iastN (pc := 195) dX12_init_195 (show ss_223[115]? = some (100, 578, []) by decide +kernel) (by omega) (by decide) ?_
  refine xx_nw (fun w14 ew14 => ?_)
  have hz_w14 : Zf 133 w14 := by rw [ew14]; exact hz_w13.up (by decide) (by decide)
  refine xx_iincN (L' := [(1, .int (nI 8)), (0, ic_pt E 114)]) (pc := 196) dX12_init_196 0 rfl cc_iconst_1 (Nat.le_of_ble_eq_true rfl) rfl ?_
  refine xx_goto (pc := 199) 180 dX12_init_199 rfl ?_
  refine xx_iload_n (pc := 180) dX12_init_180 0 rfl rfl ?_
  refine xx_bipush (pc := 181) dX12_init_181 cc_bipush_16 ?_
  refine xx_icmp_geN (pc := 183) 202 dX12_init_183 rfl (by omega) (by omega) (fun c_ => by exfalso; omega) (fun _ => ?_)
  refine xx_aload_nP (pc := 186) dX12_init_186 1 rfl rfl ?_
  refine xx_getR (pc := 187) 115 dX12_init_187 (show ss_223[114]? = some (12, 0, [116, 117, 0, 118, 119, 0, 0, 0, 0, 0, 0, 0, 120, 121, 122, 123, 0, 0, 0, 0, 0, 0, 0, 124, 125, 0, 0, 126, 0, 127, 128, 129, 130, 131, 132, 133, 0, 0, 0, 0, 0]) by decide +kernel) fX12_7_12 rfl rfl (by decide) ?_
  refine xx_bipush (pc := 190) dX12_init_190 cc_bipush_56 ?_
  refine xx_iload_n (pc := 192) dX12_init_192 0 rfl rfl ?_
  refine xx_iaddN (pc := 193) dX12_init_193 ?_
  refine xx_eqI (y := nI 64) rfl ?_
  refine xx_iconst (pc := 194) dX12_init_194 cc_iconst_5 ?_
  refine xx_iastN (pc := 195) dX12_init_195 (show ss_223[115]? = some (100, 578, []) by decide +kernel) (by omega) (by decide) ?_
  refine xx_nw (fun w15 ew15 => ?_)
  have hz_w15 : Zf 133 w15 := by rw [ew15]; exact hz_w14.up (by decide) (by decide)
  refine xx_iincN (L' := [(1, .int (nI 9)), (0, ic_pt E 114)]) (pc := 196) dX12_init_196 0 rfl cc_iconst_1 (Nat.le_of_ble_eq_true rfl) rfl ?_
  refine xx_goto (pc := 199) 180 dX12_init_199 rfl ?_
  refine xx_iload_n (pc := 180) dX12_init_180 0 rfl rfl ?_
  refine xx_bipush (pc := 181) dX12_init_181 cc_bipush_16 ?_
  refine xx_icmp_geN (pc := 183) 202 dX12_init_183 rfl (by omega) (by omega) (fun c_ => by exfalso; omega) (fun _ => ?_)
  refine xx_aload_nP (pc := 186) dX12_init_186 1 rfl rfl ?_
  refine xx_getR (pc := 187) 115 dX12_init_187 (show ss_223[114]? = some (12, 0, [116, 117, 0, 118, 119, 0, 0, 0, 0, 0, 0, 0, 120, 121, 122, 123, 0, 0, 0, 0, 0, 0, 0, 124, 125, 0, 0, 126, 0, 127, 128, 129, 130, 131, 132, 133, 0, 0, 0, 0, 0]) by decide +kernel) fX12_7_12 rfl rfl (by decide) ?_
  refine xx_bipush (pc := 190) dX12_init_190 cc_bipush_56 ?_
  refine xx_iload_n (pc := 192) dX12_init_192 0 rfl rfl ?_
  refine xx_iaddN (pc := 193) dX12_init_193 ?_
  refine xx_eqI (y := nI 65) rfl ?_
  refine xx_iconst (pc := 194) dX12_init_194 cc_iconst_5 ?_
  refine xx_iastN (pc := 195) dX12_init_195 (show ss_223[115]? = some (100, 578, []) by decide +kernel) (by omega) (by decide) ?_
  refine xx_nw (fun w16 ew16 => ?_)
  have hz_w16 : Zf 133 w16 := by rw [ew16]; exact hz_w15.up (by decide) (by decide)
  refine xx_iincN (L' := [(1, .int (nI 10)), (0, ic_pt E 114)]) (pc := 196) dX12_init_196 0 rfl cc_iconst_1 (Nat.le_of_ble_eq_true rfl) rfl ?_
  refine xx_goto (pc := 199) 180 dX12_init_199 rfl ?_
  refine xx_iload_n (pc := 180) dX12_init_180 0 rfl rfl ?_
  refine xx_bipush (pc := 181) dX12_init_181 cc_bipush_16 ?_
  refine xx_icmp_geN (pc := 183) 202 dX12_init_183 rfl (by omega) (by omega) (fun c_ => by exfalso; omega) (fun _ => ?_)
  refine xx_aload_nP (pc := 186) dX12_init_186 1 rfl rfl ?_
  refine xx_getR (pc := 187) 115 dX12_init_187 (show ss_223[114]? = some (12, 0, [116, 117, 0, 118, 119, 0, 0, 0, 0, 0, 0, 0, 120, 121, 122, 123, 0, 0, 0, 0, 0, 0, 0, 124, 125, 0, 0, 126, 0, 127, 128, 129, 130, 131, 132, 133, 0, 0, 0, 0, 0]) by decide +kernel) fX12_7_12 rfl rfl (by decide) ?_
  refine xx_bipush (pc := 190) dX12_init_190 cc_bipush_56 ?_
  refine xx_iload_n (pc := 192) dX12_init_192 0 rfl rfl ?_
  refine xx_iaddN (pc := 193) dX12_init_193 ?_
  refine xx_eqI (y := nI 66) rfl ?_
  refine xx_iconst (pc := 194) dX12_init_194 cc_iconst_5 ?_
  refine xx_iastN (pc := 195) dX12_init_195 (show ss_223[115]? = some (100, 578, []) by decide +kernel) (by omega) (by decide) ?_
  refine xx_nw (fun w17 ew17 => ?_)
  have hz_w17 : Zf 133 w17 := by rw [ew17]; exact hz_w16.up (by decide) (by decide)
  refine xx_iincN (L' := [(1, .int (nI 11)), (0, ic_pt E 114)]) (pc := 196) dX12_init_196 0 rfl cc_iconst_1 (Nat.le_of_ble_eq_true rfl) rfl ?_
  refine xx_goto (pc := 199) 180 dX12_init_199 rfl ?_
  refine xx_iload_n (pc := 180) dX12_init_180 0 rfl rfl ?_
  refine xx_bipush (pc := 181) dX12_init_181 cc_bipush_16 ?_
  refine xx_icmp_geN (pc := 183) 202 dX12_init_183 rfl (by omega) (by omega) (fun c_ => by exfalso; omega) (fun _ => ?_)
  refine xx_aload_nP (pc := 186) dX12_init_186 1 rfl rfl ?_
  refine xx_getR (pc := 187) 115 dX12_init_187 (show ss_223[114]? = some (12, 0, [116, 117, 0, 118, 119, 0, 0, 0, 0, 0, 0, 0, 120, 121, 122, 123, 0, 0, 0, 0, 0, 0, 0, 124, 125, 0, 0, 126, 0, 127, 128, 129, 130, 131, 132, 133, 0, 0, 0, 0, 0]) by decide +kernel) fX12_7_12 rfl rfl (by decide) ?_
  refine xx_bipush (pc := 190) dX12_init_190 cc_bipush_56 ?_
  refine xx_iload_n (pc := 192) dX12_init_192 0 rfl rfl ?_
  refine xx_iaddN (pc := 193) dX12_init_193 ?_
  refine xx_eqI (y := nI 67) rfl ?_
  refine xx_iconst (pc := 194) dX12_init_194 cc_iconst_5 ?_
  refine xx_iastN (pc := 195) dX12_init_195 (show ss_223[115]? = some (100, 578, []) by decide +kernel) (by omega) (by decide) ?_
  refine xx_nw (fun w18 ew18 => ?_)
  have hz_w18 : Zf 133 w18 := by rw [ew18]; exact hz_w17.up (by decide) (by decide)
  refine xx_iincN (L' := [(1, .int (nI 12)), (0, ic_pt E 114)]) (pc := 196) dX12_init_196 0 rfl cc_iconst_1 (Nat.le_of_ble_eq_true rfl) rfl ?_
  refine xx_goto (pc := 199) 180 dX12_init_199 rfl ?_
  refine xx_iload_n (pc := 180) dX12_init_180 0 rfl rfl ?_
  refine xx_bipush (pc := 181) dX12_init_181 cc_bipush_16 ?_
  refine xx_icmp_geN (pc := 183) 202 dX12_init_183 rfl (by omega) (by omega) (fun c_ => by exfalso; omega) (fun _ => ?_)
  refine xx_aload_nP (pc := 186) dX12_init_186 1 rfl rfl ?_
  refine xx_getR (pc := 187) 115 dX12_init_187 (show ss_223[114]? = some (12, 0, [116, 117, 0, 118, 119, 0, 0, 0, 0, 0, 0, 0, 120, 121, 122, 123, 0, 0, 0, 0, 0, 0, 0, 124, 125, 0, 0, 126, 0, 127, 128, 129, 130, 131, 132, 133, 0, 0, 0, 0, 0]) by decide +kernel) fX12_7_12 rfl rfl (by decide) ?_
  refine xx_bipush (pc := 190) dX12_init_190 cc_bipush_56 ?_
  refine xx_iload_n (pc := 192) dX12_init_192 0 rfl rfl ?_
  refine xx_iaddN (pc := 193) dX12_init_193 ?_
  refine xx_eqI (y := nI 68) rfl ?_
  refine xx_iconst (pc := 194) dX12_init_194 cc_iconst_5 ?_
  refine xx_iastN (pc := 195) dX12_init_195 (show ss_223[115]? = some (100, 578, []) by decide +kernel) (by omega) (by decide) ?_
  refine xx_nw (fun w19 ew19 => ?_)
  have hz_w19 : Zf 133 w19 := by rw [ew19]; exact hz_w18.up (by decide) (by decide)
  refine xx_iincN (L' := [(1, .int (nI 13)), (0, ic_pt E 114)]) (pc := 196) dX12_init_196 0 rfl cc_iconst_1 (Nat.le_of_ble_eq_true rfl) rfl ?_
  refine xx_goto (pc := 199) 180 dX12_init_199 rfl ?_
  refine xx_iload_n (pc := 180) dX12_init_180 0 rfl rfl ?_
  refine xx_bipush (pc := 181) dX12_init_181 cc_bipush_16 ?_
  refine xx_icmp_geN (pc := 183) 202 dX12_init_183 rfl (by omega) (by omega) (fun c_ => by exfalso; omega) (fun _ => ?_)
  refine xx_aload_nP (pc := 186) dX12_init_186 1 rfl rfl ?_
  refine xx_getR (pc := 187) 115 dX12_init_187 (show ss_223[114]? = some (12, 0, [116, 117, 0, 118, 119, 0, 0, 0, 0, 0, 0, 0, 120, 121, 122, 123, 0, 0, 0, 0, 0, 0, 0, 124, 125, 0, 0, 126, 0, 127, 128, 129, 130, 131, 132, 133, 0, 0, 0, 0, 0]) by decide +kernel) fX12_7_12 rfl rfl (by decide) ?_
  refine xx_bipush (pc := 190) dX12_init_190 cc_bipush_56 ?_
  refine xx_iload_n (pc := 192) dX12_init_192 0 rfl rfl ?_
  refine xx_iaddN (pc := 193) dX12_init_193 ?_
  refine xx_eqI (y := nI 69) rfl ?_
  refine xx_iconst (pc := 194) dX12_init_194 cc_iconst_5 ?_
  refine xx_iastN (pc := 195) dX12_init_195 (show ss_223[115]? = some (100, 578, []) by decide +kernel) (by omega) (by decide) ?_
  refine xx_nw (fun w20 ew20 => ?_)
  have hz_w20 : Zf 133 w20 := by rw [ew20]; exact hz_w19.up (by decide) (by decide)
  refine xx_iincN (L' := [(1, .int (nI 14)), (0, ic_pt E 114)]) (pc := 196) dX12_init_196 0 rfl cc_iconst_1 (Nat.le_of_ble_eq_true rfl) rfl ?_
  refine xx_goto (pc := 199) 180 dX12_init_199 rfl ?_
  refine xx_iload_n (pc := 180) dX12_init_180 0 rfl rfl ?_
  refine xx_bipush (pc := 181) dX12_init_181 cc_bipush_16 ?_
  refine xx_icmp_geN (pc := 183) 202 dX12_init_183 rfl (by omega) (by omega) (fun c_ => by exfalso; omega) (fun _ => ?_)
  refine xx_aload_nP (pc := 186) dX12_init_186 1 rfl rfl ?_
  refine xx_getR (pc := 187) 115 dX12_init_187 (show ss_223[114]? = some (12, 0, [116, 117, 0, 118, 119, 0, 0, 0, 0, 0, 0, 0, 120, 121, 122, 123, 0, 0, 0, 0, 0, 0, 0, 124, 125, 0, 0, 126, 0, 127, 128, 129, 130, 131, 132, 133, 0, 0, 0, 0, 0]) by decide +kernel) fX12_7_12 rfl rfl (by decide) ?_
  refine xx_bipush (pc := 190) dX12_init_190 cc_bipush_56 ?_
  refine xx_iload_n (pc := 192) dX12_init_192 0 rfl rfl ?_
  refine xx_iaddN (pc := 193) dX12_init_193 ?_
  refine xx_eqI (y := nI 70) rfl ?_
  refine xx_iconst (pc := 194) dX12_init_194 cc_iconst_5 ?_
  refine xx_iastN (pc := 195) dX12_init_195 (show ss_223[115]? = some (100, 578, []) by decide +kernel) (by omega) (by decide) ?_
  refine xx_nw (fun w21 ew21 => ?_)
  have hz_w21 : Zf 133 w21 := by rw [ew21]; exact hz_w20.up (by decide) (by decide)
  refine xx_iincN (L' := [(1, .int (nI 15)), (0, ic_pt E 114)]) (pc := 196) dX12_init_196 0 rfl cc_iconst_1 (Nat.le_of_ble_eq_true rfl) rfl ?_
  refine xx_goto (pc := 199) 180 dX12_init_199 rfl ?_
  refine xx_iload_n (pc := 180) dX12_init_180 0 rfl rfl ?_
  refine xx_bipush (pc := 181) dX12_init_181 cc_bipush_16 ?_
  refine xx_icmp_geN (pc := 183) 202 dX12_init_183 rfl (by omega) (by omega) (fun c_ => by exfalso; omega) (fun _ => ?_)
  refine xx_aload_nP (pc := 186) dX12_init_186 1 rfl rfl ?_
  refine xx_getR (pc := 187) 115 dX12_init_187 (show ss_223[114]? = some (12, 0, [116, 117, 0, 118, 119, 0, 0, 0, 0, 0, 0, 0, 120, 121, 122, 123, 0, 0, 0, 0, 0, 0, 0, 124, 125, 0, 0, 126, 0, 127, 128, 129, 130, 131, 132, 133, 0, 0, 0, 0, 0]) by decide +kernel) fX12_7_12 rfl rfl (by decide) ?_
  refine xx_bipush (pc := 190) dX12_init_190 cc_bipush_56 ?_
  refine xx_iload_n (pc := 192) dX12_init_192 0 rfl rfl ?_
  refine xx_iaddN (pc := 193) dX12_init_193 ?_
  refine xx_eqI (y := nI 71) rfl ?_
  refine xx_iconst (pc := 194) dX12_init_194 cc_iconst_5 ?_
  refine xx_iastN (pc := 195) dX12_init_195 (show ss_223[115]? = some (100, 578, []) by decide +kernel) (by omega) (by decide) ?_
  refine xx_nw (fun w22 ew22 => ?_)
  have hz_w22 : Zf 133 w22 := by rw [ew22]; exact hz_w21.up (by decide) (by decide)
  refine xx_iincN (L' := [(1, .int (nI 16)), (0, ic_pt E 114)]) (pc := 196) dX12_init_196 0 rfl cc_iconst_1 (Nat.le_of_ble_eq_true rfl) rfl ?_
  refine xx_goto (pc := 199) 180 dX12_init_199 rfl ?_
  refine xx_iload_n (pc := 180) dX12_init_180 0 rfl rfl ?_
  refine xx_bipush (pc := 181) dX12_init_181 cc_bipush_16 ?_
  refine xx_icmp_geN (pc := 183) 202 dX12_init_183 rfl (by omega) (by omega) (fun _ => ?_) (fun c_ => by exfalso; omega)
  exact xx_vretI (pc := 202) dX12_init_202 rfl (Nat.le_of_ble_eq_true rfl) (Nat.le_of_ble_eq_true rfl) (ic_rv0 (by first | rfl | (rw [ew22, ew21, ew20, ew19, ew18, ew17, ew16, ew15, ew14, ew13, ew12, ew11, ew10, ew9, ew8, ew7, ew6, ew5, ew4, ew3, ew2, ew1]; rfl)))
theorem ss_all : ss_223 = SHs := by decide +kernel
