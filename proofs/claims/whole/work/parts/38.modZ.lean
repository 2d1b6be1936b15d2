/-! doings: rounds of each kind -/
def mo_D (w : ic_w) : Nat := mo_dd (w 114 38) (w 114 39)
def mo_P (w : ic_w) : Nat := mo_pt (w 114 40) (mo_D w)
def mo_wA (w : ic_w) : ic_w := wu (mo_rn (mo_rn w 40) 12) 114 40 (mo_P w)
def mo_rov (w : ic_w) (x : Nat) : Nat := if w 114 37 = 4 then mo_mi (mo_rr (w 114 40) (mo_D w) x) 5 else if w 114 37 = 5 then (if mo_P w = 0 then mo_mi (mo_rr (w 114 40) (mo_D w) x) 5 ^^^ mo_sd 5 (w 114 38) (w 114 38) else 0) else mo_rr (w 114 40) (mo_D w) x
def mo_row (w : ic_w) : ic_w := if w 114 37 = 4 then mo_wA w else if w 114 37 = 5 then (if mo_P w = 0 then mo_rn (mo_wA (mo_rn w 61)) 10 else mo_wA (mo_rn w 61)) else wu (mo_rn w 12) 114 40 (mo_P w)
theorem mo_P_rn (w : ic_w) (c : Nat) : mo_P (mo_rn w c) = mo_P w := by
  unfold mo_P mo_D
  rw [mo_rn_f _ _ (by omega), mo_rn_f _ _ (by omega), mo_rn_f _ _ (by omega)]
theorem mo_D_rn (w : ic_w) (c : Nat) : mo_D (mo_rn w c) = mo_D w := by
  unfold mo_D
  rw [mo_rn_f _ _ (by omega), mo_rn_f _ _ (by omega)]
theorem mo_wA_f (w : ic_w) {j : Nat} (h : j ≠ 36) (h2 : j ≠ 40) : mo_wA w 114 j = w 114 j := by
  unfold mo_wA
  rw [wu_k _ _ _ _ h2, mo_rn_f _ _ h, mo_rn_f _ _ h]
theorem mo_wA_36 {w : ic_w} (h : w 114 36 ≤ 30) : mo_wA w 114 36 ≤ 30 := by
  unfold mo_wA
  rw [wu_k _ _ _ _ (by omega)]
  exact mo_rn_36 (mo_rn_36 h)
theorem mo_wA_40 (w : ic_w) : mo_wA w 114 40 = mo_P w := by
  unfold mo_wA
  rw [wu_s]
theorem mo_P_le (w : ic_w) : mo_P w ≤ 1 := by
  unfold mo_P mo_pt
  split <;> omega

