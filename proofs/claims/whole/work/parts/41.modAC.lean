/-! doings: what stays behind rounds -/
theorem mo_row_f (w : ic_w) {j : Nat} (h : j ≠ 36) (h2 : j ≠ 40) : mo_row w 114 j = w 114 j := by
  unfold mo_row
  split
  · exact mo_wA_f w h h2
  · split
    · split
      · rw [mo_rn_f _ _ h, mo_wA_f _ h h2, mo_rn_f _ _ h]
      · rw [mo_wA_f _ h h2, mo_rn_f _ _ h]
    · rw [wu_k _ _ _ _ h2, mo_rn_f _ _ h]
theorem mo_row_36 {w : ic_w} (h : w 114 36 ≤ 30) : mo_row w 114 36 ≤ 30 := by
  unfold mo_row
  split
  · exact mo_wA_36 h
  · split
    · split
      · exact mo_rn_36 (mo_wA_36 (mo_rn_36 h))
      · exact mo_wA_36 (mo_rn_36 h)
    · rw [wu_k _ _ _ _ (by omega)]
      exact mo_rn_36 h
theorem mo_row_40 (w : ic_w) : mo_row w 114 40 = mo_P w := by
  unfold mo_row
  split
  · exact mo_wA_40 w
  · split
    · split
      · rw [mo_rn_f _ _ (by omega), mo_wA_40, mo_P_rn]
      · rw [mo_wA_40, mo_P_rn]
    · rw [wu_s]

