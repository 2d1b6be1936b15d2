/-! the two systems as they are made say the same-/
def cw_w0 : ic_w := cw_30 (cw_0 (fun _ _ => 0))
theorem zf_0 : Zf 1 (fun _ _ => 0 : ic_w) := fun _ _ => rfl
set_option maxRecDepth 100000 in
theorem i_z115 : Z9 (cw_w0 115) := by
  intro k hk
  unfold cw_w0 cw_30
  iterate 22 rw [wu_k _ _ _ _ (by omega)]
  exact congrFun ((cz_0 zf_0) 115 (by omega)) k
set_option maxRecDepth 100000 in
theorem i_z116 : Z9 (cw_w0 116) := by
  intro k hk
  unfold cw_w0 cw_30
  iterate 22 rw [wu_k _ _ _ _ (by omega)]
  exact congrFun ((cz_0 zf_0) 116 (by omega)) k
set_option maxRecDepth 100000 in
theorem i_cw : Cw cw_w0 (cw_w0 115) := by
  unfold Cw Cn Cs Cr
  decide +kernel
set_option maxRecDepth 100000 in
theorem i_in : In (cw_w0 115) := by
  unfold In
  decide +kernel
set_option maxRecDepth 100000 in
theorem i_5 : cw_w0 115 5 = 0 ∧ cw_w0 115 7 = 0 ∧ cw_w0 115 6 = 0 ∧ cw_w0 114 2 = 0 ∧ cw_w0 0 2 = 0 ∧ cw_w0 63 0 = 0 ∧ cw_w0 64 0 = 0 ∧ cw_w0 0 6 = 0 ∧ cw_w0 114 5 = 0 ∧ cw_w0 0 9 = 0 ∧ cw_w0 114 28 = 0 ∧ cw_w0 0 16 = 0 ∧ cw_w0 114 36 = 0 := by decide +kernel
set_option maxRecDepth 100000 in
theorem i_125 : ∀ j, j < 12 → cw_w0 125 j < 2 ^ 32 := by decide +kernel
set_option maxRecDepth 100000 in
theorem i_ct : Ct cw_w0 (cw_w0 126) (cw_w0 127) (cw_w0 128) := by
  unfold Ct
  decide +kernel
set_option maxRecDepth 100000 in
theorem i_cv : Cv cw_w0 (cw_w0 129) (cw_w0 130) (cw_w0 131) := by
  unfold Cv
  decide +kernel
set_option maxRecDepth 100000 in
theorem i_sv : mo_Sv cw_w0 := by
  unfold mo_Sv
  decide +kernel
theorem i_rel : Rel cw_w0 := by
  obtain ⟨a5, a7, a6, b2, b02, b63, b64, b06, b5, b09, b28, b016, b36⟩ := i_5
  refine ⟨i_cw, ⟨i_in, ⟨fun r hr => by rw [a5] at hr; omega, fun k hk => by rw [a7] at hk; omega⟩, fun i hi => by rw [a6] at hi; omega, i_z115⟩, ⟨b63, b64⟩, ⟨by omega, by omega, i_z116, fun q => by omega⟩, ⟨⟨by omega, by omega, fun j hj => by omega⟩, fun j hj => by omega⟩, ⟨⟨by omega, by omega, fun k hk => by omega⟩, i_125⟩, i_ct, ⟨i_cv, i_sv⟩, by omega, cw_w0, Or.inl ⟨b016, b36⟩, rfl, rfl⟩
