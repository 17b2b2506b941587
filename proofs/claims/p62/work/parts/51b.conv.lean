set_option maxRecDepth 100000 in
set_option maxHeartbeats 4000000 in
theorem sF_31 (j : Int) : sF_ 31 j = 0 := (T_X11_n (by decide)).trans rfl
set_option maxRecDepth 100000 in
set_option maxHeartbeats 4000000 in
theorem sF_87 (j : Int) : sF_ 87 j = 0 := rfl
set_option maxRecDepth 100000 in
set_option maxHeartbeats 4000000 in
theorem sF_88 (j : Int) : sF_ 88 j = 0 := rfl
set_option maxRecDepth 100000 in
theorem sF_w : ((sF_ 0 2 = 5 ∧ sF_ 0 3 = 16) ∧ (sF_ 5 2 = 0 ∧ sF_ 5 3 = 0 ∧ sF_ 5 4 = 0 ∧ sF_ 5 5 = 0)) ∧ (sF_ 45 2 = 0 ∧ sF_ 45 3 = 0 ∧ sF_ 45 4 = 0 ∧ sF_ 45 5 = 0) ∧ (sF_ 56 2 = 0 ∧ sF_ 56 3 = 0 ∧ sF_ 56 4 = 0 ∧ sF_ 56 5 = 0) ∧ (sF_ 67 2 = 0 ∧ sF_ 67 3 = 0 ∧ sF_ 67 4 = 0 ∧ sF_ 67 5 = 0) := by decide +kernel
theorem LU_0 {σ : Me_t} {w : Int} (h : σ w 2 = 0 ∧ σ w 3 = 0 ∧ σ w 4 = 0 ∧ σ w 5 = 0) : LG σ w ∧ UW σ w := by
  obtain ⟨h2, h3, h4, h5⟩ := h
  refine ⟨fun i a b c => by omega, ?_⟩
  unfold UW
  rw [h5, h3, h4]
  exact ⟨by omega, by omega, by omega, by omega⟩
theorem sF_C : CI sF_ := by
  obtain ⟨⟨h0, h1⟩, h2, h3, h4⟩ := sF_w
  refine ⟨Or.inl h0, ?_, fun w hw => ?_, fun j j0 j1 => ?_⟩
  · rw [h0.1]
    exact LU_0 h1
  · rcases hw with rfl | rfl | rfl
    · exact LU_0 h2
    · exact LU_0 h3
    · exact LU_0 h4
  · rw [sF_31 j]
    exact Or.inr ⟨by omega, by omega⟩
theorem WB_0 {f : Int → Int} (h : ∀ j : Int, 0 ≤ j → j < 495 → f j = 0) : BWf f ∧ SWf f ∧ UMf f := by
  have h1 := h 1 (by omega) (by omega)
  have h2 := h 2 (by omega) (by omega)
  have h3 := h 3 (by omega) (by omega)
  refine ⟨BW_0 h, fun l a b c => by omega, UM_0 (h 5 (by omega) (by omega)) ?_ ?_⟩
  · rw [h2]
    exact ⟨by omega, by decide⟩
  · rw [h3]
    exact ⟨by omega, by decide⟩
theorem sF_M : MI sF_ := by
  refine ⟨WB_0 (fun j j0 j1 => ?_), fun k k0 k1 => WB_0 (fun j j0 j1 => ?_)⟩
  · exact sF_87 j
  · exact sF_88 _
set_option maxRecDepth 100000 in
theorem sF_R : REL sF_ := by
  refine ⟨fun k a b => ?_, fun k a b => Or.inl ?_⟩
  · have : k = 0 ∨ k = 1 ∨ k = 2 := by omega
    rcases this with rfl | rfl | rfl <;> decide +kernel
  · have : k = 0 ∨ k = 1 ∨ k = 2 ∨ k = 3 := by omega
    rcases this with rfl | rfl | rfl | rfl <;> decide +kernel
