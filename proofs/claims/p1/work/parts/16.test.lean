set_option maxRecDepth 10000 in
theorem ct_X9_hasLand (l : Launch) : CT_ l yX9_hasLand cX9_hasLand 2 (some .boolean) 0 0 (fun a : Int × Int => [(15, a.1), (0, a.2)]) (fun z => [(0, z)]) (fun _ _ => True) (fun a σ z σ' => σ' = σ ∧ (z = 1 ∨ z = 0) ∧ (z = 1 ↔ 0 ≤ a.2 ∧ a.2 < σ a.1 2)) := by
  refine ct_of (by decide) (fun _ => Nat.le_refl _) ?_
  intro X G Q ad σ a hl hR E hG R hM hv hp
  obtain ⟨w, n⟩ := a
  have B := @bk_ _ _ _ _ _ _ _ _ _ _ _ _ _ _ [] _ _ none _ flX9_ok plX9_ok knX9_ok eX9_hasLand oX9_hasLand (fun _ h => absurd h List.not_mem_nil) R sok_no E
  refine B rfl ?_
  refine And.intro (fun h1 => ?_) (fun h1 => ?_)
  · refine B rfl ?_
    refine And.intro (by omega) ?_
    refine Exists.intro _ (And.intro rfl ?_)
    refine ⟨rfl, Or.inr rfl, ?_⟩
    dsimp only
    omega
  · refine And.intro (fun h2 => ?_) (fun h2 => ?_)
    · refine B rfl ?_
      refine And.intro (by omega) ?_
      refine Exists.intro _ (And.intro rfl ?_)
      refine ⟨rfl, Or.inr rfl, ?_⟩
      dsimp only
      omega
    · refine B rfl ?_
      refine And.intro (by omega) ?_
      refine Exists.intro _ (And.intro rfl ?_)
      refine ⟨rfl, Or.inl rfl, ?_⟩
      dsimp only
      omega
