def slen_ (c : Int) : Int := ((lenS_.getD (c - 1).toNat 0 : Nat) : Int)
def schr_ (c i : Int) : Int := (chS_ (c - 1).toNat i.toNat).toInt
def TLEN_ : Tr_t := fun args σ k => ∃ c : Int, args = [(4, c)] ∧ (1 ≤ c ∧ c ≤ 14) ∧ ∀ z : Int, z = slen_ c → 1 ≤ z ∧ z ≤ 5 → k [(0, z)] σ
def TCHR_ : Tr_t := fun args σ k => ∃ c i : Int, args = [(4, c), (0, i)] ∧ (1 ≤ c ∧ c ≤ 14) ∧ (0 ≤ i ∧ i < slen_ c) ∧ ∀ z : Int, z = schr_ c i → 0 ≤ z ∧ z ≤ 122 → k [(0, z)] σ
theorem so_ldcs {X : Cx_t} {G : Gx_t} {Q : State → Prop} {cl sl pc n i : Nat} {ad shs : List Nat} {σ : Me_t} {L S : List Sv_t} {own tx : String} {cc : ByteArray} {nL : Nat} {rty : Option FieldType} (E : EN_ X G own cc nL rty) (hd : decode cc pc = .ok (.ldc n, 2)) (hq : (own, n, tx, i) ∈ strS_) (k : WP_ X G Q cl sl ad shs σ (pc + 2) L ((4, ((i : Int) + 1)) :: S)) : WP_ X G Q cl sl ad shs σ pc L S := by
  intro hM hA H locs ls hP hD hS hlh vL vS
  refine va_ldcS E.1 E.2.1 E.2.2.2.1 (E.2.2.2.2.2.2.2.2.2.2.1 _ hq) hd ?_
  have := k hM hA H locs ls hP hD hS hlh vL (vc_ (show tv_ shs (4, ((i : Int) + 1)) from trivial) vS)
  rw [List.map_cons, val_4, show ((i : Int) + 1).toNat = i + 1 by omega] at this
  exact this
