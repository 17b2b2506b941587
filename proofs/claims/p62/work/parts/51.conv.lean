/-! from the shapes of the making to the shapes of the made -/
def teq_ (a b : Nat) : Bool := a == b || (a == 2 && Nat.ble 10 b)
def ceq_ (a b : Nat) : Bool := a == b || (KT_ a == KT_ b && ((KT_ a).1 == 5 || ((KT_ a).1 == 0 && (List.range (KT_ a).2.2).all fun j => teq_ (ty_ a j).1 (ty_ b j).1)))
theorem val_c {cs : Nat → Nat} {ad : List Nat} {a b : Nat} {z : Int} (h : teq_ a b = true) : val_ cs ad (a, z) = val_ cs ad (b, z) := by
  simp only [teq_, Bool.or_eq_true, beq_iff_eq, Bool.and_eq_true] at h
  rcases h with rfl | ⟨rfl, h⟩
  · rfl
  · have h10 := Nat.le_of_ble_eq_true h
    obtain ⟨u, rfl⟩ : ∃ u, b = u + 10 := ⟨b - 10, by omega⟩
    rfl
theorem ent_c {cs : Nat → Nat} {tc : Nat → ClassId} {ad : List Nat} {a b : Nat} {f : Int → Int} (h : ceq_ a b = true) : ent_ cs tc ad a f = ent_ cs tc ad b f := by
  simp only [ceq_, Bool.or_eq_true, beq_iff_eq, Bool.and_eq_true] at h
  rcases h with rfl | ⟨h1, h2⟩
  · rfl
  · obtain ⟨x, c, n, hK⟩ : ∃ x c n, KT_ a = (x, c, n) := ⟨_, _, _, rfl⟩
    have hKb : KT_ b = (x, c, n) := h1.symm.trans hK
    rw [hK] at h2
    rcases h2 with h2 | ⟨h2, h3⟩
    · simp only at h2
      subst h2
      rw [ent_5 hK, ent_5 hKb]
    · simp only at h2
      subst h2
      rw [ent_0 hK, ent_0 hKb]
      congr 2
      apply List.map_congr_left
      intro j hj
      exact val_c (List.all_eq_true.mp h3 j hj)
theorem wl_c {cs : Nat → Nat} {tc : Nat → ClassId} {ad shs shs' : List Nat} {σ : Me_t} (hl : shs.length = shs'.length) (h : ∀ (k a b : Nat), shs[k]? = some a → shs'[k]? = some b → ceq_ a b = true) : wl_ cs tc ad shs σ = wl_ cs tc ad shs' σ := by
  apply List.ext_getElem?
  intro k
  cases hs : shs[k]? with
  | none =>
    have h1 : shs'[k]? = none := List.getElem?_eq_none_iff.mpr (by rw [← hl]; exact List.getElem?_eq_none_iff.mp hs)
    rw [wl_none hs, wl_none h1]
  | some a =>
    have hk : k < shs'.length := by rw [← hl]; exact (List.getElem?_eq_some_iff.mp hs).1
    have h1 : shs'[k]? = some shs'[k] := List.getElem?_eq_getElem hk
    rw [wl_get hs, wl_get h1, ent_c (h k _ _ hs h1)]
def mck_ (σ : Me_t) (k a b : Nat) : Bool := (a == b && Nat.ble 1 (KT_ a).1 && Nat.ble (KT_ a).1 4) || (sz_ a == sz_ b && (List.range (sz_ b)).all fun j => ((ty_ a j).1 == (ty_ b j).1 && Nat.ble (ty_ b j).1 2 && (rt_ b (k : Int) j (j : Int)).isNone && (Nat.ble 2 (ty_ b j).1 || (decide ((ty_ b j).2.1 ≤ σ (k : Int) (j : Int)) && decide (σ (k : Int) (j : Int) ≤ (ty_ b j).2.2)))) || (Nat.ble 10 (ty_ b j).1 && decide (0 ≤ σ (k : Int) (j : Int)) && SHS_[(σ (k : Int) (j : Int)).toNat]? == some ((ty_ b j).1 - 10) && (match rt_ b (k : Int) j (j : Int) with
  | some r => σ (k : Int) (j : Int) == r
  | none => true)))
def mcs_ (σ : Me_t) : Bool := (List.range 106).all fun k => mck_ σ k (SHR_.getD k 0) (SHS_.getD k 0)
theorem tv_c {shs shs' : List Nat} (hl : shs.length = shs'.length) {t : Nat} {z : Int} (ht : t ≤ 2) (h : tv_ shs (t, z)) : tv_ shs' (t, z) := by
  match t, ht, h with
  | 0, _, h => exact h
  | 1, _, h => exact h
  | 2, _, h =>
    rcases h with h | h
    · exact Or.inl h
    · exact Or.inr (by rw [← hl]; exact h)
  | t + 3, ht, _ => omega
theorem mt_c {σ : Me_t} (hc : mcs_ σ = true) (hM : MT_ SHR_ σ) : MT_ SHS_ σ := by
  intro k b hb j hj
  have hk : k < 106 := (List.getElem?_eq_some_iff.mp hb).1
  have hk2 : k < SHR_.length := hk
  have ha : SHR_[k]? = some SHR_[k] := List.getElem?_eq_getElem hk2
  have h1 := List.all_eq_true.mp hc k (List.mem_range.mpr hk)
  have eb : SHS_.getD k 0 = b := by rw [List.getD_eq_getElem?_getD, hb]; rfl
  have ea : SHR_.getD k 0 = SHR_[k] := by rw [List.getD_eq_getElem?_getD, ha]; rfl
  rw [eb, ea] at h1
  generalize SHR_[k] = a at h1 ha
  have hl : SHR_.length = SHS_.length := rfl
  unfold mck_ at h1
  rw [Bool.or_eq_true] at h1
  rcases h1 with h1 | h1
  · simp only [Bool.and_eq_true, beq_iff_eq] at h1
    obtain ⟨⟨rfl, h2⟩, h3⟩ := h1
    have h2 := Nat.le_of_ble_eq_true h2
    have h3 := Nat.le_of_ble_eq_true h3
    obtain ⟨g1, g2, g3⟩ := hM k a ha j hj
    refine ⟨tv_c hl ?_ g1, g2, g3⟩
    obtain ⟨x, c, n, hK⟩ : ∃ x c n, KT_ a = (x, c, n) := ⟨_, _, _, rfl⟩
    rw [hK] at h2 h3
    simp only at h2 h3
    have hs := SA_ok a x c n hK
    have hx : x = 1 ∨ x = 2 ∨ x = 3 ∨ x = 4 := by omega
    rcases hx with e | e | e | e
    · have := hs.1 e j; rw [this.1, this.2]; omega
    · have := hs.2.1 e j; rw [this.1, this.2.1]; omega
    · have := hs.2.2.1 e j; rw [this.1, this.2.1]; omega
    · have := hs.2.2.2.1 e j; rw [this.1, this.2]; omega
  · simp only [Bool.and_eq_true, beq_iff_eq] at h1
    obtain ⟨hsz, h1⟩ := h1
    have h1 := List.all_eq_true.mp h1 j (List.mem_range.mpr hj)
    rw [Bool.or_eq_true] at h1
    obtain ⟨g1, g2, g3⟩ := hM k a ha j (by rw [hsz]; exact hj)
    rcases h1 with h1 | h1
    · simp only [Bool.and_eq_true, beq_iff_eq] at h1
      obtain ⟨⟨⟨e, h2⟩, h3⟩, h4⟩ := h1
      have h2 := Nat.le_of_ble_eq_true h2
      rw [e] at g1
      refine ⟨tv_c hl h2 g1, fun q => ?_, fun r hr => ?_⟩
      · rw [Bool.or_eq_true] at h4
        rcases h4 with h4 | h4
        · have := Nat.le_of_ble_eq_true h4
          omega
        · simp only [Bool.and_eq_true, decide_eq_true_eq] at h4
          exact h4
      rw [hr] at h3
      cases h3
    · simp only [Bool.and_eq_true, beq_iff_eq, decide_eq_true_eq] at h1
      obtain ⟨⟨⟨h2, h3⟩, h4⟩, h5⟩ := h1
      have h2 := Nat.le_of_ble_eq_true h2
      obtain ⟨u, hu⟩ : ∃ u, (ty_ b j).1 = u + 10 := ⟨(ty_ b j).1 - 10, by omega⟩
      refine ⟨?_, fun q => absurd q (by omega), fun r hr => ?_⟩
      · rw [hu]
        refine ⟨h3, ?_⟩
        rw [h4, hu]
        rfl
      · rw [hr] at h5
        simpa using h5
theorem ceq_all : ∀ (k a b : Nat), SHR_[k]? = some a → SHS_[k]? = some b → ceq_ a b = true := by
  have h : (SHR_.zip SHS_).all (fun q => ceq_ q.1 q.2) = true := by decide +kernel
  intro k a b ha hb
  have : (SHR_.zip SHS_)[k]? = some (a, b) := by rw [List.getElem?_zip_eq_some]; exact ⟨ha, hb⟩
  exact List.all_eq_true.mp h _ (List.mem_of_getElem? this)
theorem conv_ {X : Cx_t} {G : Gx_t} {Q : State → Prop} {cl sl pc : Nat} {ad : List Nat} {σ : Me_t} (hc : mcs_ σ = true) (k : ad.length = 106 → va_D G.2.2.2 (wl_ G.2.2.1 G.2.1 ad SHS_ σ) → WP_ X G Q cl sl ad SHS_ σ pc [(4, 0), (10, 0), (42, 86), (0, 0)] []) : WP_ X G Q cl sl ad (SHR_.take 106) σ pc [(4, 0), (80, 0), (81, 86), (0, 0)] [] := by
  intro hM hA H locs ls hP hD hS hlh vL vS
  have e : SHR_.take 106 = SHR_ := rfl
  rw [e] at hM hA hP hD
  rw [wl_c (shs := SHR_) (shs' := SHS_) rfl ceq_all] at hP hD
  refine k hA hD (mt_c hc hM) hA H locs ls hP hD hS ?_ ?_ (fun v h => by simp at h)
  · refine ⟨hlh.1, hlh.2.1, fun j v hj h9 => ?_⟩
    match j, hj with
    | 0, hj => cases hj; exact hlh.2.2 0 _ rfl (by decide)
    | 1, hj => cases hj; exact hlh.2.2 1 (80, 0) rfl (by decide)
    | 2, hj => cases hj; exact hlh.2.2 2 (81, 86) rfl (by decide)
    | 3, hj => cases hj; exact hlh.2.2 3 _ rfl (by decide)
    | j + 4, hj => simp at hj
  · intro v hv
    simp only [List.mem_cons, List.not_mem_nil, or_false] at hv
    rcases hv with rfl | rfl | rfl | rfl
    · trivial
    · exact ⟨by decide, rfl⟩
    · exact ⟨by decide, rfl⟩
    · exact ⟨by decide, by decide⟩
def s0_ : Me_t := fun k j => match SHR_[k.toNat]? with
  | some sh => dz_ sh j.toNat
  | none => 0
theorem s0_df : DF_ 0 s0_ := by
  intro k sh _ hs j
  unfold s0_
  rw [Int.toNat_natCast, hs, Int.toNat_natCast]
def sF_ : Me_t := T_X11 86 (T_X10 0 s0_)
set_option maxRecDepth 100000 in
theorem sF_mc : mcs_ sF_ = true := by decide +kernel
