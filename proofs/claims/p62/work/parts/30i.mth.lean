/-! Math.min, Math.max as transformers -/
def TMIN_ : Tr_t := fun args σ k => ∃ x y : Int, args = [(0, x), (0, y)] ∧ ∀ z : Int, z ≤ x ∧ z ≤ y ∧ (z = x ∨ z = y) → k [(0, z)] σ
def TMAX_ : Tr_t := fun args σ k => ∃ x y : Int, args = [(0, x), (0, y)] ∧ ∀ z : Int, x ≤ z ∧ y ≤ z ∧ (z = x ∨ z = y) → k [(0, z)] σ
theorem cmin_eq : cJ9_min_7cf53 = Lib.Math.min.code := by decide +kernel
theorem cmax_eq : cJ9_max_7cf53 = Lib.Math.max.code := by decide +kernel
def hz_min (x y z : Int) : Prop := z ≤ x ∧ z ≤ y ∧ (z = x ∨ z = y)
def hz_max (x y z : Int) : Prop := x ≤ z ∧ y ≤ z ∧ (z = x ∨ z = y)
theorem hzp_min (x y : Int) : hz_min x y (if y < x then y else x) := by unfold hz_min; split <;> omega
theorem hzp_max (x y : Int) : hz_max x y (if x < y then y else x) := by unfold hz_max; split <;> omega
theorem cok_min {X : Cx_t} {G : Gx_t} {Q : State → Prop} {cl sl idx : Nat} {ad shs : List Nat} {own : String} {cc : ByteArray} {nL : Nat} {rty : Option FieldType} (E : EN_ X G own cc nL rty) (hRm : 1 ≤ X.2.2.2.1.frames ∧ 21 ≤ X.2.2.2.1.locals) (hc0 : cl ≤ X.2.2.2.1.cells) (hs0 : sl ≤ X.2.2.2.1.slots) (w1 : Cond.methodLink own idx yJ9_min_7cf53 ∈ gl_) : COK_ X G Q cl sl ad shs cc nL (2 * idx + 1) 2 TMIN_ := by
  obtain ⟨p, l, e, R, s, m, args, below, meth, code⟩ := X
  obtain ⟨D, tc, cs, A⟩ := G
  intro pc i σ L as0 S k hi hd hlen hcs hL hT hk
  have hi : i = .invokestatic idx := by
    rcases hi with ⟨-, h⟩ | ⟨h, -⟩
    · omega
    · rw [show (2 * idx + 1) / 2 = idx by omega] at h; exact h
  subst hi
  obtain ⟨x, y, rfl, hpost⟩ := hT
  intro hM hA H locs ls hP hD hS hlh vL vS
  have vS : ∀ w ∈ (0, y) :: (0, x) :: S, tv_ shs w := vS
  have vy : -2147483648 ≤ y ∧ y ≤ 2147483647 := (vt_ vS).1
  have vx : -2147483648 ≤ x ∧ x ≤ 2147483647 := (vt_ (vt_ vS).2).1
  have hml : code.maxLocals = ls.size := by rw [hlh.1, hL]; exact E.2.2.1
  have hlo : (List.map (fun v => v.category) (List.map (val_ cs ad) S)).sum + 13 ≤ R.locals := by
    rw [map_cat]
    have := hRm.2
    simp only at this
    omega
  have ez : (if Int32.ofInt y < Int32.ofInt x then Int32.ofInt y else Int32.ofInt x) = Int32.ofInt (if y < x then y else x) := by
    by_cases hq : y < x
    · rw [if_pos hq, if_pos ((i3_lt vy vx).mpr hq)]
    · rw [if_neg hq, if_neg (fun q => hq ((i3_lt vy vx).mp q))]
  have hz : (fun z : Int => hz_min x y z) (if y < x then y else x) := hzp_min x y
  have key := hk [(0, if y < x then y else x)] σ (hpost _ hz) hM hA H locs ls hP hD hS hlh vL (vc_ (show tv_ shs (0, if y < x then y else x) from (by show -2147483648 ≤ (if y < x then y else x) ∧ (if y < x then y else x) ≤ 2147483647; split <;> assumption)) (vt_ (vt_ vS).2).2)
  have hg : ∀ w ∈ gl_, w.before args s = true := E.2.2.2.2.1
  have hc := hg _ wc_J9_min_7cf53
  rw [cmin_eq] at hc
  refine va_mmin (cc := cc) (rest := S.map (val_ cs ad)) (x := Int32.ofInt x) (y := Int32.ofInt y) E.1 E.2.1 hml E.2.2.2.1 (hg _ w1) (hg _ wt_J9_min_7cf53) (hg _ wn_J9) hc hRm.1 hlo hc0 hs0 hd ?_
  rw [ez]
  exact key
theorem cok_max {X : Cx_t} {G : Gx_t} {Q : State → Prop} {cl sl idx : Nat} {ad shs : List Nat} {own : String} {cc : ByteArray} {nL : Nat} {rty : Option FieldType} (E : EN_ X G own cc nL rty) (hRm : 1 ≤ X.2.2.2.1.frames ∧ 21 ≤ X.2.2.2.1.locals) (hc0 : cl ≤ X.2.2.2.1.cells) (hs0 : sl ≤ X.2.2.2.1.slots) (w1 : Cond.methodLink own idx yJ9_max_7cf53 ∈ gl_) : COK_ X G Q cl sl ad shs cc nL (2 * idx + 1) 2 TMAX_ := by
  obtain ⟨p, l, e, R, s, m, args, below, meth, code⟩ := X
  obtain ⟨D, tc, cs, A⟩ := G
  intro pc i σ L as0 S k hi hd hlen hcs hL hT hk
  have hi : i = .invokestatic idx := by
    rcases hi with ⟨-, h⟩ | ⟨h, -⟩
    · omega
    · rw [show (2 * idx + 1) / 2 = idx by omega] at h; exact h
  subst hi
  obtain ⟨x, y, rfl, hpost⟩ := hT
  intro hM hA H locs ls hP hD hS hlh vL vS
  have vS : ∀ w ∈ (0, y) :: (0, x) :: S, tv_ shs w := vS
  have vy : -2147483648 ≤ y ∧ y ≤ 2147483647 := (vt_ vS).1
  have vx : -2147483648 ≤ x ∧ x ≤ 2147483647 := (vt_ (vt_ vS).2).1
  have hml : code.maxLocals = ls.size := by rw [hlh.1, hL]; exact E.2.2.1
  have hlo : (List.map (fun v => v.category) (List.map (val_ cs ad) S)).sum + 13 ≤ R.locals := by
    rw [map_cat]
    have := hRm.2
    simp only at this
    omega
  have ez : (if Int32.ofInt x < Int32.ofInt y then Int32.ofInt y else Int32.ofInt x) = Int32.ofInt (if x < y then y else x) := by
    by_cases hq : x < y
    · rw [if_pos hq, if_pos ((i3_lt vx vy).mpr hq)]
    · rw [if_neg hq, if_neg (fun q => hq ((i3_lt vx vy).mp q))]
  have hz : (fun z : Int => hz_max x y z) (if x < y then y else x) := hzp_max x y
  have key := hk [(0, if x < y then y else x)] σ (hpost _ hz) hM hA H locs ls hP hD hS hlh vL (vc_ (show tv_ shs (0, if x < y then y else x) from (by show -2147483648 ≤ (if x < y then y else x) ∧ (if x < y then y else x) ≤ 2147483647; split <;> assumption)) (vt_ (vt_ vS).2).2)
  have hg : ∀ w ∈ gl_, w.before args s = true := E.2.2.2.2.1
  have hc := hg _ wc_J9_max_7cf53
  rw [cmax_eq] at hc
  refine va_mmax (cc := cc) (rest := S.map (val_ cs ad)) (x := Int32.ofInt x) (y := Int32.ofInt y) E.1 E.2.1 hml E.2.2.2.1 (hg _ w1) (hg _ wt_J9_max_7cf53) (hg _ wn_J9) hc hRm.1 hlo hc0 hs0 hd ?_
  rw [ez]
  exact key
