/-! THE MEMORY AS NUMBERS. A value is a pair (tag, z): 0 an int, 1 a long, 2 a reference that may be null or of any shape, 4 a fixed address (0 the script, i + 1 a string constant), 9 nothing, 10 + sh a reference to an object of shape sh. A memory gives each slot of each object its number. -/
abbrev Sv_t : Type := Nat × Int
abbrev Me_t : Type := Int → Int → Int
def val_ (cs : Nat → Nat) (ad : List Nat) (v : Sv_t) : Value := match v.1 with
  | 0 => .int (Int32.ofInt v.2)
  | 1 => .long (Int64.ofInt v.2)
  | 4 => .ref (cs v.2.toNat)
  | _ => if v.2 < 0 then .null else .ref (ad.getD v.2.toNat 0)
/-- the value is one of its tag -/
def tv_ (shs : List Nat) (v : Sv_t) : Prop := match v.1 with
  | 0 => -2147483648 ≤ v.2 ∧ v.2 ≤ 2147483647
  | 1 => -9223372036854775808 ≤ v.2 ∧ v.2 ≤ 9223372036854775807
  | 2 => v.2 < 0 ∨ v.2.toNat < shs.length
  | 4 => True
  | 9 => True
  | t + 10 => 0 ≤ v.2 ∧ shs[v.2.toNat]? = some t
  | _ => False
def sz_ (sh : Nat) : Nat := (KT_ sh).2.2
/-- z may stand in slot j (place j) of object k of shape sh -/
def ok_ (shs : List Nat) (sh : Nat) (k : Int) (j : Nat) (z : Int) : Prop := tv_ shs ((ty_ sh j).1, z) ∧ ((ty_ sh j).1 < 2 → (ty_ sh j).2.1 ≤ z ∧ z ≤ (ty_ sh j).2.2) ∧ ∀ r, rt_ sh k j (j : Int) = some r → z = r
def MT_ (shs : List Nat) (σ : Me_t) : Prop := ∀ (k sh : Nat), shs[k]? = some sh → ∀ j : Nat, j < sz_ sh → ok_ shs sh (k : Int) j (σ (k : Int) (j : Int))
def ups_ (σ : Me_t) (o j z : Int) : Me_t := fun a b => if a = o ∧ b = j then z else σ a b
theorem ups_s {σ : Me_t} {o j z : Int} : ups_ σ o j z o j = z := by simp [ups_]
theorem ups_n {σ : Me_t} {o j z a b : Int} (h : a ≠ o ∨ b ≠ j) : ups_ σ o j z a b = σ a b := by
  unfold ups_
  rw [if_neg]
  rintro ⟨h1, h2⟩
  rcases h with h | h
  · exact h h1
  · exact h h2
def ent_ (cs : Nat → Nat) (tc : Nat → ClassId) (ad : List Nat) (sh : Nat) (f : Int → Int) : va_E := match KT_ sh with
  | (0, c, n) => .inr (c, (List.range n).map fun j => val_ cs ad ((ty_ sh j).1, f j))
  | (4, _, n) => .inl (tc 4, n, .inr (.inl fun j => Int64.ofInt (f j)))
  | (5, c, n) => .inl (tc (5 + c), n, .inr (.inr (.inr (.inr fun j => if f j < 0 then none else some (ad.getD (f j).toNat 0)))))
  | (a, _, n) => .inl (tc a, n, .inl fun j => Int32.ofInt (f j))
def wl_ (cs : Nat → Nat) (tc : Nat → ClassId) (ad shs : List Nat) (σ : Me_t) : va_W := shs.zipIdx.map fun q => (ad.getD q.2 0, ent_ cs tc ad q.1 (σ q.2))
theorem wl_get {cs : Nat → Nat} {tc : Nat → ClassId} {ad shs : List Nat} {σ : Me_t} {k sh : Nat} (h : shs[k]? = some sh) : (wl_ cs tc ad shs σ)[k]? = some (ad.getD k 0, ent_ cs tc ad sh (σ k)) := by
  simp [wl_, List.getElem?_zipIdx, h]
theorem wl_len {cs : Nat → Nat} {tc : Nat → ClassId} {ad shs : List Nat} {σ : Me_t} : (wl_ cs tc ad shs σ).length = shs.length := by simp [wl_]
theorem wl_none {cs : Nat → Nat} {tc : Nat → ClassId} {ad shs : List Nat} {σ : Me_t} {k : Nat} (h : shs[k]? = none) : (wl_ cs tc ad shs σ)[k]? = none := by
  simp [wl_, List.getElem?_zipIdx, h]
theorem wl_set {cs : Nat → Nat} {tc : Nat → ClassId} {ad shs : List Nat} {σ σ' : Me_t} {k sh : Nat} (h : shs[k]? = some sh) {e : va_E} (he : e = ent_ cs tc ad sh (σ' k)) (hne : ∀ a : Nat, a ≠ k → σ' a = σ a) : (wl_ cs tc ad shs σ).set k (ad.getD k 0, e) = wl_ cs tc ad shs σ' := by
  subst he
  apply List.ext_getElem?
  intro i
  by_cases hi : i = k
  · subst hi
    rw [wl_get h, List.getElem?_set_self (by rw [wl_len]; exact (List.getElem?_eq_some_iff.mp h).1)]
  · rw [List.getElem?_set_ne (Ne.symm hi)]
    cases hs : shs[i]? with
    | none => rw [wl_none hs, wl_none hs]
    | some q => rw [wl_get hs, wl_get hs, hne i hi]
/-- the locals -/
def lh_ (cs : Nat → Nat) (ad : List Nat) (L : List Sv_t) (ls : Array Slot) : Prop := ls.size = L.length ∧ lv_wf ls ∧ ∀ (j : Nat) (v : Sv_t), L[j]? = some v → v.1 ≠ 9 → ls[j]? = some (.val (val_ cs ad v))
def lvp_ (cs : Nat → Nat) (ad : List Nat) (L : List Sv_t) : List (Nat × Value) := L.zipIdx.filterMap fun q => if q.1.1 = 9 then none else some (q.2, val_ cs ad q.1)
theorem lvp_mem {cs : Nat → Nat} {ad : List Nat} {L : List Sv_t} {j : Nat} {w : Value} : (j, w) ∈ lvp_ cs ad L ↔ ∃ v : Sv_t, L[j]? = some v ∧ v.1 ≠ 9 ∧ val_ cs ad v = w := by
  unfold lvp_
  rw [List.mem_filterMap]
  constructor
  · rintro ⟨⟨v, i⟩, h1, h2⟩
    have h3 := List.mem_zipIdx_iff_getElem?.mp h1
    by_cases h9 : v.1 = 9
    · simp [h9] at h2
    · simp [h9] at h2
      obtain ⟨rfl, rfl⟩ := h2
      exact ⟨v, h3, h9, rfl⟩
  · rintro ⟨v, h1, h2, rfl⟩
    exact ⟨(v, j), List.mem_zipIdx_iff_getElem?.mpr h1, by simp [h2]⟩
theorem lh_has {cs : Nat → Nat} {ad : List Nat} {L : List Sv_t} {ls : Array Slot} (h : lh_ cs ad L ls) : lv_has ls L.length (lvp_ cs ad L) := by
  refine ⟨h.1, h.2.1, fun q hq => ?_⟩
  obtain ⟨j, w⟩ := q
  obtain ⟨v, h1, h2, rfl⟩ := lvp_mem.mp hq
  exact h.2.2 j v h1 h2
theorem lh_of {cs : Nat → Nat} {ad : List Nat} {L : List Sv_t} {ls : Array Slot} {n : Nat} {l : List (Nat × Value)} (h : lv_has ls n l) (hn : n = L.length) (hm : ∀ (j : Nat) (v : Sv_t), L[j]? = some v → v.1 ≠ 9 → (j, val_ cs ad v) ∈ l) : lh_ cs ad L ls :=
  ⟨by rw [h.1, hn], h.2.1, fun j v h1 h2 => h.2.2 _ (hm j v h1 h2)⟩
/-- a store into local n: a long that it cuts is gone -/
def ls0_ (L : List Sv_t) (n : Nat) : List Sv_t := match n with
  | 0 => L
  | m + 1 => match L[m]? with
    | some (1, _) => L.set m (9, 0)
    | _ => L
def ls1_ (L : List Sv_t) (n : Nat) (v : Sv_t) : List Sv_t := (ls0_ L n).set n v
def ls2_ (L : List Sv_t) (n : Nat) (v : Sv_t) : List Sv_t := ((ls0_ L n).set n v).set (n + 1) (9, 0)
theorem ls0_len {L : List Sv_t} {n : Nat} : (ls0_ L n).length = L.length := by
  unfold ls0_
  split
  · rfl
  · split <;> simp
theorem ls0_get {L : List Sv_t} {n j : Nat} {v : Sv_t} (h : (ls0_ L n)[j]? = some v) (h9 : v.1 ≠ 9) : L[j]? = some v ∧ ¬ (j + 1 = n ∧ v.1 = 1) := by
  unfold ls0_ at h
  split at h
  · exact ⟨h, fun q => by omega⟩
  next m =>
    split at h
    next z hz =>
      by_cases hj : j = m
      · subst hj
        rw [List.getElem?_set_self (List.getElem?_eq_some_iff.mp hz).1] at h
        cases h
        exact absurd rfl h9
      · rw [List.getElem?_set_ne (Ne.symm hj)] at h
        exact ⟨h, fun q => by omega⟩
    next hn =>
      refine ⟨h, fun q => ?_⟩
      obtain ⟨q1, q2⟩ := q
      have : j = m := by omega
      subst this
      obtain ⟨a, b⟩ := v
      simp only at q2
      subst q2
      exact hn b h
theorem val_cat {cs : Nat → Nat} {ad : List Nat} {v : Sv_t} : (val_ cs ad v).category = if v.1 = 1 then 2 else 1 := by
  obtain ⟨t, z⟩ := v
  unfold val_
  split
  next h => simp only at h; subst h; rfl
  next h => simp only at h; subst h; rfl
  next h => simp only at h; subst h; rfl
  next h1 h2 h3 =>
    have e : (if (t, z).1 = 1 then 2 else 1) = 1 := if_neg h2
    rw [e]
    by_cases hz : z < 0
    · simp [hz, Value.category]
    · simp [hz, Value.category]
theorem lh_st1 {cs : Nat → Nat} {ad : List Nat} {L : List Sv_t} {ls' : Array Slot} {n : Nat} {v : Sv_t} (hn : n < L.length) (h : lv_has ls' L.length ((n, val_ cs ad v) :: (lvp_ cs ad L).filter (fun q => !(q.1 == n) && !(q.1 + 1 == n && q.2.category == 2)))) : lh_ cs ad (ls1_ L n v) ls' := by
  refine lh_of h (by simp [ls1_, ls0_len]) fun j w hj h9 => ?_
  unfold ls1_ at hj
  by_cases e : j = n
  · subst e
    rw [List.getElem?_set_self (by rw [ls0_len]; exact hn)] at hj
    cases hj
    exact List.mem_cons_self
  · rw [List.getElem?_set_ne (Ne.symm e)] at hj
    obtain ⟨h1, h2⟩ := ls0_get hj h9
    refine List.mem_cons_of_mem _ (List.mem_filter.mpr ⟨lvp_mem.mpr ⟨w, h1, h9, rfl⟩, ?_⟩)
    simp only [Bool.and_eq_true, Bool.not_eq_true', beq_eq_false_iff_ne, ne_eq, Bool.and_eq_false_iff]
    refine ⟨e, ?_⟩
    by_cases q : j + 1 = n
    · refine Or.inr fun c => h2 ⟨q, ?_⟩
      rw [val_cat] at c
      by_cases t : w.1 = 1
      · exact t
      · rw [if_neg t] at c; omega
    · exact Or.inl q
theorem lh_st2 {cs : Nat → Nat} {ad : List Nat} {L : List Sv_t} {ls' : Array Slot} {n : Nat} {v : Sv_t} (hn : n + 1 < L.length) (h : lv_has ls' L.length ((n, val_ cs ad v) :: (lvp_ cs ad L).filter (fun q => !(q.1 == n) && (!(q.1 == n + 1) && !(q.1 + 1 == n && q.2.category == 2))))) : lh_ cs ad (ls2_ L n v) ls' := by
  refine lh_of h (by simp [ls2_, ls0_len]) fun j w hj h9 => ?_
  unfold ls2_ at hj
  by_cases e1 : j = n + 1
  · subst e1
    rw [List.getElem?_set_self (by simp [ls0_len]; exact hn)] at hj
    cases hj
    exact absurd rfl h9
  · rw [List.getElem?_set_ne (Ne.symm e1)] at hj
    by_cases e : j = n
    · subst e
      rw [List.getElem?_set_self (by rw [ls0_len]; omega)] at hj
      cases hj
      exact List.mem_cons_self
    · rw [List.getElem?_set_ne (Ne.symm e)] at hj
      obtain ⟨h1, h2⟩ := ls0_get hj h9
      refine List.mem_cons_of_mem _ (List.mem_filter.mpr ⟨lvp_mem.mpr ⟨w, h1, h9, rfl⟩, ?_⟩)
      simp only [Bool.and_eq_true, Bool.not_eq_true', beq_eq_false_iff_ne, ne_eq, Bool.and_eq_false_iff]
      refine ⟨e, e1, ?_⟩
      by_cases q : j + 1 = n
      · refine Or.inr fun c => h2 ⟨q, ?_⟩
        rw [val_cat] at c
        by_cases t : w.1 = 1
        · exact t
        · rw [if_neg t] at c; omega
      · exact Or.inl q
theorem ls1_tv {shs : List Nat} {L : List Sv_t} {n : Nat} {v : Sv_t} (h : ∀ w ∈ L, tv_ shs w) (hv : tv_ shs v) : ∀ w ∈ ls1_ L n v, tv_ shs w := by
  intro w hw
  unfold ls1_ at hw
  rcases List.mem_or_eq_of_mem_set hw with hw | rfl
  · unfold ls0_ at hw
    split at hw
    · exact h w hw
    · split at hw
      · rcases List.mem_or_eq_of_mem_set hw with hw | rfl
        · exact h w hw
        · trivial
      · exact h w hw
  · exact hv
theorem ls2_tv {shs : List Nat} {L : List Sv_t} {n : Nat} {v : Sv_t} (h : ∀ w ∈ L, tv_ shs w) (hv : tv_ shs v) : ∀ w ∈ ls2_ L n v, tv_ shs w := by
  intro w hw
  unfold ls2_ at hw
  rcases List.mem_or_eq_of_mem_set hw with hw | rfl
  · exact ls1_tv h hv w hw
  · trivial
/-! numbers -/
theorem i3_t {z : Int} (h : -2147483648 ≤ z ∧ z ≤ 2147483647) : (Int32.ofInt z).toInt = z := Int32.toInt_ofInt_of_le (by omega) (by omega)
theorem i6_t {z : Int} (h : -9223372036854775808 ≤ z ∧ z ≤ 9223372036854775807) : (Int64.ofInt z).toInt = z := Int64.toInt_ofInt_of_le (by omega) (by omega)
theorem i3_o (x : Int32) : Int32.ofInt x.toInt = x := by simp
theorem i6_o (x : Int64) : Int64.ofInt x.toInt = x := by simp
theorem i3_r (x : Int32) : -2147483648 ≤ x.toInt ∧ x.toInt ≤ 2147483647 := by
  have h1 := Int32.le_toInt x
  have h2 := Int32.toInt_lt x
  constructor <;> omega
theorem i6_r (x : Int64) : -9223372036854775808 ≤ x.toInt ∧ x.toInt ≤ 9223372036854775807 := by
  have h1 := Int64.le_toInt x
  have h2 := Int64.toInt_lt x
  constructor <;> omega
theorem i3_lt {a b : Int} (ha : -2147483648 ≤ a ∧ a ≤ 2147483647) (hb : -2147483648 ≤ b ∧ b ≤ 2147483647) : Int32.ofInt a < Int32.ofInt b ↔ a < b := by rw [Int32.lt_iff_toInt_lt, i3_t ha, i3_t hb]
theorem i3_le {a b : Int} (ha : -2147483648 ≤ a ∧ a ≤ 2147483647) (hb : -2147483648 ≤ b ∧ b ≤ 2147483647) : Int32.ofInt a ≤ Int32.ofInt b ↔ a ≤ b := by rw [Int32.le_iff_toInt_le, i3_t ha, i3_t hb]
theorem i3_eq {a b : Int} (ha : -2147483648 ≤ a ∧ a ≤ 2147483647) (hb : -2147483648 ≤ b ∧ b ≤ 2147483647) : Int32.ofInt a = Int32.ofInt b ↔ a = b := by rw [← Int32.toInt_inj, i3_t ha, i3_t hb]
theorem i6_lt {a b : Int} (ha : -9223372036854775808 ≤ a ∧ a ≤ 9223372036854775807) (hb : -9223372036854775808 ≤ b ∧ b ≤ 9223372036854775807) : Int64.ofInt a < Int64.ofInt b ↔ a < b := by rw [Int64.lt_iff_toInt_lt, i6_t ha, i6_t hb]
theorem i6_eq {a b : Int} (ha : -9223372036854775808 ≤ a ∧ a ≤ 9223372036854775807) (hb : -9223372036854775808 ≤ b ∧ b ≤ 9223372036854775807) : Int64.ofInt a = Int64.ofInt b ↔ a = b := by rw [← Int64.toInt_inj, i6_t ha, i6_t hb]
theorem i3_z : (0 : Int32) = Int32.ofInt 0 := by decide
theorem i6_z : (0 : Int64) = Int64.ofInt 0 := by decide
theorem tdb_ {a b : Int} : (a.tdiv b).natAbs ≤ a.natAbs := by
  rw [Int.natAbs_tdiv]
  exact Nat.div_le_self _ _
theorem i3_div {a b : Int} (ha : -2147483648 ≤ a ∧ a ≤ 2147483647) (hb : -2147483648 ≤ b ∧ b ≤ 2147483647) (hr : -2147483648 ≤ a.tdiv b ∧ a.tdiv b ≤ 2147483647) : Int32.ofInt a / Int32.ofInt b = Int32.ofInt (a.tdiv b) := by
  rw [← Int32.toInt_inj, Int32.toInt_div, i3_t ha, i3_t hb, i3_t hr]
  exact Int.bmod_eq_of_le (by omega) (by omega)
theorem i3_rem {a b : Int} (ha : -2147483648 ≤ a ∧ a ≤ 2147483647) (hb : -2147483648 ≤ b ∧ b ≤ 2147483647) : Int32.ofInt a - Int32.ofInt a / Int32.ofInt b * Int32.ofInt b = Int32.ofInt (a.tmod b) := by
  rw [← Int32.toInt_inj, Int32.toInt_sub, Int32.toInt_mul, Int32.toInt_div, i3_t ha, i3_t hb]
  have e : a.tmod b = a - a.tdiv b * b := by have := Int.tdiv_mul_add_tmod a b; omega
  have hr : -2147483648 ≤ a.tmod b ∧ a.tmod b ≤ 2147483647 := by
    have h1 : (a.tmod b).natAbs ≤ a.natAbs := by rw [Int.natAbs_tmod]; exact Nat.mod_le _ _
    rcases Int.le_total 0 a with h0 | h0
    · have := Int.tmod_nonneg b h0
      omega
    · have := Int.tmod_nonneg b (Int.neg_nonneg_of_nonpos h0)
      rw [Int.neg_tmod] at this
      omega
  rw [i3_t hr, e]
  simp only [Int.sub_bmod_bmod, Int.bmod_mul_bmod, Int.mul_bmod_bmod, Int.bmod_sub_bmod]
  rw [← e]
  exact Int.bmod_eq_of_le (by omega) (by omega)
theorem i6_div {a b : Int} (ha : -9223372036854775808 ≤ a ∧ a ≤ 9223372036854775807) (hb : -9223372036854775808 ≤ b ∧ b ≤ 9223372036854775807) (hr : -9223372036854775808 ≤ a.tdiv b ∧ a.tdiv b ≤ 9223372036854775807) : Int64.ofInt a / Int64.ofInt b = Int64.ofInt (a.tdiv b) := by
  rw [← Int64.toInt_inj, Int64.toInt_div, i6_t ha, i6_t hb, i6_t hr]
  exact Int.bmod_eq_of_le (by omega) (by omega)
theorem i6_rem {a b : Int} (ha : -9223372036854775808 ≤ a ∧ a ≤ 9223372036854775807) (hb : -9223372036854775808 ≤ b ∧ b ≤ 9223372036854775807) : Int64.ofInt a - Int64.ofInt a / Int64.ofInt b * Int64.ofInt b = Int64.ofInt (a.tmod b) := by
  rw [← Int64.toInt_inj, Int64.toInt_sub, Int64.toInt_mul, Int64.toInt_div, i6_t ha, i6_t hb]
  have e : a.tmod b = a - a.tdiv b * b := by have := Int.tdiv_mul_add_tmod a b; omega
  have hr : -9223372036854775808 ≤ a.tmod b ∧ a.tmod b ≤ 9223372036854775807 := by
    have h1 : (a.tmod b).natAbs ≤ a.natAbs := by rw [Int.natAbs_tmod]; exact Nat.mod_le _ _
    rcases Int.le_total 0 a with h0 | h0
    · have := Int.tmod_nonneg b h0
      omega
    · have := Int.tmod_nonneg b (Int.neg_nonneg_of_nonpos h0)
      rw [Int.neg_tmod] at this
      omega
  rw [i6_t hr, e]
  simp only [Int.sub_bmod_bmod, Int.bmod_mul_bmod, Int.mul_bmod_bmod, Int.bmod_sub_bmod]
  rw [← e]
  exact Int.bmod_eq_of_le (by omega) (by omega)
theorem and3_x : ∃ f : Int → Int → Int, ∀ a b : Int, f a b = (Int32.ofInt a &&& Int32.ofInt b).toInt := ⟨fun a b => (Int32.ofInt a &&& Int32.ofInt b).toInt, fun _ _ => rfl⟩
noncomputable def and3_ : Int → Int → Int := Classical.choose and3_x
theorem and3_e (a b : Int) : and3_ a b = (Int32.ofInt a &&& Int32.ofInt b).toInt := Classical.choose_spec and3_x a b
theorem or3_x : ∃ f : Int → Int → Int, ∀ a b : Int, f a b = (Int32.ofInt a ||| Int32.ofInt b).toInt := ⟨fun a b => (Int32.ofInt a ||| Int32.ofInt b).toInt, fun _ _ => rfl⟩
noncomputable def or3_ : Int → Int → Int := Classical.choose or3_x
theorem or3_e (a b : Int) : or3_ a b = (Int32.ofInt a ||| Int32.ofInt b).toInt := Classical.choose_spec or3_x a b
theorem xor3_x : ∃ f : Int → Int → Int, ∀ a b : Int, f a b = (Int32.ofInt a ^^^ Int32.ofInt b).toInt := ⟨fun a b => (Int32.ofInt a ^^^ Int32.ofInt b).toInt, fun _ _ => rfl⟩
noncomputable def xor3_ : Int → Int → Int := Classical.choose xor3_x
theorem xor3_e (a b : Int) : xor3_ a b = (Int32.ofInt a ^^^ Int32.ofInt b).toInt := Classical.choose_spec xor3_x a b
theorem shl3_x : ∃ f : Int → Int → Int, ∀ a b : Int, f a b = (Int32.ofInt a <<< (Int32.ofInt b &&& 31)).toInt := ⟨fun a b => (Int32.ofInt a <<< (Int32.ofInt b &&& 31)).toInt, fun _ _ => rfl⟩
noncomputable def shl3_ : Int → Int → Int := Classical.choose shl3_x
theorem shl3_e (a b : Int) : shl3_ a b = (Int32.ofInt a <<< (Int32.ofInt b &&& 31)).toInt := Classical.choose_spec shl3_x a b
theorem shr3_x : ∃ f : Int → Int → Int, ∀ a b : Int, f a b = (Int32.ofInt a >>> (Int32.ofInt b &&& 31)).toInt := ⟨fun a b => (Int32.ofInt a >>> (Int32.ofInt b &&& 31)).toInt, fun _ _ => rfl⟩
noncomputable def shr3_ : Int → Int → Int := Classical.choose shr3_x
theorem shr3_e (a b : Int) : shr3_ a b = (Int32.ofInt a >>> (Int32.ofInt b &&& 31)).toInt := Classical.choose_spec shr3_x a b
def i2b_ (a : Int) : Int := (Int32.ofInt a).toInt8.toInt32.toInt
def i2s_ (a : Int) : Int := (Int32.ofInt a).toInt16.toInt32.toInt
theorem l2i_x : ∃ f : Int → Int, ∀ a : Int, f a = (Int64.ofInt a).toInt32.toInt := ⟨fun a => (Int64.ofInt a).toInt32.toInt, fun _ => rfl⟩
noncomputable def l2i_ : Int → Int := Classical.choose l2i_x
theorem l2i_e (a : Int) : l2i_ a = (Int64.ofInt a).toInt32.toInt := Classical.choose_spec l2i_x a
theorem and6_x : ∃ f : Int → Int → Int, ∀ a b : Int, f a b = (Int64.ofInt a &&& Int64.ofInt b).toInt := ⟨fun a b => (Int64.ofInt a &&& Int64.ofInt b).toInt, fun _ _ => rfl⟩
noncomputable def and6_ : Int → Int → Int := Classical.choose and6_x
theorem and6_e (a b : Int) : and6_ a b = (Int64.ofInt a &&& Int64.ofInt b).toInt := Classical.choose_spec and6_x a b
theorem or6_x : ∃ f : Int → Int → Int, ∀ a b : Int, f a b = (Int64.ofInt a ||| Int64.ofInt b).toInt := ⟨fun a b => (Int64.ofInt a ||| Int64.ofInt b).toInt, fun _ _ => rfl⟩
noncomputable def or6_ : Int → Int → Int := Classical.choose or6_x
theorem or6_e (a b : Int) : or6_ a b = (Int64.ofInt a ||| Int64.ofInt b).toInt := Classical.choose_spec or6_x a b
theorem shl6_x : ∃ f : Int → Int → Int, ∀ a b : Int, f a b = (Int64.ofInt a <<< ((Int32.ofInt b).toInt64 &&& 63)).toInt := ⟨fun a b => (Int64.ofInt a <<< ((Int32.ofInt b).toInt64 &&& 63)).toInt, fun _ _ => rfl⟩
noncomputable def shl6_ : Int → Int → Int := Classical.choose shl6_x
theorem shl6_e (a b : Int) : shl6_ a b = (Int64.ofInt a <<< ((Int32.ofInt b).toInt64 &&& 63)).toInt := Classical.choose_spec shl6_x a b
theorem shr6_x : ∃ f : Int → Int → Int, ∀ a b : Int, f a b = (Int64.ofInt a >>> ((Int32.ofInt b).toInt64 &&& 63)).toInt := ⟨fun a b => (Int64.ofInt a >>> ((Int32.ofInt b).toInt64 &&& 63)).toInt, fun _ _ => rfl⟩
noncomputable def shr6_ : Int → Int → Int := Classical.choose shr6_x
theorem shr6_e (a b : Int) : shr6_ a b = (Int64.ofInt a >>> ((Int32.ofInt b).toInt64 &&& 63)).toInt := Classical.choose_spec shr6_x a b
def lcmp_ (a b : Int) : Int := if b < a then 1 else if a = b then 0 else -1
theorem i3_l {a : Int} (ha : -2147483648 ≤ a ∧ a ≤ 2147483647) : (Int32.ofInt a).toInt64 = Int64.ofInt a := by
  rw [← Int64.toInt_inj, Int32.toInt_toInt64, i3_t ha, i6_t (by omega)]
theorem lcmp_e {a b : Int} (ha : -9223372036854775808 ≤ a ∧ a ≤ 9223372036854775807) (hb : -9223372036854775808 ≤ b ∧ b ≤ 9223372036854775807) : lg_cmp (Int64.ofInt a) (Int64.ofInt b) = Int32.ofInt (lcmp_ a b) := by
  unfold lg_cmp lcmp_
  by_cases h1 : b < a
  · rw [if_pos h1, if_pos ((i6_lt hb ha).mpr h1)]; decide
  · rw [if_neg h1, if_neg (fun q => h1 ((i6_lt hb ha).mp q))]
    by_cases h2 : a = b
    · rw [if_pos h2, if_pos ((i6_eq ha hb).mpr h2)]; decide
    · rw [if_neg h2, if_neg (fun q => h2 ((i6_eq ha hb).mp q))]; decide
theorem lcmp_r (a b : Int) : -2147483648 ≤ lcmp_ a b ∧ lcmp_ a b ≤ 2147483647 := by
  unfold lcmp_
  split
  · omega
  · split <;> omega
