theorem vcat_ {cs : Nat → Nat} {ad : List Nat} {v : Sv_t} (h : v.1 = 1) : (val_ cs ad v).category = 2 := by rw [val_cat, if_pos h]
theorem lgs_len {cs : Nat → Nat} {ad : List Nat} : ∀ as : List Sv_t, (lg_sl (as.map (val_ cs ad))).length = (as.flatMap fun v => bif v.1 == 1 then [v, ((9 : Nat), (0 : Int))] else [v]).length
  | [] => rfl
  | v :: as => by
    have ih := lgs_len (cs := cs) (ad := ad) as
    unfold lg_sl at ih ⊢
    rw [List.map_cons, List.flatMap_cons, List.flatMap_cons, List.length_append, List.length_append, ih, val_cat]
    by_cases h : v.1 = 1
    · have h2 : (v.1 == 1) = true := by simpa using h
      simp [h]
    · have h2 : (v.1 == 1) = false := by simpa using h
      simp [h, h2]
theorem ent_mem {cs : Nat → Nat} {ad : List Nat} : ∀ (as : List Sv_t) (n : Nat) (j : Nat) (v : Sv_t), (as.flatMap fun v => bif v.1 == 1 then [v, ((9 : Nat), (0 : Int))] else [v])[j]? = some v → v.1 ≠ 9 → (n + j, val_ cs ad v) ∈ lv_args n (as.map (val_ cs ad))
  | [], n, j, v, h, _ => by simp at h
  | w :: as, n, j, v, h, h9 => by
    rw [List.flatMap_cons] at h
    rw [List.map_cons]
    unfold lv_args
    rw [val_cat]
    by_cases hw : w.1 = 1
    · have h2 : (w.1 == 1) = true := by simpa using hw
      rw [h2] at h
      rw [if_pos hw, if_pos rfl]
      match j, h with
      | 0, h =>
        simp at h
        subst h
        exact List.mem_cons_self
      | 1, h =>
        simp at h
        subst h
        exact absurd rfl h9
      | j + 2, h =>
        simp only [cond_true, List.cons_append, List.nil_append, List.getElem?_cons_succ] at h
        have := ent_mem (cs := cs) (ad := ad) as (n + 2) j v h h9
        rw [show n + (j + 2) = n + 2 + j by omega]
        exact List.mem_cons_of_mem _ this
    · have h2 : (w.1 == 1) = false := by simpa using hw
      rw [h2] at h
      rw [if_neg hw, if_neg (by omega)]
      match j, h with
      | 0, h =>
        simp at h
        subst h
        exact List.mem_cons_self
      | j + 1, h =>
        simp only [cond_false, List.cons_append, List.nil_append, List.getElem?_cons_succ] at h
        have := ent_mem (cs := cs) (ad := ad) as (n + 1) j v h h9
        rw [show n + (j + 1) = n + 1 + j by omega]
        exact List.mem_cons_of_mem _ this
theorem ent_tv {shs : List Nat} {as : List Sv_t} {nL : Nat} (h : ∀ v ∈ as, tv_ shs v) : ∀ v ∈ entL_ as nL, tv_ shs v := by
  intro v hv
  unfold entL_ at hv
  rcases List.mem_append.mp hv with hv | hv
  · obtain ⟨w, h1, h2⟩ := List.mem_flatMap.mp hv
    cases hw : (w.1 == 1) with
    | true =>
      rw [hw] at h2
      simp at h2
      rcases h2 with rfl | rfl
      · exact h _ h1
      · trivial
    | false =>
      rw [hw] at h2
      simp at h2
      subst h2
      exact h _ h1
  · have := List.eq_of_mem_replicate hv
    subst this
    trivial
/-- A CONTRACT OUT OF A WALK -/
theorem ct_of {α : Type} {l : Launch} {y : MethodName} {cc : ByteArray} {nL : Nat} {ret : Option FieldType} {fr lo : Nat} {as : α → List Sv_t} {rm : Int → List Sv_t} {Pre : α → Me_t → Prop} {Post : α → Me_t → Int → Me_t → Prop} (hy : plainName y.cls = true) (hln : ∀ a, ((as a).flatMap fun v => bif v.1 == 1 then [v, ((9 : Nat), (0 : Int))] else [v]).length ≤ nL)
    (body : ∀ (X : Cx_t) (G : Gx_t) (Q : State → Prop) (ad : List Nat) (σ : Me_t) (a : α), X.2.1 = l → X.2.2.2.1 = { frames := fr, cells := 0, slots := 0, locals := lo } → EN_ X G y.cls cc nL ret → (∀ q, q ∈ ad → G.2.2.2 q) → ROK_ X G Q 0 0 ad SHS_ cc (rk_ ret) (fun r σ' => ∃ z, r = rm z ∧ Post a σ z σ') → MT_ SHS_ σ → (∀ v ∈ as a, tv_ SHS_ v) → Pre a σ → WP_ X G Q 0 0 ad SHS_ σ 0 (entL_ (as a) nL) []) : CT_ l y cc nL ret fr lo as rm Pre Post := by
  intro D tc cs ad σ a hA hM hv hpre
  refine Met.ofW (cc := cc) (maxL := nL) (ret := ret) hy rfl ?_
  intro p e s m args below meth c s₁ B hml hP
  obtain ⟨rfl, hPP, hK, hD0, hXW, hXS⟩ := hP
  have hts := atoms_spec (ws := .code y cc nL ret :: gl_) B.pre
  have E : EN_ (p, l, e, { frames := fr, cells := 0, slots := 0, locals := lo }, s, m, ((as a).map (val_ cs ad)).toArray, below, meth, c) (D, tc, cs, fun q => q ∈ ad) y.cls cc nL ret :=
    ⟨B.exec, B.bytes, hml, findClass_of_methodNamed B.named, fun w hw => hts w (List.mem_cons_of_mem _ hw), hK, B.returns, B.notSynchronized, hXW, hXS⟩
  have hD : va_D (fun q => q ∈ ad) (wl_ cs tc ad SHS_ σ) := ⟨hD0.1, fun k q hk => wl_in hA hk⟩
  have b := body _ _ _ ad σ a rfl rfl E (fun _ h => h) (rok_ E rfl) hM hv hpre hM hA s.heap [] ((lg_sl ((as a).map (val_ cs ad)) ++ List.replicate (nL - (lg_sl ((as a).map (val_ cs ad))).length) Slot.unset).toArray) hPP hD va_S.rf ?_ (ent_tv hv) (fun v h => by simp at h)
  · rw [lg_entry_eq]
    exact b
  · have h1 := lv_entry ((as a).map (val_ cs ad)) (n := nL) (by rw [lgs_len]; exact hln a)
    refine lh_of h1 ?_ ?_
    · unfold entL_
      have := hln a
      simp only [List.length_append, List.length_replicate]
      omega
    · intro j v hj h9
      unfold entL_ at hj
      by_cases hlt : j < ((as a).flatMap fun v => bif v.1 == 1 then [v, ((9 : Nat), (0 : Int))] else [v]).length
      · rw [List.getElem?_append_left hlt] at hj
        have := ent_mem (cs := cs) (ad := ad) (as a) 0 j v hj h9
        rw [Nat.zero_add] at this
        exact this
      · rw [List.getElem?_append_right (by omega)] at hj
        have := List.eq_of_mem_replicate (List.mem_of_getElem? hj)
        subst this
        exact absurd rfl h9
