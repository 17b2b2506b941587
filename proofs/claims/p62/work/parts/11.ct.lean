/-! CONTRACTS OVER THE MEMORY -/
def PC_ (D : va_G) (tc : Nat → ClassId) (cs : Nat → Nat) (ad : List Nat) (σ : Me_t) (as : List Sv_t) : Array Value → State → Prop := fun v U => v = (as.map (val_ cs ad)).toArray ∧ va_P D cls_ (wl_ cs tc ad SHS_ σ) U.heap ∧ va_K D cls_ (tys_ tc) U ∧ va_D (fun _ => True) (wl_ cs tc ad SHS_ σ) ∧ XW_ U ∧ XS_ cs (fun q => q ∈ ad) U
def QC_ (D : va_G) (tc : Nat → ClassId) (cs : Nat → Nat) (ad : List Nat) (Rt : List Sv_t → Me_t → Prop) : Array Value → State → Outcome → State → Prop := fun _ st oc t => (∃ (r : List Sv_t) (σ' : Me_t), oc = .returned (r.head?.map (val_ cs ad)) ∧ r.length ≤ 1 ∧ Rt r σ' ∧ MT_ SHS_ σ' ∧ (∀ v ∈ r, tv_ SHS_ v) ∧ va_P D cls_ (wl_ cs tc ad SHS_ σ') t.heap) ∧ va_F (fun q => q ∈ ad) st t
def CT_ {α : Type} (l : Launch) (y : MethodName) (cc : ByteArray) (nL : Nat) (ret : Option FieldType) (fr lo : Nat) (as : α → List Sv_t) (rm : Int → List Sv_t) (Pre : α → Me_t → Prop) (Post : α → Me_t → Int → Me_t → Prop) : Prop :=
  ∀ (D : va_G) (tc : Nat → ClassId) (cs : Nat → Nat) (ad : List Nat) (σ : Me_t) (a : α), ad.length = SHS_.length → MT_ SHS_ σ → (∀ v ∈ as a, tv_ SHS_ v) → Pre a σ →
    Met l y (.code y cc nL ret :: gl_) { frames := fr, cells := 0, slots := 0, locals := lo } (PC_ D tc cs ad σ (as a)) (QC_ D tc cs ad (fun r σ' => ∃ z, r = rm z ∧ Post a σ z σ')) 0 0 (fun q => q ∈ ad)
def TR_ {α : Type} (as : α → List Sv_t) (rm : Int → List Sv_t) (Pre : α → Me_t → Prop) (Post : α → Me_t → Int → Me_t → Prop) : Tr_t := fun args σ k => ∃ a : α, args = as a ∧ Pre a σ ∧ ∀ (z : Int) (σ' : Me_t), Post a σ z σ' → k (rm z) σ'
def entL_ (as : List Sv_t) (nL : Nat) : List Sv_t := (as.flatMap fun v => bif v.1 == 1 then [v, (9, 0)] else [v]) ++ List.replicate (nL - (as.flatMap fun v => bif v.1 == 1 then [v, ((9 : Nat), (0 : Int))] else [v]).length) (9, 0)
theorem wl_D {A : Nat → Prop} {cs : Nat → Nat} {tc : Nat → ClassId} {ad shs : List Nat} {σ σ' : Me_t} (h : va_D A (wl_ cs tc ad shs σ)) : va_D A (wl_ cs tc ad shs σ') := by
  have key : ∀ (k : Nat) (q : Nat × va_E), (wl_ cs tc ad shs σ')[k]? = some q → ∃ q0 : Nat × va_E, (wl_ cs tc ad shs σ)[k]? = some q0 ∧ q0.1 = q.1 := by
    intro k q hq
    cases hs : shs[k]? with
    | none => rw [wl_none hs] at hq; cases hq
    | some sh =>
      rw [wl_get hs] at hq
      cases hq
      exact ⟨_, wl_get hs, rfl⟩
  refine ⟨fun i j x y hi hj hxy => ?_, fun k q hk => ?_⟩
  · obtain ⟨x0, h1, h2⟩ := key i x hi
    obtain ⟨y0, h3, h4⟩ := key j y hj
    exact h.1 i j x0 y0 h1 h3 (h2.trans (hxy.trans h4.symm))
  · obtain ⟨q0, h1, h2⟩ := key k q hk
    rw [← h2]
    exact h.2 k q0 h1
theorem wl_in {cs : Nat → Nat} {tc : Nat → ClassId} {ad shs : List Nat} {σ : Me_t} (hA : ad.length = shs.length) {k : Nat} {q : Nat × va_E} (h : (wl_ cs tc ad shs σ)[k]? = some q) : q.1 ∈ ad := by
  cases hs : shs[k]? with
  | none => rw [wl_none hs] at h; cases h
  | some sh =>
    rw [wl_get hs] at h
    cases h
    have hk : k < ad.length := by rw [hA]; exact (List.getElem?_eq_some_iff.mp hs).1
    simp [List.getD_eq_getElem?_getD, hk]
theorem map_cat {cs : Nat → Nat} {ad : List Nat} : ∀ S : List Sv_t, ((S.map (val_ cs ad)).map fun v => v.category).sum = csum_ S
  | [] => rfl
  | v :: S => by
    rw [List.map_cons, List.map_cons, List.sum_cons, map_cat S, val_cat]
    have e : csum_ (v :: S) = (bif v.1 == 1 then 2 else 1) + csum_ S := rfl
    rw [e]
    by_cases h : v.1 = 1
    · simp [h]
    · have h2 : (v.1 == 1) = false := by simpa using h
      simp [h, h2]
/-- behind a call -/
theorem run_ {p : Program} {l : Launch} {e : Env} {R : Room} {s : State} {m : MethodId} {args : Array Value} {below : List Frame} {meth : Method} {c : Code} {H : Heap} {locs : List Loc} {cells slots : Nat} {Q : State → Prop} {pc : Nat} {ls : Array Slot} {rest st0 : List Value} {a : Array Value} {A0 : Nat → Prop} {H0 : Heap}
    {D : va_G} {tc : Nat → ClassId} {cs : Nat → Nat} {ad : List Nat} {Rt : List Sv_t → Me_t → Prop} (hr : va_Run p l e R s m args below meth c H locs cells slots 0 0 (F0 m pc ls st0) rest (QC_ D tc cs ad Rt a) (fun q => q ∈ ad)) (hS : va_S A0 H0 H locs) (hA : ∀ q, q ∈ ad → A0 q)
    (kk : ∀ (r : List Sv_t) (σ' : Me_t) (H1 : Heap) (locs1 : List Loc), Rt r σ' → MT_ SHS_ σ' → (∀ v ∈ r, tv_ SHS_ v) → va_P D cls_ (wl_ cs tc ad SHS_ σ') H1 → va_S A0 H0 H1 locs1 → W p l e R s m args below meth c H1 locs1 cells slots Q (F0 m (pc + 3) ls (r.map (val_ cs ad) ++ rest))) : W p l e R s m args below meth c H locs cells slots Q (F0 m pc ls st0) := by
  intro T hT X
  obtain ⟨v, st₀, t, T', L, h0, X', hL, e1, e2, ⟨⟨r, σ', hv, hlen, hp, hM, ht, hP⟩, hz, hk⟩, st⟩ := hr T hT X
  have hv : v = r.head?.map (val_ cs ad) := Outcome.returned.inj hv
  subst hv
  rw [h0] at hz hk
  have hl : (r.head?.map (val_ cs ad)).toList = r.map (val_ cs ad) := by
    match r, hlen with
    | [], _ => rfl
    | [x], _ => rfl
    | x :: y :: w, h => simp at h
  obtain ⟨t2, a1, b1⟩ := kk r σ' T'.heap (locs ++ L) hp hM ht (by rw [e1]; exact hP)
    ⟨Nat.le_trans hS.1 (by rw [e1]; exact hz), fun q h1 h2 => by rw [e1, hk q (Nat.lt_of_lt_of_le h1 hS.1) (fun z => h2 (hA q z))]; exact hS.2.1 q h1 h2, fun q hq => by
      rcases List.mem_append.mp hq with h | h
      · exact hS.2.2 q h
      · exact hA _ (hL q h)⟩ T' rfl X'
  refine ⟨t2, st t2 ?_, b1⟩
  rw [hl]
  exact a1
theorem gin_ {ws : List Cond} (h : ∀ w ∈ ws, w ∈ gl_) : GoodIn gl_ (ws ++ gl_) := by
  intro w hw
  have hg : w ∈ gl_ := (List.mem_append.mp hw).elim (h w) id
  exact ⟨hg, good_of_word (List.mem_filter.mp hg).2⟩
theorem pcb_ {D : va_G} {tc : Nat → ClassId} {cs : Nat → Nat} {ad : List Nat} {σ : Me_t} {as : List Sv_t} : FrameBlind (PC_ D tc cs ad σ as) := fun a U g mk q => by
  obtain ⟨q0, q1, q2, q3, q4, q5⟩ := q
  exact ⟨q0, q1, va_K.moved (u := U) (U := U.calling g mk a) (Vm.Alike.refl U.vm) q2, q3, XW_same (s := U) (U := U.calling g mk a) rfl q4, XS_same (s := U) (U := U.calling g mk a) rfl rfl q5⟩
section COK
variable {α : Type} {X : Cx_t} {G : Gx_t} {Q : State → Prop} {ad : List Nat} {own : String} {cc bytes : ByteArray} {nL maxL fr lo fr0 lo0 : Nat} {rty ret : Option FieldType} {y : MethodName} {as : α → List Sv_t} {rm : Int → List Sv_t} {Pre : α → Me_t → Prop} {Post : α → Me_t → Int → Me_t → Prop}
/-- a call of an instance's method by its contract: the receiver is of shape t, class number c -/
theorem cok_v {t c N idx n cl sl : Nat} {C : String} {Tc : u_T} (E : EN_ X G own cc nL rty) (hct : CT_ X.2.1 y bytes maxL ret fr lo as rm Pre Post) (hRm : fr + 1 ≤ X.2.2.2.1.frames ∧ 8 + (maxL + 11) + lo ≤ X.2.2.2.1.locals) (hc0 : cl ≤ X.2.2.2.1.cells) (hs0 : sl ≤ X.2.2.2.1.slots) (hG : ∀ q, q ∈ ad → G.2.2.2 q)
    (hK : KT_ t = (0, c, N)) (hc : cls_[c]? = some (C, Tc, N)) (hy : y.cls = C ∧ y.cls ≠ "java/lang/invoke/MethodHandle" ∧ y.cls ≠ "java/lang/invoke/VarHandle" ∧ (parseMethodDescriptor y.desc).map (fun d => d.parameters.length) = some n)
    (has : ∀ a, ∃ (o : Int) (r : List Sv_t), as a = (t + 10, o) :: r ∧ r.length = n)
    (w1 : Cond.methodLink own idx y ∈ gl_) (w2 : Cond.instanceMethod y ∈ gl_) (w3 : Cond.selects C y y ∈ gl_) (w4 : Cond.initialized C ∈ gl_) (w5 : Cond.code y bytes maxL ret ∈ gl_) :
    COK_ X G Q cl sl ad SHS_ cc nL (2 * idx) (n + 1) (TR_ as rm Pre Post) := by
  obtain ⟨p, l, e, R, s, m, args, below, meth, code⟩ := X
  obtain ⟨D, tc, cs, A⟩ := G
  intro pc i σ L as0 S k hi hd hlen hcs hL hT hk
  have hi : i = .invokevirtual idx := by
    rcases hi with ⟨h, -⟩ | ⟨-, h⟩
    · rw [Nat.mul_div_cancel_left _ (by omega)] at h; exact h
    · omega
  subst hi
  obtain ⟨a, rfl, hpre, hpost⟩ := hT
  obtain ⟨o, r, ha, hr⟩ := has a
  intro hM hA H locs ls hP hD hS hlh vL vS
  have va : ∀ v ∈ as a, tv_ SHS_ v := fun v hv => vS v (List.mem_append_left _ (List.mem_reverse.mpr hv))
  have hv := rs_ (va (t + 10, o) (by rw [ha]; exact List.mem_cons_self))
  have he := wl_get (cs := cs) (tc := tc) (ad := ad) (σ := σ) hv.2
  rw [ent_0 hK] at he
  have hrec := va_recv E.2.2.2.2.2.1 hP hc he
  have hmet := hct D tc cs ad σ a hA hM va hpre
  have hmap : (as a).map (val_ cs ad) = .ref (ad.getD o.toNat 0) :: r.map (val_ cs ad) := by rw [ha, List.map_cons, val_r hv.1]
  refine run_ (va_runV (As := r.map (val_ cs ad)) (rest := S.map (val_ cs ad)) (b := ad.getD o.toNat 0) ⟨E.1, E.2.1, E.2.2.1, E.2.2.2.1, E.2.2.2.2.1⟩ hmet (cwV n E.2.2.2.2.1 ?_ rfl rfl rfl hy hRm) ⟨pcb_, hrec, fun U hU hW => ?_⟩ rfl (by rw [List.length_map, hr]) (hlh.1.trans hL) ?_ ?_ hd ⟨hc0, hs0⟩) hS hG ?_
  · have := gin_ (ws := [Cond.methodLink own idx y, Cond.instanceMethod y, Cond.selects C y y, Cond.initialized C, Cond.code y bytes maxL ret]) (fun w hw => by
      simp only [List.mem_cons, List.not_mem_nil, or_false] at hw
      rcases hw with rfl | rfl | rfl | rfl | rfl <;> assumption)
    exact this
  · refine ⟨by rw [hmap], by rw [hU]; exact hP, va_K.moved hW.alike E.2.2.2.2.2.1, hD.weaken (fun _ _ _ _ => trivial), XW_warm hW E.2.2.2.2.2.2.2.2.1, XS_move E.2.2.2.2.2.2.2.2.2 hS hU hW hG⟩
  · show List.map (val_ cs ad) ((as a).reverse ++ S) = _
    rw [List.map_append, List.map_reverse, hmap, List.reverse_cons]
    simp
  · rw [map_cat]
    show 2 * 0 + csum_ S ≤ 8
    omega
  · intro r' σ' H1 locs1 ⟨z, hz, hq⟩ hM' ht hP' hS'
    subst hz
    have := hk _ _ (hpost z σ' hq) hM' hA H1 locs1 ls hP' (wl_D hD) hS' hlh vL (fun v hv => by
      rcases List.mem_append.mp hv with h | h
      · exact ht v h
      · exact vS v (List.mem_append_right _ h))
    rw [List.map_append] at this
    exact this
theorem cok_s {idx n cl sl : Nat} (E : EN_ X G own cc nL rty) (hct : CT_ X.2.1 y bytes maxL ret fr lo as rm Pre Post) (hRm : fr + 1 ≤ X.2.2.2.1.frames ∧ 8 + (maxL + 11) + lo ≤ X.2.2.2.1.locals) (hc0 : cl ≤ X.2.2.2.1.cells) (hs0 : sl ≤ X.2.2.2.1.slots) (hG : ∀ q, q ∈ ad → G.2.2.2 q)
    (hy : y.cls ≠ "java/lang/invoke/MethodHandle" ∧ y.cls ≠ "java/lang/invoke/VarHandle" ∧ (parseMethodDescriptor y.desc).map (fun d => d.parameters.length) = some n)
    (has : ∀ a, (as a).length = n)
    (w1 : Cond.methodLink own idx y ∈ gl_) (w2 : Cond.static y ∈ gl_) (w4 : Cond.initialized y.cls ∈ gl_) (w5 : Cond.code y bytes maxL ret ∈ gl_) :
    COK_ X G Q cl sl ad SHS_ cc nL (2 * idx + 1) n (TR_ as rm Pre Post) := by
  obtain ⟨p, l, e, R, s, m, args, below, meth, code⟩ := X
  obtain ⟨D, tc, cs, A⟩ := G
  intro pc i σ L as0 S k hi hd hlen hcs hL hT hk
  have hi : i = .invokestatic idx := by
    rcases hi with ⟨-, h⟩ | ⟨h, -⟩
    · omega
    · rw [show (2 * idx + 1) / 2 = idx by omega] at h; exact h
  subst hi
  obtain ⟨a, rfl, hpre, hpost⟩ := hT
  intro hM hA H locs ls hP hD hS hlh vL vS
  have va : ∀ v ∈ as a, tv_ SHS_ v := fun v hv => vS v (List.mem_append_left _ (List.mem_reverse.mpr hv))
  have hmet := hct D tc cs ad σ a hA hM va hpre
  refine run_ (va_runS (As := (as a).map (val_ cs ad)) (rest := S.map (val_ cs ad)) ⟨E.1, E.2.1, E.2.2.1, E.2.2.2.1, E.2.2.2.2.1⟩ hmet ⟨callB_of n E.2.2.2.2.1 ?_ rfl rfl rfl (E.2.2.2.2.1 _ w4) (E.2.2.2.2.1 _ w1) hy hRm, E.2.2.2.2.1 _ w2⟩ ⟨pcb_, fun U hU hW => ?_⟩ rfl (by rw [List.length_map, has]) (hlh.1.trans hL) ?_ ?_ hd ⟨hc0, hs0⟩) hS hG ?_
  · have := gin_ (ws := [Cond.code y bytes maxL ret]) (fun w hw => by
      simp only [List.mem_cons, List.not_mem_nil, or_false] at hw
      subst hw; assumption)
    exact this
  · refine ⟨rfl, by rw [hU]; exact hP, va_K.moved hW.alike E.2.2.2.2.2.1, hD.weaken (fun _ _ _ _ => trivial), XW_warm hW E.2.2.2.2.2.2.2.2.1, XS_move E.2.2.2.2.2.2.2.2.2 hS hU hW hG⟩
  · show List.map (val_ cs ad) ((as a).reverse ++ S) = _
    rw [List.map_append, List.map_reverse]
  · rw [map_cat]
    show 2 * 0 + csum_ S ≤ 8
    omega
  · intro r' σ' H1 locs1 ⟨z, hz, hq⟩ hM' ht hP' hS'
    subst hz
    have := hk _ _ (hpost z σ' hq) hM' hA H1 locs1 ls hP' (wl_D hD) hS' hlh vL (fun v hv => by
      rcases List.mem_append.mp hv with h | h
      · exact ht v h
      · exact vS v (List.mem_append_right _ h))
    rw [List.map_append] at this
    exact this
theorem cok_sn {idx n cl sl : Nat} {host : String} (E : EN_ X G own cc nL rty) (hct : CT_ X.2.1 y bytes maxL ret fr lo as rm Pre Post) (hRm : fr + 1 ≤ X.2.2.2.1.frames ∧ 8 + (maxL + 11) + lo ≤ X.2.2.2.1.locals) (hc0 : cl ≤ X.2.2.2.1.cells) (hs0 : sl ≤ X.2.2.2.1.slots) (hG : ∀ q, q ∈ ad → G.2.2.2 q)
    (hy : y.cls ≠ "java/lang/invoke/MethodHandle" ∧ y.cls ≠ "java/lang/invoke/VarHandle" ∧ (parseMethodDescriptor y.desc).map (fun d => d.parameters.length) = some n)
    (has : ∀ a, (as a).length = n)
    (w1 : Cond.methodLinkNest own idx y host ∈ lw_tbl) (w2 : Cond.static y ∈ gl_) (w4 : Cond.initialized y.cls ∈ gl_) (w5 : Cond.code y bytes maxL ret ∈ gl_) :
    COK_ X G Q cl sl ad SHS_ cc nL (2 * idx + 1) n (TR_ as rm Pre Post) := by
  obtain ⟨p, l, e, R, s, m, args, below, meth, code⟩ := X
  obtain ⟨D, tc, cs, A⟩ := G
  intro pc i σ L as0 S k hi hd hlen hcs hL hT hk
  have hi : i = .invokestatic idx := by
    rcases hi with ⟨-, h⟩ | ⟨h, -⟩
    · omega
    · rw [show (2 * idx + 1) / 2 = idx by omega] at h; exact h
  subst hi
  obtain ⟨a, rfl, hpre, hpost⟩ := hT
  intro hM hA H locs ls hP hD hS hlh vL vS
  have va : ∀ v ∈ as a, tv_ SHS_ v := fun v hv => vS v (List.mem_append_left _ (List.mem_reverse.mpr hv))
  have hmet := hct D tc cs ad σ a hA hM va hpre
  refine run_ (va_runSN (As := (as a).map (val_ cs ad)) (rest := S.map (val_ cs ad)) ⟨E.1, E.2.1, E.2.2.1, E.2.2.2.1, E.2.2.2.2.1⟩ hmet ⟨va_cnB (host := host) n E.2.2.2.2.1 ?_ rfl rfl rfl (E.2.2.2.2.2.2.2.2.1 _ w1 rfl) (E.2.2.2.2.1 _ w4) hy hRm, E.2.2.2.2.1 _ w2, trivial⟩ ⟨pcb_, fun U hU hW => ?_⟩ rfl (by rw [List.length_map, has]) (hlh.1.trans hL) ?_ ?_ hd ⟨hc0, hs0⟩) hS hG ?_
  · have := gin_ (ws := [Cond.code y bytes maxL ret]) (fun w hw => by
      simp only [List.mem_cons, List.not_mem_nil, or_false] at hw
      subst hw; assumption)
    exact this
  · refine ⟨rfl, by rw [hU]; exact hP, va_K.moved hW.alike E.2.2.2.2.2.1, hD.weaken (fun _ _ _ _ => trivial), XW_warm hW E.2.2.2.2.2.2.2.2.1, XS_move E.2.2.2.2.2.2.2.2.2 hS hU hW hG⟩
  · show List.map (val_ cs ad) ((as a).reverse ++ S) = _
    rw [List.map_append, List.map_reverse]
  · rw [map_cat]
    show 2 * 0 + csum_ S ≤ 8
    omega
  · intro r' σ' H1 locs1 ⟨z, hz, hq⟩ hM' ht hP' hS'
    subst hz
    have := hk _ _ (hpost z σ' hq) hM' hA H1 locs1 ls hP' (wl_D hD) hS' hlh vL (fun v hv => by
      rcases List.mem_append.mp hv with h | h
      · exact ht v h
      · exact vS v (List.mem_append_right _ h))
    rw [List.map_append] at this
    exact this
end COK
def rk_ (ret : Option FieldType) : Nat := match ret with
  | none => 0
  | some .int => 1
  | some .boolean => 2
  | some .long => 3
  | some (.object _) => 4
  | _ => 9
/-- the end of a method, for its contract -/
theorem rok_ {X : Cx_t} {G : Gx_t} {ad : List Nat} {own : String} {cc : ByteArray} {nL : Nat} {ret : Option FieldType} {Rt : List Sv_t → Me_t → Prop} (E : EN_ X G own cc nL ret) (hG : G.2.2.2 = fun q => q ∈ ad) :
    ROK_ X G (MQ X.2.2.2.2.2.2.2.1 (QC_ G.1 G.2.1 G.2.2.1 ad Rt) X.2.2.2.2.2.2.1 X.2.2.2.2.1 0 0 (fun q => q ∈ ad)) 0 0 ad SHS_ cc (rk_ ret) Rt := by
  obtain ⟨p, l, e, R, s, m, args, below, meth, code⟩ := X
  obtain ⟨D, tc, cs, A⟩ := G
  simp only at hG
  subst hG
  intro pc σ L S hcase hRt hM hA H locs ls hP hD hS hlh vL vS
  have hlocks : meth.locks = false := E.2.2.2.2.2.2.2.1
  have hq : ∀ (r : List Sv_t), r = S → r.length ≤ 1 → ∀ t : State, t.heap = H → s.WarmedH t.vm → QC_ D tc cs ad Rt args s (.returned (r.head?.map (val_ cs ad))) t := by
    intro r hr hl t ht hW
    subst hr
    exact ⟨⟨r, σ, rfl, hl, hRt, hM, vS, by rw [ht]; exact hP⟩, hS.F ht⟩
  rcases hcase with ⟨hd, z, rfl, hr⟩ | ⟨hd, hr, z, rfl⟩ | ⟨hd, hr, t, z, rfl⟩ | ⟨hd, hr, rfl⟩
  · have hh := hq [(0, z)] rfl (by simp)
    rcases hr with hr | ⟨hr, h0, h1⟩
    · have : meth.sig.returnType = some .int := by
        have := E.2.2.2.2.2.2.1
        simp only at this
        rw [this]
        unfold rk_ at hr
        split at hr <;> simp_all
      exact W.iret E.1 E.2.1 this hh hS.2.2 hd
    · have : meth.sig.returnType = some .boolean := by
        have := E.2.2.2.2.2.2.1
        simp only at this
        rw [this]
        unfold rk_ at hr
        split at hr <;> simp_all
      have hz : z = 0 ∨ z = 1 := by omega
      refine W.zret E.1 E.2.1 this ?_ hh hS.2.2 hd
      rcases hz with rfl | rfl <;> decide
  · have hh := hq [(1, z)] rfl (by simp)
    have : meth.sig.returnType = some .long := by
      have := E.2.2.2.2.2.2.1
      simp only at this
      rw [this]
      unfold rk_ at hr
      split at hr <;> simp_all
    exact W.lret E.1 E.2.1 this hh hS.2.2 hd
  · have hh := hq [(t + 10, z)] rfl (by simp)
    have : ∃ C, meth.sig.returnType = some (.object C) := by
      have := E.2.2.2.2.2.2.1
      simp only at this
      rw [this]
      unfold rk_ at hr
      split at hr <;> simp_all
    obtain ⟨C, this⟩ := this
    have ez : val_ cs ad (t + 10, z) = .ref (ad.getD z.toNat 0) := val_r (rs_ (vS _ List.mem_cons_self)).1
    refine W.aret E.1 E.2.1 this (Or.inl ⟨C, rfl⟩) (Or.inr ⟨_, ez⟩) hh hS.2.2 hd
  · have hh := hq [] rfl (by simp)
    have : meth.sig.returnType = none := by
      have := E.2.2.2.2.2.2.1
      simp only at this
      rw [this]
      unfold rk_ at hr
      split at hr <;> simp_all
    exact W.vret E.1 E.2.1 this hh hS.2.2 hd
