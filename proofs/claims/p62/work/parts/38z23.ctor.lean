/-! CONSTRUCTORS -/
def AO_ (U : State) : Prop := va_AO RX1 U ∧ va_AO RX4 U ∧ va_AO RX9 U
theorem AO_moved {u U : State} (hvm : u.vm.Alike U.vm) (h : AO_ u) : AO_ U := ⟨va_AO.moved hvm h.1, va_AO.moved hvm h.2.1, va_AO.moved hvm h.2.2⟩
theorem tkm_ {n m : Nat} (h : n ≤ m) : ∃ ss, SHR_.take m = SHR_.take n ++ ss := by
  have := List.take_append_drop n (SHR_.take m)
  rw [List.take_take, Nat.min_eq_left h] at this
  exact ⟨_, this.symm⟩
section CTOR
variable {X : Cx_t} {G : Gx_t} {Q : State → Prop} {cl sl : Nat} {ad shs : List Nat} {σ : Me_t} {pc : Nat} {L S : List Sv_t} {own : String} {cc : ByteArray} {nL : Nat} {rty : Option FieldType}
theorem so_obj {t idx : Nat} {o : Int} (E : EN_ X G own cc nL rty) (hd : decode cc pc = .ok (.invokespecial idx, 3)) (w1 : Cond.methodLink own idx objectInit ∈ gl_) (w2 : Cond.instanceMethod objectInit ∈ gl_) (w3 : Cond.code objectInit ⟨#[0xb1]⟩ 1 none ∈ gl_) (hL : L.length = nL) (hf : 1 ≤ X.2.2.2.1.frames) (hl : csum_ S + 12 ≤ X.2.2.2.1.locals)
    (k : WP_ X G Q cl sl ad shs σ (pc + 3) L S) : WP_ X G Q cl sl ad shs σ pc L ((t + 10, o) :: S) := by
  intro hM hA H locs ls hP hD hS hlh vL vS
  have hv := rs_ (vt_ vS).1
  rw [List.map_cons, val_r hv.1]
  refine W.objInit E.1 E.2.1 E.2.2.2.1 (E.2.2.2.2.1 _ w1) (E.2.2.2.2.1 _ w2) (E.2.2.2.2.1 _ w3) rfl (by show ls.size = _; rw [hlh.1, hL]; exact E.2.2.1.symm) rfl hd hf (by rw [map_cat]; show 2 * 0 + csum_ S + 12 ≤ _; omega) ?_
  exact W.eq rfl (k hM hA H locs ls hP hD hS hlh vL (vt_ vS).2)
/-- a final reference field, in a constructor -/
theorem so_putF {n c jn N : Nat} {ji : Int} {t : Nat} {o z : Int} {u : Nat} {C : String} {T : u_T} (E : EN_ X G own cc nL rty) (hin : X.2.2.2.2.2.2.2.2.1.name = "<init>") (hd : decode cc pc = .ok (.putfield n, 3)) (h1 : cls_[c]? = some (C, T, N)) (hK : KT_ t = (0, c, N)) (hj : jn < N) (hji : ji = (jn : Int)) (w : Cond.fieldLink own n (T jn).1 (T jn).2.1 (T jn).2.2.1 ∈ gl_) (hfin : (T jn).2.2.2 = true) (hdecl : (T jn).1 = own) (ht : (ty_ t jn).1 = 2) (hr : ∀ (k : Int) (j : Nat) (z : Int), rt_ t k j z = none)
    (k : ∀ σ' : Me_t, σ' = ups_ σ o ji z → WP_ X G Q cl sl ad shs σ' (pc + 3) L S) : WP_ X G Q cl sl ad shs σ pc L ((u + 10, z) :: (t + 10, o) :: S) := by
  intro hM hA H locs ls hP hD hS hlh vL vS
  subst hji
  have hzv := rs_ (vt_ vS).1
  have hz : ok_ shs t o jn z := by
    refine ⟨?_, fun q => absurd q (by rw [ht]; omega), fun r q => by rw [hr] at q; cases q⟩
    rw [ht]
    exact Or.inr (List.getElem?_eq_some_iff.mp hzv.2).1
  have ho := (vt_ (vt_ vS).2).1
  have hv := rs_ ho
  obtain ⟨q1, q2, q3⟩ := CL_ok c C T N h1
  obtain ⟨w1, w2⟩ := val_fit (cs := G.2.2.1) (ad := ad) ((SH_ok t c N hK).2 jn hj) hz.1 hz.2.1
  have hu : val_ G.2.2.1 ad (u + 10, z) = val_ G.2.2.1 ad ((ty_ t jn).1, z) := by rw [ht]; rfl
  rw [List.map_cons, List.map_cons, hu, val_r hv.1]
  have he := wl_get (cs := G.2.2.1) (tc := G.2.1) (ad := ad) (σ := σ) hv.2
  rw [ent_0 hK] at he
  refine va_putF (cc := cc) E.1 E.2.1 (Ts := gl_) (own := own) (ref := (T jn).1) E.2.2.2.2.1 q1 (tyF_ c) q2 q3 E.2.2.2.1 E.2.2.2.2.2.1 hP hD hS o.toNat he h1 jn hj (E.2.2.2.2.1 _ w) (fun x h => h) hfin hin hdecl (q2 jn hj) w1 w2 (by simpa using hj) hd ?_
  intro H1 locs1 hP1 hD1 hS1
  have eq : (wl_ G.2.2.1 G.2.1 ad shs σ).set o.toNat (ad.getD o.toNat 0, .inr (c, ((List.range N).map fun j => val_ G.2.2.1 ad ((ty_ t j).1, σ (o.toNat : Int) (j : Int))).set jn (val_ G.2.2.1 ad ((ty_ t jn).1, z)))) = wl_ G.2.2.1 G.2.1 ad shs (ups_ σ o (jn : Int) z) := by
    refine wl_set hv.2 ?_ (fun a ha => ups_row (by omega))
    rw [ent_0 hK, tn_ hv.1]
    congr 2
    refine ls_set hj (by rw [ups_s]) (fun i hi => by rw [ups_n (Or.inr (by omega))])
  rw [eq] at hP1 hD1
  exact k _ rfl (mt_ups hM ho hz) hA H1 locs1 ls hP1 hD1 hS1 hlh vL (vt_ (vt_ vS).2).2
/-- a store into an array of references, the array by its number a -/
theorem so_ast {u t c N i a N2 : Nat} {v x z : Int} {r : vw_C} (E : EN_ X G own cc nL rty) (hd : decode cc pc = .ok (.aastore, 1)) (hz : z = (a : Int)) (ha : shs[a]? = some t) (hK : KT_ t = (5, c, N)) (hx : 0 ≤ x ∧ x < (N : Int)) (ht : ∀ j, (ty_ t j).1 = 2) (hr : ∀ (k : Int) (j : Nat) (z : Int), rt_ t k j z = none) (hK2 : KT_ u = (0, c, N2)) (hc : cls_[c]? = some r) (hi : ∀ tc, (tys_ tc)[i]? = some (tc (5 + c), .object r.1))
    (k : ∀ σ' : Me_t, σ' = ups_ σ (a : Int) x v → WP_ X G Q cl sl ad shs σ' (pc + 1) L S) : WP_ X G Q cl sl ad shs σ pc L ((u + 10, v) :: (0, x) :: (2, z) :: S) := by
  intro hM hA H locs ls hP hD hS hlh vL vS
  subst hz
  have hvv := rs_ (vt_ vS).1
  have hsa := SA_ok t 5 c N hK
  have hok : ok_ shs t (a : Int) x.toNat v := by
    refine ⟨?_, fun q => absurd q (by rw [ht]; omega), fun r q => by rw [hr] at q; cases q⟩
    rw [ht]
    exact Or.inr (List.getElem?_eq_some_iff.mp hvv.2).1
  have hto : tv_ shs (t + 10, (a : Int)) := ⟨by omega, by rw [Int.toNat_natCast]; exact ha⟩
  have he := wl_get (cs := G.2.2.1) (tc := G.2.1) (ad := ad) (σ := σ) ha
  rw [ent_5 hK] at he
  have he2 := wl_get (cs := G.2.2.1) (tc := G.2.1) (ad := ad) (σ := σ) hvv.2
  rw [ent_0 hK2] at he2
  have hva : val_ G.2.2.1 ad (2, (a : Int)) = .ref (ad.getD a 0) := by
    show (if (a : Int) < 0 then Value.null else .ref (ad.getD (a : Int).toNat 0)) = _
    rw [if_neg (by omega), Int.toNat_natCast]
  rw [List.map_cons, List.map_cons, List.map_cons, val_r hvv.1, hva]
  refine va_astq (cc := cc) E.1 E.2.1 E.2.2.2.2.2.1 hP hD hS a i v.toNat c he (hi G.2.1) he2 hc (in_ hx hsa.2.2.2.2.2.2.2) hd ?_
  intro H1 locs1 hP1 hD1 hS1
  have eq : (wl_ G.2.2.1 G.2.1 ad shs σ).set a (ad.getD a 0, .inl (G.2.1 (5 + c), N, .inr (.inr (.inr (.inr (va_up (fun j : Nat => if σ (a : Int) (j : Int) < 0 then none else some (ad.getD (σ (a : Int) (j : Int)).toNat 0)) (Int32.ofInt x).toNatClampNeg (some (ad.getD v.toNat 0)))))))) = wl_ G.2.2.1 G.2.1 ad shs (ups_ σ (a : Int) x v) := by
    refine wl_set ha ?_ (fun b hb => ups_row (by omega))
    rw [ent_5 hK, cl_ hx.1 (by have := hsa.2.2.2.2.2.2.2; omega)]
    congr 7
    funext j
    unfold va_up
    by_cases hj : j = x.toNat
    · rw [if_pos hj, show (j : Int) = x by omega, ups_s, if_neg (by omega)]
    · rw [if_neg hj, ups_n (Or.inr (by omega))]
  rw [eq] at hP1 hD1
  exact k _ rfl (mt_el hK hM hto hx hok) hA H1 locs1 ls hP1 hD1 hS1 hlh vL (vt_ (vt_ (vt_ vS).2).2).2
end CTOR
def PN_ (D : va_G) (tc : Nat → ClassId) (cs : Nat → Nat) (ad : List Nat) (o : Nat) (σ : Me_t) (sz : Nat) : Array Value → State → Prop := fun v U => v = #[.ref (ad.getD o 0)] ∧ U.heap.size = sz ∧ va_P D cls_ (wl_ cs tc ad (SHR_.take (o + 1)) σ) U.heap ∧ va_K D cls_ (tys_ tc) U ∧ va_D (fun _ => True) (wl_ cs tc ad (SHR_.take (o + 1)) σ) ∧ XW_ U ∧ AO_ U ∧ XS_ cs (fun q => q ∈ ad ∨ sz ≤ q) U
def QN_ (D : va_G) (tc : Nat → ClassId) (cs : Nat → Nat) (ad : List Nat) (m : Nat) (σ' : Me_t) (sz : Nat) : Array Value → State → Outcome → State → Prop := fun _ st oc t => (∃ qs : List Nat, oc = .returned none ∧ (ad ++ qs).length = (SHR_.take m).length ∧ MT_ (SHR_.take m) σ' ∧ va_P D cls_ (wl_ cs tc (ad ++ qs) (SHR_.take m) σ') t.heap ∧ va_D (fun q => q ∈ ad ∨ sz ≤ q) (wl_ cs tc (ad ++ qs) (SHR_.take m) σ')) ∧ va_F (fun q => q ∈ ad ∨ sz ≤ q) st t
/-- the contract of a constructor: the object has number o; behind it there are m objects, and the memory is T of what it was -/
def CN_ (l : Launch) (y : MethodName) (cc : ByteArray) (nL fr lo mc ms o m : Nat) (T : Me_t → Me_t) : Prop :=
  ∀ (D : va_G) (tc : Nat → ClassId) (cs : Nat → Nat) (ad : List Nat) (σ : Me_t) (sz : Nat), ad.length = (SHR_.take (o + 1)).length → MT_ (SHR_.take (o + 1)) σ → DF_ o σ →
    Met l y (.code y cc nL none :: gl_) { frames := fr, cells := mc, slots := ms, locals := lo } (PN_ D tc cs ad o σ sz) (QN_ D tc cs ad m (T σ) sz) mc ms (fun q => q ∈ ad ∨ sz ≤ q)
theorem pnb_ {D : va_G} {tc : Nat → ClassId} {cs : Nat → Nat} {ad : List Nat} {o sz : Nat} {σ : Me_t} : FrameBlind (PN_ D tc cs ad o σ sz) := fun a U g mk q => by
  obtain ⟨q0, q1, q2, q3, q4, q5, q6, q7⟩ := q
  exact ⟨q0, q1, q2, va_K.moved (u := U) (U := U.calling g mk a) (Vm.Alike.refl U.vm) q3, q4, XW_same (s := U) (U := U.calling g mk a) rfl q5, AO_moved (u := U) (U := U.calling g mk a) (Vm.Alike.refl U.vm) q6, XS_same (s := U) (U := U.calling g mk a) rfl rfl q7⟩
theorem da_ {A : Nat → Prop} {cs : Nat → Nat} {tc : Nat → ClassId} {ad shs : List Nat} {σ : Me_t} (hA : ad.length = shs.length) (h : va_D A (wl_ cs tc ad shs σ)) {q : Nat} (hq : q ∈ ad) : A q := by
  rw [← wl_fst (cs := cs) (tc := tc) (σ := σ) hA] at hq
  obtain ⟨x, h1, rfl⟩ := List.mem_map.mp hq
  obtain ⟨k, hk⟩ := List.getElem?_of_mem h1
  exact h.2 k x hk
/-- behind the call of a constructor -/
theorem runN_ {p : Program} {l : Launch} {e : Env} {R : Room} {s : State} {m0 : MethodId} {args : Array Value} {below : List Frame} {meth : Method} {c : Code} {H : Heap} {locs : List Loc} {cl sl mc ms : Nat} {Q : State → Prop} {pc : Nat} {ls : Array Slot} {st0 : List Value} {a : Array Value}
    {D : va_G} {tc : Nat → ClassId} {cs : Nat → Nat} {A : Nat → Prop} {ad : List Nat} {σ σ' : Me_t} {L S : List Sv_t} {o m : Nat} (hm : o + 1 ≤ m)
    (hr : va_Run p l e R s m0 args below meth c H locs cl sl mc ms (F0 m0 pc ls st0) (S.map (val_ cs ad)) (QN_ D tc cs ad m σ' H.size a) (fun q => q ∈ ad ∨ H.size ≤ q)) (hA0 : ∀ q, s.heap.size ≤ q → A q) (hA : ad.length = (SHR_.take (o + 1)).length) (hD : va_D A (wl_ cs tc ad (SHR_.take (o + 1)) σ)) (hS : va_S A s.heap H locs) (hlh : lh_ cs ad L ls) (vL : ∀ v ∈ L, tv_ (SHR_.take (o + 1)) v) (vS : ∀ v ∈ S, tv_ (SHR_.take (o + 1)) v) (h9 : (S.all fun v => v.1 != 9) = true)
    (k : ∀ qs, WP_ (p, l, e, R, s, m0, args, below, meth, c) (D, tc, cs, A) Q (cl + mc) (sl + ms) (ad ++ qs) (SHR_.take m) σ' (pc + 3) L S) : W p l e R s m0 args below meth c H locs cl sl Q (F0 m0 pc ls st0) := by
  intro T hT X
  obtain ⟨v, st₀, t, T', L', h0, X', hL', e1, e2, ⟨⟨qs, hv, hl, hM', hP', hD'⟩, hz, hk⟩, st⟩ := hr T hT X
  have hv : v = none := Outcome.returned.inj hv
  subst hv
  rw [h0] at hz hk
  have hfree : ∀ q, (q ∈ ad ∨ H.size ≤ q) → A q := fun q hq => by
    rcases hq with hq | hq
    · exact da_ hA hD hq
    · exact hA0 q (Nat.le_trans hS.1 hq)
  obtain ⟨ss, hss⟩ := tkm_ hm
  have hkk := k qs hM' hl T'.heap (locs ++ L') ls (by rw [e1]; exact hP') (hD'.weaken fun _ _ _ h => hfree _ h)
    ⟨Nat.le_trans hS.1 (by rw [e1]; exact hz), fun q h1 h2 => by rw [e1, hk q (Nat.lt_of_lt_of_le h1 hS.1) (fun z => h2 (hfree q z))]; exact hS.2.1 q h1 h2, fun q hq => by
      rcases List.mem_append.mp hq with h | h
      · exact hS.2.2 q h
      · exact hfree _ (hL' q h)⟩ (lh_x hA vL hlh) (fun v hv => by rw [hss]; exact tv_x (vL v hv)) (fun v hv => by rw [hss]; exact tv_x (vS v hv))
  rw [map_x hA vS h9] at hkk
  obtain ⟨t2, a1, b1⟩ := hkk T' rfl X'
  exact ⟨t2, st t2 a1, b1⟩
section CT2
variable {X : Cx_t} {G : Gx_t} {Q : State → Prop} {cl sl : Nat} {ad : List Nat} {σ : Me_t} {pc : Nat} {L S : List Sv_t} {own : String} {cc bytes : ByteArray} {nL maxL fr lo mc ms t o m idx : Nat} {rty : Option FieldType} {y : MethodName} {T : Me_t → Me_t}
theorem so_ctor (E : EN_ X G own cc nL rty) (hA0 : ∀ q, X.2.2.2.2.1.heap.size ≤ q → G.2.2.2 q) (hAO : AO_ X.2.2.2.2.1) (hct : CN_ X.2.1 y bytes maxL fr lo mc ms o m T) (hm : o + 1 ≤ m) (hRm : fr + 1 ≤ X.2.2.2.1.frames ∧ 8 + (maxL + 11) + lo ≤ X.2.2.2.1.locals) (hcl : cl + mc ≤ X.2.2.2.1.cells) (hsl : sl + ms ≤ X.2.2.2.1.slots) (hd : decode cc pc = .ok (.invokespecial idx, 3)) (hL : L.length = nL) (hcs : csum_ S ≤ 8)
    (hy : y.name = "<init>" ∧ y.cls ≠ "java/lang/invoke/MethodHandle" ∧ y.cls ≠ "java/lang/invoke/VarHandle" ∧ (parseMethodDescriptor y.desc).map (fun d => d.parameters.length) = some 0)
    (w1 : Cond.methodLink own idx y ∈ gl_) (w2 : Cond.instanceMethod y ∈ gl_) (w4 : Cond.initialized y.cls ∈ gl_) (w5 : Cond.code y bytes maxL none ∈ gl_) (hD : DF_ o σ) (h9 : (S.all fun v => v.1 != 9) = true)
    (k : ∀ (qs : List Nat) (σ' : Me_t), σ' = T σ → WP_ X G Q (cl + mc) (sl + ms) (ad ++ qs) (SHR_.take m) σ' (pc + 3) L S) : WP_ X G Q cl sl ad (SHR_.take (o + 1)) σ pc L ((t + 10, (o : Int)) :: S) := by
  obtain ⟨p, l, e, R, s, m0, args, below, meth, code⟩ := X
  obtain ⟨D, tc, cs, A⟩ := G
  intro hM hA H locs ls hP hDD hS hlh vL vS
  have hmet := hct D tc cs ad σ H.size hA hM hD
  have hv := rs_ (vt_ vS).1
  rw [List.map_cons, val_r hv.1, Int.toNat_natCast]
  refine runN_ hm (va_runI (As := []) (b := ad.getD o 0) ⟨E.1, E.2.1, E.2.2.1, E.2.2.2.1, E.2.2.2.2.1⟩ hmet (cwI 0 E.2.2.2.2.1 (gin_ (ws := [Cond.code y bytes maxL none]) (fun w hw => by
      simp only [List.mem_cons, List.not_mem_nil, or_false] at hw
      subst hw; exact w5)) rfl rfl rfl (E.2.2.2.2.1 _ w4) (E.2.2.2.2.1 _ w1) (E.2.2.2.2.1 _ w2) hy.1 hy.2 hRm) ⟨pnb_, fun U hU hW => ?_⟩ rfl rfl (hlh.1.trans hL) rfl ?_ hd ⟨hcl, hsl⟩) hA0 hA hDD hS hlh vL (vt_ vS).2 h9 (fun qs => k qs _ rfl)
  · exact ⟨rfl, by rw [hU], by rw [hU]; exact hP, va_K.moved hW.alike E.2.2.2.2.2.1, hDD.weaken (fun _ _ _ _ => trivial), XW_warm hW E.2.2.2.2.2.2.2.2.1, AO_moved hW.alike hAO, XS_move E.2.2.2.2.2.2.2.2.2 hS hU hW (fun q hq => hq.elim (fun h => da_ hA hDD h) (fun h => hA0 q (Nat.le_trans hS.1 h)))⟩
  · rw [map_cat]
    show 2 * 0 + csum_ S ≤ 8
    omega
theorem so_ctorN {host : String} (E : EN_ X G own cc nL rty) (hA0 : ∀ q, X.2.2.2.2.1.heap.size ≤ q → G.2.2.2 q) (hAO : AO_ X.2.2.2.2.1) (hct : CN_ X.2.1 y bytes maxL fr lo mc ms o m T) (hm : o + 1 ≤ m) (hRm : fr + 1 ≤ X.2.2.2.1.frames ∧ 8 + (maxL + 11) + lo ≤ X.2.2.2.1.locals) (hcl : cl + mc ≤ X.2.2.2.1.cells) (hsl : sl + ms ≤ X.2.2.2.1.slots) (hd : decode cc pc = .ok (.invokespecial idx, 3)) (hL : L.length = nL) (hcs : csum_ S ≤ 8)
    (hy : y.name = "<init>" ∧ y.cls ≠ "java/lang/invoke/MethodHandle" ∧ y.cls ≠ "java/lang/invoke/VarHandle" ∧ (parseMethodDescriptor y.desc).map (fun d => d.parameters.length) = some 0)
    (w1 : Cond.methodLinkNest own idx y host ∈ lw_tbl) (w2 : Cond.instanceMethod y ∈ gl_) (w4 : Cond.initialized y.cls ∈ gl_) (w5 : Cond.code y bytes maxL none ∈ gl_) (hD : DF_ o σ) (h9 : (S.all fun v => v.1 != 9) = true)
    (k : ∀ (qs : List Nat) (σ' : Me_t), σ' = T σ → WP_ X G Q (cl + mc) (sl + ms) (ad ++ qs) (SHR_.take m) σ' (pc + 3) L S) : WP_ X G Q cl sl ad (SHR_.take (o + 1)) σ pc L ((t + 10, (o : Int)) :: S) := by
  obtain ⟨p, l, e, R, s, m0, args, below, meth, code⟩ := X
  obtain ⟨D, tc, cs, A⟩ := G
  intro hM hA H locs ls hP hDD hS hlh vL vS
  have hmet := hct D tc cs ad σ H.size hA hM hD
  have hv := rs_ (vt_ vS).1
  rw [List.map_cons, val_r hv.1, Int.toNat_natCast]
  refine runN_ hm (va_runIN (As := []) (b := ad.getD o 0) ⟨E.1, E.2.1, E.2.2.1, E.2.2.2.1, E.2.2.2.2.1⟩ hmet ⟨va_cnB (host := host) 0 E.2.2.2.2.1 (gin_ (ws := [Cond.code y bytes maxL none]) (fun w hw => by
      simp only [List.mem_cons, List.not_mem_nil, or_false] at hw
      subst hw; exact w5)) rfl rfl rfl (E.2.2.2.2.2.2.2.2.1 _ w1 rfl) (E.2.2.2.2.1 _ w4) hy.2 hRm, hy.1, E.2.2.2.2.1 _ w2⟩ ⟨pnb_, fun U hU hW => ?_⟩ rfl rfl (hlh.1.trans hL) rfl ?_ hd ⟨hcl, hsl⟩) hA0 hA hDD hS hlh vL (vt_ vS).2 h9 (fun qs => k qs _ rfl)
  · exact ⟨rfl, by rw [hU], by rw [hU]; exact hP, va_K.moved hW.alike E.2.2.2.2.2.1, hDD.weaken (fun _ _ _ _ => trivial), XW_warm hW E.2.2.2.2.2.2.2.2.1, AO_moved hW.alike hAO, XS_move E.2.2.2.2.2.2.2.2.2 hS hU hW (fun q hq => hq.elim (fun h => da_ hA hDD h) (fun h => hA0 q (Nat.le_trans hS.1 h)))⟩
  · rw [map_cat]
    show 2 * 0 + csum_ S ≤ 8
    omega
end CT2
/-- A CONSTRUCTOR'S CONTRACT OUT OF A WALK -/
theorem cn_of {l : Launch} {y : MethodName} {cc : ByteArray} {nL fr lo mc ms o m sh : Nat} {T : Me_t → Me_t} (hy : plainName y.cls = true) (hn : y.name = "<init>") (h1 : 1 ≤ nL) (hos : SHR_[o]? = some sh)
    (body : ∀ (X : Cx_t) (G : Gx_t) (Q : State → Prop) (ad : List Nat) (σ : Me_t), X.2.1 = l → X.2.2.2.1 = { frames := fr, cells := mc, slots := ms, locals := lo } → EN_ X G y.cls cc nL none → (∀ q, X.2.2.2.2.1.heap.size ≤ q → G.2.2.2 q) → AO_ X.2.2.2.2.1 → X.2.2.2.2.2.2.2.2.1.name = "<init>" → DF_ o σ →
      (∀ (pc : Nat) (ad' : List Nat) (L : List Sv_t) (σ' : Me_t), decode cc pc = .ok (.return_, 1) → (∃ qs, ad' = ad ++ qs) → σ' = T σ → WP_ X G Q mc ms ad' (SHR_.take m) σ' pc L []) → WP_ X G Q 0 0 ad (SHR_.take (o + 1)) σ 0 ((sh + 10, (o : Int)) :: List.replicate (nL - 1) (9, 0)) []) : CN_ l y cc nL fr lo mc ms o m T := by
  intro D tc cs ad σ sz hA hM hDF
  refine Met.ofW (cc := cc) (maxL := nL) (ret := none) hy rfl ?_
  intro p e s m0 args below meth c s₁ B hml hP
  obtain ⟨rfl, hsz, hPP, hK, hD0, hXW, hAO, hXS⟩ := hP
  subst hsz
  have hts := atoms_spec (ws := .code y cc nL none :: gl_) B.pre
  have hin : meth.name = "<init>" := ((name_of_methodNamed B.named B.method).1).trans hn
  have E : EN_ (p, l, e, { frames := fr, cells := mc, slots := ms, locals := lo }, s, m0, #[Value.ref (ad.getD o 0)], below, meth, c) (D, tc, cs, fun q => q ∈ ad ∨ s.heap.size ≤ q) y.cls cc nL none :=
    ⟨B.exec, B.bytes, hml, findClass_of_methodNamed B.named, fun w hw => hts w (List.mem_cons_of_mem _ hw), hK, B.returns, B.notSynchronized, hXW, hXS⟩
  have hD : va_D (fun q => q ∈ ad ∨ s.heap.size ≤ q) (wl_ cs tc ad (SHR_.take (o + 1)) σ) := ⟨hD0.1, fun k q hk => Or.inl (wl_in hA hk)⟩
  have ho : (SHR_.take (o + 1))[o]? = some sh := tg_ hos (Nat.lt_succ_self o)
  have hv0 : val_ cs ad (sh + 10, (o : Int)) = .ref (ad.getD o 0) := by rw [val_r (by omega), Int.toNat_natCast]
  have b := body _ _ _ ad σ rfl rfl E (fun _ h => Or.inr h) hAO hin hDF (fun pc ad' L σ' hd hq hσ => by
      obtain ⟨qs, rfl⟩ := hq
      subst hσ
      intro hM' hA' H locs ls hP' hD' hS' hlh vL vS
      exact W.vret (Qc := QN_ D tc cs ad m (T σ) s.heap.size) (free := fun q => q ∈ ad ∨ s.heap.size ≤ q) E.1 E.2.1 E.2.2.2.2.2.2.1 (fun t ht hW => ⟨⟨qs, rfl, hA', hM', by rw [ht]; exact hP', hD'⟩, hS'.F ht⟩) hS'.2.2 hd E.2.2.2.2.2.2.2.1) hM hA s.heap [] ((lg_sl [Value.ref (ad.getD o 0)] ++ List.replicate (nL - (lg_sl [Value.ref (ad.getD o 0)]).length) Slot.unset).toArray) hPP hD va_S.rf ?_ ?_ (fun v h => by simp at h)
  · rw [show (#[Value.ref (ad.getD o 0)] : Array Value) = ([Value.ref (ad.getD o 0)] : List Value).toArray from rfl, lg_entry_eq]
    exact b
  · have h2 := lv_entry [Value.ref (ad.getD o 0)] (n := nL) h1
    refine lh_of h2 (by simp; omega) ?_
    intro j v hj h9
    match j, hj with
    | 0, hj =>
      simp at hj
      subst hj
      rw [hv0]
      exact List.mem_cons_self
    | j + 1, hj =>
      rw [List.getElem?_cons_succ] at hj
      have := List.eq_of_mem_replicate (List.mem_of_getElem? hj)
      subst this
      exact absurd rfl h9
  · intro v hv
    rcases List.mem_cons.mp hv with rfl | hv
    · exact ⟨by omega, by rw [Int.toNat_natCast]; exact ho⟩
    · have := List.eq_of_mem_replicate hv
      subst this
      trivial
