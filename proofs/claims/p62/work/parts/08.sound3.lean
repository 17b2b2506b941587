section SN3
variable {X : Cx_t} {G : Gx_t} {Q : State → Prop} {cl sl : Nat} {ad shs : List Nat} {σ : Me_t} {pc pc' : Nat} {L S : List Sv_t} {own : String} {cc : ByteArray} {nL : Nat} {rty : Option FieldType}
theorem tn_ {z : Int} (h : 0 ≤ z) : ((z.toNat : Nat) : Int) = z := Int.toNat_of_nonneg h
theorem mt_at {o : Int} {t : Nat} {j : Nat} (hM : MT_ shs σ) (h : tv_ shs (t + 10, o)) (hj : j < sz_ t) : ok_ shs t o j (σ o (j : Int)) := by
  have h1 := hM o.toNat t h.2 j hj
  rw [tn_ h.1] at h1
  exact h1
theorem rg_ {N : Nat} {f : Nat → Value} {j : Nat} (h : j < N) : ((List.range N).map f)[j]? = some (f j) := by
  simp [List.getElem?_map, List.getElem?_range h]
theorem so_get {n c jn N : Nat} {ji : Int} {t : Nat} {o : Int} {fl : List (Nat × Nat × Nat × Int)} (hCL : CL_) (hF : FT_ own fl) (E : EN_ X G own cc nL rty) (hd : decode cc pc = .ok (.getfield n, 3)) (hl : lk_ fl n = some (c, jn, ji)) (hK : KT_ t = (0, c, N)) (hj : jn < N)
    (k : WP_ X G Q cl sl ad shs σ (pc + 3) L (((ty_ t jn).1, σ o ji) :: S)) : WP_ X G Q cl sl ad shs σ pc L ((t + 10, o) :: S) := by
  intro hM hA H locs ls hP hD hS hlh vL vS
  have hv := rs_ (vt_ vS).1
  obtain ⟨C, T, N', h1, h2, h3, h4⟩ := hF _ (lk_mem hl)
  simp only at h1 h2 h3 h4
  subst h3
  have hok := mt_at hM (vt_ vS).1 (j := jn) (by unfold sz_; rw [hK]; exact hj)
  rw [List.map_cons, val_r hv.1]
  have he := wl_get (cs := G.2.2.1) (tc := G.2.1) (ad := ad) (σ := σ) hv.2
  rw [ent_0 hK] at he
  refine va_get (cc := cc) E.1 E.2.1 (Ts := gl_) (own := own) (ref := (T jn).1) E.2.2.2.2.1 (hCL c C T N' h1).1 E.2.2.2.1 E.2.2.2.2.2.1 hP o.toNat he h1 jn h2 (E.2.2.2.2.1 _ h4) (fun x h => h) (rg_ hj) hd ?_
  rw [tn_ hv.1]
  exact k hM hA H locs ls hP hD hS hlh vL (vc_ hok.1 (vt_ vS).2)
/-- the memory behind a store -/
theorem mt_ups {o : Int} {t : Nat} {j : Nat} {z : Int} (hM : MT_ shs σ) (h : tv_ shs (t + 10, o)) (hz : ok_ shs t o j z) : MT_ shs (ups_ σ o (j : Int) z) := by
  intro k sh hk i hi
  by_cases e : (k : Int) = o ∧ (i : Int) = (j : Int)
  · obtain ⟨e1, e2⟩ := e
    have e3 : i = j := by omega
    subst e3
    have e4 : o.toNat = k := by omega
    have h := rs_ h
    rw [e4] at h
    have e5 : sh = t := by
      have := hk.symm.trans h.2
      exact Option.some.inj this
    subst e5
    rw [e1, ups_s]
    exact hz
  · have : ups_ σ o (j : Int) z (k : Int) (i : Int) = σ (k : Int) (i : Int) := by
      unfold ups_
      rw [if_neg e]
    rw [this]
    exact hM k sh hk i hi
theorem ups_row {o j z : Int} {a : Nat} (h : (a : Int) ≠ o) : ups_ σ o j z (a : Int) = σ (a : Int) := by
  funext b
  exact ups_n (Or.inl h)
theorem val_fit {cs : Nat → Nat} {ft : FieldType} {t : Nat × Int × Int} {z : Int} (h : tyok_ ft t = true) (hv : tv_ shs (t.1, z)) (hr : t.1 < 2 → t.2.1 ≤ z ∧ z ≤ t.2.2) : narrow ft (val_ cs ad (t.1, z)) = val_ cs ad (t.1, z) ∧ fits ft (val_ cs ad (t.1, z)) = true := by
  obtain ⟨g, lo, hi⟩ := t
  simp only at hv hr ⊢
  have ref : ∀ (ft : FieldType), (g == 2 || Nat.ble 10 g) = true → (∀ v : Value, (v = .null ∨ ∃ a, v = .ref a) → narrow ft v = v ∧ fits ft v = true) → narrow ft (val_ cs ad (g, z)) = val_ cs ad (g, z) ∧ fits ft (val_ cs ad (g, z)) = true := by
    intro ft hg hf
    apply hf
    have : val_ cs ad (g, z) = if z < 0 then .null else .ref (ad.getD z.toNat 0) := by
      simp only [Bool.or_eq_true, beq_iff_eq] at hg
      rcases hg with rfl | hg
      · rfl
      · have h10 := Nat.le_of_ble_eq_true hg
        obtain ⟨u, rfl⟩ : ∃ u, g = u + 10 := ⟨g - 10, by omega⟩
        rfl
    rw [this]
    split
    · exact Or.inl rfl
    · exact Or.inr ⟨_, rfl⟩
  cases ft with
  | int =>
    have : g = 0 := by simpa [tyok_] using h
    subst this
    exact ⟨rfl, rfl⟩
  | boolean =>
    simp only [tyok_, Bool.and_eq_true, beq_iff_eq, decide_eq_true_eq] at h
    obtain ⟨⟨rfl, h1⟩, h2⟩ := h
    have := hr (by omega)
    have hz : z = 0 ∨ z = 1 := by omega
    rcases hz with rfl | rfl
    · exact ⟨(show narrow .boolean (.int (Int32.ofInt 0)) = .int (Int32.ofInt 0) by decide), (show fits .boolean (.int (Int32.ofInt 0)) = true by decide)⟩
    · exact ⟨(show narrow .boolean (.int (Int32.ofInt 1)) = .int (Int32.ofInt 1) by decide), (show fits .boolean (.int (Int32.ofInt 1)) = true by decide)⟩
  | long =>
    have : g = 1 := by simpa [tyok_] using h
    subst this
    exact ⟨rfl, rfl⟩
  | object C => exact ref _ (by simpa [tyok_] using h) (fun v hv => by rcases hv with rfl | ⟨a, rfl⟩ <;> exact ⟨rfl, rfl⟩)
  | array C => exact ref _ (by simpa [tyok_] using h) (fun v hv => by rcases hv with rfl | ⟨a, rfl⟩ <;> exact ⟨rfl, rfl⟩)
  | _ => simp [tyok_] at h
theorem ls_set {N j : Nat} {f g : Nat → Value} {v : Value} (hj : j < N) (hv : g j = v) (hne : ∀ i, i ≠ j → g i = f i) : ((List.range N).map f).set j v = (List.range N).map g := by
  apply List.ext_getElem?
  intro i
  by_cases hi : i = j
  · subst hi
    rw [List.getElem?_set_self (by simpa using hj), rg_ hj, hv]
  · rw [List.getElem?_set_ne (Ne.symm hi)]
    by_cases hN : i < N
    · rw [rg_ hN, rg_ hN, hne i hi]
    · simp [List.getElem?_map, Nat.not_lt.mp hN]
theorem so_put {n c jn N : Nat} {ji : Int} {t : Nat} {o z : Int} {u : Nat} {pl : List (Nat × Nat × Nat × Int)} (hCL : CL_) (hSH : SH_) (hF : PT_ own pl) (E : EN_ X G own cc nL rty) (hd : decode cc pc = .ok (.putfield n, 3)) (hl : lk_ pl n = some (c, jn, ji)) (hK : KT_ t = (0, c, N)) (hj : jn < N)
    (hu : ∀ cs : Nat → Nat, val_ cs ad (u, z) = val_ cs ad ((ty_ t jn).1, z)) (hok : tv_ shs (u, z) → ok_ shs t o jn z)
    (k : WP_ X G Q cl sl ad shs (ups_ σ o ji z) (pc + 3) L S) : WP_ X G Q cl sl ad shs σ pc L ((u, z) :: (t + 10, o) :: S) := by
  intro hM hA H locs ls hP hD hS hlh vL vS
  have hz := hok (vt_ vS).1
  have ho := (vt_ (vt_ vS).2).1
  have hv := rs_ ho
  obtain ⟨C, T, N', h1, h2, h3, h4⟩ := hF.1 _ (lk_mem hl)
  simp only at h1 h2 h3 h4
  subst h3
  have hN : N' = N := by
    obtain ⟨⟨C2, T2, e⟩, -⟩ := hSH t c N hK
    have := h1.symm.trans e
    simp only [Option.some.injEq, Prod.mk.injEq] at this
    exact this.2.2
  have hnf := hF.2 _ (lk_mem hl) C T N' h1
  obtain ⟨q1, q2, q3⟩ := hCL c C T N' h1
  obtain ⟨w1, w2⟩ := val_fit (cs := G.2.2.1) (ad := ad) ((hSH t c N hK).2 jn hj) hz.1 hz.2.1
  rw [List.map_cons, List.map_cons, hu, val_r hv.1]
  have he := wl_get (cs := G.2.2.1) (tc := G.2.1) (ad := ad) (σ := σ) hv.2
  rw [ent_0 hK] at he
  refine va_put (cc := cc) E.1 E.2.1 (Ts := gl_) (own := own) (ref := (T jn).1) E.2.2.2.2.1 q1 (tyF_ c) q2 q3 E.2.2.2.1 E.2.2.2.2.2.1 hP hD hS o.toNat he h1 jn h2 (E.2.2.2.2.1 _ h4) (fun x h => h) hnf (q2 jn h2) w1 w2 (by simpa using hj) hd ?_
  intro H1 locs1 hP1 hD1 hS1
  have eq : (wl_ G.2.2.1 G.2.1 ad shs σ).set o.toNat (ad.getD o.toNat 0, .inr (c, ((List.range N).map fun j => val_ G.2.2.1 ad ((ty_ t j).1, σ (o.toNat : Int) (j : Int))).set jn (val_ G.2.2.1 ad ((ty_ t jn).1, z)))) = wl_ G.2.2.1 G.2.1 ad shs (ups_ σ o (jn : Int) z) := by
    refine wl_set hv.2 ?_ (fun a ha => ups_row (by omega))
    rw [ent_0 hK, tn_ hv.1]
    congr 2
    refine ls_set hj (by rw [ups_s]) (fun i hi => by rw [ups_n (Or.inr (by omega))])
  rw [eq] at hP1 hD1
  exact k (mt_ups hM ho hz) hA H1 locs1 ls hP1 hD1 hS1 hlh vL (vt_ (vt_ vS).2).2
theorem in_ {x : Int} {N : Nat} (h : 0 ≤ x ∧ x < (N : Int)) (hN : N < 100000) : vp_in (Int32.ofInt x) N := by
  rw [vp_in_iff, i3_t (by omega)]
  omega
theorem cl_ {x : Int} (h : 0 ≤ x) (h2 : x ≤ 2147483647) : (Int32.ofInt x).toNatClampNeg = x.toNat := by
  show (Int32.ofInt x).toInt.toNat = x.toNat
  rw [i3_t (by omega)]
theorem so_ild {t N c : Nat} {o x : Int} (hSA : SA_) (E : EN_ X G own cc nL rty) (hd : decode cc pc = .ok (.iaload, 1)) (hK : KT_ t = (1, c, N)) (hx : 0 ≤ x ∧ x < (N : Int)) (k : WP_ X G Q cl sl ad shs σ (pc + 1) L ((0, σ o x) :: S)) : WP_ X G Q cl sl ad shs σ pc L ((0, x) :: (t + 10, o) :: S) := by
  intro hM hA H locs ls hP hD hS hlh vL vS
  have ho := (vt_ (vt_ vS).2).1
  have hv := rs_ ho
  have hsa := hSA t 1 c N hK
  have hok := mt_at hM ho (j := x.toNat) (by unfold sz_; rw [hK]; simp only; omega)
  rw [tn_ hx.1] at hok
  have h0 := hok.1
  rw [(hsa.1 rfl x.toNat).1, (hsa.1 rfl 0).2] at h0
  have he := wl_get (cs := G.2.2.1) (tc := G.2.1) (ad := ad) (σ := σ) hv.2
  rw [ent_1 hK] at he
  rw [List.map_cons, List.map_cons, val_r hv.1]
  refine va_iald (cc := cc) E.1 E.2.1 E.2.2.2.2.2.1 hP o.toNat 0 he rfl (in_ hx hsa.2.2.2.2.2.2.2) hd ?_
  rw [cl_ hx.1 (by have := hsa.2.2.2.2.2.2.2; omega), tn_ hx.1, tn_ hv.1]
  exact k hM hA H locs ls hP hD hS hlh vL (vc_ h0 (vt_ (vt_ vS).2).2)
theorem so_bld {t N c : Nat} {o x : Int} (hSA : SA_) (E : EN_ X G own cc nL rty) (hd : decode cc pc = .ok (.baload, 1)) (hK : KT_ t = (2, c, N)) (hx : 0 ≤ x ∧ x < (N : Int)) (k : WP_ X G Q cl sl ad shs σ (pc + 1) L ((0, σ o x) :: S)) : WP_ X G Q cl sl ad shs σ pc L ((0, x) :: (t + 10, o) :: S) := by
  intro hM hA H locs ls hP hD hS hlh vL vS
  have ho := (vt_ (vt_ vS).2).1
  have hv := rs_ ho
  have hsa := hSA t 2 c N hK
  have hok := mt_at hM ho (j := x.toNat) (by unfold sz_; rw [hK]; simp only; omega)
  rw [tn_ hx.1] at hok
  have h0 := hok.1
  rw [(hsa.2.1 rfl x.toNat).1, (hsa.2.1 rfl 0).2.1] at h0
  have he := wl_get (cs := G.2.2.1) (tc := G.2.1) (ad := ad) (σ := σ) hv.2
  rw [ent_2 hK] at he
  rw [List.map_cons, List.map_cons, val_r hv.1]
  refine va_bald (cc := cc) E.1 E.2.1 E.2.2.2.2.2.1 hP o.toNat 1 he rfl (in_ hx hsa.2.2.2.2.2.2.2) hd ?_
  rw [cl_ hx.1 (by have := hsa.2.2.2.2.2.2.2; omega), tn_ hx.1, tn_ hv.1]
  exact k hM hA H locs ls hP hD hS hlh vL (vc_ h0 (vt_ (vt_ vS).2).2)
theorem so_zld {t N c : Nat} {o x : Int} (hSA : SA_) (E : EN_ X G own cc nL rty) (hd : decode cc pc = .ok (.baload, 1)) (hK : KT_ t = (3, c, N)) (hx : 0 ≤ x ∧ x < (N : Int)) (k : WP_ X G Q cl sl ad shs σ (pc + 1) L ((0, σ o x) :: S)) : WP_ X G Q cl sl ad shs σ pc L ((0, x) :: (t + 10, o) :: S) := by
  intro hM hA H locs ls hP hD hS hlh vL vS
  have ho := (vt_ (vt_ vS).2).1
  have hv := rs_ ho
  have hsa := hSA t 3 c N hK
  have hok := mt_at hM ho (j := x.toNat) (by unfold sz_; rw [hK]; simp only; omega)
  rw [tn_ hx.1] at hok
  have h0 := hok.1
  rw [(hsa.2.2.1 rfl x.toNat).1, (hsa.2.2.1 rfl 0).2.1] at h0
  have he := wl_get (cs := G.2.2.1) (tc := G.2.1) (ad := ad) (σ := σ) hv.2
  rw [ent_3 hK] at he
  rw [List.map_cons, List.map_cons, val_r hv.1]
  refine va_zald (cc := cc) E.1 E.2.1 E.2.2.2.2.2.1 hP o.toNat 2 he rfl (in_ hx hsa.2.2.2.2.2.2.2) hd ?_
  rw [cl_ hx.1 (by have := hsa.2.2.2.2.2.2.2; omega), tn_ hx.1, tn_ hv.1]
  exact k hM hA H locs ls hP hD hS hlh vL (vc_ h0 (vt_ (vt_ vS).2).2)
theorem so_lld {t N c : Nat} {o x : Int} (hSA : SA_) (E : EN_ X G own cc nL rty) (hd : decode cc pc = .ok (.laload, 1)) (hK : KT_ t = (4, c, N)) (hx : 0 ≤ x ∧ x < (N : Int)) (k : WP_ X G Q cl sl ad shs σ (pc + 1) L ((1, σ o x) :: S)) : WP_ X G Q cl sl ad shs σ pc L ((0, x) :: (t + 10, o) :: S) := by
  intro hM hA H locs ls hP hD hS hlh vL vS
  have ho := (vt_ (vt_ vS).2).1
  have hv := rs_ ho
  have hsa := hSA t 4 c N hK
  have hok := mt_at hM ho (j := x.toNat) (by unfold sz_; rw [hK]; simp only; omega)
  rw [tn_ hx.1] at hok
  have h0 := hok.1
  rw [(hsa.2.2.2.1 rfl x.toNat).1, (hsa.2.2.2.1 rfl 0).2] at h0
  have he := wl_get (cs := G.2.2.1) (tc := G.2.1) (ad := ad) (σ := σ) hv.2
  rw [ent_4 hK] at he
  rw [List.map_cons, List.map_cons, val_r hv.1]
  refine va_lald (cc := cc) E.1 E.2.1 E.2.2.2.2.2.1 hP o.toNat 3 he rfl (in_ hx hsa.2.2.2.2.2.2.2) hd ?_
  rw [cl_ hx.1 (by have := hsa.2.2.2.2.2.2.2; omega), tn_ hx.1, tn_ hv.1]
  exact k hM hA H locs ls hP hD hS hlh vL (vc_ h0 (vt_ (vt_ vS).2).2)
theorem so_ald {t N c : Nat} {o x r : Int} (hSA : SA_) (E : EN_ X G own cc nL rty) (hd : decode cc pc = .ok (.aaload, 1)) (hK : KT_ t = (5, c, N)) (hx : 0 ≤ x ∧ x < (N : Int)) (hr : rt_ t o 0 x = some r) (k : WP_ X G Q cl sl ad shs σ (pc + 1) L (((ty_ t 0).1, r) :: S)) : WP_ X G Q cl sl ad shs σ pc L ((0, x) :: (t + 10, o) :: S) := by
  intro hM hA H locs ls hP hD hS hlh vL vS
  have ho := (vt_ (vt_ vS).2).1
  have hv := rs_ ho
  have hsa := hSA t 5 c N hK
  obtain ⟨a1, a2, a3, a4⟩ := hsa.2.2.2.2.1 rfl
  have hok := mt_at hM ho (j := x.toNat) (by unfold sz_; rw [hK]; simp only; omega)
  rw [tn_ hx.1] at hok
  have h0 := hok.1
  rw [a1 x.toNat] at h0
  have er : σ o x = r := hok.2.2 r (by rw [tn_ hx.1, a4]; exact hr)
  rw [er] at h0
  have he := wl_get (cs := G.2.2.1) (tc := G.2.1) (ad := ad) (σ := σ) hv.2
  rw [ent_5 hK] at he
  rw [List.map_cons, List.map_cons, val_r hv.1]
  have hkk := k hM hA H locs ls hP hD hS hlh vL (vc_ h0 (vt_ (vt_ vS).2).2)
  have e1 : (Int32.ofInt x).toNatClampNeg = x.toNat := cl_ hx.1 (by have := hsa.2.2.2.2.2.2.2; omega)
  have ev : va_rf (if σ (o.toNat : Int) ((Int32.ofInt x).toNatClampNeg : Int) < 0 then none else some (ad.getD (σ (o.toNat : Int) ((Int32.ofInt x).toNatClampNeg : Int)).toNat 0)) = val_ G.2.2.1 ad ((ty_ t 0).1, r) := by
    rw [e1, tn_ hx.1, tn_ hv.1, er]
    have : val_ G.2.2.1 ad ((ty_ t 0).1, r) = if r < 0 then .null else .ref (ad.getD r.toNat 0) := by
      rcases a3 with e | e
      · rw [e]; rfl
      · obtain ⟨u, hu⟩ : ∃ u, (ty_ t 0).1 = u + 10 := ⟨(ty_ t 0).1 - 10, by omega⟩
        rw [hu]; rfl
    rw [this]
    split <;> rfl
  have hkk2 : Wx_ X Q cl sl H locs (pc + 1) ls (va_rf (if σ (o.toNat : Int) ((Int32.ofInt x).toNatClampNeg : Int) < 0 then none else some (ad.getD (σ (o.toNat : Int) ((Int32.ofInt x).toNatClampNeg : Int)).toNat 0)) :: S.map (val_ G.2.2.1 ad)) := by
    rw [ev]
    exact hkk
  rcases a2 with rfl | rfl | rfl
  · exact va_aldq (cc := cc) E.1 E.2.1 E.2.2.2.2.2.1 hP o.toNat 4 he rfl (in_ hx hsa.2.2.2.2.2.2.2) hd hkk2
  · exact va_aldq (cc := cc) E.1 E.2.1 E.2.2.2.2.2.1 hP o.toNat 5 he rfl (in_ hx hsa.2.2.2.2.2.2.2) hd hkk2
  · exact va_aldq (cc := cc) E.1 E.2.1 E.2.2.2.2.2.1 hP o.toNat 6 he rfl (in_ hx hsa.2.2.2.2.2.2.2) hd hkk2
end SN3
