section SN4
variable {X : Cx_t} {G : Gx_t} {Q : State → Prop} {cl sl : Nat} {ad shs : List Nat} {σ : Me_t} {pc pc' : Nat} {L S : List Sv_t} {own : String} {cc : ByteArray} {nL : Nat} {rty : Option FieldType}
theorem upd_fn {o x z : Int} (hx : 0 ≤ x) : (fun j : Nat => Int32.ofInt (ups_ σ o x z o (j : Int))) = upd (fun j : Nat => Int32.ofInt (σ o (j : Int))) x.toNat (Int32.ofInt z) := by
  funext j
  unfold upd
  by_cases h : j = x.toNat
  · rw [if_pos h, show (j : Int) = x by omega, ups_s]
  · rw [if_neg h, ups_n (Or.inr (by omega))]
theorem updL_fn {o x z : Int} (hx : 0 ≤ x) : (fun j : Nat => Int64.ofInt (ups_ σ o x z o (j : Int))) = vp_updL (fun j : Nat => Int64.ofInt (σ o (j : Int))) x.toNat (Int64.ofInt z) := by
  funext j
  unfold vp_updL
  by_cases h : j = x.toNat
  · rw [if_pos h, show (j : Int) = x by omega, ups_s]
  · rw [if_neg h, ups_n (Or.inr (by omega))]
theorem nb_ {z : Int} (h1 : -128 ≤ z) (h2 : z ≤ 127) : vp_nar .byte (Int32.ofInt z) = Int32.ofInt z := by
  rw [vp_nar_byte, ← Int32.toInt_inj, Int8.toInt_toInt32, i3_t (by omega)]
  have : (Int32.ofInt z).toInt8 = Int8.ofInt z := by
    rw [← Int8.toInt_inj, Int32.toInt_toInt8, i3_t (by omega), Int8.toInt_ofInt]
  rw [this, Int8.toInt_ofInt_of_le (by omega) (by omega)]
theorem nz_ {z : Int} (h1 : 0 ≤ z) (h2 : z ≤ 1) : vp_nar .boolean (Int32.ofInt z) = Int32.ofInt z := by
  have hz : z = 0 ∨ z = 1 := by omega
  rcases hz with rfl | rfl
  · decide
  · decide
theorem mt_el {t N a c : Nat} {o x z : Int} (hK : KT_ t = (a, c, N)) (hM : MT_ shs σ) (ho : tv_ shs (t + 10, o)) (hx : 0 ≤ x ∧ x < (N : Int)) (hz : ok_ shs t o x.toNat z) : MT_ shs (ups_ σ o x z) := by
  have := mt_ups (j := x.toNat) hM ho hz
  rw [tn_ hx.1] at this
  exact this
theorem so_ist {t N c : Nat} {o x z : Int} (hSA : SA_) (E : EN_ X G own cc nL rty) (hd : decode cc pc = .ok (.iastore, 1)) (hK : KT_ t = (1, c, N)) (hx : 0 ≤ x ∧ x < (N : Int)) (hz : tv_ shs (0, z) → (ty_ t 0).2.1 ≤ z ∧ z ≤ (ty_ t 0).2.2) (k : WP_ X G Q cl sl ad shs (ups_ σ o x z) (pc + 1) L S) : WP_ X G Q cl sl ad shs σ pc L ((0, z) :: (0, x) :: (t + 10, o) :: S) := by
  intro hM hA H locs ls hP hD hS hlh vL vS
  have vz := (vt_ vS).1
  have ho := (vt_ (vt_ (vt_ vS).2).2).1
  have hv := rs_ ho
  have hsa := hSA t 1 c N hK
  have hok : ok_ shs t o x.toNat z := by
    obtain ⟨e1, e2⟩ := hsa.1 rfl x.toNat
    refine ⟨by rw [e1, e2]; exact vz, fun _ => by rw [e1]; exact hz vz, fun r hr => ?_⟩
    rw [hsa.2.2.2.2.2.2.1 (by omega) (by omega)] at hr
    cases hr
  have he := wl_get (cs := G.2.2.1) (tc := G.2.1) (ad := ad) (σ := σ) hv.2
  rw [ent_1 hK] at he
  rw [List.map_cons, List.map_cons, List.map_cons, val_r hv.1]
  refine va_iast (cc := cc) E.1 E.2.1 E.2.2.2.2.2.1 hP hD hS o.toNat 0 he rfl (in_ hx hsa.2.2.2.2.2.2.2) hd ?_
  intro H1 locs1 hP1 hD1 hS1
  have eq : (wl_ G.2.2.1 G.2.1 ad shs σ).set o.toNat (ad.getD o.toNat 0, .inl (G.2.1 1, N, .inl (upd (fun j : Nat => Int32.ofInt (σ (o.toNat : Int) (j : Int))) (Int32.ofInt x).toNatClampNeg (Int32.ofInt z)))) = wl_ G.2.2.1 G.2.1 ad shs (ups_ σ o x z) := by
    refine wl_set hv.2 ?_ (fun a ha => ups_row (by omega))
    rw [ent_1 hK, tn_ hv.1, upd_fn hx.1, cl_ hx.1 (by have := hsa.2.2.2.2.2.2.2; omega)]
  rw [eq] at hP1 hD1
  exact k (mt_el hK hM ho hx hok) hA H1 locs1 ls hP1 hD1 hS1 hlh vL (vt_ (vt_ (vt_ vS).2).2).2
theorem so_bst {t N c : Nat} {o x z : Int} (hSA : SA_) (E : EN_ X G own cc nL rty) (hd : decode cc pc = .ok (.bastore, 1)) (hK : KT_ t = (2, c, N)) (hx : 0 ≤ x ∧ x < (N : Int)) (hz : (ty_ t 0).2.1 ≤ z ∧ z ≤ (ty_ t 0).2.2) (k : WP_ X G Q cl sl ad shs (ups_ σ o x z) (pc + 1) L S) : WP_ X G Q cl sl ad shs σ pc L ((0, z) :: (0, x) :: (t + 10, o) :: S) := by
  intro hM hA H locs ls hP hD hS hlh vL vS
  have vz := (vt_ vS).1
  have ho := (vt_ (vt_ (vt_ vS).2).2).1
  have hv := rs_ ho
  have hsa := hSA t 2 c N hK
  obtain ⟨e1, e2, e3, e4⟩ := hsa.2.1 rfl x.toNat
  have hok : ok_ shs t o x.toNat z := by
    refine ⟨by rw [e1, e2]; exact vz, fun _ => by rw [e1]; exact hz, fun r hr => ?_⟩
    rw [hsa.2.2.2.2.2.2.1 (by omega) (by omega)] at hr
    cases hr
  have he := wl_get (cs := G.2.2.1) (tc := G.2.1) (ad := ad) (σ := σ) hv.2
  rw [ent_2 hK] at he
  rw [List.map_cons, List.map_cons, List.map_cons, val_r hv.1]
  refine va_bast (cc := cc) E.1 E.2.1 E.2.2.2.2.2.1 hP hD hS o.toNat 1 he rfl (in_ hx hsa.2.2.2.2.2.2.2) hd ?_
  intro H1 locs1 hP1 hD1 hS1
  have eq : (wl_ G.2.2.1 G.2.1 ad shs σ).set o.toNat (ad.getD o.toNat 0, .inl (G.2.1 2, N, .inl (upd (fun j : Nat => Int32.ofInt (σ (o.toNat : Int) (j : Int))) (Int32.ofInt x).toNatClampNeg (vp_nar .byte (Int32.ofInt z))))) = wl_ G.2.2.1 G.2.1 ad shs (ups_ σ o x z) := by
    refine wl_set hv.2 ?_ (fun a ha => ups_row (by omega))
    rw [ent_2 hK, tn_ hv.1, upd_fn hx.1, cl_ hx.1 (by have := hsa.2.2.2.2.2.2.2; omega), nb_ (by omega) (by omega)]
  rw [eq] at hP1 hD1
  exact k (mt_el hK hM ho hx hok) hA H1 locs1 ls hP1 hD1 hS1 hlh vL (vt_ (vt_ (vt_ vS).2).2).2
theorem so_zst {t N c : Nat} {o x z : Int} (hSA : SA_) (E : EN_ X G own cc nL rty) (hd : decode cc pc = .ok (.bastore, 1)) (hK : KT_ t = (3, c, N)) (hx : 0 ≤ x ∧ x < (N : Int)) (hz : (ty_ t 0).2.1 ≤ z ∧ z ≤ (ty_ t 0).2.2) (k : WP_ X G Q cl sl ad shs (ups_ σ o x z) (pc + 1) L S) : WP_ X G Q cl sl ad shs σ pc L ((0, z) :: (0, x) :: (t + 10, o) :: S) := by
  intro hM hA H locs ls hP hD hS hlh vL vS
  have vz := (vt_ vS).1
  have ho := (vt_ (vt_ (vt_ vS).2).2).1
  have hv := rs_ ho
  have hsa := hSA t 3 c N hK
  obtain ⟨e1, e2, e3, e4⟩ := hsa.2.2.1 rfl x.toNat
  have hok : ok_ shs t o x.toNat z := by
    refine ⟨by rw [e1, e2]; exact vz, fun _ => by rw [e1]; exact hz, fun r hr => ?_⟩
    rw [hsa.2.2.2.2.2.2.1 (by omega) (by omega)] at hr
    cases hr
  have he := wl_get (cs := G.2.2.1) (tc := G.2.1) (ad := ad) (σ := σ) hv.2
  rw [ent_3 hK] at he
  rw [List.map_cons, List.map_cons, List.map_cons, val_r hv.1]
  refine va_zast (cc := cc) E.1 E.2.1 E.2.2.2.2.2.1 hP hD hS o.toNat 2 he rfl (in_ hx hsa.2.2.2.2.2.2.2) hd ?_
  intro H1 locs1 hP1 hD1 hS1
  have eq : (wl_ G.2.2.1 G.2.1 ad shs σ).set o.toNat (ad.getD o.toNat 0, .inl (G.2.1 3, N, .inl (upd (fun j : Nat => Int32.ofInt (σ (o.toNat : Int) (j : Int))) (Int32.ofInt x).toNatClampNeg (vp_nar .boolean (Int32.ofInt z))))) = wl_ G.2.2.1 G.2.1 ad shs (ups_ σ o x z) := by
    refine wl_set hv.2 ?_ (fun a ha => ups_row (by omega))
    rw [ent_3 hK, tn_ hv.1, upd_fn hx.1, cl_ hx.1 (by have := hsa.2.2.2.2.2.2.2; omega), nz_ (by omega) (by omega)]
  rw [eq] at hP1 hD1
  exact k (mt_el hK hM ho hx hok) hA H1 locs1 ls hP1 hD1 hS1 hlh vL (vt_ (vt_ (vt_ vS).2).2).2
theorem so_lst {t N c : Nat} {o x z : Int} (hSA : SA_) (E : EN_ X G own cc nL rty) (hd : decode cc pc = .ok (.lastore, 1)) (hK : KT_ t = (4, c, N)) (hx : 0 ≤ x ∧ x < (N : Int)) (hz : tv_ shs (1, z) → (ty_ t 0).2.1 ≤ z ∧ z ≤ (ty_ t 0).2.2) (k : WP_ X G Q cl sl ad shs (ups_ σ o x z) (pc + 1) L S) : WP_ X G Q cl sl ad shs σ pc L ((1, z) :: (0, x) :: (t + 10, o) :: S) := by
  intro hM hA H locs ls hP hD hS hlh vL vS
  have vz := (vt_ vS).1
  have ho := (vt_ (vt_ (vt_ vS).2).2).1
  have hv := rs_ ho
  have hsa := hSA t 4 c N hK
  obtain ⟨e1, e2⟩ := hsa.2.2.2.1 rfl x.toNat
  have hok : ok_ shs t o x.toNat z := by
    refine ⟨by rw [e1, e2]; exact vz, fun _ => by rw [e1]; exact hz vz, fun r hr => ?_⟩
    rw [hsa.2.2.2.2.2.2.1 (by omega) (by omega)] at hr
    cases hr
  have he := wl_get (cs := G.2.2.1) (tc := G.2.1) (ad := ad) (σ := σ) hv.2
  rw [ent_4 hK] at he
  rw [List.map_cons, List.map_cons, List.map_cons, val_r hv.1]
  refine va_last (cc := cc) E.1 E.2.1 E.2.2.2.2.2.1 hP hD hS o.toNat 3 he rfl (in_ hx hsa.2.2.2.2.2.2.2) hd ?_
  intro H1 locs1 hP1 hD1 hS1
  have eq : (wl_ G.2.2.1 G.2.1 ad shs σ).set o.toNat (ad.getD o.toNat 0, .inl (G.2.1 4, N, .inr (.inl (vp_updL (fun j : Nat => Int64.ofInt (σ (o.toNat : Int) (j : Int))) (Int32.ofInt x).toNatClampNeg (Int64.ofInt z))))) = wl_ G.2.2.1 G.2.1 ad shs (ups_ σ o x z) := by
    refine wl_set hv.2 ?_ (fun a ha => ups_row (by omega))
    rw [ent_4 hK, tn_ hv.1, updL_fn hx.1, cl_ hx.1 (by have := hsa.2.2.2.2.2.2.2; omega)]
  rw [eq] at hP1 hD1
  exact k (mt_el hK hM ho hx hok) hA H1 locs1 ls hP1 hD1 hS1 hlh vL (vt_ (vt_ (vt_ vS).2).2).2
theorem so_alen {t N a c : Nat} {o : Int} (hSA : SA_) (E : EN_ X G own cc nL rty) (hd : decode cc pc = .ok (.arraylength, 1)) (hK : KT_ t = (a, c, N)) (ha : 1 ≤ a ∧ a ≤ 5) (k : WP_ X G Q cl sl ad shs σ (pc + 1) L ((0, (N : Int)) :: S)) : WP_ X G Q cl sl ad shs σ pc L ((t + 10, o) :: S) := by
  intro hM hA H locs ls hP hD hS hlh vL vS
  have ho := (vt_ vS).1
  have hv := rs_ ho
  have hsa := hSA t a c N hK
  have hN := hsa.2.2.2.2.2.2.2
  have he := wl_get (cs := G.2.2.1) (tc := G.2.1) (ad := ad) (σ := σ) hv.2
  have kk := k hM hA H locs ls hP hD hS hlh vL (vc_ (show -2147483648 ≤ (N : Int) ∧ (N : Int) ≤ 2147483647 by omega) (vt_ vS).2)
  rw [List.map_cons, val_r hv.1]
  have e0 : Int32.ofNat N = Int32.ofInt (N : Int) := rfl
  have ha' : a = 1 ∨ a = 2 ∨ a = 3 ∨ a = 4 ∨ a = 5 := by omega
  rcases ha' with rfl | rfl | rfl | rfl | rfl
  · rw [ent_1 hK] at he
    exact va_alen (cc := cc) E.1 E.2.1 E.2.2.2.2.2.1 hP o.toNat 0 he rfl e0 hd kk
  · rw [ent_2 hK] at he
    exact va_alen (cc := cc) E.1 E.2.1 E.2.2.2.2.2.1 hP o.toNat 1 he rfl e0 hd kk
  · rw [ent_3 hK] at he
    exact va_alen (cc := cc) E.1 E.2.1 E.2.2.2.2.2.1 hP o.toNat 2 he rfl e0 hd kk
  · rw [ent_4 hK] at he
    exact va_alen (cc := cc) E.1 E.2.1 E.2.2.2.2.2.1 hP o.toNat 3 he rfl e0 hd kk
  · rw [ent_5 hK] at he
    obtain ⟨-, a2, -⟩ := hsa.2.2.2.2.1 rfl
    rcases a2 with rfl | rfl | rfl
    · exact va_alen (cc := cc) E.1 E.2.1 E.2.2.2.2.2.1 hP o.toNat 4 he rfl e0 hd kk
    · exact va_alen (cc := cc) E.1 E.2.1 E.2.2.2.2.2.1 hP o.toNat 5 he rfl e0 hd kk
    · exact va_alen (cc := cc) E.1 E.2.1 E.2.2.2.2.2.1 hP o.toNat 6 he rfl e0 hd kk
end SN4
