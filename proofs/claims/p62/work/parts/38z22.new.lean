/-! MAKING OBJECTS. They are numbered in the order in which they are made; SHR_: their shapes while a reference may still be null. Memory of objects that are not yet made holds what they are born with. -/
def SHR_ : List Nat := [70, 68, 2, 63, 4, 69, 80, 7, 8, 9, 61, 11, 61, 11, 61, 11, 69, 80, 7, 8, 9, 61, 11, 61, 11, 61, 11, 81, 13, 82, 60, 16, 17, 18, 65, 20, 62, 22, 23, 66, 25, 26, 67, 28, 29, 69, 80, 7, 8, 9, 61, 11, 61, 11, 61, 11, 69, 80, 7, 8, 9, 61, 11, 61, 11, 61, 11, 69, 80, 7, 8, 9, 61, 11, 61, 11, 61, 11, 64, 31, 64, 31, 64, 31, 64, 31, 71, 33, 34, 35, 36, 37, 38, 39, 40, 41, 42, 43, 44, 45, 46, 47, 48, 49, 50, 51]
def dz_ (sh j : Nat) : Int := match (ty_ sh j).1 with
  | 0 => 0
  | 1 => 0
  | _ => -1
def DF_ (n : Nat) (σ : Me_t) : Prop := ∀ (k sh : Nat), n ≤ k → SHR_[k]? = some sh → ∀ j : Nat, σ (k : Int) (j : Int) = dz_ sh j
theorem df_mono {n m : Nat} {σ : Me_t} (h : n ≤ m) (d : DF_ n σ) : DF_ m σ := fun k sh hk => d k sh (Nat.le_trans h hk)
theorem df_up {n : Nat} {σ : Me_t} {o j z : Int} (h : o < (n : Int)) (d : DF_ n σ) : DF_ n (ups_ σ o j z) := by
  intro k sh hk hs i
  rw [ups_n (Or.inl (by omega))]
  exact d k sh hk hs i
def zok_ (t : Nat × Int × Int) : Bool := match t.1 with
  | 0 => decide (t.2.1 ≤ 0) && decide (0 ≤ t.2.2)
  | 1 => decide (t.2.1 ≤ 0) && decide (0 ≤ t.2.2)
  | 2 => true
  | _ => false
/-- what a new object holds is right for its shape -/
theorem zok_ok {shs : List Nat} {sh j : Nat} {k : Int} (h : zok_ (ty_ sh j) = true) (hr : ∀ (k : Int) (j : Nat) (z : Int), rt_ sh k j z = none) : ok_ shs sh k j (dz_ sh j) := by
  unfold dz_ ok_
  unfold zok_ at h
  split at h
  next h0 =>
    rw [h0]
    simp only [Bool.and_eq_true, decide_eq_true_eq] at h
    exact ⟨by show (-2147483648 : Int) ≤ 0 ∧ (0 : Int) ≤ 2147483647; omega, fun _ => h, fun r q => by rw [hr] at q; cases q⟩
  next h0 =>
    rw [h0]
    simp only [Bool.and_eq_true, decide_eq_true_eq] at h
    exact ⟨by show (-9223372036854775808 : Int) ≤ 0 ∧ (0 : Int) ≤ 9223372036854775807; omega, fun _ => h, fun r q => by rw [hr] at q; cases q⟩
  next h0 =>
    rw [h0]
    exact ⟨Or.inl (by show (-1 : Int) < 0; omega), fun q => absurd q (by omega), fun r q => by rw [hr] at q; cases q⟩
  next => cases h
theorem val_x {cs : Nat → Nat} {ad qs shs : List Nat} {v : Sv_t} (hA : ad.length = shs.length) (h : tv_ shs v) (h9 : v.1 ≠ 9) : val_ cs (ad ++ qs) v = val_ cs ad v := by
  obtain ⟨t, z⟩ := v
  have key : 0 ≤ z → z.toNat < ad.length → (if z < 0 then Value.null else .ref ((ad ++ qs).getD z.toNat 0)) = (if z < 0 then Value.null else .ref (ad.getD z.toNat 0)) := by
    intro h0 hl
    have e : (ad ++ qs).getD z.toNat 0 = ad.getD z.toNat 0 := by
      rw [List.getD_eq_getElem?_getD, List.getD_eq_getElem?_getD, List.getElem?_append_left hl]
    rw [e]
  match t, h, h9 with
  | 0, _, _ => rfl
  | 1, _, _ => rfl
  | 2, h, _ =>
    by_cases hz : z < 0
    · show (if z < 0 then Value.null else _) = (if z < 0 then Value.null else _)
      rw [if_pos hz, if_pos hz]
    · rcases h with h | h
      · exact absurd h hz
      · exact key (by omega) (by rw [hA]; exact h)
  | 3, h, _ => exact h.elim
  | 4, _, _ => rfl
  | 5, h, _ => exact h.elim
  | 6, h, _ => exact h.elim
  | 7, h, _ => exact h.elim
  | 8, h, _ => exact h.elim
  | 9, _, h9 => exact absurd rfl h9
  | t + 10, h, _ => exact key h.1 (by rw [hA]; exact (List.getElem?_eq_some_iff.mp h.2).1)
theorem tv_x {shs ss : List Nat} {v : Sv_t} (h : tv_ shs v) : tv_ (shs ++ ss) v := by
  obtain ⟨t, z⟩ := v
  match t, h with
  | 0, h => exact h
  | 1, h => exact h
  | 2, h =>
    rcases h with h | h
    · exact Or.inl h
    · refine Or.inr ?_
      rw [List.length_append]
      exact Nat.lt_of_lt_of_le h (Nat.le_add_right _ _)
  | 3, h => exact h
  | 4, h => exact h
  | 5, h => exact h
  | 6, h => exact h
  | 7, h => exact h
  | 8, h => exact h
  | 9, h => exact h
  | t + 10, h => exact ⟨h.1, by rw [List.getElem?_append_left (List.getElem?_eq_some_iff.mp h.2).1]; exact h.2⟩
theorem lh_x {cs : Nat → Nat} {ad qs shs : List Nat} {L : List Sv_t} {ls : Array Slot} (hA : ad.length = shs.length) (hL : ∀ v ∈ L, tv_ shs v) (h : lh_ cs ad L ls) : lh_ cs (ad ++ qs) L ls :=
  ⟨h.1, h.2.1, fun j v hj h9 => by rw [val_x hA (hL v (List.mem_of_getElem? hj)) h9]; exact h.2.2 j v hj h9⟩
theorem map_x {cs : Nat → Nat} {ad qs shs : List Nat} (hA : ad.length = shs.length) : ∀ {S : List Sv_t}, (∀ v ∈ S, tv_ shs v) → (S.all fun v => v.1 != 9) = true → S.map (val_ cs (ad ++ qs)) = S.map (val_ cs ad)
  | [], _, _ => rfl
  | v :: S, h, h9 => by
    simp only [List.all_cons, Bool.and_eq_true, bne_iff_ne, ne_eq] at h9
    rw [List.map_cons, List.map_cons, val_x hA (h v List.mem_cons_self) h9.1, map_x hA (fun w hw => h w (List.mem_cons_of_mem _ hw)) h9.2]
theorem mt_x {shs : List Nat} {sh : Nat} {σ : Me_t} (hM : MT_ shs σ) (hn : ∀ j, j < sz_ sh → ok_ (shs ++ [sh]) sh (shs.length : Int) j (σ (shs.length : Int) (j : Int))) : MT_ (shs ++ [sh]) σ := by
  intro k s hk j hj
  by_cases hlt : k < shs.length
  · rw [List.getElem?_append_left hlt] at hk
    obtain ⟨h1, h2, h3⟩ := hM k s hk j hj
    exact ⟨tv_x h1, h2, h3⟩
  · rw [List.getElem?_append_right (by omega)] at hk
    have hz : k - shs.length < 1 := (List.getElem?_eq_some_iff.mp hk).1
    have e : k = shs.length := by omega
    rw [show k - shs.length = 0 by omega] at hk
    cases hk
    subst e
    exact hn j hj
theorem wl_fst {cs : Nat → Nat} {tc : Nat → ClassId} {ad shs : List Nat} {σ : Me_t} (hA : ad.length = shs.length) : (wl_ cs tc ad shs σ).map Prod.fst = ad := by
  apply List.ext_getElem?
  intro k
  rw [List.getElem?_map]
  cases hs : shs[k]? with
  | none =>
    rw [wl_none hs]
    have : ad.length ≤ k := by rw [hA]; exact List.getElem?_eq_none_iff.mp hs
    rw [List.getElem?_eq_none_iff.mpr this]
    rfl
  | some sh =>
    rw [wl_get hs]
    have hk : k < ad.length := by rw [hA]; exact (List.getElem?_eq_some_iff.mp hs).1
    simp [List.getD_eq_getElem?_getD, hk]
theorem vad_ {A : Nat → Prop} {ws ws' : va_W} (e : ws.map Prod.fst = ws'.map Prod.fst) (h : va_D A ws) : va_D A ws' := by
  have key : ∀ (k : Nat) (q : Nat × va_E), ws'[k]? = some q → ∃ q0 : Nat × va_E, ws[k]? = some q0 ∧ q0.1 = q.1 := by
    intro k q hq
    have h1 : (ws.map Prod.fst)[k]? = some q.1 := by rw [e, List.getElem?_map, hq]; rfl
    rw [List.getElem?_map] at h1
    cases h2 : ws[k]? with
    | none => rw [h2] at h1; cases h1
    | some q0 => rw [h2] at h1; exact ⟨q0, rfl, Option.some.inj h1⟩
  refine ⟨fun i j x y hi hj hxy => ?_, fun k q hk => ?_⟩
  · obtain ⟨x0, h1, h2⟩ := key i x hi
    obtain ⟨y0, h3, h4⟩ := key j y hj
    exact h.1 i j x0 y0 h1 h3 (h2.trans (hxy.trans h4.symm))
  · obtain ⟨q0, h1, h2⟩ := key k q hk
    rw [← h2]
    exact h.2 k q0 h1
theorem arrV_cg {cA : ClassId} {n : Nat} {f g : Nat → Value} (h : ∀ j, j < n → f j = g j) : arrV cA n f = arrV cA n g := by
  unfold arrV
  have : (Array.ofFn fun j : Fin n => f j) = Array.ofFn fun j : Fin n => g j := by
    congr 1
    funext j
    exact h j.val j.isLt
  rw [this]
theorem ent_o {cs : Nat → Nat} {tc : Nat → ClassId} {ad ad' : List Nat} {sh a c n : Nat} {f : Int → Int} (h : KT_ sh = (a, c, n)) (h0 : a ≠ 0) (h5 : a ≠ 5) : ent_ cs tc ad sh f = ent_ cs tc ad' sh f := by
  unfold ent_
  rw [h]
  match a, h0, h5 with
  | 0, h0, _ => exact absurd rfl h0
  | 1, _, _ => rfl
  | 2, _, _ => rfl
  | 3, _, _ => rfl
  | 4, _, _ => rfl
  | 5, _, h5 => exact absurd rfl h5
  | a + 6, _, _ => rfl
theorem tyok_9 {ft : FieldType} {t : Nat × Int × Int} (h : tyok_ ft t = true) : t.1 ≠ 9 := by
  intro e
  unfold tyok_ at h
  rw [e] at h
  split at h <;> simp at h
/-- the list of addresses grows -/
theorem va_x {D : va_G} {cs : Nat → Nat} {tc : Nat → ClassId} {ad qs shs : List Nat} {σ : Me_t} {H : Heap} (hA : ad.length = shs.length) (hM : MT_ shs σ) (hP : va_P D cls_ (wl_ cs tc ad shs σ) H) : va_P D cls_ (wl_ cs tc (ad ++ qs) shs σ) H := by
  intro k q hq
  cases hs : shs[k]? with
  | none => rw [wl_none hs] at hq; cases hq
  | some sh =>
    rw [wl_get hs] at hq
    cases hq
    have h1 := hP k _ (wl_get hs)
    have hk : k < ad.length := by rw [hA]; exact (List.getElem?_eq_some_iff.mp hs).1
    have ea : (ad ++ qs).getD k 0 = ad.getD k 0 := by
      rw [List.getD_eq_getElem?_getD, List.getD_eq_getElem?_getD, List.getElem?_append_left hk]
    rw [ea]
    obtain ⟨a, c, n, hK⟩ : ∃ a c n, KT_ sh = (a, c, n) := ⟨_, _, _, rfl⟩
    have hsz : sz_ sh = n := by unfold sz_; rw [hK]
    by_cases h0 : a = 0
    · subst h0
      have e : ent_ cs tc (ad ++ qs) sh (σ k) = ent_ cs tc ad sh (σ k) := by
        rw [ent_0 hK, ent_0 hK]
        congr 2
        apply List.map_congr_left
        intro j hj
        have hj := List.mem_range.mp hj
        exact val_x hA (hM k sh hs j (by rw [hsz]; exact hj)).1 (tyok_9 ((SH_ok sh c n hK).2 j hj))
      rw [e]
      exact h1
    · by_cases h5 : a = 5
      · subst h5
        rw [ent_5 hK] at h1 ⊢
        have h1 : H[ad.getD k 0]? = some (vp_cell _ _) := h1
        show H[ad.getD k 0]? = some (vp_cell _ _)
        rw [h1, vp_cell_q, vp_cell_q]
        refine congrArg some (arrV_cg fun j hj => ?_)
        have hok := (hM k sh hs j (by rw [hsz]; exact hj)).1
        have ht := (SA_ok sh 5 c n hK).2.2.2.2.1 rfl
        rw [ht.1 j] at hok
        by_cases hz : σ (k : Int) (j : Int) < 0
        · rw [if_pos hz, if_pos hz]
        · rw [if_neg hz, if_neg hz]
          have hl : (σ (k : Int) (j : Int)).toNat < ad.length := by
            rw [hA]
            rcases ht.2.2.1 with e | e
            · rw [e] at hok
              rcases hok with q | q
              · exact absurd q hz
              · exact q
            · obtain ⟨u, hu⟩ : ∃ u, (ty_ sh 0).1 = u + 10 := ⟨(ty_ sh 0).1 - 10, by omega⟩
              rw [hu] at hok
              exact (List.getElem?_eq_some_iff.mp hok.2).1
          rw [List.getD_eq_getElem?_getD, List.getD_eq_getElem?_getD, List.getElem?_append_left hl]
      · rw [ent_o (ad' := ad) hK h0 h5]
        exact h1
theorem wl_snoc {cs : Nat → Nat} {tc : Nat → ClassId} {ad shs : List Nat} {q sh : Nat} {σ : Me_t} (hA : ad.length = shs.length) : wl_ cs tc (ad ++ [q]) (shs ++ [sh]) σ = wl_ cs tc (ad ++ [q]) shs σ ++ [(q, ent_ cs tc (ad ++ [q]) sh (σ (shs.length : Int)))] := by
  unfold wl_
  rw [List.zipIdx_append, List.map_append]
  have e : (ad ++ [q]).getD shs.length 0 = q := by
    rw [List.getD_eq_getElem?_getD, ← hA, List.getElem?_append_right (Nat.le_refl _)]
    simp
  rw [List.getD_eq_getElem?_getD] at e
  simp [e]
theorem va_left {D : va_G} {w1 w2 : va_W} {H : Heap} (h : va_P D cls_ (w1 ++ w2) H) : va_P D cls_ w1 H := fun k q hk => h k q (by rw [List.getElem?_append_left (List.getElem?_eq_some_iff.mp hk).1]; exact hk)
theorem va_lst_ {D : va_G} {w1 : va_W} {x : Nat × va_E} {H : Heap} (h : va_P D cls_ (w1 ++ [x]) H) : va_at D cls_ x H := h w1.length x (by rw [List.getElem?_append_right (Nat.le_refl _)]; simp)
theorem va_one {D : va_G} {x : Nat × va_E} {H : Heap} (h : va_at D cls_ x H) : va_P D cls_ [x] H := by
  intro k q hk
  have hz : k < 1 := (List.getElem?_eq_some_iff.mp hk).1
  rw [show k = 0 by omega] at hk
  cases hk
  exact h
theorem tk_ {n sh : Nat} (h : SHR_[n]? = some sh) : SHR_.take (n + 1) = SHR_.take n ++ [sh] := by rw [List.take_add_one, h]; rfl
theorem tl_ {n sh : Nat} (h : SHR_[n]? = some sh) : (SHR_.take n).length = n := by rw [List.length_take]; exact Nat.min_eq_left (Nat.le_of_lt (List.getElem?_eq_some_iff.mp h).1)
theorem tg_ {n k sh : Nat} (h : SHR_[k]? = some sh) (hk : k < n) : (SHR_.take n)[k]? = some sh := by rw [List.getElem?_take, if_pos hk]; exact h
section NEW
variable {X : Cx_t} {G : Gx_t} {Q : State → Prop} {cl sl : Nat} {ad : List Nat} {σ : Me_t} {pc : Nat} {L S : List Sv_t} {own : String} {cc : ByteArray} {nL : Nat} {rty : Option FieldType}
/-- behind the making of object n -/
theorem grow_ {n sh cl' sl' pc' : Nat} {H1 : Heap} {locs : List Loc} {ls : Array Slot} {q : Nat} {e : va_E} (hs : SHR_[n]? = some sh) (hz : ∀ j, j < sz_ sh → zok_ (ty_ sh j) = true) (hr : ∀ (k : Int) (j : Nat) (z : Int), rt_ sh k j z = none) (hD : DF_ n σ) (h9 : (S.all fun v => v.1 != 9) = true)
    (k : WP_ X G Q cl' sl' (ad ++ [q]) (SHR_.take (n + 1)) σ pc' L ((sh + 10, (n : Int)) :: S)) (hM : MT_ (SHR_.take n) σ) (hA : ad.length = (SHR_.take n).length)
    (hP1 : va_P G.1 cls_ (wl_ G.2.2.1 G.2.1 ad (SHR_.take n) σ ++ [(q, e)]) H1) (he : va_at G.1 cls_ (q, e) H1 → va_at G.1 cls_ (q, ent_ G.2.2.1 G.2.1 (ad ++ [q]) sh (σ (n : Int))) H1) (hD1 : va_D G.2.2.2 (wl_ G.2.2.1 G.2.1 ad (SHR_.take n) σ ++ [(q, e)])) (hS1 : va_S G.2.2.2 X.2.2.2.2.1.heap H1 locs) (hlh : lh_ G.2.2.1 ad L ls) (vL : ∀ v ∈ L, tv_ (SHR_.take n) v) (vS : ∀ v ∈ S, tv_ (SHR_.take n) v) :
    Wx_ X Q cl' sl' H1 locs pc' ls (.ref q :: S.map (val_ G.2.2.1 ad)) := by
  have hlen := tl_ hs
  have hMn : MT_ (SHR_.take (n + 1)) σ := by
    rw [tk_ hs]
    refine mt_x hM fun j hj => ?_
    rw [hlen, hD n sh (Nat.le_refl _) hs j]
    exact zok_ok (hz j hj) hr
  have hAn : (ad ++ [q]).length = (SHR_.take (n + 1)).length := by rw [tk_ hs, List.length_append, List.length_append, hA]; rfl
  have hPn : va_P G.1 cls_ (wl_ G.2.2.1 G.2.1 (ad ++ [q]) (SHR_.take (n + 1)) σ) H1 := by
    rw [tk_ hs, wl_snoc hA, hlen]
    exact (va_x hA hM (va_left hP1)).app (va_one (he (va_lst_ hP1)))
  have hDn : va_D G.2.2.2 (wl_ G.2.2.1 G.2.1 (ad ++ [q]) (SHR_.take (n + 1)) σ) := by
    refine vad_ ?_ hD1
    rw [wl_fst hAn, List.map_append, wl_fst hA]
    rfl
  have hv : val_ G.2.2.1 (ad ++ [q]) (sh + 10, (n : Int)) = .ref q := by
    rw [val_r (by omega)]
    congr 1
    rw [List.getD_eq_getElem?_getD, Int.toNat_natCast, List.getElem?_append_right (by rw [hA, hlen]; exact Nat.le_refl _), hA, hlen]
    simp
  have := k hMn hAn H1 locs ls hPn hDn hS1 (lh_x hA vL hlh) (fun v hv => by rw [tk_ hs]; exact tv_x (vL v hv)) (fun v hv => by
    rcases List.mem_cons.mp hv with rfl | hv
    · exact ⟨by omega, by rw [Int.toNat_natCast]; exact tg_ hs (Nat.lt_succ_self n)⟩
    · rw [tk_ hs]; exact tv_x (vS v hv))
  rw [List.map_cons, hv, map_x hA vS h9] at this
  exact this
theorem dv_ {cs : Nat → Nat} {ft : FieldType} {sh j : Nat} (h : tyok_ ft (ty_ sh j) = true) (hz : zok_ (ty_ sh j) = true) : defaultValue ft = val_ cs ad ((ty_ sh j).1, dz_ sh j) := by
  unfold dz_
  unfold zok_ at hz
  unfold tyok_ at h
  split at hz
  next h0 =>
    rw [h0] at h ⊢
    cases ft <;> first | rfl | simp at h
  next h0 =>
    rw [h0] at h ⊢
    cases ft <;> first | rfl | simp at h
  next h0 =>
    rw [h0] at h ⊢
    cases ft <;> first | rfl | simp at h
  next => cases hz
theorem so_new {n sh c N idx : Nat} {C : String} {T : u_T} (E : EN_ X G own cc nL rty) (hA0 : ∀ q, X.2.2.2.2.1.heap.size ≤ q → G.2.2.2 q) (hd : decode cc pc = .ok (.new idx, 3)) (hK : KT_ sh = (0, c, N)) (hc : cls_[c]? = some (C, T, N)) (hs : SHR_[n]? = some sh) (hz : ∀ j, j < N → zok_ (ty_ sh j) = true) (hr : ∀ (k : Int) (j : Nat) (z : Int), rt_ sh k j z = none) (w1 : Cond.classLink own idx C ∈ gl_) (w2 : Cond.instantiable C N ∈ gl_) (w3 : Cond.initialized C ∈ gl_) (hcl : cl + 1 ≤ X.2.2.2.1.cells) (hsl : sl + N ≤ X.2.2.2.1.slots) (hD : DF_ n σ) (h9 : (S.all fun v => v.1 != 9) = true)
    (k : ∀ q, WP_ X G Q (cl + 1) (sl + N) (ad ++ [q]) (SHR_.take (n + 1)) σ (pc + 3) L ((sh + 10, (n : Int)) :: S)) : WP_ X G Q cl sl ad (SHR_.take n) σ pc L S := by
  intro hM hA H locs ls hP hDD hS hlh vL vS
  obtain ⟨q1, q2, q3⟩ := CL_ok c C T N hc
  refine va_new (cc := cc) E.1 E.2.1 (Ts := gl_) (own := own) E.2.2.2.2.1 q1 (tyF_ c) q2 E.2.2.2.1 (E.2.2.2.2.1 _ w1) (E.2.2.2.2.1 _ w2) (E.2.2.2.2.1 _ w3) E.2.2.2.2.2.1 hP hDD hS hA0 hc (fs := (List.range N).map fun j => val_ G.2.2.1 ad ((ty_ sh j).1, dz_ sh j)) ?_ hcl hsl hd ?_
  · intro j hj
    show _ = List.getD _ _ _
    rw [List.getD_eq_getElem?_getD, rg_ hj]
    exact dv_ ((SH_ok sh c N hK).2 j hj) (hz j hj)
  · intro q H1 hP1 hD1 hS1
    refine grow_ hs (fun j hj => hz j (by unfold sz_ at hj; rw [hK] at hj; exact hj)) hr hD h9 (k q) hM hA hP1 ?_ hD1 hS1 hlh vL vS
    intro h
    rw [ent_0 hK]
    have e : ((List.range N).map fun j : Nat => val_ G.2.2.1 ad ((ty_ sh j).1, dz_ sh j)) = (List.range N).map fun j : Nat => val_ G.2.2.1 (ad ++ [q]) ((ty_ sh j).1, σ (n : Int) (j : Int)) := by
      apply List.map_congr_left
      intro j hj
      have hj := List.mem_range.mp hj
      rw [hD n sh (Nat.le_refl _) hs j]
      exact (val_x hA (zok_ok (k := 0) (hz j hj) hr).1 (tyok_9 ((SH_ok sh c N hK).2 j hj))).symm
    rw [← e]
    exact h
theorem ra_ {U : State} {cA cB : ClassId} {ty : FieldType} (h1 : va_RA U cA ty) (h2 : va_RA U cB ty) : cA = cB := by
  cases ty with
  | object C =>
    obtain ⟨-, -, -, -, -, h1⟩ := h1
    obtain ⟨-, -, -, -, -, h2⟩ := h2
    exact Option.some.inj (h1.symm.trans h2)
  | _ => exact Option.some.inj (h1.symm.trans h2)
/-- an array of ints, bytes or booleans -/
theorem so_newi {n sh a c N i : Nat} {x : Int} {at_ : ArrayType} {ty : FieldType} (E : EN_ X G own cc nL rty) (hA0 : ∀ q, X.2.2.2.2.1.heap.size ≤ q → G.2.2.2 q) (hd : decode cc pc = .ok (.newarray at_, 2)) (hty : newarray.typeOf at_ = ty) (hdv : defaultValue ty = .int 0) (hi : ∀ tc, (tys_ tc)[i]? = some (tc a, ty)) (ha : a = 1 ∨ a = 2 ∨ a = 3) (hK : KT_ sh = (a, c, N)) (hx : x = (N : Int)) (hb : N * componentBytes ty ≤ 536870912) (hs : SHR_[n]? = some sh) (hz : ∀ j, zok_ (ty_ sh j) = true ∧ dz_ sh j = 0) (hr : ∀ (k : Int) (j : Nat) (z : Int), rt_ sh k j z = none) (w1 : Cond.arrayClass ty ∈ gl_) (hcl : cl + 1 ≤ X.2.2.2.1.cells) (hsl : sl + N ≤ X.2.2.2.1.slots) (hD : DF_ n σ) (h9 : (S.all fun v => v.1 != 9) = true)
    (k : ∀ q, WP_ X G Q (cl + 1) (sl + N) (ad ++ [q]) (SHR_.take (n + 1)) σ (pc + 2) L ((sh + 10, (n : Int)) :: S)) : WP_ X G Q cl sl ad (SHR_.take n) σ pc L ((0, x) :: S) := by
  intro hM hA H locs ls hP hDD hS hlh vL vS
  subst hx
  have hN : N < 100000 := (SA_ok sh a c N hK).2.2.2.2.2.2.2
  have hent : ∀ ad' : List Nat, ent_ G.2.2.1 G.2.1 ad' sh (σ (n : Int)) = .inl (G.2.1 a, N, .inl fun j : Nat => Int32.ofInt (σ (n : Int) (j : Int))) := by
    intro ad'
    rcases ha with rfl | rfl | rfl
    · exact ent_1 hK
    · exact ent_2 hK
    · exact ent_3 hK
  have hzero : ∀ j : Nat, σ (n : Int) (j : Int) = 0 := fun j => (hD n sh (Nat.le_refl _) hs j).trans (hz j).2
  rw [List.map_cons]
  refine va_newa (cc := cc) E.1 E.2.1 (by rw [hty]; exact E.2.2.2.2.1 _ w1) hty E.2.2.2.2.2.1 hP hDD hS hA0 (a0 := (N, .inl fun j : Nat => Int32.ofInt (σ (n : Int) (j : Int)))) (N' := N) ?_ ?_ ?_ hb hcl hsl hd ?_
  · intro cA
    rw [vp_cell_i]
    refine arrV_cg fun j _ => ?_
    rw [hdv, hzero j]
    rfl
  · show ¬ Int32.ofInt (N : Int) < 0
    rw [i3_z, i3_lt (by omega) (by omega)]
    omega
  · show (Int32.ofInt (N : Int)).toNatClampNeg = N
    rw [cl_ (by omega) (by omega), Int.toNat_natCast]
  · intro q cA H1 hK1 hP1 hD1 hS1
    have hcA : cA = G.2.1 a := ra_ (hK1.2 (tys_ G.2.1).length (cA, ty) (by rw [List.getElem?_append_right (Nat.le_refl _)]; simp)).2 (E.2.2.2.2.2.1.2 i _ (hi G.2.1)).2
    subst hcA
    refine grow_ hs (fun j hj => (hz j).1) hr hD h9 (k q) hM hA hP1 (fun h => ?_) hD1 hS1 hlh vL (vt_ vS).2
    rw [hent]
    exact h
theorem so_newl {n sh c N : Nat} {x : Int} (E : EN_ X G own cc nL rty) (hA0 : ∀ q, X.2.2.2.2.1.heap.size ≤ q → G.2.2.2 q) (hd : decode cc pc = .ok (.newarray .long, 2)) (hK : KT_ sh = (4, c, N)) (hx : x = (N : Int)) (hb : N * 8 ≤ 536870912) (hs : SHR_[n]? = some sh) (hz : ∀ j, zok_ (ty_ sh j) = true ∧ dz_ sh j = 0) (hr : ∀ (k : Int) (j : Nat) (z : Int), rt_ sh k j z = none) (w1 : Cond.arrayClass .long ∈ gl_) (hcl : cl + 1 ≤ X.2.2.2.1.cells) (hsl : sl + N ≤ X.2.2.2.1.slots) (hD : DF_ n σ) (h9 : (S.all fun v => v.1 != 9) = true)
    (k : ∀ q, WP_ X G Q (cl + 1) (sl + N) (ad ++ [q]) (SHR_.take (n + 1)) σ (pc + 2) L ((sh + 10, (n : Int)) :: S)) : WP_ X G Q cl sl ad (SHR_.take n) σ pc L ((0, x) :: S) := by
  intro hM hA H locs ls hP hDD hS hlh vL vS
  subst hx
  have hN : N < 100000 := (SA_ok sh 4 c N hK).2.2.2.2.2.2.2
  have hzero : ∀ j : Nat, σ (n : Int) (j : Int) = 0 := fun j => (hD n sh (Nat.le_refl _) hs j).trans (hz j).2
  rw [List.map_cons]
  refine va_newa (cc := cc) (atype := .long) (ty := .long) E.1 E.2.1 (E.2.2.2.2.1 _ w1) rfl E.2.2.2.2.2.1 hP hDD hS hA0 (a0 := (N, .inr (.inl fun j : Nat => Int64.ofInt (σ (n : Int) (j : Int))))) (N' := N) ?_ ?_ ?_ hb hcl hsl hd ?_
  · intro cA
    rw [vp_cell_l]
    refine arrV_cg fun j _ => ?_
    rw [hzero j]
    rfl
  · show ¬ Int32.ofInt (N : Int) < 0
    rw [i3_z, i3_lt (by omega) (by omega)]
    omega
  · show (Int32.ofInt (N : Int)).toNatClampNeg = N
    rw [cl_ (by omega) (by omega), Int.toNat_natCast]
  · intro q cA H1 hK1 hP1 hD1 hS1
    have hcA : cA = G.2.1 4 := ra_ (ty := .long) (hK1.2 (tys_ G.2.1).length (cA, .long) (by rw [List.getElem?_append_right (Nat.le_refl _)]; simp)).2 (E.2.2.2.2.2.1.2 3 (G.2.1 4, .long) rfl).2
    subst hcA
    refine grow_ hs (fun j hj => (hz j).1) hr hD h9 (k q) hM hA hP1 (fun h => ?_) hD1 hS1 hlh vL (vt_ vS).2
    rw [ent_4 hK]
    exact h
/-- an array of references -/
theorem so_newq {n sh c N i idx : Nat} {x : Int} {C : String} (E : EN_ X G own cc nL rty) (hA0 : ∀ q, X.2.2.2.2.1.heap.size ≤ q → G.2.2.2 q) (hd : decode cc pc = .ok (.anewarray idx, 3)) (hi : ∀ tc, (tys_ tc)[i]? = some (tc (5 + c), .object C)) (hK : KT_ sh = (5, c, N)) (hx : x = (N : Int)) (hs : SHR_[n]? = some sh) (hz : ∀ j, zok_ (ty_ sh j) = true ∧ dz_ sh j = -1) (hr : ∀ (k : Int) (j : Nat) (z : Int), rt_ sh k j z = none) (w1 : Cond.classLink own idx C ∈ gl_) (hO : va_AO C X.2.2.2.2.1) (hcl : cl + 1 ≤ X.2.2.2.1.cells) (hsl : sl + N ≤ X.2.2.2.1.slots) (hD : DF_ n σ) (h9 : (S.all fun v => v.1 != 9) = true)
    (k : ∀ q, WP_ X G Q (cl + 1) (sl + N) (ad ++ [q]) (SHR_.take (n + 1)) σ (pc + 3) L ((sh + 10, (n : Int)) :: S)) : WP_ X G Q cl sl ad (SHR_.take n) σ pc L ((0, x) :: S) := by
  intro hM hA H locs ls hP hDD hS hlh vL vS
  subst hx
  have hN : N < 100000 := (SA_ok sh 5 c N hK).2.2.2.2.2.2.2
  have hneg : ∀ j : Nat, σ (n : Int) (j : Int) = -1 := fun j => (hD n sh (Nat.le_refl _) hs j).trans (hz j).2
  rw [List.map_cons]
  refine va_newq (cc := cc) E.1 E.2.1 E.2.2.2.1 (E.2.2.2.2.1 _ w1) hO E.2.2.2.2.2.1 hP hDD hS hA0 (N' := N) ?_ ?_ (by omega) hcl hsl hd ?_
  · show ¬ Int32.ofInt (N : Int) < 0
    rw [i3_z, i3_lt (by omega) (by omega)]
    omega
  · show (Int32.ofInt (N : Int)).toNatClampNeg = N
    rw [cl_ (by omega) (by omega), Int.toNat_natCast]
  · intro q cA H1 hK1 hP1 hD1 hS1
    have hcA : cA = G.2.1 (5 + c) := ra_ (ty := .object C) (hK1.2 (tys_ G.2.1).length (cA, .object C) (by rw [List.getElem?_append_right (Nat.le_refl _)]; simp)).2 (E.2.2.2.2.2.1.2 i _ (hi G.2.1)).2
    subst hcA
    refine grow_ hs (fun j hj => (hz j).1) hr hD h9 (k q) hM hA hP1 (fun h => ?_) hD1 hS1 hlh vL (vt_ vS).2
    rw [ent_5 hK]
    have e : (fun j : Nat => if σ (n : Int) (j : Int) < 0 then none else some ((ad ++ [q]).getD (σ (n : Int) (j : Int)).toNat 0)) = fun _ : Nat => (none : Option Nat) := by
      funext j
      rw [hneg j]
      rfl
    rw [e]
    exact h
end NEW
