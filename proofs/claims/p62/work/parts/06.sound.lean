/-! THE STEPS ARE SOUND -/
theorem ent_0 {cs : Nat → Nat} {tc : Nat → ClassId} {ad : List Nat} {sh c n : Nat} {f : Int → Int} (h : KT_ sh = (0, c, n)) : ent_ cs tc ad sh f = .inr (c, (List.range n).map fun j => val_ cs ad ((ty_ sh j).1, f j)) := by unfold ent_; rw [h]; rfl
theorem ent_1 {cs : Nat → Nat} {tc : Nat → ClassId} {ad : List Nat} {sh c n : Nat} {f : Int → Int} (h : KT_ sh = (1, c, n)) : ent_ cs tc ad sh f = .inl (tc 1, n, .inl fun j => Int32.ofInt (f j)) := by unfold ent_; rw [h]; rfl
theorem ent_2 {cs : Nat → Nat} {tc : Nat → ClassId} {ad : List Nat} {sh c n : Nat} {f : Int → Int} (h : KT_ sh = (2, c, n)) : ent_ cs tc ad sh f = .inl (tc 2, n, .inl fun j => Int32.ofInt (f j)) := by unfold ent_; rw [h]; rfl
theorem ent_3 {cs : Nat → Nat} {tc : Nat → ClassId} {ad : List Nat} {sh c n : Nat} {f : Int → Int} (h : KT_ sh = (3, c, n)) : ent_ cs tc ad sh f = .inl (tc 3, n, .inl fun j => Int32.ofInt (f j)) := by unfold ent_; rw [h]; rfl
theorem ent_4 {cs : Nat → Nat} {tc : Nat → ClassId} {ad : List Nat} {sh c n : Nat} {f : Int → Int} (h : KT_ sh = (4, c, n)) : ent_ cs tc ad sh f = .inl (tc 4, n, .inr (.inl fun j => Int64.ofInt (f j))) := by unfold ent_; rw [h]; rfl
theorem ent_5 {cs : Nat → Nat} {tc : Nat → ClassId} {ad : List Nat} {sh c n : Nat} {f : Int → Int} (h : KT_ sh = (5, c, n)) : ent_ cs tc ad sh f = .inl (tc (5 + c), n, .inr (.inr (.inr (.inr fun j => if f j < 0 then none else some (ad.getD (f j).toNat 0))))) := by unfold ent_; rw [h]; rfl
/-- what a table of fields must say -/
def FT_ (own : String) (fl : List (Nat × Nat × Nat × Int)) : Prop := ∀ q ∈ fl, ∃ (C : String) (T : u_T) (N : Nat), cls_[q.2.1]? = some (C, T, N) ∧ q.2.2.1 < N ∧ q.2.2.2 = (q.2.2.1 : Int) ∧ Cond.fieldLink own q.1 (T q.2.2.1).1 (T q.2.2.1).2.1 (T q.2.2.1).2.2.1 ∈ gl_
def PT_ (own : String) (pl : List (Nat × Nat × Nat × Int)) : Prop := FT_ own pl ∧ ∀ q ∈ pl, ∀ (C : String) (T : u_T) (N : Nat), cls_[q.2.1]? = some (C, T, N) → (T q.2.2.1).2.2.2 = false
theorem lk_mem {α : Type} {l : List (Nat × α)} {n : Nat} {a : α} (h : lk_ l n = some a) : (n, a) ∈ l := by
  induction l with
  | nil => cases h
  | cons q l ih =>
    unfold lk_ at h
    cases hq : q.1 == n with
    | true =>
      rw [hq] at h
      have h1 : q.1 = n := by simpa using hq
      have h2 : q.2 = a := Option.some.inj h
      have : q = (n, a) := by rw [← h1, ← h2]
      rw [this]; exact List.mem_cons_self
    | false =>
      rw [hq] at h
      exact List.mem_cons_of_mem _ (ih h)
/-- constants of the pool -/
def KN_ (own : String) (kn : List (Nat × Sv_t)) : Prop := ∀ q ∈ kn, (q.2.1 = 0 ∧ (-2147483648 ≤ q.2.2 ∧ q.2.2 ≤ 2147483647) ∧ Cond.constant own q.1 (Int32.ofInt q.2.2) ∈ gl_) ∨ (q.2.1 = 1 ∧ (-9223372036854775808 ≤ q.2.2 ∧ q.2.2 ≤ 9223372036854775807) ∧ Cond.constantLong own q.1 (Int64.ofInt q.2.2) ∈ gl_)
/-- the classes' tables: their words are there, names differ, types are told -/
def CL_ : Prop := ∀ (c : Nat) (C : String) (T : u_T) (N : Nat), cls_[c]? = some (C, T, N) → (∀ w ∈ u_ws C T N, w ∈ gl_) ∧ (∀ k, k < N → parseFieldDescriptor (T k).2.2.1 = some (tyF_ c k)) ∧ ∀ a, a < N → ∀ b, b < N → a ≠ b → (T a).2.1 ≠ (T b).2.1
/-- a shape's types are those of its class -/
def tyok_ (ft : FieldType) (t : Nat × Int × Int) : Bool := match ft with
  | .int => t.1 == 0
  | .boolean => t.1 == 0 && decide (0 ≤ t.2.1) && decide (t.2.2 ≤ 1)
  | .long => t.1 == 1
  | .object _ => t.1 == 2 || Nat.ble 10 t.1
  | .array _ => t.1 == 2 || Nat.ble 10 t.1
  | _ => false
def SH_ : Prop := ∀ (sh c n : Nat), KT_ sh = (0, c, n) → (∃ (C : String) (T : u_T), cls_[c]? = some (C, T, n)) ∧ ∀ j, j < n → tyok_ (tyF_ c j) (ty_ sh j) = true
def SA_ : Prop := ∀ (sh a c n : Nat), KT_ sh = (a, c, n) → (a = 1 → ∀ j, ty_ sh j = ty_ sh 0 ∧ (ty_ sh 0).1 = 0) ∧ (a = 2 → ∀ j, ty_ sh j = ty_ sh 0 ∧ (ty_ sh 0).1 = 0 ∧ -128 ≤ (ty_ sh 0).2.1 ∧ (ty_ sh 0).2.2 ≤ 127) ∧ (a = 3 → ∀ j, ty_ sh j = ty_ sh 0 ∧ (ty_ sh 0).1 = 0 ∧ 0 ≤ (ty_ sh 0).2.1 ∧ (ty_ sh 0).2.2 ≤ 1) ∧ (a = 4 → ∀ j, ty_ sh j = ty_ sh 0 ∧ (ty_ sh 0).1 = 1) ∧ (a = 5 → (∀ j, ty_ sh j = ty_ sh 0) ∧ (c = 1 ∨ c = 4 ∨ c = 9) ∧ ((ty_ sh 0).1 = 2 ∨ 10 ≤ (ty_ sh 0).1) ∧ (∀ (k z : Int) (j : Nat), rt_ sh k j z = rt_ sh k 0 z)) ∧ (a = 0 → ∀ (k z z' : Int) (j : Nat), rt_ sh k j z = rt_ sh k j z') ∧ (1 ≤ a → a ≤ 4 → ∀ (k z : Int) (j : Nat), rt_ sh k j z = none) ∧ n < 100000
section SND
variable {X : Cx_t} {G : Gx_t} {Q : State → Prop} {cl sl : Nat} {ad shs : List Nat} {σ : Me_t} {pc pc' : Nat} {L S : List Sv_t} {own : String} {cc : ByteArray} {nL : Nat} {rty : Option FieldType}
/-- W, as WP_ ends in it -/
abbrev Wx_ (X : Cx_t) (Q : State → Prop) (cl sl : Nat) (H : Heap) (locs : List Loc) (pc : Nat) (ls : Array Slot) (st : List Value) : Prop := W X.1 X.2.1 X.2.2.1 X.2.2.2.1 X.2.2.2.2.1 X.2.2.2.2.2.1 X.2.2.2.2.2.2.1 X.2.2.2.2.2.2.2.1 X.2.2.2.2.2.2.2.2.1 X.2.2.2.2.2.2.2.2.2 H locs cl sl Q (F0 X.2.2.2.2.2.1 pc ls st)
theorem wpp_ {S' : List Sv_t} (k : WP_ X G Q cl sl ad shs σ pc' L S') (hv : (∀ v ∈ L, tv_ shs v) → (∀ v ∈ S, tv_ shs v) → ∀ v ∈ S', tv_ shs v)
    (h : ∀ (H : Heap) (locs : List Loc) (ls : Array Slot), lh_ G.2.2.1 ad L ls → (∀ v ∈ L, tv_ shs v) → (∀ v ∈ S, tv_ shs v) → Wx_ X Q cl sl H locs pc' ls (S'.map (val_ G.2.2.1 ad)) → Wx_ X Q cl sl H locs pc ls (S.map (val_ G.2.2.1 ad))) : WP_ X G Q cl sl ad shs σ pc L S :=
  fun hM hA H locs ls hP hD hS hl vL vS => h H locs ls hl vL vS (k hM hA H locs ls hP hD hS hl vL (hv vL vS))
theorem rs_ {z : Int} {t : Nat} (h : tv_ shs (t + 10, z)) : 0 ≤ z ∧ shs[z.toNat]? = some t := h
theorem so_iload {n i : Nat} {z : Int} (E : EN_ X G own cc nL rty) (hd : decode cc pc = .ok (.iload n, 2)) (h : L[n]? = some (0, z)) (k : WP_ X G Q cl sl ad shs σ (pc + 2) L ((0, z) :: S)) : WP_ X G Q cl sl ad shs σ pc L S :=
  wpp_ k (fun vL vS => vc_ (vg_ vL h) vS) (fun _ _ _ hl _ _ kk => lv_iload E.1 E.2.1 hd (hl.2.2 n _ h (fun q => by cases q)) kk)
theorem so_iload_n {n : Fin 4} {z : Int} (E : EN_ X G own cc nL rty) (hd : decode cc pc = .ok (.iload_n n, 1)) (h : L[n.val]? = some (0, z)) (k : WP_ X G Q cl sl ad shs σ (pc + 1) L ((0, z) :: S)) : WP_ X G Q cl sl ad shs σ pc L S :=
  wpp_ k (fun vL vS => vc_ (vg_ vL h) vS) (fun _ _ _ hl _ _ kk => lv_iload_n E.1 E.2.1 hd rfl (hl.2.2 n.val _ h (fun q => by cases q)) kk)
theorem so_lload {n : Nat} {z : Int} (E : EN_ X G own cc nL rty) (hd : decode cc pc = .ok (.lload n, 2)) (h : L[n]? = some (1, z)) (k : WP_ X G Q cl sl ad shs σ (pc + 2) L ((1, z) :: S)) : WP_ X G Q cl sl ad shs σ pc L S :=
  wpp_ k (fun vL vS => vc_ (vg_ vL h) vS) (fun _ _ _ hl _ _ kk => lv_lload E.1 E.2.1 hd (hl.2.2 n _ h (fun q => by cases q)) kk)
theorem so_lload_n {n : Fin 4} {z : Int} (E : EN_ X G own cc nL rty) (hd : decode cc pc = .ok (.lload_n n, 1)) (h : L[n.val]? = some (1, z)) (k : WP_ X G Q cl sl ad shs σ (pc + 1) L ((1, z) :: S)) : WP_ X G Q cl sl ad shs σ pc L S :=
  wpp_ k (fun vL vS => vc_ (vg_ vL h) vS) (fun _ _ _ hl _ _ kk => lv_lload_n E.1 E.2.1 hd rfl (hl.2.2 n.val _ h (fun q => by cases q)) kk)
theorem so_aload {n t : Nat} {z : Int} (E : EN_ X G own cc nL rty) (hd : decode cc pc = .ok (.aload n, 2)) (h : L[n]? = some (t + 10, z)) (k : WP_ X G Q cl sl ad shs σ (pc + 2) L ((t + 10, z) :: S)) : WP_ X G Q cl sl ad shs σ pc L S :=
  wpp_ k (fun vL vS => vc_ (vg_ vL h) vS) (fun _ _ _ hl vL _ kk => by
    have e := val_r (cs := G.2.2.1) (ad := ad) (t := t) (rs_ (vg_ vL h)).1
    have h1 := hl.2.2 n _ h (fun q => by simp at q)
    rw [e] at h1
    rw [List.map_cons, e] at kk
    exact lv_aload E.1 E.2.1 hd h1 kk)
theorem so_aload_n {n : Fin 4} {t : Nat} {z : Int} (E : EN_ X G own cc nL rty) (hd : decode cc pc = .ok (.aload_n n, 1)) (h : L[n.val]? = some (t + 10, z)) (k : WP_ X G Q cl sl ad shs σ (pc + 1) L ((t + 10, z) :: S)) : WP_ X G Q cl sl ad shs σ pc L S :=
  wpp_ k (fun vL vS => vc_ (vg_ vL h) vS) (fun _ _ _ hl vL _ kk => by
    have e := val_r (cs := G.2.2.1) (ad := ad) (t := t) (rs_ (vg_ vL h)).1
    have h1 := hl.2.2 n.val _ h (fun q => by simp at q)
    rw [e] at h1
    rw [List.map_cons, e] at kk
    exact lv_aload_n E.1 E.2.1 hd rfl h1 kk)
theorem so_aload4 {n : Nat} {z : Int} (E : EN_ X G own cc nL rty) (hd : decode cc pc = .ok (.aload n, 2)) (h : L[n]? = some (4, z)) (k : WP_ X G Q cl sl ad shs σ (pc + 2) L ((4, z) :: S)) : WP_ X G Q cl sl ad shs σ pc L S :=
  wpp_ k (fun vL vS => vc_ (vg_ vL h) vS) (fun _ _ _ hl _ _ kk => lv_aload E.1 E.2.1 hd (hl.2.2 n _ h (fun q => by cases q)) kk)
theorem so_aload4_n {n : Fin 4} {z : Int} (E : EN_ X G own cc nL rty) (hd : decode cc pc = .ok (.aload_n n, 1)) (h : L[n.val]? = some (4, z)) (k : WP_ X G Q cl sl ad shs σ (pc + 1) L ((4, z) :: S)) : WP_ X G Q cl sl ad shs σ pc L S :=
  wpp_ k (fun vL vS => vc_ (vg_ vL h) vS) (fun _ _ _ hl _ _ kk => lv_aload_n E.1 E.2.1 hd rfl (hl.2.2 n.val _ h (fun q => by cases q)) kk)
/-- a store into a local -/
theorem so_st1 {n : Nat} {v : Sv_t} (hn : n < L.length)
    (h : ∀ (H : Heap) (locs : List Loc) (ls : Array Slot), tv_ shs v → lv_has ls L.length (lvp_ G.2.2.1 ad L) → (∀ ls' : Array Slot, lv_has ls' L.length ((n, val_ G.2.2.1 ad v) :: (lvp_ G.2.2.1 ad L).filter (fun q => !(q.1 == n) && !(q.1 + 1 == n && q.2.category == 2))) → Wx_ X Q cl sl H locs pc' ls' (S.map (val_ G.2.2.1 ad))) → Wx_ X Q cl sl H locs pc ls ((v :: S).map (val_ G.2.2.1 ad)))
    (k : WP_ X G Q cl sl ad shs σ pc' (ls1_ L n v) S) : WP_ X G Q cl sl ad shs σ pc L (v :: S) :=
  fun hM hA H locs ls hP hD hS hl vL vS => h H locs ls (vt_ vS).1 (lh_has hl) fun ls' h' => k hM hA H locs ls' hP hD hS (lh_st1 hn h') (ls1_tv vL (vt_ vS).1) (vt_ vS).2
theorem so_st2 {n : Nat} {v : Sv_t} (hn : n + 1 < L.length)
    (h : ∀ (H : Heap) (locs : List Loc) (ls : Array Slot), tv_ shs v → lv_has ls L.length (lvp_ G.2.2.1 ad L) → (∀ ls' : Array Slot, lv_has ls' L.length ((n, val_ G.2.2.1 ad v) :: (lvp_ G.2.2.1 ad L).filter (fun q => !(q.1 == n) && (!(q.1 == n + 1) && !(q.1 + 1 == n && q.2.category == 2)))) → Wx_ X Q cl sl H locs pc' ls' (S.map (val_ G.2.2.1 ad))) → Wx_ X Q cl sl H locs pc ls ((v :: S).map (val_ G.2.2.1 ad)))
    (k : WP_ X G Q cl sl ad shs σ pc' (ls2_ L n v) S) : WP_ X G Q cl sl ad shs σ pc L (v :: S) :=
  fun hM hA H locs ls hP hD hS hl vL vS => h H locs ls (vt_ vS).1 (lh_has hl) fun ls' h' => k hM hA H locs ls' hP hD hS (lh_st2 hn h') (ls2_tv vL (vt_ vS).1) (vt_ vS).2
theorem so_istore {n : Nat} {z : Int} (E : EN_ X G own cc nL rty) (hd : decode cc pc = .ok (.istore n, 2)) (hn : n < L.length) (k : WP_ X G Q cl sl ad shs σ (pc + 2) (ls1_ L n (0, z)) S) : WP_ X G Q cl sl ad shs σ pc L ((0, z) :: S) :=
  so_st1 hn (fun _ _ _ _ hl kk => lv_istore E.1 E.2.1 hd hl hn rfl kk) k
theorem so_istore_n {n : Fin 4} {z : Int} (E : EN_ X G own cc nL rty) (hd : decode cc pc = .ok (.istore_n n, 1)) (hn : n.val < L.length) (k : WP_ X G Q cl sl ad shs σ (pc + 1) (ls1_ L n.val (0, z)) S) : WP_ X G Q cl sl ad shs σ pc L ((0, z) :: S) :=
  so_st1 hn (fun _ _ _ _ hl kk => lv_istore_n E.1 E.2.1 hd rfl hl hn rfl kk) k
theorem so_lstore {n : Nat} {z : Int} (E : EN_ X G own cc nL rty) (hd : decode cc pc = .ok (.lstore n, 2)) (hn : n + 1 < L.length) (k : WP_ X G Q cl sl ad shs σ (pc + 2) (ls2_ L n (1, z)) S) : WP_ X G Q cl sl ad shs σ pc L ((1, z) :: S) :=
  so_st2 hn (fun _ _ _ _ hl kk => lv_lstore E.1 E.2.1 hd hl hn rfl kk) k
theorem so_lstore_n {n : Fin 4} {z : Int} (E : EN_ X G own cc nL rty) (hd : decode cc pc = .ok (.lstore_n n, 1)) (hn : n.val + 1 < L.length) (k : WP_ X G Q cl sl ad shs σ (pc + 1) (ls2_ L n.val (1, z)) S) : WP_ X G Q cl sl ad shs σ pc L ((1, z) :: S) :=
  so_st2 hn (fun _ _ _ _ hl kk => lv_lstore_n E.1 E.2.1 hd rfl hl hn rfl kk) k
theorem so_astore {n t : Nat} {z : Int} (E : EN_ X G own cc nL rty) (hd : decode cc pc = .ok (.astore n, 2)) (hn : n < L.length) (k : WP_ X G Q cl sl ad shs σ (pc + 2) (ls1_ L n (t + 10, z)) S) : WP_ X G Q cl sl ad shs σ pc L ((t + 10, z) :: S) :=
  so_st1 hn (fun _ _ _ hv hl kk => by
    have e := val_r (cs := G.2.2.1) (ad := ad) (t := t) (rs_ hv).1
    rw [e] at kk
    rw [List.map_cons, e]
    exact lv_astore E.1 E.2.1 hd hl hn rfl kk) k
theorem so_astore_n {n : Fin 4} {t : Nat} {z : Int} (E : EN_ X G own cc nL rty) (hd : decode cc pc = .ok (.astore_n n, 1)) (hn : n.val < L.length) (k : WP_ X G Q cl sl ad shs σ (pc + 1) (ls1_ L n.val (t + 10, z)) S) : WP_ X G Q cl sl ad shs σ pc L ((t + 10, z) :: S) :=
  so_st1 hn (fun _ _ _ hv hl kk => by
    have e := val_r (cs := G.2.2.1) (ad := ad) (t := t) (rs_ hv).1
    rw [e] at kk
    rw [List.map_cons, e]
    exact lv_astore_n E.1 E.2.1 hd rfl hl hn rfl kk) k
theorem so_iinc {n : Nat} {z c : Int} (E : EN_ X G own cc nL rty) (hd : decode cc pc = .ok (.iinc n c, 3)) (h : L[n]? = some (0, z)) (hr : -2147483648 ≤ z + c ∧ z + c ≤ 2147483647) (k : WP_ X G Q cl sl ad shs σ (pc + 3) (ls1_ L n (0, z + c)) S) : WP_ X G Q cl sl ad shs σ pc L S := by
  intro hM hA H locs ls hP hD hS hl vL vS
  have hm : (n, Value.int (Int32.ofInt z)) ∈ lvp_ G.2.2.1 ad L := lvp_mem.mpr ⟨_, h, (fun q => by cases q), rfl⟩
  obtain ⟨i, hi⟩ := List.getElem?_of_mem hm
  have hn : n < L.length := (List.getElem?_eq_some_iff.mp h).1
  refine lv_iinc (v := Int32.ofInt (z + c)) E.1 E.2.1 hd (lh_has hl) hi (by rw [Int32.ofInt_add]) hn rfl fun ls' h' => k hM hA H locs ls' hP hD hS (lh_st1 (v := (0, z + c)) hn h') (ls1_tv vL hr) vS
end SND
