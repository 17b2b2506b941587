theorem i2b_r (a : Int) : -128 ≤ i2b_ a ∧ i2b_ a ≤ 127 := by
  unfold i2b_
  rw [Int8.toInt_toInt32]
  have h1 := Int8.le_toInt (Int32.ofInt a).toInt8
  have h2 := Int8.toInt_lt (Int32.ofInt a).toInt8
  omega
/-- System.arraycopy of int and of long arrays -/
def TAC_ : Tr_t := fun args σ k => ∃ (t u a c c' N N' : Nat) (o q sp dp n : Int), args = [(t + 10, o), (0, sp), (u + 10, q), (0, dp), (0, n)] ∧ KT_ t = (a, c, N) ∧ KT_ u = (a, c', N') ∧ ty_ t 0 = ty_ u 0 ∧ (a = 1 ∨ a = 4) ∧ (0 ≤ sp ∧ 0 ≤ dp ∧ 0 ≤ n ∧ sp + n ≤ (N : Int) ∧ dp + n ≤ (N' : Int)) ∧ ∀ σ' : Me_t, σ' = (fun a b => if a = q ∧ dp ≤ b ∧ b < dp + n then σ o (b - dp + sp) else σ a b) → k [] σ'
theorem tac_i {args : List Sv_t} {σ : Me_t} {k : List Sv_t → Me_t → Prop} (t u a c c' N N' : Nat) (o q sp dp n : Int) (h1 : args = [(t + 10, o), (0, sp), (u + 10, q), (0, dp), (0, n)]) (h2 : KT_ t = (a, c, N)) (h3 : KT_ u = (a, c', N')) (h4 : ty_ t 0 = ty_ u 0) (h5 : a = 1 ∨ a = 4) (h6 : 0 ≤ sp ∧ 0 ≤ dp ∧ 0 ≤ n ∧ sp + n ≤ (N : Int) ∧ dp + n ≤ (N' : Int)) (h7 : ∀ σ' : Me_t, σ' = (fun a b => if a = q ∧ dp ≤ b ∧ b < dp + n then σ o (b - dp + sp) else σ a b) → k [] σ') : TAC_ args σ k := ⟨t, u, a, c, c', N, N', o, q, sp, dp, n, h1, h2, h3, h4, h5, h6, h7⟩
theorem cpy_fn {σ : Me_t} {o q sp dp n : Int} (h1 : 0 ≤ sp) (h2 : 0 ≤ dp) (h3 : 0 ≤ n) {α : Type} (F : Int → α) : (fun j : Nat => F ((fun a b => if a = q ∧ dp ≤ b ∧ b < dp + n then σ o (b - dp + sp) else σ a b : Me_t) q (j : Int))) = va_cpy (fun j : Nat => F (σ o (j : Int))) (fun j : Nat => F (σ q (j : Int))) sp.toNat dp.toNat n.toNat := by
  funext j
  by_cases h : dp ≤ (j : Int) ∧ (j : Int) < dp + n
  · rw [pk_cpy_in (by omega) (by omega)]
    simp only [true_and, h, and_self, if_true]
    congr 2
    omega
  · rw [pk_cpy_out (by omega)]
    simp only [true_and, h, if_false]
theorem ac_mt {shs : List Nat} {σ : Me_t} {t u a c c' N N' : Nat} {o q sp dp n : Int} (hM : MT_ shs σ) (ho : tv_ shs (t + 10, o)) (hq : tv_ shs (u + 10, q)) (kt : KT_ t = (a, c, N)) (ku : KT_ u = (a, c', N')) (he : ty_ t 0 = ty_ u 0) (hk : a = 1 ∨ a = 4) (hb : 0 ≤ sp ∧ 0 ≤ dp ∧ 0 ≤ n ∧ sp + n ≤ (N : Int) ∧ dp + n ≤ (N' : Int)) : MT_ shs (fun a b => if a = q ∧ dp ≤ b ∧ b < dp + n then σ o (b - dp + sp) else σ a b) := by
  have ha1 : 1 ≤ a := by rcases hk with rfl | rfl <;> decide
  have ha4 : a ≤ 4 := by rcases hk with rfl | rfl <;> decide
  intro k sh hsh j hj
  by_cases e : (k : Int) = q ∧ dp ≤ (j : Int) ∧ (j : Int) < dp + n
  · obtain ⟨e1, e2, e3⟩ := e
    have e4 : q.toNat = k := by omega
    have hq2 := rs_ hq
    rw [e4] at hq2
    have e5 : sh = u := Option.some.inj (hsh.symm.trans hq2.2)
    subst e5
    show ok_ shs sh (k : Int) j (if (k : Int) = q ∧ dp ≤ (j : Int) ∧ (j : Int) < dp + n then _ else _)
    rw [if_pos ⟨e1, e2, e3⟩]
    have h1 := mt_at hM ho (j := ((j : Int) - dp + sp).toNat) (by unfold sz_; rw [kt]; simp only; omega)
    rw [tn_ (by omega)] at h1
    have st := SA_ok t a c N kt
    have su := SA_ok sh a c' N' ku
    have tt : ∀ i, ty_ t i = ty_ t 0 := fun i => by
      rcases hk with h | h
      · exact (st.1 h i).1
      · exact (st.2.2.2.1 h i).1
    have tu : ∀ i, ty_ sh i = ty_ sh 0 := fun i => by
      rcases hk with h | h
      · exact (su.1 h i).1
      · exact (su.2.2.2.1 h i).1
    refine ⟨?_, ?_, fun r hr => ?_⟩
    · rw [tu, ← he, ← tt (((j : Int) - dp + sp).toNat)]; exact h1.1
    · rw [tu, ← he, ← tt (((j : Int) - dp + sp).toNat)]; exact h1.2.1
    · have := su.2.2.2.2.2.2.1 ha1 ha4 (k : Int) (j : Int) j
      rw [this] at hr
      cases hr
  · show ok_ shs sh (k : Int) j (if (k : Int) = q ∧ dp ≤ (j : Int) ∧ (j : Int) < dp + n then _ else _)
    rw [if_neg e]
    exact hM k sh hsh j hj
theorem ac_row {σ : Me_t} {o q sp dp n : Int} {a : Nat} (h : (a : Int) ≠ q) : (fun a b => if a = q ∧ dp ≤ b ∧ b < dp + n then σ o (b - dp + sp) else σ a b : Me_t) (a : Int) = σ (a : Int) := by
  funext b
  show (if (a : Int) = q ∧ dp ≤ b ∧ b < dp + n then _ else _) = _
  rw [if_neg (fun e => h e.1)]
theorem cok_ac {X : Cx_t} {G : Gx_t} {Q : State → Prop} {cl sl idx : Nat} {ad shs : List Nat} {own : String} {cc : ByteArray} {nL : Nat} {rty : Option FieldType} (E : EN_ X G own cc nL rty) (hRm : 1 ≤ X.2.2.2.1.frames ∧ 8 + (nativeFrameWords "java/lang/System" "arraycopy" 5 + 11) ≤ X.2.2.2.1.locals)
    (w1 : Cond.methodLink own idx arraycopyName ∈ gl_ ∧ Cond.native arraycopyName ∈ gl_ ∧ Cond.static arraycopyName ∈ gl_ ∧ Cond.initialized "java/lang/System" ∈ gl_) : COK_ X G Q cl sl ad shs cc nL (2 * idx + 1) 5 TAC_ := by
  obtain ⟨p, l, e, R, s, m, args, below, meth, code⟩ := X
  obtain ⟨D, tc, cs, A⟩ := G
  intro pc i σ L as0 S k hi hd hlen hcs hL hT hk
  have hi : i = .invokestatic idx := by
    rcases hi with ⟨-, h⟩ | ⟨h, -⟩
    · omega
    · rw [show (2 * idx + 1) / 2 = idx by omega] at h; exact h
  subst hi
  obtain ⟨t, u, a, c, c', N, N', o, q, sp, dp, n, rfl, kt, ku, he, hkk, hb, hpost⟩ := hT
  intro hM hA H locs ls hP hD hS hlh vL vS
  have vq : tv_ shs (u + 10, q) := vS (u + 10, q) (by simp)
  have vo : tv_ shs (t + 10, o) := vS (t + 10, o) (by simp)
  have hvq := rs_ vq
  have hvo := rs_ vo
  have hn1 := (SA_ok t a c N kt).2.2.2.2.2.2.2
  have hn2 := (SA_ok u a c' N' ku).2.2.2.2.2.2.2
  have c1 : (Int32.ofInt sp).toNatClampNeg = sp.toNat := cl_ (by omega) (by omega)
  have c2 : (Int32.ofInt dp).toNatClampNeg = dp.toNat := cl_ (by omega) (by omega)
  have c3 : (Int32.ofInt n).toNatClampNeg = n.toNat := cl_ (by omega) (by omega)
  have ng : ∀ z : Int, 0 ≤ z → z ≤ 2147483647 → ¬ Int32.ofInt z < 0 := fun z h1 h2 q => by
    rw [i3_z, i3_lt (by omega) (by omega)] at q; omega
  have heo := wl_get (cs := cs) (tc := tc) (ad := ad) (σ := σ) hvo.2
  have heq := wl_get (cs := cs) (tc := tc) (ad := ad) (σ := σ) hvq.2
  have key := hk [] _ (hpost _ rfl) (ac_mt hM vo vq kt ku he hkk hb) hA
  have hst : List.map (val_ cs ad) ([(t + 10, o), (0, sp), (u + 10, q), (0, dp), (0, n)].reverse ++ S) = .int (Int32.ofInt n) :: .int (Int32.ofInt dp) :: .ref (ad.getD q.toNat 0) :: .int (Int32.ofInt sp) :: .ref (ad.getD o.toNat 0) :: S.map (val_ cs ad) := by
    simp only [List.reverse_cons, List.reverse_nil, List.nil_append, List.cons_append, List.map_cons, val_r hvq.1, val_r hvo.1, val_0]
  show W _ _ _ _ _ _ _ _ _ _ _ _ _ _ _ (F0 m pc ls (List.map (val_ cs ad) ([(t + 10, o), (0, sp), (u + 10, q), (0, dp), (0, n)].reverse ++ S)))
  rw [hst]
  have hml : code.maxLocals = ls.size := by rw [hlh.1, hL]; exact E.2.2.1
  have hlo : (List.map (fun v => v.category) (List.map (val_ cs ad) S)).sum + (nativeFrameWords "java/lang/System" "arraycopy" 5 + 11) ≤ R.locals := by
    rw [map_cat]
    have := hRm.2
    simp only at this
    omega
  rcases hkk with rfl | rfl
  · rw [ent_1 kt] at heo
    rw [ent_1 ku] at heq
    refine va_copyi (cc := cc) (rest := S.map (val_ cs ad)) E.1 E.2.1 hml E.2.2.2.1 (E.2.2.2.2.1 _ w1.1) (E.2.2.2.2.1 _ w1.2.1) (E.2.2.2.2.1 _ w1.2.2.1) (E.2.2.2.2.1 _ w1.2.2.2) E.2.2.2.2.2.1 hP hD hS o.toNat q.toNat 0 0 heo heq rfl rfl rfl (ng _ (by omega) (by omega)) (ng _ (by omega) (by omega)) (ng _ (by omega) (by omega)) (by rw [c1, c3]; omega) (by rw [c2, c3]; omega) (fun _ _ => rfl) hRm.1 hlo hd ?_
    intro H1 locs1 hP1 hD1 hS1
    have eq : (wl_ cs tc ad shs σ).set q.toNat (ad.getD q.toNat 0, .inl (tc 1, N', .inl (va_cpy (fun j : Nat => Int32.ofInt (σ (o.toNat : Int) (j : Int))) (fun j : Nat => Int32.ofInt (σ (q.toNat : Int) (j : Int))) (Int32.ofInt sp).toNatClampNeg (Int32.ofInt dp).toNatClampNeg (Int32.ofInt n).toNatClampNeg))) = wl_ cs tc ad shs (fun a b => if a = q ∧ dp ≤ b ∧ b < dp + n then σ o (b - dp + sp) else σ a b) := by
      refine wl_set hvq.2 ?_ (fun a ha => ac_row (by omega))
      rw [ent_1 ku, tn_ hvq.1, tn_ hvo.1, c1, c2, c3, ← cpy_fn (by omega) (by omega) (by omega) Int32.ofInt]
    rw [eq] at hP1 hD1
    exact key H1 locs1 ls hP1 hD1 hS1 hlh vL (fun v hv => vS v (List.mem_append_right _ hv))
  · rw [ent_4 kt] at heo
    rw [ent_4 ku] at heq
    refine va_copyl (cc := cc) (rest := S.map (val_ cs ad)) E.1 E.2.1 hml E.2.2.2.1 (E.2.2.2.2.1 _ w1.1) (E.2.2.2.2.1 _ w1.2.1) (E.2.2.2.2.1 _ w1.2.2.1) (E.2.2.2.2.1 _ w1.2.2.2) E.2.2.2.2.2.1 hP hD hS o.toNat q.toNat 3 3 heo heq rfl rfl rfl (ng _ (by omega) (by omega)) (ng _ (by omega) (by omega)) (ng _ (by omega) (by omega)) (by rw [c1, c3]; omega) (by rw [c2, c3]; omega) (fun _ _ => rfl) hRm.1 hlo hd ?_
    intro H1 locs1 hP1 hD1 hS1
    have eq : (wl_ cs tc ad shs σ).set q.toNat (ad.getD q.toNat 0, .inl (tc 4, N', .inr (.inl (va_cpy (fun j : Nat => Int64.ofInt (σ (o.toNat : Int) (j : Int))) (fun j : Nat => Int64.ofInt (σ (q.toNat : Int) (j : Int))) (Int32.ofInt sp).toNatClampNeg (Int32.ofInt dp).toNatClampNeg (Int32.ofInt n).toNatClampNeg)))) = wl_ cs tc ad shs (fun a b => if a = q ∧ dp ≤ b ∧ b < dp + n then σ o (b - dp + sp) else σ a b) := by
      refine wl_set hvq.2 ?_ (fun a ha => ac_row (by omega))
      rw [ent_4 ku, tn_ hvq.1, tn_ hvo.1, c1, c2, c3, ← cpy_fn (by omega) (by omega) (by omega) Int64.ofInt]
    rw [eq] at hP1 hD1
    exact key H1 locs1 ls hP1 hD1 hS1 hlh vL (fun v hv => vS v (List.mem_append_right _ hv))
