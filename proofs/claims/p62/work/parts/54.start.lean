set_option maxRecDepth 100000 in
theorem wv_X1 : Cond.arrayOver (.object RX1) ∈ lw_tbl := List.mem_of_getElem? (i := 162) (by decide +kernel)
set_option maxRecDepth 100000 in
theorem wv_X4 : Cond.arrayOver (.object RX4) ∈ lw_tbl := List.mem_of_getElem? (i := 273) (by decide +kernel)
set_option maxRecDepth 100000 in
theorem wv_X9 : Cond.arrayOver (.object RX9) ∈ lw_tbl := List.mem_of_getElem? (i := 271) (by decide +kernel)
theorem sok_scr {X : Cx_t} {G : Gx_t} {Q : State → Prop} {cl sl : Nat} {ad shs : List Nat} {own : String} {cc : ByteArray} {nL : Nat} {rty : Option FieldType} (E : EN_ X G own cc nL rty) {b L : Nat} {xs : Nat → Int32} (hX : va_X b L xs X.2.2.2.2.1 X.2.2.2.2.1.heap) (hbl : b < X.2.2.2.2.1.heap.size) (hbA : ¬ G.2.2.2 b) (hcs : G.2.2.1 0 = b) (hL : L < 100000) : SOK_ X G Q cl sl ad shs cc (some (L, fun x => (xs x.toNat).toInt)) := by
  obtain ⟨p, l, e, R, s, m, args, below, meth, code⟩ := X
  obtain ⟨D, tc, cs, A⟩ := G
  simp only at hX hbl hbA hcs
  intro n ys h pc σ Lo S
  cases h
  refine ⟨fun x hd hx k => ?_, fun hd k => ?_⟩
  · intro hM hA H locs ls hP hD hS hlh vL vS
    rw [List.map_cons, List.map_cons, val_0, val_4, Int.toNat_zero]
    simp only at hS ⊢
    rw [hcs]
    refine va_sld E.1 E.2.1 hX hbl hbA hS (in_ hx hL) hd ?_
    rw [cl_ hx.1 (by omega)]
    have h0 : tv_ shs (0, (xs x.toNat).toInt) := ⟨Int32.le_toInt _, by have := Int32.toInt_lt (xs x.toNat); omega⟩
    have h1 := k hM hA H locs ls hP hD hS hlh vL (vc_ h0 (vt_ (vt_ vS).2).2)
    rw [List.map_cons, val_0, Int32.ofInt_toInt] at h1
    exact h1
  · intro hM hA H locs ls hP hD hS hlh vL vS
    rw [List.map_cons, val_4, Int.toNat_zero]
    simp only at hS ⊢
    rw [hcs]
    refine va_slen E.1 E.2.1 hX hbl hbA hS hd ?_
    have h1 := k hM hA H locs ls hP hD hS hlh vL (vc_ (show tv_ shs (0, (L : Int)) from ⟨by omega, by omega⟩) (vt_ vS).2)
    rw [List.map_cons, val_0] at h1
    have e1 : Int32.ofInt (L : Int) = Int32.ofNat L := rfl
    rw [e1] at h1
    exact h1
theorem start_ {p : Program} {l : Launch} {e : Env} {s : State} {m : MethodId} {below : List Frame} {meth : Method} {c : Code} {b L : Nat} {xs : Nat → Int32} {D : va_G} {tc : Nat → ClassId} {cs : Nat → Nat} (hcs : cs 0 = b) (hL : L ≤ 3072) (hX : va_X b L xs s s.heap) (hbl : b < s.heap.size) (E : EN_ (p, l, e, room_1, s, m, #[Value.ref b], below, meth, c) (D, tc, cs, fun q : Nat => s.heap.size ≤ q) RL cL_law 4 (some .boolean)) (hAO : AO_ s) (hx : p.tables.exec = Jvm.exec) (hb : c.code = code) (hr : meth.sig.returnType = ret) (hlocks : meth.locks = false) : W p l e room_1 s m #[Value.ref b] below meth c s.heap [] 0 0 (lw_Z below #[Value.ref b] s) (entryFrame m ([Value.ref b] : List Value).toArray 4) := by
  have hl := lv_entry ([.ref b]) (n := 4) (Nat.le_of_ble_eq_true rfl)
  rw [lg_entry_eq]
  generalize (lg_sl ([.ref b]) ++ List.replicate (4 - (lg_sl ([.ref b])).length) Slot.unset).toArray = ls at hl ⊢
  have hl : lv_has ls 4 [(0, .ref b)] := hl
  have hbA : ¬ (fun q : Nat => s.heap.size ≤ q) b := Nat.not_le.mpr hbl
  refine law_run (X := (p, l, e, room_1, s, m, #[Value.ref b], below, meth, c)) (G := (D, tc, cs, fun q : Nat => s.heap.size ≤ q)) (Q := lw_Z below #[Value.ref b] s) (n := L) (xs := fun x => (xs x.toNat).toInt) E rfl (fun _ h => h) hAO (fun _ _ _ => sok_scr E hX hbl hbA hcs (by omega)) hL ?_ (fun k sh h => ?_) rfl s.heap [] ls ?_ ?_ va_S.rf ?_ ?_ (fun v h => by simp at h)
  · intro ad τ Lo hM hA H locs ls hP hD hS hlh vL vS
    refine va_forget (fun q hq => hS.2.2 q hq) ?_
    refine W.widen (k := 600000) (n := 7302250) (by omega) (by omega) ?_
    exact lw_ret hx hb hr hlocks (eL_62 (2812, .ireturn, 1) (List.mem_of_getElem? (i := 3) rfl))
  · rw [List.take_zero] at h
    cases h
  · intro k q h
    rw [wl_none (by rw [List.take_zero]; rfl)] at h
    cases h
  · refine ⟨fun i j x y h => ?_, fun k q h => ?_⟩
    · rw [wl_none (by rw [List.take_zero]; rfl)] at h
      cases h
    · rw [wl_none (by rw [List.take_zero]; rfl)] at h
      cases h
  · refine lh_of hl rfl (fun j v hj h9 => ?_)
    match j, hj with
    | 0, hj => cases hj; rw [val_4, Int.toNat_zero]; show (0, Value.ref (cs 0)) ∈ _; rw [hcs]; exact List.mem_cons_self
    | 1, hj => cases hj; exact absurd rfl h9
    | 2, hj => cases hj; exact absurd rfl h9
    | 3, hj => cases hj; exact absurd rfl h9
    | j + 4, hj => simp at hj
  · intro v hv
    simp only [List.mem_cons, List.not_mem_nil, or_false] at hv
    rcases hv with rfl | rfl | rfl | rfl <;> trivial
/-- from the entry, for every script of at most 3072 ints, the law comes to its end with true -/
theorem whole_start {p : Program} {e : Env} {s : State} {m : MethodId} {below : List Frame} {meth : Method} {c : Code} (l : Launch) {b L : Nat} {xs : Nat → Int32} (hL : L ≤ 3072) (C0 : lw_At p s m meth c b L xs) : W p l e room_1 s m #[Value.ref b] below meth c s.heap [] 0 0 (lw_Z below #[Value.ref b] s) (entryFrame m ([Value.ref b] : List Value).toArray 4) := by
  obtain ⟨hx, hb, hr, hml, hown, hts, hX, hbl, hlocks, hgv⟩ := id C0
  have hgl : ∀ w ∈ gl_, w.before #[Value.ref b] s = true := fun w hw => hts w (List.mem_filter.mp hw).1
  obtain ⟨c0, i0, h0⟩ := u_known (C := RX0) (T := TX0) (N := 9) (n := 9) hgl uX0 (hgl _ wx_X0)
  obtain ⟨c1, i1, h1⟩ := u_known (C := RX1) (T := TX1) (N := 9) (n := 9) hgl uX1 (hgl _ wx_X1)
  obtain ⟨c2, i2, h2⟩ := u_known (C := RX2) (T := TX2) (N := 3) (n := 3) hgl uX2 (hgl _ wx_X2)
  obtain ⟨c3, i3, h3⟩ := u_known (C := RX3) (T := TX3) (N := 8) (n := 8) hgl uX3 (hgl _ wx_X3)
  obtain ⟨c4, i4, h4⟩ := u_known (C := RX4) (T := TX4) (N := 4) (n := 4) hgl uX4 (hgl _ wx_X4)
  obtain ⟨c5, i5, h5⟩ := u_known (C := RX5) (T := TX5) (N := 3) (n := 3) hgl uX5 (hgl _ wx_X5)
  obtain ⟨c6, i6, h6⟩ := u_known (C := RX6) (T := TX6) (N := 5) (n := 5) hgl uX6 (hgl _ wx_X6)
  obtain ⟨c7, i7, h7⟩ := u_known (C := RX7) (T := TX7) (N := 5) (n := 5) hgl uX7 (hgl _ wx_X7)
  obtain ⟨c8, i8, h8⟩ := u_known (C := RX8) (T := TX8) (N := 2) (n := 2) hgl uX8 (hgl _ wx_X8)
  obtain ⟨c9, i9, h9⟩ := u_known (C := RX9) (T := TX9) (N := 10) (n := 10) hgl uX9 (hgl _ wx_X9)
  obtain ⟨c10, i10, h10⟩ := u_known (C := RX10) (T := TX10) (N := 14) (n := 14) hgl uX10 (hgl _ wx_X10)
  obtain ⟨c11, i11, h11⟩ := u_known (C := RX11) (T := TX11) (N := 39) (n := 39) hgl uX11 (hgl _ wx_X11)
  obtain ⟨a1, k1, m1, f1, g1, e1⟩ := Cond.arrayClass_spec (hgl _ wy_int)
  obtain ⟨a2, k2, m2, f2, g2, e2⟩ := Cond.arrayClass_spec (hgl _ wy_byte)
  obtain ⟨a3, k3, m3, f3, g3, e3⟩ := Cond.arrayClass_spec (hgl _ wy_boolean)
  obtain ⟨a4, k4, m4, f4, g4, e4⟩ := Cond.arrayClass_spec (hgl _ wy_long)
  obtain ⟨n1, b1, q1, u1, -, v1, w1, z1⟩ := Cond.arrayOver_spec (hts _ wv_X1)
  obtain ⟨n4, b4, q4, u4, -, v4, w4, z4⟩ := Cond.arrayOver_spec (hts _ wv_X4)
  obtain ⟨n9, b9, q9, u9, -, v9, w9, z9⟩ := Cond.arrayOver_spec (hts _ wv_X9)
  have hK : va_K (fun k => match k with | 0 => c0 | 1 => c1 | 2 => c2 | 3 => c3 | 4 => c4 | 5 => c5 | 6 => c6 | 7 => c7 | 8 => c8 | 9 => c9 | 10 => c10 | _ => c11, fun k => match k with | 0 => i0 | 1 => i1 | 2 => i2 | 3 => i3 | 4 => i4 | 5 => i5 | 6 => i6 | 7 => i7 | 8 => i8 | 9 => i9 | 10 => i10 | _ => i11) cls_ (tys_ (fun k => match k with | 1 => a1 | 2 => a2 | 3 => a3 | 4 => a4 | 6 => b1 | 9 => b4 | _ => b9)) s := by
    refine ⟨fun k q hq => ?_, fun k q hq => ?_⟩
    · match k, hq with
      | 0, hq => cases hq; exact h0
      | 1, hq => cases hq; exact h1
      | 2, hq => cases hq; exact h2
      | 3, hq => cases hq; exact h3
      | 4, hq => cases hq; exact h4
      | 5, hq => cases hq; exact h5
      | 6, hq => cases hq; exact h6
      | 7, hq => cases hq; exact h7
      | 8, hq => cases hq; exact h8
      | 9, hq => cases hq; exact h9
      | 10, hq => cases hq; exact h10
      | 11, hq => cases hq; exact h11
      | k + 12, hq => simp at hq
    · match k, hq with
      | 0, hq => cases hq; exact ⟨fun _ _ => ⟨(fun _ h => by cases h), k1, g1, m1, e1⟩, f1⟩
      | 1, hq => cases hq; exact ⟨fun _ _ => ⟨(fun _ h => by cases h), k2, g2, m2, e2⟩, f2⟩
      | 2, hq => cases hq; exact ⟨fun _ _ => ⟨(fun _ h => by cases h), k3, g3, m3, e3⟩, f3⟩
      | 3, hq => cases hq; exact ⟨fun _ _ => ⟨(fun _ h => by cases h), k4, g4, m4, e4⟩, f4⟩
      | 4, hq => cases hq; exact ⟨fun _ _ => ⟨(fun _ h => by cases h), q1, v1, n1, w1⟩, q1, n1, v1, w1, u1, z1⟩
      | 5, hq => cases hq; exact ⟨fun _ _ => ⟨(fun _ h => by cases h), q4, v4, n4, w4⟩, q4, n4, v4, w4, u4, z4⟩
      | 6, hq => cases hq; exact ⟨fun _ _ => ⟨(fun _ h => by cases h), q9, v9, n9, w9⟩, q9, n9, v9, w9, u9, z9⟩
      | k + 7, hq => simp [tys_] at hq
  have hXW : XW_ s := by
    intro w hw hn
    have h1 := hts w hw
    cases w <;> first | (simp [isNest_] at hn; done) | exact va_Nw.of rfl h1
  have hAO : AO_ s := ⟨va_AO.of (hts _ wv_X1), va_AO.of (hts _ wv_X4), va_AO.of (hts _ wv_X9)⟩
  have hbA : ¬ (fun q : Nat => s.heap.size ≤ q) b := Nat.not_le.mpr hbl
  obtain ⟨cs, hcs, hXS⟩ := sx_XS hgv hts (A := fun q : Nat => s.heap.size ≤ q) (fun a ha q => absurd q (Nat.not_le.mpr ha)) b
  have E : EN_ (p, l, e, room_1, s, m, #[Value.ref b], below, meth, c) ((fun k => match k with | 0 => c0 | 1 => c1 | 2 => c2 | 3 => c3 | 4 => c4 | 5 => c5 | 6 => c6 | 7 => c7 | 8 => c8 | 9 => c9 | 10 => c10 | _ => c11, fun k => match k with | 0 => i0 | 1 => i1 | 2 => i2 | 3 => i3 | 4 => i4 | 5 => i5 | 6 => i6 | 7 => i7 | 8 => i8 | 9 => i9 | 10 => i10 | _ => i11), (fun k => match k with | 1 => a1 | 2 => a2 | 3 => a3 | 4 => a4 | 6 => b1 | 9 => b4 | _ => b9), cs, fun q : Nat => s.heap.size ≤ q) RL cL_law 4 (some .boolean) := ⟨hx, hb, hml, hown, hgl, hK, hr, hlocks, hXW, hXS⟩
  exact start_ hcs hL hX hbl E hAO hx hb hr hlocks
