section SN2
variable {X : Cx_t} {G : Gx_t} {Q : State → Prop} {cl sl : Nat} {ad shs : List Nat} {σ : Me_t} {pc pc' : Nat} {L S : List Sv_t} {own : String} {cc : ByteArray} {nL : Nat} {rty : Option FieldType}
theorem i8_c {c : Int} (h1 : -128 ≤ c) (h2 : c ≤ 127) : (Int8.ofInt c).toInt32 = Int32.ofInt c := by
  rw [← Int32.toInt_inj, Int8.toInt_toInt32, Int8.toInt_ofInt_of_le (by omega) (by omega), i3_t (by omega)]
theorem i16_c {c : Int} (h1 : -32768 ≤ c) (h2 : c ≤ 32767) : (Int16.ofInt c).toInt32 = Int32.ofInt c := by
  rw [← Int32.toInt_inj, Int16.toInt_toInt32, Int16.toInt_ofInt_of_le (by omega) (by omega), i3_t (by omega)]
theorem so_iconst {c : Int} (E : EN_ X G own cc nL rty) (hd : decode cc pc = .ok (.iconst c, 1)) (h1 : -128 ≤ c) (h2 : c ≤ 127) (k : WP_ X G Q cl sl ad shs σ (pc + 1) L ((0, c) :: S)) : WP_ X G Q cl sl ad shs σ pc L S :=
  wpp_ k (fun _ vS => vc_ (show -2147483648 ≤ c ∧ c ≤ 2147483647 by omega) vS) (fun _ _ _ _ _ _ kk => lv_iconst E.1 E.2.1 hd rfl kk)
theorem so_bipush {c : Int} (E : EN_ X G own cc nL rty) (hd : decode cc pc = .ok (.bipush c, 2)) (h1 : -128 ≤ c) (h2 : c ≤ 127) (k : WP_ X G Q cl sl ad shs σ (pc + 2) L ((0, c) :: S)) : WP_ X G Q cl sl ad shs σ pc L S :=
  wpp_ k (fun _ vS => vc_ (show -2147483648 ≤ c ∧ c ≤ 2147483647 by omega) vS) (fun _ _ _ _ _ _ kk => lv_bipush E.1 E.2.1 hd (i8_c h1 h2) kk)
theorem so_sipush {c : Int} (E : EN_ X G own cc nL rty) (hd : decode cc pc = .ok (.sipush c, 3)) (h1 : -32768 ≤ c) (h2 : c ≤ 32767) (k : WP_ X G Q cl sl ad shs σ (pc + 3) L ((0, c) :: S)) : WP_ X G Q cl sl ad shs σ pc L S :=
  wpp_ k (fun _ vS => vc_ (show -2147483648 ≤ c ∧ c ≤ 2147483647 by omega) vS) (fun _ _ _ _ _ _ kk => lv_sipush E.1 E.2.1 hd (i16_c h1 h2) kk)
theorem so_lconst0 {c : Fin 2} (E : EN_ X G own cc nL rty) (hd : decode cc pc = .ok (.lconst c, 1)) (h : c.val = 0) (k : WP_ X G Q cl sl ad shs σ (pc + 1) L ((1, 0) :: S)) : WP_ X G Q cl sl ad shs σ pc L S :=
  wpp_ k (fun _ vS => vc_ (show (-9223372036854775808 : Int) ≤ 0 ∧ (0 : Int) ≤ 9223372036854775807 by omega) vS) (fun _ _ _ _ _ _ kk => lv_lconst E.1 E.2.1 hd (by rw [h]; decide) kk)
theorem so_lconst1 {c : Fin 2} (E : EN_ X G own cc nL rty) (hd : decode cc pc = .ok (.lconst c, 1)) (h : ¬ c.val = 0) (k : WP_ X G Q cl sl ad shs σ (pc + 1) L ((1, 1) :: S)) : WP_ X G Q cl sl ad shs σ pc L S :=
  wpp_ k (fun _ vS => vc_ (show (-9223372036854775808 : Int) ≤ 1 ∧ (1 : Int) ≤ 9223372036854775807 by omega) vS) (fun _ _ _ _ _ _ kk => lv_lconst E.1 E.2.1 hd (by rw [show c.val = 1 by omega]; decide) kk)
theorem so_ldc {n : Nat} {kn : List (Nat × Sv_t)} {v : Sv_t} (E : EN_ X G own cc nL rty) (hK : KN_ own kn) (hv : lk_ kn n = some v) (hd : decode cc pc = .ok (.ldc n, 2)) (k : WP_ X G Q cl sl ad shs σ (pc + 2) L (v :: S)) (h0 : v.1 = 0) : WP_ X G Q cl sl ad shs σ pc L S := by
  obtain ⟨t, z⟩ := v
  cases h0
  rcases hK _ (lk_mem hv) with ⟨-, hr, hw⟩ | ⟨h1, -⟩
  · exact wpp_ k (fun _ vS => vc_ hr vS) (fun _ _ _ _ _ _ kk => lv_ldc E.1 E.2.1 E.2.2.2.1 (E.2.2.2.2.1 _ hw) hd kk)
  · cases h1
theorem so_ldcw {n : Nat} {kn : List (Nat × Sv_t)} {v : Sv_t} (E : EN_ X G own cc nL rty) (hK : KN_ own kn) (hv : lk_ kn n = some v) (hd : decode cc pc = .ok (.ldc_w n, 3)) (k : WP_ X G Q cl sl ad shs σ (pc + 3) L (v :: S)) (h0 : v.1 = 0) : WP_ X G Q cl sl ad shs σ pc L S := by
  obtain ⟨t, z⟩ := v
  cases h0
  rcases hK _ (lk_mem hv) with ⟨-, hr, hw⟩ | ⟨h1, -⟩
  · exact wpp_ k (fun _ vS => vc_ hr vS) (fun _ _ _ _ _ _ kk => lv_ldcw E.1 E.2.1 E.2.2.2.1 (E.2.2.2.2.1 _ hw) hd kk)
  · cases h1
theorem so_ldc2 {n : Nat} {kn : List (Nat × Sv_t)} {v : Sv_t} (E : EN_ X G own cc nL rty) (hK : KN_ own kn) (hv : lk_ kn n = some v) (hd : decode cc pc = .ok (.ldc2_w n, 3)) (k : WP_ X G Q cl sl ad shs σ (pc + 3) L (v :: S)) (h0 : v.1 = 1) : WP_ X G Q cl sl ad shs σ pc L S := by
  obtain ⟨t, z⟩ := v
  cases h0
  rcases hK _ (lk_mem hv) with ⟨h1, -⟩ | ⟨-, hr, hw⟩
  · cases h1
  · exact wpp_ k (fun _ vS => vc_ hr vS) (fun _ _ _ _ _ _ kk => lv_ldc2 E.1 E.2.1 E.2.2.2.1 (E.2.2.2.2.1 _ hw) hd kk)
/-- the two ints, the two longs on top -/
theorem so_iadd {a b : Int} (E : EN_ X G own cc nL rty) (hd : decode cc pc = .ok (.iadd, 1)) (hr : -2147483648 ≤ a + b ∧ a + b ≤ 2147483647) (k : WP_ X G Q cl sl ad shs σ (pc + 1) L ((0, a + b) :: S)) : WP_ X G Q cl sl ad shs σ pc L ((0, b) :: (0, a) :: S) :=
  wpp_ k (fun _ vS => vc_ hr (vt_ (vt_ vS).2).2) (fun _ _ _ _ _ _ kk => lv_iadd E.1 E.2.1 hd (by rw [← Int32.ofInt_add]; exact kk))
theorem so_isub {a b : Int} (E : EN_ X G own cc nL rty) (hd : decode cc pc = .ok (.isub, 1)) (hr : -2147483648 ≤ a - b ∧ a - b ≤ 2147483647) (k : WP_ X G Q cl sl ad shs σ (pc + 1) L ((0, a - b) :: S)) : WP_ X G Q cl sl ad shs σ pc L ((0, b) :: (0, a) :: S) :=
  wpp_ k (fun _ vS => vc_ hr (vt_ (vt_ vS).2).2) (fun _ _ _ _ _ _ kk => lv_isub E.1 E.2.1 hd (by rw [← Int32.ofInt_sub]; exact kk))
theorem so_imul {a b : Int} (E : EN_ X G own cc nL rty) (hd : decode cc pc = .ok (.imul, 1)) (hr : -2147483648 ≤ a * b ∧ a * b ≤ 2147483647) (k : WP_ X G Q cl sl ad shs σ (pc + 1) L ((0, a * b) :: S)) : WP_ X G Q cl sl ad shs σ pc L ((0, b) :: (0, a) :: S) :=
  wpp_ k (fun _ vS => vc_ hr (vt_ (vt_ vS).2).2) (fun _ _ _ _ _ _ kk => lv_imul E.1 E.2.1 hd (by rw [← Int32.ofInt_mul]; exact kk))
theorem i3_n0 {b : Int} (hb : -2147483648 ≤ b ∧ b ≤ 2147483647) (h : ¬ b = 0) : ¬ Int32.ofInt b = 0 := fun q => h ((i3_eq hb (by omega)).mp (q.trans i3_z))
theorem i6_n0 {b : Int} (hb : -9223372036854775808 ≤ b ∧ b ≤ 9223372036854775807) (h : ¬ b = 0) : ¬ Int64.ofInt b = 0 := fun q => h ((i6_eq hb (by omega)).mp (q.trans i6_z))
theorem so_idiv {a b : Int} (E : EN_ X G own cc nL rty) (hd : decode cc pc = .ok (.idiv, 1)) (h0 : ¬ b = 0) (hr : -2147483648 ≤ a.tdiv b ∧ a.tdiv b ≤ 2147483647) (k : WP_ X G Q cl sl ad shs σ (pc + 1) L ((0, a.tdiv b) :: S)) : WP_ X G Q cl sl ad shs σ pc L ((0, b) :: (0, a) :: S) :=
  wpp_ k (fun _ vS => vc_ hr (vt_ (vt_ vS).2).2) (fun _ _ _ _ _ vS kk => lv_idiv E.1 E.2.1 hd (i3_n0 (vt_ vS).1 h0) (by rw [i3_div (vt_ (vt_ vS).2).1 (vt_ vS).1 hr]; exact kk))
theorem tm_r {a b : Int} (ha : -2147483648 ≤ a ∧ a ≤ 2147483647) : -2147483648 ≤ a.tmod b ∧ a.tmod b ≤ 2147483647 := by
  have h1 : (a.tmod b).natAbs ≤ a.natAbs := by rw [Int.natAbs_tmod]; exact Nat.mod_le _ _
  rcases Int.le_total 0 a with h0 | h0
  · have := Int.tmod_nonneg b h0
    omega
  · have := Int.tmod_nonneg b (Int.neg_nonneg_of_nonpos h0)
    rw [Int.neg_tmod] at this
    omega
theorem tm_r6 {a b : Int} (ha : -9223372036854775808 ≤ a ∧ a ≤ 9223372036854775807) : -9223372036854775808 ≤ a.tmod b ∧ a.tmod b ≤ 9223372036854775807 := by
  have h1 : (a.tmod b).natAbs ≤ a.natAbs := by rw [Int.natAbs_tmod]; exact Nat.mod_le _ _
  rcases Int.le_total 0 a with h0 | h0
  · have := Int.tmod_nonneg b h0
    omega
  · have := Int.tmod_nonneg b (Int.neg_nonneg_of_nonpos h0)
    rw [Int.neg_tmod] at this
    omega
theorem so_irem {a b : Int} (E : EN_ X G own cc nL rty) (hd : decode cc pc = .ok (.irem, 1)) (h0 : ¬ b = 0) (k : WP_ X G Q cl sl ad shs σ (pc + 1) L ((0, a.tmod b) :: S)) : WP_ X G Q cl sl ad shs σ pc L ((0, b) :: (0, a) :: S) :=
  wpp_ k (fun _ vS => vc_ (tm_r (vt_ (vt_ vS).2).1) (vt_ (vt_ vS).2).2) (fun _ _ _ _ _ vS kk => lv_irem E.1 E.2.1 hd (i3_n0 (vt_ vS).1 h0) (by rw [i3_rem (vt_ (vt_ vS).2).1 (vt_ vS).1]; exact kk))
theorem so_iand {a b : Int} (E : EN_ X G own cc nL rty) (hd : decode cc pc = .ok (.iand, 1)) (k : WP_ X G Q cl sl ad shs σ (pc + 1) L ((0, and3_ a b) :: S)) : WP_ X G Q cl sl ad shs σ pc L ((0, b) :: (0, a) :: S) :=
  wpp_ k (fun _ vS => vc_ (by rw [and3_e]; exact i3_r _) (vt_ (vt_ vS).2).2) (fun _ _ _ _ _ _ kk => lv_iand E.1 E.2.1 hd (by rw [← i3_o (_ &&& _)]; rw [and3_e] at kk; exact kk))
theorem so_ior {a b : Int} (E : EN_ X G own cc nL rty) (hd : decode cc pc = .ok (.ior, 1)) (k : WP_ X G Q cl sl ad shs σ (pc + 1) L ((0, or3_ a b) :: S)) : WP_ X G Q cl sl ad shs σ pc L ((0, b) :: (0, a) :: S) :=
  wpp_ k (fun _ vS => vc_ (by rw [or3_e]; exact i3_r _) (vt_ (vt_ vS).2).2) (fun _ _ _ _ _ _ kk => lv_ior E.1 E.2.1 hd (by rw [← i3_o (_ ||| _)]; rw [or3_e] at kk; exact kk))
theorem so_ixor {a b : Int} (E : EN_ X G own cc nL rty) (hd : decode cc pc = .ok (.ixor, 1)) (k : WP_ X G Q cl sl ad shs σ (pc + 1) L ((0, xor3_ a b) :: S)) : WP_ X G Q cl sl ad shs σ pc L ((0, b) :: (0, a) :: S) :=
  wpp_ k (fun _ vS => vc_ (by rw [xor3_e]; exact i3_r _) (vt_ (vt_ vS).2).2) (fun _ _ _ _ _ _ kk => lv_ixor E.1 E.2.1 hd (by rw [← i3_o (_ ^^^ _)]; rw [xor3_e] at kk; exact kk))
theorem so_ishl {a b : Int} (E : EN_ X G own cc nL rty) (hd : decode cc pc = .ok (.ishl, 1)) (k : WP_ X G Q cl sl ad shs σ (pc + 1) L ((0, shl3_ a b) :: S)) : WP_ X G Q cl sl ad shs σ pc L ((0, b) :: (0, a) :: S) :=
  wpp_ k (fun _ vS => vc_ (by rw [shl3_e]; exact i3_r _) (vt_ (vt_ vS).2).2) (fun _ _ _ _ _ _ kk => lv_ishl E.1 E.2.1 hd (by rw [← i3_o (_ <<< _)]; rw [shl3_e] at kk; exact kk))
theorem so_ishr {a b : Int} (E : EN_ X G own cc nL rty) (hd : decode cc pc = .ok (.ishr, 1)) (k : WP_ X G Q cl sl ad shs σ (pc + 1) L ((0, shr3_ a b) :: S)) : WP_ X G Q cl sl ad shs σ pc L ((0, b) :: (0, a) :: S) :=
  wpp_ k (fun _ vS => vc_ (by rw [shr3_e]; exact i3_r _) (vt_ (vt_ vS).2).2) (fun _ _ _ _ _ _ kk => lv_ishr E.1 E.2.1 hd (by rw [← i3_o (_ >>> _)]; rw [shr3_e] at kk; exact kk))
theorem so_i2b {a : Int} (E : EN_ X G own cc nL rty) (hd : decode cc pc = .ok (.i2b, 1)) (k : WP_ X G Q cl sl ad shs σ (pc + 1) L ((0, i2b_ a) :: S)) : WP_ X G Q cl sl ad shs σ pc L ((0, a) :: S) :=
  wpp_ k (fun _ vS => vc_ (i3_r _) (vt_ vS).2) (fun _ _ _ _ _ _ kk => lv_i2b E.1 E.2.1 hd (i3_o _).symm kk)
theorem so_i2s {a : Int} (E : EN_ X G own cc nL rty) (hd : decode cc pc = .ok (.i2s, 1)) (k : WP_ X G Q cl sl ad shs σ (pc + 1) L ((0, i2s_ a) :: S)) : WP_ X G Q cl sl ad shs σ pc L ((0, a) :: S) :=
  wpp_ k (fun _ vS => vc_ (i3_r _) (vt_ vS).2) (fun _ _ _ _ _ _ kk => lv_i2s E.1 E.2.1 hd (i3_o _).symm kk)
theorem so_i2l {a : Int} (E : EN_ X G own cc nL rty) (hd : decode cc pc = .ok (.i2l, 1)) (k : WP_ X G Q cl sl ad shs σ (pc + 1) L ((1, a) :: S)) : WP_ X G Q cl sl ad shs σ pc L ((0, a) :: S) :=
  wpp_ k (fun _ vS => vc_ (show -9223372036854775808 ≤ a ∧ a ≤ 9223372036854775807 by have h : -2147483648 ≤ a ∧ a ≤ 2147483647 := (vt_ vS).1; omega) (vt_ vS).2) (fun _ _ _ _ _ vS kk => lv_i2l E.1 E.2.1 hd (i3_l (vt_ vS).1) kk)
theorem so_l2i {a : Int} (E : EN_ X G own cc nL rty) (hd : decode cc pc = .ok (.l2i, 1)) (k : WP_ X G Q cl sl ad shs σ (pc + 1) L ((0, l2i_ a) :: S)) : WP_ X G Q cl sl ad shs σ pc L ((1, a) :: S) :=
  wpp_ k (fun _ vS => vc_ (by rw [l2i_e]; exact i3_r _) (vt_ vS).2) (fun _ _ _ _ _ _ kk => lv_l2i E.1 E.2.1 hd (i3_o _).symm (by rw [l2i_e] at kk; exact kk))
theorem so_ladd {a b : Int} (E : EN_ X G own cc nL rty) (hd : decode cc pc = .ok (.ladd, 1)) (hr : -9223372036854775808 ≤ a + b ∧ a + b ≤ 9223372036854775807) (k : WP_ X G Q cl sl ad shs σ (pc + 1) L ((1, a + b) :: S)) : WP_ X G Q cl sl ad shs σ pc L ((1, b) :: (1, a) :: S) :=
  wpp_ k (fun _ vS => vc_ hr (vt_ (vt_ vS).2).2) (fun _ _ _ _ _ _ kk => lv_ladd E.1 E.2.1 hd (by rw [← Int64.ofInt_add]; exact kk))
theorem so_lsub {a b : Int} (E : EN_ X G own cc nL rty) (hd : decode cc pc = .ok (.lsub, 1)) (hr : -9223372036854775808 ≤ a - b ∧ a - b ≤ 9223372036854775807) (k : WP_ X G Q cl sl ad shs σ (pc + 1) L ((1, a - b) :: S)) : WP_ X G Q cl sl ad shs σ pc L ((1, b) :: (1, a) :: S) :=
  wpp_ k (fun _ vS => vc_ hr (vt_ (vt_ vS).2).2) (fun _ _ _ _ _ _ kk => lv_lsub E.1 E.2.1 hd (by rw [← Int64.ofInt_sub]; exact kk))
theorem so_lmul {a b : Int} (E : EN_ X G own cc nL rty) (hd : decode cc pc = .ok (.lmul, 1)) (hr : -9223372036854775808 ≤ a * b ∧ a * b ≤ 9223372036854775807) (k : WP_ X G Q cl sl ad shs σ (pc + 1) L ((1, a * b) :: S)) : WP_ X G Q cl sl ad shs σ pc L ((1, b) :: (1, a) :: S) :=
  wpp_ k (fun _ vS => vc_ hr (vt_ (vt_ vS).2).2) (fun _ _ _ _ _ _ kk => lv_lmul E.1 E.2.1 hd (by rw [← Int64.ofInt_mul]; exact kk))
theorem so_ldiv {a b : Int} (E : EN_ X G own cc nL rty) (hd : decode cc pc = .ok (.ldiv, 1)) (h0 : ¬ b = 0) (hr : -9223372036854775808 ≤ a.tdiv b ∧ a.tdiv b ≤ 9223372036854775807) (k : WP_ X G Q cl sl ad shs σ (pc + 1) L ((1, a.tdiv b) :: S)) : WP_ X G Q cl sl ad shs σ pc L ((1, b) :: (1, a) :: S) :=
  wpp_ k (fun _ vS => vc_ hr (vt_ (vt_ vS).2).2) (fun _ _ _ _ _ vS kk => lv_ldiv E.1 E.2.1 hd (i6_n0 (vt_ vS).1 h0) (by rw [i6_div (vt_ (vt_ vS).2).1 (vt_ vS).1 hr]; exact kk))
theorem so_lrem {a b : Int} (E : EN_ X G own cc nL rty) (hd : decode cc pc = .ok (.lrem, 1)) (h0 : ¬ b = 0) (k : WP_ X G Q cl sl ad shs σ (pc + 1) L ((1, a.tmod b) :: S)) : WP_ X G Q cl sl ad shs σ pc L ((1, b) :: (1, a) :: S) :=
  wpp_ k (fun _ vS => vc_ (tm_r6 (vt_ (vt_ vS).2).1) (vt_ (vt_ vS).2).2) (fun _ _ _ _ _ vS kk => lv_lrem E.1 E.2.1 hd (i6_n0 (vt_ vS).1 h0) (by rw [i6_rem (vt_ (vt_ vS).2).1 (vt_ vS).1]; exact kk))
theorem so_land {a b : Int} (E : EN_ X G own cc nL rty) (hd : decode cc pc = .ok (.land, 1)) (k : WP_ X G Q cl sl ad shs σ (pc + 1) L ((1, and6_ a b) :: S)) : WP_ X G Q cl sl ad shs σ pc L ((1, b) :: (1, a) :: S) :=
  wpp_ k (fun _ vS => vc_ (by rw [and6_e]; exact i6_r _) (vt_ (vt_ vS).2).2) (fun _ _ _ _ _ _ kk => lv_land E.1 E.2.1 hd (by rw [← i6_o (_ &&& _)]; rw [and6_e] at kk; exact kk))
theorem so_lor {a b : Int} (E : EN_ X G own cc nL rty) (hd : decode cc pc = .ok (.lor, 1)) (k : WP_ X G Q cl sl ad shs σ (pc + 1) L ((1, or6_ a b) :: S)) : WP_ X G Q cl sl ad shs σ pc L ((1, b) :: (1, a) :: S) :=
  wpp_ k (fun _ vS => vc_ (by rw [or6_e]; exact i6_r _) (vt_ (vt_ vS).2).2) (fun _ _ _ _ _ _ kk => lv_lor E.1 E.2.1 hd (by rw [← i6_o (_ ||| _)]; rw [or6_e] at kk; exact kk))
theorem so_lshl {a b : Int} (E : EN_ X G own cc nL rty) (hd : decode cc pc = .ok (.lshl, 1)) (k : WP_ X G Q cl sl ad shs σ (pc + 1) L ((1, shl6_ a b) :: S)) : WP_ X G Q cl sl ad shs σ pc L ((0, b) :: (1, a) :: S) :=
  wpp_ k (fun _ vS => vc_ (by rw [shl6_e]; exact i6_r _) (vt_ (vt_ vS).2).2) (fun _ _ _ _ _ _ kk => lv_lshl E.1 E.2.1 hd (i6_o _).symm (by rw [shl6_e] at kk; exact kk))
theorem so_lshr {a b : Int} (E : EN_ X G own cc nL rty) (hd : decode cc pc = .ok (.lshr, 1)) (k : WP_ X G Q cl sl ad shs σ (pc + 1) L ((1, shr6_ a b) :: S)) : WP_ X G Q cl sl ad shs σ pc L ((0, b) :: (1, a) :: S) :=
  wpp_ k (fun _ vS => vc_ (by rw [shr6_e]; exact i6_r _) (vt_ (vt_ vS).2).2) (fun _ _ _ _ _ _ kk => lv_lshr E.1 E.2.1 hd (i6_o _).symm (by rw [shr6_e] at kk; exact kk))
theorem so_lcmp {a b : Int} (E : EN_ X G own cc nL rty) (hd : decode cc pc = .ok (.lcmp, 1)) (k : WP_ X G Q cl sl ad shs σ (pc + 1) L ((0, lcmp_ a b) :: S)) : WP_ X G Q cl sl ad shs σ pc L ((1, b) :: (1, a) :: S) :=
  wpp_ k (fun _ vS => vc_ (lcmp_r _ _) (vt_ (vt_ vS).2).2) (fun _ _ _ _ _ vS kk => W.lcmp E.1 E.2.1 hd (by rw [lcmp_e (vt_ (vt_ vS).2).1 (vt_ vS).1]; exact kk))
theorem cat1_ {cs : Nat → Nat} {v : Sv_t} (h : (v.1 == 1) = false) : (val_ cs ad v).category = 1 := by
  rw [val_cat, if_neg]
  intro q
  simp [q] at h
theorem so_dup {v : Sv_t} (E : EN_ X G own cc nL rty) (hd : decode cc pc = .ok (.dup, 1)) (h : (v.1 == 1) = false) (k : WP_ X G Q cl sl ad shs σ (pc + 1) L (v :: v :: S)) : WP_ X G Q cl sl ad shs σ pc L (v :: S) :=
  wpp_ k (fun _ vS => vc_ (vt_ vS).1 vS) (fun _ _ _ _ _ _ kk => lv_dup E.1 E.2.1 hd (cat1_ h) kk)
theorem so_pop {v : Sv_t} (E : EN_ X G own cc nL rty) (hd : decode cc pc = .ok (.pop, 1)) (h : (v.1 == 1) = false) (k : WP_ X G Q cl sl ad shs σ (pc + 1) L S) : WP_ X G Q cl sl ad shs σ pc L (v :: S) :=
  wpp_ k (fun _ vS => (vt_ vS).2) (fun _ _ _ _ _ _ kk => lv_pop E.1 E.2.1 hd (cat1_ h) kk)
theorem so_pop2 {z : Int} (E : EN_ X G own cc nL rty) (hd : decode cc pc = .ok (.pop2, 1)) (k : WP_ X G Q cl sl ad shs σ (pc + 1) L S) : WP_ X G Q cl sl ad shs σ pc L ((1, z) :: S) :=
  wpp_ k (fun _ vS => (vt_ vS).2) (fun _ _ _ _ _ _ kk => lv_pop2_2 E.1 E.2.1 hd rfl kk)
theorem so_dup2 {v w : Sv_t} (E : EN_ X G own cc nL rty) (hd : decode cc pc = .ok (.dup2, 1)) (h : (v.1 == 1) = false) (h' : (w.1 == 1) = false) (k : WP_ X G Q cl sl ad shs σ (pc + 1) L (v :: w :: v :: w :: S)) : WP_ X G Q cl sl ad shs σ pc L (v :: w :: S) :=
  wpp_ k (fun _ vS => vc_ (vt_ vS).1 (vc_ (vt_ (vt_ vS).2).1 vS)) (fun _ _ _ _ _ _ kk => lv_dup2_11 E.1 E.2.1 hd (cat1_ h) (cat1_ h') kk)
theorem so_goto {off : Int} (E : EN_ X G own cc nL rty) (hd : decode cc pc = .ok (.goto off, 3)) (h0 : 0 ≤ (pc : Int) + off) (k : WP_ X G Q cl sl ad shs σ ((pc : Int) + off).toNat L S) : WP_ X G Q cl sl ad shs σ pc L S :=
  wpp_ k (fun _ vS => vS) (fun _ _ _ _ _ _ kk => lv_goto E.1 E.2.1 hd (by omega) kk)
/-- a branch: both ways by their own walks -/
theorem wpb2_ {S' : List Sv_t} {P : Prop} {tgt : Nat} (hv : (∀ v ∈ S, tv_ shs v) → ∀ v ∈ S', tv_ shs v)
    (h : ∀ (H : Heap) (locs : List Loc) (ls : Array Slot), (∀ v ∈ S, tv_ shs v) → (P → Wx_ X Q cl sl H locs tgt ls (S'.map (val_ G.2.2.1 ad))) → (¬ P → Wx_ X Q cl sl H locs pc' ls (S'.map (val_ G.2.2.1 ad))) → Wx_ X Q cl sl H locs pc ls (S.map (val_ G.2.2.1 ad)))
    (k1 : P → WP_ X G Q cl sl ad shs σ tgt L S') (k2 : ¬ P → WP_ X G Q cl sl ad shs σ pc' L S') : WP_ X G Q cl sl ad shs σ pc L S :=
  fun hM hA H locs ls hP hD hS hl vL vS => h H locs ls vS (fun p => k1 p hM hA H locs ls hP hD hS hl vL (hv vS)) (fun p => k2 p hM hA H locs ls hP hD hS hl vL (hv vS))
theorem so_if {c : ClassFile.Cond} {off z : Int} (E : EN_ X G own cc nL rty) (hd : decode cc pc = .ok (.ifCond c off, 3)) (h0 : 0 ≤ (pc : Int) + off) {a b : Prop} (h : cmp0_ c z 0 a b) (k1 : a → WP_ X G Q cl sl ad shs σ ((pc : Int) + off).toNat L S) (k2 : b → WP_ X G Q cl sl ad shs σ (pc + 3) L S) : WP_ X G Q cl sl ad shs σ pc L ((0, z) :: S) := by
  have r0 : (-2147483648 : Int) ≤ 0 ∧ (0 : Int) ≤ 2147483647 := by omega
  have ht : (pc : Int) + off = ((((pc : Int) + off).toNat : Nat) : Int) := by omega
  cases c with
  | eq => exact wpb2_ (P := z = 0) (fun vS => (vt_ vS).2) (fun _ _ _ vS f g => lv_if_eq E.1 E.2.1 hd ht (fun q => f ((i3_eq (vt_ vS).1 r0).mp (q.trans i3_z))) (fun q => g (fun e => q (((i3_eq (vt_ vS).1 r0).mpr e).trans i3_z.symm)))) (fun p => k1 (h.1 p)) (fun p => k2 (h.2 p))
  | ne => exact wpb2_ (P := ¬ z = 0) (fun vS => (vt_ vS).2) (fun _ _ _ vS f g => lv_if_ne E.1 E.2.1 hd ht (fun q => f (fun e => q (((i3_eq (vt_ vS).1 r0).mpr e).trans i3_z.symm))) (fun q => g (fun e => e ((i3_eq (vt_ vS).1 r0).mp (q.trans i3_z))))) (fun p => k1 (h.1 p)) (fun p => k2 (h.2 (Decidable.not_not.mp p)))
  | lt => exact wpb2_ (P := z < 0) (fun vS => (vt_ vS).2) (fun _ _ _ vS f g => lv_if_lt E.1 E.2.1 hd ht (fun q => f ((i3_lt (vt_ vS).1 r0).mp (i3_z ▸ q))) (fun q => g (fun e => q (i3_z ▸ (i3_lt (vt_ vS).1 r0).mpr e)))) (fun p => k1 (h.1 p)) (fun p => k2 (h.2 (by omega)))
  | ge => exact wpb2_ (P := 0 ≤ z) (fun vS => (vt_ vS).2) (fun _ _ _ vS f g => lv_if_ge E.1 E.2.1 hd ht (fun q => f ((i3_le r0 (vt_ vS).1).mp (i3_z ▸ q))) (fun q => g (fun e => q (i3_z ▸ (i3_le r0 (vt_ vS).1).mpr e)))) (fun p => k1 (h.1 p)) (fun p => k2 (h.2 (by omega)))
  | gt => exact wpb2_ (P := 0 < z) (fun vS => (vt_ vS).2) (fun _ _ _ vS f g => lv_if_gt E.1 E.2.1 hd ht (fun q => f ((i3_lt r0 (vt_ vS).1).mp (i3_z ▸ q))) (fun q => g (fun e => q (i3_z ▸ (i3_lt r0 (vt_ vS).1).mpr e)))) (fun p => k1 (h.1 p)) (fun p => k2 (h.2 (by omega)))
  | le => exact wpb2_ (P := z ≤ 0) (fun vS => (vt_ vS).2) (fun _ _ _ vS f g => lv_if_le E.1 E.2.1 hd ht (fun q => f ((i3_le (vt_ vS).1 r0).mp (i3_z ▸ q))) (fun q => g (fun e => q (i3_z ▸ (i3_le (vt_ vS).1 r0).mpr e)))) (fun p => k1 (h.1 p)) (fun p => k2 (h.2 (by omega)))
theorem so_icmp {c : ClassFile.Cond} {off z y : Int} (E : EN_ X G own cc nL rty) (hd : decode cc pc = .ok (.if_icmp c off, 3)) (h0 : 0 ≤ (pc : Int) + off) {a b : Prop} (h : cmp0_ c z y a b) (k1 : a → WP_ X G Q cl sl ad shs σ ((pc : Int) + off).toNat L S) (k2 : b → WP_ X G Q cl sl ad shs σ (pc + 3) L S) : WP_ X G Q cl sl ad shs σ pc L ((0, y) :: (0, z) :: S) := by
  have ht : (pc : Int) + off = ((((pc : Int) + off).toNat : Nat) : Int) := by omega
  cases c with
  | eq => exact wpb2_ (P := z = y) (fun vS => (vt_ (vt_ vS).2).2) (fun _ _ _ vS f g => lv_icmp_eq E.1 E.2.1 hd ht (fun q => f ((i3_eq (vt_ (vt_ vS).2).1 (vt_ vS).1).mp q)) (fun q => g (fun e => q ((i3_eq (vt_ (vt_ vS).2).1 (vt_ vS).1).mpr e)))) (fun p => k1 (h.1 p)) (fun p => k2 (h.2 p))
  | ne => exact wpb2_ (P := ¬ z = y) (fun vS => (vt_ (vt_ vS).2).2) (fun _ _ _ vS f g => lv_icmp_ne E.1 E.2.1 hd ht (fun q => f (fun e => q ((i3_eq (vt_ (vt_ vS).2).1 (vt_ vS).1).mpr e))) (fun q => g (fun e => e ((i3_eq (vt_ (vt_ vS).2).1 (vt_ vS).1).mp q)))) (fun p => k1 (h.1 p)) (fun p => k2 (h.2 (Decidable.not_not.mp p)))
  | lt => exact wpb2_ (P := z < y) (fun vS => (vt_ (vt_ vS).2).2) (fun _ _ _ vS f g => lv_icmp_lt E.1 E.2.1 hd ht (fun q => f ((i3_lt (vt_ (vt_ vS).2).1 (vt_ vS).1).mp q)) (fun q => g (fun e => q ((i3_lt (vt_ (vt_ vS).2).1 (vt_ vS).1).mpr e)))) (fun p => k1 (h.1 p)) (fun p => k2 (h.2 (by omega)))
  | ge => exact wpb2_ (P := y ≤ z) (fun vS => (vt_ (vt_ vS).2).2) (fun _ _ _ vS f g => lv_icmp_ge E.1 E.2.1 hd ht (fun q => f ((i3_le (vt_ vS).1 (vt_ (vt_ vS).2).1).mp q)) (fun q => g (fun e => q ((i3_le (vt_ vS).1 (vt_ (vt_ vS).2).1).mpr e)))) (fun p => k1 (h.1 p)) (fun p => k2 (h.2 (by omega)))
  | gt => exact wpb2_ (P := y < z) (fun vS => (vt_ (vt_ vS).2).2) (fun _ _ _ vS f g => lv_icmp_gt E.1 E.2.1 hd ht (fun q => f ((i3_lt (vt_ vS).1 (vt_ (vt_ vS).2).1).mp q)) (fun q => g (fun e => q ((i3_lt (vt_ vS).1 (vt_ (vt_ vS).2).1).mpr e)))) (fun p => k1 (h.1 p)) (fun p => k2 (h.2 (by omega)))
  | le => exact wpb2_ (P := z ≤ y) (fun vS => (vt_ (vt_ vS).2).2) (fun _ _ _ vS f g => lv_icmp_le E.1 E.2.1 hd ht (fun q => f ((i3_le (vt_ (vt_ vS).2).1 (vt_ vS).1).mp q)) (fun q => g (fun e => q ((i3_le (vt_ (vt_ vS).2).1 (vt_ vS).1).mpr e)))) (fun p => k1 (h.1 p)) (fun p => k2 (h.2 (by omega)))
theorem tsw_at {J : Nat → Prop} {z : Int} : ∀ (offs : List Int) (lo : Int), tsw_ J pc z lo offs → ∀ (n : Nat) (o : Int), offs[n]? = some o → z = lo + n → J ((pc : Int) + o).toNat
  | [], _, _, n, o, h, _ => by simp at h
  | a :: os, lo, h, n, o, hn, hz => by
    obtain ⟨h1, h2⟩ := h
    cases n with
    | zero =>
      rw [List.getElem?_cons_zero] at hn
      cases hn
      exact h1 (by omega)
    | succ n =>
      rw [List.getElem?_cons_succ] at hn
      exact tsw_at os (lo + 1) h2 n o hn (by omega)
theorem so_tsw {d lo hi z : Int} {offs : Array Int} {len : Nat} (E : EN_ X G own cc nL rty) (hd : decode cc pc = .ok (.tableswitch d lo hi offs, len)) (hn : (offs.size : Int) = hi - lo + 1) (h0 : 0 ≤ (pc : Int) + d) (hp : ∀ o ∈ offs.toList, 0 ≤ (pc : Int) + o)
    (h : (z < lo ∨ hi < z → WP_ X G Q cl sl ad shs σ ((pc : Int) + d).toNat L S) ∧ tsw_ (fun t => WP_ X G Q cl sl ad shs σ t L S) pc z lo offs.toList) : WP_ X G Q cl sl ad shs σ pc L ((0, z) :: S) := by
  intro hM hA H locs ls hP hD hS hl vL vS
  have ez : (Int32.ofInt z).toInt = z := i3_t (vt_ vS).1
  by_cases ho : z < lo ∨ hi < z
  · exact lv_tableOut E.1 E.2.1 hd (by rw [ez]; exact ho) (tgt := ((pc : Int) + d).toNat) (by omega) (h.1 ho hM hA H locs ls hP hD hS hl vL (vt_ vS).2)
  · have hlt : (z - lo).toNat < offs.size := by omega
    have hoff : offs[(z - lo).toNat]? = some offs[(z - lo).toNat] := Array.getElem?_eq_getElem hlt
    have hl2 : offs.toList[(z - lo).toNat]? = some offs[(z - lo).toNat] := by rw [Array.getElem?_toList]; exact hoff
    have hk := tsw_at offs.toList lo h.2 (z - lo).toNat _ hl2 (by omega)
    have hpp := hp _ (List.mem_of_getElem? hl2)
    exact lv_tableIn E.1 E.2.1 hd (by rw [ez]; omega) (by rw [ez]; omega) (by rw [ez]; exact hoff) (tgt := ((pc : Int) + offs[(z - lo).toNat]).toNat) (by omega) (hk hM hA H locs ls hP hD hS hl vL (vt_ vS).2)
end SN2
