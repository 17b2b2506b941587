theorem cok_chr {X : Cx_t} {G : Gx_t} {Q : State → Prop} {cl sl idx : Nat} {ad shs : List Nat} {own : String} {cc : ByteArray} {nL : Nat} {rty : Option FieldType} (E : EN_ X G own cc nL rty) (hRm : 4 + 1 ≤ X.2.2.2.1.frames ∧ 8 + (2 + 11) + 85 ≤ X.2.2.2.1.locals) (hc0 : cl ≤ X.2.2.2.1.cells) (hs0 : sl ≤ X.2.2.2.1.slots) (w1 : Cond.methodLink own idx yJ0_charAt_5068e ∈ gl_) : COK_ X G Q cl sl ad shs cc nL (2 * idx) 2 TCHR_ := by
  obtain ⟨p, l, e, R, s, m, args, below, meth, code⟩ := X
  obtain ⟨D, tc, cs, A⟩ := G
  intro pc i σ L as0 S k hi hd hlen hcs hL hT hk
  have hi : i = .invokevirtual idx := by
    rcases hi with ⟨h, -⟩ | ⟨-, h⟩
    · rw [Nat.mul_div_cancel_left _ (by omega)] at h; exact h
    · omega
  subst hi
  obtain ⟨c, j, rfl, hc, hj, hpost⟩ := hT
  obtain ⟨i, rfl⟩ : ∃ i : Nat, c = (i : Int) + 1 := ⟨(c - 1).toNat, by omega⟩
  have hi : i < 14 := by omega
  have ei : ((i : Int) + 1 - 1).toNat = i := by omega
  have hs : slen_ ((i : Int) + 1) = ((lenS_.getD i 0 : Nat) : Int) := by unfold slen_; rw [ei]
  rw [hs] at hj
  obtain ⟨q, rfl⟩ : ∃ q : Nat, j = (q : Int) := ⟨j.toNat, by omega⟩
  have hq : q < lenS_.getD i 0 := by omega
  have hlo := lenS_ok i hi
  have hok := chS_ok i hi q hq
  intro hM hA H locs ls hP hD hS hlh vL vS
  have hX : XS_ cs A s := E.2.2.2.2.2.2.2.2.2
  obtain ⟨⟨adV, hSS⟩, -, hZ, -⟩ := id hX
  have hg : ∀ w ∈ gl_, w.before args s = true := E.2.2.2.2.1
  have ev : val_ cs ad (4, (i : Int) + 1) = .ref (cs (i + 1)) := by rw [val_4, show ((i : Int) + 1).toNat = i + 1 by omega]
  show W p l e R s m args below meth code H locs cl sl Q (F0 m pc ls (val_ cs ad (0, (q : Int)) :: val_ cs ad (4, (i : Int) + 1) :: S.map (val_ cs ad)))
  rw [ev]
  refine runQ_ (va_runV (As := [.int (Int32.ofNat q)]) (rest := S.map (val_ cs ad)) (b := cs (i + 1)) (C := RJ0) ⟨E.1, E.2.1, E.2.2.1, E.2.2.2.1, hg⟩ (st_chr l hi hq) (cwV 1 hg ?_ rfl rfl rfl ⟨rfl, by decide, by decide, by decide⟩ hRm) ⟨psb_, vk_recv (adK := fun i => cs (i + 1)) (i := i) hSS hi hS, fun U hU hW => ⟨rfl, XS_move hX hS hU hW (fun _ h => h)⟩⟩ rfl rfl (hlh.1.trans hL) rfl ?_ hd ⟨hc0, hs0⟩) ?_
  · have := gin_ (ws := [Cond.methodLink own idx yJ0_charAt_5068e, Cond.instanceMethod yJ0_charAt_5068e, Cond.selects RJ0 yJ0_charAt_5068e yJ0_charAt_5068e, Cond.initialized RJ0, Cond.code yJ0_charAt_5068e cJ0_charAt_5068e 2 (some .char)]) (fun w hw => by
      simp only [List.mem_cons, List.not_mem_nil, or_false] at hw
      rcases hw with rfl | rfl | rfl | rfl | rfl
      · exact w1
      · exact wi_J0_charAt_5068e
      · exact ws_J0_charAt_5068e
      · exact wn_J0
      · exact wc_J0_charAt_5068e)
    exact this
  · rw [map_cat]
    show 2 * 0 + csum_ S ≤ 8
    omega
  · have hz : schr_ ((i : Int) + 1) (q : Int) = (chS_ i q).toInt := by unfold schr_; rw [ei, Int.toNat_natCast]
    have key := hk [(0, schr_ ((i : Int) + 1) (q : Int))] σ (hpost _ rfl (by rw [hz]; exact hok.2.2)) hM hA H locs ls hP hD hS hlh vL (vc_ (by rw [hz]; have := hok.2.2; exact ⟨by omega, by omega⟩) (vt_ (vt_ vS).2).2)
    rw [hz, List.cons_append, List.map_cons, val_0, i3_o] at key
    exact key
