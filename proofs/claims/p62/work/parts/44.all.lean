def as_G_X11_feed : Int × Int × Int × Int × Int → List Sv_t := fun a => [(42, 86), (0, a.1), (0, a.2.1), (0, a.2.2.1), (0, a.2.2.2.1), (0, a.2.2.2.2)]
def pre_G_X11_feed : Int × Int × Int × Int × Int → Me_t → Prop := fun a σ => True
def post_G_X11_feed : Int × Int × Int × Int × Int → Me_t → Int → Me_t → Prop := fun a σ z σ' => (∀ k j : Int, ¬ (k = 86 ∨ k = 90 ∨ k = 91) → σ' k j = σ k j)
set_option maxHeartbeats 1500000 in
set_option maxRecDepth 100000 in
theorem ct_G_X11_feed (l : Launch) : CT_ l yX11_feed cX11_feed 7 (some .int) 0 0 as_G_X11_feed (rmI_) pre_G_X11_feed post_G_X11_feed := by
  refine ct_of (by decide) (fun _ => Nat.le_of_ble_eq_true rfl) ?_
  intro X G Q ad σ a hl hR E hG R hM hv hp
  obtain ⟨a1, a2, a3, a4, a5⟩ := a
  have r_a1 : -2147483648 ≤ a1 ∧ a1 ≤ 2147483647 := hv (0, a1) (List.mem_of_getElem? (i := 1) rfl)
  have r_a2 : -2147483648 ≤ a2 ∧ a2 ≤ 2147483647 := hv (0, a2) (List.mem_of_getElem? (i := 2) rfl)
  have r_a3 : -2147483648 ≤ a3 ∧ a3 ≤ 2147483647 := hv (0, a3) (List.mem_of_getElem? (i := 3) rfl)
  have r_a4 : -2147483648 ≤ a4 ∧ a4 ≤ 2147483647 := hv (0, a4) (List.mem_of_getElem? (i := 4) rfl)
  have r_a5 : -2147483648 ≤ a5 ∧ a5 ≤ 2147483647 := hv (0, a5) (List.mem_of_getElem? (i := 5) rfl)
  have B := @bk_ X G Q 0 0 ad SHS_ RX11 cX11_feed 7 (some .int) flX11 plX11 knX11 [] _ _ none kX11_feed [13, 55, 62] flX11_ok plX11_ok knX11_ok eX11_feed oX11_feed
    (fun _ h => absurd h List.not_mem_nil) R sok_no E
  show WP_ X G Q 0 0 ad SHS_ σ 0 [(42, 86), (0, a1), (0, a2), (0, a3), (0, a4), (0, a5), (9, 0)] []
  refine B rfl ?_
  intro z1 ez1 hz1
  have hz1 : (0 : Int) ≤ z1 ∧ z1 ≤ (1200 : Int) := hz1
  refine And.intro (by omega) ?_
  refine And.intro (fun h2 => ?_) (fun h2 => ?_)
  · skip
    refine B rfl ?_
    refine And.intro (by omega) ?_
    intro σ3 e4
    refine And.intro (by omega) ?_
    intro σ5 e6
    refine And.intro (by omega) ?_
    intro σ7 e8
    refine And.intro (by omega) ?_
    intro σ9 e10
    refine And.intro (by omega) ?_
    intro σ11 e12
    show WP_ X G Q 0 0 ad SHS_ σ11 55 [(42, 86), (0, a1), (0, a2), (0, a3), (0, a4), (0, a5), (0, 0)] []
    refine wdrop_ (L' := [(42, 86), (9, 0), (9, 0), (9, 0), (9, 0), (9, 0), (0, 0)]) ⟨Or.inr rfl, ⟨Or.inl rfl, ⟨Or.inl rfl, ⟨Or.inl rfl, ⟨Or.inl rfl, ⟨Or.inl rfl, ⟨Or.inr rfl, trivial⟩⟩⟩⟩⟩⟩⟩ ?_
    have lp_55 : ∀ (nq_ : Nat) (v6 : Int) (τ55 : Me_t), (∀ k j : Int, ¬ (k = 86 ∨ k = 90 ∨ k = 91) → τ55 k j = σ k j) → (0 ≤ v6) → (v6 ≤ 20) → (0 ≤ τ55 86 5) → (τ55 86 5 + 20 ≤ 1200) → (20 - v6 : Int).toNat < nq_ → WP_ X G Q 0 0 ad SHS_ τ55 55 [(42, 86), (9, 0), (9, 0), (9, 0), (9, 0), (9, 0), (0, v6)] [] := by
      intro nq_
      induction nq_ with
      | zero => intros; omega
      | succ nq_ ih_55 =>
        intro v6 τ55 hf55 hi55_0 hi55_1 hi55_2 hi55_3 hm55
        refine B rfl ?_
        refine And.intro (fun h13 => ?_) (fun h13 => ?_)
        · skip
          refine B rfl ?_
          intro z14 ez14 hz14
          have hz14 : (0 : Int) ≤ z14 ∧ z14 ≤ (1200 : Int) := hz14
          refine And.intro (by omega) ?_
          refine And.intro (by omega) ?_
          intro σ15 e16
          intro z17 ez17 hz17
          have hz17 : (0 : Int) ≤ z17 ∧ z17 ≤ (1200 : Int) := hz17
          have t18 : σ15 86 5 = z14 + 20 := ups_v e16
          refine Exists.intro _ (And.intro rfl ?_)
          exact (fun k j hk => ((ups_r e16 (by omega)).trans (hf55 _ _ (by omega))))
        · skip
          show WP_ X G Q 0 0 ad SHS_ τ55 62 [(42, 86), (9, 0), (9, 0), (9, 0), (9, 0), (9, 0), (0, v6)] []
          refine B rfl ?_
          intro z19 ez19 hz19
          have hz19 : (0 : Int) ≤ z19 ∧ z19 ≤ (1200 : Int) := hz19
          refine And.intro (by omega) ?_
          have q20 : Int.tdiv v6 4 = v6 / 4 := Int.tdiv_eq_ediv_of_nonneg (by omega)
          refine And.intro (by omega) ?_
          refine And.intro (by omega) ?_
          intro z21 ez21 hz21
          have hz21 : ((-2147483648) : Int) ≤ z21 ∧ z21 ≤ (2147483647 : Int) := rgl_ hz21 (by decide +kernel) (by decide +kernel) (by decide +kernel)
          try have t22 : τ55 91 (Int.tdiv v6 4) = σ 91 (Int.tdiv v6 4) := (hf55 _ _ (by omega))
          have q23 : Int.tmod v6 4 = v6 % 4 := Int.tmod_eq_emod_of_nonneg (by omega)
          refine And.intro (by omega) ?_
          refine And.intro (by omega) ?_
          refine And.intro (by omega) ?_
          refine And.intro (by omega) ?_
          refine And.intro (i2b_r _) ?_
          intro σ24 e25
          refine And.intro (by omega) ?_
          try have t26 : σ24 86 5 = τ55 86 5 := (ups_r e25 (by omega))
          exact ih_55 (v6 + 1) σ24 (fun k j hk => ((ups_r e25 (by omega)).trans (hf55 _ _ (by omega)))) (by show 0 ≤ (v6 + 1); omega) (by show (v6 + 1) ≤ 20; omega) (by show 0 ≤ σ24 86 5; omega) (by show σ24 86 5 + 20 ≤ 1200; omega) (by omega)
    try have t27 : σ11 86 5 = σ 86 5 := ((ups_r e12 (by omega)).trans ((ups_r e10 (by omega)).trans ((ups_r e8 (by omega)).trans ((ups_r e6 (by omega)).trans (ups_r e4 (by omega))))))
    exact lp_55 ((20 - 0 : Int).toNat + 1) 0 σ11 (fun k j hk => ((ups_r e12 (by omega)).trans ((ups_r e10 (by omega)).trans ((ups_r e8 (by omega)).trans ((ups_r e6 (by omega)).trans (ups_r e4 (by omega))))))) (by show 0 ≤ 0; omega) (by show 0 ≤ 20; omega) (by show 0 ≤ σ11 86 5; omega) (by show σ11 86 5 + 20 ≤ 1200; omega) (by omega)
  · skip
    show WP_ X G Q 0 0 ad SHS_ σ 13 [(42, 86), (0, a1), (0, a2), (0, a3), (0, a4), (0, a5), (9, 0)] []
    refine B rfl ?_
    refine Exists.intro _ (And.intro rfl ?_)
    exact (fun k j hk => rfl)
def as_G_X11_end : Int → List Sv_t := fun a => [(42, 86), (0, a)]
def pre_G_X11_end : Int → Me_t → Prop := fun a σ => True
def post_G_X11_end : Int → Me_t → Int → Me_t → Prop := fun a σ z σ' => (∀ k j : Int, ¬ (k = 86) → σ' k j = σ k j)
set_option maxHeartbeats 1500000 in
set_option maxRecDepth 100000 in
theorem ct_G_X11_end (l : Launch) : CT_ l yX11_end cX11_end 2 (some .int) 1 25 as_G_X11_end (rmI_) pre_G_X11_end post_G_X11_end := by
  refine ct_of (by decide) (fun _ => Nat.le_of_ble_eq_true rfl) ?_
  intro X G Q ad σ a hl hR E hG R hM hv hp
  obtain ⟨a1, rfl⟩ : ∃ q : Int, q = a := ⟨_, rfl⟩
  have r_a1 : -2147483648 ≤ a1 ∧ a1 ≤ 2147483647 := hv (0, a1) (List.mem_of_getElem? (i := 1) rfl)
  have B := @bk_ X G Q 0 0 ad SHS_ RX11 cX11_end 2 (some .int) flX11 plX11 knX11 [(159, 3, TR_ as_G_X11_in (rmI_) pre_G_X11_in post_G_X11_in)] _ _ none kX11_end [] flX11_ok plX11_ok knX11_ok eX11_end oX11_end
    (List.forall_mem_cons.mpr ⟨cok_s (n := 3) (idx := 79) E (ct_G_X11_in X.2.1) (by rw [hR]; decide) (Nat.zero_le _) (Nat.zero_le _) hG ⟨by decide, by decide, by decide⟩ (fun _ => rfl) wl_X11_79 wt_X11_in wn_X11 wc_X11_in, fun _ h => absurd h List.not_mem_nil⟩) R sok_no E
  show WP_ X G Q 0 0 ad SHS_ σ 0 [(42, 86), (0, a1)] []
  refine B rfl ?_
  intro z1 ez1 hz1
  have hz1 : (0 : Int) ≤ z1 ∧ z1 ≤ (1200 : Int) := hz1
  refine Exists.intro (a1, 0, z1) (And.intro rfl (And.intro True.intro ?_))
  rintro z2 m_ h3
  obtain rfl : σ = m_ := h3.2
  have h4 : (z2 = 1 ∧ 0 ≤ a1 ∧ a1 ≤ z1) ∨ (z2 = 0 ∧ ¬ (0 ≤ a1 ∧ a1 ≤ z1)) := h3.1
  refine And.intro (fun h5 => ?_) (fun h5 => ?_)
  · skip
    refine B rfl ?_
    refine And.intro (by omega) ?_
    intro σ6 e7
    refine Exists.intro _ (And.intro rfl ?_)
    exact (fun k j hk => (ups_r e7 (by omega)))
  · skip
    refine Exists.intro _ (And.intro rfl ?_)
    exact (fun k j hk => rfl)
def as_G_X11_fault : Int → List Sv_t := fun a => [(42, 86), (0, a)]
def pre_G_X11_fault : Int → Me_t → Prop := fun a σ => True
def post_G_X11_fault : Int → Me_t → Int → Me_t → Prop := fun a σ z σ' => (σ = σ')
set_option maxHeartbeats 1500000 in
set_option maxRecDepth 100000 in
theorem ct_G_X11_fault (l : Launch) : CT_ l yX11_fault cX11_fault 2 (some .int) 0 0 as_G_X11_fault (rmI_) pre_G_X11_fault post_G_X11_fault := by
  refine ct_of (by decide) (fun _ => Nat.le_of_ble_eq_true rfl) ?_
  intro X G Q ad σ a hl hR E hG R hM hv hp
  obtain ⟨a1, rfl⟩ : ∃ q : Int, q = a := ⟨_, rfl⟩
  have r_a1 : -2147483648 ≤ a1 ∧ a1 ≤ 2147483647 := hv (0, a1) (List.mem_of_getElem? (i := 1) rfl)
  have B := @bk_ X G Q 0 0 ad SHS_ RX11 cX11_fault 2 (some .int) flX11 plX11 knX11 [] _ _ none kX11_fault [] flX11_ok plX11_ok knX11_ok eX11_fault oX11_fault
    (fun _ h => absurd h List.not_mem_nil) R sok_no E
  show WP_ X G Q 0 0 ad SHS_ σ 0 [(42, 86), (0, a1)] []
  refine B rfl ?_
  refine And.intro (fun h1 => ?_) (fun h1 => ?_)
  · skip
    refine B rfl ?_
    refine And.intro (fun h2 => ?_) (fun h2 => ?_)
    · skip
      refine B rfl ?_
      refine Exists.intro _ (And.intro rfl ?_)
      exact rfl
    · skip
      intro z3 ez3 hz3
      have hz3 : ((-1) : Int) ≤ z3 ∧ z3 ≤ (1200 : Int) := hz3
      refine B rfl ?_
      refine Exists.intro _ (And.intro rfl ?_)
      exact rfl
  · skip
    intro z4 ez4 hz4
    have hz4 : (0 : Int) ≤ z4 ∧ z4 ≤ (3 : Int) := hz4
    refine B rfl ?_
    refine Exists.intro _ (And.intro rfl ?_)
    exact rfl
def as_G_X11_count : Int → List Sv_t := fun a => [(42, 86), (0, a)]
def pre_G_X11_count : Int → Me_t → Prop := fun a σ => (MI σ)
def post_G_X11_count : Int → Me_t → Int → Me_t → Prop := fun a σ z σ' => (σ = σ')
set_option maxHeartbeats 1500000 in
set_option maxRecDepth 100000 in
theorem ct_G_X11_count (l : Launch) : CT_ l yX11_count cX11_count 4 (some .int) 0 0 as_G_X11_count (rmI_) pre_G_X11_count post_G_X11_count := by
  refine ct_of (by decide) (fun _ => Nat.le_of_ble_eq_true rfl) ?_
  intro X G Q ad σ a hl hR E hG R hM hv hp
  obtain ⟨a1, rfl⟩ : ∃ q : Int, q = a := ⟨_, rfl⟩
  have r_a1 : -2147483648 ≤ a1 ∧ a1 ≤ 2147483647 := hv (0, a1) (List.mem_of_getElem? (i := 1) rfl)
  have hp0 : MI σ := hp
  have B := @bk_ X G Q 0 0 ad SHS_ RX11 cX11_count 4 (some .int) flX11 plX11 knX11 [] _ _ none kX11_count [97, 102, 113] flX11_ok plX11_ok knX11_ok eX11_count oX11_count
    (fun _ h => absurd h List.not_mem_nil) R sok_no E
  show WP_ X G Q 0 0 ad SHS_ σ 0 [(42, 86), (0, a1), (9, 0), (9, 0)] []
  refine B rfl ?_
  refine And.intro (fun h1 => ?_) ?_
  · skip
    refine B rfl ?_
    refine Exists.intro _ (And.intro rfl ?_)
    exact rfl
  refine And.intro (fun h1 => ?_) ?_
  · skip
    refine B rfl ?_
    refine And.intro (by omega) ?_
    intro z2 ez2 hz2
    have hz2 : ((-1) : Int) ≤ z2 ∧ z2 ≤ (1999 : Int) := hz2
    have p3 : BW σ 87 := (hp0).1.1
    have b4 := wrh_ p3 (i := 1) (by omega)
    have b4 : (0 : Int) ≤ σ 87 1 ∧ σ 87 1 ≤ (3 : Int) := b4
    refine Exists.intro _ (And.intro rfl ?_)
    exact rfl
  refine And.intro (fun h1 => ?_) ?_
  · skip
    refine B rfl ?_
    refine And.intro (by omega) ?_
    intro z5 ez5 hz5
    have hz5 : ((-1) : Int) ≤ z5 ∧ z5 ≤ (1999 : Int) := hz5
    have p6 : BW σ 87 := (hp0).1.1
    have b7 := wrh_ p6 (i := 2) (by omega)
    have b7 : (0 : Int) ≤ σ 87 2 ∧ σ 87 2 ≤ (12 : Int) := b7
    refine Exists.intro _ (And.intro rfl ?_)
    exact rfl
  refine And.intro (fun h1 => ?_) ?_
  · skip
    refine B rfl ?_
    refine And.intro (by omega) ?_
    intro z8 ez8 hz8
    have hz8 : ((-1) : Int) ≤ z8 ∧ z8 ≤ (1999 : Int) := hz8
    have p9 : BW σ 87 := (hp0).1.1
    have b10 := wrh_ p9 (i := 3) (by omega)
    have b10 : (0 : Int) ≤ σ 87 3 ∧ σ 87 3 ≤ (12 : Int) := b10
    refine Exists.intro _ (And.intro rfl ?_)
    exact rfl
  refine And.intro (fun h1 => ?_) ?_
  · skip
    refine B rfl ?_
    refine And.intro (by omega) ?_
    intro z11 ez11 hz11
    have hz11 : ((-1) : Int) ≤ z11 ∧ z11 ≤ (1999 : Int) := hz11
    have p12 : BW σ 87 := (hp0).1.1
    have b13 := wrh_ p12 (i := 0) (by omega)
    have b13 : (0 : Int) ≤ σ 87 0 ∧ σ 87 0 ≤ (100 : Int) := b13
    refine Exists.intro _ (And.intro rfl ?_)
    exact rfl
  refine And.intro (fun h1 => ?_) ?_
  · skip
    refine B rfl ?_
    refine And.intro (by omega) ?_
    intro z14 ez14 hz14
    have hz14 : ((-1) : Int) ≤ z14 ∧ z14 ≤ (1999 : Int) := hz14
    have p15 : BW σ 87 := (hp0).1.1
    have b16 := wrh_ p15 (i := 4) (by omega)
    have b16 : (0 : Int) ≤ σ 87 4 ∧ σ 87 4 ≤ (1300 : Int) := b16
    refine Exists.intro _ (And.intro rfl ?_)
    exact rfl
  refine And.intro (fun h1 => ?_) ?_
  · skip
    refine B rfl ?_
    intro z17 ez17 hz17
    have hz17 : (0 : Int) ≤ z17 ∧ z17 ≤ (1200 : Int) := hz17
    refine Exists.intro _ (And.intro rfl ?_)
    exact rfl
  refine And.intro (fun h1 => ?_) ?_
  · skip
    refine B rfl ?_
    refine And.intro (by omega) ?_
    intro z18 ez18 hz18
    have hz18 : ((-1) : Int) ≤ z18 ∧ z18 ≤ (1999 : Int) := hz18
    have p19 : BW σ 87 := (hp0).1.1
    have b20 := wrh_ p19 (i := 5) (by omega)
    have b20 : (0 : Int) ≤ σ 87 5 ∧ σ 87 5 ≤ (60 : Int) := b20
    refine Exists.intro _ (And.intro rfl ?_)
    exact rfl
  refine And.intro (fun h1 => ?_) ?_
  · skip
    refine B rfl ?_
    show WP_ X G Q 0 0 ad SHS_ σ 97 [(42, 86), (0, a1), (0, 0), (0, 0)] []
    refine wdrop_ (L' := [(42, 86), (9, 0), (0, 0), (0, 0)]) ⟨Or.inr rfl, ⟨Or.inl rfl, ⟨Or.inr rfl, ⟨Or.inr rfl, trivial⟩⟩⟩⟩ ?_
    have lp_97 : ∀ (nq_ : Nat) (v2 : Int) (v3 : Int), (0 ≤ v3) → (v3 ≤ 4) → (0 ≤ v2) → (v2 ≤ v3) → (4 - v3 : Int).toNat < nq_ → WP_ X G Q 0 0 ad SHS_ σ 97 [(42, 86), (9, 0), (0, v2), (0, v3)] [] := by
      intro nq_
      induction nq_ with
      | zero => intros; omega
      | succ nq_ ih_97 =>
        intro v2 v3 hi97_0 hi97_1 hi97_2 hi97_3 hm97
        refine B rfl ?_
        refine And.intro (fun h21 => ?_) (fun h21 => ?_)
        · skip
          refine B rfl ?_
          refine Exists.intro _ (And.intro rfl ?_)
          exact rfl
        · skip
          show WP_ X G Q 0 0 ad SHS_ σ 102 [(42, 86), (9, 0), (0, v2), (0, v3)] []
          refine B rfl ?_
          refine And.intro (by omega) ?_
          intro z22 ez22 hz22
          have hz22 : ((-1) : Int) ≤ z22 ∧ z22 ≤ (60 : Int) := hz22
          refine And.intro (fun h23 => ?_) (fun h23 => ?_)
          · skip
            refine B rfl ?_
            refine And.intro (by omega) ?_
            refine And.intro (by omega) ?_
            exact ih_97 (v2 + 1) (v3 + 1) (by show 0 ≤ (v3 + 1); omega) (by show (v3 + 1) ≤ 4; omega) (by show 0 ≤ (v2 + 1); omega) (by show (v2 + 1) ≤ (v3 + 1); omega) (by omega)
          · skip
            show WP_ X G Q 0 0 ad SHS_ σ 113 [(42, 86), (9, 0), (0, v2), (0, v3)] [(0, v2)]
            refine B rfl ?_
            refine B rfl ?_
            refine And.intro (by omega) ?_
            refine And.intro (by omega) ?_
            exact ih_97 (v2 + 0) (v3 + 1) (by show 0 ≤ (v3 + 1); omega) (by show (v3 + 1) ≤ 4; omega) (by show 0 ≤ (v2 + 0); omega) (by show (v2 + 0) ≤ (v3 + 1); omega) (by omega)
    exact lp_97 ((4 - 0 : Int).toNat + 1) 0 0 (by show 0 ≤ 0; omega) (by show 0 ≤ 4; omega) (by show 0 ≤ 0; omega) (by show 0 ≤ 0; omega) (by omega)
  exact True.intro
def as_G_X11_cut : Int × Int → List Sv_t := fun a => [(1, a.1), (0, a.2)]
def pre_G_X11_cut : Int × Int → Me_t → Prop := fun a σ => (0 ≤ a.2) ∧ (a.2 ≤ 3)
def post_G_X11_cut : Int × Int → Me_t → Int → Me_t → Prop := fun a σ z σ' => (σ = σ')
set_option maxHeartbeats 1500000 in
set_option maxRecDepth 100000 in
theorem ct_G_X11_cut (l : Launch) : CT_ l yX11_cut cX11_cut 4 (some .long) 0 0 as_G_X11_cut (rmL_) pre_G_X11_cut post_G_X11_cut := by
  refine ct_of (by decide) (fun _ => Nat.le_of_ble_eq_true rfl) ?_
  intro X G Q ad σ a hl hR E hG R hM hv hp
  obtain ⟨a0, a1⟩ := a
  have r_a0 : -9223372036854775808 ≤ a0 ∧ a0 ≤ 9223372036854775807 := hv (1, a0) (List.mem_of_getElem? (i := 0) rfl)
  have r_a1 : -2147483648 ≤ a1 ∧ a1 ≤ 2147483647 := hv (0, a1) (List.mem_of_getElem? (i := 1) rfl)
  have hp0 : 0 ≤ a1 := hp.1
  have hp1 : a1 ≤ 3 := hp.2
  have B := @bk_ X G Q 0 0 ad SHS_ RX11 cX11_cut 4 (some .long) flX11 plX11 knX11 [] _ _ none kX11_cut [] flX11_ok plX11_ok knX11_ok eX11_cut oX11_cut
    (fun _ h => absurd h List.not_mem_nil) R sok_no E
  show WP_ X G Q 0 0 ad SHS_ σ 0 [(1, a0), (9, 0), (0, a1), (9, 0)] []
  refine B rfl ?_
  have q8 := shl3_8 (b := a1) (by omega) (by omega)
  refine And.intro (by omega) ?_
  refine Exists.intro _ (And.intro rfl ?_)
  exact rfl
def as_G_X11_row : Int × Int × Int → List Sv_t := fun a => [(42, 86), (0, a.1), (0, a.2.1), (0, a.2.2)]
def pre_G_X11_row : Int × Int × Int → Me_t → Prop := fun a σ => True
def post_G_X11_row : Int × Int × Int → Me_t → Int → Me_t → Prop := fun a σ z σ' => ((¬ ((0 ≤ a.1 ∧ a.1 ≤ 3) ∧ (0 ≤ a.2.1 ∧ a.2.1 ≤ 3) ∧ a.2.2 ≤ 60) → z = -2) ∧ ((0 ≤ a.1 ∧ a.1 ≤ 3) ∧ (0 ≤ a.2.1 ∧ a.2.1 ≤ 3) ∧ a.2.2 ≤ 60 ∧ a.2.2 < 0 → z = -3) ∧ ((0 ≤ a.1 ∧ a.1 ≤ 3) ∧ (0 ≤ a.2.1 ∧ a.2.1 ≤ 3) ∧ a.2.2 ≤ 60 ∧ 0 ≤ a.2.2 → z = 0)) ∧ (z = 0 → σ' 102 a.1 = a.2.2 ∧ σ' 103 a.1 = a.2.1) ∧ (∀ j : Int, j ≠ a.1 → σ' 102 j = σ 102 j) ∧ (∀ j : Int, j ≠ a.1 → σ' 103 j = σ 103 j) ∧ (z = 0 ∨ ∀ k j : Int, σ' k j = σ k j) ∧ (∀ k j : Int, ¬ (k = 102 ∨ k = 103 ∨ k = 104) → σ' k j = σ k j)
set_option maxHeartbeats 1500000 in
set_option maxRecDepth 100000 in
theorem ct_G_X11_row (l : Launch) : CT_ l yX11_row cX11_row 5 (some .int) 2 45 as_G_X11_row (rmI_) pre_G_X11_row post_G_X11_row := by
  refine ct_of (by decide) (fun _ => Nat.le_of_ble_eq_true rfl) ?_
  intro X G Q ad σ a hl hR E hG R hM hv hp
  obtain ⟨a1, a2, a3⟩ := a
  have r_a1 : -2147483648 ≤ a1 ∧ a1 ≤ 2147483647 := hv (0, a1) (List.mem_of_getElem? (i := 1) rfl)
  have r_a2 : -2147483648 ≤ a2 ∧ a2 ≤ 2147483647 := hv (0, a2) (List.mem_of_getElem? (i := 2) rfl)
  have r_a3 : -2147483648 ≤ a3 ∧ a3 ≤ 2147483647 := hv (0, a3) (List.mem_of_getElem? (i := 3) rfl)
  have B := @bk_ X G Q 0 0 ad SHS_ RX11 cX11_row 5 (some .int) flX11 plX11 knX11 [(723, 1, TR_ as_G_X11_isSlot (rmI_) pre_G_X11_isSlot post_G_X11_isSlot), (159, 3, TR_ as_G_X11_in (rmI_) pre_G_X11_in post_G_X11_in)] _ _ none kX11_row [7, 19, 25, 32, 52, 59] flX11_ok plX11_ok knX11_ok eX11_row oX11_row
    (List.forall_mem_cons.mpr ⟨cok_s (n := 1) (idx := 361) E (ct_G_X11_isSlot X.2.1) (by rw [hR]; decide) (Nat.zero_le _) (Nat.zero_le _) hG ⟨by decide, by decide, by decide⟩ (fun _ => rfl) wl_X11_361 wt_X11_isSlot wn_X11 wc_X11_isSlot, List.forall_mem_cons.mpr ⟨cok_s (n := 3) (idx := 79) E (ct_G_X11_in X.2.1) (by rw [hR]; decide) (Nat.zero_le _) (Nat.zero_le _) hG ⟨by decide, by decide, by decide⟩ (fun _ => rfl) wl_X11_79 wt_X11_in wn_X11 wc_X11_in, fun _ h => absurd h List.not_mem_nil⟩⟩) R sok_no E
  show WP_ X G Q 0 0 ad SHS_ σ 0 [(42, 86), (0, a1), (0, a2), (0, a3), (9, 0)] []
  refine B rfl ?_
  refine Exists.intro a1 (And.intro rfl (And.intro True.intro ?_))
  rintro z1 m_ h2
  obtain rfl : σ = m_ := h2.2
  have h3 : (z1 = 1 ∧ 0 ≤ a1 ∧ a1 ≤ 3) ∨ (z1 = 0 ∧ ¬ (0 ≤ a1 ∧ a1 ≤ 3)) := h2.1
  refine And.intro (fun h4 => ?_) (fun h4 => ?_)
  · skip
    refine B rfl ?_
    refine Exists.intro _ (And.intro rfl ?_)
    exact (And.intro (by show (¬ ((0 ≤ a1 ∧ a1 ≤ 3) ∧ (0 ≤ a2 ∧ a2 ≤ 3) ∧ a3 ≤ 60) → (-2) = -2) ∧ ((0 ≤ a1 ∧ a1 ≤ 3) ∧ (0 ≤ a2 ∧ a2 ≤ 3) ∧ a3 ≤ 60 ∧ a3 < 0 → (-2) = -3) ∧ ((0 ≤ a1 ∧ a1 ≤ 3) ∧ (0 ≤ a2 ∧ a2 ≤ 3) ∧ a3 ≤ 60 ∧ 0 ≤ a3 → (-2) = 0); omega) (And.intro (by show (-2) = 0 → σ 102 a1 = a3 ∧ σ 103 a1 = a2; omega) (And.intro (by show ∀ j : Int, j ≠ a1 → σ 102 j = σ 102 j; intro j hj0; exact rfl) (And.intro (by show ∀ j : Int, j ≠ a1 → σ 103 j = σ 103 j; intro j hj0; exact rfl) (And.intro (by show (-2) = 0 ∨ ∀ k j : Int, σ k j = σ k j; exact Or.inr (fun _ _ => rfl)) (fun k j hk => rfl))))))
  · skip
    show WP_ X G Q 0 0 ad SHS_ σ 7 [(42, 86), (0, a1), (0, a2), (0, a3), (9, 0)] []
    refine B rfl ?_
    refine Exists.intro (a2, 0, 3) (And.intro rfl (And.intro True.intro ?_))
    rintro z5 m_ h6
    obtain rfl : σ = m_ := h6.2
    have h7 : (z5 = 1 ∧ 0 ≤ a2 ∧ a2 ≤ 3) ∨ (z5 = 0 ∧ ¬ (0 ≤ a2 ∧ a2 ≤ 3)) := h6.1
    refine And.intro (fun h8 => ?_) (fun h8 => ?_)
    · skip
      refine B rfl ?_
      refine Exists.intro _ (And.intro rfl ?_)
      exact (And.intro (by show (¬ ((0 ≤ a1 ∧ a1 ≤ 3) ∧ (0 ≤ a2 ∧ a2 ≤ 3) ∧ a3 ≤ 60) → (-2) = -2) ∧ ((0 ≤ a1 ∧ a1 ≤ 3) ∧ (0 ≤ a2 ∧ a2 ≤ 3) ∧ a3 ≤ 60 ∧ a3 < 0 → (-2) = -3) ∧ ((0 ≤ a1 ∧ a1 ≤ 3) ∧ (0 ≤ a2 ∧ a2 ≤ 3) ∧ a3 ≤ 60 ∧ 0 ≤ a3 → (-2) = 0); omega) (And.intro (by show (-2) = 0 → σ 102 a1 = a3 ∧ σ 103 a1 = a2; omega) (And.intro (by show ∀ j : Int, j ≠ a1 → σ 102 j = σ 102 j; intro j hj0; exact rfl) (And.intro (by show ∀ j : Int, j ≠ a1 → σ 103 j = σ 103 j; intro j hj0; exact rfl) (And.intro (by show (-2) = 0 ∨ ∀ k j : Int, σ k j = σ k j; exact Or.inr (fun _ _ => rfl)) (fun k j hk => rfl))))))
    · skip
      show WP_ X G Q 0 0 ad SHS_ σ 19 [(42, 86), (0, a1), (0, a2), (0, a3), (9, 0)] []
      refine B rfl ?_
      refine And.intro (fun h9 => ?_) (fun h9 => ?_)
      · skip
        refine B rfl ?_
        refine And.intro (fun h10 => ?_) (fun h10 => ?_)
        · skip
          refine B rfl ?_
          refine And.intro (by omega) ?_
          refine And.intro (by show ((-1) : Int) ≤ _ ∧ _ ≤ (60 : Int); omega) ?_
          intro σ11 e12
          refine And.intro (by omega) ?_
          refine And.intro (by show (0 : Int) ≤ _ ∧ _ ≤ (3 : Int); omega) ?_
          intro σ13 e14
          show WP_ X G Q 0 0 ad SHS_ σ13 52 [(42, 86), (0, a1), (0, a2), (0, a3), (0, 0)] []
          refine wdrop_ (L' := [(42, 86), (0, a1), (9, 0), (9, 0), (0, 0)]) ⟨Or.inr rfl, ⟨Or.inr rfl, ⟨Or.inl rfl, ⟨Or.inl rfl, ⟨Or.inr rfl, trivial⟩⟩⟩⟩⟩ ?_
          have lp_52 : ∀ (nq_ : Nat) (v4 : Int) (τ52 : Me_t), (∀ k j : Int, ¬ (k = 102 ∨ k = 103 ∨ k = 104) → τ52 k j = σ k j) → (0 ≤ v4) → (v4 ≤ 60) → (τ52 102 a1 = a3) → (τ52 103 a1 = a2) → (∀ j : Int, j ≠ a1 → τ52 102 j = σ 102 j) → (∀ j : Int, j ≠ a1 → τ52 103 j = σ 103 j) → (60 - v4 : Int).toNat < nq_ → WP_ X G Q 0 0 ad SHS_ τ52 52 [(42, 86), (0, a1), (9, 0), (9, 0), (0, v4)] [] := by
            intro nq_
            induction nq_ with
            | zero => intros; omega
            | succ nq_ ih_52 =>
              intro v4 τ52 hf52 hi52_0 hi52_1 hi52_2 hi52_3 hi52_4 hi52_5 hm52
              refine B rfl ?_
              refine And.intro (fun h15 => ?_) (fun h15 => ?_)
              · skip
                refine B rfl ?_
                refine Exists.intro _ (And.intro rfl ?_)
                exact (And.intro (by show (¬ ((0 ≤ a1 ∧ a1 ≤ 3) ∧ (0 ≤ a2 ∧ a2 ≤ 3) ∧ a3 ≤ 60) → 0 = -2) ∧ ((0 ≤ a1 ∧ a1 ≤ 3) ∧ (0 ≤ a2 ∧ a2 ≤ 3) ∧ a3 ≤ 60 ∧ a3 < 0 → 0 = -3) ∧ ((0 ≤ a1 ∧ a1 ≤ 3) ∧ (0 ≤ a2 ∧ a2 ≤ 3) ∧ a3 ≤ 60 ∧ 0 ≤ a3 → 0 = 0); omega) (And.intro (by show 0 = 0 → τ52 102 a1 = a3 ∧ τ52 103 a1 = a2; omega) (And.intro (by show ∀ j : Int, j ≠ a1 → τ52 102 j = σ 102 j; exact hi52_4) (And.intro (by show ∀ j : Int, j ≠ a1 → τ52 103 j = σ 103 j; exact hi52_5) (And.intro (by show 0 = 0 ∨ ∀ k j : Int, τ52 k j = σ k j; exact Or.inl rfl) (fun k j hk => (hf52 _ _ (by omega))))))))
              · skip
                show WP_ X G Q 0 0 ad SHS_ τ52 59 [(42, 86), (0, a1), (9, 0), (9, 0), (0, v4)] []
                refine B rfl ?_
                refine And.intro (by omega) ?_
                refine And.intro (by omega) ?_
                refine And.intro (by omega) ?_
                intro σ16 e17
                refine And.intro (by omega) ?_
                try have t18 : σ16 102 a1 = τ52 102 a1 := (ups_r e17 (by omega))
                try have t19 : σ16 103 a1 = τ52 103 a1 := (ups_r e17 (by omega))
                exact ih_52 (v4 + 1) σ16 (fun k j hk => ((ups_r e17 (by omega)).trans (hf52 _ _ (by omega)))) (by show 0 ≤ (v4 + 1); omega) (by show (v4 + 1) ≤ 60; omega) (by show σ16 102 a1 = a3; omega) (by show σ16 103 a1 = a2; omega) (by show ∀ j : Int, j ≠ a1 → σ16 102 j = σ 102 j; intro j hj; exact ((ups_r e17 (by omega))).trans (hi52_4 j hj)) (by show ∀ j : Int, j ≠ a1 → σ16 103 j = σ 103 j; intro j hj; exact ((ups_r e17 (by omega))).trans (hi52_5 j hj)) (by omega)
          have t20 : σ13 102 a1 = a3 := ((ups_r e14 (by omega))).trans (ups_v e12)
          have t21 : σ13 103 a1 = a2 := ups_v e14
          exact lp_52 ((60 - 0 : Int).toNat + 1) 0 σ13 (fun k j hk => ((ups_r e14 (by omega)).trans (ups_r e12 (by omega)))) (by show 0 ≤ 0; omega) (by show 0 ≤ 60; omega) (by show σ13 102 a1 = a3; omega) (by show σ13 103 a1 = a2; omega) (by show ∀ j : Int, j ≠ a1 → σ13 102 j = σ 102 j; intro j hj; exact ((ups_r e14 (by omega)).trans (ups_r e12 (by omega)))) (by show ∀ j : Int, j ≠ a1 → σ13 103 j = σ 103 j; intro j hj; exact ((ups_r e14 (by omega)).trans (ups_r e12 (by omega)))) (by omega)
        · skip
          show WP_ X G Q 0 0 ad SHS_ σ 32 [(42, 86), (0, a1), (0, a2), (0, a3), (9, 0)] []
          refine B rfl ?_
          refine Exists.intro _ (And.intro rfl ?_)
          exact (And.intro (by show (¬ ((0 ≤ a1 ∧ a1 ≤ 3) ∧ (0 ≤ a2 ∧ a2 ≤ 3) ∧ a3 ≤ 60) → (-3) = -2) ∧ ((0 ≤ a1 ∧ a1 ≤ 3) ∧ (0 ≤ a2 ∧ a2 ≤ 3) ∧ a3 ≤ 60 ∧ a3 < 0 → (-3) = -3) ∧ ((0 ≤ a1 ∧ a1 ≤ 3) ∧ (0 ≤ a2 ∧ a2 ≤ 3) ∧ a3 ≤ 60 ∧ 0 ≤ a3 → (-3) = 0); omega) (And.intro (by show (-3) = 0 → σ 102 a1 = a3 ∧ σ 103 a1 = a2; omega) (And.intro (by show ∀ j : Int, j ≠ a1 → σ 102 j = σ 102 j; intro j hj0; exact rfl) (And.intro (by show ∀ j : Int, j ≠ a1 → σ 103 j = σ 103 j; intro j hj0; exact rfl) (And.intro (by show (-3) = 0 ∨ ∀ k j : Int, σ k j = σ k j; exact Or.inr (fun _ _ => rfl)) (fun k j hk => rfl))))))
      · skip
        show WP_ X G Q 0 0 ad SHS_ σ 25 [(42, 86), (0, a1), (0, a2), (0, a3), (9, 0)] []
        refine B rfl ?_
        refine Exists.intro _ (And.intro rfl ?_)
        exact (And.intro (by show (¬ ((0 ≤ a1 ∧ a1 ≤ 3) ∧ (0 ≤ a2 ∧ a2 ≤ 3) ∧ a3 ≤ 60) → (-2) = -2) ∧ ((0 ≤ a1 ∧ a1 ≤ 3) ∧ (0 ≤ a2 ∧ a2 ≤ 3) ∧ a3 ≤ 60 ∧ a3 < 0 → (-2) = -3) ∧ ((0 ≤ a1 ∧ a1 ≤ 3) ∧ (0 ≤ a2 ∧ a2 ≤ 3) ∧ a3 ≤ 60 ∧ 0 ≤ a3 → (-2) = 0); omega) (And.intro (by show (-2) = 0 → σ 102 a1 = a3 ∧ σ 103 a1 = a2; omega) (And.intro (by show ∀ j : Int, j ≠ a1 → σ 102 j = σ 102 j; intro j hj0; exact rfl) (And.intro (by show ∀ j : Int, j ≠ a1 → σ 103 j = σ 103 j; intro j hj0; exact rfl) (And.intro (by show (-2) = 0 ∨ ∀ k j : Int, σ k j = σ k j; exact Or.inr (fun _ _ => rfl)) (fun k j hk => rfl))))))
def as_G_X11_write : Int × Int × Int → List Sv_t := fun a => [(42, 86), (0, a.1), (0, a.2.1), (1, a.2.2)]
def pre_G_X11_write : Int × Int × Int → Me_t → Prop := fun a σ => True
def post_G_X11_write : Int × Int × Int → Me_t → Int → Me_t → Prop := fun a σ z σ' => ((¬ (0 ≤ a.1 ∧ a.1 ≤ 3) → z = -2) ∧ ((0 ≤ a.1 ∧ a.1 ≤ 3) ∧ σ 102 a.1 = -1 → z = -6) ∧ ((0 ≤ a.1 ∧ a.1 ≤ 3) ∧ σ 102 a.1 ≠ -1 ∧ ¬ (0 ≤ a.2.1 ∧ a.2.1 < σ 102 a.1) → z = -7) ∧ ((0 ≤ a.1 ∧ a.1 ≤ 3) ∧ σ 102 a.1 ≠ -1 ∧ (0 ≤ a.2.1 ∧ a.2.1 < σ 102 a.1) → z = 0)) ∧ (∀ k j : Int, ¬ (k = 104) → σ' k j = σ k j)
set_option maxHeartbeats 1500000 in
set_option maxRecDepth 100000 in
theorem ct_G_X11_write (l : Launch) : CT_ l yX11_write cX11_write 5 (some .int) 2 45 as_G_X11_write (rmI_) pre_G_X11_write post_G_X11_write := by
  refine ct_of (by decide) (fun _ => Nat.le_of_ble_eq_true rfl) ?_
  intro X G Q ad σ a hl hR E hG R hM hv hp
  obtain ⟨a1, a2, a3⟩ := a
  have r_a1 : -2147483648 ≤ a1 ∧ a1 ≤ 2147483647 := hv (0, a1) (List.mem_of_getElem? (i := 1) rfl)
  have r_a2 : -2147483648 ≤ a2 ∧ a2 ≤ 2147483647 := hv (0, a2) (List.mem_of_getElem? (i := 2) rfl)
  have r_a3 : -9223372036854775808 ≤ a3 ∧ a3 ≤ 9223372036854775807 := hv (1, a3) (List.mem_of_getElem? (i := 3) rfl)
  have B := @bk_ X G Q 0 0 ad SHS_ RX11 cX11_write 5 (some .int) flX11 plX11 knX11 [(723, 1, TR_ as_G_X11_isSlot (rmI_) pre_G_X11_isSlot post_G_X11_isSlot), (159, 3, TR_ as_G_X11_in (rmI_) pre_G_X11_in post_G_X11_in), (977, 2, TR_ as_G_X11_cut (rmL_) pre_G_X11_cut post_G_X11_cut)] _ _ none kX11_write [] flX11_ok plX11_ok knX11_ok eX11_write oX11_write
    (List.forall_mem_cons.mpr ⟨cok_s (n := 1) (idx := 361) E (ct_G_X11_isSlot X.2.1) (by rw [hR]; decide) (Nat.zero_le _) (Nat.zero_le _) hG ⟨by decide, by decide, by decide⟩ (fun _ => rfl) wl_X11_361 wt_X11_isSlot wn_X11 wc_X11_isSlot, List.forall_mem_cons.mpr ⟨cok_s (n := 3) (idx := 79) E (ct_G_X11_in X.2.1) (by rw [hR]; decide) (Nat.zero_le _) (Nat.zero_le _) hG ⟨by decide, by decide, by decide⟩ (fun _ => rfl) wl_X11_79 wt_X11_in wn_X11 wc_X11_in, List.forall_mem_cons.mpr ⟨cok_s (n := 2) (idx := 488) E (ct_G_X11_cut X.2.1) (by rw [hR]; decide) (Nat.zero_le _) (Nat.zero_le _) hG ⟨by decide, by decide, by decide⟩ (fun _ => rfl) wl_X11_488 wt_X11_cut wn_X11 wc_X11_cut, fun _ h => absurd h List.not_mem_nil⟩⟩⟩) R sok_no E
  show WP_ X G Q 0 0 ad SHS_ σ 0 [(42, 86), (0, a1), (0, a2), (1, a3), (9, 0)] []
  refine B rfl ?_
  refine Exists.intro a1 (And.intro rfl (And.intro True.intro ?_))
  rintro z1 m_ h2
  obtain rfl : σ = m_ := h2.2
  have h3 : (z1 = 1 ∧ 0 ≤ a1 ∧ a1 ≤ 3) ∨ (z1 = 0 ∧ ¬ (0 ≤ a1 ∧ a1 ≤ 3)) := h2.1
  refine And.intro (fun h4 => ?_) (fun h4 => ?_)
  · skip
    refine B rfl ?_
    refine And.intro (by omega) ?_
    intro z5 ez5 hz5
    have hz5 : ((-1) : Int) ≤ z5 ∧ z5 ≤ (60 : Int) := hz5
    refine And.intro (fun h6 => ?_) (fun h6 => ?_)
    · skip
      refine B rfl ?_
      refine And.intro (by omega) ?_
      intro z7 ez7 hz7
      have q8 : z5 = z7 := ez5.trans ez7.symm
      subst q8
      refine And.intro (by omega) ?_
      refine Exists.intro (a2, 0, z5 - 1) (And.intro rfl (And.intro True.intro ?_))
      rintro z9 m_ h10
      obtain rfl : σ = m_ := h10.2
      have h11 : (z9 = 1 ∧ 0 ≤ a2 ∧ a2 ≤ (z5 - 1)) ∨ (z9 = 0 ∧ ¬ (0 ≤ a2 ∧ a2 ≤ (z5 - 1))) := h10.1
      refine And.intro (fun h12 => ?_) (fun h12 => ?_)
      · skip
        refine B rfl ?_
        refine And.intro (by omega) ?_
        refine And.intro (by omega) ?_
        refine And.intro (by omega) ?_
        intro z13 ez13 hz13
        have hz13 : (0 : Int) ≤ z13 ∧ z13 ≤ (3 : Int) := hz13
        refine Exists.intro (a3, z13) (And.intro rfl (And.intro (And.intro (by show 0 ≤ z13; omega) (by show z13 ≤ 3; omega)) ?_))
        rintro z14 m_ h15
        obtain rfl : σ = m_ := h15
        refine And.intro (by omega) ?_
        intro σ16 e17
        refine Exists.intro _ (And.intro rfl ?_)
        exact (And.intro (by show (¬ (0 ≤ a1 ∧ a1 ≤ 3) → 0 = -2) ∧ ((0 ≤ a1 ∧ a1 ≤ 3) ∧ σ 102 a1 = -1 → 0 = -6) ∧ ((0 ≤ a1 ∧ a1 ≤ 3) ∧ σ 102 a1 ≠ -1 ∧ ¬ (0 ≤ a2 ∧ a2 < σ 102 a1) → 0 = -7) ∧ ((0 ≤ a1 ∧ a1 ≤ 3) ∧ σ 102 a1 ≠ -1 ∧ (0 ≤ a2 ∧ a2 < σ 102 a1) → 0 = 0); omega) (fun k j hk => (ups_r e17 (by omega))))
      · skip
        refine Exists.intro _ (And.intro rfl ?_)
        exact (And.intro (by show (¬ (0 ≤ a1 ∧ a1 ≤ 3) → (-7) = -2) ∧ ((0 ≤ a1 ∧ a1 ≤ 3) ∧ σ 102 a1 = -1 → (-7) = -6) ∧ ((0 ≤ a1 ∧ a1 ≤ 3) ∧ σ 102 a1 ≠ -1 ∧ ¬ (0 ≤ a2 ∧ a2 < σ 102 a1) → (-7) = -7) ∧ ((0 ≤ a1 ∧ a1 ≤ 3) ∧ σ 102 a1 ≠ -1 ∧ (0 ≤ a2 ∧ a2 < σ 102 a1) → (-7) = 0); omega) (fun k j hk => rfl))
    · skip
      refine Exists.intro _ (And.intro rfl ?_)
      exact (And.intro (by show (¬ (0 ≤ a1 ∧ a1 ≤ 3) → (-6) = -2) ∧ ((0 ≤ a1 ∧ a1 ≤ 3) ∧ σ 102 a1 = -1 → (-6) = -6) ∧ ((0 ≤ a1 ∧ a1 ≤ 3) ∧ σ 102 a1 ≠ -1 ∧ ¬ (0 ≤ a2 ∧ a2 < σ 102 a1) → (-6) = -7) ∧ ((0 ≤ a1 ∧ a1 ≤ 3) ∧ σ 102 a1 ≠ -1 ∧ (0 ≤ a2 ∧ a2 < σ 102 a1) → (-6) = 0); omega) (fun k j hk => rfl))
  · skip
    refine Exists.intro _ (And.intro rfl ?_)
    exact (And.intro (by show (¬ (0 ≤ a1 ∧ a1 ≤ 3) → (-2) = -2) ∧ ((0 ≤ a1 ∧ a1 ≤ 3) ∧ σ 102 a1 = -1 → (-2) = -6) ∧ ((0 ≤ a1 ∧ a1 ≤ 3) ∧ σ 102 a1 ≠ -1 ∧ ¬ (0 ≤ a2 ∧ a2 < σ 102 a1) → (-2) = -7) ∧ ((0 ≤ a1 ∧ a1 ≤ 3) ∧ σ 102 a1 ≠ -1 ∧ (0 ≤ a2 ∧ a2 < σ 102 a1) → (-2) = 0); omega) (fun k j hk => rfl))
def as_G_X11_paste : Int × Int × Int × Int × Int → List Sv_t := fun a => [(42, 86), (0, a.1), (0, a.2.1), (0, a.2.2.1), (0, a.2.2.2.1), (0, a.2.2.2.2)]
def pre_G_X11_paste : Int × Int × Int × Int × Int → Me_t → Prop := fun a σ => True
def post_G_X11_paste : Int × Int × Int × Int × Int → Me_t → Int → Me_t → Prop := fun a σ z σ' => ((¬ ((0 ≤ a.1 ∧ a.1 ≤ 3) ∧ (0 ≤ a.2.2.1 ∧ a.2.2.1 ≤ 3)) → z = -2)) ∧ (((0 ≤ a.1 ∧ a.1 ≤ 3) ∧ (0 ≤ a.2.2.1 ∧ a.2.2.1 ≤ 3)) ∧ ¬ (σ 102 a.1 ≠ -1 ∧ σ 102 a.2.2.1 ≠ -1) → z = -6) ∧ (((0 ≤ a.1 ∧ a.1 ≤ 3) ∧ (0 ≤ a.2.2.1 ∧ a.2.2.1 ≤ 3)) ∧ (σ 102 a.1 ≠ -1 ∧ σ 102 a.2.2.1 ≠ -1) ∧ ¬ (σ 103 a.1 = σ 103 a.2.2.1) → z = -8) ∧ (((0 ≤ a.1 ∧ a.1 ≤ 3) ∧ (0 ≤ a.2.2.1 ∧ a.2.2.1 ≤ 3)) ∧ (σ 102 a.1 ≠ -1 ∧ σ 102 a.2.2.1 ≠ -1) ∧ σ 103 a.1 = σ 103 a.2.2.1 ∧ ¬ ((0 ≤ a.2.1 ∧ 0 ≤ a.2.2.2.2 ∧ a.2.1 + a.2.2.2.2 ≤ σ 102 a.1) ∧ (0 ≤ a.2.2.2.1 ∧ 0 ≤ a.2.2.2.2 ∧ a.2.2.2.1 + a.2.2.2.2 ≤ σ 102 a.2.2.1)) → z = -7) ∧ (((0 ≤ a.1 ∧ a.1 ≤ 3) ∧ (0 ≤ a.2.2.1 ∧ a.2.2.1 ≤ 3)) ∧ (σ 102 a.1 ≠ -1 ∧ σ 102 a.2.2.1 ≠ -1) ∧ σ 103 a.1 = σ 103 a.2.2.1 ∧ ((0 ≤ a.2.1 ∧ 0 ≤ a.2.2.2.2 ∧ a.2.1 + a.2.2.2.2 ≤ σ 102 a.1) ∧ (0 ≤ a.2.2.2.1 ∧ 0 ≤ a.2.2.2.2 ∧ a.2.2.2.1 + a.2.2.2.2 ≤ σ 102 a.2.2.1)) → z = 0) ∧ (∀ k j : Int, ¬ (k = 104 ∨ k = 105) → σ' k j = σ k j)
set_option maxHeartbeats 1500000 in
set_option maxRecDepth 100000 in
theorem ct_G_X11_paste (l : Launch) : CT_ l yX11_paste cX11_paste 7 (some .int) 2 45 as_G_X11_paste (rmI_) pre_G_X11_paste post_G_X11_paste := by
  refine ct_of (by decide) (fun _ => Nat.le_of_ble_eq_true rfl) ?_
  intro X G Q ad σ a hl hR E hG R hM hv hp
  obtain ⟨a1, a2, a3, a4, a5⟩ := a
  have r_a1 : -2147483648 ≤ a1 ∧ a1 ≤ 2147483647 := hv (0, a1) (List.mem_of_getElem? (i := 1) rfl)
  have r_a2 : -2147483648 ≤ a2 ∧ a2 ≤ 2147483647 := hv (0, a2) (List.mem_of_getElem? (i := 2) rfl)
  have r_a3 : -2147483648 ≤ a3 ∧ a3 ≤ 2147483647 := hv (0, a3) (List.mem_of_getElem? (i := 3) rfl)
  have r_a4 : -2147483648 ≤ a4 ∧ a4 ≤ 2147483647 := hv (0, a4) (List.mem_of_getElem? (i := 4) rfl)
  have r_a5 : -2147483648 ≤ a5 ∧ a5 ≤ 2147483647 := hv (0, a5) (List.mem_of_getElem? (i := 5) rfl)
  have B := @bk_ X G Q 0 0 ad SHS_ RX11 cX11_paste 7 (some .int) flX11 plX11 knX11 [(723, 1, TR_ as_G_X11_isSlot (rmI_) pre_G_X11_isSlot post_G_X11_isSlot)] _ _ none kX11_paste [7, 14, 27, 37, 55, 62, 67, 72, 89, 107, 113, 120, 150, 157] flX11_ok plX11_ok knX11_ok eX11_paste oX11_paste
    (List.forall_mem_cons.mpr ⟨cok_s (n := 1) (idx := 361) E (ct_G_X11_isSlot X.2.1) (by rw [hR]; decide) (Nat.zero_le _) (Nat.zero_le _) hG ⟨by decide, by decide, by decide⟩ (fun _ => rfl) wl_X11_361 wt_X11_isSlot wn_X11 wc_X11_isSlot, fun _ h => absurd h List.not_mem_nil⟩) R sok_no E
  show WP_ X G Q 0 0 ad SHS_ σ 0 [(42, 86), (0, a1), (0, a2), (0, a3), (0, a4), (0, a5), (9, 0)] []
  refine B rfl ?_
  refine Exists.intro a1 (And.intro rfl (And.intro True.intro ?_))
  rintro z1 m_ h2
  obtain rfl : σ = m_ := h2.2
  have h3 : (z1 = 1 ∧ 0 ≤ a1 ∧ a1 ≤ 3) ∨ (z1 = 0 ∧ ¬ (0 ≤ a1 ∧ a1 ≤ 3)) := h2.1
  refine And.intro (fun h4 => ?_) (fun h4 => ?_)
  · skip
    refine B rfl ?_
    refine Exists.intro _ (And.intro rfl ?_)
    exact (And.intro (by show (¬ ((0 ≤ a1 ∧ a1 ≤ 3) ∧ (0 ≤ a3 ∧ a3 ≤ 3)) → (-2) = -2); omega) (And.intro (by show ((0 ≤ a1 ∧ a1 ≤ 3) ∧ (0 ≤ a3 ∧ a3 ≤ 3)) ∧ ¬ (σ 102 a1 ≠ -1 ∧ σ 102 a3 ≠ -1) → (-2) = -6; omega) (And.intro (by show ((0 ≤ a1 ∧ a1 ≤ 3) ∧ (0 ≤ a3 ∧ a3 ≤ 3)) ∧ (σ 102 a1 ≠ -1 ∧ σ 102 a3 ≠ -1) ∧ ¬ (σ 103 a1 = σ 103 a3) → (-2) = -8; omega) (And.intro (by show ((0 ≤ a1 ∧ a1 ≤ 3) ∧ (0 ≤ a3 ∧ a3 ≤ 3)) ∧ (σ 102 a1 ≠ -1 ∧ σ 102 a3 ≠ -1) ∧ σ 103 a1 = σ 103 a3 ∧ ¬ ((0 ≤ a2 ∧ 0 ≤ a5 ∧ a2 + a5 ≤ σ 102 a1) ∧ (0 ≤ a4 ∧ 0 ≤ a5 ∧ a4 + a5 ≤ σ 102 a3)) → (-2) = -7; omega) (And.intro (by show ((0 ≤ a1 ∧ a1 ≤ 3) ∧ (0 ≤ a3 ∧ a3 ≤ 3)) ∧ (σ 102 a1 ≠ -1 ∧ σ 102 a3 ≠ -1) ∧ σ 103 a1 = σ 103 a3 ∧ ((0 ≤ a2 ∧ 0 ≤ a5 ∧ a2 + a5 ≤ σ 102 a1) ∧ (0 ≤ a4 ∧ 0 ≤ a5 ∧ a4 + a5 ≤ σ 102 a3)) → (-2) = 0; omega) (fun k j hk => rfl))))))
  · skip
    show WP_ X G Q 0 0 ad SHS_ σ 7 [(42, 86), (0, a1), (0, a2), (0, a3), (0, a4), (0, a5), (9, 0)] []
    refine B rfl ?_
    refine Exists.intro a3 (And.intro rfl (And.intro True.intro ?_))
    rintro z5 m_ h6
    obtain rfl : σ = m_ := h6.2
    have h7 : (z5 = 1 ∧ 0 ≤ a3 ∧ a3 ≤ 3) ∨ (z5 = 0 ∧ ¬ (0 ≤ a3 ∧ a3 ≤ 3)) := h6.1
    refine And.intro (fun h8 => ?_) (fun h8 => ?_)
    · skip
      refine B rfl ?_
      refine And.intro (by omega) ?_
      intro z9 ez9 hz9
      have hz9 : ((-1) : Int) ≤ z9 ∧ z9 ≤ (60 : Int) := hz9
      refine And.intro (fun h10 => ?_) (fun h10 => ?_)
      · skip
        refine B rfl ?_
        refine Exists.intro _ (And.intro rfl ?_)
        exact (And.intro (by show (¬ ((0 ≤ a1 ∧ a1 ≤ 3) ∧ (0 ≤ a3 ∧ a3 ≤ 3)) → (-6) = -2); omega) (And.intro (by show ((0 ≤ a1 ∧ a1 ≤ 3) ∧ (0 ≤ a3 ∧ a3 ≤ 3)) ∧ ¬ (σ 102 a1 ≠ -1 ∧ σ 102 a3 ≠ -1) → (-6) = -6; omega) (And.intro (by show ((0 ≤ a1 ∧ a1 ≤ 3) ∧ (0 ≤ a3 ∧ a3 ≤ 3)) ∧ (σ 102 a1 ≠ -1 ∧ σ 102 a3 ≠ -1) ∧ ¬ (σ 103 a1 = σ 103 a3) → (-6) = -8; omega) (And.intro (by show ((0 ≤ a1 ∧ a1 ≤ 3) ∧ (0 ≤ a3 ∧ a3 ≤ 3)) ∧ (σ 102 a1 ≠ -1 ∧ σ 102 a3 ≠ -1) ∧ σ 103 a1 = σ 103 a3 ∧ ¬ ((0 ≤ a2 ∧ 0 ≤ a5 ∧ a2 + a5 ≤ σ 102 a1) ∧ (0 ≤ a4 ∧ 0 ≤ a5 ∧ a4 + a5 ≤ σ 102 a3)) → (-6) = -7; omega) (And.intro (by show ((0 ≤ a1 ∧ a1 ≤ 3) ∧ (0 ≤ a3 ∧ a3 ≤ 3)) ∧ (σ 102 a1 ≠ -1 ∧ σ 102 a3 ≠ -1) ∧ σ 103 a1 = σ 103 a3 ∧ ((0 ≤ a2 ∧ 0 ≤ a5 ∧ a2 + a5 ≤ σ 102 a1) ∧ (0 ≤ a4 ∧ 0 ≤ a5 ∧ a4 + a5 ≤ σ 102 a3)) → (-6) = 0; omega) (fun k j hk => rfl))))))
      · skip
        show WP_ X G Q 0 0 ad SHS_ σ 27 [(42, 86), (0, a1), (0, a2), (0, a3), (0, a4), (0, a5), (9, 0)] []
        refine B rfl ?_
        refine And.intro (by omega) ?_
        intro z11 ez11 hz11
        have hz11 : ((-1) : Int) ≤ z11 ∧ z11 ≤ (60 : Int) := hz11
        refine And.intro (fun h12 => ?_) (fun h12 => ?_)
        · skip
          refine B rfl ?_
          refine And.intro (by omega) ?_
          intro z13 ez13 hz13
          have hz13 : (0 : Int) ≤ z13 ∧ z13 ≤ (3 : Int) := hz13
          refine And.intro (by omega) ?_
          intro z14 ez14 hz14
          have hz14 : (0 : Int) ≤ z14 ∧ z14 ≤ (3 : Int) := hz14
          refine And.intro (fun h15 => ?_) (fun h15 => ?_)
          · skip
            refine B rfl ?_
            refine And.intro (fun h16 => ?_) (fun h16 => ?_)
            · skip
              refine B rfl ?_
              refine Exists.intro _ (And.intro rfl ?_)
              exact (And.intro (by show (¬ ((0 ≤ a1 ∧ a1 ≤ 3) ∧ (0 ≤ a3 ∧ a3 ≤ 3)) → (-7) = -2); omega) (And.intro (by show ((0 ≤ a1 ∧ a1 ≤ 3) ∧ (0 ≤ a3 ∧ a3 ≤ 3)) ∧ ¬ (σ 102 a1 ≠ -1 ∧ σ 102 a3 ≠ -1) → (-7) = -6; omega) (And.intro (by show ((0 ≤ a1 ∧ a1 ≤ 3) ∧ (0 ≤ a3 ∧ a3 ≤ 3)) ∧ (σ 102 a1 ≠ -1 ∧ σ 102 a3 ≠ -1) ∧ ¬ (σ 103 a1 = σ 103 a3) → (-7) = -8; omega) (And.intro (by show ((0 ≤ a1 ∧ a1 ≤ 3) ∧ (0 ≤ a3 ∧ a3 ≤ 3)) ∧ (σ 102 a1 ≠ -1 ∧ σ 102 a3 ≠ -1) ∧ σ 103 a1 = σ 103 a3 ∧ ¬ ((0 ≤ a2 ∧ 0 ≤ a5 ∧ a2 + a5 ≤ σ 102 a1) ∧ (0 ≤ a4 ∧ 0 ≤ a5 ∧ a4 + a5 ≤ σ 102 a3)) → (-7) = -7; omega) (And.intro (by show ((0 ≤ a1 ∧ a1 ≤ 3) ∧ (0 ≤ a3 ∧ a3 ≤ 3)) ∧ (σ 102 a1 ≠ -1 ∧ σ 102 a3 ≠ -1) ∧ σ 103 a1 = σ 103 a3 ∧ ((0 ≤ a2 ∧ 0 ≤ a5 ∧ a2 + a5 ≤ σ 102 a1) ∧ (0 ≤ a4 ∧ 0 ≤ a5 ∧ a4 + a5 ≤ σ 102 a3)) → (-7) = 0; omega) (fun k j hk => rfl))))))
            · skip
              show WP_ X G Q 0 0 ad SHS_ σ 62 [(42, 86), (0, a1), (0, a2), (0, a3), (0, a4), (0, a5), (9, 0)] []
              refine B rfl ?_
              refine And.intro (fun h17 => ?_) (fun h17 => ?_)
              · skip
                refine B rfl ?_
                refine Exists.intro _ (And.intro rfl ?_)
                exact (And.intro (by show (¬ ((0 ≤ a1 ∧ a1 ≤ 3) ∧ (0 ≤ a3 ∧ a3 ≤ 3)) → (-7) = -2); omega) (And.intro (by show ((0 ≤ a1 ∧ a1 ≤ 3) ∧ (0 ≤ a3 ∧ a3 ≤ 3)) ∧ ¬ (σ 102 a1 ≠ -1 ∧ σ 102 a3 ≠ -1) → (-7) = -6; omega) (And.intro (by show ((0 ≤ a1 ∧ a1 ≤ 3) ∧ (0 ≤ a3 ∧ a3 ≤ 3)) ∧ (σ 102 a1 ≠ -1 ∧ σ 102 a3 ≠ -1) ∧ ¬ (σ 103 a1 = σ 103 a3) → (-7) = -8; omega) (And.intro (by show ((0 ≤ a1 ∧ a1 ≤ 3) ∧ (0 ≤ a3 ∧ a3 ≤ 3)) ∧ (σ 102 a1 ≠ -1 ∧ σ 102 a3 ≠ -1) ∧ σ 103 a1 = σ 103 a3 ∧ ¬ ((0 ≤ a2 ∧ 0 ≤ a5 ∧ a2 + a5 ≤ σ 102 a1) ∧ (0 ≤ a4 ∧ 0 ≤ a5 ∧ a4 + a5 ≤ σ 102 a3)) → (-7) = -7; omega) (And.intro (by show ((0 ≤ a1 ∧ a1 ≤ 3) ∧ (0 ≤ a3 ∧ a3 ≤ 3)) ∧ (σ 102 a1 ≠ -1 ∧ σ 102 a3 ≠ -1) ∧ σ 103 a1 = σ 103 a3 ∧ ((0 ≤ a2 ∧ 0 ≤ a5 ∧ a2 + a5 ≤ σ 102 a1) ∧ (0 ≤ a4 ∧ 0 ≤ a5 ∧ a4 + a5 ≤ σ 102 a3)) → (-7) = 0; omega) (fun k j hk => rfl))))))
              · skip
                show WP_ X G Q 0 0 ad SHS_ σ 67 [(42, 86), (0, a1), (0, a2), (0, a3), (0, a4), (0, a5), (9, 0)] []
                refine B rfl ?_
                refine And.intro (fun h18 => ?_) (fun h18 => ?_)
                · skip
                  refine B rfl ?_
                  refine Exists.intro _ (And.intro rfl ?_)
                  exact (And.intro (by show (¬ ((0 ≤ a1 ∧ a1 ≤ 3) ∧ (0 ≤ a3 ∧ a3 ≤ 3)) → (-7) = -2); omega) (And.intro (by show ((0 ≤ a1 ∧ a1 ≤ 3) ∧ (0 ≤ a3 ∧ a3 ≤ 3)) ∧ ¬ (σ 102 a1 ≠ -1 ∧ σ 102 a3 ≠ -1) → (-7) = -6; omega) (And.intro (by show ((0 ≤ a1 ∧ a1 ≤ 3) ∧ (0 ≤ a3 ∧ a3 ≤ 3)) ∧ (σ 102 a1 ≠ -1 ∧ σ 102 a3 ≠ -1) ∧ ¬ (σ 103 a1 = σ 103 a3) → (-7) = -8; omega) (And.intro (by show ((0 ≤ a1 ∧ a1 ≤ 3) ∧ (0 ≤ a3 ∧ a3 ≤ 3)) ∧ (σ 102 a1 ≠ -1 ∧ σ 102 a3 ≠ -1) ∧ σ 103 a1 = σ 103 a3 ∧ ¬ ((0 ≤ a2 ∧ 0 ≤ a5 ∧ a2 + a5 ≤ σ 102 a1) ∧ (0 ≤ a4 ∧ 0 ≤ a5 ∧ a4 + a5 ≤ σ 102 a3)) → (-7) = -7; omega) (And.intro (by show ((0 ≤ a1 ∧ a1 ≤ 3) ∧ (0 ≤ a3 ∧ a3 ≤ 3)) ∧ (σ 102 a1 ≠ -1 ∧ σ 102 a3 ≠ -1) ∧ σ 103 a1 = σ 103 a3 ∧ ((0 ≤ a2 ∧ 0 ≤ a5 ∧ a2 + a5 ≤ σ 102 a1) ∧ (0 ≤ a4 ∧ 0 ≤ a5 ∧ a4 + a5 ≤ σ 102 a3)) → (-7) = 0; omega) (fun k j hk => rfl))))))
                · skip
                  show WP_ X G Q 0 0 ad SHS_ σ 72 [(42, 86), (0, a1), (0, a2), (0, a3), (0, a4), (0, a5), (9, 0)] []
                  refine B rfl ?_
                  refine And.intro (by omega) ?_
                  refine And.intro (by omega) ?_
                  intro z19 ez19 hz19
                  have q20 : z9 = z19 := ez9.trans ez19.symm
                  subst q20
                  refine And.intro (fun h21 => ?_) (fun h21 => ?_)
                  · simp only [lcmp_lt0, lcmp_ge0, lcmp_gt0, lcmp_le0, lcmp_eq0] at h21
                    refine B rfl ?_
                    refine Exists.intro _ (And.intro rfl ?_)
                    exact (And.intro (by show (¬ ((0 ≤ a1 ∧ a1 ≤ 3) ∧ (0 ≤ a3 ∧ a3 ≤ 3)) → (-7) = -2); omega) (And.intro (by show ((0 ≤ a1 ∧ a1 ≤ 3) ∧ (0 ≤ a3 ∧ a3 ≤ 3)) ∧ ¬ (σ 102 a1 ≠ -1 ∧ σ 102 a3 ≠ -1) → (-7) = -6; omega) (And.intro (by show ((0 ≤ a1 ∧ a1 ≤ 3) ∧ (0 ≤ a3 ∧ a3 ≤ 3)) ∧ (σ 102 a1 ≠ -1 ∧ σ 102 a3 ≠ -1) ∧ ¬ (σ 103 a1 = σ 103 a3) → (-7) = -8; omega) (And.intro (by show ((0 ≤ a1 ∧ a1 ≤ 3) ∧ (0 ≤ a3 ∧ a3 ≤ 3)) ∧ (σ 102 a1 ≠ -1 ∧ σ 102 a3 ≠ -1) ∧ σ 103 a1 = σ 103 a3 ∧ ¬ ((0 ≤ a2 ∧ 0 ≤ a5 ∧ a2 + a5 ≤ σ 102 a1) ∧ (0 ≤ a4 ∧ 0 ≤ a5 ∧ a4 + a5 ≤ σ 102 a3)) → (-7) = -7; omega) (And.intro (by show ((0 ≤ a1 ∧ a1 ≤ 3) ∧ (0 ≤ a3 ∧ a3 ≤ 3)) ∧ (σ 102 a1 ≠ -1 ∧ σ 102 a3 ≠ -1) ∧ σ 103 a1 = σ 103 a3 ∧ ((0 ≤ a2 ∧ 0 ≤ a5 ∧ a2 + a5 ≤ σ 102 a1) ∧ (0 ≤ a4 ∧ 0 ≤ a5 ∧ a4 + a5 ≤ σ 102 a3)) → (-7) = 0; omega) (fun k j hk => rfl))))))
                  · simp only [lcmp_lt0, lcmp_ge0, lcmp_gt0, lcmp_le0, lcmp_eq0] at h21
                    show WP_ X G Q 0 0 ad SHS_ σ 89 [(42, 86), (0, a1), (0, a2), (0, a3), (0, a4), (0, a5), (9, 0)] []
                    refine B rfl ?_
                    refine And.intro (by omega) ?_
                    refine And.intro (by omega) ?_
                    intro z22 ez22 hz22
                    have q23 : z11 = z22 := ez11.trans ez22.symm
                    subst q23
                    refine And.intro (fun h24 => ?_) (fun h24 => ?_)
                    · simp only [lcmp_lt0, lcmp_ge0, lcmp_gt0, lcmp_le0, lcmp_eq0] at h24
                      refine B rfl ?_
                      have lp_113 : ∀ (nq_ : Nat) (v6 : Int) (τ113 : Me_t), (∀ k j : Int, ¬ (k = 104 ∨ k = 105) → τ113 k j = σ k j) → (0 ≤ v6) → (v6 ≤ a5) → (a5 - v6 : Int).toNat < nq_ → WP_ X G Q 0 0 ad SHS_ τ113 113 [(42, 86), (0, a1), (0, a2), (0, a3), (0, a4), (0, a5), (0, v6)] [] := by
                        intro nq_
                        induction nq_ with
                        | zero => intros; omega
                        | succ nq_ ih_113 =>
                          intro v6 τ113 hf113 hi113_0 hi113_1 hm113
                          refine B rfl ?_
                          refine And.intro (fun h25 => ?_) (fun h25 => ?_)
                          · skip
                            refine B rfl ?_
                            show WP_ X G Q 0 0 ad SHS_ τ113 150 [(42, 86), (0, a1), (0, a2), (0, a3), (0, a4), (0, a5), (0, 0)] []
                            refine wdrop_ (L' := [(42, 86), (9, 0), (9, 0), (0, a3), (0, a4), (0, a5), (0, 0)]) ⟨Or.inr rfl, ⟨Or.inl rfl, ⟨Or.inl rfl, ⟨Or.inr rfl, ⟨Or.inr rfl, ⟨Or.inr rfl, ⟨Or.inr rfl, trivial⟩⟩⟩⟩⟩⟩⟩ ?_
                            have lp_150 : ∀ (nq_ : Nat) (v6 : Int) (τ150 : Me_t), (∀ k j : Int, ¬ (k = 104 ∨ k = 105) → τ150 k j = σ k j) → (0 ≤ v6) → (v6 ≤ a5) → (a5 - v6 : Int).toNat < nq_ → WP_ X G Q 0 0 ad SHS_ τ150 150 [(42, 86), (9, 0), (9, 0), (0, a3), (0, a4), (0, a5), (0, v6)] [] := by
                              intro nq_
                              induction nq_ with
                              | zero => intros; omega
                              | succ nq_ ih_150 =>
                                intro v6 τ150 hf150 hi150_0 hi150_1 hm150
                                refine B rfl ?_
                                refine And.intro (fun h26 => ?_) (fun h26 => ?_)
                                · skip
                                  refine B rfl ?_
                                  refine Exists.intro _ (And.intro rfl ?_)
                                  exact (And.intro (by show (¬ ((0 ≤ a1 ∧ a1 ≤ 3) ∧ (0 ≤ a3 ∧ a3 ≤ 3)) → 0 = -2); omega) (And.intro (by show ((0 ≤ a1 ∧ a1 ≤ 3) ∧ (0 ≤ a3 ∧ a3 ≤ 3)) ∧ ¬ (σ 102 a1 ≠ -1 ∧ σ 102 a3 ≠ -1) → 0 = -6; omega) (And.intro (by show ((0 ≤ a1 ∧ a1 ≤ 3) ∧ (0 ≤ a3 ∧ a3 ≤ 3)) ∧ (σ 102 a1 ≠ -1 ∧ σ 102 a3 ≠ -1) ∧ ¬ (σ 103 a1 = σ 103 a3) → 0 = -8; omega) (And.intro (by show ((0 ≤ a1 ∧ a1 ≤ 3) ∧ (0 ≤ a3 ∧ a3 ≤ 3)) ∧ (σ 102 a1 ≠ -1 ∧ σ 102 a3 ≠ -1) ∧ σ 103 a1 = σ 103 a3 ∧ ¬ ((0 ≤ a2 ∧ 0 ≤ a5 ∧ a2 + a5 ≤ σ 102 a1) ∧ (0 ≤ a4 ∧ 0 ≤ a5 ∧ a4 + a5 ≤ σ 102 a3)) → 0 = -7; omega) (And.intro (by show ((0 ≤ a1 ∧ a1 ≤ 3) ∧ (0 ≤ a3 ∧ a3 ≤ 3)) ∧ (σ 102 a1 ≠ -1 ∧ σ 102 a3 ≠ -1) ∧ σ 103 a1 = σ 103 a3 ∧ ((0 ≤ a2 ∧ 0 ≤ a5 ∧ a2 + a5 ≤ σ 102 a1) ∧ (0 ≤ a4 ∧ 0 ≤ a5 ∧ a4 + a5 ≤ σ 102 a3)) → 0 = 0; omega) (fun k j hk => (hf150 _ _ (by omega))))))))
                                · skip
                                  show WP_ X G Q 0 0 ad SHS_ τ150 157 [(42, 86), (9, 0), (9, 0), (0, a3), (0, a4), (0, a5), (0, v6)] []
                                  refine B rfl ?_
                                  refine And.intro (by omega) ?_
                                  refine And.intro (by omega) ?_
                                  refine And.intro (by omega) ?_
                                  refine And.intro (by omega) ?_
                                  refine And.intro (by omega) ?_
                                  intro σ27 e28
                                  refine And.intro (by omega) ?_
                                  exact ih_150 (v6 + 1) σ27 (fun k j hk => ((ups_r e28 (by omega)).trans (hf150 _ _ (by omega)))) (by show 0 ≤ (v6 + 1); omega) (by show (v6 + 1) ≤ a5; omega) (by omega)
                            exact lp_150 ((a5 - 0 : Int).toNat + 1) 0 τ113 (fun k j hk => (hf113 _ _ (by omega))) (by show 0 ≤ 0; omega) (by show 0 ≤ a5; omega) (by omega)
                          · skip
                            show WP_ X G Q 0 0 ad SHS_ τ113 120 [(42, 86), (0, a1), (0, a2), (0, a3), (0, a4), (0, a5), (0, v6)] []
                            refine B rfl ?_
                            refine And.intro (by omega) ?_
                            refine And.intro (by omega) ?_
                            refine And.intro (by omega) ?_
                            refine And.intro (by omega) ?_
                            refine And.intro (by omega) ?_
                            intro σ29 e30
                            refine And.intro (by omega) ?_
                            exact ih_113 (v6 + 1) σ29 (fun k j hk => ((ups_r e30 (by omega)).trans (hf113 _ _ (by omega)))) (by show 0 ≤ (v6 + 1); omega) (by show (v6 + 1) ≤ a5; omega) (by omega)
                      exact lp_113 ((a5 - 0 : Int).toNat + 1) 0 σ (fun k j hk => rfl) (by show 0 ≤ 0; omega) (by show 0 ≤ a5; omega) (by omega)
                    · simp only [lcmp_lt0, lcmp_ge0, lcmp_gt0, lcmp_le0, lcmp_eq0] at h24
                      show WP_ X G Q 0 0 ad SHS_ σ 107 [(42, 86), (0, a1), (0, a2), (0, a3), (0, a4), (0, a5), (9, 0)] []
                      refine B rfl ?_
                      refine Exists.intro _ (And.intro rfl ?_)
                      exact (And.intro (by show (¬ ((0 ≤ a1 ∧ a1 ≤ 3) ∧ (0 ≤ a3 ∧ a3 ≤ 3)) → (-7) = -2); omega) (And.intro (by show ((0 ≤ a1 ∧ a1 ≤ 3) ∧ (0 ≤ a3 ∧ a3 ≤ 3)) ∧ ¬ (σ 102 a1 ≠ -1 ∧ σ 102 a3 ≠ -1) → (-7) = -6; omega) (And.intro (by show ((0 ≤ a1 ∧ a1 ≤ 3) ∧ (0 ≤ a3 ∧ a3 ≤ 3)) ∧ (σ 102 a1 ≠ -1 ∧ σ 102 a3 ≠ -1) ∧ ¬ (σ 103 a1 = σ 103 a3) → (-7) = -8; omega) (And.intro (by show ((0 ≤ a1 ∧ a1 ≤ 3) ∧ (0 ≤ a3 ∧ a3 ≤ 3)) ∧ (σ 102 a1 ≠ -1 ∧ σ 102 a3 ≠ -1) ∧ σ 103 a1 = σ 103 a3 ∧ ¬ ((0 ≤ a2 ∧ 0 ≤ a5 ∧ a2 + a5 ≤ σ 102 a1) ∧ (0 ≤ a4 ∧ 0 ≤ a5 ∧ a4 + a5 ≤ σ 102 a3)) → (-7) = -7; omega) (And.intro (by show ((0 ≤ a1 ∧ a1 ≤ 3) ∧ (0 ≤ a3 ∧ a3 ≤ 3)) ∧ (σ 102 a1 ≠ -1 ∧ σ 102 a3 ≠ -1) ∧ σ 103 a1 = σ 103 a3 ∧ ((0 ≤ a2 ∧ 0 ≤ a5 ∧ a2 + a5 ≤ σ 102 a1) ∧ (0 ≤ a4 ∧ 0 ≤ a5 ∧ a4 + a5 ≤ σ 102 a3)) → (-7) = 0; omega) (fun k j hk => rfl))))))
          · skip
            show WP_ X G Q 0 0 ad SHS_ σ 55 [(42, 86), (0, a1), (0, a2), (0, a3), (0, a4), (0, a5), (9, 0)] []
            refine B rfl ?_
            refine Exists.intro _ (And.intro rfl ?_)
            exact (And.intro (by show (¬ ((0 ≤ a1 ∧ a1 ≤ 3) ∧ (0 ≤ a3 ∧ a3 ≤ 3)) → (-8) = -2); omega) (And.intro (by show ((0 ≤ a1 ∧ a1 ≤ 3) ∧ (0 ≤ a3 ∧ a3 ≤ 3)) ∧ ¬ (σ 102 a1 ≠ -1 ∧ σ 102 a3 ≠ -1) → (-8) = -6; omega) (And.intro (by show ((0 ≤ a1 ∧ a1 ≤ 3) ∧ (0 ≤ a3 ∧ a3 ≤ 3)) ∧ (σ 102 a1 ≠ -1 ∧ σ 102 a3 ≠ -1) ∧ ¬ (σ 103 a1 = σ 103 a3) → (-8) = -8; omega) (And.intro (by show ((0 ≤ a1 ∧ a1 ≤ 3) ∧ (0 ≤ a3 ∧ a3 ≤ 3)) ∧ (σ 102 a1 ≠ -1 ∧ σ 102 a3 ≠ -1) ∧ σ 103 a1 = σ 103 a3 ∧ ¬ ((0 ≤ a2 ∧ 0 ≤ a5 ∧ a2 + a5 ≤ σ 102 a1) ∧ (0 ≤ a4 ∧ 0 ≤ a5 ∧ a4 + a5 ≤ σ 102 a3)) → (-8) = -7; omega) (And.intro (by show ((0 ≤ a1 ∧ a1 ≤ 3) ∧ (0 ≤ a3 ∧ a3 ≤ 3)) ∧ (σ 102 a1 ≠ -1 ∧ σ 102 a3 ≠ -1) ∧ σ 103 a1 = σ 103 a3 ∧ ((0 ≤ a2 ∧ 0 ≤ a5 ∧ a2 + a5 ≤ σ 102 a1) ∧ (0 ≤ a4 ∧ 0 ≤ a5 ∧ a4 + a5 ≤ σ 102 a3)) → (-8) = 0; omega) (fun k j hk => rfl))))))
        · skip
          show WP_ X G Q 0 0 ad SHS_ σ 37 [(42, 86), (0, a1), (0, a2), (0, a3), (0, a4), (0, a5), (9, 0)] []
          refine B rfl ?_
          refine Exists.intro _ (And.intro rfl ?_)
          exact (And.intro (by show (¬ ((0 ≤ a1 ∧ a1 ≤ 3) ∧ (0 ≤ a3 ∧ a3 ≤ 3)) → (-6) = -2); omega) (And.intro (by show ((0 ≤ a1 ∧ a1 ≤ 3) ∧ (0 ≤ a3 ∧ a3 ≤ 3)) ∧ ¬ (σ 102 a1 ≠ -1 ∧ σ 102 a3 ≠ -1) → (-6) = -6; omega) (And.intro (by show ((0 ≤ a1 ∧ a1 ≤ 3) ∧ (0 ≤ a3 ∧ a3 ≤ 3)) ∧ (σ 102 a1 ≠ -1 ∧ σ 102 a3 ≠ -1) ∧ ¬ (σ 103 a1 = σ 103 a3) → (-6) = -8; omega) (And.intro (by show ((0 ≤ a1 ∧ a1 ≤ 3) ∧ (0 ≤ a3 ∧ a3 ≤ 3)) ∧ (σ 102 a1 ≠ -1 ∧ σ 102 a3 ≠ -1) ∧ σ 103 a1 = σ 103 a3 ∧ ¬ ((0 ≤ a2 ∧ 0 ≤ a5 ∧ a2 + a5 ≤ σ 102 a1) ∧ (0 ≤ a4 ∧ 0 ≤ a5 ∧ a4 + a5 ≤ σ 102 a3)) → (-6) = -7; omega) (And.intro (by show ((0 ≤ a1 ∧ a1 ≤ 3) ∧ (0 ≤ a3 ∧ a3 ≤ 3)) ∧ (σ 102 a1 ≠ -1 ∧ σ 102 a3 ≠ -1) ∧ σ 103 a1 = σ 103 a3 ∧ ((0 ≤ a2 ∧ 0 ≤ a5 ∧ a2 + a5 ≤ σ 102 a1) ∧ (0 ≤ a4 ∧ 0 ≤ a5 ∧ a4 + a5 ≤ σ 102 a3)) → (-6) = 0; omega) (fun k j hk => rfl))))))
    · skip
      show WP_ X G Q 0 0 ad SHS_ σ 14 [(42, 86), (0, a1), (0, a2), (0, a3), (0, a4), (0, a5), (9, 0)] []
      refine B rfl ?_
      refine Exists.intro _ (And.intro rfl ?_)
      exact (And.intro (by show (¬ ((0 ≤ a1 ∧ a1 ≤ 3) ∧ (0 ≤ a3 ∧ a3 ≤ 3)) → (-2) = -2); omega) (And.intro (by show ((0 ≤ a1 ∧ a1 ≤ 3) ∧ (0 ≤ a3 ∧ a3 ≤ 3)) ∧ ¬ (σ 102 a1 ≠ -1 ∧ σ 102 a3 ≠ -1) → (-2) = -6; omega) (And.intro (by show ((0 ≤ a1 ∧ a1 ≤ 3) ∧ (0 ≤ a3 ∧ a3 ≤ 3)) ∧ (σ 102 a1 ≠ -1 ∧ σ 102 a3 ≠ -1) ∧ ¬ (σ 103 a1 = σ 103 a3) → (-2) = -8; omega) (And.intro (by show ((0 ≤ a1 ∧ a1 ≤ 3) ∧ (0 ≤ a3 ∧ a3 ≤ 3)) ∧ (σ 102 a1 ≠ -1 ∧ σ 102 a3 ≠ -1) ∧ σ 103 a1 = σ 103 a3 ∧ ¬ ((0 ≤ a2 ∧ 0 ≤ a5 ∧ a2 + a5 ≤ σ 102 a1) ∧ (0 ≤ a4 ∧ 0 ≤ a5 ∧ a4 + a5 ≤ σ 102 a3)) → (-2) = -7; omega) (And.intro (by show ((0 ≤ a1 ∧ a1 ≤ 3) ∧ (0 ≤ a3 ∧ a3 ≤ 3)) ∧ (σ 102 a1 ≠ -1 ∧ σ 102 a3 ≠ -1) ∧ σ 103 a1 = σ 103 a3 ∧ ((0 ≤ a2 ∧ 0 ≤ a5 ∧ a2 + a5 ≤ σ 102 a1) ∧ (0 ≤ a4 ∧ 0 ≤ a5 ∧ a4 + a5 ≤ σ 102 a3)) → (-2) = 0; omega) (fun k j hk => rfl))))))
def as_G_X11_image : Int → List Sv_t := fun a => [(42, 86), (0, a)]
def pre_G_X11_image : Int → Me_t → Prop := fun a σ => (MI σ)
def post_G_X11_image : Int → Me_t → Int → Me_t → Prop := fun a σ z σ' => (MI σ') ∧ ((0 ≤ a ∧ a ≤ 2 → z = 0) ∧ (¬ (0 ≤ a ∧ a ≤ 2) → z = -2)) ∧ (0 ≤ a ∧ a ≤ 2 → σ' 89 a = 1) ∧ (∀ j : Int, j ≠ a → σ' 89 j = σ 89 j) ∧ (∀ k j : Int, ¬ (k = 88 ∨ k = 89) → σ' k j = σ k j)
set_option maxHeartbeats 1500000 in
set_option maxRecDepth 100000 in
theorem ct_G_X11_image (l : Launch) : CT_ l yX11_image cX11_image 3 (some .int) 1 25 as_G_X11_image (rmI_) pre_G_X11_image post_G_X11_image := by
  refine ct_of (by decide) (fun _ => Nat.le_of_ble_eq_true rfl) ?_
  intro X G Q ad σ a hl hR E hG R hM hv hp
  obtain ⟨a1, rfl⟩ : ∃ q : Int, q = a := ⟨_, rfl⟩
  have r_a1 : -2147483648 ≤ a1 ∧ a1 ≤ 2147483647 := hv (0, a1) (List.mem_of_getElem? (i := 1) rfl)
  have hp0 : MI σ := hp
  have B := @bk_ X G Q 0 0 ad SHS_ RX11 cX11_image 3 (some .int) flX11 plX11 knX11 [(159, 3, TR_ as_G_X11_in (rmI_) pre_G_X11_in post_G_X11_in)] _ _ none kX11_image [17] flX11_ok plX11_ok knX11_ok eX11_image oX11_image
    (List.forall_mem_cons.mpr ⟨cok_s (n := 3) (idx := 79) E (ct_G_X11_in X.2.1) (by rw [hR]; decide) (Nat.zero_le _) (Nat.zero_le _) hG ⟨by decide, by decide, by decide⟩ (fun _ => rfl) wl_X11_79 wt_X11_in wn_X11 wc_X11_in, fun _ h => absurd h List.not_mem_nil⟩) R sok_no E
  show WP_ X G Q 0 0 ad SHS_ σ 0 [(42, 86), (0, a1), (9, 0)] []
  refine B rfl ?_
  refine Exists.intro (a1, 0, 2) (And.intro rfl (And.intro True.intro ?_))
  rintro z1 m_ h2
  obtain rfl : σ = m_ := h2.2
  have h3 : (z1 = 1 ∧ 0 ≤ a1 ∧ a1 ≤ 2) ∨ (z1 = 0 ∧ ¬ (0 ≤ a1 ∧ a1 ≤ 2)) := h2.1
  refine And.intro (fun h4 => ?_) (fun h4 => ?_)
  · skip
    refine B rfl ?_
    have lp_17 : ∀ (nq_ : Nat) (v2 : Int) (τ17 : Me_t), (∀ k j : Int, ¬ (k = 88 ∨ k = 89) → τ17 k j = σ k j) → (0 ≤ v2) → (v2 ≤ 495) → (∀ i : Int, 0 ≤ i → i < v2 → τ17 88 (495 * a1 + i) = σ 87 i) → (∀ j : Int, ¬ (495 * a1 ≤ j ∧ j < 495 * a1 + 495) → τ17 88 j = σ 88 j) → (∀ j : Int, τ17 89 j = σ 89 j) → (495 - v2 : Int).toNat < nq_ → WP_ X G Q 0 0 ad SHS_ τ17 17 [(42, 86), (0, a1), (0, v2)] [] := by
      intro nq_
      induction nq_ with
      | zero => intros; omega
      | succ nq_ ih_17 =>
        intro v2 τ17 hf17 hi17_0 hi17_1 hi17_2 hi17_3 hi17_4 hm17
        refine B rfl ?_
        refine And.intro (fun h5 => ?_) (fun h5 => ?_)
        · skip
          refine B rfl ?_
          refine And.intro (by omega) ?_
          refine And.intro (by show (0 : Int) ≤ _ ∧ _ ≤ (1 : Int); omega) ?_
          intro σ6 e7
          refine Exists.intro _ (And.intro rfl ?_)
          have t8 : σ6 89 a1 = 1 := ups_v e7
          exact (And.intro (by show MI σ6; exact MI_fr (MI_img hp0 ⟨by omega, by omega⟩ (fun i h1 h2 => hi17_2 i h1 (by omega)) hi17_3 (fun j => hf17 _ _ (by omega))) (fun k j hk => ups_r e7 (by omega))) (And.intro (by show (0 ≤ a1 ∧ a1 ≤ 2 → 0 = 0) ∧ (¬ (0 ≤ a1 ∧ a1 ≤ 2) → 0 = -2); omega) (And.intro (by show 0 ≤ a1 ∧ a1 ≤ 2 → σ6 89 a1 = 1; omega) (And.intro (by show ∀ j : Int, j ≠ a1 → σ6 89 j = σ 89 j; intro j hj; exact (ups_r e7 (by omega)).trans (hi17_4 j)) (fun k j hk => ((ups_r e7 (by omega)).trans (hf17 _ _ (by omega))))))))
        · skip
          refine And.intro (by omega) ?_
          refine And.intro (by omega) ?_
          refine And.intro (by omega) ?_
          intro z9 ez9 hz9
          have hz9 : ((-1) : Int) ≤ z9 ∧ z9 ≤ (1999 : Int) := hz9
          try have t10 : τ17 87 v2 = σ 87 v2 := (hf17 _ _ (by omega))
          refine And.intro (by omega) ?_
          refine And.intro (by show ((-1) : Int) ≤ _ ∧ _ ≤ (1999 : Int); omega) ?_
          intro σ11 e12
          refine And.intro (by omega) ?_
          try have t13 : σ11 88 (495 * a1 + i) = σ 88 (495 * a1 + i) := ((ups_r e12 (by omega)).trans (hf17 _ _ (by omega)))
          exact ih_17 (v2 + 1) σ11 (fun k j hk => ((ups_r e12 (by omega)).trans (hf17 _ _ (by omega)))) (by show 0 ≤ (v2 + 1); omega) (by show (v2 + 1) ≤ 495; omega) (by show ∀ i : Int, 0 ≤ i → i < (v2 + 1) → σ11 88 (495 * a1 + i) = σ 87 i; intro i h1 h2; by_cases hj : i = v2; subst hj; exact (ups_v e12).trans (ez9.trans (hf17 _ _ (by omega))); exact (ups_r e12 (by omega)).trans (hi17_2 i h1 (by omega))) (by show ∀ j : Int, ¬ (495 * a1 ≤ j ∧ j < 495 * a1 + 495) → σ11 88 j = σ 88 j; intro j hj; exact ((ups_r e12 (by omega))).trans (hi17_3 j hj)) (by show ∀ j : Int, σ11 89 j = σ 89 j; intro j; exact ((ups_r e12 (by omega))).trans (hi17_4 j)) (by omega)
    exact lp_17 ((495 - 0 : Int).toNat + 1) 0 σ (fun k j hk => rfl) (by show 0 ≤ 0; omega) (by show 0 ≤ 495; omega) (by show ∀ i : Int, 0 ≤ i → i < 0 → σ 88 (495 * a1 + i) = σ 87 i; intro i h1 h2; omega) (by show ∀ j : Int, ¬ (495 * a1 ≤ j ∧ j < 495 * a1 + 495) → σ 88 j = σ 88 j; intro j hj; exact rfl) (by show ∀ j : Int, σ 89 j = σ 89 j; intro j; rfl) (by omega)
  · skip
    refine Exists.intro _ (And.intro rfl ?_)
    exact (And.intro (by show MI σ; exact hp0) (And.intro (by show (0 ≤ a1 ∧ a1 ≤ 2 → (-2) = 0) ∧ (¬ (0 ≤ a1 ∧ a1 ≤ 2) → (-2) = -2); omega) (And.intro (by show 0 ≤ a1 ∧ a1 ≤ 2 → σ 89 a1 = 1; omega) (And.intro (by show ∀ j : Int, j ≠ a1 → σ 89 j = σ 89 j; intro j hj0; exact rfl) (fun k j hk => rfl)))))
def as_G_X11_back : Int → List Sv_t := fun a => [(42, 86), (0, a)]
def pre_G_X11_back : Int → Me_t → Prop := fun a σ => (MI σ)
def post_G_X11_back : Int → Me_t → Int → Me_t → Prop := fun a σ z σ' => (MI σ') ∧ ((¬ (0 ≤ a ∧ a ≤ 2) → z = -2) ∧ (0 ≤ a ∧ a ≤ 2 ∧ σ 89 a = 0 → z = -6) ∧ (0 ≤ a ∧ a ≤ 2 ∧ σ 89 a ≠ 0 → z = 0)) ∧ (∀ k j : Int, ¬ (k = 87) → σ' k j = σ k j)
set_option maxHeartbeats 1500000 in
set_option maxRecDepth 100000 in
theorem ct_G_X11_back (l : Launch) : CT_ l yX11_back cX11_back 3 (some .int) 1 25 as_G_X11_back (rmI_) pre_G_X11_back post_G_X11_back := by
  refine ct_of (by decide) (fun _ => Nat.le_of_ble_eq_true rfl) ?_
  intro X G Q ad σ a hl hR E hG R hM hv hp
  obtain ⟨a1, rfl⟩ : ∃ q : Int, q = a := ⟨_, rfl⟩
  have r_a1 : -2147483648 ≤ a1 ∧ a1 ≤ 2147483647 := hv (0, a1) (List.mem_of_getElem? (i := 1) rfl)
  have hp0 : MI σ := hp
  have B := @bk_ X G Q 0 0 ad SHS_ RX11 cX11_back 3 (some .int) flX11 plX11 knX11 [(159, 3, TR_ as_G_X11_in (rmI_) pre_G_X11_in post_G_X11_in)] _ _ none kX11_back [29] flX11_ok plX11_ok knX11_ok eX11_back oX11_back
    (List.forall_mem_cons.mpr ⟨cok_s (n := 3) (idx := 79) E (ct_G_X11_in X.2.1) (by rw [hR]; decide) (Nat.zero_le _) (Nat.zero_le _) hG ⟨by decide, by decide, by decide⟩ (fun _ => rfl) wl_X11_79 wt_X11_in wn_X11 wc_X11_in, fun _ h => absurd h List.not_mem_nil⟩) R sok_no E
  show WP_ X G Q 0 0 ad SHS_ σ 0 [(42, 86), (0, a1), (9, 0)] []
  refine B rfl ?_
  refine Exists.intro (a1, 0, 2) (And.intro rfl (And.intro True.intro ?_))
  rintro z1 m_ h2
  obtain rfl : σ = m_ := h2.2
  have h3 : (z1 = 1 ∧ 0 ≤ a1 ∧ a1 ≤ 2) ∨ (z1 = 0 ∧ ¬ (0 ≤ a1 ∧ a1 ≤ 2)) := h2.1
  refine And.intro (fun h4 => ?_) (fun h4 => ?_)
  · skip
    refine B rfl ?_
    refine And.intro (by omega) ?_
    intro z5 ez5 hz5
    have hz5 : (0 : Int) ≤ z5 ∧ z5 ≤ (1 : Int) := hz5
    refine And.intro (fun h6 => ?_) (fun h6 => ?_)
    · skip
      refine B rfl ?_
      have lp_29 : ∀ (nq_ : Nat) (v2 : Int) (τ29 : Me_t), (∀ k j : Int, ¬ (k = 87) → τ29 k j = σ k j) → (0 ≤ v2) → (v2 ≤ 495) → (∀ i : Int, 0 ≤ i → i < v2 → τ29 87 i = σ 88 (495 * a1 + i)) → (495 - v2 : Int).toNat < nq_ → WP_ X G Q 0 0 ad SHS_ τ29 29 [(42, 86), (0, a1), (0, v2)] [] := by
        intro nq_
        induction nq_ with
        | zero => intros; omega
        | succ nq_ ih_29 =>
          intro v2 τ29 hf29 hi29_0 hi29_1 hi29_2 hm29
          refine B rfl ?_
          refine And.intro (fun h7 => ?_) (fun h7 => ?_)
          · skip
            refine B rfl ?_
            refine Exists.intro _ (And.intro rfl ?_)
            exact (And.intro (by show MI τ29; exact MI_back hp0 ⟨by omega, by omega⟩ (fun i h1 h2 => hi29_2 i h1 (by omega)) (fun j => hf29 _ _ (by omega))) (And.intro (by show (¬ (0 ≤ a1 ∧ a1 ≤ 2) → 0 = -2) ∧ (0 ≤ a1 ∧ a1 ≤ 2 ∧ σ 89 a1 = 0 → 0 = -6) ∧ (0 ≤ a1 ∧ a1 ≤ 2 ∧ σ 89 a1 ≠ 0 → 0 = 0); omega) (fun k j hk => (hf29 _ _ (by omega)))))
          · skip
            refine And.intro (by omega) ?_
            refine And.intro (by omega) ?_
            refine And.intro (by omega) ?_
            intro z8 ez8 hz8
            have hz8 : ((-1) : Int) ≤ z8 ∧ z8 ≤ (1999 : Int) := hz8
            try have t9 : τ29 88 ((495 * a1) + v2) = σ 88 ((495 * a1) + v2) := (hf29 _ _ (by omega))
            refine And.intro (by omega) ?_
            refine And.intro (by show ((-1) : Int) ≤ _ ∧ _ ≤ (1999 : Int); omega) ?_
            intro σ10 e11
            refine And.intro (by omega) ?_
            exact ih_29 (v2 + 1) σ10 (fun k j hk => ((ups_r e11 (by omega)).trans (hf29 _ _ (by omega)))) (by show 0 ≤ (v2 + 1); omega) (by show (v2 + 1) ≤ 495; omega) (by show ∀ i : Int, 0 ≤ i → i < (v2 + 1) → σ10 87 i = σ 88 (495 * a1 + i); intro i h1 h2; by_cases hj : i = v2; subst hj; exact (ups_v e11).trans (ez8.trans (hf29 _ _ (by omega))); exact (ups_r e11 (by omega)).trans (hi29_2 i h1 (by omega))) (by omega)
      exact lp_29 ((495 - 0 : Int).toNat + 1) 0 σ (fun k j hk => rfl) (by show 0 ≤ 0; omega) (by show 0 ≤ 495; omega) (by show ∀ i : Int, 0 ≤ i → i < 0 → σ 87 i = σ 88 (495 * a1 + i); intro i h1 h2; omega) (by omega)
    · skip
      refine Exists.intro _ (And.intro rfl ?_)
      exact (And.intro (by show MI σ; exact hp0) (And.intro (by show (¬ (0 ≤ a1 ∧ a1 ≤ 2) → (-6) = -2) ∧ (0 ≤ a1 ∧ a1 ≤ 2 ∧ σ 89 a1 = 0 → (-6) = -6) ∧ (0 ≤ a1 ∧ a1 ≤ 2 ∧ σ 89 a1 ≠ 0 → (-6) = 0); omega) (fun k j hk => rfl)))
  · skip
    refine Exists.intro _ (And.intro rfl ?_)
    exact (And.intro (by show MI σ; exact hp0) (And.intro (by show (¬ (0 ≤ a1 ∧ a1 ≤ 2) → (-2) = -2) ∧ (0 ≤ a1 ∧ a1 ≤ 2 ∧ σ 89 a1 = 0 → (-2) = -6) ∧ (0 ≤ a1 ∧ a1 ≤ 2 ∧ σ 89 a1 ≠ 0 → (-2) = 0); omega) (fun k j hk => rfl)))
def as_G_X11_goRain : Int × Int × Int × Int → List Sv_t := fun a => [(42, 86), (1, a.1), (0, a.2.1), (0, a.2.2.1), (0, a.2.2.2)]
def pre_G_X11_goRain : Int × Int × Int × Int → Me_t → Prop := fun a σ => (BW σ 87) ∧ (0 ≤ a.1) ∧ (a.1 ≤ 2147483668) ∧ (-1 ≤ a.2.1) ∧ (a.2.1 ≤ 2) ∧ (0 ≤ a.2.2.1) ∧ (a.2.2.1 ≤ 1999) ∧ (1 ≤ a.2.2.2) ∧ (a.2.2.2 ≤ 100)
def post_G_X11_goRain : Int × Int × Int × Int → Me_t → Int → Me_t → Prop := fun a σ z σ' => (∀ k j : Int, ¬ (k = 86) → σ' k j = σ k j)
set_option maxHeartbeats 1500000 in
set_option maxRecDepth 100000 in
theorem ct_G_X11_goRain (l : Launch) : CT_ l yX11_goRain cX11_goRain 10 none 3 66 as_G_X11_goRain (rmV_) pre_G_X11_goRain post_G_X11_goRain := by
  refine ct_of (by decide) (fun _ => Nat.le_of_ble_eq_true rfl) ?_
  intro X G Q ad σ a hl hR E hG R hM hv hp
  obtain ⟨a1, a2, a3, a4⟩ := a
  have r_a1 : -9223372036854775808 ≤ a1 ∧ a1 ≤ 9223372036854775807 := hv (1, a1) (List.mem_of_getElem? (i := 1) rfl)
  have r_a2 : -2147483648 ≤ a2 ∧ a2 ≤ 2147483647 := hv (0, a2) (List.mem_of_getElem? (i := 2) rfl)
  have r_a3 : -2147483648 ≤ a3 ∧ a3 ≤ 2147483647 := hv (0, a3) (List.mem_of_getElem? (i := 3) rfl)
  have r_a4 : -2147483648 ≤ a4 ∧ a4 ≤ 2147483647 := hv (0, a4) (List.mem_of_getElem? (i := 4) rfl)
  have hp0 : BW σ 87 := hp.1
  have hp1 : 0 ≤ a1 := hp.2.1
  have hp2 : a1 ≤ 2147483668 := hp.2.2.1
  have hp3 : -1 ≤ a2 := hp.2.2.2.1
  have hp4 : a2 ≤ 2 := hp.2.2.2.2.1
  have hp5 : 0 ≤ a3 := hp.2.2.2.2.2.1
  have hp6 : a3 ≤ 1999 := hp.2.2.2.2.2.2.1
  have hp7 : 1 ≤ a4 := hp.2.2.2.2.2.2.2.1
  have hp8 : a4 ≤ 100 := hp.2.2.2.2.2.2.2.2
  have B := @bk_ X G Q 0 0 ad SHS_ RX11 cX11_goRain 10 none flX11 plX11 knX11 [(572, 2, TR_ as_G_X11_whoOn (rmI_) pre_G_X11_whoOn post_G_X11_whoOn), (192, 1, TR_ as_G_X11_allLands (rmI_) pre_G_X11_allLands post_G_X11_allLands), (508, 3, TR_ as_G_X11_mayOn (rmI_) pre_G_X11_mayOn post_G_X11_mayOn)] _ _ none kX11_goRain [22, 32, 40, 77, 94, 113, 126, 145, 150, 160] flX11_ok plX11_ok knX11_ok eX11_goRain oX11_goRain
    (List.forall_mem_cons.mpr ⟨cok_v (t := 32) (c := 11) (N := 39) (n := 1) (idx := 286) E (ct_G_X11_whoOn X.2.1) (by rw [hR]; decide) (Nat.zero_le _) (Nat.zero_le _) hG rfl rfl ⟨rfl, by decide, by decide, by decide⟩ (fun _ => ⟨_, _, rfl, rfl⟩) wl_X11_286 wi_X11_whoOn ws_X11_whoOn wn_X11 wc_X11_whoOn, List.forall_mem_cons.mpr ⟨cok_v (t := 32) (c := 11) (N := 39) (n := 0) (idx := 96) E (ct_G_X11_allLands X.2.1) (by rw [hR]; decide) (Nat.zero_le _) (Nat.zero_le _) hG rfl rfl ⟨rfl, by decide, by decide, by decide⟩ (fun _ => ⟨_, _, rfl, rfl⟩) wl_X11_96 wi_X11_allLands ws_X11_allLands wn_X11 wc_X11_allLands, List.forall_mem_cons.mpr ⟨cok_v (t := 32) (c := 11) (N := 39) (n := 2) (idx := 254) E (ct_G_X11_mayOn X.2.1) (by rw [hR]; decide) (Nat.zero_le _) (Nat.zero_le _) hG rfl rfl ⟨rfl, by decide, by decide, by decide⟩ (fun _ => ⟨_, _, rfl, rfl⟩) wl_X11_254 wi_X11_mayOn ws_X11_mayOn wn_X11 wc_X11_mayOn, fun _ h => absurd h List.not_mem_nil⟩⟩⟩) R sok_no E
  show WP_ X G Q 0 0 ad SHS_ σ 0 [(42, 86), (1, a1), (9, 0), (0, a2), (0, a3), (0, a4), (9, 0), (9, 0), (9, 0), (9, 0)] []
  refine B rfl ?_
  refine And.intro (by omega) ?_
  intro σ1 e2
  refine And.intro (by omega) ?_
  intro σ3 e4
  refine And.intro (by omega) ?_
  intro σ5 e6
  show WP_ X G Q 0 0 ad SHS_ σ5 22 [(42, 86), (1, a1), (9, 0), (0, a2), (0, a3), (0, a4), (1, a1), (9, 0), (0, a3), (9, 0)] []
  refine wdrop_ (L' := [(42, 86), (9, 0), (9, 0), (0, a2), (0, a3), (0, a4), (1, a1), (9, 0), (0, a3), (9, 0)]) ⟨Or.inr rfl, ⟨Or.inl rfl, ⟨Or.inl rfl, ⟨Or.inr rfl, ⟨Or.inr rfl, ⟨Or.inr rfl, ⟨Or.inr rfl, ⟨Or.inl rfl, ⟨Or.inr rfl, ⟨Or.inl rfl, trivial⟩⟩⟩⟩⟩⟩⟩⟩⟩⟩ ?_
  have lp_22 : ∀ (nq_ : Nat) (v6 : Int) (v8 : Int) (τ22 : Me_t), (∀ k j : Int, ¬ (k = 86) → τ22 k j = σ k j) → (0 ≤ v6) → (v6 ≤ 2147483668) → (a3 ≤ v8) → (v8 ≤ 2000) → (v8 ≤ a3 + a4) → (0 ≤ τ22 86 32) → (τ22 86 32 ≤ v8 - a3) → (0 ≤ τ22 86 33) → (τ22 86 33 ≤ v8 - a3) → (0 ≤ τ22 86 34) → (τ22 86 34 ≤ v8 - a3) → (2000 - v8 : Int).toNat < nq_ → WP_ X G Q 0 0 ad SHS_ τ22 22 [(42, 86), (9, 0), (9, 0), (0, a2), (0, a3), (0, a4), (1, v6), (9, 0), (0, v8), (9, 0)] [] := by
    intro nq_
    induction nq_ with
    | zero => intros; omega
    | succ nq_ ih_22 =>
      intro v6 v8 τ22 hf22 hi22_0 hi22_1 hi22_2 hi22_3 hi22_4 hi22_5 hi22_6 hi22_7 hi22_8 hi22_9 hi22_10 hm22
      refine B rfl ?_
      refine And.intro (by omega) ?_
      refine And.intro (fun h7 => ?_) (fun h7 => ?_)
      · skip
        refine B rfl ?_
        refine Exists.intro 0 (And.intro rfl ?_)
        exact (fun k j hk => (hf22 _ _ (by omega)))
      · skip
        show WP_ X G Q 0 0 ad SHS_ τ22 32 [(42, 86), (9, 0), (9, 0), (0, a2), (0, a3), (0, a4), (1, v6), (9, 0), (0, v8), (9, 0)] []
        refine B rfl ?_
        refine And.intro (fun h8 => ?_) (fun h8 => ?_)
        · skip
          refine B rfl ?_
          refine Exists.intro 0 (And.intro rfl ?_)
          exact (fun k j hk => (hf22 _ _ (by omega)))
        · skip
          show WP_ X G Q 0 0 ad SHS_ τ22 40 [(42, 86), (9, 0), (9, 0), (0, a2), (0, a3), (0, a4), (1, v6), (9, 0), (0, v8), (9, 0)] []
          refine B rfl ?_
          refine And.intro (by omega) ?_
          refine And.intro (by omega) ?_
          have q9 : Int.tmod ((1103515245 * v6) + 12345) 2147483648 = ((1103515245 * v6) + 12345) % 2147483648 := Int.tmod_eq_emod_of_nonneg (by omega)
          refine And.intro (by omega) ?_
          have q10 : Int.tdiv (Int.tmod ((1103515245 * v6) + 12345) 2147483648) 65536 = (Int.tmod ((1103515245 * v6) + 12345) 2147483648) / 65536 := Int.tdiv_eq_ediv_of_nonneg (by omega)
          refine And.intro (by omega) ?_
          have q11 : Int.tmod (Int.tdiv (Int.tmod ((1103515245 * v6) + 12345) 2147483648) 65536) 100 = (Int.tdiv (Int.tmod ((1103515245 * v6) + 12345) 2147483648) 65536) % 100 := Int.tmod_eq_emod_of_nonneg (by omega)
          refine And.intro (by omega) ?_
          refine And.intro (by omega) ?_
          intro z12 ez12 hz12
          have hz12 : ((-1) : Int) ≤ z12 ∧ z12 ≤ (1999 : Int) := hz12
          try have t13 : τ22 87 0 = σ 87 0 := (hf22 _ _ (by omega))
          have p14 : BW τ22 87 := BW_fr hp0 (fun k j hk => (hf22 _ _ (by omega)))
          have b15 := wrh_ p14 (i := 0) (by omega)
          have b15 : (0 : Int) ≤ τ22 87 0 ∧ τ22 87 0 ≤ (100 : Int) := b15
          refine And.intro (fun h16 => ?_) (fun h16 => ?_)
          · simp only [lcmp_lt0, lcmp_ge0, lcmp_gt0, lcmp_le0, lcmp_eq0] at h16
            refine B rfl ?_
            intro z17 ez17 hz17
            have hz17 : (0 : Int) ≤ z17 ∧ z17 ≤ (100 : Int) := hz17
            refine And.intro (fun h18 => ?_) (fun h18 => (by exfalso; omega))
            refine B rfl ?_
            refine And.intro (by omega) ?_
            refine And.intro (by omega) ?_
            intro σ19 e20
            intro z21 ez21 hz21
            have hz21 : (0 : Int) ≤ z21 ∧ z21 ≤ (100 : Int) := hz21
            try have t22 : σ19 86 33 = τ22 86 33 := (ups_r e20 (by omega))
            refine And.intro (fun h23 => (by exfalso; omega)) (fun h23 => ?_)
            show WP_ X G Q 0 0 ad SHS_ σ19 113 [(42, 86), (9, 0), (9, 0), (0, a2), (0, a3), (0, a4), (1, Int.tmod ((1103515245 * v6) + 12345) 2147483648), (9, 0), (0, v8), (0, 0)] [(0, z21), (42, 86)]
            refine B rfl ?_
            have p24 : BW σ19 87 := BW_fr p14 (fun k j hk => (ups_r e20 (by omega)))
            refine Exists.intro v8 (And.intro rfl (And.intro (And.intro p24 (And.intro (by show 0 ≤ v8; omega) (by show v8 ≤ 1999; omega))) ?_))
            rintro z25 m_ h26
            obtain rfl : σ19 = m_ := h26
            refine Exists.intro () (And.intro rfl (And.intro p24 ?_))
            rintro z27 m_ h28
            obtain rfl : σ19 = m_ := h28.2
            have h29 : 0 ≤ z27 ∧ z27 ≤ 7 := h28.1
            refine And.intro (fun h30 => ?_) (fun h30 => ?_)
            · skip
              refine B rfl ?_
              refine And.intro (by omega) ?_
              refine And.intro (by omega) ?_
              intro σ31 e32
              intro z33 ez33 hz33
              have hz33 : (0 : Int) ≤ z33 ∧ z33 ≤ (100 : Int) := hz33
              try have t34 : σ31 86 34 = τ22 86 34 := ((ups_r e32 (by omega)).trans (ups_r e20 (by omega)))
              refine And.intro (fun h35 => (by exfalso; omega)) (fun h35 => ?_)
              show WP_ X G Q 0 0 ad SHS_ σ31 145 [(42, 86), (9, 0), (9, 0), (0, a2), (0, a3), (0, a4), (1, Int.tmod ((1103515245 * v6) + 12345) 2147483648), (9, 0), (0, v8), (0, 0)] [(0, z33), (42, 86)]
              refine B rfl ?_
              refine And.intro (fun h36 => ?_) (fun h36 => ?_)
              · skip
                refine B rfl ?_
                refine And.intro (by omega) ?_
                refine And.intro (by omega) ?_
                intro σ37 e38
                refine And.intro (by omega) ?_
                show WP_ X G Q 0 0 ad SHS_ σ37 22 [(42, 86), (9, 0), (9, 0), (0, a2), (0, a3), (0, a4), (1, Int.tmod ((1103515245 * v6) + 12345) 2147483648), (9, 0), (0, v8 + 1), (0, 0)] []
                refine wdrop_ (L' := [(42, 86), (9, 0), (9, 0), (0, a2), (0, a3), (0, a4), (1, Int.tmod ((1103515245 * v6) + 12345) 2147483648), (9, 0), (0, v8 + 1), (9, 0)]) ⟨Or.inr rfl, ⟨Or.inl rfl, ⟨Or.inl rfl, ⟨Or.inr rfl, ⟨Or.inr rfl, ⟨Or.inr rfl, ⟨Or.inr rfl, ⟨Or.inl rfl, ⟨Or.inr rfl, ⟨Or.inl rfl, trivial⟩⟩⟩⟩⟩⟩⟩⟩⟩⟩ ?_
                have t39 : σ37 86 32 = z17 + 0 := (((ups_r e38 (by omega)).trans (ups_r e32 (by omega)))).trans (ups_v e20)
                have t40 : σ37 86 33 = z21 + 0 := ((ups_r e38 (by omega))).trans (ups_v e32)
                have t41 : σ37 86 34 = z33 + 0 := ups_v e38
                exact ih_22 (Int.tmod ((1103515245 * v6) + 12345) 2147483648) (v8 + 1) σ37 (fun k j hk => ((ups_r e38 (by omega)).trans ((ups_r e32 (by omega)).trans ((ups_r e20 (by omega)).trans (hf22 _ _ (by omega)))))) (by show 0 ≤ (Int.tmod ((1103515245 * v6) + 12345) 2147483648); omega) (by show (Int.tmod ((1103515245 * v6) + 12345) 2147483648) ≤ 2147483668; omega) (by show a3 ≤ (v8 + 1); omega) (by show (v8 + 1) ≤ 2000; omega) (by show (v8 + 1) ≤ a3 + a4; omega) (by show 0 ≤ σ37 86 32; omega) (by show σ37 86 32 ≤ (v8 + 1) - a3; omega) (by show 0 ≤ σ37 86 33; omega) (by show σ37 86 33 ≤ (v8 + 1) - a3; omega) (by show 0 ≤ σ37 86 34; omega) (by show σ37 86 34 ≤ (v8 + 1) - a3; omega) (by omega)
              · skip
                show WP_ X G Q 0 0 ad SHS_ σ31 150 [(42, 86), (9, 0), (9, 0), (0, a2), (0, a3), (0, a4), (1, Int.tmod ((1103515245 * v6) + 12345) 2147483648), (9, 0), (0, v8), (0, 0)] [(0, z33), (42, 86)]
                refine B rfl ?_
                refine Exists.intro (a2, v8) (And.intro rfl (And.intro (And.intro (by show 0 ≤ a2; omega) (And.intro (by show a2 ≤ 2; omega) (And.intro (by show 0 ≤ v8; omega) (by show v8 ≤ 1999; omega)))) ?_))
                rintro z42 m_ h43
                obtain rfl : σ31 = m_ := h43.2
                have h44 : (z42 = 1 ∧ σ31 96 (2000 * a2 + v8) = 0) ∨ (z42 = 0 ∧ σ31 96 (2000 * a2 + v8) ≠ 0) := h43.1
                try have t45 : σ31 96 (2000 * a2 + v8) = σ 96 (2000 * a2 + v8) := ((ups_r e32 (by omega)).trans ((ups_r e20 (by omega)).trans (hf22 _ _ (by omega))))
                refine And.intro (fun h46 => ?_) (fun h46 => ?_)
                · skip
                  refine B rfl ?_
                  refine And.intro (by omega) ?_
                  refine And.intro (by omega) ?_
                  intro σ47 e48
                  refine And.intro (by omega) ?_
                  show WP_ X G Q 0 0 ad SHS_ σ47 22 [(42, 86), (9, 0), (9, 0), (0, a2), (0, a3), (0, a4), (1, Int.tmod ((1103515245 * v6) + 12345) 2147483648), (9, 0), (0, v8 + 1), (0, 0)] []
                  refine wdrop_ (L' := [(42, 86), (9, 0), (9, 0), (0, a2), (0, a3), (0, a4), (1, Int.tmod ((1103515245 * v6) + 12345) 2147483648), (9, 0), (0, v8 + 1), (9, 0)]) ⟨Or.inr rfl, ⟨Or.inl rfl, ⟨Or.inl rfl, ⟨Or.inr rfl, ⟨Or.inr rfl, ⟨Or.inr rfl, ⟨Or.inr rfl, ⟨Or.inl rfl, ⟨Or.inr rfl, ⟨Or.inl rfl, trivial⟩⟩⟩⟩⟩⟩⟩⟩⟩⟩ ?_
                  have t49 : σ47 86 32 = z17 + 0 := (((ups_r e48 (by omega)).trans (ups_r e32 (by omega)))).trans (ups_v e20)
                  have t50 : σ47 86 33 = z21 + 0 := ((ups_r e48 (by omega))).trans (ups_v e32)
                  have t51 : σ47 86 34 = z33 + 0 := ups_v e48
                  exact ih_22 (Int.tmod ((1103515245 * v6) + 12345) 2147483648) (v8 + 1) σ47 (fun k j hk => ((ups_r e48 (by omega)).trans ((ups_r e32 (by omega)).trans ((ups_r e20 (by omega)).trans (hf22 _ _ (by omega)))))) (by show 0 ≤ (Int.tmod ((1103515245 * v6) + 12345) 2147483648); omega) (by show (Int.tmod ((1103515245 * v6) + 12345) 2147483648) ≤ 2147483668; omega) (by show a3 ≤ (v8 + 1); omega) (by show (v8 + 1) ≤ 2000; omega) (by show (v8 + 1) ≤ a3 + a4; omega) (by show 0 ≤ σ47 86 32; omega) (by show σ47 86 32 ≤ (v8 + 1) - a3; omega) (by show 0 ≤ σ47 86 33; omega) (by show σ47 86 33 ≤ (v8 + 1) - a3; omega) (by show 0 ≤ σ47 86 34; omega) (by show σ47 86 34 ≤ (v8 + 1) - a3; omega) (by omega)
                · skip
                  show WP_ X G Q 0 0 ad SHS_ σ31 160 [(42, 86), (9, 0), (9, 0), (0, a2), (0, a3), (0, a4), (1, Int.tmod ((1103515245 * v6) + 12345) 2147483648), (9, 0), (0, v8), (0, 0)] [(0, z33), (42, 86)]
                  refine B rfl ?_
                  refine B rfl ?_
                  refine And.intro (by omega) ?_
                  refine And.intro (by omega) ?_
                  intro σ52 e53
                  refine And.intro (by omega) ?_
                  show WP_ X G Q 0 0 ad SHS_ σ52 22 [(42, 86), (9, 0), (9, 0), (0, a2), (0, a3), (0, a4), (1, Int.tmod ((1103515245 * v6) + 12345) 2147483648), (9, 0), (0, v8 + 1), (0, 0)] []
                  refine wdrop_ (L' := [(42, 86), (9, 0), (9, 0), (0, a2), (0, a3), (0, a4), (1, Int.tmod ((1103515245 * v6) + 12345) 2147483648), (9, 0), (0, v8 + 1), (9, 0)]) ⟨Or.inr rfl, ⟨Or.inl rfl, ⟨Or.inl rfl, ⟨Or.inr rfl, ⟨Or.inr rfl, ⟨Or.inr rfl, ⟨Or.inr rfl, ⟨Or.inl rfl, ⟨Or.inr rfl, ⟨Or.inl rfl, trivial⟩⟩⟩⟩⟩⟩⟩⟩⟩⟩ ?_
                  have t54 : σ52 86 32 = z17 + 0 := (((ups_r e53 (by omega)).trans (ups_r e32 (by omega)))).trans (ups_v e20)
                  have t55 : σ52 86 33 = z21 + 0 := ((ups_r e53 (by omega))).trans (ups_v e32)
                  have t56 : σ52 86 34 = z33 + 1 := ups_v e53
                  exact ih_22 (Int.tmod ((1103515245 * v6) + 12345) 2147483648) (v8 + 1) σ52 (fun k j hk => ((ups_r e53 (by omega)).trans ((ups_r e32 (by omega)).trans ((ups_r e20 (by omega)).trans (hf22 _ _ (by omega)))))) (by show 0 ≤ (Int.tmod ((1103515245 * v6) + 12345) 2147483648); omega) (by show (Int.tmod ((1103515245 * v6) + 12345) 2147483648) ≤ 2147483668; omega) (by show a3 ≤ (v8 + 1); omega) (by show (v8 + 1) ≤ 2000; omega) (by show (v8 + 1) ≤ a3 + a4; omega) (by show 0 ≤ σ52 86 32; omega) (by show σ52 86 32 ≤ (v8 + 1) - a3; omega) (by show 0 ≤ σ52 86 33; omega) (by show σ52 86 33 ≤ (v8 + 1) - a3; omega) (by show 0 ≤ σ52 86 34; omega) (by show σ52 86 34 ≤ (v8 + 1) - a3; omega) (by omega)
            · skip
              show WP_ X G Q 0 0 ad SHS_ σ19 126 [(42, 86), (9, 0), (9, 0), (0, a2), (0, a3), (0, a4), (1, Int.tmod ((1103515245 * v6) + 12345) 2147483648), (9, 0), (0, v8), (0, 0)] [(0, z21), (42, 86)]
              refine B rfl ?_
              refine B rfl ?_
              refine And.intro (by omega) ?_
              refine And.intro (by omega) ?_
              intro σ57 e58
              intro z59 ez59 hz59
              have hz59 : (0 : Int) ≤ z59 ∧ z59 ≤ (100 : Int) := hz59
              try have t60 : σ57 86 34 = τ22 86 34 := ((ups_r e58 (by omega)).trans (ups_r e20 (by omega)))
              refine And.intro (fun h61 => (by exfalso; omega)) (fun h61 => ?_)
              show WP_ X G Q 0 0 ad SHS_ σ57 145 [(42, 86), (9, 0), (9, 0), (0, a2), (0, a3), (0, a4), (1, Int.tmod ((1103515245 * v6) + 12345) 2147483648), (9, 0), (0, v8), (0, 0)] [(0, z59), (42, 86)]
              refine B rfl ?_
              refine And.intro (fun h62 => ?_) (fun h62 => ?_)
              · skip
                refine B rfl ?_
                refine And.intro (by omega) ?_
                refine And.intro (by omega) ?_
                intro σ63 e64
                refine And.intro (by omega) ?_
                show WP_ X G Q 0 0 ad SHS_ σ63 22 [(42, 86), (9, 0), (9, 0), (0, a2), (0, a3), (0, a4), (1, Int.tmod ((1103515245 * v6) + 12345) 2147483648), (9, 0), (0, v8 + 1), (0, 0)] []
                refine wdrop_ (L' := [(42, 86), (9, 0), (9, 0), (0, a2), (0, a3), (0, a4), (1, Int.tmod ((1103515245 * v6) + 12345) 2147483648), (9, 0), (0, v8 + 1), (9, 0)]) ⟨Or.inr rfl, ⟨Or.inl rfl, ⟨Or.inl rfl, ⟨Or.inr rfl, ⟨Or.inr rfl, ⟨Or.inr rfl, ⟨Or.inr rfl, ⟨Or.inl rfl, ⟨Or.inr rfl, ⟨Or.inl rfl, trivial⟩⟩⟩⟩⟩⟩⟩⟩⟩⟩ ?_
                have t65 : σ63 86 32 = z17 + 0 := (((ups_r e64 (by omega)).trans (ups_r e58 (by omega)))).trans (ups_v e20)
                have t66 : σ63 86 33 = z21 + 1 := ((ups_r e64 (by omega))).trans (ups_v e58)
                have t67 : σ63 86 34 = z59 + 0 := ups_v e64
                exact ih_22 (Int.tmod ((1103515245 * v6) + 12345) 2147483648) (v8 + 1) σ63 (fun k j hk => ((ups_r e64 (by omega)).trans ((ups_r e58 (by omega)).trans ((ups_r e20 (by omega)).trans (hf22 _ _ (by omega)))))) (by show 0 ≤ (Int.tmod ((1103515245 * v6) + 12345) 2147483648); omega) (by show (Int.tmod ((1103515245 * v6) + 12345) 2147483648) ≤ 2147483668; omega) (by show a3 ≤ (v8 + 1); omega) (by show (v8 + 1) ≤ 2000; omega) (by show (v8 + 1) ≤ a3 + a4; omega) (by show 0 ≤ σ63 86 32; omega) (by show σ63 86 32 ≤ (v8 + 1) - a3; omega) (by show 0 ≤ σ63 86 33; omega) (by show σ63 86 33 ≤ (v8 + 1) - a3; omega) (by show 0 ≤ σ63 86 34; omega) (by show σ63 86 34 ≤ (v8 + 1) - a3; omega) (by omega)
              · skip
                show WP_ X G Q 0 0 ad SHS_ σ57 150 [(42, 86), (9, 0), (9, 0), (0, a2), (0, a3), (0, a4), (1, Int.tmod ((1103515245 * v6) + 12345) 2147483648), (9, 0), (0, v8), (0, 0)] [(0, z59), (42, 86)]
                refine B rfl ?_
                refine Exists.intro (a2, v8) (And.intro rfl (And.intro (And.intro (by show 0 ≤ a2; omega) (And.intro (by show a2 ≤ 2; omega) (And.intro (by show 0 ≤ v8; omega) (by show v8 ≤ 1999; omega)))) ?_))
                rintro z68 m_ h69
                obtain rfl : σ57 = m_ := h69.2
                have h70 : (z68 = 1 ∧ σ57 96 (2000 * a2 + v8) = 0) ∨ (z68 = 0 ∧ σ57 96 (2000 * a2 + v8) ≠ 0) := h69.1
                try have t71 : σ57 96 (2000 * a2 + v8) = σ 96 (2000 * a2 + v8) := ((ups_r e58 (by omega)).trans ((ups_r e20 (by omega)).trans (hf22 _ _ (by omega))))
                refine And.intro (fun h72 => ?_) (fun h72 => ?_)
                · skip
                  refine B rfl ?_
                  refine And.intro (by omega) ?_
                  refine And.intro (by omega) ?_
                  intro σ73 e74
                  refine And.intro (by omega) ?_
                  show WP_ X G Q 0 0 ad SHS_ σ73 22 [(42, 86), (9, 0), (9, 0), (0, a2), (0, a3), (0, a4), (1, Int.tmod ((1103515245 * v6) + 12345) 2147483648), (9, 0), (0, v8 + 1), (0, 0)] []
                  refine wdrop_ (L' := [(42, 86), (9, 0), (9, 0), (0, a2), (0, a3), (0, a4), (1, Int.tmod ((1103515245 * v6) + 12345) 2147483648), (9, 0), (0, v8 + 1), (9, 0)]) ⟨Or.inr rfl, ⟨Or.inl rfl, ⟨Or.inl rfl, ⟨Or.inr rfl, ⟨Or.inr rfl, ⟨Or.inr rfl, ⟨Or.inr rfl, ⟨Or.inl rfl, ⟨Or.inr rfl, ⟨Or.inl rfl, trivial⟩⟩⟩⟩⟩⟩⟩⟩⟩⟩ ?_
                  have t75 : σ73 86 32 = z17 + 0 := (((ups_r e74 (by omega)).trans (ups_r e58 (by omega)))).trans (ups_v e20)
                  have t76 : σ73 86 33 = z21 + 1 := ((ups_r e74 (by omega))).trans (ups_v e58)
                  have t77 : σ73 86 34 = z59 + 0 := ups_v e74
                  exact ih_22 (Int.tmod ((1103515245 * v6) + 12345) 2147483648) (v8 + 1) σ73 (fun k j hk => ((ups_r e74 (by omega)).trans ((ups_r e58 (by omega)).trans ((ups_r e20 (by omega)).trans (hf22 _ _ (by omega)))))) (by show 0 ≤ (Int.tmod ((1103515245 * v6) + 12345) 2147483648); omega) (by show (Int.tmod ((1103515245 * v6) + 12345) 2147483648) ≤ 2147483668; omega) (by show a3 ≤ (v8 + 1); omega) (by show (v8 + 1) ≤ 2000; omega) (by show (v8 + 1) ≤ a3 + a4; omega) (by show 0 ≤ σ73 86 32; omega) (by show σ73 86 32 ≤ (v8 + 1) - a3; omega) (by show 0 ≤ σ73 86 33; omega) (by show σ73 86 33 ≤ (v8 + 1) - a3; omega) (by show 0 ≤ σ73 86 34; omega) (by show σ73 86 34 ≤ (v8 + 1) - a3; omega) (by omega)
                · skip
                  show WP_ X G Q 0 0 ad SHS_ σ57 160 [(42, 86), (9, 0), (9, 0), (0, a2), (0, a3), (0, a4), (1, Int.tmod ((1103515245 * v6) + 12345) 2147483648), (9, 0), (0, v8), (0, 0)] [(0, z59), (42, 86)]
                  refine B rfl ?_
                  refine B rfl ?_
                  refine And.intro (by omega) ?_
                  refine And.intro (by omega) ?_
                  intro σ78 e79
                  refine And.intro (by omega) ?_
                  show WP_ X G Q 0 0 ad SHS_ σ78 22 [(42, 86), (9, 0), (9, 0), (0, a2), (0, a3), (0, a4), (1, Int.tmod ((1103515245 * v6) + 12345) 2147483648), (9, 0), (0, v8 + 1), (0, 0)] []
                  refine wdrop_ (L' := [(42, 86), (9, 0), (9, 0), (0, a2), (0, a3), (0, a4), (1, Int.tmod ((1103515245 * v6) + 12345) 2147483648), (9, 0), (0, v8 + 1), (9, 0)]) ⟨Or.inr rfl, ⟨Or.inl rfl, ⟨Or.inl rfl, ⟨Or.inr rfl, ⟨Or.inr rfl, ⟨Or.inr rfl, ⟨Or.inr rfl, ⟨Or.inl rfl, ⟨Or.inr rfl, ⟨Or.inl rfl, trivial⟩⟩⟩⟩⟩⟩⟩⟩⟩⟩ ?_
                  have t80 : σ78 86 32 = z17 + 0 := (((ups_r e79 (by omega)).trans (ups_r e58 (by omega)))).trans (ups_v e20)
                  have t81 : σ78 86 33 = z21 + 1 := ((ups_r e79 (by omega))).trans (ups_v e58)
                  have t82 : σ78 86 34 = z59 + 1 := ups_v e79
                  exact ih_22 (Int.tmod ((1103515245 * v6) + 12345) 2147483648) (v8 + 1) σ78 (fun k j hk => ((ups_r e79 (by omega)).trans ((ups_r e58 (by omega)).trans ((ups_r e20 (by omega)).trans (hf22 _ _ (by omega)))))) (by show 0 ≤ (Int.tmod ((1103515245 * v6) + 12345) 2147483648); omega) (by show (Int.tmod ((1103515245 * v6) + 12345) 2147483648) ≤ 2147483668; omega) (by show a3 ≤ (v8 + 1); omega) (by show (v8 + 1) ≤ 2000; omega) (by show (v8 + 1) ≤ a3 + a4; omega) (by show 0 ≤ σ78 86 32; omega) (by show σ78 86 32 ≤ (v8 + 1) - a3; omega) (by show 0 ≤ σ78 86 33; omega) (by show σ78 86 33 ≤ (v8 + 1) - a3; omega) (by show 0 ≤ σ78 86 34; omega) (by show σ78 86 34 ≤ (v8 + 1) - a3; omega) (by omega)
          · simp only [lcmp_lt0, lcmp_ge0, lcmp_gt0, lcmp_le0, lcmp_eq0] at h16
            show WP_ X G Q 0 0 ad SHS_ τ22 77 [(42, 86), (9, 0), (9, 0), (0, a2), (0, a3), (0, a4), (1, Int.tmod ((1103515245 * v6) + 12345) 2147483648), (9, 0), (0, v8), (9, 0)] []
            refine B rfl ?_
            refine B rfl ?_
            intro z83 ez83 hz83
            have hz83 : (0 : Int) ≤ z83 ∧ z83 ≤ (100 : Int) := hz83
            refine And.intro (fun h84 => (by exfalso; omega)) (fun h84 => ?_)
            show WP_ X G Q 0 0 ad SHS_ τ22 94 [(42, 86), (9, 0), (9, 0), (0, a2), (0, a3), (0, a4), (1, Int.tmod ((1103515245 * v6) + 12345) 2147483648), (9, 0), (0, v8), (0, 1)] [(0, z83), (42, 86)]
            refine B rfl ?_
            refine B rfl ?_
            refine And.intro (by omega) ?_
            refine And.intro (by omega) ?_
            intro σ85 e86
            intro z87 ez87 hz87
            have hz87 : (0 : Int) ≤ z87 ∧ z87 ≤ (100 : Int) := hz87
            try have t88 : σ85 86 33 = τ22 86 33 := (ups_r e86 (by omega))
            refine And.intro (fun h89 => ?_) (fun h89 => (by exfalso; omega))
            refine B rfl ?_
            refine And.intro (by omega) ?_
            refine And.intro (by omega) ?_
            intro σ90 e91
            intro z92 ez92 hz92
            have hz92 : (0 : Int) ≤ z92 ∧ z92 ≤ (100 : Int) := hz92
            try have t93 : σ90 86 34 = τ22 86 34 := ((ups_r e91 (by omega)).trans (ups_r e86 (by omega)))
            refine And.intro (fun h94 => ?_) (fun h94 => (by exfalso; omega))
            refine B rfl ?_
            refine And.intro (by omega) ?_
            refine And.intro (by omega) ?_
            intro σ95 e96
            refine And.intro (by omega) ?_
            show WP_ X G Q 0 0 ad SHS_ σ95 22 [(42, 86), (9, 0), (9, 0), (0, a2), (0, a3), (0, a4), (1, Int.tmod ((1103515245 * v6) + 12345) 2147483648), (9, 0), (0, v8 + 1), (0, 1)] []
            refine wdrop_ (L' := [(42, 86), (9, 0), (9, 0), (0, a2), (0, a3), (0, a4), (1, Int.tmod ((1103515245 * v6) + 12345) 2147483648), (9, 0), (0, v8 + 1), (9, 0)]) ⟨Or.inr rfl, ⟨Or.inl rfl, ⟨Or.inl rfl, ⟨Or.inr rfl, ⟨Or.inr rfl, ⟨Or.inr rfl, ⟨Or.inr rfl, ⟨Or.inl rfl, ⟨Or.inr rfl, ⟨Or.inl rfl, trivial⟩⟩⟩⟩⟩⟩⟩⟩⟩⟩ ?_
            have t97 : σ95 86 32 = z83 + 1 := (((ups_r e96 (by omega)).trans (ups_r e91 (by omega)))).trans (ups_v e86)
            have t98 : σ95 86 33 = z87 + 0 := ((ups_r e96 (by omega))).trans (ups_v e91)
            have t99 : σ95 86 34 = z92 + 0 := ups_v e96
            exact ih_22 (Int.tmod ((1103515245 * v6) + 12345) 2147483648) (v8 + 1) σ95 (fun k j hk => ((ups_r e96 (by omega)).trans ((ups_r e91 (by omega)).trans ((ups_r e86 (by omega)).trans (hf22 _ _ (by omega)))))) (by show 0 ≤ (Int.tmod ((1103515245 * v6) + 12345) 2147483648); omega) (by show (Int.tmod ((1103515245 * v6) + 12345) 2147483648) ≤ 2147483668; omega) (by show a3 ≤ (v8 + 1); omega) (by show (v8 + 1) ≤ 2000; omega) (by show (v8 + 1) ≤ a3 + a4; omega) (by show 0 ≤ σ95 86 32; omega) (by show σ95 86 32 ≤ (v8 + 1) - a3; omega) (by show 0 ≤ σ95 86 33; omega) (by show σ95 86 33 ≤ (v8 + 1) - a3; omega) (by show 0 ≤ σ95 86 34; omega) (by show σ95 86 34 ≤ (v8 + 1) - a3; omega) (by omega)
  have t100 : σ5 86 32 = 0 := (((ups_r e6 (by omega)).trans (ups_r e4 (by omega)))).trans (ups_v e2)
  have t101 : σ5 86 33 = 0 := ((ups_r e6 (by omega))).trans (ups_v e4)
  have t102 : σ5 86 34 = 0 := ups_v e6
  exact lp_22 ((2000 - a3 : Int).toNat + 1) a1 a3 σ5 (fun k j hk => ((ups_r e6 (by omega)).trans ((ups_r e4 (by omega)).trans (ups_r e2 (by omega))))) (by show 0 ≤ a1; omega) (by show a1 ≤ 2147483668; omega) (by show a3 ≤ a3; omega) (by show a3 ≤ 2000; omega) (by show a3 ≤ a3 + a4; omega) (by show 0 ≤ σ5 86 32; omega) (by show σ5 86 32 ≤ a3 - a3; omega) (by show 0 ≤ σ5 86 33; omega) (by show σ5 86 33 ≤ a3 - a3; omega) (by show 0 ≤ σ5 86 34; omega) (by show σ5 86 34 ≤ a3 - a3; omega) (by omega)
def as_G_X11_drawn : Int × Int × Int × Int → List Sv_t := fun a => [(42, 86), (0, a.1), (0, a.2.1), (0, a.2.2.1), (0, a.2.2.2)]
def pre_G_X11_drawn : Int × Int × Int × Int → Me_t → Prop := fun a σ => (MI σ)
def post_G_X11_drawn : Int × Int × Int × Int → Me_t → Int → Me_t → Prop := fun a σ z σ' => (∀ k j : Int, ¬ (k = 86 ∨ (93 ≤ k ∧ k ≤ 96)) → σ' k j = σ k j)
set_option maxHeartbeats 1500000 in
set_option maxRecDepth 100000 in
theorem ct_G_X11_drawn (l : Launch) : CT_ l yX11_drawn cX11_drawn 5 (some .int) 4 95 as_G_X11_drawn (rmI_) pre_G_X11_drawn post_G_X11_drawn := by
  refine ct_of (by decide) (fun _ => Nat.le_of_ble_eq_true rfl) ?_
  intro X G Q ad σ a hl hR E hG R hM hv hp
  obtain ⟨a1, a2, a3, a4⟩ := a
  have r_a1 : -2147483648 ≤ a1 ∧ a1 ≤ 2147483647 := hv (0, a1) (List.mem_of_getElem? (i := 1) rfl)
  have r_a2 : -2147483648 ≤ a2 ∧ a2 ≤ 2147483647 := hv (0, a2) (List.mem_of_getElem? (i := 2) rfl)
  have r_a3 : -2147483648 ≤ a3 ∧ a3 ≤ 2147483647 := hv (0, a3) (List.mem_of_getElem? (i := 3) rfl)
  have r_a4 : -2147483648 ≤ a4 ∧ a4 ≤ 2147483647 := hv (0, a4) (List.mem_of_getElem? (i := 4) rfl)
  have hp0 : MI σ := hp
  have B := @bk_ X G Q 0 0 ad SHS_ RX11 cX11_drawn 5 (some .int) flX11 plX11 knX11 [(184, 1, TR_ as_G_X11_isWar (rmI_) pre_G_X11_isWar post_G_X11_isWar), (963, 1, TR_ as_G_X11_isSeed (rmI_) pre_G_X11_isSeed post_G_X11_isSeed), (179, 1, TR_ as_G_X11_isDay (rmI_) pre_G_X11_isDay post_G_X11_isDay), (159, 3, TR_ as_G_X11_in (rmI_) pre_G_X11_in post_G_X11_in), (538, 1, TR_ as_G_X11_lay (rmV_) pre_G_X11_lay post_G_X11_lay), (968, 5, TR_ as_G_X11_goRain (rmV_) pre_G_X11_goRain post_G_X11_goRain)] _ _ none kX11_drawn [] flX11_ok plX11_ok knX11_ok eX11_drawn oX11_drawn
    (List.forall_mem_cons.mpr ⟨cok_v (t := 32) (c := 11) (N := 39) (n := 0) (idx := 92) E (ct_G_X11_isWar X.2.1) (by rw [hR]; decide) (Nat.zero_le _) (Nat.zero_le _) hG rfl rfl ⟨rfl, by decide, by decide, by decide⟩ (fun _ => ⟨_, _, rfl, rfl⟩) wl_X11_92 wi_X11_isWar ws_X11_isWar wn_X11 wc_X11_isWar, List.forall_mem_cons.mpr ⟨cok_s (n := 1) (idx := 481) E (ct_G_X11_isSeed X.2.1) (by rw [hR]; decide) (Nat.zero_le _) (Nat.zero_le _) hG ⟨by decide, by decide, by decide⟩ (fun _ => rfl) wl_X11_481 wt_X11_isSeed wn_X11 wc_X11_isSeed, List.forall_mem_cons.mpr ⟨cok_s (n := 1) (idx := 89) E (ct_G_X11_isDay X.2.1) (by rw [hR]; decide) (Nat.zero_le _) (Nat.zero_le _) hG ⟨by decide, by decide, by decide⟩ (fun _ => rfl) wl_X11_89 wt_X11_isDay wn_X11 wc_X11_isDay, List.forall_mem_cons.mpr ⟨cok_s (n := 3) (idx := 79) E (ct_G_X11_in X.2.1) (by rw [hR]; decide) (Nat.zero_le _) (Nat.zero_le _) hG ⟨by decide, by decide, by decide⟩ (fun _ => rfl) wl_X11_79 wt_X11_in wn_X11 wc_X11_in, List.forall_mem_cons.mpr ⟨cok_v (t := 32) (c := 11) (N := 39) (n := 0) (idx := 269) E (ct_G_X11_lay X.2.1) (by rw [hR]; decide) (Nat.zero_le _) (Nat.zero_le _) hG rfl rfl ⟨rfl, by decide, by decide, by decide⟩ (fun _ => ⟨_, _, rfl, rfl⟩) wl_X11_269 wi_X11_lay ws_X11_lay wn_X11 wc_X11_lay, List.forall_mem_cons.mpr ⟨cok_v (t := 32) (c := 11) (N := 39) (n := 4) (idx := 484) E (ct_G_X11_goRain X.2.1) (by rw [hR]; decide) (Nat.zero_le _) (Nat.zero_le _) hG rfl rfl ⟨rfl, by decide, by decide, by decide⟩ (fun _ => ⟨_, _, rfl, rfl⟩) wl_X11_484 wi_X11_goRain ws_X11_goRain wn_X11 wc_X11_goRain, fun _ h => absurd h List.not_mem_nil⟩⟩⟩⟩⟩⟩) R sok_no E
  show WP_ X G Q 0 0 ad SHS_ σ 0 [(42, 86), (0, a1), (0, a2), (0, a3), (0, a4)] []
  refine B rfl ?_
  refine Exists.intro () (And.intro rfl (And.intro True.intro ?_))
  rintro z1 m_ h2
  obtain rfl : σ = m_ := h2.2
  have h3 : 0 ≤ z1 ∧ z1 ≤ 1 := h2.1
  refine And.intro (fun h4 => ?_) (fun h4 => ?_)
  · skip
    refine B rfl ?_
    refine Exists.intro _ (And.intro rfl ?_)
    exact (fun k j hk => rfl)
  · skip
    refine Exists.intro a1 (And.intro rfl (And.intro True.intro ?_))
    rintro z5 m_ h6
    obtain rfl : σ = m_ := h6.2
    have h7 : (z5 = 1 ∧ 0 ≤ a1 ∧ a1 ≤ 2000000000) ∨ z5 = 0 := h6.1
    refine And.intro (fun h8 => ?_) (fun h8 => ?_)
    · skip
      refine B rfl ?_
      refine Exists.intro _ (And.intro rfl ?_)
      exact (fun k j hk => rfl)
    · skip
      refine Exists.intro a2 (And.intro rfl (And.intro True.intro ?_))
      rintro z9 m_ h10
      obtain rfl : σ = m_ := h10.2
      have h11 : (z9 = 1 ∧ 0 ≤ a2 ∧ a2 ≤ 1999) ∨ z9 = 0 := h10.1
      refine And.intro (fun h12 => ?_) (fun h12 => ?_)
      · skip
        refine B rfl ?_
        refine Exists.intro _ (And.intro rfl ?_)
        exact (fun k j hk => rfl)
      · skip
        refine Exists.intro (a3, 1, 100) (And.intro rfl (And.intro True.intro ?_))
        rintro z13 m_ h14
        obtain rfl : σ = m_ := h14.2
        have h15 : (z13 = 1 ∧ 1 ≤ a3 ∧ a3 ≤ 100) ∨ (z13 = 0 ∧ ¬ (1 ≤ a3 ∧ a3 ≤ 100)) := h14.1
        refine And.intro (fun h16 => ?_) (fun h16 => ?_)
        · skip
          refine B rfl ?_
          refine Exists.intro _ (And.intro rfl ?_)
          exact (fun k j hk => rfl)
        · skip
          refine Exists.intro (a4, 0, 1) (And.intro rfl (And.intro True.intro ?_))
          rintro z17 m_ h18
          obtain rfl : σ = m_ := h18.2
          have h19 : (z17 = 1 ∧ 0 ≤ a4 ∧ a4 ≤ 1) ∨ (z17 = 0 ∧ ¬ (0 ≤ a4 ∧ a4 ≤ 1)) := h18.1
          refine And.intro (fun h20 => ?_) (fun h20 => ?_)
          · skip
            refine B rfl ?_
            refine Exists.intro () (And.intro rfl (And.intro hp0 ?_))
            intro z21 σ23 h22
            have f24 : ∀ k j : Int, ¬ (93 ≤ k ∧ k ≤ 96) → σ23 k j = σ k j := h22.2
            have h25 : LY σ23 := h22.1
            have p26 : MI σ23 := MI_fr hp0 (fun k j hk => (f24 _ _ (by omega)))
            have p27 : BW σ23 87 := (p26).1.1
            refine Exists.intro (a1, (-1), a2, a3) (And.intro rfl (And.intro (And.intro p27 (And.intro (by show 0 ≤ a1; omega) (And.intro (by show a1 ≤ 2147483668; omega) (And.intro (by show -1 ≤ (-1); omega) (And.intro (by show (-1) ≤ 2; omega) (And.intro (by show 0 ≤ a2; omega) (And.intro (by show a2 ≤ 1999; omega) (And.intro (by show 1 ≤ a3; omega) (by show a3 ≤ 100; omega))))))))) ?_))
            intro z28 σ30 h29
            have f31 : ∀ k j : Int, ¬ (k = 86) → σ30 k j = σ23 k j := h29
            refine And.intro (fun h32 => ?_) (fun h32 => ?_)
            · skip
              refine B rfl ?_
              intro z33 ez33 hz33
              have hz33 : (0 : Int) ≤ z33 ∧ z33 ≤ (100 : Int) := hz33
              try have t34 : σ30 86 33 = σ 86 33 := ((f31 _ _ (by omega)).trans (f24 _ _ (by omega)))
              refine Exists.intro _ (And.intro rfl ?_)
              exact (fun k j hk => ((f31 _ _ (by omega)).trans (f24 _ _ (by omega))))
            · skip
              intro z35 ez35 hz35
              have hz35 : (0 : Int) ≤ z35 ∧ z35 ≤ (100 : Int) := hz35
              try have t36 : σ30 86 32 = σ 86 32 := ((f31 _ _ (by omega)).trans (f24 _ _ (by omega)))
              refine B rfl ?_
              refine Exists.intro _ (And.intro rfl ?_)
              exact (fun k j hk => ((f31 _ _ (by omega)).trans (f24 _ _ (by omega))))
          · skip
            refine Exists.intro _ (And.intro rfl ?_)
            exact (fun k j hk => rfl)
def as_G_X11_luck : Int × Int × Int × Int × Int → List Sv_t := fun a => [(42, 86), (0, a.1), (0, a.2.1), (0, a.2.2.1), (0, a.2.2.2.1), (0, a.2.2.2.2)]
def pre_G_X11_luck : Int × Int × Int × Int × Int → Me_t → Prop := fun a σ => (MI σ)
def post_G_X11_luck : Int × Int × Int × Int × Int → Me_t → Int → Me_t → Prop := fun a σ z σ' => (∀ k j : Int, ¬ (k = 86 ∨ (93 ≤ k ∧ k ≤ 96)) → σ' k j = σ k j)
set_option maxHeartbeats 1500000 in
set_option maxRecDepth 100000 in
theorem ct_G_X11_luck (l : Launch) : CT_ l yX11_luck cX11_luck 8 (some .int) 4 95 as_G_X11_luck (rmI_) pre_G_X11_luck post_G_X11_luck := by
  refine ct_of (by decide) (fun _ => Nat.le_of_ble_eq_true rfl) ?_
  intro X G Q ad σ a hl hR E hG R hM hv hp
  obtain ⟨a1, a2, a3, a4, a5⟩ := a
  have r_a1 : -2147483648 ≤ a1 ∧ a1 ≤ 2147483647 := hv (0, a1) (List.mem_of_getElem? (i := 1) rfl)
  have r_a2 : -2147483648 ≤ a2 ∧ a2 ≤ 2147483647 := hv (0, a2) (List.mem_of_getElem? (i := 2) rfl)
  have r_a3 : -2147483648 ≤ a3 ∧ a3 ≤ 2147483647 := hv (0, a3) (List.mem_of_getElem? (i := 3) rfl)
  have r_a4 : -2147483648 ≤ a4 ∧ a4 ≤ 2147483647 := hv (0, a4) (List.mem_of_getElem? (i := 4) rfl)
  have r_a5 : -2147483648 ≤ a5 ∧ a5 ≤ 2147483647 := hv (0, a5) (List.mem_of_getElem? (i := 5) rfl)
  have hp0 : MI σ := hp
  have B := @bk_ X G Q 0 0 ad SHS_ RX11 cX11_luck 8 (some .int) flX11 plX11 knX11 [(963, 1, TR_ as_G_X11_isSeed (rmI_) pre_G_X11_isSeed post_G_X11_isSeed), (159, 3, TR_ as_G_X11_in (rmI_) pre_G_X11_in post_G_X11_in), (166, 2, TR_ as_G_X11_isLand (rmI_) pre_G_X11_isLand post_G_X11_isLand), (179, 1, TR_ as_G_X11_isDay (rmI_) pre_G_X11_isDay post_G_X11_isDay), (538, 1, TR_ as_G_X11_lay (rmV_) pre_G_X11_lay post_G_X11_lay), (968, 5, TR_ as_G_X11_goRain (rmV_) pre_G_X11_goRain post_G_X11_goRain)] _ _ none kX11_luck [7, 19, 28, 37, 50, 63, 69, 93] flX11_ok plX11_ok knX11_ok eX11_luck oX11_luck
    (List.forall_mem_cons.mpr ⟨cok_s (n := 1) (idx := 481) E (ct_G_X11_isSeed X.2.1) (by rw [hR]; decide) (Nat.zero_le _) (Nat.zero_le _) hG ⟨by decide, by decide, by decide⟩ (fun _ => rfl) wl_X11_481 wt_X11_isSeed wn_X11 wc_X11_isSeed, List.forall_mem_cons.mpr ⟨cok_s (n := 3) (idx := 79) E (ct_G_X11_in X.2.1) (by rw [hR]; decide) (Nat.zero_le _) (Nat.zero_le _) hG ⟨by decide, by decide, by decide⟩ (fun _ => rfl) wl_X11_79 wt_X11_in wn_X11 wc_X11_in, List.forall_mem_cons.mpr ⟨cok_v (t := 32) (c := 11) (N := 39) (n := 1) (idx := 83) E (ct_G_X11_isLand X.2.1) (by rw [hR]; decide) (Nat.zero_le _) (Nat.zero_le _) hG rfl rfl ⟨rfl, by decide, by decide, by decide⟩ (fun _ => ⟨_, _, rfl, rfl⟩) wl_X11_83 wi_X11_isLand ws_X11_isLand wn_X11 wc_X11_isLand, List.forall_mem_cons.mpr ⟨cok_s (n := 1) (idx := 89) E (ct_G_X11_isDay X.2.1) (by rw [hR]; decide) (Nat.zero_le _) (Nat.zero_le _) hG ⟨by decide, by decide, by decide⟩ (fun _ => rfl) wl_X11_89 wt_X11_isDay wn_X11 wc_X11_isDay, List.forall_mem_cons.mpr ⟨cok_v (t := 32) (c := 11) (N := 39) (n := 0) (idx := 269) E (ct_G_X11_lay X.2.1) (by rw [hR]; decide) (Nat.zero_le _) (Nat.zero_le _) hG rfl rfl ⟨rfl, by decide, by decide, by decide⟩ (fun _ => ⟨_, _, rfl, rfl⟩) wl_X11_269 wi_X11_lay ws_X11_lay wn_X11 wc_X11_lay, List.forall_mem_cons.mpr ⟨cok_v (t := 32) (c := 11) (N := 39) (n := 4) (idx := 484) E (ct_G_X11_goRain X.2.1) (by rw [hR]; decide) (Nat.zero_le _) (Nat.zero_le _) hG rfl rfl ⟨rfl, by decide, by decide, by decide⟩ (fun _ => ⟨_, _, rfl, rfl⟩) wl_X11_484 wi_X11_goRain ws_X11_goRain wn_X11 wc_X11_goRain, fun _ h => absurd h List.not_mem_nil⟩⟩⟩⟩⟩⟩) R sok_no E
  show WP_ X G Q 0 0 ad SHS_ σ 0 [(42, 86), (0, a1), (0, a2), (0, a3), (0, a4), (0, a5), (9, 0), (9, 0)] []
  refine B rfl ?_
  refine Exists.intro a1 (And.intro rfl (And.intro True.intro ?_))
  rintro z1 m_ h2
  obtain rfl : σ = m_ := h2.2
  have h3 : (z1 = 1 ∧ 0 ≤ a1 ∧ a1 ≤ 2000000000) ∨ z1 = 0 := h2.1
  refine And.intro (fun h4 => ?_) (fun h4 => ?_)
  · skip
    refine B rfl ?_
    refine Exists.intro _ (And.intro rfl ?_)
    exact (fun k j hk => rfl)
  · skip
    show WP_ X G Q 0 0 ad SHS_ σ 7 [(42, 86), (0, a1), (0, a2), (0, a3), (0, a4), (0, a5), (9, 0), (9, 0)] []
    refine B rfl ?_
    refine Exists.intro (a2, 1, 20) (And.intro rfl (And.intro True.intro ?_))
    rintro z5 m_ h6
    obtain rfl : σ = m_ := h6.2
    have h7 : (z5 = 1 ∧ 1 ≤ a2 ∧ a2 ≤ 20) ∨ (z5 = 0 ∧ ¬ (1 ≤ a2 ∧ a2 ≤ 20)) := h6.1
    refine And.intro (fun h8 => ?_) (fun h8 => ?_)
    · skip
      refine B rfl ?_
      refine Exists.intro _ (And.intro rfl ?_)
      exact (fun k j hk => rfl)
    · skip
      show WP_ X G Q 0 0 ad SHS_ σ 19 [(42, 86), (0, a1), (0, a2), (0, a3), (0, a4), (0, a5), (9, 0), (9, 0)] []
      refine B rfl ?_
      have p9 : BW σ 87 := (hp0).1.1
      refine Exists.intro a3 (And.intro rfl (And.intro p9 ?_))
      rintro z10 m_ h11
      obtain rfl : σ = m_ := h11.2
      have h12 : (z10 = 1 ∧ 0 ≤ a3 ∧ a3 ≤ 2 ∧ a3 < σ 87 1) ∨ z10 = 0 := h11.1
      refine And.intro (fun h13 => ?_) (fun h13 => ?_)
      · skip
        refine B rfl ?_
        refine Exists.intro _ (And.intro rfl ?_)
        exact (fun k j hk => rfl)
      · skip
        show WP_ X G Q 0 0 ad SHS_ σ 28 [(42, 86), (0, a1), (0, a2), (0, a3), (0, a4), (0, a5), (9, 0), (9, 0)] []
        refine B rfl ?_
        refine Exists.intro a4 (And.intro rfl (And.intro True.intro ?_))
        rintro z14 m_ h15
        obtain rfl : σ = m_ := h15.2
        have h16 : (z14 = 1 ∧ 0 ≤ a4 ∧ a4 ≤ 1999) ∨ z14 = 0 := h15.1
        refine And.intro (fun h17 => ?_) (fun h17 => ?_)
        · skip
          refine B rfl ?_
          refine Exists.intro _ (And.intro rfl ?_)
          exact (fun k j hk => rfl)
        · skip
          show WP_ X G Q 0 0 ad SHS_ σ 37 [(42, 86), (0, a1), (0, a2), (0, a3), (0, a4), (0, a5), (9, 0), (9, 0)] []
          refine B rfl ?_
          refine Exists.intro (a5, 1, 100) (And.intro rfl (And.intro True.intro ?_))
          rintro z18 m_ h19
          obtain rfl : σ = m_ := h19.2
          have h20 : (z18 = 1 ∧ 1 ≤ a5 ∧ a5 ≤ 100) ∨ (z18 = 0 ∧ ¬ (1 ≤ a5 ∧ a5 ≤ 100)) := h19.1
          refine And.intro (fun h21 => ?_) (fun h21 => ?_)
          · skip
            refine B rfl ?_
            refine Exists.intro () (And.intro rfl (And.intro hp0 ?_))
            intro z22 σ24 h23
            have f25 : ∀ k j : Int, ¬ (93 ≤ k ∧ k ≤ 96) → σ24 k j = σ k j := h23.2
            have h26 : LY σ24 := h23.1
            have lp_63 : ∀ (nq_ : Nat) (v6 : Int) (v7 : Int) (τ63 : Me_t), (∀ k j : Int, ¬ (k = 86 ∨ (93 ≤ k ∧ k ≤ 96)) → τ63 k j = σ k j) → (0 ≤ v7) → (v7 ≤ a2) → (0 ≤ v6) → (v6 ≤ v7) → (a2 - v7 : Int).toNat < nq_ → WP_ X G Q 0 0 ad SHS_ τ63 63 [(42, 86), (0, a1), (0, a2), (0, a3), (0, a4), (0, a5), (0, v6), (0, v7)] [] := by
              intro nq_
              induction nq_ with
              | zero => intros; omega
              | succ nq_ ih_63 =>
                intro v6 v7 τ63 hf63 hi63_0 hi63_1 hi63_2 hi63_3 hm63
                refine B rfl ?_
                refine And.intro (fun h27 => ?_) (fun h27 => ?_)
                · skip
                  refine B rfl ?_
                  refine Exists.intro _ (And.intro rfl ?_)
                  exact (fun k j hk => (hf63 _ _ (by omega)))
                · skip
                  show WP_ X G Q 0 0 ad SHS_ τ63 69 [(42, 86), (0, a1), (0, a2), (0, a3), (0, a4), (0, a5), (0, v6), (0, v7)] []
                  refine B rfl ?_
                  refine And.intro (by omega) ?_
                  have p28 : MI τ63 := MI_fr hp0 (fun k j hk => (hf63 _ _ (by omega)))
                  have p29 : BW τ63 87 := (p28).1.1
                  refine Exists.intro (a1 + v7, a3, a4, a5) (And.intro rfl (And.intro (And.intro p29 (And.intro (by show 0 ≤ (a1 + v7); omega) (And.intro (by show (a1 + v7) ≤ 2147483668; omega) (And.intro (by show -1 ≤ a3; omega) (And.intro (by show a3 ≤ 2; omega) (And.intro (by show 0 ≤ a4; omega) (And.intro (by show a4 ≤ 1999; omega) (And.intro (by show 1 ≤ a5; omega) (by show a5 ≤ 100; omega))))))))) ?_))
                  intro z30 σ32 h31
                  have f33 : ∀ k j : Int, ¬ (k = 86) → σ32 k j = τ63 k j := h31
                  intro z34 ez34 hz34
                  have hz34 : (0 : Int) ≤ z34 ∧ z34 ≤ (100 : Int) := hz34
                  try have t35 : σ32 86 34 = σ 86 34 := ((f33 _ _ (by omega)).trans (hf63 _ _ (by omega)))
                  refine And.intro (fun h36 => ?_) (fun h36 => ?_)
                  · skip
                    refine B rfl ?_
                    refine And.intro (by omega) ?_
                    refine And.intro (by omega) ?_
                    exact ih_63 (v6 + 0) (v7 + 1) σ32 (fun k j hk => ((f33 _ _ (by omega)).trans (hf63 _ _ (by omega)))) (by show 0 ≤ (v7 + 1); omega) (by show (v7 + 1) ≤ a2; omega) (by show 0 ≤ (v6 + 0); omega) (by show (v6 + 0) ≤ (v7 + 1); omega) (by omega)
                  · skip
                    show WP_ X G Q 0 0 ad SHS_ σ32 93 [(42, 86), (0, a1), (0, a2), (0, a3), (0, a4), (0, a5), (0, v6), (0, v7)] [(0, v6)]
                    refine B rfl ?_
                    refine B rfl ?_
                    refine And.intro (by omega) ?_
                    refine And.intro (by omega) ?_
                    exact ih_63 (v6 + 1) (v7 + 1) σ32 (fun k j hk => ((f33 _ _ (by omega)).trans (hf63 _ _ (by omega)))) (by show 0 ≤ (v7 + 1); omega) (by show (v7 + 1) ≤ a2; omega) (by show 0 ≤ (v6 + 1); omega) (by show (v6 + 1) ≤ (v7 + 1); omega) (by omega)
            exact lp_63 ((a2 - 0 : Int).toNat + 1) 0 0 σ24 (fun k j hk => (f25 _ _ (by omega))) (by show 0 ≤ 0; omega) (by show 0 ≤ a2; omega) (by show 0 ≤ 0; omega) (by show 0 ≤ 0; omega) (by omega)
          · skip
            show WP_ X G Q 0 0 ad SHS_ σ 50 [(42, 86), (0, a1), (0, a2), (0, a3), (0, a4), (0, a5), (9, 0), (9, 0)] []
            refine B rfl ?_
            refine Exists.intro _ (And.intro rfl ?_)
            exact (fun k j hk => rfl)
def as_G_X11_areSaints : Int × Int × Int × Int × Int → List Sv_t := fun a => [(42, 86), (0, a.1), (0, a.2.1), (0, a.2.2.1), (0, a.2.2.2.1), (0, a.2.2.2.2)]
def pre_G_X11_areSaints : Int × Int × Int × Int × Int → Me_t → Prop := fun a σ => (BW σ 87)
def post_G_X11_areSaints : Int × Int × Int × Int × Int → Me_t → Int → Me_t → Prop := fun a σ z σ' => ((z = 1 ∧ 0 ≤ a.1 ∧ a.1 ≤ 2 ∧ a.1 < σ 87 1 ∧ 0 ≤ a.2.1 ∧ a.2.1 ≤ 7 ∧ 0 ≤ a.2.2.1 ∧ a.2.2.1 ≤ 1999 ∧ 1 ≤ a.2.2.2.1 ∧ a.2.2.2.1 ≤ 20 ∧ 1 ≤ a.2.2.2.2 ∧ a.2.2.2.2 ≤ 9) ∨ z = 0) ∧ (σ = σ')
set_option maxHeartbeats 1500000 in
set_option maxRecDepth 100000 in
theorem ct_G_X11_areSaints (l : Launch) : CT_ l yX11_areSaints cX11_areSaints 6 (some .boolean) 2 48 as_G_X11_areSaints (rmI_) pre_G_X11_areSaints post_G_X11_areSaints := by
  refine ct_of (by decide) (fun _ => Nat.le_of_ble_eq_true rfl) ?_
  intro X G Q ad σ a hl hR E hG R hM hv hp
  obtain ⟨a1, a2, a3, a4, a5⟩ := a
  have r_a1 : -2147483648 ≤ a1 ∧ a1 ≤ 2147483647 := hv (0, a1) (List.mem_of_getElem? (i := 1) rfl)
  have r_a2 : -2147483648 ≤ a2 ∧ a2 ≤ 2147483647 := hv (0, a2) (List.mem_of_getElem? (i := 2) rfl)
  have r_a3 : -2147483648 ≤ a3 ∧ a3 ≤ 2147483647 := hv (0, a3) (List.mem_of_getElem? (i := 3) rfl)
  have r_a4 : -2147483648 ≤ a4 ∧ a4 ≤ 2147483647 := hv (0, a4) (List.mem_of_getElem? (i := 4) rfl)
  have r_a5 : -2147483648 ≤ a5 ∧ a5 ≤ 2147483647 := hv (0, a5) (List.mem_of_getElem? (i := 5) rfl)
  have hp0 : BW σ 87 := hp
  have B := @bk_ X G Q 0 0 ad SHS_ RX11 cX11_areSaints 6 (some .boolean) flX11 plX11 knX11 [(166, 2, TR_ as_G_X11_isLand (rmI_) pre_G_X11_isLand post_G_X11_isLand), (520, 3, TR_ as_G_X11_isMonth (rmI_) pre_G_X11_isMonth post_G_X11_isMonth), (529, 1, TR_ as_G_X11_isYear (rmI_) pre_G_X11_isYear post_G_X11_isYear), (159, 3, TR_ as_G_X11_in (rmI_) pre_G_X11_in post_G_X11_in)] _ _ none kX11_areSaints [] flX11_ok plX11_ok knX11_ok eX11_areSaints oX11_areSaints
    (List.forall_mem_cons.mpr ⟨cok_v (t := 32) (c := 11) (N := 39) (n := 1) (idx := 83) E (ct_G_X11_isLand X.2.1) (by rw [hR]; decide) (Nat.zero_le _) (Nat.zero_le _) hG rfl rfl ⟨rfl, by decide, by decide, by decide⟩ (fun _ => ⟨_, _, rfl, rfl⟩) wl_X11_83 wi_X11_isLand ws_X11_isLand wn_X11 wc_X11_isLand, List.forall_mem_cons.mpr ⟨cok_v (t := 32) (c := 11) (N := 39) (n := 2) (idx := 260) E (ct_G_X11_isMonth X.2.1) (by rw [hR]; decide) (Nat.zero_le _) (Nat.zero_le _) hG rfl rfl ⟨rfl, by decide, by decide, by decide⟩ (fun _ => ⟨_, _, rfl, rfl⟩) wl_X11_260 wi_X11_isMonth ws_X11_isMonth wn_X11 wc_X11_isMonth, List.forall_mem_cons.mpr ⟨cok_s (n := 1) (idx := 264) E (ct_G_X11_isYear X.2.1) (by rw [hR]; decide) (Nat.zero_le _) (Nat.zero_le _) hG ⟨by decide, by decide, by decide⟩ (fun _ => rfl) wl_X11_264 wt_X11_isYear wn_X11 wc_X11_isYear, List.forall_mem_cons.mpr ⟨cok_s (n := 3) (idx := 79) E (ct_G_X11_in X.2.1) (by rw [hR]; decide) (Nat.zero_le _) (Nat.zero_le _) hG ⟨by decide, by decide, by decide⟩ (fun _ => rfl) wl_X11_79 wt_X11_in wn_X11 wc_X11_in, fun _ h => absurd h List.not_mem_nil⟩⟩⟩⟩) R sok_no E
  show WP_ X G Q 0 0 ad SHS_ σ 0 [(42, 86), (0, a1), (0, a2), (0, a3), (0, a4), (0, a5)] []
  refine B rfl ?_
  refine Exists.intro a1 (And.intro rfl (And.intro hp0 ?_))
  rintro z1 m_ h2
  obtain rfl : σ = m_ := h2.2
  have h3 : (z1 = 1 ∧ 0 ≤ a1 ∧ a1 ≤ 2 ∧ a1 < σ 87 1) ∨ z1 = 0 := h2.1
  refine And.intro (fun h4 => ?_) (fun h4 => ?_)
  · skip
    refine B rfl ?_
    refine And.intro (by omega) ?_
    refine Exists.intro _ (And.intro rfl ?_)
    exact (And.intro (by show (0 = 1 ∧ 0 ≤ a1 ∧ a1 ≤ 2 ∧ a1 < σ 87 1 ∧ 0 ≤ a2 ∧ a2 ≤ 7 ∧ 0 ≤ a3 ∧ a3 ≤ 1999 ∧ 1 ≤ a4 ∧ a4 ≤ 20 ∧ 1 ≤ a5 ∧ a5 ≤ 9) ∨ 0 = 0; omega) rfl)
  · skip
    refine Exists.intro (a1, a2) (And.intro rfl (And.intro (And.intro hp0 (And.intro (by show 0 ≤ a1; omega) (by show a1 ≤ 2; omega))) ?_))
    rintro z5 m_ h6
    obtain rfl : σ = m_ := h6.2
    have h7 : (z5 = 1 ∧ 0 ≤ a2 ∧ a2 ≤ 7 ∧ a2 < σ 87 (6 + 15 * a1 + 3)) ∨ z5 = 0 := h6.1
    refine And.intro (fun h8 => ?_) (fun h8 => ?_)
    · skip
      refine B rfl ?_
      refine And.intro (by omega) ?_
      refine Exists.intro _ (And.intro rfl ?_)
      exact (And.intro (by show (0 = 1 ∧ 0 ≤ a1 ∧ a1 ≤ 2 ∧ a1 < σ 87 1 ∧ 0 ≤ a2 ∧ a2 ≤ 7 ∧ 0 ≤ a3 ∧ a3 ≤ 1999 ∧ 1 ≤ a4 ∧ a4 ≤ 20 ∧ 1 ≤ a5 ∧ a5 ≤ 9) ∨ 0 = 0; omega) rfl)
    · skip
      refine Exists.intro a3 (And.intro rfl (And.intro True.intro ?_))
      rintro z9 m_ h10
      obtain rfl : σ = m_ := h10.2
      have h11 : (z9 = 1 ∧ 0 ≤ a3 ∧ a3 ≤ 1999) ∨ z9 = 0 := h10.1
      refine And.intro (fun h12 => ?_) (fun h12 => ?_)
      · skip
        refine B rfl ?_
        refine And.intro (by omega) ?_
        refine Exists.intro _ (And.intro rfl ?_)
        exact (And.intro (by show (0 = 1 ∧ 0 ≤ a1 ∧ a1 ≤ 2 ∧ a1 < σ 87 1 ∧ 0 ≤ a2 ∧ a2 ≤ 7 ∧ 0 ≤ a3 ∧ a3 ≤ 1999 ∧ 1 ≤ a4 ∧ a4 ≤ 20 ∧ 1 ≤ a5 ∧ a5 ≤ 9) ∨ 0 = 0; omega) rfl)
      · skip
        refine Exists.intro (a4, 1, 20) (And.intro rfl (And.intro True.intro ?_))
        rintro z13 m_ h14
        obtain rfl : σ = m_ := h14.2
        have h15 : (z13 = 1 ∧ 1 ≤ a4 ∧ a4 ≤ 20) ∨ (z13 = 0 ∧ ¬ (1 ≤ a4 ∧ a4 ≤ 20)) := h14.1
        refine And.intro (fun h16 => ?_) (fun h16 => ?_)
        · skip
          refine B rfl ?_
          refine And.intro (by omega) ?_
          refine Exists.intro _ (And.intro rfl ?_)
          exact (And.intro (by show (0 = 1 ∧ 0 ≤ a1 ∧ a1 ≤ 2 ∧ a1 < σ 87 1 ∧ 0 ≤ a2 ∧ a2 ≤ 7 ∧ 0 ≤ a3 ∧ a3 ≤ 1999 ∧ 1 ≤ a4 ∧ a4 ≤ 20 ∧ 1 ≤ a5 ∧ a5 ≤ 9) ∨ 0 = 0; omega) rfl)
        · skip
          refine Exists.intro (a5, 1, 9) (And.intro rfl (And.intro True.intro ?_))
          rintro z17 m_ h18
          obtain rfl : σ = m_ := h18.2
          have h19 : (z17 = 1 ∧ 1 ≤ a5 ∧ a5 ≤ 9) ∨ (z17 = 0 ∧ ¬ (1 ≤ a5 ∧ a5 ≤ 9)) := h18.1
          refine And.intro (fun h20 => ?_) (fun h20 => ?_)
          · skip
            refine B rfl ?_
            refine And.intro (by omega) ?_
            refine Exists.intro _ (And.intro rfl ?_)
            exact (And.intro (by show (0 = 1 ∧ 0 ≤ a1 ∧ a1 ≤ 2 ∧ a1 < σ 87 1 ∧ 0 ≤ a2 ∧ a2 ≤ 7 ∧ 0 ≤ a3 ∧ a3 ≤ 1999 ∧ 1 ≤ a4 ∧ a4 ≤ 20 ∧ 1 ≤ a5 ∧ a5 ≤ 9) ∨ 0 = 0; omega) rfl)
          · skip
            refine B rfl ?_
            refine And.intro (by omega) ?_
            refine Exists.intro _ (And.intro rfl ?_)
            exact (And.intro (by show (1 = 1 ∧ 0 ≤ a1 ∧ a1 ≤ 2 ∧ a1 < σ 87 1 ∧ 0 ≤ a2 ∧ a2 ≤ 7 ∧ 0 ≤ a3 ∧ a3 ≤ 1999 ∧ 1 ≤ a4 ∧ a4 ≤ 20 ∧ 1 ≤ a5 ∧ a5 ≤ 9) ∨ 1 = 0; omega) rfl)
def as_G_X11_findSaints : Int × Int × Int × Int × Int → List Sv_t := fun a => [(42, 86), (0, a.1), (0, a.2.1), (0, a.2.2.1), (0, a.2.2.2.1), (0, a.2.2.2.2)]
def pre_G_X11_findSaints : Int × Int × Int × Int × Int → Me_t → Prop := fun a σ => (MI σ) ∧ (0 ≤ a.1) ∧ (a.1 ≤ 2) ∧ (a.1 < σ 87 1) ∧ (0 ≤ a.2.1) ∧ (a.2.1 ≤ 7) ∧ (0 ≤ a.2.2.1) ∧ (a.2.2.1 ≤ 1999) ∧ (1 ≤ a.2.2.2.1) ∧ (a.2.2.2.1 ≤ 20) ∧ (1 ≤ a.2.2.2.2) ∧ (a.2.2.2.2 ≤ 9)
def post_G_X11_findSaints : Int × Int × Int × Int × Int → Me_t → Int → Me_t → Prop := fun a σ z σ' => (∀ k j : Int, ¬ (k = 86 ∨ (93 ≤ k ∧ k ≤ 97)) → σ' k j = σ k j)
set_option maxHeartbeats 1500000 in
set_option maxRecDepth 100000 in
theorem ct_G_X11_findSaints (l : Launch) : CT_ l yX11_findSaints cX11_findSaints 9 none 4 92 as_G_X11_findSaints (rmV_) pre_G_X11_findSaints post_G_X11_findSaints := by
  refine ct_of (by decide) (fun _ => Nat.le_of_ble_eq_true rfl) ?_
  intro X G Q ad σ a hl hR E hG R hM hv hp
  obtain ⟨a1, a2, a3, a4, a5⟩ := a
  have r_a1 : -2147483648 ≤ a1 ∧ a1 ≤ 2147483647 := hv (0, a1) (List.mem_of_getElem? (i := 1) rfl)
  have r_a2 : -2147483648 ≤ a2 ∧ a2 ≤ 2147483647 := hv (0, a2) (List.mem_of_getElem? (i := 2) rfl)
  have r_a3 : -2147483648 ≤ a3 ∧ a3 ≤ 2147483647 := hv (0, a3) (List.mem_of_getElem? (i := 3) rfl)
  have r_a4 : -2147483648 ≤ a4 ∧ a4 ≤ 2147483647 := hv (0, a4) (List.mem_of_getElem? (i := 4) rfl)
  have r_a5 : -2147483648 ≤ a5 ∧ a5 ≤ 2147483647 := hv (0, a5) (List.mem_of_getElem? (i := 5) rfl)
  have hp0 : MI σ := hp.1
  have hp1 : 0 ≤ a1 := hp.2.1
  have hp2 : a1 ≤ 2 := hp.2.2.1
  have hp3 : a1 < σ 87 1 := hp.2.2.2.1
  have hp4 : 0 ≤ a2 := hp.2.2.2.2.1
  have hp5 : a2 ≤ 7 := hp.2.2.2.2.2.1
  have hp6 : 0 ≤ a3 := hp.2.2.2.2.2.2.1
  have hp7 : a3 ≤ 1999 := hp.2.2.2.2.2.2.2.1
  have hp8 : 1 ≤ a4 := hp.2.2.2.2.2.2.2.2.1
  have hp9 : a4 ≤ 20 := hp.2.2.2.2.2.2.2.2.2.1
  have hp10 : 1 ≤ a5 := hp.2.2.2.2.2.2.2.2.2.2.1
  have hp11 : a5 ≤ 9 := hp.2.2.2.2.2.2.2.2.2.2.2
  have B := @bk_ X G Q 0 0 ad SHS_ RX11 cX11_findSaints 9 none flX11 plX11 knX11 [(538, 1, TR_ as_G_X11_lay (rmV_) pre_G_X11_lay post_G_X11_lay), (200, 3, TOR_ (TR_ as_G_X11_of_0 (rmI_) pre_G_X11_of_0 post_G_X11_of_0) (TR_ as_G_X11_of_x (rmI_) pre_G_X11_of_x post_G_X11_of_x)), (467, 2, TR_ as_G_X11_spot (rmI_) pre_G_X11_spot post_G_X11_spot), (159, 3, TR_ as_G_X11_in (rmI_) pre_G_X11_in post_G_X11_in), (508, 3, TR_ as_G_X11_mayOn (rmI_) pre_G_X11_mayOn post_G_X11_mayOn), (279, 2, TMIN_)] _ _ none kX11_findSaints [7, 17, 39, 47, 62, 89, 99, 148, 158, 168, 195] flX11_ok plX11_ok knX11_ok eX11_findSaints oX11_findSaints
    (List.forall_mem_cons.mpr ⟨cok_v (t := 32) (c := 11) (N := 39) (n := 0) (idx := 269) E (ct_G_X11_lay X.2.1) (by rw [hR]; decide) (Nat.zero_le _) (Nat.zero_le _) hG rfl rfl ⟨rfl, by decide, by decide, by decide⟩ (fun _ => ⟨_, _, rfl, rfl⟩) wl_X11_269 wi_X11_lay ws_X11_lay wn_X11 wc_X11_lay, List.forall_mem_cons.mpr ⟨cok_or (cok_v (t := 32) (c := 11) (N := 39) (n := 2) (idx := 100) E (ct_G_X11_of_0 X.2.1) (by rw [hR]; decide) (Nat.zero_le _) (Nat.zero_le _) hG rfl rfl ⟨rfl, by decide, by decide, by decide⟩ (fun _ => ⟨_, _, rfl, rfl⟩) wl_X11_100 wi_X11_of ws_X11_of wn_X11 wc_X11_of) (cok_v (t := 32) (c := 11) (N := 39) (n := 2) (idx := 100) E (ct_G_X11_of_x X.2.1) (by rw [hR]; decide) (Nat.zero_le _) (Nat.zero_le _) hG rfl rfl ⟨rfl, by decide, by decide, by decide⟩ (fun _ => ⟨_, _, rfl, rfl⟩) wl_X11_100 wi_X11_of ws_X11_of wn_X11 wc_X11_of), List.forall_mem_cons.mpr ⟨cok_s (n := 2) (idx := 233) E (ct_G_X11_spot X.2.1) (by rw [hR]; decide) (Nat.zero_le _) (Nat.zero_le _) hG ⟨by decide, by decide, by decide⟩ (fun _ => rfl) wl_X11_233 wt_X11_spot wn_X11 wc_X11_spot, List.forall_mem_cons.mpr ⟨cok_s (n := 3) (idx := 79) E (ct_G_X11_in X.2.1) (by rw [hR]; decide) (Nat.zero_le _) (Nat.zero_le _) hG ⟨by decide, by decide, by decide⟩ (fun _ => rfl) wl_X11_79 wt_X11_in wn_X11 wc_X11_in, List.forall_mem_cons.mpr ⟨cok_v (t := 32) (c := 11) (N := 39) (n := 2) (idx := 254) E (ct_G_X11_mayOn X.2.1) (by rw [hR]; decide) (Nat.zero_le _) (Nat.zero_le _) hG rfl rfl ⟨rfl, by decide, by decide, by decide⟩ (fun _ => ⟨_, _, rfl, rfl⟩) wl_X11_254 wi_X11_mayOn ws_X11_mayOn wn_X11 wc_X11_mayOn, List.forall_mem_cons.mpr ⟨cok_min (idx := 139) E (by rw [hR]; decide) (Nat.zero_le _) (Nat.zero_le _) wl_X11_139, fun _ h => absurd h List.not_mem_nil⟩⟩⟩⟩⟩⟩) R sok_no E
  show WP_ X G Q 0 0 ad SHS_ σ 0 [(42, 86), (0, a1), (0, a2), (0, a3), (0, a4), (0, a5), (9, 0), (9, 0), (9, 0)] []
  refine B rfl ?_
  refine Exists.intro () (And.intro rfl (And.intro hp0 ?_))
  intro z1 σ3 h2
  have f4 : ∀ k j : Int, ¬ (93 ≤ k ∧ k ≤ 96) → σ3 k j = σ k j := h2.2
  have h5 : LY σ3 := h2.1
  have lp_7 : ∀ (nq_ : Nat) (v6 : Int) (τ7 : Me_t), (∀ k j : Int, ¬ (k = 86 ∨ (93 ≤ k ∧ k ≤ 97)) → τ7 k j = σ k j) → (0 ≤ v6) → (v6 ≤ 70) → (LY τ7) → (70 - v6 : Int).toNat < nq_ → WP_ X G Q 0 0 ad SHS_ τ7 7 [(42, 86), (0, a1), (0, a2), (0, a3), (0, a4), (0, a5), (0, v6), (9, 0), (9, 0)] [] := by
    intro nq_
    induction nq_ with
    | zero => intros; omega
    | succ nq_ ih_7 =>
      intro v6 τ7 hf7 hi7_0 hi7_1 hi7_2 hm7
      refine B rfl ?_
      refine And.intro (fun h6 => ?_) (fun h6 => ?_)
      · skip
        refine B rfl ?_
        have p7 : MI τ7 := MI_fr hp0 (fun k j hk => (hf7 _ _ (by omega)))
        have p8 : BW τ7 87 := (p7).1.1
        refine Or.inl ?_
        refine Exists.intro a1 (And.intro rfl (And.intro (And.intro p8 (And.intro (by show 0 ≤ a1; omega) (by show a1 ≤ 2; omega))) ?_))
        rintro z9 m_ h10
        obtain rfl : τ7 = m_ := h10.2.2
        have h11 : z9 = τ7 87 (6 + 15 * a1 + 0) := h10.1
        try have t12 : τ7 87 (6 + 15 * a1 + 0) = σ 87 (6 + 15 * a1 + 0) := (hf7 _ _ (by omega))
        have h13 : 0 ≤ z9 ∧ z9 ≤ 999 := h10.2.1
        have lp_39 : ∀ (nq_ : Nat) (v6 : Int) (τ39 : Me_t), (∀ k j : Int, ¬ (k = 86 ∨ (93 ≤ k ∧ k ≤ 97)) → τ39 k j = σ k j) → (σ 87 (6 + 15 * a1 + 0) ≤ v6) → (0 ≤ v6) → (v6 ≤ 2000) → (LY τ39) → (2000 - v6 : Int).toNat < nq_ → WP_ X G Q 0 0 ad SHS_ τ39 39 [(42, 86), (0, a1), (0, a2), (0, a3), (0, a4), (0, a5), (0, v6), (9, 0), (9, 0)] [] := by
          intro nq_
          induction nq_ with
          | zero => intros; omega
          | succ nq_ ih_39 =>
            intro v6 τ39 hf39 hi39_0 hi39_1 hi39_2 hi39_3 hm39
            refine B rfl ?_
            refine And.intro (fun h14 => ?_) (fun h14 => ?_)
            · skip
              refine B rfl ?_
              refine And.intro (by omega) ?_
              intro σ15 e16
              intro σ17 e18
              refine And.intro (by omega) ?_
              have p19 : MI σ17 := MI_fr hp0 (fun k j hk => ((ups_r e18 (by omega)).trans ((ups_r e16 (by omega)).trans (hf39 _ _ (by omega)))))
              have p20 : BW σ17 87 := (p19).1.1
              refine Or.inr ?_
              refine Exists.intro (a1, 7 + a2) (And.intro rfl (And.intro (And.intro p20 (And.intro (by show 0 ≤ a1; omega) (And.intro (by show a1 ≤ 2; omega) (And.intro (by show 0 ≤ (7 + a2); omega) (by show (7 + a2) ≤ 14; omega))))) ?_))
              rintro z21 m_ h22
              obtain rfl : σ17 = m_ := h22.2.2.2
              have h23 : z21 = σ17 87 (6 + 15 * a1 + (7 + a2)) := h22.1
              try have t24 : σ17 87 (6 + 15 * a1 + (7 + a2)) = σ 87 (6 + 15 * a1 + (7 + a2)) := ((ups_r e18 (by omega)).trans ((ups_r e16 (by omega)).trans (hf39 _ _ (by omega))))
              have h25 : -1 ≤ z21 ∧ z21 ≤ 1999 := h22.2.1
              have h26 : 7 ≤ (7 + a2) → 0 ≤ z21 ∧ z21 ≤ 60 := h22.2.2.1
              refine And.intro (by omega) ?_
              show WP_ X G Q 0 0 ad SHS_ σ17 148 [(42, 86), (0, a1), (0, a2), (0, a3), (0, a4), (0, a5), (0, z21 - 1), (0, 0), (9, 0)] []
              refine wdrop_ (L' := [(42, 86), (9, 0), (9, 0), (9, 0), (9, 0), (0, a5), (0, z21 - 1), (0, 0), (9, 0)]) ⟨Or.inr rfl, ⟨Or.inl rfl, ⟨Or.inl rfl, ⟨Or.inl rfl, ⟨Or.inl rfl, ⟨Or.inr rfl, ⟨Or.inr rfl, ⟨Or.inr rfl, ⟨Or.inl rfl, trivial⟩⟩⟩⟩⟩⟩⟩⟩⟩ ?_
              have lp_148 : ∀ (nq_ : Nat) (v7 : Int) (τ148 : Me_t), (∀ k j : Int, ¬ (k = 86 ∨ (93 ≤ k ∧ k ≤ 97)) → τ148 k j = σ k j) → (0 ≤ v7) → (v7 ≤ 80) → (0 ≤ τ148 86 22) → (τ148 86 22 ≤ v7) → (80 - v7 : Int).toNat < nq_ → WP_ X G Q 0 0 ad SHS_ τ148 148 [(42, 86), (9, 0), (9, 0), (9, 0), (9, 0), (0, a5), (0, z21 - 1), (0, v7), (9, 0)] [] := by
                intro nq_
                induction nq_ with
                | zero => intros; omega
                | succ nq_ ih_148 =>
                  intro v7 τ148 hf148 hi148_0 hi148_1 hi148_2 hi148_3 hm148
                  refine B rfl ?_
                  refine And.intro (fun h27 => ?_) (fun h27 => ?_)
                  · skip
                    refine B rfl ?_
                    refine Exists.intro 0 (And.intro rfl ?_)
                    exact (fun k j hk => (hf148 _ _ (by omega)))
                  · skip
                    show WP_ X G Q 0 0 ad SHS_ τ148 158 [(42, 86), (9, 0), (9, 0), (9, 0), (9, 0), (0, a5), (0, z21 - 1), (0, v7), (9, 0)] []
                    refine B rfl ?_
                    refine And.intro (by omega) ?_
                    intro z28 ez28 hz28
                    have hz28 : (0 : Int) ≤ z28 ∧ z28 ≤ (1 : Int) := hz28
                    try have t29 : τ148 97 v7 = σ 97 v7 := (hf148 _ _ (by omega))
                    refine And.intro (fun h30 => ?_) (fun h30 => ?_)
                    · skip
                      refine B rfl ?_
                      refine Exists.intro v7 (Exists.intro (z21 - 1) (And.intro rfl ?_))
                      intro z31 hz31
                      refine And.intro (by omega) ?_
                      refine And.intro (by omega) ?_
                      refine And.intro (fun h32 => ?_) (fun h32 => ?_)
                      · skip
                        refine B rfl ?_
                        intro z33 ez33 hz33
                        have hz33 : ((-1) : Int) ≤ z33 ∧ z33 ≤ (70 : Int) := hz33
                        refine And.intro (by omega) ?_
                        refine And.intro (by omega) ?_
                        intro σ34 e35
                        intro z36 ez36 _
                        try have t37 : σ34 86 23 = σ 86 23 := ((ups_r e35 (by omega)).trans (hf148 _ _ (by omega)))
                        intro σ38 e39
                        refine And.intro (by omega) ?_
                        show WP_ X G Q 0 0 ad SHS_ σ38 148 [(42, 86), (9, 0), (9, 0), (9, 0), (9, 0), (0, a5), (0, z21 - 1), (0, z31 + a5), (0, z31)] []
                        refine wdrop_ (L' := [(42, 86), (9, 0), (9, 0), (9, 0), (9, 0), (0, a5), (0, z21 - 1), (0, z31 + a5), (9, 0)]) ⟨Or.inr rfl, ⟨Or.inl rfl, ⟨Or.inl rfl, ⟨Or.inl rfl, ⟨Or.inl rfl, ⟨Or.inr rfl, ⟨Or.inr rfl, ⟨Or.inr rfl, ⟨Or.inl rfl, trivial⟩⟩⟩⟩⟩⟩⟩⟩⟩ ?_
                        have t40 : σ38 86 22 = z33 + 1 := ((ups_r e39 (by omega))).trans (ups_v e35)
                        exact ih_148 (z31 + a5) σ38 (fun k j hk => ((ups_r e39 (by omega)).trans ((ups_r e35 (by omega)).trans (hf148 _ _ (by omega))))) (by show 0 ≤ (z31 + a5); omega) (by show (z31 + a5) ≤ 80; omega) (by show 0 ≤ σ38 86 22; omega) (by show σ38 86 22 ≤ (z31 + a5); omega) (by omega)
                      · skip
                        show WP_ X G Q 0 0 ad SHS_ τ148 195 [(42, 86), (9, 0), (9, 0), (9, 0), (9, 0), (0, a5), (0, z21 - 1), (0, v7), (0, z31)] []
                        refine B rfl ?_
                        refine And.intro (by omega) ?_
                        intro σ41 e42
                        intro σ43 e44
                        refine Exists.intro 0 (And.intro rfl ?_)
                        exact (fun k j hk => ((ups_r e44 (by omega)).trans ((ups_r e42 (by omega)).trans (hf148 _ _ (by omega)))))
                    · skip
                      show WP_ X G Q 0 0 ad SHS_ τ148 168 [(42, 86), (9, 0), (9, 0), (9, 0), (9, 0), (0, a5), (0, z21 - 1), (0, v7), (9, 0)] []
                      refine B rfl ?_
                      refine And.intro (by omega) ?_
                      exact ih_148 (v7 + 1) τ148 (fun k j hk => (hf148 _ _ (by omega))) (by show 0 ≤ (v7 + 1); omega) (by show (v7 + 1) ≤ 80; omega) (by show 0 ≤ τ148 86 22; omega) (by show τ148 86 22 ≤ (v7 + 1); omega) (by omega)
              have t45 : σ17 86 22 = 0 := ((ups_r e18 (by omega))).trans (ups_v e16)
              exact lp_148 ((80 - 0 : Int).toNat + 1) 0 σ17 (fun k j hk => ((ups_r e18 (by omega)).trans ((ups_r e16 (by omega)).trans (hf39 _ _ (by omega))))) (by show 0 ≤ 0; omega) (by show 0 ≤ 80; omega) (by show 0 ≤ σ17 86 22; omega) (by show σ17 86 22 ≤ 0; omega) (by omega)
            · skip
              show WP_ X G Q 0 0 ad SHS_ τ39 47 [(42, 86), (0, a1), (0, a2), (0, a3), (0, a4), (0, a5), (0, v6), (9, 0), (9, 0)] []
              refine B rfl ?_
              refine Exists.intro (a1, v6) (And.intro rfl (And.intro (And.intro (by show 0 ≤ a1; omega) (And.intro (by show a1 ≤ 2; omega) (And.intro (by show 0 ≤ v6; omega) (by show v6 ≤ 1999; omega)))) ?_))
              rintro z46 m_ h47
              obtain rfl : τ39 = m_ := h47.2
              have h48 : z46 = 2000 * a1 + v6 := h47.1
              have q49 : z46 = 2000 * a1 + v6 := by omega
              subst q49
              refine And.intro (by omega) ?_
              intro z50 ez50 hz50
              have hz50 : ((-1) : Int) ≤ z50 ∧ z50 ≤ (7 : Int) := hz50
              try have t51 : τ39 94 (2000 * a1 + v6) = σ 94 (2000 * a1 + v6) := (hf39 _ _ (by omega))
              refine And.intro (fun h52 => ?_) (fun h52 => ?_)
              · skip
                refine B rfl ?_
                refine And.intro (by omega) ?_
                exact ih_39 (v6 + 1) τ39 (fun k j hk => (hf39 _ _ (by omega))) (by show σ 87 (6 + 15 * a1 + 0) ≤ (v6 + 1); omega) (by show 0 ≤ (v6 + 1); omega) (by show (v6 + 1) ≤ 2000; omega) hi39_3 (by omega)
              · skip
                show WP_ X G Q 0 0 ad SHS_ τ39 62 [(42, 86), (0, a1), (0, a2), (0, a3), (0, a4), (0, a5), (0, v6), (9, 0), (9, 0)] []
                refine B rfl ?_
                refine Exists.intro (a1, v6) (And.intro rfl (And.intro (And.intro (by show 0 ≤ a1; omega) (And.intro (by show a1 ≤ 2; omega) (And.intro (by show 0 ≤ v6; omega) (by show v6 ≤ 1999; omega)))) ?_))
                rintro z53 m_ h54
                obtain rfl : τ39 = m_ := h54.2
                have h55 : z53 = 2000 * a1 + v6 := h54.1
                have q56 : z53 = 2000 * a1 + v6 := by omega
                subst q56
                refine And.intro (by omega) ?_
                intro z57 ez57 hz57
                have hz57 : ((-1) : Int) ≤ z57 ∧ z57 ≤ (2000 : Int) := hz57
                try have t58 : τ39 93 (2000 * a1 + v6) = σ 93 (2000 * a1 + v6) := (hf39 _ _ (by omega))
                refine And.intro (by omega) ?_
                refine And.intro (by omega) ?_
                refine Exists.intro (z57, a3, (a3 + a4) - 1) (And.intro rfl (And.intro True.intro ?_))
                rintro z59 m_ h60
                obtain rfl : τ39 = m_ := h60.2
                have h61 : (z59 = 1 ∧ a3 ≤ z57 ∧ z57 ≤ ((a3 + a4) - 1)) ∨ (z59 = 0 ∧ ¬ (a3 ≤ z57 ∧ z57 ≤ ((a3 + a4) - 1))) := h60.1
                refine And.intro (fun h62 => ?_) (fun h62 => ?_)
                · skip
                  refine B rfl ?_
                  refine And.intro (by omega) ?_
                  exact ih_39 (v6 + 1) τ39 (fun k j hk => (hf39 _ _ (by omega))) (by show σ 87 (6 + 15 * a1 + 0) ≤ (v6 + 1); omega) (by show 0 ≤ (v6 + 1); omega) (by show (v6 + 1) ≤ 2000; omega) hi39_3 (by omega)
                · skip
                  show WP_ X G Q 0 0 ad SHS_ τ39 89 [(42, 86), (0, a1), (0, a2), (0, a3), (0, a4), (0, a5), (0, v6), (9, 0), (9, 0)] []
                  refine B rfl ?_
                  refine Exists.intro (a1, v6) (And.intro rfl (And.intro (And.intro (by show 0 ≤ a1; omega) (And.intro (by show a1 ≤ 2; omega) (And.intro (by show 0 ≤ v6; omega) (by show v6 ≤ 1999; omega)))) ?_))
                  rintro z63 m_ h64
                  obtain rfl : τ39 = m_ := h64.2
                  have h65 : (z63 = 1 ∧ τ39 96 (2000 * a1 + v6) = 0) ∨ (z63 = 0 ∧ τ39 96 (2000 * a1 + v6) ≠ 0) := h64.1
                  try have t66 : τ39 96 (2000 * a1 + v6) = σ 96 (2000 * a1 + v6) := (hf39 _ _ (by omega))
                  refine And.intro (fun h67 => ?_) (fun h67 => ?_)
                  · skip
                    refine B rfl ?_
                    refine And.intro (by omega) ?_
                    exact ih_39 (v6 + 1) τ39 (fun k j hk => (hf39 _ _ (by omega))) (by show σ 87 (6 + 15 * a1 + 0) ≤ (v6 + 1); omega) (by show 0 ≤ (v6 + 1); omega) (by show (v6 + 1) ≤ 2000; omega) hi39_3 (by omega)
                  · skip
                    show WP_ X G Q 0 0 ad SHS_ τ39 99 [(42, 86), (0, a1), (0, a2), (0, a3), (0, a4), (0, a5), (0, v6), (9, 0), (9, 0)] []
                    refine B rfl ?_
                    refine Exists.intro (a1, v6) (And.intro rfl (And.intro (And.intro (by show 0 ≤ a1; omega) (And.intro (by show a1 ≤ 2; omega) (And.intro (by show 0 ≤ v6; omega) (by show v6 ≤ 1999; omega)))) ?_))
                    rintro z68 m_ h69
                    obtain rfl : τ39 = m_ := h69.2
                    have h70 : z68 = 2000 * a1 + v6 := h69.1
                    have q71 : z68 = 2000 * a1 + v6 := by omega
                    subst q71
                    try have t72 : τ39 87 1 = σ 87 1 := (hf39 _ _ (by omega))
                    try have t73 : τ39 87 (6 + 15 * a1 + 0) = σ 87 (6 + 15 * a1 + 0) := (hf39 _ _ (by omega))
                    have hly := hi39_3 a1 v6 (by omega) (by omega) (by omega) (by omega) (by omega)
                    refine And.intro (by omega) ?_
                    intro z74 ez74 hz74
                    have hz74 : ((-1) : Int) ≤ z74 ∧ z74 ≤ (68 : Int) := hz74
                    try have t75 : τ39 95 (2000 * a1 + v6) = σ 95 (2000 * a1 + v6) := (hf39 _ _ (by omega))
                    refine And.intro (by omega) ?_
                    refine And.intro (by show (0 : Int) ≤ _ ∧ _ ≤ (1 : Int); omega) ?_
                    intro σ76 e77
                    refine And.intro (by omega) ?_
                    have p78 : LY σ76 := LY_fr hi39_3 (fun k j hk => (ups_r e77 (by omega)))
                    exact ih_39 (v6 + 1) σ76 (fun k j hk => ((ups_r e77 (by omega)).trans (hf39 _ _ (by omega)))) (by show σ 87 (6 + 15 * a1 + 0) ≤ (v6 + 1); omega) (by show 0 ≤ (v6 + 1); omega) (by show (v6 + 1) ≤ 2000; omega) p78 (by omega)
        exact lp_39 ((2000 - z9 : Int).toNat + 1) z9 τ7 (fun k j hk => (hf7 _ _ (by omega))) (by show σ 87 (6 + 15 * a1 + 0) ≤ z9; omega) (by show 0 ≤ z9; omega) (by show z9 ≤ 2000; omega) hi7_2 (by omega)
      · skip
        show WP_ X G Q 0 0 ad SHS_ τ7 17 [(42, 86), (0, a1), (0, a2), (0, a3), (0, a4), (0, a5), (0, v6), (9, 0), (9, 0)] []
        refine B rfl ?_
        refine And.intro (by omega) ?_
        refine And.intro (by show (0 : Int) ≤ _ ∧ _ ≤ (1 : Int); omega) ?_
        intro σ79 e80
        refine And.intro (by omega) ?_
        have p81 : LY σ79 := LY_fr hi7_2 (fun k j hk => (ups_r e80 (by omega)))
        exact ih_7 (v6 + 1) σ79 (fun k j hk => ((ups_r e80 (by omega)).trans (hf7 _ _ (by omega)))) (by show 0 ≤ (v6 + 1); omega) (by show (v6 + 1) ≤ 70; omega) p81 (by omega)
  exact lp_7 ((70 - 0 : Int).toNat + 1) 0 σ3 (fun k j hk => (f4 _ _ (by omega))) (by show 0 ≤ 0; omega) (by show 0 ≤ 70; omega) h5 (by omega)
def as_G_X11_saints : Int × Int × Int × Int × Int → List Sv_t := fun a => [(42, 86), (0, a.1), (0, a.2.1), (0, a.2.2.1), (0, a.2.2.2.1), (0, a.2.2.2.2)]
def pre_G_X11_saints : Int × Int × Int × Int × Int → Me_t → Prop := fun a σ => (MI σ)
def post_G_X11_saints : Int × Int × Int × Int × Int → Me_t → Int → Me_t → Prop := fun a σ z σ' => (∀ k j : Int, ¬ (k = 86 ∨ (93 ≤ k ∧ k ≤ 97)) → σ' k j = σ k j)
set_option maxHeartbeats 1500000 in
set_option maxRecDepth 100000 in
theorem ct_G_X11_saints (l : Launch) : CT_ l yX11_saints cX11_saints 6 (some .int) 5 120 as_G_X11_saints (rmI_) pre_G_X11_saints post_G_X11_saints := by
  refine ct_of (by decide) (fun _ => Nat.le_of_ble_eq_true rfl) ?_
  intro X G Q ad σ a hl hR E hG R hM hv hp
  obtain ⟨a1, a2, a3, a4, a5⟩ := a
  have r_a1 : -2147483648 ≤ a1 ∧ a1 ≤ 2147483647 := hv (0, a1) (List.mem_of_getElem? (i := 1) rfl)
  have r_a2 : -2147483648 ≤ a2 ∧ a2 ≤ 2147483647 := hv (0, a2) (List.mem_of_getElem? (i := 2) rfl)
  have r_a3 : -2147483648 ≤ a3 ∧ a3 ≤ 2147483647 := hv (0, a3) (List.mem_of_getElem? (i := 3) rfl)
  have r_a4 : -2147483648 ≤ a4 ∧ a4 ≤ 2147483647 := hv (0, a4) (List.mem_of_getElem? (i := 4) rfl)
  have r_a5 : -2147483648 ≤ a5 ∧ a5 ≤ 2147483647 := hv (0, a5) (List.mem_of_getElem? (i := 5) rfl)
  have hp0 : MI σ := hp
  have B := @bk_ X G Q 0 0 ad SHS_ RX11 cX11_saints 6 (some .int) flX11 plX11 knX11 [(680, 6, TR_ as_G_X11_areSaints (rmI_) pre_G_X11_areSaints post_G_X11_areSaints), (688, 6, TR_ as_G_X11_findSaints (rmV_) pre_G_X11_findSaints post_G_X11_findSaints)] _ _ none kX11_saints [] flX11_ok plX11_ok knX11_ok eX11_saints oX11_saints
    (List.forall_mem_cons.mpr ⟨cok_v (t := 32) (c := 11) (N := 39) (n := 5) (idx := 340) E (ct_G_X11_areSaints X.2.1) (by rw [hR]; decide) (Nat.zero_le _) (Nat.zero_le _) hG rfl rfl ⟨rfl, by decide, by decide, by decide⟩ (fun _ => ⟨_, _, rfl, rfl⟩) wl_X11_340 wi_X11_areSaints ws_X11_areSaints wn_X11 wc_X11_areSaints, List.forall_mem_cons.mpr ⟨cok_v (t := 32) (c := 11) (N := 39) (n := 5) (idx := 344) E (ct_G_X11_findSaints X.2.1) (by rw [hR]; decide) (Nat.zero_le _) (Nat.zero_le _) hG rfl rfl ⟨rfl, by decide, by decide, by decide⟩ (fun _ => ⟨_, _, rfl, rfl⟩) wl_X11_344 wi_X11_findSaints ws_X11_findSaints wn_X11 wc_X11_findSaints, fun _ h => absurd h List.not_mem_nil⟩⟩) R sok_no E
  show WP_ X G Q 0 0 ad SHS_ σ 0 [(42, 86), (0, a1), (0, a2), (0, a3), (0, a4), (0, a5)] []
  refine B rfl ?_
  have p1 : BW σ 87 := (hp0).1.1
  refine Exists.intro (a1, a2, a3, a4, a5) (And.intro rfl (And.intro p1 ?_))
  rintro z2 m_ h3
  obtain rfl : σ = m_ := h3.2
  have h4 : (z2 = 1 ∧ 0 ≤ a1 ∧ a1 ≤ 2 ∧ a1 < σ 87 1 ∧ 0 ≤ a2 ∧ a2 ≤ 7 ∧ 0 ≤ a3 ∧ a3 ≤ 1999 ∧ 1 ≤ a4 ∧ a4 ≤ 20 ∧ 1 ≤ a5 ∧ a5 ≤ 9) ∨ z2 = 0 := h3.1
  refine And.intro (fun h5 => ?_) (fun h5 => ?_)
  · skip
    refine B rfl ?_
    refine Exists.intro (a1, a2, a3, a4, a5) (And.intro rfl (And.intro (And.intro hp0 (And.intro (by show 0 ≤ a1; omega) (And.intro (by show a1 ≤ 2; omega) (And.intro (by show a1 < σ 87 1; omega) (And.intro (by show 0 ≤ a2; omega) (And.intro (by show a2 ≤ 7; omega) (And.intro (by show 0 ≤ a3; omega) (And.intro (by show a3 ≤ 1999; omega) (And.intro (by show 1 ≤ a4; omega) (And.intro (by show a4 ≤ 20; omega) (And.intro (by show 1 ≤ a5; omega) (by show a5 ≤ 9; omega)))))))))))) ?_))
    intro z6 σ8 h7
    have f9 : ∀ k j : Int, ¬ (k = 86 ∨ (93 ≤ k ∧ k ≤ 97)) → σ8 k j = σ k j := h7
    intro z10 ez10 hz10
    have hz10 : ((-1) : Int) ≤ z10 ∧ z10 ≤ (70 : Int) := hz10
    try have t11 : σ8 86 22 = σ 86 22 := (f9 _ _ (by omega))
    refine Exists.intro _ (And.intro rfl ?_)
    exact (fun k j hk => (f9 _ _ (by omega)))
  · skip
    refine Exists.intro _ (And.intro rfl ?_)
    exact (fun k j hk => rfl)
def as_G_X11_founded : Int × Int × Int × Int × Int → List Sv_t := fun a => [(42, 86), (0, a.1), (0, a.2.1), (0, a.2.2.1), (0, a.2.2.2.1), (0, a.2.2.2.2)]
def pre_G_X11_founded : Int × Int × Int × Int × Int → Me_t → Prop := fun a σ => (MI σ)
def post_G_X11_founded : Int × Int × Int × Int × Int → Me_t → Int → Me_t → Prop := fun a σ z σ' => (∀ k j : Int, ¬ (k = 86 ∨ (93 ≤ k ∧ k ≤ 97)) → σ' k j = σ k j)
set_option maxHeartbeats 1500000 in
set_option maxRecDepth 100000 in
theorem ct_G_X11_founded (l : Launch) : CT_ l yX11_founded cX11_founded 6 (some .long) 5 120 as_G_X11_founded (rmL_) pre_G_X11_founded post_G_X11_founded := by
  refine ct_of (by decide) (fun _ => Nat.le_of_ble_eq_true rfl) ?_
  intro X G Q ad σ a hl hR E hG R hM hv hp
  obtain ⟨a1, a2, a3, a4, a5⟩ := a
  have r_a1 : -2147483648 ≤ a1 ∧ a1 ≤ 2147483647 := hv (0, a1) (List.mem_of_getElem? (i := 1) rfl)
  have r_a2 : -2147483648 ≤ a2 ∧ a2 ≤ 2147483647 := hv (0, a2) (List.mem_of_getElem? (i := 2) rfl)
  have r_a3 : -2147483648 ≤ a3 ∧ a3 ≤ 2147483647 := hv (0, a3) (List.mem_of_getElem? (i := 3) rfl)
  have r_a4 : -2147483648 ≤ a4 ∧ a4 ≤ 2147483647 := hv (0, a4) (List.mem_of_getElem? (i := 4) rfl)
  have r_a5 : -2147483648 ≤ a5 ∧ a5 ≤ 2147483647 := hv (0, a5) (List.mem_of_getElem? (i := 5) rfl)
  have hp0 : MI σ := hp
  have B := @bk_ X G Q 0 0 ad SHS_ RX11 cX11_founded 6 (some .long) flX11 plX11 knX11 [(680, 6, TR_ as_G_X11_areSaints (rmI_) pre_G_X11_areSaints post_G_X11_areSaints), (688, 6, TR_ as_G_X11_findSaints (rmV_) pre_G_X11_findSaints post_G_X11_findSaints)] _ _ none kX11_founded [] flX11_ok plX11_ok knX11_ok eX11_founded oX11_founded
    (List.forall_mem_cons.mpr ⟨cok_v (t := 32) (c := 11) (N := 39) (n := 5) (idx := 340) E (ct_G_X11_areSaints X.2.1) (by rw [hR]; decide) (Nat.zero_le _) (Nat.zero_le _) hG rfl rfl ⟨rfl, by decide, by decide, by decide⟩ (fun _ => ⟨_, _, rfl, rfl⟩) wl_X11_340 wi_X11_areSaints ws_X11_areSaints wn_X11 wc_X11_areSaints, List.forall_mem_cons.mpr ⟨cok_v (t := 32) (c := 11) (N := 39) (n := 5) (idx := 344) E (ct_G_X11_findSaints X.2.1) (by rw [hR]; decide) (Nat.zero_le _) (Nat.zero_le _) hG rfl rfl ⟨rfl, by decide, by decide, by decide⟩ (fun _ => ⟨_, _, rfl, rfl⟩) wl_X11_344 wi_X11_findSaints ws_X11_findSaints wn_X11 wc_X11_findSaints, fun _ h => absurd h List.not_mem_nil⟩⟩) R sok_no E
  show WP_ X G Q 0 0 ad SHS_ σ 0 [(42, 86), (0, a1), (0, a2), (0, a3), (0, a4), (0, a5)] []
  refine B rfl ?_
  have p1 : BW σ 87 := (hp0).1.1
  refine Exists.intro (a1, a2, a3, a4, a5) (And.intro rfl (And.intro p1 ?_))
  rintro z2 m_ h3
  obtain rfl : σ = m_ := h3.2
  have h4 : (z2 = 1 ∧ 0 ≤ a1 ∧ a1 ≤ 2 ∧ a1 < σ 87 1 ∧ 0 ≤ a2 ∧ a2 ≤ 7 ∧ 0 ≤ a3 ∧ a3 ≤ 1999 ∧ 1 ≤ a4 ∧ a4 ≤ 20 ∧ 1 ≤ a5 ∧ a5 ≤ 9) ∨ z2 = 0 := h3.1
  refine And.intro (fun h5 => ?_) (fun h5 => ?_)
  · skip
    refine B rfl ?_
    refine Exists.intro (a1, a2, a3, a4, a5) (And.intro rfl (And.intro (And.intro hp0 (And.intro (by show 0 ≤ a1; omega) (And.intro (by show a1 ≤ 2; omega) (And.intro (by show a1 < σ 87 1; omega) (And.intro (by show 0 ≤ a2; omega) (And.intro (by show a2 ≤ 7; omega) (And.intro (by show 0 ≤ a3; omega) (And.intro (by show a3 ≤ 1999; omega) (And.intro (by show 1 ≤ a4; omega) (And.intro (by show a4 ≤ 20; omega) (And.intro (by show 1 ≤ a5; omega) (by show a5 ≤ 9; omega)))))))))))) ?_))
    intro z6 σ8 h7
    have f9 : ∀ k j : Int, ¬ (k = 86 ∨ (93 ≤ k ∧ k ≤ 97)) → σ8 k j = σ k j := h7
    intro z10 ez10 _
    try have t11 : σ8 86 23 = σ 86 23 := (f9 _ _ (by omega))
    refine Exists.intro _ (And.intro rfl ?_)
    exact (fun k j hk => (f9 _ _ (by omega)))
  · skip
    refine Exists.intro _ (And.intro rfl ?_)
    exact (fun k j hk => rfl)
def as_G_X11_findBridge : Int × Int × Int × Int → List Sv_t := fun a => [(42, 86), (0, a.1), (0, a.2.1), (0, a.2.2.1), (0, a.2.2.2)]
def pre_G_X11_findBridge : Int × Int × Int × Int → Me_t → Prop := fun a σ => (0 ≤ a.1) ∧ (a.1 ≤ 2) ∧ (0 ≤ a.2.1) ∧ (a.2.1 ≤ a.2.2.1) ∧ (a.2.2.1 ≤ 1999) ∧ (0 ≤ a.2.2.2) ∧ (a.2.2.2 ≤ 9)
def post_G_X11_findBridge : Int × Int × Int × Int → Me_t → Int → Me_t → Prop := fun a σ z σ' => (∀ k j : Int, ¬ (k = 86) → σ' k j = σ k j)
set_option maxHeartbeats 1500000 in
set_option maxRecDepth 100000 in
theorem ct_G_X11_findBridge (l : Launch) : CT_ l yX11_findBridge cX11_findBridge 8 none 2 43 as_G_X11_findBridge (rmV_) pre_G_X11_findBridge post_G_X11_findBridge := by
  refine ct_of (by decide) (fun _ => Nat.le_of_ble_eq_true rfl) ?_
  intro X G Q ad σ a hl hR E hG R hM hv hp
  obtain ⟨a1, a2, a3, a4⟩ := a
  have r_a1 : -2147483648 ≤ a1 ∧ a1 ≤ 2147483647 := hv (0, a1) (List.mem_of_getElem? (i := 1) rfl)
  have r_a2 : -2147483648 ≤ a2 ∧ a2 ≤ 2147483647 := hv (0, a2) (List.mem_of_getElem? (i := 2) rfl)
  have r_a3 : -2147483648 ≤ a3 ∧ a3 ≤ 2147483647 := hv (0, a3) (List.mem_of_getElem? (i := 3) rfl)
  have r_a4 : -2147483648 ≤ a4 ∧ a4 ≤ 2147483647 := hv (0, a4) (List.mem_of_getElem? (i := 4) rfl)
  have hp0 : 0 ≤ a1 := hp.1
  have hp1 : a1 ≤ 2 := hp.2.1
  have hp2 : 0 ≤ a2 := hp.2.2.1
  have hp3 : a2 ≤ a3 := hp.2.2.2.1
  have hp4 : a3 ≤ 1999 := hp.2.2.2.2.1
  have hp5 : 0 ≤ a4 := hp.2.2.2.2.2.1
  have hp6 : a4 ≤ 9 := hp.2.2.2.2.2.2
  have B := @bk_ X G Q 0 0 ad SHS_ RX11 cX11_findBridge 8 none flX11 plX11 knX11 [(508, 3, TR_ as_G_X11_mayOn (rmI_) pre_G_X11_mayOn post_G_X11_mayOn)] _ _ none kX11_findBridge [19, 25, 37, 45, 52, 64, 92] flX11_ok plX11_ok knX11_ok eX11_findBridge oX11_findBridge
    (List.forall_mem_cons.mpr ⟨cok_v (t := 32) (c := 11) (N := 39) (n := 2) (idx := 254) E (ct_G_X11_mayOn X.2.1) (by rw [hR]; decide) (Nat.zero_le _) (Nat.zero_le _) hG rfl rfl ⟨rfl, by decide, by decide, by decide⟩ (fun _ => ⟨_, _, rfl, rfl⟩) wl_X11_254 wi_X11_mayOn ws_X11_mayOn wn_X11 wc_X11_mayOn, fun _ h => absurd h List.not_mem_nil⟩) R sok_no E
  show WP_ X G Q 0 0 ad SHS_ σ 0 [(42, 86), (0, a1), (0, a2), (0, a3), (0, a4), (9, 0), (9, 0), (9, 0)] []
  refine B rfl ?_
  intro σ1 e2
  intro σ3 e4
  show WP_ X G Q 0 0 ad SHS_ σ3 19 [(42, 86), (0, a1), (0, a2), (0, a3), (0, a4), (0, a2), (0, 0), (0, a2)] []
  refine wdrop_ (L' := [(42, 86), (0, a1), (9, 0), (0, a3), (0, a4), (0, a2), (0, 0), (0, a2)]) ⟨Or.inr rfl, ⟨Or.inr rfl, ⟨Or.inl rfl, ⟨Or.inr rfl, ⟨Or.inr rfl, ⟨Or.inr rfl, ⟨Or.inr rfl, ⟨Or.inr rfl, trivial⟩⟩⟩⟩⟩⟩⟩⟩ ?_
  have lp_19 : ∀ (nq_ : Nat) (v5 : Int) (v6 : Int) (v7 : Int) (τ19 : Me_t), (∀ k j : Int, ¬ (k = 86) → τ19 k j = σ k j) → (a2 ≤ v7) → (v7 ≤ a3 + 1) → (a2 ≤ v5) → (v5 ≤ v7) → (0 ≤ v6) → (v6 ≤ v7 - a2) → (v6 = pcn_ (σ 96) (2000 * a1) (v7).toNat - pcn_ (σ 96) (2000 * a1) (v5).toNat) → (a3 + 1 - v7 : Int).toNat < nq_ → WP_ X G Q 0 0 ad SHS_ τ19 19 [(42, 86), (0, a1), (9, 0), (0, a3), (0, a4), (0, v5), (0, v6), (0, v7)] [] := by
    intro nq_
    induction nq_ with
    | zero => intros; omega
    | succ nq_ ih_19 =>
      intro v5 v6 v7 τ19 hf19 hi19_0 hi19_1 hi19_2 hi19_3 hi19_4 hi19_5 hi19_6 hm19
      refine B rfl ?_
      refine And.intro (fun h5 => ?_) (fun h5 => ?_)
      · skip
        refine B rfl ?_
        refine Exists.intro 0 (And.intro rfl ?_)
        exact (fun k j hk => (hf19 _ _ (by omega)))
      · skip
        show WP_ X G Q 0 0 ad SHS_ τ19 25 [(42, 86), (0, a1), (9, 0), (0, a3), (0, a4), (0, v5), (0, v6), (0, v7)] []
        refine B rfl ?_
        refine Exists.intro (a1, v7) (And.intro rfl (And.intro (And.intro (by show 0 ≤ a1; omega) (And.intro (by show a1 ≤ 2; omega) (And.intro (by show 0 ≤ v7; omega) (by show v7 ≤ 1999; omega)))) ?_))
        rintro z6 m_ h7
        obtain rfl : τ19 = m_ := h7.2
        have h8 : (z6 = 1 ∧ τ19 96 (2000 * a1 + v7) = 0) ∨ (z6 = 0 ∧ τ19 96 (2000 * a1 + v7) ≠ 0) := h7.1
        try have t9 : τ19 96 (2000 * a1 + v7) = σ 96 (2000 * a1 + v7) := (hf19 _ _ (by omega))
        refine And.intro (fun h10 => ?_) (fun h10 => ?_)
        · skip
          refine B rfl ?_
          refine And.intro (by omega) ?_
          have lp_45 : ∀ (nq_ : Nat) (v5 : Int) (v6 : Int), (a2 ≤ v5) → (v5 ≤ v7 + 1) → (0 ≤ v6) → (v6 ≤ v7 - a2 + 1) → (v6 = pcn_ (σ 96) (2000 * a1) (v7 + 1).toNat - pcn_ (σ 96) (2000 * a1) (v5).toNat) → (v7 + 1 - v5 : Int).toNat < nq_ → WP_ X G Q 0 0 ad SHS_ τ19 45 [(42, 86), (0, a1), (9, 0), (0, a3), (0, a4), (0, v5), (0, v6), (0, v7)] [] := by
            intro nq_
            induction nq_ with
            | zero => intros; omega
            | succ nq_ ih_45 =>
              intro v5 v6 hi45_0 hi45_1 hi45_2 hi45_3 hi45_4 hm45
              refine B rfl ?_
              refine And.intro (fun h11 => ?_) (fun h11 => ?_)
              · skip
                refine B rfl ?_
                refine And.intro (by omega) ?_
                refine And.intro (by omega) ?_
                intro z12 ez12 hz12
                have hz12 : ((-2147483648) : Int) ≤ z12 ∧ z12 ≤ (2147483647 : Int) := rgl_ hz12 (by decide +kernel) (by decide +kernel) (by decide +kernel)
                try have t13 : τ19 86 19 = σ 86 19 := (hf19 _ _ (by omega))
                refine And.intro (fun h14 => ?_) (fun h14 => ?_)
                · skip
                  refine B rfl ?_
                  refine And.intro (by omega) ?_
                  refine And.intro (by omega) ?_
                  intro σ15 e16
                  intro σ17 e18
                  refine And.intro (by omega) ?_
                  exact ih_19 v5 v6 (v7 + 1) σ17 (fun k j hk => ((ups_r e18 (by omega)).trans ((ups_r e16 (by omega)).trans (hf19 _ _ (by omega))))) (by show a2 ≤ (v7 + 1); omega) (by show (v7 + 1) ≤ a3 + 1; omega) (by show a2 ≤ v5; omega) (by show v5 ≤ (v7 + 1); omega) (by show 0 ≤ v6; omega) (by show v6 ≤ (v7 + 1) - a2; omega) (by show v6 = pcn_ (σ 96) (2000 * a1) ((v7 + 1)).toNat - pcn_ (σ 96) (2000 * a1) (v5).toNat; omega) (by omega)
                · skip
                  show WP_ X G Q 0 0 ad SHS_ τ19 92 [(42, 86), (0, a1), (9, 0), (0, a3), (0, a4), (0, v5), (0, v6), (0, v7)] []
                  refine B rfl ?_
                  refine B rfl ?_
                  refine And.intro (by omega) ?_
                  exact ih_19 v5 v6 (v7 + 1) τ19 (fun k j hk => (hf19 _ _ (by omega))) (by show a2 ≤ (v7 + 1); omega) (by show (v7 + 1) ≤ a3 + 1; omega) (by show a2 ≤ v5; omega) (by show v5 ≤ (v7 + 1); omega) (by show 0 ≤ v6; omega) (by show v6 ≤ (v7 + 1) - a2; omega) (by show v6 = pcn_ (σ 96) (2000 * a1) ((v7 + 1)).toNat - pcn_ (σ 96) (2000 * a1) (v5).toNat; omega) (by omega)
              · skip
                show WP_ X G Q 0 0 ad SHS_ τ19 52 [(42, 86), (0, a1), (9, 0), (0, a3), (0, a4), (0, v5), (0, v6), (0, v7)] []
                refine B rfl ?_
                have hfd : v5 ≤ v7 := by
                  by_cases hq : v5 = v7 + 1
                  · rw [hq] at hi45_4; omega
                  · omega
                refine Exists.intro (a1, v5) (And.intro rfl (And.intro (And.intro (by show 0 ≤ a1; omega) (And.intro (by show a1 ≤ 2; omega) (And.intro (by show 0 ≤ v5; omega) (by show v5 ≤ 1999; omega)))) ?_))
                rintro z19 m_ h20
                obtain rfl : τ19 = m_ := h20.2
                have h21 : (z19 = 1 ∧ τ19 96 (2000 * a1 + v5) = 0) ∨ (z19 = 0 ∧ τ19 96 (2000 * a1 + v5) ≠ 0) := h20.1
                try have t22 : τ19 96 (2000 * a1 + v5) = σ 96 (2000 * a1 + v5) := (hf19 _ _ (by omega))
                refine And.intro (fun h23 => ?_) (fun h23 => ?_)
                · skip
                  refine B rfl ?_
                  refine And.intro (by omega) ?_
                  refine And.intro (by omega) ?_
                  exact ih_45 (v5 + 1) (v6 - 0) (by show a2 ≤ (v5 + 1); omega) (by show (v5 + 1) ≤ v7 + 1; omega) (by show 0 ≤ (v6 - 0); omega) (by show (v6 - 0) ≤ v7 - a2 + 1; omega) (by show (v6 - 0) = pcn_ (σ 96) (2000 * a1) (v7 + 1).toNat - pcn_ (σ 96) (2000 * a1) ((v5 + 1)).toNat; rw [pcn_s (m := v5) (by omega)]; split <;> omega) (by omega)
                · skip
                  show WP_ X G Q 0 0 ad SHS_ τ19 64 [(42, 86), (0, a1), (9, 0), (0, a3), (0, a4), (0, v5), (0, v6), (0, v7)] [(0, v6)]
                  refine B rfl ?_
                  refine B rfl ?_
                  refine And.intro (by omega) ?_
                  refine And.intro (by omega) ?_
                  exact ih_45 (v5 + 1) (v6 - 1) (by show a2 ≤ (v5 + 1); omega) (by show (v5 + 1) ≤ v7 + 1; omega) (by show 0 ≤ (v6 - 1); omega) (by show (v6 - 1) ≤ v7 - a2 + 1; omega) (by show (v6 - 1) = pcn_ (σ 96) (2000 * a1) (v7 + 1).toNat - pcn_ (σ 96) (2000 * a1) ((v5 + 1)).toNat; rw [pcn_s (m := v5) (by omega)]; split <;> omega) (by omega)
          exact lp_45 ((v7 + 1 - v5 : Int).toNat + 1) v5 (v6 + 0) (by show a2 ≤ v5; omega) (by show v5 ≤ v7 + 1; omega) (by show 0 ≤ (v6 + 0); omega) (by show (v6 + 0) ≤ v7 - a2 + 1; omega) (by show (v6 + 0) = pcn_ (σ 96) (2000 * a1) (v7 + 1).toNat - pcn_ (σ 96) (2000 * a1) (v5).toNat; rw [pcn_s (m := v7) (by omega)]; split <;> omega) (by omega)
        · skip
          show WP_ X G Q 0 0 ad SHS_ τ19 37 [(42, 86), (0, a1), (9, 0), (0, a3), (0, a4), (0, v5), (0, v6), (0, v7)] [(0, v6)]
          refine B rfl ?_
          refine B rfl ?_
          refine And.intro (by omega) ?_
          have lp_45 : ∀ (nq_ : Nat) (v5_1 : Int) (v6_1 : Int), (a2 ≤ v5_1) → (v5_1 ≤ v7 + 1) → (0 ≤ v6_1) → (v6_1 ≤ v7 - a2 + 1) → (v6_1 = pcn_ (σ 96) (2000 * a1) (v7 + 1).toNat - pcn_ (σ 96) (2000 * a1) (v5_1).toNat) → (v7 + 1 - v5_1 : Int).toNat < nq_ → WP_ X G Q 0 0 ad SHS_ τ19 45 [(42, 86), (0, a1), (9, 0), (0, a3), (0, a4), (0, v5_1), (0, v6_1), (0, v7)] [] := by
            intro nq_
            induction nq_ with
            | zero => intros; omega
            | succ nq_ ih_45 =>
              intro v5_1 v6_1 hi45_0 hi45_1 hi45_2 hi45_3 hi45_4 hm45
              refine B rfl ?_
              refine And.intro (fun h24 => ?_) (fun h24 => ?_)
              · skip
                refine B rfl ?_
                refine And.intro (by omega) ?_
                refine And.intro (by omega) ?_
                intro z25 ez25 hz25
                have hz25 : ((-2147483648) : Int) ≤ z25 ∧ z25 ≤ (2147483647 : Int) := rgl_ hz25 (by decide +kernel) (by decide +kernel) (by decide +kernel)
                try have t26 : τ19 86 19 = σ 86 19 := (hf19 _ _ (by omega))
                refine And.intro (fun h27 => ?_) (fun h27 => ?_)
                · skip
                  refine B rfl ?_
                  refine And.intro (by omega) ?_
                  refine And.intro (by omega) ?_
                  intro σ28 e29
                  intro σ30 e31
                  refine And.intro (by omega) ?_
                  exact ih_19 v5_1 v6_1 (v7 + 1) σ30 (fun k j hk => ((ups_r e31 (by omega)).trans ((ups_r e29 (by omega)).trans (hf19 _ _ (by omega))))) (by show a2 ≤ (v7 + 1); omega) (by show (v7 + 1) ≤ a3 + 1; omega) (by show a2 ≤ v5_1; omega) (by show v5_1 ≤ (v7 + 1); omega) (by show 0 ≤ v6_1; omega) (by show v6_1 ≤ (v7 + 1) - a2; omega) (by show v6_1 = pcn_ (σ 96) (2000 * a1) ((v7 + 1)).toNat - pcn_ (σ 96) (2000 * a1) (v5_1).toNat; omega) (by omega)
                · skip
                  show WP_ X G Q 0 0 ad SHS_ τ19 92 [(42, 86), (0, a1), (9, 0), (0, a3), (0, a4), (0, v5_1), (0, v6_1), (0, v7)] []
                  refine B rfl ?_
                  refine B rfl ?_
                  refine And.intro (by omega) ?_
                  exact ih_19 v5_1 v6_1 (v7 + 1) τ19 (fun k j hk => (hf19 _ _ (by omega))) (by show a2 ≤ (v7 + 1); omega) (by show (v7 + 1) ≤ a3 + 1; omega) (by show a2 ≤ v5_1; omega) (by show v5_1 ≤ (v7 + 1); omega) (by show 0 ≤ v6_1; omega) (by show v6_1 ≤ (v7 + 1) - a2; omega) (by show v6_1 = pcn_ (σ 96) (2000 * a1) ((v7 + 1)).toNat - pcn_ (σ 96) (2000 * a1) (v5_1).toNat; omega) (by omega)
              · skip
                show WP_ X G Q 0 0 ad SHS_ τ19 52 [(42, 86), (0, a1), (9, 0), (0, a3), (0, a4), (0, v5_1), (0, v6_1), (0, v7)] []
                refine B rfl ?_
                have hfd : v5_1 ≤ v7 := by
                  by_cases hq : v5_1 = v7 + 1
                  · rw [hq] at hi45_4; omega
                  · omega
                refine Exists.intro (a1, v5_1) (And.intro rfl (And.intro (And.intro (by show 0 ≤ a1; omega) (And.intro (by show a1 ≤ 2; omega) (And.intro (by show 0 ≤ v5_1; omega) (by show v5_1 ≤ 1999; omega)))) ?_))
                rintro z32 m_ h33
                obtain rfl : τ19 = m_ := h33.2
                have h34 : (z32 = 1 ∧ τ19 96 (2000 * a1 + v5_1) = 0) ∨ (z32 = 0 ∧ τ19 96 (2000 * a1 + v5_1) ≠ 0) := h33.1
                try have t35 : τ19 96 (2000 * a1 + v5_1) = σ 96 (2000 * a1 + v5_1) := (hf19 _ _ (by omega))
                refine And.intro (fun h36 => ?_) (fun h36 => ?_)
                · skip
                  refine B rfl ?_
                  refine And.intro (by omega) ?_
                  refine And.intro (by omega) ?_
                  exact ih_45 (v5_1 + 1) (v6_1 - 0) (by show a2 ≤ (v5_1 + 1); omega) (by show (v5_1 + 1) ≤ v7 + 1; omega) (by show 0 ≤ (v6_1 - 0); omega) (by show (v6_1 - 0) ≤ v7 - a2 + 1; omega) (by show (v6_1 - 0) = pcn_ (σ 96) (2000 * a1) (v7 + 1).toNat - pcn_ (σ 96) (2000 * a1) ((v5_1 + 1)).toNat; rw [pcn_s (m := v5_1) (by omega)]; split <;> omega) (by omega)
                · skip
                  show WP_ X G Q 0 0 ad SHS_ τ19 64 [(42, 86), (0, a1), (9, 0), (0, a3), (0, a4), (0, v5_1), (0, v6_1), (0, v7)] [(0, v6_1)]
                  refine B rfl ?_
                  refine B rfl ?_
                  refine And.intro (by omega) ?_
                  refine And.intro (by omega) ?_
                  exact ih_45 (v5_1 + 1) (v6_1 - 1) (by show a2 ≤ (v5_1 + 1); omega) (by show (v5_1 + 1) ≤ v7 + 1; omega) (by show 0 ≤ (v6_1 - 1); omega) (by show (v6_1 - 1) ≤ v7 - a2 + 1; omega) (by show (v6_1 - 1) = pcn_ (σ 96) (2000 * a1) (v7 + 1).toNat - pcn_ (σ 96) (2000 * a1) ((v5_1 + 1)).toNat; rw [pcn_s (m := v5_1) (by omega)]; split <;> omega) (by omega)
          exact lp_45 ((v7 + 1 - v5 : Int).toNat + 1) v5 (v6 + 1) (by show a2 ≤ v5; omega) (by show v5 ≤ v7 + 1; omega) (by show 0 ≤ (v6 + 1); omega) (by show (v6 + 1) ≤ v7 - a2 + 1; omega) (by show (v6 + 1) = pcn_ (σ 96) (2000 * a1) (v7 + 1).toNat - pcn_ (σ 96) (2000 * a1) (v5).toNat; rw [pcn_s (m := v7) (by omega)]; split <;> omega) (by omega)
  exact lp_19 ((a3 + 1 - a2 : Int).toNat + 1) a2 0 a2 σ3 (fun k j hk => ((ups_r e4 (by omega)).trans (ups_r e2 (by omega)))) (by show a2 ≤ a2; omega) (by show a2 ≤ a3 + 1; omega) (by show a2 ≤ a2; omega) (by show a2 ≤ a2; omega) (by show 0 ≤ 0; omega) (by show 0 ≤ a2 - a2; omega) (by show 0 = pcn_ (σ 96) (2000 * a1) (a2).toNat - pcn_ (σ 96) (2000 * a1) (a2).toNat; omega) (by omega)
def as_G_X11_bridge : Int × Int × Int × Int → List Sv_t := fun a => [(42, 86), (0, a.1), (0, a.2.1), (0, a.2.2.1), (0, a.2.2.2)]
def pre_G_X11_bridge : Int × Int × Int × Int → Me_t → Prop := fun a σ => (MI σ)
def post_G_X11_bridge : Int × Int × Int × Int → Me_t → Int → Me_t → Prop := fun a σ z σ' => (∀ k j : Int, ¬ (k = 86 ∨ (93 ≤ k ∧ k ≤ 96)) → σ' k j = σ k j)
set_option maxHeartbeats 1500000 in
set_option maxRecDepth 100000 in
theorem ct_G_X11_bridge (l : Launch) : CT_ l yX11_bridge cX11_bridge 5 (some .int) 4 92 as_G_X11_bridge (rmI_) pre_G_X11_bridge post_G_X11_bridge := by
  refine ct_of (by decide) (fun _ => Nat.le_of_ble_eq_true rfl) ?_
  intro X G Q ad σ a hl hR E hG R hM hv hp
  obtain ⟨a1, a2, a3, a4⟩ := a
  have r_a1 : -2147483648 ≤ a1 ∧ a1 ≤ 2147483647 := hv (0, a1) (List.mem_of_getElem? (i := 1) rfl)
  have r_a2 : -2147483648 ≤ a2 ∧ a2 ≤ 2147483647 := hv (0, a2) (List.mem_of_getElem? (i := 2) rfl)
  have r_a3 : -2147483648 ≤ a3 ∧ a3 ≤ 2147483647 := hv (0, a3) (List.mem_of_getElem? (i := 3) rfl)
  have r_a4 : -2147483648 ≤ a4 ∧ a4 ≤ 2147483647 := hv (0, a4) (List.mem_of_getElem? (i := 4) rfl)
  have hp0 : MI σ := hp
  have B := @bk_ X G Q 0 0 ad SHS_ RX11 cX11_bridge 5 (some .int) flX11 plX11 knX11 [(166, 2, TR_ as_G_X11_isLand (rmI_) pre_G_X11_isLand post_G_X11_isLand), (593, 2, TR_ as_G_X11_isSpan (rmI_) pre_G_X11_isSpan post_G_X11_isSpan), (159, 3, TR_ as_G_X11_in (rmI_) pre_G_X11_in post_G_X11_in), (538, 1, TR_ as_G_X11_lay (rmV_) pre_G_X11_lay post_G_X11_lay), (700, 5, TR_ as_G_X11_findBridge (rmV_) pre_G_X11_findBridge post_G_X11_findBridge)] _ _ none kX11_bridge [] flX11_ok plX11_ok knX11_ok eX11_bridge oX11_bridge
    (List.forall_mem_cons.mpr ⟨cok_v (t := 32) (c := 11) (N := 39) (n := 1) (idx := 83) E (ct_G_X11_isLand X.2.1) (by rw [hR]; decide) (Nat.zero_le _) (Nat.zero_le _) hG rfl rfl ⟨rfl, by decide, by decide, by decide⟩ (fun _ => ⟨_, _, rfl, rfl⟩) wl_X11_83 wi_X11_isLand ws_X11_isLand wn_X11 wc_X11_isLand, List.forall_mem_cons.mpr ⟨cok_s (n := 2) (idx := 296) E (ct_G_X11_isSpan X.2.1) (by rw [hR]; decide) (Nat.zero_le _) (Nat.zero_le _) hG ⟨by decide, by decide, by decide⟩ (fun _ => rfl) wl_X11_296 wt_X11_isSpan wn_X11 wc_X11_isSpan, List.forall_mem_cons.mpr ⟨cok_s (n := 3) (idx := 79) E (ct_G_X11_in X.2.1) (by rw [hR]; decide) (Nat.zero_le _) (Nat.zero_le _) hG ⟨by decide, by decide, by decide⟩ (fun _ => rfl) wl_X11_79 wt_X11_in wn_X11 wc_X11_in, List.forall_mem_cons.mpr ⟨cok_v (t := 32) (c := 11) (N := 39) (n := 0) (idx := 269) E (ct_G_X11_lay X.2.1) (by rw [hR]; decide) (Nat.zero_le _) (Nat.zero_le _) hG rfl rfl ⟨rfl, by decide, by decide, by decide⟩ (fun _ => ⟨_, _, rfl, rfl⟩) wl_X11_269 wi_X11_lay ws_X11_lay wn_X11 wc_X11_lay, List.forall_mem_cons.mpr ⟨cok_v (t := 32) (c := 11) (N := 39) (n := 4) (idx := 350) E (ct_G_X11_findBridge X.2.1) (by rw [hR]; decide) (Nat.zero_le _) (Nat.zero_le _) hG rfl rfl ⟨rfl, by decide, by decide, by decide⟩ (fun _ => ⟨_, _, rfl, rfl⟩) wl_X11_350 wi_X11_findBridge ws_X11_findBridge wn_X11 wc_X11_findBridge, fun _ h => absurd h List.not_mem_nil⟩⟩⟩⟩⟩) R sok_no E
  show WP_ X G Q 0 0 ad SHS_ σ 0 [(42, 86), (0, a1), (0, a2), (0, a3), (0, a4)] []
  refine B rfl ?_
  have p1 : BW σ 87 := (hp0).1.1
  refine Exists.intro a1 (And.intro rfl (And.intro p1 ?_))
  rintro z2 m_ h3
  obtain rfl : σ = m_ := h3.2
  have h4 : (z2 = 1 ∧ 0 ≤ a1 ∧ a1 ≤ 2 ∧ a1 < σ 87 1) ∨ z2 = 0 := h3.1
  refine And.intro (fun h5 => ?_) (fun h5 => ?_)
  · skip
    refine B rfl ?_
    refine Exists.intro _ (And.intro rfl ?_)
    exact (fun k j hk => rfl)
  · skip
    refine Exists.intro (a2, a3) (And.intro rfl (And.intro True.intro ?_))
    rintro z6 m_ h7
    obtain rfl : σ = m_ := h7.2
    have h8 : (z6 = 1 ∧ 0 ≤ a2 ∧ a2 ≤ a3 ∧ a3 ≤ 1999) ∨ z6 = 0 := h7.1
    refine And.intro (fun h9 => ?_) (fun h9 => ?_)
    · skip
      refine B rfl ?_
      refine Exists.intro _ (And.intro rfl ?_)
      exact (fun k j hk => rfl)
    · skip
      refine Exists.intro (a4, 0, 9) (And.intro rfl (And.intro True.intro ?_))
      rintro z10 m_ h11
      obtain rfl : σ = m_ := h11.2
      have h12 : (z10 = 1 ∧ 0 ≤ a4 ∧ a4 ≤ 9) ∨ (z10 = 0 ∧ ¬ (0 ≤ a4 ∧ a4 ≤ 9)) := h11.1
      refine And.intro (fun h13 => ?_) (fun h13 => ?_)
      · skip
        refine B rfl ?_
        refine Exists.intro () (And.intro rfl (And.intro hp0 ?_))
        intro z14 σ16 h15
        have f17 : ∀ k j : Int, ¬ (93 ≤ k ∧ k ≤ 96) → σ16 k j = σ k j := h15.2
        have h18 : LY σ16 := h15.1
        refine Exists.intro (a1, a2, a3, a4) (And.intro rfl (And.intro (And.intro (by show 0 ≤ a1; omega) (And.intro (by show a1 ≤ 2; omega) (And.intro (by show 0 ≤ a2; omega) (And.intro (by show a2 ≤ a3; omega) (And.intro (by show a3 ≤ 1999; omega) (And.intro (by show 0 ≤ a4; omega) (by show a4 ≤ 9; omega))))))) ?_))
        intro z19 σ21 h20
        have f22 : ∀ k j : Int, ¬ (k = 86) → σ21 k j = σ16 k j := h20
        intro z23 ez23 hz23
        have hz23 : ((-2147483648) : Int) ≤ z23 ∧ z23 ≤ (2147483647 : Int) := rgl_ hz23 (by decide +kernel) (by decide +kernel) (by decide +kernel)
        try have t24 : σ21 86 19 = σ 86 19 := ((f22 _ _ (by omega)).trans (f17 _ _ (by omega)))
        refine Exists.intro _ (And.intro rfl ?_)
        exact (fun k j hk => ((f22 _ _ (by omega)).trans (f17 _ _ (by omega))))
      · skip
        refine Exists.intro _ (And.intro rfl ?_)
        exact (fun k j hk => rfl)
def as_G_X11_bridged : Int × Int × Int × Int → List Sv_t := fun a => [(42, 86), (0, a.1), (0, a.2.1), (0, a.2.2.1), (0, a.2.2.2)]
def pre_G_X11_bridged : Int × Int × Int × Int → Me_t → Prop := fun a σ => (MI σ)
def post_G_X11_bridged : Int × Int × Int × Int → Me_t → Int → Me_t → Prop := fun a σ z σ' => (∀ k j : Int, ¬ (k = 86 ∨ (93 ≤ k ∧ k ≤ 96)) → σ' k j = σ k j)
set_option maxHeartbeats 1500000 in
set_option maxRecDepth 100000 in
theorem ct_G_X11_bridged (l : Launch) : CT_ l yX11_bridged cX11_bridged 5 (some .int) 4 92 as_G_X11_bridged (rmI_) pre_G_X11_bridged post_G_X11_bridged := by
  refine ct_of (by decide) (fun _ => Nat.le_of_ble_eq_true rfl) ?_
  intro X G Q ad σ a hl hR E hG R hM hv hp
  obtain ⟨a1, a2, a3, a4⟩ := a
  have r_a1 : -2147483648 ≤ a1 ∧ a1 ≤ 2147483647 := hv (0, a1) (List.mem_of_getElem? (i := 1) rfl)
  have r_a2 : -2147483648 ≤ a2 ∧ a2 ≤ 2147483647 := hv (0, a2) (List.mem_of_getElem? (i := 2) rfl)
  have r_a3 : -2147483648 ≤ a3 ∧ a3 ≤ 2147483647 := hv (0, a3) (List.mem_of_getElem? (i := 3) rfl)
  have r_a4 : -2147483648 ≤ a4 ∧ a4 ≤ 2147483647 := hv (0, a4) (List.mem_of_getElem? (i := 4) rfl)
  have hp0 : MI σ := hp
  have B := @bk_ X G Q 0 0 ad SHS_ RX11 cX11_bridged 5 (some .int) flX11 plX11 knX11 [(166, 2, TR_ as_G_X11_isLand (rmI_) pre_G_X11_isLand post_G_X11_isLand), (593, 2, TR_ as_G_X11_isSpan (rmI_) pre_G_X11_isSpan post_G_X11_isSpan), (159, 3, TR_ as_G_X11_in (rmI_) pre_G_X11_in post_G_X11_in), (538, 1, TR_ as_G_X11_lay (rmV_) pre_G_X11_lay post_G_X11_lay), (700, 5, TR_ as_G_X11_findBridge (rmV_) pre_G_X11_findBridge post_G_X11_findBridge)] _ _ none kX11_bridged [] flX11_ok plX11_ok knX11_ok eX11_bridged oX11_bridged
    (List.forall_mem_cons.mpr ⟨cok_v (t := 32) (c := 11) (N := 39) (n := 1) (idx := 83) E (ct_G_X11_isLand X.2.1) (by rw [hR]; decide) (Nat.zero_le _) (Nat.zero_le _) hG rfl rfl ⟨rfl, by decide, by decide, by decide⟩ (fun _ => ⟨_, _, rfl, rfl⟩) wl_X11_83 wi_X11_isLand ws_X11_isLand wn_X11 wc_X11_isLand, List.forall_mem_cons.mpr ⟨cok_s (n := 2) (idx := 296) E (ct_G_X11_isSpan X.2.1) (by rw [hR]; decide) (Nat.zero_le _) (Nat.zero_le _) hG ⟨by decide, by decide, by decide⟩ (fun _ => rfl) wl_X11_296 wt_X11_isSpan wn_X11 wc_X11_isSpan, List.forall_mem_cons.mpr ⟨cok_s (n := 3) (idx := 79) E (ct_G_X11_in X.2.1) (by rw [hR]; decide) (Nat.zero_le _) (Nat.zero_le _) hG ⟨by decide, by decide, by decide⟩ (fun _ => rfl) wl_X11_79 wt_X11_in wn_X11 wc_X11_in, List.forall_mem_cons.mpr ⟨cok_v (t := 32) (c := 11) (N := 39) (n := 0) (idx := 269) E (ct_G_X11_lay X.2.1) (by rw [hR]; decide) (Nat.zero_le _) (Nat.zero_le _) hG rfl rfl ⟨rfl, by decide, by decide, by decide⟩ (fun _ => ⟨_, _, rfl, rfl⟩) wl_X11_269 wi_X11_lay ws_X11_lay wn_X11 wc_X11_lay, List.forall_mem_cons.mpr ⟨cok_v (t := 32) (c := 11) (N := 39) (n := 4) (idx := 350) E (ct_G_X11_findBridge X.2.1) (by rw [hR]; decide) (Nat.zero_le _) (Nat.zero_le _) hG rfl rfl ⟨rfl, by decide, by decide, by decide⟩ (fun _ => ⟨_, _, rfl, rfl⟩) wl_X11_350 wi_X11_findBridge ws_X11_findBridge wn_X11 wc_X11_findBridge, fun _ h => absurd h List.not_mem_nil⟩⟩⟩⟩⟩) R sok_no E
  show WP_ X G Q 0 0 ad SHS_ σ 0 [(42, 86), (0, a1), (0, a2), (0, a3), (0, a4)] []
  refine B rfl ?_
  have p1 : BW σ 87 := (hp0).1.1
  refine Exists.intro a1 (And.intro rfl (And.intro p1 ?_))
  rintro z2 m_ h3
  obtain rfl : σ = m_ := h3.2
  have h4 : (z2 = 1 ∧ 0 ≤ a1 ∧ a1 ≤ 2 ∧ a1 < σ 87 1) ∨ z2 = 0 := h3.1
  refine And.intro (fun h5 => ?_) (fun h5 => ?_)
  · skip
    refine B rfl ?_
    refine Exists.intro _ (And.intro rfl ?_)
    exact (fun k j hk => rfl)
  · skip
    refine Exists.intro (a2, a3) (And.intro rfl (And.intro True.intro ?_))
    rintro z6 m_ h7
    obtain rfl : σ = m_ := h7.2
    have h8 : (z6 = 1 ∧ 0 ≤ a2 ∧ a2 ≤ a3 ∧ a3 ≤ 1999) ∨ z6 = 0 := h7.1
    refine And.intro (fun h9 => ?_) (fun h9 => ?_)
    · skip
      refine B rfl ?_
      refine Exists.intro _ (And.intro rfl ?_)
      exact (fun k j hk => rfl)
    · skip
      refine Exists.intro (a4, 0, 9) (And.intro rfl (And.intro True.intro ?_))
      rintro z10 m_ h11
      obtain rfl : σ = m_ := h11.2
      have h12 : (z10 = 1 ∧ 0 ≤ a4 ∧ a4 ≤ 9) ∨ (z10 = 0 ∧ ¬ (0 ≤ a4 ∧ a4 ≤ 9)) := h11.1
      refine And.intro (fun h13 => ?_) (fun h13 => ?_)
      · skip
        refine B rfl ?_
        refine Exists.intro () (And.intro rfl (And.intro hp0 ?_))
        intro z14 σ16 h15
        have f17 : ∀ k j : Int, ¬ (93 ≤ k ∧ k ≤ 96) → σ16 k j = σ k j := h15.2
        have h18 : LY σ16 := h15.1
        refine Exists.intro (a1, a2, a3, a4) (And.intro rfl (And.intro (And.intro (by show 0 ≤ a1; omega) (And.intro (by show a1 ≤ 2; omega) (And.intro (by show 0 ≤ a2; omega) (And.intro (by show a2 ≤ a3; omega) (And.intro (by show a3 ≤ 1999; omega) (And.intro (by show 0 ≤ a4; omega) (by show a4 ≤ 9; omega))))))) ?_))
        intro z19 σ21 h20
        have f22 : ∀ k j : Int, ¬ (k = 86) → σ21 k j = σ16 k j := h20
        intro z23 ez23 hz23
        have hz23 : ((-2147483648) : Int) ≤ z23 ∧ z23 ≤ (2147483647 : Int) := rgl_ hz23 (by decide +kernel) (by decide +kernel) (by decide +kernel)
        try have t24 : σ21 86 20 = σ 86 20 := ((f22 _ _ (by omega)).trans (f17 _ _ (by omega)))
        refine Exists.intro _ (And.intro rfl ?_)
        exact (fun k j hk => ((f22 _ _ (by omega)).trans (f17 _ _ (by omega))))
      · skip
        refine Exists.intro _ (And.intro rfl ?_)
        exact (fun k j hk => rfl)
def as_G_X11_keepChange : Int × Int → List Sv_t := fun a => [(42, 86), (0, a.1), (0, a.2)]
def pre_G_X11_keepChange : Int × Int → Me_t → Prop := fun a σ => (BW σ 87) ∧ (σ 87 5 ≤ 59) ∧ (0 ≤ a.1) ∧ (a.1 ≤ 2) ∧ (0 ≤ a.2) ∧ (a.2 ≤ 11)
def post_G_X11_keepChange : Int × Int → Me_t → Int → Me_t → Prop := fun a σ z σ' => (BW σ' 87) ∧ (σ' 87 5 = σ 87 5 + 1) ∧ (σ' 87 (135 + 6 * σ 87 5) = a.1) ∧ (σ' 87 (135 + 6 * σ 87 5 + 1) = a.2) ∧ (∀ j : Int, j ≠ 5 → j < 135 + 6 * σ 87 5 → σ' 87 j = σ 87 j) ∧ (∀ k j : Int, ¬ (k = 87) → σ' k j = σ k j)
set_option maxHeartbeats 1500000 in
set_option maxRecDepth 100000 in
theorem ct_G_X11_keepChange (l : Launch) : CT_ l yX11_keepChange cX11_keepChange 5 none 1 22 as_G_X11_keepChange (rmV_) pre_G_X11_keepChange post_G_X11_keepChange := by
  refine ct_of (by decide) (fun _ => Nat.le_of_ble_eq_true rfl) ?_
  intro X G Q ad σ a hl hR E hG R hM hv hp
  obtain ⟨a1, a2⟩ := a
  have r_a1 : -2147483648 ≤ a1 ∧ a1 ≤ 2147483647 := hv (0, a1) (List.mem_of_getElem? (i := 1) rfl)
  have r_a2 : -2147483648 ≤ a2 ∧ a2 ≤ 2147483647 := hv (0, a2) (List.mem_of_getElem? (i := 2) rfl)
  have hp0 : BW σ 87 := hp.1
  have hp1 : σ 87 5 ≤ 59 := hp.2.1
  have hp2 : 0 ≤ a1 := hp.2.2.1
  have hp3 : a1 ≤ 2 := hp.2.2.2.1
  have hp4 : 0 ≤ a2 := hp.2.2.2.2.1
  have hp5 : a2 ≤ 11 := hp.2.2.2.2.2
  have B := @bk_ X G Q 0 0 ad SHS_ RX11 cX11_keepChange 5 none flX11 plX11 knX11 [(484, 3, TR_ as_G_X11_ofFeast (rmI_) pre_G_X11_ofFeast post_G_X11_ofFeast)] _ _ none kX11_keepChange [33, 39, 54] flX11_ok plX11_ok knX11_ok eX11_keepChange oX11_keepChange
    (List.forall_mem_cons.mpr ⟨cok_v (t := 32) (c := 11) (N := 39) (n := 2) (idx := 242) E (ct_G_X11_ofFeast X.2.1) (by rw [hR]; decide) (Nat.zero_le _) (Nat.zero_le _) hG rfl rfl ⟨rfl, by decide, by decide, by decide⟩ (fun _ => ⟨_, _, rfl, rfl⟩) wl_X11_242 wi_X11_ofFeast ws_X11_ofFeast wn_X11 wc_X11_ofFeast, fun _ h => absurd h List.not_mem_nil⟩) R sok_no E
  show WP_ X G Q 0 0 ad SHS_ σ 0 [(42, 86), (0, a1), (0, a2), (9, 0), (9, 0)] []
  refine B rfl ?_
  refine And.intro (by omega) ?_
  intro z1 ez1 hz1
  have hz1 : ((-1) : Int) ≤ z1 ∧ z1 ≤ (1999 : Int) := hz1
  have b2 := wrh_ hp0 (i := 5) (by omega)
  have b2 : (0 : Int) ≤ σ 87 5 ∧ σ 87 5 ≤ (60 : Int) := b2
  refine And.intro (by omega) ?_
  refine And.intro (by omega) ?_
  refine And.intro (by omega) ?_
  refine And.intro (by show ((-1) : Int) ≤ _ ∧ _ ≤ (1999 : Int); omega) ?_
  intro σ3 e4
  have p5 : BW σ3 87 := wstc_ (c := σ 87 5) (w := 0) hp0 e4 (by omega) (by omega) (by omega) (by have e5 : cghi_ 0 = 2 := rfl; omega)
  refine And.intro (by omega) ?_
  refine And.intro (by omega) ?_
  refine And.intro (by show ((-1) : Int) ≤ _ ∧ _ ≤ (1999 : Int); omega) ?_
  intro σ6 e7
  have p8 : BW σ6 87 := wstc_ (c := σ 87 5) (w := 1) p5 e7 (by omega) (by omega) (by omega) (by have e5 : cghi_ 1 = 11 := rfl; omega)
  have lp_33 : ∀ (nq_ : Nat) (v4 : Int) (τ33 : Me_t), (∀ k j : Int, ¬ (k = 87) → τ33 k j = σ k j) → (0 ≤ v4) → (v4 ≤ 4) → (BW τ33 87) → (τ33 87 5 = σ 87 5) → (τ33 87 (135 + 6 * σ 87 5) = a1) → (τ33 87 (135 + 6 * σ 87 5 + 1) = a2) → (∀ j : Int, j < 135 + 6 * σ 87 5 → τ33 87 j = σ 87 j) → (4 - v4 : Int).toNat < nq_ → WP_ X G Q 0 0 ad SHS_ τ33 33 [(42, 86), (0, a1), (0, a2), (0, 135 + (6 * z1)), (0, v4)] [] := by
    intro nq_
    induction nq_ with
    | zero => intros; omega
    | succ nq_ ih_33 =>
      intro v4 τ33 hf33 hi33_0 hi33_1 hi33_2 hi33_3 hi33_4 hi33_5 hi33_6 hm33
      refine B rfl ?_
      refine And.intro (fun h9 => ?_) (fun h9 => ?_)
      · skip
        refine B rfl ?_
        refine And.intro (by omega) ?_
        intro z10 ez10 hz10
        have hz10 : ((-1) : Int) ≤ z10 ∧ z10 ≤ (1999 : Int) := hz10
        have b11 := wrh_ hi33_2 (i := 5) (by omega)
        have b11 : (0 : Int) ≤ τ33 87 5 ∧ τ33 87 5 ≤ (60 : Int) := b11
        refine And.intro (by omega) ?_
        refine And.intro (by omega) ?_
        refine And.intro (by show ((-1) : Int) ≤ _ ∧ _ ≤ (1999 : Int); omega) ?_
        intro σ12 e13
        have p14 : BW σ12 87 := wsth_ hi33_2 e13 (by omega) (by have e5 : hdhi_ 5 = 60 := rfl; omega)
        refine Exists.intro 0 (And.intro rfl ?_)
        have t15 : σ12 87 5 = z10 + 1 := ups_v e13
        try have t16 : σ12 87 (135 + 6 * σ 87 5) = τ33 87 (135 + 6 * σ 87 5) := (ups_r e13 (by omega))
        try have t17 : σ12 87 (135 + 6 * σ 87 5 + 1) = τ33 87 (135 + 6 * σ 87 5 + 1) := (ups_r e13 (by omega))
        exact (And.intro p14 (And.intro (by show σ12 87 5 = σ 87 5 + 1; omega) (And.intro (by show σ12 87 (135 + 6 * σ 87 5) = a1; omega) (And.intro (by show σ12 87 (135 + 6 * σ 87 5 + 1) = a2; omega) (And.intro (by show ∀ j : Int, j ≠ 5 → j < 135 + 6 * σ 87 5 → σ12 87 j = σ 87 j; intro j h1 h2; exact (ups_r e13 (by omega)).trans (hi33_6 j h2)) (fun k j hk => ((ups_r e13 (by omega)).trans (hf33 _ _ (by omega)))))))))
      · skip
        show WP_ X G Q 0 0 ad SHS_ τ33 39 [(42, 86), (0, a1), (0, a2), (0, 135 + (6 * z1)), (0, v4)] []
        refine B rfl ?_
        refine And.intro (by omega) ?_
        refine And.intro (by omega) ?_
        refine And.intro (fun h18 => ?_) (fun h18 => ?_)
        · skip
          refine B rfl ?_
          refine And.intro (by omega) ?_
          refine And.intro (by show ((-1) : Int) ≤ _ ∧ _ ≤ (1999 : Int); omega) ?_
          intro σ19 e20
          have p21 : BW σ19 87 := wstc_ (c := σ 87 5) (w := 2 + v4) hi33_2 e20 (by omega) (by omega) (by omega) (by rw [cg_ft ⟨by omega, by omega⟩]; have e5 := ft_0 (w := v4); omega)
          refine And.intro (by omega) ?_
          try have t22 : σ19 87 5 = τ33 87 5 := (ups_r e20 (by omega))
          try have t23 : σ19 87 (135 + 6 * σ 87 5) = τ33 87 (135 + 6 * σ 87 5) := (ups_r e20 (by omega))
          try have t24 : σ19 87 (135 + 6 * σ 87 5 + 1) = τ33 87 (135 + 6 * σ 87 5 + 1) := (ups_r e20 (by omega))
          exact ih_33 (v4 + 1) σ19 (fun k j hk => ((ups_r e20 (by omega)).trans (hf33 _ _ (by omega)))) (by show 0 ≤ (v4 + 1); omega) (by show (v4 + 1) ≤ 4; omega) p21 (by show σ19 87 5 = σ 87 5; omega) (by show σ19 87 (135 + 6 * σ 87 5) = a1; omega) (by show σ19 87 (135 + 6 * σ 87 5 + 1) = a2; omega) (by show ∀ j : Int, j < 135 + 6 * σ 87 5 → σ19 87 j = σ 87 j; intro j hj; exact ((ups_r e20 (by omega))).trans (hi33_6 j hj)) (by omega)
        · skip
          show WP_ X G Q 0 0 ad SHS_ τ33 54 [(42, 86), (0, a1), (0, a2), (0, 135 + (6 * z1)), (0, v4)] [(0, ((135 + (6 * z1)) + 2) + v4), (43, 87)]
          refine B rfl ?_
          refine Exists.intro (a2, v4) (And.intro rfl (And.intro (And.intro hi33_2 (And.intro (by show 0 ≤ a2; omega) (And.intro (by show a2 ≤ 11; omega) (And.intro (by show 0 ≤ v4; omega) (by show v4 ≤ 3; omega))))) ?_))
          rintro z25 m_ h26
          obtain rfl : τ33 = m_ := h26.2.2
          have h27 : 0 ≤ z25 ∧ z25 ≤ 59 := h26.1
          have h28 : z25 ≤ fthi_ v4 := h26.2.1
          refine B rfl ?_
          refine And.intro (by omega) ?_
          refine And.intro (by show ((-1) : Int) ≤ _ ∧ _ ≤ (1999 : Int); omega) ?_
          intro σ29 e30
          have p31 : BW σ29 87 := wstc_ (c := σ 87 5) (w := 2 + v4) hi33_2 e30 (by omega) (by omega) (by omega) (by rw [cg_ft ⟨by omega, by omega⟩]; have e5 := ft_0 (w := v4); omega)
          refine And.intro (by omega) ?_
          try have t32 : σ29 87 5 = τ33 87 5 := (ups_r e30 (by omega))
          try have t33 : σ29 87 (135 + 6 * σ 87 5) = τ33 87 (135 + 6 * σ 87 5) := (ups_r e30 (by omega))
          try have t34 : σ29 87 (135 + 6 * σ 87 5 + 1) = τ33 87 (135 + 6 * σ 87 5 + 1) := (ups_r e30 (by omega))
          exact ih_33 (v4 + 1) σ29 (fun k j hk => ((ups_r e30 (by omega)).trans (hf33 _ _ (by omega)))) (by show 0 ≤ (v4 + 1); omega) (by show (v4 + 1) ≤ 4; omega) p31 (by show σ29 87 5 = σ 87 5; omega) (by show σ29 87 (135 + 6 * σ 87 5) = a1; omega) (by show σ29 87 (135 + 6 * σ 87 5 + 1) = a2; omega) (by show ∀ j : Int, j < 135 + 6 * σ 87 5 → σ29 87 j = σ 87 j; intro j hj; exact ((ups_r e30 (by omega))).trans (hi33_6 j hj)) (by omega)
  try have t35 : σ6 87 5 = σ 87 5 := ((ups_r e7 (by omega)).trans (ups_r e4 (by omega)))
  try have t36 : σ6 87 (135 + 6 * σ 87 5) = σ 87 (135 + 6 * σ 87 5) := ((ups_r e7 (by omega)).trans (ups_r e4 (by omega)))
  try have t37 : σ6 87 (135 + 6 * σ 87 5 + 1) = σ 87 (135 + 6 * σ 87 5 + 1) := ((ups_r e7 (by omega)).trans (ups_r e4 (by omega)))
  exact lp_33 ((4 - 0 : Int).toNat + 1) 0 σ6 (fun k j hk => ((ups_r e7 (by omega)).trans (ups_r e4 (by omega)))) (by show 0 ≤ 0; omega) (by show 0 ≤ 4; omega) p8 (by show σ6 87 5 = σ 87 5; omega) (by show σ6 87 (135 + 6 * σ 87 5) = a1; rw [show 135 + 6 * σ 87 5 = (135 + (6 * z1)) by omega]; exact ((ups_r e7 (by omega))).trans (ups_v e4)) (by show σ6 87 (135 + 6 * σ 87 5 + 1) = a2; rw [show 135 + 6 * σ 87 5 + 1 = ((135 + (6 * z1)) + 1) by omega]; exact ups_v e7) (by show ∀ j : Int, j < 135 + 6 * σ 87 5 → σ6 87 j = σ 87 j; intro j hj; exact ((ups_r e7 (by omega)).trans (ups_r e4 (by omega)))) (by omega)
def as_G_X11_found : Int × Int × Int × Int → List Sv_t := fun a => [(42, 86), (0, a.1), (0, a.2.1), (0, a.2.2.1), (0, a.2.2.2)]
def pre_G_X11_found : Int × Int × Int × Int → Me_t → Prop := fun a σ => (MI σ)
def post_G_X11_found : Int × Int × Int × Int → Me_t → Int → Me_t → Prop := fun a σ z σ' => (MI σ') ∧ (∀ k j : Int, ¬ (k = 87) → σ' k j = σ k j)
set_option maxHeartbeats 1500000 in
set_option maxRecDepth 100000 in
theorem ct_G_X11_found (l : Launch) : CT_ l yX11_found cX11_found 6 (some .int) 2 48 as_G_X11_found (rmI_) pre_G_X11_found post_G_X11_found := by
  refine ct_of (by decide) (fun _ => Nat.le_of_ble_eq_true rfl) ?_
  intro X G Q ad σ a hl hR E hG R hM hv hp
  obtain ⟨a1, a2, a3, a4⟩ := a
  have r_a1 : -2147483648 ≤ a1 ∧ a1 ≤ 2147483647 := hv (0, a1) (List.mem_of_getElem? (i := 1) rfl)
  have r_a2 : -2147483648 ≤ a2 ∧ a2 ≤ 2147483647 := hv (0, a2) (List.mem_of_getElem? (i := 2) rfl)
  have r_a3 : -2147483648 ≤ a3 ∧ a3 ≤ 2147483647 := hv (0, a3) (List.mem_of_getElem? (i := 3) rfl)
  have r_a4 : -2147483648 ≤ a4 ∧ a4 ≤ 2147483647 := hv (0, a4) (List.mem_of_getElem? (i := 4) rfl)
  have hp0 : MI σ := hp
  have B := @bk_ X G Q 0 0 ad SHS_ RX11 cX11_found 6 (some .int) flX11 plX11 knX11 [(166, 2, TR_ as_G_X11_isLand (rmI_) pre_G_X11_isLand post_G_X11_isLand), (520, 3, TR_ as_G_X11_isMonth (rmI_) pre_G_X11_isMonth post_G_X11_isMonth), (200, 3, TR_ as_G_X11_of_x (rmI_) pre_G_X11_of_x post_G_X11_of_x), (159, 3, TR_ as_G_X11_in (rmI_) pre_G_X11_in post_G_X11_in), (912, 3, TR_ as_G_X11_keepChange (rmV_) pre_G_X11_keepChange post_G_X11_keepChange)] _ _ none kX11_found [9, 19, 40, 53, 67, 78] flX11_ok plX11_ok knX11_ok eX11_found oX11_found
    (List.forall_mem_cons.mpr ⟨cok_v (t := 32) (c := 11) (N := 39) (n := 1) (idx := 83) E (ct_G_X11_isLand X.2.1) (by rw [hR]; decide) (Nat.zero_le _) (Nat.zero_le _) hG rfl rfl ⟨rfl, by decide, by decide, by decide⟩ (fun _ => ⟨_, _, rfl, rfl⟩) wl_X11_83 wi_X11_isLand ws_X11_isLand wn_X11 wc_X11_isLand, List.forall_mem_cons.mpr ⟨cok_v (t := 32) (c := 11) (N := 39) (n := 2) (idx := 260) E (ct_G_X11_isMonth X.2.1) (by rw [hR]; decide) (Nat.zero_le _) (Nat.zero_le _) hG rfl rfl ⟨rfl, by decide, by decide, by decide⟩ (fun _ => ⟨_, _, rfl, rfl⟩) wl_X11_260 wi_X11_isMonth ws_X11_isMonth wn_X11 wc_X11_isMonth, List.forall_mem_cons.mpr ⟨cok_v (t := 32) (c := 11) (N := 39) (n := 2) (idx := 100) E (ct_G_X11_of_x X.2.1) (by rw [hR]; decide) (Nat.zero_le _) (Nat.zero_le _) hG rfl rfl ⟨rfl, by decide, by decide, by decide⟩ (fun _ => ⟨_, _, rfl, rfl⟩) wl_X11_100 wi_X11_of ws_X11_of wn_X11 wc_X11_of, List.forall_mem_cons.mpr ⟨cok_s (n := 3) (idx := 79) E (ct_G_X11_in X.2.1) (by rw [hR]; decide) (Nat.zero_le _) (Nat.zero_le _) hG ⟨by decide, by decide, by decide⟩ (fun _ => rfl) wl_X11_79 wt_X11_in wn_X11 wc_X11_in, List.forall_mem_cons.mpr ⟨cok_v (t := 32) (c := 11) (N := 39) (n := 2) (idx := 456) E (ct_G_X11_keepChange X.2.1) (by rw [hR]; decide) (Nat.zero_le _) (Nat.zero_le _) hG rfl rfl ⟨rfl, by decide, by decide, by decide⟩ (fun _ => ⟨_, _, rfl, rfl⟩) wl_X11_456 wi_X11_keepChange ws_X11_keepChange wn_X11 wc_X11_keepChange, fun _ h => absurd h List.not_mem_nil⟩⟩⟩⟩⟩) R sok_no E
  show WP_ X G Q 0 0 ad SHS_ σ 0 [(42, 86), (0, a1), (0, a2), (0, a3), (0, a4), (9, 0)] []
  refine B rfl ?_
  have p1 : BW σ 87 := (hp0).1.1
  refine Exists.intro a1 (And.intro rfl (And.intro p1 ?_))
  rintro z2 m_ h3
  obtain rfl : σ = m_ := h3.2
  have h4 : (z2 = 1 ∧ 0 ≤ a1 ∧ a1 ≤ 2 ∧ a1 < σ 87 1) ∨ z2 = 0 := h3.1
  refine And.intro (fun h5 => ?_) (fun h5 => ?_)
  · skip
    refine B rfl ?_
    refine Exists.intro _ (And.intro rfl ?_)
    exact (And.intro (by show MI σ; exact hp0) (fun k j hk => rfl))
  · skip
    show WP_ X G Q 0 0 ad SHS_ σ 9 [(42, 86), (0, a1), (0, a2), (0, a3), (0, a4), (9, 0)] []
    refine B rfl ?_
    refine Exists.intro (a1, a2) (And.intro rfl (And.intro (And.intro p1 (And.intro (by show 0 ≤ a1; omega) (by show a1 ≤ 2; omega))) ?_))
    rintro z6 m_ h7
    obtain rfl : σ = m_ := h7.2
    have h8 : (z6 = 1 ∧ 0 ≤ a2 ∧ a2 ≤ 7 ∧ a2 < σ 87 (6 + 15 * a1 + 3)) ∨ z6 = 0 := h7.1
    refine And.intro (fun h9 => ?_) (fun h9 => ?_)
    · skip
      refine B rfl ?_
      refine Exists.intro _ (And.intro rfl ?_)
      exact (And.intro (by show MI σ; exact hp0) (fun k j hk => rfl))
    · skip
      show WP_ X G Q 0 0 ad SHS_ σ 19 [(42, 86), (0, a1), (0, a2), (0, a3), (0, a4), (9, 0)] []
      refine B rfl ?_
      refine And.intro (by omega) ?_
      refine Exists.intro (a1, 7 + a2) (And.intro rfl (And.intro (And.intro p1 (And.intro (by show 0 ≤ a1; omega) (And.intro (by show a1 ≤ 2; omega) (And.intro (by show 0 ≤ (7 + a2); omega) (by show (7 + a2) ≤ 14; omega))))) ?_))
      rintro z10 m_ h11
      obtain rfl : σ = m_ := h11.2.2.2
      have h12 : z10 = σ 87 (6 + 15 * a1 + (7 + a2)) := h11.1
      have h13 : -1 ≤ z10 ∧ z10 ≤ 1999 := h11.2.1
      have h14 : 7 ≤ (7 + a2) → 0 ≤ z10 ∧ z10 ≤ 60 := h11.2.2.1
      refine And.intro (by omega) ?_
      refine Exists.intro (a3, 0, z10 - 1) (And.intro rfl (And.intro True.intro ?_))
      rintro z15 m_ h16
      obtain rfl : σ = m_ := h16.2
      have h17 : (z15 = 1 ∧ 0 ≤ a3 ∧ a3 ≤ (z10 - 1)) ∨ (z15 = 0 ∧ ¬ (0 ≤ a3 ∧ a3 ≤ (z10 - 1))) := h16.1
      refine And.intro (fun h18 => ?_) (fun h18 => ?_)
      · skip
        refine B rfl ?_
        refine Exists.intro _ (And.intro rfl ?_)
        exact (And.intro (by show MI σ; exact hp0) (fun k j hk => rfl))
      · skip
        show WP_ X G Q 0 0 ad SHS_ σ 40 [(42, 86), (0, a1), (0, a2), (0, a3), (0, a4), (9, 0)] []
        refine B rfl ?_
        refine Exists.intro (a4, 1, 9) (And.intro rfl (And.intro True.intro ?_))
        rintro z19 m_ h20
        obtain rfl : σ = m_ := h20.2
        have h21 : (z19 = 1 ∧ 1 ≤ a4 ∧ a4 ≤ 9) ∨ (z19 = 0 ∧ ¬ (1 ≤ a4 ∧ a4 ≤ 9)) := h20.1
        refine And.intro (fun h22 => ?_) (fun h22 => ?_)
        · skip
          refine B rfl ?_
          refine And.intro (by omega) ?_
          intro z23 ez23 hz23
          have hz23 : ((-1) : Int) ≤ z23 ∧ z23 ≤ (1999 : Int) := hz23
          have b24 := wrh_ p1 (i := 2) (by omega)
          have b24 : (0 : Int) ≤ σ 87 2 ∧ σ 87 2 ≤ (12 : Int) := b24
          refine And.intro (fun h25 => ?_) (fun h25 => ?_)
          · skip
            refine B rfl ?_
            refine Exists.intro _ (And.intro rfl ?_)
            exact (And.intro (by show MI σ; exact hp0) (fun k j hk => rfl))
          · skip
            show WP_ X G Q 0 0 ad SHS_ σ 67 [(42, 86), (0, a1), (0, a2), (0, a3), (0, a4), (9, 0)] []
            refine B rfl ?_
            refine And.intro (by omega) ?_
            intro z26 ez26 hz26
            have hz26 : ((-1) : Int) ≤ z26 ∧ z26 ≤ (1999 : Int) := hz26
            have b27 := wrh_ p1 (i := 5) (by omega)
            have b27 : (0 : Int) ≤ σ 87 5 ∧ σ 87 5 ≤ (60 : Int) := b27
            refine And.intro (fun h28 => ?_) (fun h28 => ?_)
            · skip
              refine B rfl ?_
              refine And.intro (by omega) ?_
              intro z29 ez29 hz29
              have q30 : z23 = z29 := ez23.trans ez29.symm
              subst q30
              have b31 := wrh_ p1 (i := 2) (by omega)
              have b31 : (0 : Int) ≤ σ 87 2 ∧ σ 87 2 ≤ (12 : Int) := b31
              refine And.intro (by omega) ?_
              refine And.intro (by omega) ?_
              refine And.intro (by omega) ?_
              intro z32 ez32 hz32
              have q33 : z23 = z32 := ez23.trans ez32.symm
              subst q33
              have b34 := wrh_ p1 (i := 2) (by omega)
              have b34 : (0 : Int) ≤ σ 87 2 ∧ σ 87 2 ≤ (12 : Int) := b34
              refine Exists.intro (0, z23) (And.intro rfl (And.intro (And.intro p1 (And.intro (by show σ 87 5 ≤ 59; omega) (And.intro (by show 0 ≤ 0; omega) (And.intro (by show 0 ≤ 2; omega) (And.intro (by show 0 ≤ z23; omega) (by show z23 ≤ 11; omega)))))) ?_))
              intro z35 σ37 h36
              have f38 : ∀ k j : Int, ¬ (k = 87) → σ37 k j = σ k j := h36.2.2.2.2.2
              have h39 : BW σ37 87 := h36.1
              have h40 : σ37 87 5 = σ 87 5 + 1 := h36.2.1
              have h41 : σ37 87 (135 + 6 * σ 87 5) = 0 := h36.2.2.1
              have h42 : σ37 87 (135 + 6 * σ 87 5 + 1) = z23 := h36.2.2.2.1
              have h43 : ∀ j : Int, j ≠ 5 → j < 135 + 6 * σ 87 5 → σ37 87 j = σ 87 j := h36.2.2.2.2.1
              have k1 : σ37 87 (135 + 6 * σ 87 5) = _ := h36.2.2.1
              have k2 : σ37 87 (135 + 6 * σ 87 5 + 1) = _ := h36.2.2.2.1
              have k3 : ∀ j : Int, j ≠ 5 → j < 135 + 6 * σ 87 5 → σ37 87 j = σ 87 j := h36.2.2.2.2.1
              have j1 : σ37 87 1 = σ 87 1 := k3 1 (by omega) (by omega)
              have j2 : σ37 87 2 = σ 87 2 := k3 2 (by omega) (by omega)
              have j3 : σ37 87 3 = σ 87 3 := k3 3 (by omega) (by omega)
              refine And.intro (by omega) ?_
              refine And.intro (by show ((-1) : Int) ≤ _ ∧ _ ≤ (1999 : Int); omega) ?_
              intro σ44 e45
              have p46 : BW σ44 87 := wstf_ (c := σ 87 2) (w := 0) h39 e45 (by omega) (by omega) (by omega) (by have e5 : fthi_ 0 = 2 := rfl; omega)
              refine And.intro (by omega) ?_
              refine And.intro (by omega) ?_
              refine And.intro (by show ((-1) : Int) ≤ _ ∧ _ ≤ (1999 : Int); omega) ?_
              intro σ47 e48
              have p49 : BW σ47 87 := wstf_ (c := σ 87 2) (w := 1) p46 e48 (by omega) (by omega) (by omega) (by have e5 : fthi_ 1 = 7 := rfl; omega)
              refine And.intro (by omega) ?_
              refine And.intro (by omega) ?_
              refine And.intro (by show ((-1) : Int) ≤ _ ∧ _ ≤ (1999 : Int); omega) ?_
              intro σ50 e51
              have p52 : BW σ50 87 := wstf_ (c := σ 87 2) (w := 2) p49 e51 (by omega) (by omega) (by omega) (by have e5 : fthi_ 2 = 59 := rfl; omega)
              refine And.intro (by omega) ?_
              refine And.intro (by omega) ?_
              refine And.intro (by show ((-1) : Int) ≤ _ ∧ _ ≤ (1999 : Int); omega) ?_
              intro σ53 e54
              have p55 : BW σ53 87 := wstf_ (c := σ 87 2) (w := 3) p52 e54 (by omega) (by omega) (by omega) (by have e5 : fthi_ 3 = 9 := rfl; omega)
              refine And.intro (by omega) ?_
              intro z56 ez56 hz56
              have hz56 : ((-1) : Int) ≤ z56 ∧ z56 ≤ (1999 : Int) := hz56
              try have t57 : σ53 87 2 = σ 87 2 := ((ups_r e54 (by omega)).trans ((ups_r e51 (by omega)).trans ((ups_r e48 (by omega)).trans ((ups_r e45 (by omega)).trans (show σ37 87 2 = σ 87 2 from by first | exact f38 _ _ (by omega) | exact h43 _ (by omega) (by omega))))))
              have b58 := wrh_ p55 (i := 2) (by omega)
              have b58 : (0 : Int) ≤ σ53 87 2 ∧ σ53 87 2 ≤ (12 : Int) := b58
              refine And.intro (by omega) ?_
              refine And.intro (by omega) ?_
              refine And.intro (by show ((-1) : Int) ≤ _ ∧ _ ≤ (1999 : Int); omega) ?_
              intro σ59 e60
              have p61 : BW σ59 87 := wsth_ p55 e60 (by omega) (by have e5 : hdhi_ 2 = 12 := rfl; omega)
              refine And.intro (by omega) ?_
              intro z62 ez62 hz62
              have hz62 : ((-1) : Int) ≤ z62 ∧ z62 ≤ (1999 : Int) := hz62
              have t63 : σ59 87 2 = z56 + 1 := ups_v e60
              have b64 := wrh_ p61 (i := 2) (by omega)
              have b64 : (0 : Int) ≤ σ59 87 2 ∧ σ59 87 2 ≤ (12 : Int) := b64
              refine And.intro (by omega) ?_
              refine Exists.intro _ (And.intro rfl ?_)
              try have t65 : σ59 87 1 = σ 87 1 := ((ups_r e60 (by omega)).trans ((ups_r e54 (by omega)).trans ((ups_r e51 (by omega)).trans ((ups_r e48 (by omega)).trans ((ups_r e45 (by omega)).trans (show σ37 87 1 = σ 87 1 from by first | exact f38 _ _ (by omega) | exact h43 _ (by omega) (by omega)))))))
              try have t66 : σ59 87 3 = σ 87 3 := ((ups_r e60 (by omega)).trans ((ups_r e54 (by omega)).trans ((ups_r e51 (by omega)).trans ((ups_r e48 (by omega)).trans ((ups_r e45 (by omega)).trans (show σ37 87 3 = σ 87 3 from by first | exact f38 _ _ (by omega) | exact h43 _ (by omega) (by omega)))))))
              try have t67 : σ59 87 5 = σ37 87 5 := ((ups_r e60 (by omega)).trans ((ups_r e54 (by omega)).trans ((ups_r e51 (by omega)).trans ((ups_r e48 (by omega)).trans (ups_r e45 (by omega))))))
              have hB2 := wrh_ p61 (i := 2) (by omega)
              have hB3 := wrh_ p61 (i := 3) (by omega)
              have hB2 : (0 : Int) ≤ σ59 87 2 ∧ σ59 87 2 ≤ (12 : Int) := hB2
              have hB3 : (0 : Int) ≤ σ59 87 3 ∧ σ59 87 3 ≤ (12 : Int) := hB3
              have t0 : σ59 87 (135 + 6 * σ 87 5) = _ := (((ups_r e60 (by omega)).trans ((ups_r e54 (by omega)).trans ((ups_r e51 (by omega)).trans ((ups_r e48 (by omega)).trans (ups_r e45 (by omega))))))).trans k1
              have t1 : σ59 87 (135 + 6 * σ 87 5 + 1) = _ := (((ups_r e60 (by omega)).trans ((ups_r e54 (by omega)).trans ((ups_r e51 (by omega)).trans ((ups_r e48 (by omega)).trans (ups_r e45 (by omega))))))).trans k2
              have tj : ∀ j : Int, 135 ≤ j → j < 135 + 6 * σ 87 5 → σ59 87 j = σ 87 j := fun j h1 h2 => (((ups_r e60 (by omega)).trans ((ups_r e54 (by omega)).trans ((ups_r e51 (by omega)).trans ((ups_r e48 (by omega)).trans (ups_r e45 (by omega))))))).trans (k3 j (by omega) (by omega))
              have tl : ∀ j : Int, 6 ≤ j → j < 51 → σ59 87 j = σ 87 j := fun j h1 h2 => (((ups_r e60 (by omega)).trans ((ups_r e54 (by omega)).trans ((ups_r e51 (by omega)).trans ((ups_r e48 (by omega)).trans (ups_r e45 (by omega))))))).trans (k3 j (by omega) (by omega))
              exact (And.intro (by show MI σ59; exact ⟨⟨p61, SW_eq hp0.1.2.1 (by omega) tl, UM_n hp0.1.2.2 (by omega) (by omega) tj ⟨by omega, by omega, by omega, by omega⟩ (by omega)⟩, fun k k0 k1 => WB_cg (fun i _ _ => ((ups_r e60 (by omega)).trans ((ups_r e54 (by omega)).trans ((ups_r e51 (by omega)).trans ((ups_r e48 (by omega)).trans ((ups_r e45 (by omega)).trans (show σ37 88 (495 * k + i) = σ 88 (495 * k + i) from by first | exact f38 _ _ (by omega) | exact h43 _ (by omega) (by omega)))))))) (hp0.2 k k0 k1)⟩) (fun k j hk => ((ups_r e60 (by omega)).trans ((ups_r e54 (by omega)).trans ((ups_r e51 (by omega)).trans ((ups_r e48 (by omega)).trans ((ups_r e45 (by omega)).trans (show σ37 k j = σ k j from by first | exact f38 _ _ (by omega) | exact h43 _ (by omega) (by omega) | (by_cases hka : k = 87; (rw [hka]; exact h43 _ (by omega) (by omega)); exact f38 _ _ (by omega))))))))))
            · skip
              show WP_ X G Q 0 0 ad SHS_ σ 78 [(42, 86), (0, a1), (0, a2), (0, a3), (0, a4), (9, 0)] []
              refine B rfl ?_
              refine Exists.intro _ (And.intro rfl ?_)
              exact (And.intro (by show MI σ; exact hp0) (fun k j hk => rfl))
        · skip
          show WP_ X G Q 0 0 ad SHS_ σ 53 [(42, 86), (0, a1), (0, a2), (0, a3), (0, a4), (9, 0)] []
          refine B rfl ?_
          refine Exists.intro _ (And.intro rfl ?_)
          exact (And.intro (by show MI σ; exact hp0) (fun k j hk => rfl))
def as_G_X11_grant : Int × Int × Int → List Sv_t := fun a => [(42, 86), (0, a.1), (0, a.2.1), (0, a.2.2)]
def pre_G_X11_grant : Int × Int × Int → Me_t → Prop := fun a σ => (MI σ)
def post_G_X11_grant : Int × Int × Int → Me_t → Int → Me_t → Prop := fun a σ z σ' => (MI σ') ∧ (∀ k j : Int, ¬ (k = 87) → σ' k j = σ k j)
set_option maxHeartbeats 1500000 in
set_option maxRecDepth 100000 in
theorem ct_G_X11_grant (l : Launch) : CT_ l yX11_grant cX11_grant 5 (some .int) 3 67 as_G_X11_grant (rmI_) pre_G_X11_grant post_G_X11_grant := by
  refine ct_of (by decide) (fun _ => Nat.le_of_ble_eq_true rfl) ?_
  intro X G Q ad σ a hl hR E hG R hM hv hp
  obtain ⟨a1, a2, a3⟩ := a
  have r_a1 : -2147483648 ≤ a1 ∧ a1 ≤ 2147483647 := hv (0, a1) (List.mem_of_getElem? (i := 1) rfl)
  have r_a2 : -2147483648 ≤ a2 ∧ a2 ≤ 2147483647 := hv (0, a2) (List.mem_of_getElem? (i := 2) rfl)
  have r_a3 : -2147483648 ≤ a3 ∧ a3 ≤ 2147483647 := hv (0, a3) (List.mem_of_getElem? (i := 3) rfl)
  have hp0 : MI σ := hp
  have B := @bk_ X G Q 0 0 ad SHS_ RX11 cX11_grant 5 (some .int) flX11 plX11 knX11 [(166, 2, TR_ as_G_X11_isLand (rmI_) pre_G_X11_isLand post_G_X11_isLand), (593, 2, TR_ as_G_X11_isSpan (rmI_) pre_G_X11_isSpan post_G_X11_isSpan), (912, 3, TR_ as_G_X11_keepChange (rmV_) pre_G_X11_keepChange post_G_X11_keepChange)] _ _ none kX11_grant [9, 17, 31, 42] flX11_ok plX11_ok knX11_ok eX11_grant oX11_grant
    (List.forall_mem_cons.mpr ⟨cok_v (t := 32) (c := 11) (N := 39) (n := 1) (idx := 83) E (ct_G_X11_isLand X.2.1) (by rw [hR]; decide) (Nat.zero_le _) (Nat.zero_le _) hG rfl rfl ⟨rfl, by decide, by decide, by decide⟩ (fun _ => ⟨_, _, rfl, rfl⟩) wl_X11_83 wi_X11_isLand ws_X11_isLand wn_X11 wc_X11_isLand, List.forall_mem_cons.mpr ⟨cok_s (n := 2) (idx := 296) E (ct_G_X11_isSpan X.2.1) (by rw [hR]; decide) (Nat.zero_le _) (Nat.zero_le _) hG ⟨by decide, by decide, by decide⟩ (fun _ => rfl) wl_X11_296 wt_X11_isSpan wn_X11 wc_X11_isSpan, List.forall_mem_cons.mpr ⟨cok_v (t := 32) (c := 11) (N := 39) (n := 2) (idx := 456) E (ct_G_X11_keepChange X.2.1) (by rw [hR]; decide) (Nat.zero_le _) (Nat.zero_le _) hG rfl rfl ⟨rfl, by decide, by decide, by decide⟩ (fun _ => ⟨_, _, rfl, rfl⟩) wl_X11_456 wi_X11_keepChange ws_X11_keepChange wn_X11 wc_X11_keepChange, fun _ h => absurd h List.not_mem_nil⟩⟩⟩) R sok_no E
  show WP_ X G Q 0 0 ad SHS_ σ 0 [(42, 86), (0, a1), (0, a2), (0, a3), (9, 0)] []
  refine B rfl ?_
  have p1 : BW σ 87 := (hp0).1.1
  refine Exists.intro a1 (And.intro rfl (And.intro p1 ?_))
  rintro z2 m_ h3
  obtain rfl : σ = m_ := h3.2
  have h4 : (z2 = 1 ∧ 0 ≤ a1 ∧ a1 ≤ 2 ∧ a1 < σ 87 1) ∨ z2 = 0 := h3.1
  refine And.intro (fun h5 => ?_) (fun h5 => ?_)
  · skip
    refine B rfl ?_
    refine Exists.intro _ (And.intro rfl ?_)
    exact (And.intro (by show MI σ; exact hp0) (fun k j hk => rfl))
  · skip
    show WP_ X G Q 0 0 ad SHS_ σ 9 [(42, 86), (0, a1), (0, a2), (0, a3), (9, 0)] []
    refine B rfl ?_
    refine Exists.intro (a2, a3) (And.intro rfl (And.intro True.intro ?_))
    rintro z6 m_ h7
    obtain rfl : σ = m_ := h7.2
    have h8 : (z6 = 1 ∧ 0 ≤ a2 ∧ a2 ≤ a3 ∧ a3 ≤ 1999) ∨ z6 = 0 := h7.1
    refine And.intro (fun h9 => ?_) (fun h9 => ?_)
    · skip
      refine B rfl ?_
      refine And.intro (by omega) ?_
      intro z10 ez10 hz10
      have hz10 : ((-1) : Int) ≤ z10 ∧ z10 ≤ (1999 : Int) := hz10
      have b11 := wrh_ p1 (i := 3) (by omega)
      have b11 : (0 : Int) ≤ σ 87 3 ∧ σ 87 3 ≤ (12 : Int) := b11
      refine And.intro (fun h12 => ?_) (fun h12 => ?_)
      · skip
        refine B rfl ?_
        refine Exists.intro _ (And.intro rfl ?_)
        exact (And.intro (by show MI σ; exact hp0) (fun k j hk => rfl))
      · skip
        show WP_ X G Q 0 0 ad SHS_ σ 31 [(42, 86), (0, a1), (0, a2), (0, a3), (9, 0)] []
        refine B rfl ?_
        refine And.intro (by omega) ?_
        intro z13 ez13 hz13
        have hz13 : ((-1) : Int) ≤ z13 ∧ z13 ≤ (1999 : Int) := hz13
        have b14 := wrh_ p1 (i := 5) (by omega)
        have b14 : (0 : Int) ≤ σ 87 5 ∧ σ 87 5 ≤ (60 : Int) := b14
        refine And.intro (fun h15 => ?_) (fun h15 => ?_)
        · skip
          refine B rfl ?_
          refine And.intro (by omega) ?_
          intro z16 ez16 hz16
          have q17 : z10 = z16 := ez10.trans ez16.symm
          subst q17
          have b18 := wrh_ p1 (i := 3) (by omega)
          have b18 : (0 : Int) ≤ σ 87 3 ∧ σ 87 3 ≤ (12 : Int) := b18
          refine And.intro (by omega) ?_
          refine And.intro (by omega) ?_
          refine And.intro (by omega) ?_
          intro z19 ez19 hz19
          have q20 : z10 = z19 := ez10.trans ez19.symm
          subst q20
          have b21 := wrh_ p1 (i := 3) (by omega)
          have b21 : (0 : Int) ≤ σ 87 3 ∧ σ 87 3 ≤ (12 : Int) := b21
          refine Exists.intro (1, z10) (And.intro rfl (And.intro (And.intro p1 (And.intro (by show σ 87 5 ≤ 59; omega) (And.intro (by show 0 ≤ 1; omega) (And.intro (by show 1 ≤ 2; omega) (And.intro (by show 0 ≤ z10; omega) (by show z10 ≤ 11; omega)))))) ?_))
          intro z22 σ24 h23
          have f25 : ∀ k j : Int, ¬ (k = 87) → σ24 k j = σ k j := h23.2.2.2.2.2
          have h26 : BW σ24 87 := h23.1
          have h27 : σ24 87 5 = σ 87 5 + 1 := h23.2.1
          have h28 : σ24 87 (135 + 6 * σ 87 5) = 1 := h23.2.2.1
          have h29 : σ24 87 (135 + 6 * σ 87 5 + 1) = z10 := h23.2.2.2.1
          have h30 : ∀ j : Int, j ≠ 5 → j < 135 + 6 * σ 87 5 → σ24 87 j = σ 87 j := h23.2.2.2.2.1
          have k1 : σ24 87 (135 + 6 * σ 87 5) = _ := h23.2.2.1
          have k2 : σ24 87 (135 + 6 * σ 87 5 + 1) = _ := h23.2.2.2.1
          have k3 : ∀ j : Int, j ≠ 5 → j < 135 + 6 * σ 87 5 → σ24 87 j = σ 87 j := h23.2.2.2.2.1
          have j1 : σ24 87 1 = σ 87 1 := k3 1 (by omega) (by omega)
          have j2 : σ24 87 2 = σ 87 2 := k3 2 (by omega) (by omega)
          have j3 : σ24 87 3 = σ 87 3 := k3 3 (by omega) (by omega)
          refine And.intro (by omega) ?_
          refine And.intro (by show ((-1) : Int) ≤ _ ∧ _ ≤ (1999 : Int); omega) ?_
          intro σ31 e32
          have p33 : BW σ31 87 := wstt_ (c := σ 87 3) (w := 0) h26 e32 (by omega) (by omega) (by omega) (by have e5 : tchi_ 0 = 2 := rfl; omega)
          refine And.intro (by omega) ?_
          refine And.intro (by omega) ?_
          refine And.intro (by show ((-1) : Int) ≤ _ ∧ _ ≤ (1999 : Int); omega) ?_
          intro σ34 e35
          have p36 : BW σ34 87 := wstt_ (c := σ 87 3) (w := 1) p33 e35 (by omega) (by omega) (by omega) (by have e5 : tchi_ 1 = 1999 := rfl; omega)
          refine And.intro (by omega) ?_
          refine And.intro (by omega) ?_
          refine And.intro (by show ((-1) : Int) ≤ _ ∧ _ ≤ (1999 : Int); omega) ?_
          intro σ37 e38
          have p39 : BW σ37 87 := wstt_ (c := σ 87 3) (w := 2) p36 e38 (by omega) (by omega) (by omega) (by have e5 : tchi_ 2 = 1999 := rfl; omega)
          refine And.intro (by omega) ?_
          intro z40 ez40 hz40
          have hz40 : ((-1) : Int) ≤ z40 ∧ z40 ≤ (1999 : Int) := hz40
          try have t41 : σ37 87 3 = σ 87 3 := ((ups_r e38 (by omega)).trans ((ups_r e35 (by omega)).trans ((ups_r e32 (by omega)).trans (show σ24 87 3 = σ 87 3 from by first | exact f25 _ _ (by omega) | exact h30 _ (by omega) (by omega)))))
          have b42 := wrh_ p39 (i := 3) (by omega)
          have b42 : (0 : Int) ≤ σ37 87 3 ∧ σ37 87 3 ≤ (12 : Int) := b42
          refine And.intro (by omega) ?_
          refine And.intro (by omega) ?_
          refine And.intro (by show ((-1) : Int) ≤ _ ∧ _ ≤ (1999 : Int); omega) ?_
          intro σ43 e44
          have p45 : BW σ43 87 := wsth_ p39 e44 (by omega) (by have e5 : hdhi_ 3 = 12 := rfl; omega)
          refine And.intro (by omega) ?_
          intro z46 ez46 hz46
          have hz46 : ((-1) : Int) ≤ z46 ∧ z46 ≤ (1999 : Int) := hz46
          have t47 : σ43 87 3 = z40 + 1 := ups_v e44
          have b48 := wrh_ p45 (i := 3) (by omega)
          have b48 : (0 : Int) ≤ σ43 87 3 ∧ σ43 87 3 ≤ (12 : Int) := b48
          refine And.intro (by omega) ?_
          refine Exists.intro _ (And.intro rfl ?_)
          try have t49 : σ43 87 1 = σ 87 1 := ((ups_r e44 (by omega)).trans ((ups_r e38 (by omega)).trans ((ups_r e35 (by omega)).trans ((ups_r e32 (by omega)).trans (show σ24 87 1 = σ 87 1 from by first | exact f25 _ _ (by omega) | exact h30 _ (by omega) (by omega))))))
          try have t50 : σ43 87 2 = σ 87 2 := ((ups_r e44 (by omega)).trans ((ups_r e38 (by omega)).trans ((ups_r e35 (by omega)).trans ((ups_r e32 (by omega)).trans (show σ24 87 2 = σ 87 2 from by first | exact f25 _ _ (by omega) | exact h30 _ (by omega) (by omega))))))
          try have t51 : σ43 87 5 = σ24 87 5 := ((ups_r e44 (by omega)).trans ((ups_r e38 (by omega)).trans ((ups_r e35 (by omega)).trans (ups_r e32 (by omega)))))
          have hB2 := wrh_ p45 (i := 2) (by omega)
          have hB3 := wrh_ p45 (i := 3) (by omega)
          have hB2 : (0 : Int) ≤ σ43 87 2 ∧ σ43 87 2 ≤ (12 : Int) := hB2
          have hB3 : (0 : Int) ≤ σ43 87 3 ∧ σ43 87 3 ≤ (12 : Int) := hB3
          have t0 : σ43 87 (135 + 6 * σ 87 5) = _ := (((ups_r e44 (by omega)).trans ((ups_r e38 (by omega)).trans ((ups_r e35 (by omega)).trans (ups_r e32 (by omega)))))).trans k1
          have t1 : σ43 87 (135 + 6 * σ 87 5 + 1) = _ := (((ups_r e44 (by omega)).trans ((ups_r e38 (by omega)).trans ((ups_r e35 (by omega)).trans (ups_r e32 (by omega)))))).trans k2
          have tj : ∀ j : Int, 135 ≤ j → j < 135 + 6 * σ 87 5 → σ43 87 j = σ 87 j := fun j h1 h2 => (((ups_r e44 (by omega)).trans ((ups_r e38 (by omega)).trans ((ups_r e35 (by omega)).trans (ups_r e32 (by omega)))))).trans (k3 j (by omega) (by omega))
          have tl : ∀ j : Int, 6 ≤ j → j < 51 → σ43 87 j = σ 87 j := fun j h1 h2 => (((ups_r e44 (by omega)).trans ((ups_r e38 (by omega)).trans ((ups_r e35 (by omega)).trans (ups_r e32 (by omega)))))).trans (k3 j (by omega) (by omega))
          exact (And.intro (by show MI σ43; exact ⟨⟨p45, SW_eq hp0.1.2.1 (by omega) tl, UM_n hp0.1.2.2 (by omega) (by omega) tj ⟨by omega, by omega, by omega, by omega⟩ (by omega)⟩, fun k k0 k1 => WB_cg (fun i _ _ => ((ups_r e44 (by omega)).trans ((ups_r e38 (by omega)).trans ((ups_r e35 (by omega)).trans ((ups_r e32 (by omega)).trans (show σ24 88 (495 * k + i) = σ 88 (495 * k + i) from by first | exact f25 _ _ (by omega) | exact h30 _ (by omega) (by omega))))))) (hp0.2 k k0 k1)⟩) (fun k j hk => ((ups_r e44 (by omega)).trans ((ups_r e38 (by omega)).trans ((ups_r e35 (by omega)).trans ((ups_r e32 (by omega)).trans (show σ24 k j = σ k j from by first | exact f25 _ _ (by omega) | exact h30 _ (by omega) (by omega) | (by_cases hka : k = 87; (rw [hka]; exact h30 _ (by omega) (by omega)); exact f25 _ _ (by omega)))))))))
        · skip
          show WP_ X G Q 0 0 ad SHS_ σ 42 [(42, 86), (0, a1), (0, a2), (0, a3), (9, 0)] []
          refine B rfl ?_
          refine Exists.intro _ (And.intro rfl ?_)
          exact (And.intro (by show MI σ; exact hp0) (fun k j hk => rfl))
    · skip
      show WP_ X G Q 0 0 ad SHS_ σ 17 [(42, 86), (0, a1), (0, a2), (0, a3), (9, 0)] []
      refine B rfl ?_
      refine Exists.intro _ (And.intro rfl ?_)
      exact (And.intro (by show MI σ; exact hp0) (fun k j hk => rfl))
def as_G_X11_ends : Int → List Sv_t := fun a => [(42, 86), (0, a)]
def pre_G_X11_ends : Int → Me_t → Prop := fun a σ => (MI σ)
def post_G_X11_ends : Int → Me_t → Int → Me_t → Prop := fun a σ z σ' => (MI σ') ∧ (∀ k j : Int, ¬ (k = 87) → σ' k j = σ k j)
set_option maxHeartbeats 1500000 in
set_option maxRecDepth 100000 in
theorem ct_G_X11_ends (l : Launch) : CT_ l yX11_ends cX11_ends 4 (some .int) 2 47 as_G_X11_ends (rmI_) pre_G_X11_ends post_G_X11_ends := by
  refine ct_of (by decide) (fun _ => Nat.le_of_ble_eq_true rfl) ?_
  intro X G Q ad σ a hl hR E hG R hM hv hp
  obtain ⟨a1, rfl⟩ : ∃ q : Int, q = a := ⟨_, rfl⟩
  have r_a1 : -2147483648 ≤ a1 ∧ a1 ≤ 2147483647 := hv (0, a1) (List.mem_of_getElem? (i := 1) rfl)
  have hp0 : MI σ := hp
  have B := @bk_ X G Q 0 0 ad SHS_ RX11 cX11_ends 4 (some .int) flX11 plX11 knX11 [(166, 2, TR_ as_G_X11_isLand (rmI_) pre_G_X11_isLand post_G_X11_isLand), (912, 3, TR_ as_G_X11_keepChange (rmV_) pre_G_X11_keepChange post_G_X11_keepChange), (484, 3, TR_ as_G_X11_ofFeast (rmI_) pre_G_X11_ofFeast post_G_X11_ofFeast)] _ _ none kX11_ends [9, 21, 25, 35, 45, 59, 82, 94] flX11_ok plX11_ok knX11_ok eX11_ends oX11_ends
    (List.forall_mem_cons.mpr ⟨cok_v (t := 32) (c := 11) (N := 39) (n := 1) (idx := 83) E (ct_G_X11_isLand X.2.1) (by rw [hR]; decide) (Nat.zero_le _) (Nat.zero_le _) hG rfl rfl ⟨rfl, by decide, by decide, by decide⟩ (fun _ => ⟨_, _, rfl, rfl⟩) wl_X11_83 wi_X11_isLand ws_X11_isLand wn_X11 wc_X11_isLand, List.forall_mem_cons.mpr ⟨cok_v (t := 32) (c := 11) (N := 39) (n := 2) (idx := 456) E (ct_G_X11_keepChange X.2.1) (by rw [hR]; decide) (Nat.zero_le _) (Nat.zero_le _) hG rfl rfl ⟨rfl, by decide, by decide, by decide⟩ (fun _ => ⟨_, _, rfl, rfl⟩) wl_X11_456 wi_X11_keepChange ws_X11_keepChange wn_X11 wc_X11_keepChange, List.forall_mem_cons.mpr ⟨cok_v (t := 32) (c := 11) (N := 39) (n := 2) (idx := 242) E (ct_G_X11_ofFeast X.2.1) (by rw [hR]; decide) (Nat.zero_le _) (Nat.zero_le _) hG rfl rfl ⟨rfl, by decide, by decide, by decide⟩ (fun _ => ⟨_, _, rfl, rfl⟩) wl_X11_242 wi_X11_ofFeast ws_X11_ofFeast wn_X11 wc_X11_ofFeast, fun _ h => absurd h List.not_mem_nil⟩⟩⟩) R sok_no E
  show WP_ X G Q 0 0 ad SHS_ σ 0 [(42, 86), (0, a1), (9, 0), (9, 0)] []
  refine B rfl ?_
  have p1 : BW σ 87 := (hp0).1.1
  refine Exists.intro a1 (And.intro rfl (And.intro p1 ?_))
  rintro z2 m_ h3
  obtain rfl : σ = m_ := h3.2
  have h4 : (z2 = 1 ∧ 0 ≤ a1 ∧ a1 ≤ 2 ∧ a1 < σ 87 1) ∨ z2 = 0 := h3.1
  refine And.intro (fun h5 => ?_) (fun h5 => ?_)
  · skip
    refine B rfl ?_
    refine And.intro (by omega) ?_
    intro z6 ez6 hz6
    have hz6 : ((-1) : Int) ≤ z6 ∧ z6 ≤ (1999 : Int) := hz6
    have b7 := wrh_ p1 (i := 2) (by omega)
    have b7 : (0 : Int) ≤ σ 87 2 ∧ σ 87 2 ≤ (12 : Int) := b7
    refine And.intro (by omega) ?_
    have lp_21 : ∀ (nq_ : Nat) (v2 : Int), (-1 ≤ v2) → (v2 ≤ 11) → (v2 < σ 87 2) → (v2 + 1 : Int).toNat < nq_ → WP_ X G Q 0 0 ad SHS_ σ 21 [(42, 86), (0, a1), (0, v2), (9, 0)] [] := by
      intro nq_
      induction nq_ with
      | zero => intros; omega
      | succ nq_ ih_21 =>
        intro v2 hi21_0 hi21_1 hi21_2 hm21
        refine B rfl ?_
        refine And.intro (fun h8 => ?_) (fun h8 => ?_)
        · skip
          refine B rfl ?_
          refine And.intro (fun h9 => ?_) (fun h9 => ?_)
          · skip
            refine B rfl ?_
            refine And.intro (by omega) ?_
            intro z10 ez10 hz10
            have hz10 : ((-1) : Int) ≤ z10 ∧ z10 ≤ (1999 : Int) := hz10
            have b11 := wrh_ p1 (i := 5) (by omega)
            have b11 : (0 : Int) ≤ σ 87 5 ∧ σ 87 5 ≤ (60 : Int) := b11
            refine And.intro (fun h12 => ?_) (fun h12 => ?_)
            · skip
              refine B rfl ?_
              refine Exists.intro (2, v2) (And.intro rfl (And.intro (And.intro p1 (And.intro (by show σ 87 5 ≤ 59; omega) (And.intro (by show 0 ≤ 2; omega) (And.intro (by show 2 ≤ 2; omega) (And.intro (by show 0 ≤ v2; omega) (by show v2 ≤ 11; omega)))))) ?_))
              intro z13 σ15 h14
              have f16 : ∀ k j : Int, ¬ (k = 87) → σ15 k j = σ k j := h14.2.2.2.2.2
              have h17 : BW σ15 87 := h14.1
              have h18 : σ15 87 5 = σ 87 5 + 1 := h14.2.1
              have h19 : σ15 87 (135 + 6 * σ 87 5) = 2 := h14.2.2.1
              have h20 : σ15 87 (135 + 6 * σ 87 5 + 1) = v2 := h14.2.2.2.1
              have h21 : ∀ j : Int, j ≠ 5 → j < 135 + 6 * σ 87 5 → σ15 87 j = σ 87 j := h14.2.2.2.2.1
              have k1 : σ15 87 (135 + 6 * σ 87 5) = _ := h14.2.2.1
              have k2 : σ15 87 (135 + 6 * σ 87 5 + 1) = _ := h14.2.2.2.1
              have k3 : ∀ j : Int, j ≠ 5 → j < 135 + 6 * σ 87 5 → σ15 87 j = σ 87 j := h14.2.2.2.2.1
              have j1 : σ15 87 1 = σ 87 1 := k3 1 (by omega) (by omega)
              have j2 : σ15 87 2 = σ 87 2 := k3 2 (by omega) (by omega)
              have j3 : σ15 87 3 = σ 87 3 := k3 3 (by omega) (by omega)
              refine And.intro (by omega) ?_
              intro z22 ez22 hz22
              have hz22 : ((-1) : Int) ≤ z22 ∧ z22 ≤ (1999 : Int) := hz22
              try have t23 : σ15 87 2 = σ 87 2 := (show σ15 87 2 = σ 87 2 from by first | exact f16 _ _ (by omega) | exact h21 _ (by omega) (by omega))
              have b24 := wrh_ h17 (i := 2) (by omega)
              have b24 : (0 : Int) ≤ σ15 87 2 ∧ σ15 87 2 ≤ (12 : Int) := b24
              refine And.intro (by omega) ?_
              refine And.intro (by omega) ?_
              refine And.intro (by show ((-1) : Int) ≤ _ ∧ _ ≤ (1999 : Int); omega) ?_
              intro σ25 e26
              have p27 : BW σ25 87 := wsth_ h17 e26 (by omega) (by have e5 : hdhi_ 2 = 12 := rfl; omega)
              refine And.intro (by omega) ?_
              show WP_ X G Q 0 0 ad SHS_ σ25 82 [(42, 86), (0, a1), (0, v2), (0, 4 * v2)] []
              refine wdrop_ (L' := [(42, 86), (9, 0), (0, v2), (0, 4 * v2)]) ⟨Or.inr rfl, ⟨Or.inl rfl, ⟨Or.inr rfl, ⟨Or.inr rfl, trivial⟩⟩⟩⟩ ?_
              have lp_82 : ∀ (nq_ : Nat) (v3 : Int) (τ82 : Me_t), (∀ k j : Int, ¬ (k = 87) → τ82 k j = σ k j) → (0 ≤ v3) → (v3 ≤ 48) → (BW τ82 87) → (τ82 87 2 = σ 87 2 - 1) → (τ82 87 3 = σ 87 3) → (τ82 87 1 = σ 87 1) → (τ82 87 5 = σ 87 5 + 1) → (τ82 87 (135 + 6 * σ 87 5) = 2) → (τ82 87 (135 + 6 * σ 87 5 + 1) = v2) → (∀ j : Int, 135 ≤ j ∧ j < 135 + 6 * σ 87 5 → τ82 87 j = σ 87 j) → (∀ j : Int, 6 ≤ j ∧ j < 51 → τ82 87 j = σ 87 j) → (48 - v3 : Int).toNat < nq_ → WP_ X G Q 0 0 ad SHS_ τ82 82 [(42, 86), (9, 0), (0, v2), (0, v3)] [] := by
                intro nq_
                induction nq_ with
                | zero => intros; omega
                | succ nq_ ih_82 =>
                  intro v3 τ82 hf82 hi82_0 hi82_1 hi82_2 hi82_3 hi82_4 hi82_5 hi82_6 hi82_7 hi82_8 hi82_9 hi82_10 hm82
                  refine B rfl ?_
                  refine And.intro (by omega) ?_
                  intro z28 ez28 hz28
                  have hz28 : ((-1) : Int) ≤ z28 ∧ z28 ≤ (1999 : Int) := hz28
                  have b29 := wrh_ hi82_2 (i := 2) (by omega)
                  have b29 : (0 : Int) ≤ τ82 87 2 ∧ τ82 87 2 ≤ (12 : Int) := b29
                  refine And.intro (by omega) ?_
                  refine And.intro (fun h30 => ?_) (fun h30 => ?_)
                  · skip
                    refine B rfl ?_
                    refine Exists.intro _ (And.intro rfl ?_)
                    have hB2 := wrh_ hi82_2 (i := 2) (by omega)
                    have hB3 := wrh_ hi82_2 (i := 3) (by omega)
                    have hB2 : (0 : Int) ≤ τ82 87 2 ∧ τ82 87 2 ≤ (12 : Int) := hB2
                    have hB3 : (0 : Int) ≤ τ82 87 3 ∧ τ82 87 3 ≤ (12 : Int) := hB3
                    exact (And.intro (by show MI τ82; exact ⟨⟨hi82_2, SW_eq hp0.1.2.1 hi82_5 (fun j h1 h2 => hi82_10 j ⟨h1, h2⟩), UM_n hp0.1.2.2 (by omega) (by omega) (fun j h1 h2 => hi82_9 j ⟨h1, h2⟩) ⟨by omega, by omega, by omega, by omega⟩ (by omega)⟩, fun k k0 k1 => WB_cg (fun i _ _ => (hf82 _ _ (by omega))) (hp0.2 k k0 k1)⟩) (fun k j hk => (hf82 _ _ (by omega))))
                  · skip
                    show WP_ X G Q 0 0 ad SHS_ τ82 94 [(42, 86), (9, 0), (0, v2), (0, v3)] []
                    refine B rfl ?_
                    refine And.intro (by omega) ?_
                    refine And.intro (by omega) ?_
                    refine And.intro (by omega) ?_
                    refine And.intro (by omega) ?_
                    intro z31 ez31 hz31
                    have hz31 : ((-1) : Int) ≤ z31 ∧ z31 ≤ (1999 : Int) := hz31
                    try have t32 : τ82 87 ((51 + v3) + 4) = σ 87 ((51 + v3) + 4) := (hf82 _ _ (by omega))
                    refine And.intro (by omega) ?_
                    refine And.intro (by show ((-1) : Int) ≤ _ ∧ _ ≤ (1999 : Int); omega) ?_
                    intro σ33 e34
                    have hw4 := w4_ (x := 51 + v3) (by omega)
                    have hw5 := hi82_2 (51 + v3 + 4) (by omega) (by omega)
                    have p35 : BW σ33 87 := wst_ hi82_2 e34 (by omega)
                    refine And.intro (by omega) ?_
                    try have t36 : σ33 87 2 = τ82 87 2 := (ups_r e34 (by omega))
                    try have t37 : σ33 87 3 = τ82 87 3 := (ups_r e34 (by omega))
                    try have t38 : σ33 87 1 = τ82 87 1 := (ups_r e34 (by omega))
                    try have t39 : σ33 87 5 = τ82 87 5 := (ups_r e34 (by omega))
                    try have t40 : σ33 87 (135 + 6 * σ 87 5) = τ82 87 (135 + 6 * σ 87 5) := (ups_r e34 (by omega))
                    try have t41 : σ33 87 (135 + 6 * σ 87 5 + 1) = τ82 87 (135 + 6 * σ 87 5 + 1) := (ups_r e34 (by omega))
                    exact ih_82 (v3 + 1) σ33 (fun k j hk => ((ups_r e34 (by omega)).trans (hf82 _ _ (by omega)))) (by show 0 ≤ (v3 + 1); omega) (by show (v3 + 1) ≤ 48; omega) p35 (by show σ33 87 2 = σ 87 2 - 1; omega) (by show σ33 87 3 = σ 87 3; omega) (by show σ33 87 1 = σ 87 1; omega) (by show σ33 87 5 = σ 87 5 + 1; omega) (by show σ33 87 (135 + 6 * σ 87 5) = 2; omega) (by show σ33 87 (135 + 6 * σ 87 5 + 1) = v2; omega) (by show ∀ j : Int, 135 ≤ j ∧ j < 135 + 6 * σ 87 5 → σ33 87 j = σ 87 j; intro j hj; exact ((ups_r e34 (by omega))).trans (hi82_9 j hj)) (by show ∀ j : Int, 6 ≤ j ∧ j < 51 → σ33 87 j = σ 87 j; intro j hj; exact ((ups_r e34 (by omega))).trans (hi82_10 j hj)) (by omega)
              have t42 : σ25 87 2 = z22 - 1 := ups_v e26
              try have t43 : σ25 87 3 = σ 87 3 := ((ups_r e26 (by omega)).trans (show σ15 87 3 = σ 87 3 from by first | exact f16 _ _ (by omega) | exact h21 _ (by omega) (by omega)))
              try have t44 : σ25 87 1 = σ 87 1 := ((ups_r e26 (by omega)).trans (show σ15 87 1 = σ 87 1 from by first | exact f16 _ _ (by omega) | exact h21 _ (by omega) (by omega)))
              try have t45 : σ25 87 5 = σ15 87 5 := (ups_r e26 (by omega))
              try have t46 : σ25 87 (135 + 6 * σ 87 5) = σ15 87 (135 + 6 * σ 87 5) := (ups_r e26 (by omega))
              try have t47 : σ25 87 (135 + 6 * σ 87 5 + 1) = σ15 87 (135 + 6 * σ 87 5 + 1) := (ups_r e26 (by omega))
              exact lp_82 ((48 - (4 * v2) : Int).toNat + 1) (4 * v2) σ25 (fun k j hk => ((ups_r e26 (by omega)).trans (show σ15 k j = σ k j from by first | exact f16 _ _ (by omega) | exact h21 _ (by omega) (by omega) | (by_cases hka : k = 87; (rw [hka]; exact h21 _ (by omega) (by omega)); exact f16 _ _ (by omega))))) (by show 0 ≤ (4 * v2); omega) (by show (4 * v2) ≤ 48; omega) p27 (by show σ25 87 2 = σ 87 2 - 1; omega) (by show σ25 87 3 = σ 87 3; omega) (by show σ25 87 1 = σ 87 1; omega) (by show σ25 87 5 = σ 87 5 + 1; omega) (by show σ25 87 (135 + 6 * σ 87 5) = 2; omega) (by show σ25 87 (135 + 6 * σ 87 5 + 1) = v2; omega) (by show ∀ j : Int, 135 ≤ j ∧ j < 135 + 6 * σ 87 5 → σ25 87 j = σ 87 j; intro j hj; exact ((ups_r e26 (by omega))).trans (k3 j (by omega) (by omega))) (by show ∀ j : Int, 6 ≤ j ∧ j < 51 → σ25 87 j = σ 87 j; intro j hj; exact ((ups_r e26 (by omega))).trans (k3 j (by omega) (by omega))) (by omega)
            · skip
              show WP_ X G Q 0 0 ad SHS_ σ 59 [(42, 86), (0, a1), (0, v2), (9, 0)] []
              refine B rfl ?_
              refine Exists.intro _ (And.intro rfl ?_)
              exact (And.intro (by show MI σ; exact hp0) (fun k j hk => rfl))
          · skip
            show WP_ X G Q 0 0 ad SHS_ σ 45 [(42, 86), (0, a1), (0, v2), (9, 0)] []
            refine B rfl ?_
            refine Exists.intro _ (And.intro rfl ?_)
            exact (And.intro (by show MI σ; exact hp0) (fun k j hk => rfl))
        · skip
          show WP_ X G Q 0 0 ad SHS_ σ 25 [(42, 86), (0, a1), (0, v2), (9, 0)] []
          refine B rfl ?_
          refine Exists.intro (v2, 0) (And.intro rfl (And.intro (And.intro p1 (And.intro (by show 0 ≤ v2; omega) (And.intro (by show v2 ≤ 11; omega) (And.intro (by show 0 ≤ 0; omega) (by show 0 ≤ 3; omega))))) ?_))
          rintro z48 m_ h49
          obtain rfl : σ = m_ := h49.2.2
          have h50 : 0 ≤ z48 ∧ z48 ≤ 59 := h49.1
          have h51 : z48 ≤ fthi_ 0 := h49.2.1
          refine And.intro (fun h52 => ?_) (fun h52 => ?_)
          · skip
            refine B rfl ?_
            refine And.intro (fun h53 => ?_) (fun h53 => ?_)
            · skip
              refine B rfl ?_
              refine And.intro (by omega) ?_
              intro z54 ez54 hz54
              have hz54 : ((-1) : Int) ≤ z54 ∧ z54 ≤ (1999 : Int) := hz54
              have b55 := wrh_ p1 (i := 5) (by omega)
              have b55 : (0 : Int) ≤ σ 87 5 ∧ σ 87 5 ≤ (60 : Int) := b55
              refine And.intro (fun h56 => ?_) (fun h56 => ?_)
              · skip
                refine B rfl ?_
                refine Exists.intro (2, v2) (And.intro rfl (And.intro (And.intro p1 (And.intro (by show σ 87 5 ≤ 59; omega) (And.intro (by show 0 ≤ 2; omega) (And.intro (by show 2 ≤ 2; omega) (And.intro (by show 0 ≤ v2; omega) (by show v2 ≤ 11; omega)))))) ?_))
                intro z57 σ59 h58
                have f60 : ∀ k j : Int, ¬ (k = 87) → σ59 k j = σ k j := h58.2.2.2.2.2
                have h61 : BW σ59 87 := h58.1
                have h62 : σ59 87 5 = σ 87 5 + 1 := h58.2.1
                have h63 : σ59 87 (135 + 6 * σ 87 5) = 2 := h58.2.2.1
                have h64 : σ59 87 (135 + 6 * σ 87 5 + 1) = v2 := h58.2.2.2.1
                have h65 : ∀ j : Int, j ≠ 5 → j < 135 + 6 * σ 87 5 → σ59 87 j = σ 87 j := h58.2.2.2.2.1
                have k1 : σ59 87 (135 + 6 * σ 87 5) = _ := h58.2.2.1
                have k2 : σ59 87 (135 + 6 * σ 87 5 + 1) = _ := h58.2.2.2.1
                have k3 : ∀ j : Int, j ≠ 5 → j < 135 + 6 * σ 87 5 → σ59 87 j = σ 87 j := h58.2.2.2.2.1
                have j1 : σ59 87 1 = σ 87 1 := k3 1 (by omega) (by omega)
                have j2 : σ59 87 2 = σ 87 2 := k3 2 (by omega) (by omega)
                have j3 : σ59 87 3 = σ 87 3 := k3 3 (by omega) (by omega)
                refine And.intro (by omega) ?_
                intro z66 ez66 hz66
                have hz66 : ((-1) : Int) ≤ z66 ∧ z66 ≤ (1999 : Int) := hz66
                try have t67 : σ59 87 2 = σ 87 2 := (show σ59 87 2 = σ 87 2 from by first | exact f60 _ _ (by omega) | exact h65 _ (by omega) (by omega))
                have b68 := wrh_ h61 (i := 2) (by omega)
                have b68 : (0 : Int) ≤ σ59 87 2 ∧ σ59 87 2 ≤ (12 : Int) := b68
                refine And.intro (by omega) ?_
                refine And.intro (by omega) ?_
                refine And.intro (by show ((-1) : Int) ≤ _ ∧ _ ≤ (1999 : Int); omega) ?_
                intro σ69 e70
                have p71 : BW σ69 87 := wsth_ h61 e70 (by omega) (by have e5 : hdhi_ 2 = 12 := rfl; omega)
                refine And.intro (by omega) ?_
                show WP_ X G Q 0 0 ad SHS_ σ69 82 [(42, 86), (0, a1), (0, v2), (0, 4 * v2)] []
                refine wdrop_ (L' := [(42, 86), (9, 0), (0, v2), (0, 4 * v2)]) ⟨Or.inr rfl, ⟨Or.inl rfl, ⟨Or.inr rfl, ⟨Or.inr rfl, trivial⟩⟩⟩⟩ ?_
                have lp_82 : ∀ (nq_ : Nat) (v3_1 : Int) (τ82_2 : Me_t), (∀ k j : Int, ¬ (k = 87) → τ82_2 k j = σ k j) → (0 ≤ v3_1) → (v3_1 ≤ 48) → (BW τ82_2 87) → (τ82_2 87 2 = σ 87 2 - 1) → (τ82_2 87 3 = σ 87 3) → (τ82_2 87 1 = σ 87 1) → (τ82_2 87 5 = σ 87 5 + 1) → (τ82_2 87 (135 + 6 * σ 87 5) = 2) → (τ82_2 87 (135 + 6 * σ 87 5 + 1) = v2) → (∀ j : Int, 135 ≤ j ∧ j < 135 + 6 * σ 87 5 → τ82_2 87 j = σ 87 j) → (∀ j : Int, 6 ≤ j ∧ j < 51 → τ82_2 87 j = σ 87 j) → (48 - v3_1 : Int).toNat < nq_ → WP_ X G Q 0 0 ad SHS_ τ82_2 82 [(42, 86), (9, 0), (0, v2), (0, v3_1)] [] := by
                  intro nq_
                  induction nq_ with
                  | zero => intros; omega
                  | succ nq_ ih_82 =>
                    intro v3_1 τ82_2 hf82 hi82_0 hi82_1 hi82_2 hi82_3 hi82_4 hi82_5 hi82_6 hi82_7 hi82_8 hi82_9 hi82_10 hm82
                    refine B rfl ?_
                    refine And.intro (by omega) ?_
                    intro z72 ez72 hz72
                    have hz72 : ((-1) : Int) ≤ z72 ∧ z72 ≤ (1999 : Int) := hz72
                    have b73 := wrh_ hi82_2 (i := 2) (by omega)
                    have b73 : (0 : Int) ≤ τ82_2 87 2 ∧ τ82_2 87 2 ≤ (12 : Int) := b73
                    refine And.intro (by omega) ?_
                    refine And.intro (fun h74 => ?_) (fun h74 => ?_)
                    · skip
                      refine B rfl ?_
                      refine Exists.intro _ (And.intro rfl ?_)
                      have hB2 := wrh_ hi82_2 (i := 2) (by omega)
                      have hB3 := wrh_ hi82_2 (i := 3) (by omega)
                      have hB2 : (0 : Int) ≤ τ82_2 87 2 ∧ τ82_2 87 2 ≤ (12 : Int) := hB2
                      have hB3 : (0 : Int) ≤ τ82_2 87 3 ∧ τ82_2 87 3 ≤ (12 : Int) := hB3
                      exact (And.intro (by show MI τ82_2; exact ⟨⟨hi82_2, SW_eq hp0.1.2.1 hi82_5 (fun j h1 h2 => hi82_10 j ⟨h1, h2⟩), UM_n hp0.1.2.2 (by omega) (by omega) (fun j h1 h2 => hi82_9 j ⟨h1, h2⟩) ⟨by omega, by omega, by omega, by omega⟩ (by omega)⟩, fun k k0 k1 => WB_cg (fun i _ _ => (hf82 _ _ (by omega))) (hp0.2 k k0 k1)⟩) (fun k j hk => (hf82 _ _ (by omega))))
                    · skip
                      show WP_ X G Q 0 0 ad SHS_ τ82_2 94 [(42, 86), (9, 0), (0, v2), (0, v3_1)] []
                      refine B rfl ?_
                      refine And.intro (by omega) ?_
                      refine And.intro (by omega) ?_
                      refine And.intro (by omega) ?_
                      refine And.intro (by omega) ?_
                      intro z75 ez75 hz75
                      have hz75 : ((-1) : Int) ≤ z75 ∧ z75 ≤ (1999 : Int) := hz75
                      try have t76 : τ82_2 87 ((51 + v3_1) + 4) = σ 87 ((51 + v3_1) + 4) := (hf82 _ _ (by omega))
                      refine And.intro (by omega) ?_
                      refine And.intro (by show ((-1) : Int) ≤ _ ∧ _ ≤ (1999 : Int); omega) ?_
                      intro σ77 e78
                      have hw4 := w4_ (x := 51 + v3_1) (by omega)
                      have hw5 := hi82_2 (51 + v3_1 + 4) (by omega) (by omega)
                      have p79 : BW σ77 87 := wst_ hi82_2 e78 (by omega)
                      refine And.intro (by omega) ?_
                      try have t80 : σ77 87 2 = τ82_2 87 2 := (ups_r e78 (by omega))
                      try have t81 : σ77 87 3 = τ82_2 87 3 := (ups_r e78 (by omega))
                      try have t82 : σ77 87 1 = τ82_2 87 1 := (ups_r e78 (by omega))
                      try have t83 : σ77 87 5 = τ82_2 87 5 := (ups_r e78 (by omega))
                      try have t84 : σ77 87 (135 + 6 * σ 87 5) = τ82_2 87 (135 + 6 * σ 87 5) := (ups_r e78 (by omega))
                      try have t85 : σ77 87 (135 + 6 * σ 87 5 + 1) = τ82_2 87 (135 + 6 * σ 87 5 + 1) := (ups_r e78 (by omega))
                      exact ih_82 (v3_1 + 1) σ77 (fun k j hk => ((ups_r e78 (by omega)).trans (hf82 _ _ (by omega)))) (by show 0 ≤ (v3_1 + 1); omega) (by show (v3_1 + 1) ≤ 48; omega) p79 (by show σ77 87 2 = σ 87 2 - 1; omega) (by show σ77 87 3 = σ 87 3; omega) (by show σ77 87 1 = σ 87 1; omega) (by show σ77 87 5 = σ 87 5 + 1; omega) (by show σ77 87 (135 + 6 * σ 87 5) = 2; omega) (by show σ77 87 (135 + 6 * σ 87 5 + 1) = v2; omega) (by show ∀ j : Int, 135 ≤ j ∧ j < 135 + 6 * σ 87 5 → σ77 87 j = σ 87 j; intro j hj; exact ((ups_r e78 (by omega))).trans (hi82_9 j hj)) (by show ∀ j : Int, 6 ≤ j ∧ j < 51 → σ77 87 j = σ 87 j; intro j hj; exact ((ups_r e78 (by omega))).trans (hi82_10 j hj)) (by omega)
                have t86 : σ69 87 2 = z66 - 1 := ups_v e70
                try have t87 : σ69 87 3 = σ 87 3 := ((ups_r e70 (by omega)).trans (show σ59 87 3 = σ 87 3 from by first | exact f60 _ _ (by omega) | exact h65 _ (by omega) (by omega)))
                try have t88 : σ69 87 1 = σ 87 1 := ((ups_r e70 (by omega)).trans (show σ59 87 1 = σ 87 1 from by first | exact f60 _ _ (by omega) | exact h65 _ (by omega) (by omega)))
                try have t89 : σ69 87 5 = σ59 87 5 := (ups_r e70 (by omega))
                try have t90 : σ69 87 (135 + 6 * σ 87 5) = σ59 87 (135 + 6 * σ 87 5) := (ups_r e70 (by omega))
                try have t91 : σ69 87 (135 + 6 * σ 87 5 + 1) = σ59 87 (135 + 6 * σ 87 5 + 1) := (ups_r e70 (by omega))
                exact lp_82 ((48 - (4 * v2) : Int).toNat + 1) (4 * v2) σ69 (fun k j hk => ((ups_r e70 (by omega)).trans (show σ59 k j = σ k j from by first | exact f60 _ _ (by omega) | exact h65 _ (by omega) (by omega) | (by_cases hka : k = 87; (rw [hka]; exact h65 _ (by omega) (by omega)); exact f60 _ _ (by omega))))) (by show 0 ≤ (4 * v2); omega) (by show (4 * v2) ≤ 48; omega) p71 (by show σ69 87 2 = σ 87 2 - 1; omega) (by show σ69 87 3 = σ 87 3; omega) (by show σ69 87 1 = σ 87 1; omega) (by show σ69 87 5 = σ 87 5 + 1; omega) (by show σ69 87 (135 + 6 * σ 87 5) = 2; omega) (by show σ69 87 (135 + 6 * σ 87 5 + 1) = v2; omega) (by show ∀ j : Int, 135 ≤ j ∧ j < 135 + 6 * σ 87 5 → σ69 87 j = σ 87 j; intro j hj; exact ((ups_r e70 (by omega))).trans (k3 j (by omega) (by omega))) (by show ∀ j : Int, 6 ≤ j ∧ j < 51 → σ69 87 j = σ 87 j; intro j hj; exact ((ups_r e70 (by omega))).trans (k3 j (by omega) (by omega))) (by omega)
              · skip
                show WP_ X G Q 0 0 ad SHS_ σ 59 [(42, 86), (0, a1), (0, v2), (9, 0)] []
                refine B rfl ?_
                refine Exists.intro _ (And.intro rfl ?_)
                exact (And.intro (by show MI σ; exact hp0) (fun k j hk => rfl))
            · skip
              show WP_ X G Q 0 0 ad SHS_ σ 45 [(42, 86), (0, a1), (0, v2), (9, 0)] []
              refine B rfl ?_
              refine Exists.intro _ (And.intro rfl ?_)
              exact (And.intro (by show MI σ; exact hp0) (fun k j hk => rfl))
          · skip
            show WP_ X G Q 0 0 ad SHS_ σ 35 [(42, 86), (0, a1), (0, v2), (9, 0)] []
            refine B rfl ?_
            refine And.intro (by omega) ?_
            exact ih_21 (v2 + (-1)) (by show -1 ≤ (v2 + (-1)); omega) (by show (v2 + (-1)) ≤ 11; omega) (by show (v2 + (-1)) < σ 87 2; omega) (by omega)
    exact lp_21 (((z6 - 1) + 1 : Int).toNat + 1) (z6 - 1) (by show -1 ≤ (z6 - 1); omega) (by show (z6 - 1) ≤ 11; omega) (by show (z6 - 1) < σ 87 2; omega) (by omega)
  · skip
    show WP_ X G Q 0 0 ad SHS_ σ 9 [(42, 86), (0, a1), (9, 0), (9, 0)] []
    refine B rfl ?_
    refine Exists.intro _ (And.intro rfl ?_)
    exact (And.intro (by show MI σ; exact hp0) (fun k j hk => rfl))
def as_G_X11_undo : Unit → List Sv_t := fun a => [(42, 86)]
def pre_G_X11_undo : Unit → Me_t → Prop := fun a σ => (MI σ)
def post_G_X11_undo : Unit → Me_t → Int → Me_t → Prop := fun a σ z σ' => (MI σ') ∧ (∀ k j : Int, ¬ (k = 87) → σ' k j = σ k j)
set_option maxHeartbeats 1500000 in
set_option maxRecDepth 100000 in
theorem ct_G_X11_undo (l : Launch) : CT_ l yX11_undo cX11_undo 4 (some .int) 1 20 as_G_X11_undo (rmI_) pre_G_X11_undo post_G_X11_undo := by
  refine ct_of (by decide) (fun _ => Nat.le_of_ble_eq_true rfl) ?_
  intro X G Q ad σ a hl hR E hG R hM hv hp
  have hp0 : MI σ := hp
  have B := @bk_ X G Q 0 0 ad SHS_ RX11 cX11_undo 4 (some .int) flX11 plX11 knX11 [(184, 1, TR_ as_G_X11_isWar (rmI_) pre_G_X11_isWar post_G_X11_isWar)] _ _ none kX11_undo [7, 19, 55, 78, 111, 118, 146, 151] flX11_ok plX11_ok knX11_ok eX11_undo oX11_undo
    (List.forall_mem_cons.mpr ⟨cok_v (t := 32) (c := 11) (N := 39) (n := 0) (idx := 92) E (ct_G_X11_isWar X.2.1) (by rw [hR]; decide) (Nat.zero_le _) (Nat.zero_le _) hG rfl rfl ⟨rfl, by decide, by decide, by decide⟩ (fun _ => ⟨_, _, rfl, rfl⟩) wl_X11_92 wi_X11_isWar ws_X11_isWar wn_X11 wc_X11_isWar, fun _ h => absurd h List.not_mem_nil⟩) R sok_no E
  show WP_ X G Q 0 0 ad SHS_ σ 0 [(42, 86), (9, 0), (9, 0), (9, 0)] []
  refine B rfl ?_
  refine Exists.intro () (And.intro rfl (And.intro True.intro ?_))
  rintro z1 m_ h2
  obtain rfl : σ = m_ := h2.2
  have h3 : 0 ≤ z1 ∧ z1 ≤ 1 := h2.1
  refine And.intro (fun h4 => ?_) (fun h4 => ?_)
  · skip
    refine B rfl ?_
    refine And.intro (by omega) ?_
    intro z5 ez5 hz5
    have hz5 : ((-1) : Int) ≤ z5 ∧ z5 ≤ (1999 : Int) := hz5
    have p6 : BW σ 87 := (hp0).1.1
    have b7 := wrh_ p6 (i := 5) (by omega)
    have b7 : (0 : Int) ≤ σ 87 5 ∧ σ 87 5 ≤ (60 : Int) := b7
    refine And.intro (fun h8 => ?_) (fun h8 => ?_)
    · skip
      refine B rfl ?_
      have hu := UM_t hp0.1.2.2 (by omega)
      refine And.intro (by omega) ?_
      intro z9 ez9 hz9
      have q10 : z5 = z9 := ez5.trans ez9.symm
      subst q10
      have b11 := wrh_ p6 (i := 5) (by omega)
      have b11 : (0 : Int) ≤ σ 87 5 ∧ σ 87 5 ≤ (60 : Int) := b11
      refine And.intro (by omega) ?_
      refine And.intro (by omega) ?_
      refine And.intro (by show ((-1) : Int) ≤ _ ∧ _ ≤ (1999 : Int); omega) ?_
      intro σ12 e13
      have p14 : BW σ12 87 := wsth_ p6 e13 (by omega) (by have e5 : hdhi_ 5 = 60 := rfl; omega)
      refine And.intro (by omega) ?_
      intro z15 ez15 hz15
      have hz15 : ((-1) : Int) ≤ z15 ∧ z15 ≤ (1999 : Int) := hz15
      have t16 : σ12 87 5 = z5 - 1 := ups_v e13
      have b17 := wrh_ p14 (i := 5) (by omega)
      have b17 : (0 : Int) ≤ σ12 87 5 ∧ σ12 87 5 ≤ (60 : Int) := b17
      have hz5q : z15 = σ 87 5 - 1 := by omega
      rw [← hz5q] at hu
      have hq15 : σ 87 (135 + 6 * (σ 87 5 - 1)) = σ 87 (135 + 6 * z15) := congrArg (fun q => σ 87 (135 + 6 * q)) hz5q.symm
      refine And.intro (by omega) ?_
      refine And.intro (by omega) ?_
      refine And.intro (by omega) ?_
      intro z18 ez18 hz18
      have hz18 : ((-1) : Int) ≤ z18 ∧ z18 ≤ (1999 : Int) := hz18
      try have t19 : σ12 87 (135 + (6 * z15)) = σ 87 (135 + (6 * z15)) := (ups_r e13 (by omega))
      refine And.intro (fun h20 => ?_) (fun h20 => ?_)
      · skip
        refine B rfl ?_
        refine And.intro (by omega) ?_
        intro z21 ez21 hz21
        have q22 : z18 = z21 := ez18.trans ez21.symm
        subst q22
        refine And.intro (fun h23 => ?_) (fun h23 => ?_)
        · skip
          refine B rfl ?_
          refine And.intro (by omega) ?_
          refine And.intro (by omega) ?_
          intro z24 ez24 hz24
          have hz24 : ((-1) : Int) ≤ z24 ∧ z24 ≤ (1999 : Int) := hz24
          try have t25 : σ12 87 ((135 + (6 * z15)) + 1) = σ 87 ((135 + (6 * z15)) + 1) := (ups_r e13 (by omega))
          refine And.intro (by omega) ?_
          intro z26 ez26 hz26
          have hz26 : ((-1) : Int) ≤ z26 ∧ z26 ≤ (1999 : Int) := hz26
          try have t27 : σ12 87 2 = σ 87 2 := (ups_r e13 (by omega))
          have b28 := wrh_ p14 (i := 2) (by omega)
          have b28 : (0 : Int) ≤ σ12 87 2 ∧ σ12 87 2 ≤ (12 : Int) := b28
          refine And.intro (by omega) ?_
          refine And.intro (by omega) ?_
          have lp_111 : ∀ (nq_ : Nat) (v3 : Int) (τ111 : Me_t), (∀ k j : Int, ¬ (k = 87) → τ111 k j = σ k j) → (4 * z24 - 1 ≤ v3) → (v3 ≤ 43) → (BW τ111 87) → (τ111 87 1 = σ 87 1) → (τ111 87 2 = σ 87 2) → (τ111 87 3 = σ 87 3) → (τ111 87 5 = σ 87 5 - 1) → (∀ j : Int, 6 ≤ j ∧ j < 51 ∨ 135 ≤ j ∧ j < 495 → τ111 87 j = σ 87 j) → (v3 + 1 : Int).toNat < nq_ → WP_ X G Q 0 0 ad SHS_ τ111 111 [(42, 86), (0, 135 + (6 * z15)), (0, z24), (0, v3)] [] := by
            intro nq_
            induction nq_ with
            | zero => intros; omega
            | succ nq_ ih_111 =>
              intro v3 τ111 hf111 hi111_0 hi111_1 hi111_2 hi111_3 hi111_4 hi111_5 hi111_6 hi111_7 hm111
              refine B rfl ?_
              refine And.intro (by omega) ?_
              refine And.intro (fun h29 => ?_) (fun h29 => ?_)
              · skip
                refine B rfl ?_
                have lp_146 : ∀ (nq_ : Nat) (v3 : Int) (τ146 : Me_t), (∀ k j : Int, ¬ (k = 87) → τ146 k j = σ k j) → (0 ≤ v3) → (v3 ≤ 4) → (BW τ146 87) → (τ146 87 1 = σ 87 1) → (τ146 87 2 = σ 87 2) → (τ146 87 3 = σ 87 3) → (τ146 87 5 = σ 87 5 - 1) → (∀ j : Int, 6 ≤ j ∧ j < 51 ∨ 135 ≤ j ∧ j < 495 → τ146 87 j = σ 87 j) → (4 - v3 : Int).toNat < nq_ → WP_ X G Q 0 0 ad SHS_ τ146 146 [(42, 86), (0, 135 + (6 * z15)), (0, z24), (0, v3)] [] := by
                  intro nq_
                  induction nq_ with
                  | zero => intros; omega
                  | succ nq_ ih_146 =>
                    intro v3 τ146 hf146 hi146_0 hi146_1 hi146_2 hi146_3 hi146_4 hi146_5 hi146_6 hi146_7 hm146
                    refine B rfl ?_
                    refine And.intro (fun h30 => ?_) (fun h30 => ?_)
                    · skip
                      refine B rfl ?_
                      refine And.intro (by omega) ?_
                      intro z31 ez31 hz31
                      have hz31 : ((-1) : Int) ≤ z31 ∧ z31 ≤ (1999 : Int) := hz31
                      have b32 := wrh_ hi146_2 (i := 2) (by omega)
                      have b32 : (0 : Int) ≤ τ146 87 2 ∧ τ146 87 2 ≤ (12 : Int) := b32
                      refine And.intro (by omega) ?_
                      refine And.intro (by omega) ?_
                      refine And.intro (by show ((-1) : Int) ≤ _ ∧ _ ≤ (1999 : Int); omega) ?_
                      intro σ33 e34
                      have p35 : BW σ33 87 := wsth_ hi146_2 e34 (by omega) (by have e5 : hdhi_ 2 = 12 := rfl; omega)
                      refine And.intro (by omega) ?_
                      intro z36 ez36 hz36
                      have hz36 : ((-1) : Int) ≤ z36 ∧ z36 ≤ (1999 : Int) := hz36
                      try have t37 : σ33 87 5 = τ146 87 5 := (ups_r e34 (by omega))
                      have b38 := wrh_ p35 (i := 5) (by omega)
                      have b38 : (0 : Int) ≤ σ33 87 5 ∧ σ33 87 5 ≤ (60 : Int) := b38
                      refine Exists.intro _ (And.intro rfl ?_)
                      try have t39 : σ33 87 1 = τ146 87 1 := (ups_r e34 (by omega))
                      have t40 : σ33 87 2 = z31 + 1 := ups_v e34
                      try have t41 : σ33 87 3 = τ146 87 3 := (ups_r e34 (by omega))
                      have tj : ∀ j : Int, 6 ≤ j ∧ j < 51 ∨ 135 ≤ j ∧ j < 495 → σ33 87 j = σ 87 j := fun j hj => ((ups_r e34 (by omega))).trans (hi146_7 j hj)
                      exact (And.intro (by show MI σ33; exact ⟨⟨p35, SW_eq hp0.1.2.1 (by omega) (fun j h1 h2 => tj j (Or.inl ⟨h1, h2⟩)), UM_c hp0.1.2.2 (by omega) (by omega) (fun j h1 h2 => tj j (Or.inr ⟨h1, h2⟩)) (by omega) (by omega)⟩, fun k k0 k1 => WB_cg (fun i _ _ => ((ups_r e34 (by omega)).trans (hf146 _ _ (by omega)))) (hp0.2 k k0 k1)⟩) (fun k j hk => ((ups_r e34 (by omega)).trans (hf146 _ _ (by omega)))))
                    · skip
                      show WP_ X G Q 0 0 ad SHS_ τ146 151 [(42, 86), (0, 135 + (6 * z15)), (0, z24), (0, v3)] []
                      refine B rfl ?_
                      refine And.intro (by omega) ?_
                      refine And.intro (by omega) ?_
                      refine And.intro (by omega) ?_
                      refine And.intro (by omega) ?_
                      refine And.intro (by omega) ?_
                      refine And.intro (by omega) ?_
                      intro z42 ez42 hz42
                      have hz42 : ((-1) : Int) ≤ z42 ∧ z42 ≤ (1999 : Int) := hz42
                      try have t43 : τ146 87 (((135 + (6 * z15)) + 2) + v3) = σ 87 (((135 + (6 * z15)) + 2) + v3) := (hf146 _ _ (by omega))
                      refine And.intro (by omega) ?_
                      refine And.intro (by show ((-1) : Int) ≤ _ ∧ _ ≤ (1999 : Int); omega) ?_
                      intro σ44 e45
                      have hwc := wrc_ hi146_2 (x := 135 + 6 * (σ 87 5 - 1) + (2 + v3)) (c := σ 87 5 - 1) (w := 2 + v3) rfl (by omega) (by omega)
                      rw [cg_ft ⟨by omega, by omega⟩, show 135 + 6 * (σ 87 5 - 1) + (2 + v3) = (135 + (6 * z15)) + 2 + v3 by omega] at hwc
                      have p46 : BW σ44 87 := wstf_ (c := z24) (w := v3) hi146_2 e45 (by omega) (by omega) (by omega) (by omega)
                      refine And.intro (by omega) ?_
                      try have t47 : σ44 87 1 = τ146 87 1 := (ups_r e45 (by omega))
                      try have t48 : σ44 87 2 = τ146 87 2 := (ups_r e45 (by omega))
                      try have t49 : σ44 87 3 = τ146 87 3 := (ups_r e45 (by omega))
                      try have t50 : σ44 87 5 = τ146 87 5 := (ups_r e45 (by omega))
                      exact ih_146 (v3 + 1) σ44 (fun k j hk => ((ups_r e45 (by omega)).trans (hf146 _ _ (by omega)))) (by show 0 ≤ (v3 + 1); omega) (by show (v3 + 1) ≤ 4; omega) p46 (by show σ44 87 1 = σ 87 1; omega) (by show σ44 87 2 = σ 87 2; omega) (by show σ44 87 3 = σ 87 3; omega) (by show σ44 87 5 = σ 87 5 - 1; omega) (by show ∀ j : Int, 6 ≤ j ∧ j < 51 ∨ 135 ≤ j ∧ j < 495 → σ44 87 j = σ 87 j; intro j hj; exact ((ups_r e45 (by omega))).trans (hi146_7 j hj)) (by omega)
                exact lp_146 ((4 - 0 : Int).toNat + 1) 0 τ111 (fun k j hk => (hf111 _ _ (by omega))) (by show 0 ≤ 0; omega) (by show 0 ≤ 4; omega) hi111_2 (by show τ111 87 1 = σ 87 1; omega) (by show τ111 87 2 = σ 87 2; omega) (by show τ111 87 3 = σ 87 3; omega) (by show τ111 87 5 = σ 87 5 - 1; omega) (by show ∀ j : Int, 6 ≤ j ∧ j < 51 ∨ 135 ≤ j ∧ j < 495 → τ111 87 j = σ 87 j; intro j hj; exact (rfl).trans (hi111_7 j hj)) (by omega)
              · skip
                show WP_ X G Q 0 0 ad SHS_ τ111 118 [(42, 86), (0, 135 + (6 * z15)), (0, z24), (0, v3)] []
                refine B rfl ?_
                refine And.intro (by omega) ?_
                refine And.intro (by omega) ?_
                refine And.intro (by omega) ?_
                refine And.intro (by omega) ?_
                intro z51 ez51 hz51
                have hz51 : ((-1) : Int) ≤ z51 ∧ z51 ≤ (1999 : Int) := hz51
                try have t52 : τ111 87 (51 + v3) = σ 87 (51 + v3) := (hf111 _ _ (by omega))
                refine And.intro (by omega) ?_
                refine And.intro (by show ((-1) : Int) ≤ _ ∧ _ ≤ (1999 : Int); omega) ?_
                intro σ53 e54
                have hw4 := w4_ (x := 51 + v3) (by omega)
                have hw5 := hi111_2 (51 + v3) (by omega) (by omega)
                have p55 : BW σ53 87 := wst_ hi111_2 e54 (by omega)
                refine And.intro (by omega) ?_
                try have t56 : σ53 87 1 = τ111 87 1 := (ups_r e54 (by omega))
                try have t57 : σ53 87 2 = τ111 87 2 := (ups_r e54 (by omega))
                try have t58 : σ53 87 3 = τ111 87 3 := (ups_r e54 (by omega))
                try have t59 : σ53 87 5 = τ111 87 5 := (ups_r e54 (by omega))
                exact ih_111 (v3 + (-1)) σ53 (fun k j hk => ((ups_r e54 (by omega)).trans (hf111 _ _ (by omega)))) (by show 4 * z24 - 1 ≤ (v3 + (-1)); omega) (by show (v3 + (-1)) ≤ 43; omega) p55 (by show σ53 87 1 = σ 87 1; omega) (by show σ53 87 2 = σ 87 2; omega) (by show σ53 87 3 = σ 87 3; omega) (by show σ53 87 5 = σ 87 5 - 1; omega) (by show ∀ j : Int, 6 ≤ j ∧ j < 51 ∨ 135 ≤ j ∧ j < 495 → σ53 87 j = σ 87 j; intro j hj; exact ((ups_r e54 (by omega))).trans (hi111_7 j hj)) (by omega)
          try have t60 : σ12 87 1 = σ 87 1 := (ups_r e13 (by omega))
          try have t61 : σ12 87 3 = σ 87 3 := (ups_r e13 (by omega))
          exact lp_111 ((((4 * z26) - 1) + 1 : Int).toNat + 1) ((4 * z26) - 1) σ12 (fun k j hk => (ups_r e13 (by omega))) (by show 4 * z24 - 1 ≤ ((4 * z26) - 1); omega) (by show ((4 * z26) - 1) ≤ 43; omega) p14 (by show σ12 87 1 = σ 87 1; omega) (by show σ12 87 2 = σ 87 2; omega) (by show σ12 87 3 = σ 87 3; omega) (by show σ12 87 5 = σ 87 5 - 1; omega) (by show ∀ j : Int, 6 ≤ j ∧ j < 51 ∨ 135 ≤ j ∧ j < 495 → σ12 87 j = σ 87 j; intro j hj; exact (ups_r e13 (by omega))) (by omega)
        · skip
          show WP_ X G Q 0 0 ad SHS_ σ12 78 [(42, 86), (0, 135 + (6 * z15)), (9, 0), (9, 0)] []
          refine B rfl ?_
          refine And.intro (by omega) ?_
          intro z62 ez62 hz62
          have hz62 : ((-1) : Int) ≤ z62 ∧ z62 ≤ (1999 : Int) := hz62
          try have t63 : σ12 87 3 = σ 87 3 := (ups_r e13 (by omega))
          have b64 := wrh_ p14 (i := 3) (by omega)
          have b64 : (0 : Int) ≤ σ12 87 3 ∧ σ12 87 3 ≤ (12 : Int) := b64
          refine And.intro (by omega) ?_
          refine And.intro (by omega) ?_
          refine And.intro (by show ((-1) : Int) ≤ _ ∧ _ ≤ (1999 : Int); omega) ?_
          intro σ65 e66
          have p67 : BW σ65 87 := wsth_ p14 e66 (by omega) (by have e5 : hdhi_ 3 = 12 := rfl; omega)
          refine B rfl ?_
          refine And.intro (by omega) ?_
          intro z68 ez68 hz68
          have hz68 : ((-1) : Int) ≤ z68 ∧ z68 ≤ (1999 : Int) := hz68
          try have t69 : σ65 87 5 = σ12 87 5 := (ups_r e66 (by omega))
          have b70 := wrh_ p67 (i := 5) (by omega)
          have b70 : (0 : Int) ≤ σ65 87 5 ∧ σ65 87 5 ≤ (60 : Int) := b70
          refine Exists.intro _ (And.intro rfl ?_)
          try have t71 : σ65 87 1 = σ 87 1 := ((ups_r e66 (by omega)).trans (ups_r e13 (by omega)))
          try have t72 : σ65 87 2 = σ 87 2 := ((ups_r e66 (by omega)).trans (ups_r e13 (by omega)))
          have t73 : σ65 87 3 = z62 - 1 := ups_v e66
          have tj : ∀ j : Int, 6 ≤ j ∧ j < 51 ∨ 135 ≤ j ∧ j < 495 → σ65 87 j = σ 87 j := fun j hj => ((ups_r e66 (by omega)).trans (ups_r e13 (by omega)))
          exact (And.intro (by show MI σ65; exact ⟨⟨p67, SW_eq hp0.1.2.1 (by omega) (fun j h1 h2 => tj j (Or.inl ⟨h1, h2⟩)), UM_c hp0.1.2.2 (by omega) (by omega) (fun j h1 h2 => tj j (Or.inr ⟨h1, h2⟩)) (by omega) (by omega)⟩, fun k k0 k1 => WB_cg (fun i _ _ => ((ups_r e66 (by omega)).trans (ups_r e13 (by omega)))) (hp0.2 k k0 k1)⟩) (fun k j hk => ((ups_r e66 (by omega)).trans (ups_r e13 (by omega)))))
      · skip
        show WP_ X G Q 0 0 ad SHS_ σ12 55 [(42, 86), (0, 135 + (6 * z15)), (9, 0), (9, 0)] []
        refine B rfl ?_
        refine And.intro (by omega) ?_
        intro z74 ez74 hz74
        have hz74 : ((-1) : Int) ≤ z74 ∧ z74 ≤ (1999 : Int) := hz74
        try have t75 : σ12 87 2 = σ 87 2 := (ups_r e13 (by omega))
        have b76 := wrh_ p14 (i := 2) (by omega)
        have b76 : (0 : Int) ≤ σ12 87 2 ∧ σ12 87 2 ≤ (12 : Int) := b76
        refine And.intro (by omega) ?_
        refine And.intro (by omega) ?_
        refine And.intro (by show ((-1) : Int) ≤ _ ∧ _ ≤ (1999 : Int); omega) ?_
        intro σ77 e78
        have p79 : BW σ77 87 := wsth_ p14 e78 (by omega) (by have e5 : hdhi_ 2 = 12 := rfl; omega)
        refine B rfl ?_
        refine And.intro (by omega) ?_
        intro z80 ez80 hz80
        have hz80 : ((-1) : Int) ≤ z80 ∧ z80 ≤ (1999 : Int) := hz80
        try have t81 : σ77 87 5 = σ12 87 5 := (ups_r e78 (by omega))
        have b82 := wrh_ p79 (i := 5) (by omega)
        have b82 : (0 : Int) ≤ σ77 87 5 ∧ σ77 87 5 ≤ (60 : Int) := b82
        refine Exists.intro _ (And.intro rfl ?_)
        try have t83 : σ77 87 1 = σ 87 1 := ((ups_r e78 (by omega)).trans (ups_r e13 (by omega)))
        have t84 : σ77 87 2 = z74 - 1 := ups_v e78
        try have t85 : σ77 87 3 = σ 87 3 := ((ups_r e78 (by omega)).trans (ups_r e13 (by omega)))
        have tj : ∀ j : Int, 6 ≤ j ∧ j < 51 ∨ 135 ≤ j ∧ j < 495 → σ77 87 j = σ 87 j := fun j hj => ((ups_r e78 (by omega)).trans (ups_r e13 (by omega)))
        exact (And.intro (by show MI σ77; exact ⟨⟨p79, SW_eq hp0.1.2.1 (by omega) (fun j h1 h2 => tj j (Or.inl ⟨h1, h2⟩)), UM_c hp0.1.2.2 (by omega) (by omega) (fun j h1 h2 => tj j (Or.inr ⟨h1, h2⟩)) (by omega) (by omega)⟩, fun k k0 k1 => WB_cg (fun i _ _ => ((ups_r e78 (by omega)).trans (ups_r e13 (by omega)))) (hp0.2 k k0 k1)⟩) (fun k j hk => ((ups_r e78 (by omega)).trans (ups_r e13 (by omega)))))
    · skip
      show WP_ X G Q 0 0 ad SHS_ σ 19 [(42, 86), (9, 0), (9, 0), (9, 0)] []
      refine B rfl ?_
      refine Exists.intro _ (And.intro rfl ?_)
      exact (And.intro (by show MI σ; exact hp0) (fun k j hk => rfl))
  · skip
    show WP_ X G Q 0 0 ad SHS_ σ 7 [(42, 86), (9, 0), (9, 0), (9, 0)] []
    refine B rfl ?_
    refine Exists.intro _ (And.intro rfl ?_)
    exact (And.intro (by show MI σ; exact hp0) (fun k j hk => rfl))
