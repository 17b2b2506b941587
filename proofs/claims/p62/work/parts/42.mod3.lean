def as_G_X11_holdOn : Int → List Sv_t := fun a => [(42, 86), (0, a)]
def pre_G_X11_holdOn : Int → Me_t → Prop := fun a σ => (BW σ 87)
def post_G_X11_holdOn : Int → Me_t → Int → Me_t → Prop := fun a σ z σ' => (0 ≤ z ∧ z ≤ 12) ∧ (σ = σ')
set_option maxHeartbeats 1500000 in
set_option maxRecDepth 100000 in
theorem ct_G_X11_holdOn (l : Launch) : CT_ l yX11_holdOn cX11_holdOn 4 (some .int) 1 25 as_G_X11_holdOn (rmI_) pre_G_X11_holdOn post_G_X11_holdOn := by
  refine ct_of (by decide) (fun _ => Nat.le_of_ble_eq_true rfl) ?_
  intro X G Q ad σ a hl hR E hG R hM hv hp
  obtain ⟨a1, rfl⟩ : ∃ q : Int, q = a := ⟨_, rfl⟩
  have r_a1 : -2147483648 ≤ a1 ∧ a1 ≤ 2147483647 := hv (0, a1) (List.mem_of_getElem? (i := 1) rfl)
  have hp0 : BW σ 87 := hp
  have B := @bk_ X G Q 0 0 ad SHS_ RX11 cX11_holdOn 4 (some .int) flX11 plX11 knX11 [(490, 3, TR_ as_G_X11_ofTruce (rmI_) pre_G_X11_ofTruce post_G_X11_ofTruce), (159, 3, TR_ as_G_X11_in (rmI_) pre_G_X11_in post_G_X11_in)] _ _ none kX11_holdOn [4] flX11_ok plX11_ok knX11_ok eX11_holdOn oX11_holdOn
    (List.forall_mem_cons.mpr ⟨cok_v (t := 32) (c := 11) (N := 39) (n := 2) (idx := 245) E (ct_G_X11_ofTruce X.2.1) (by rw [hR]; decide) (Nat.zero_le _) (Nat.zero_le _) hG rfl rfl ⟨rfl, by decide, by decide, by decide⟩ (fun _ => ⟨_, _, rfl, rfl⟩) wl_X11_245 wi_X11_ofTruce ws_X11_ofTruce wn_X11 wc_X11_ofTruce, List.forall_mem_cons.mpr ⟨cok_s (n := 3) (idx := 79) E (ct_G_X11_in X.2.1) (by rw [hR]; decide) (Nat.zero_le _) (Nat.zero_le _) hG ⟨by decide, by decide, by decide⟩ (fun _ => rfl) wl_X11_79 wt_X11_in wn_X11 wc_X11_in, fun _ h => absurd h List.not_mem_nil⟩⟩) R sok_no E
  show WP_ X G Q 0 0 ad SHS_ σ 0 [(42, 86), (0, a1), (9, 0), (9, 0)] []
  refine B rfl ?_
  have lp_4 : ∀ (nq_ : Nat) (v2 : Int) (v3 : Int), (0 ≤ v3) → (v3 ≤ 12) → (0 ≤ v2) → (v2 ≤ v3) → (12 - v3 : Int).toNat < nq_ → WP_ X G Q 0 0 ad SHS_ σ 4 [(42, 86), (0, a1), (0, v2), (0, v3)] [] := by
    intro nq_
    induction nq_ with
    | zero => intros; omega
    | succ nq_ ih_4 =>
      intro v2 v3 hi4_0 hi4_1 hi4_2 hi4_3 hm4
      refine B rfl ?_
      refine And.intro (by omega) ?_
      intro z1 ez1 hz1
      have hz1 : ((-1) : Int) ≤ z1 ∧ z1 ≤ (1999 : Int) := hz1
      have b2 := wrh_ hp0 (i := 3) (by omega)
      have b2 : (0 : Int) ≤ σ 87 3 ∧ σ 87 3 ≤ (12 : Int) := b2
      refine And.intro (fun h3 => ?_) (fun h3 => ?_)
      · skip
        refine B rfl ?_
        refine Exists.intro _ (And.intro rfl ?_)
        exact (And.intro (by show 0 ≤ v2 ∧ v2 ≤ 12; omega) rfl)
      · skip
        refine Exists.intro (v3, 1) (And.intro rfl (And.intro (And.intro hp0 (And.intro (by show 0 ≤ v3; omega) (And.intro (by show v3 ≤ 11; omega) (And.intro (by show 0 ≤ 1; omega) (by show 1 ≤ 2; omega))))) ?_))
        rintro z4 m_ h5
        obtain rfl : σ = m_ := h5.2
        have h6 : 0 ≤ z4 ∧ z4 ≤ 1999 := h5.1
        refine Exists.intro (v3, 2) (And.intro rfl (And.intro (And.intro hp0 (And.intro (by show 0 ≤ v3; omega) (And.intro (by show v3 ≤ 11; omega) (And.intro (by show 0 ≤ 2; omega) (by show 2 ≤ 2; omega))))) ?_))
        rintro z7 m_ h8
        obtain rfl : σ = m_ := h8.2
        have h9 : 0 ≤ z7 ∧ z7 ≤ 1999 := h8.1
        refine Exists.intro (a1, z4, z7) (And.intro rfl (And.intro True.intro ?_))
        rintro z10 m_ h11
        obtain rfl : σ = m_ := h11.2
        have h12 : (z10 = 1 ∧ z4 ≤ a1 ∧ a1 ≤ z7) ∨ (z10 = 0 ∧ ¬ (z4 ≤ a1 ∧ a1 ≤ z7)) := h11.1
        refine And.intro (fun h13 => ?_) (fun h13 => ?_)
        · skip
          refine B rfl ?_
          refine And.intro (by omega) ?_
          refine And.intro (by omega) ?_
          exact ih_4 (v2 + 0) (v3 + 1) (by show 0 ≤ (v3 + 1); omega) (by show (v3 + 1) ≤ 12; omega) (by show 0 ≤ (v2 + 0); omega) (by show (v2 + 0) ≤ (v3 + 1); omega) (by omega)
        · skip
          refine B rfl ?_
          refine And.intro (by omega) ?_
          refine And.intro (by omega) ?_
          exact ih_4 (v2 + 1) (v3 + 1) (by show 0 ≤ (v3 + 1); omega) (by show (v3 + 1) ≤ 12; omega) (by show 0 ≤ (v2 + 1); omega) (by show (v2 + 1) ≤ (v3 + 1); omega) (by omega)
  exact lp_4 ((12 - 0 : Int).toNat + 1) 0 0 (by show 0 ≤ 0; omega) (by show 0 ≤ 12; omega) (by show 0 ≤ 0; omega) (by show 0 ≤ 0; omega) (by omega)
def as_G_X11_holds : Int → List Sv_t := fun a => [(42, 86), (0, a)]
def pre_G_X11_holds : Int → Me_t → Prop := fun a σ => (MI σ)
def post_G_X11_holds : Int → Me_t → Int → Me_t → Prop := fun a σ z σ' => (σ = σ')
set_option maxHeartbeats 1500000 in
set_option maxRecDepth 100000 in
theorem ct_G_X11_holds (l : Launch) : CT_ l yX11_holds cX11_holds 2 (some .int) 2 48 as_G_X11_holds (rmI_) pre_G_X11_holds post_G_X11_holds := by
  refine ct_of (by decide) (fun _ => Nat.le_of_ble_eq_true rfl) ?_
  intro X G Q ad σ a hl hR E hG R hM hv hp
  obtain ⟨a1, rfl⟩ : ∃ q : Int, q = a := ⟨_, rfl⟩
  have r_a1 : -2147483648 ≤ a1 ∧ a1 ≤ 2147483647 := hv (0, a1) (List.mem_of_getElem? (i := 1) rfl)
  have hp0 : MI σ := hp
  have B := @bk_ X G Q 0 0 ad SHS_ RX11 cX11_holds 2 (some .int) flX11 plX11 knX11 [(184, 1, TR_ as_G_X11_isWar (rmI_) pre_G_X11_isWar post_G_X11_isWar), (179, 1, TR_ as_G_X11_isDay (rmI_) pre_G_X11_isDay post_G_X11_isDay), (792, 2, TR_ as_G_X11_holdOn (rmI_) pre_G_X11_holdOn post_G_X11_holdOn)] _ _ none kX11_holds [] flX11_ok plX11_ok knX11_ok eX11_holds oX11_holds
    (List.forall_mem_cons.mpr ⟨cok_v (t := 32) (c := 11) (N := 39) (n := 0) (idx := 92) E (ct_G_X11_isWar X.2.1) (by rw [hR]; decide) (Nat.zero_le _) (Nat.zero_le _) hG rfl rfl ⟨rfl, by decide, by decide, by decide⟩ (fun _ => ⟨_, _, rfl, rfl⟩) wl_X11_92 wi_X11_isWar ws_X11_isWar wn_X11 wc_X11_isWar, List.forall_mem_cons.mpr ⟨cok_s (n := 1) (idx := 89) E (ct_G_X11_isDay X.2.1) (by rw [hR]; decide) (Nat.zero_le _) (Nat.zero_le _) hG ⟨by decide, by decide, by decide⟩ (fun _ => rfl) wl_X11_89 wt_X11_isDay wn_X11 wc_X11_isDay, List.forall_mem_cons.mpr ⟨cok_v (t := 32) (c := 11) (N := 39) (n := 1) (idx := 396) E (ct_G_X11_holdOn X.2.1) (by rw [hR]; decide) (Nat.zero_le _) (Nat.zero_le _) hG rfl rfl ⟨rfl, by decide, by decide, by decide⟩ (fun _ => ⟨_, _, rfl, rfl⟩) wl_X11_396 wi_X11_holdOn ws_X11_holdOn wn_X11 wc_X11_holdOn, fun _ h => absurd h List.not_mem_nil⟩⟩⟩) R sok_no E
  show WP_ X G Q 0 0 ad SHS_ σ 0 [(42, 86), (0, a1)] []
  refine B rfl ?_
  refine Exists.intro () (And.intro rfl (And.intro True.intro ?_))
  rintro z1 m_ h2
  obtain rfl : σ = m_ := h2.2
  have h3 : 0 ≤ z1 ∧ z1 ≤ 1 := h2.1
  refine And.intro (fun h4 => ?_) (fun h4 => ?_)
  · skip
    refine B rfl ?_
    refine Exists.intro _ (And.intro rfl ?_)
    exact rfl
  · skip
    refine Exists.intro a1 (And.intro rfl (And.intro True.intro ?_))
    rintro z5 m_ h6
    obtain rfl : σ = m_ := h6.2
    have h7 : (z5 = 1 ∧ 0 ≤ a1 ∧ a1 ≤ 1999) ∨ z5 = 0 := h6.1
    refine And.intro (fun h8 => ?_) (fun h8 => ?_)
    · skip
      refine B rfl ?_
      refine Exists.intro _ (And.intro rfl ?_)
      exact rfl
    · skip
      have p9 : BW σ 87 := (hp0).1.1
      refine Exists.intro a1 (And.intro rfl (And.intro p9 ?_))
      rintro z10 m_ h11
      obtain rfl : σ = m_ := h11.2
      have h12 : 0 ≤ z10 ∧ z10 ≤ 12 := h11.1
      refine B rfl ?_
      refine Exists.intro _ (And.intro rfl ?_)
      exact rfl
def as_G_X11_overlap : Int × Int → List Sv_t := fun a => [(42, 86), (0, a.1), (0, a.2)]
def pre_G_X11_overlap : Int × Int → Me_t → Prop := fun a σ => (MI σ)
def post_G_X11_overlap : Int × Int → Me_t → Int → Me_t → Prop := fun a σ z σ' => (σ = σ')
set_option maxHeartbeats 1500000 in
set_option maxRecDepth 100000 in
theorem ct_G_X11_overlap (l : Launch) : CT_ l yX11_overlap cX11_overlap 4 (some .int) 2 48 as_G_X11_overlap (rmI_) pre_G_X11_overlap post_G_X11_overlap := by
  refine ct_of (by decide) (fun _ => Nat.le_of_ble_eq_true rfl) ?_
  intro X G Q ad σ a hl hR E hG R hM hv hp
  obtain ⟨a1, a2⟩ := a
  have r_a1 : -2147483648 ≤ a1 ∧ a1 ≤ 2147483647 := hv (0, a1) (List.mem_of_getElem? (i := 1) rfl)
  have r_a2 : -2147483648 ≤ a2 ∧ a2 ≤ 2147483647 := hv (0, a2) (List.mem_of_getElem? (i := 2) rfl)
  have hp0 : MI σ := hp
  have B := @bk_ X G Q 0 0 ad SHS_ RX11 cX11_overlap 4 (some .int) flX11 plX11 knX11 [(184, 1, TR_ as_G_X11_isWar (rmI_) pre_G_X11_isWar post_G_X11_isWar), (179, 1, TR_ as_G_X11_isDay (rmI_) pre_G_X11_isDay post_G_X11_isDay), (792, 2, TR_ as_G_X11_holdOn (rmI_) pre_G_X11_holdOn post_G_X11_holdOn)] _ _ none kX11_overlap [25] flX11_ok plX11_ok knX11_ok eX11_overlap oX11_overlap
    (List.forall_mem_cons.mpr ⟨cok_v (t := 32) (c := 11) (N := 39) (n := 0) (idx := 92) E (ct_G_X11_isWar X.2.1) (by rw [hR]; decide) (Nat.zero_le _) (Nat.zero_le _) hG rfl rfl ⟨rfl, by decide, by decide, by decide⟩ (fun _ => ⟨_, _, rfl, rfl⟩) wl_X11_92 wi_X11_isWar ws_X11_isWar wn_X11 wc_X11_isWar, List.forall_mem_cons.mpr ⟨cok_s (n := 1) (idx := 89) E (ct_G_X11_isDay X.2.1) (by rw [hR]; decide) (Nat.zero_le _) (Nat.zero_le _) hG ⟨by decide, by decide, by decide⟩ (fun _ => rfl) wl_X11_89 wt_X11_isDay wn_X11 wc_X11_isDay, List.forall_mem_cons.mpr ⟨cok_v (t := 32) (c := 11) (N := 39) (n := 1) (idx := 396) E (ct_G_X11_holdOn X.2.1) (by rw [hR]; decide) (Nat.zero_le _) (Nat.zero_le _) hG rfl rfl ⟨rfl, by decide, by decide, by decide⟩ (fun _ => ⟨_, _, rfl, rfl⟩) wl_X11_396 wi_X11_holdOn ws_X11_holdOn wn_X11 wc_X11_holdOn, fun _ h => absurd h List.not_mem_nil⟩⟩⟩) R sok_no E
  show WP_ X G Q 0 0 ad SHS_ σ 0 [(42, 86), (0, a1), (0, a2), (9, 0)] []
  refine B rfl ?_
  refine Exists.intro () (And.intro rfl (And.intro True.intro ?_))
  rintro z1 m_ h2
  obtain rfl : σ = m_ := h2.2
  have h3 : 0 ≤ z1 ∧ z1 ≤ 1 := h2.1
  refine And.intro (fun h4 => ?_) (fun h4 => ?_)
  · skip
    refine B rfl ?_
    refine Exists.intro _ (And.intro rfl ?_)
    exact rfl
  · skip
    refine And.intro (fun h5 => ?_) (fun h5 => ?_)
    · skip
      refine B rfl ?_
      refine Exists.intro _ (And.intro rfl ?_)
      exact rfl
    · skip
      refine Exists.intro a2 (And.intro rfl (And.intro True.intro ?_))
      rintro z6 m_ h7
      obtain rfl : σ = m_ := h7.2
      have h8 : (z6 = 1 ∧ 0 ≤ a2 ∧ a2 ≤ 1999) ∨ z6 = 0 := h7.1
      refine And.intro (fun h9 => ?_) (fun h9 => ?_)
      · skip
        refine B rfl ?_
        show WP_ X G Q 0 0 ad SHS_ σ 25 [(42, 86), (0, a1), (0, a2), (0, a2)] []
        refine wdrop_ (L' := [(42, 86), (0, a1), (9, 0), (0, a2)]) ⟨Or.inr rfl, ⟨Or.inr rfl, ⟨Or.inl rfl, ⟨Or.inr rfl, trivial⟩⟩⟩⟩ ?_
        have lp_25 : ∀ (nq_ : Nat) (v3 : Int), (0 ≤ v3) → (v3 ≤ 2000) → (2000 - v3 : Int).toNat < nq_ → WP_ X G Q 0 0 ad SHS_ σ 25 [(42, 86), (0, a1), (9, 0), (0, v3)] [] := by
          intro nq_
          induction nq_ with
          | zero => intros; omega
          | succ nq_ ih_25 =>
            intro v3 hi25_0 hi25_1 hm25
            refine B rfl ?_
            refine And.intro (fun h10 => ?_) (fun h10 => ?_)
            · skip
              refine B rfl ?_
              refine Exists.intro _ (And.intro rfl ?_)
              exact rfl
            · skip
              have p11 : BW σ 87 := (hp0).1.1
              refine Exists.intro v3 (And.intro rfl (And.intro p11 ?_))
              rintro z12 m_ h13
              obtain rfl : σ = m_ := h13.2
              have h14 : 0 ≤ z12 ∧ z12 ≤ 12 := h13.1
              refine And.intro (fun h15 => ?_) (fun h15 => ?_)
              · skip
                refine B rfl ?_
                refine And.intro (by omega) ?_
                exact ih_25 (v3 + 1) (by show 0 ≤ (v3 + 1); omega) (by show (v3 + 1) ≤ 2000; omega) (by omega)
              · skip
                refine Exists.intro _ (And.intro rfl ?_)
                exact rfl
        exact lp_25 ((2000 - a2 : Int).toNat + 1) a2 (by show 0 ≤ a2; omega) (by show a2 ≤ 2000; omega) (by omega)
      · skip
        refine Exists.intro _ (And.intro rfl ?_)
        exact rfl
def as_G_X11_most : Unit → List Sv_t := fun a => [(42, 86)]
def pre_G_X11_most : Unit → Me_t → Prop := fun a σ => (MI σ)
def post_G_X11_most : Unit → Me_t → Int → Me_t → Prop := fun a σ z σ' => (σ = σ')
set_option maxHeartbeats 1500000 in
set_option maxRecDepth 100000 in
theorem ct_G_X11_most (l : Launch) : CT_ l yX11_most cX11_most 3 (some .int) 2 48 as_G_X11_most (rmI_) pre_G_X11_most post_G_X11_most := by
  refine ct_of (by decide) (fun _ => Nat.le_of_ble_eq_true rfl) ?_
  intro X G Q ad σ a hl hR E hG R hM hv hp
  have hp0 : MI σ := hp
  have B := @bk_ X G Q 0 0 ad SHS_ RX11 cX11_most 3 (some .int) flX11 plX11 knX11 [(184, 1, TR_ as_G_X11_isWar (rmI_) pre_G_X11_isWar post_G_X11_isWar), (792, 2, TR_ as_G_X11_holdOn (rmI_) pre_G_X11_holdOn post_G_X11_holdOn), (643, 2, TMAX_)] _ _ none kX11_most [14] flX11_ok plX11_ok knX11_ok eX11_most oX11_most
    (List.forall_mem_cons.mpr ⟨cok_v (t := 32) (c := 11) (N := 39) (n := 0) (idx := 92) E (ct_G_X11_isWar X.2.1) (by rw [hR]; decide) (Nat.zero_le _) (Nat.zero_le _) hG rfl rfl ⟨rfl, by decide, by decide, by decide⟩ (fun _ => ⟨_, _, rfl, rfl⟩) wl_X11_92 wi_X11_isWar ws_X11_isWar wn_X11 wc_X11_isWar, List.forall_mem_cons.mpr ⟨cok_v (t := 32) (c := 11) (N := 39) (n := 1) (idx := 396) E (ct_G_X11_holdOn X.2.1) (by rw [hR]; decide) (Nat.zero_le _) (Nat.zero_le _) hG rfl rfl ⟨rfl, by decide, by decide, by decide⟩ (fun _ => ⟨_, _, rfl, rfl⟩) wl_X11_396 wi_X11_holdOn ws_X11_holdOn wn_X11 wc_X11_holdOn, List.forall_mem_cons.mpr ⟨cok_max (idx := 321) E (by rw [hR]; decide) (Nat.zero_le _) (Nat.zero_le _) wl_X11_321, fun _ h => absurd h List.not_mem_nil⟩⟩⟩) R sok_no E
  show WP_ X G Q 0 0 ad SHS_ σ 0 [(42, 86), (9, 0), (9, 0)] []
  refine B rfl ?_
  refine Exists.intro () (And.intro rfl (And.intro True.intro ?_))
  rintro z1 m_ h2
  obtain rfl : σ = m_ := h2.2
  have h3 : 0 ≤ z1 ∧ z1 ≤ 1 := h2.1
  refine And.intro (fun h4 => ?_) (fun h4 => ?_)
  · skip
    refine B rfl ?_
    have lp_14 : ∀ (nq_ : Nat) (v1 : Int) (v2 : Int), (0 ≤ v2) → (v2 ≤ 2000) → (2000 - v2 : Int).toNat < nq_ → WP_ X G Q 0 0 ad SHS_ σ 14 [(42, 86), (0, v1), (0, v2)] [] := by
      intro nq_
      induction nq_ with
      | zero => intros; omega
      | succ nq_ ih_14 =>
        intro v1 v2 hi14_0 hi14_1 hm14
        refine B rfl ?_
        refine And.intro (fun h5 => ?_) (fun h5 => ?_)
        · skip
          refine B rfl ?_
          refine Exists.intro _ (And.intro rfl ?_)
          exact rfl
        · skip
          have p6 : BW σ 87 := (hp0).1.1
          refine Exists.intro v2 (And.intro rfl (And.intro p6 ?_))
          rintro z7 m_ h8
          obtain rfl : σ = m_ := h8.2
          have h9 : 0 ≤ z7 ∧ z7 ≤ 12 := h8.1
          refine Exists.intro v1 (Exists.intro z7 (And.intro rfl ?_))
          intro z10 hz10
          refine And.intro (by omega) ?_
          exact ih_14 z10 (v2 + 1) (by show 0 ≤ (v2 + 1); omega) (by show (v2 + 1) ≤ 2000; omega) (by omega)
    exact lp_14 ((2000 - 0 : Int).toNat + 1) 0 0 (by show 0 ≤ 0; omega) (by show 0 ≤ 2000; omega) (by omega)
  · skip
    refine Exists.intro _ (And.intro rfl ?_)
    exact rfl
def as_G_X11_ageOf : Int × Int × Int → List Sv_t := fun a => [(42, 86), (0, a.1), (0, a.2.1), (0, a.2.2)]
def pre_G_X11_ageOf : Int × Int × Int → Me_t → Prop := fun a σ => (BW σ 87) ∧ (0 ≤ a.1) ∧ (a.1 ≤ 2) ∧ (0 ≤ a.2.1) ∧ (a.2.1 ≤ 1999) ∧ (0 ≤ a.2.2) ∧ (a.2.2 ≤ 1999)
def post_G_X11_ageOf : Int × Int × Int → Me_t → Int → Me_t → Prop := fun a σ z σ' => (-3000 ≤ z ∧ z ≤ 3000) ∧ (σ = σ')
set_option maxHeartbeats 1500000 in
set_option maxRecDepth 100000 in
theorem ct_G_X11_ageOf (l : Launch) : CT_ l yX11_ageOf cX11_ageOf 7 (some .int) 3 67 as_G_X11_ageOf (rmI_) pre_G_X11_ageOf post_G_X11_ageOf := by
  refine ct_of (by decide) (fun _ => Nat.le_of_ble_eq_true rfl) ?_
  intro X G Q ad σ a hl hR E hG R hM hv hp
  obtain ⟨a1, a2, a3⟩ := a
  have r_a1 : -2147483648 ≤ a1 ∧ a1 ≤ 2147483647 := hv (0, a1) (List.mem_of_getElem? (i := 1) rfl)
  have r_a2 : -2147483648 ≤ a2 ∧ a2 ≤ 2147483647 := hv (0, a2) (List.mem_of_getElem? (i := 2) rfl)
  have r_a3 : -2147483648 ≤ a3 ∧ a3 ≤ 2147483647 := hv (0, a3) (List.mem_of_getElem? (i := 3) rfl)
  have hp0 : BW σ 87 := hp.1
  have hp1 : 0 ≤ a1 := hp.2.1
  have hp2 : a1 ≤ 2 := hp.2.2.1
  have hp3 : 0 ≤ a2 := hp.2.2.2.1
  have hp4 : a2 ≤ 1999 := hp.2.2.2.2.1
  have hp5 : 0 ≤ a3 := hp.2.2.2.2.2.1
  have hp6 : a3 ≤ 1999 := hp.2.2.2.2.2.2
  have B := @bk_ X G Q 0 0 ad SHS_ RX11 cX11_ageOf 7 (some .int) flX11 plX11 knX11 [(648, 3, TR_ as_G_X11_isCounted (rmI_) pre_G_X11_isCounted post_G_X11_isCounted), (544, 4, TOR_ (TR_ as_G_X11_dateOf_0 (rmI_) pre_G_X11_dateOf_0 post_G_X11_dateOf_0) (TOR_ (TR_ as_G_X11_dateOf_1 (rmI_) pre_G_X11_dateOf_1 post_G_X11_dateOf_1) (TR_ as_G_X11_dateOf_2 (rmI_) pre_G_X11_dateOf_2 post_G_X11_dateOf_2)))] _ _ none kX11_ageOf [5, 14, 55, 60, 77, 89] flX11_ok plX11_ok knX11_ok eX11_ageOf oX11_ageOf
    (List.forall_mem_cons.mpr ⟨cok_v (t := 32) (c := 11) (N := 39) (n := 2) (idx := 324) E (ct_G_X11_isCounted X.2.1) (by rw [hR]; decide) (Nat.zero_le _) (Nat.zero_le _) hG rfl rfl ⟨rfl, by decide, by decide, by decide⟩ (fun _ => ⟨_, _, rfl, rfl⟩) wl_X11_324 wi_X11_isCounted ws_X11_isCounted wn_X11 wc_X11_isCounted, List.forall_mem_cons.mpr ⟨cok_or (cok_v (t := 32) (c := 11) (N := 39) (n := 3) (idx := 272) E (ct_G_X11_dateOf_0 X.2.1) (by rw [hR]; decide) (Nat.zero_le _) (Nat.zero_le _) hG rfl rfl ⟨rfl, by decide, by decide, by decide⟩ (fun _ => ⟨_, _, rfl, rfl⟩) wl_X11_272 wi_X11_dateOf ws_X11_dateOf wn_X11 wc_X11_dateOf) (cok_or (cok_v (t := 32) (c := 11) (N := 39) (n := 3) (idx := 272) E (ct_G_X11_dateOf_1 X.2.1) (by rw [hR]; decide) (Nat.zero_le _) (Nat.zero_le _) hG rfl rfl ⟨rfl, by decide, by decide, by decide⟩ (fun _ => ⟨_, _, rfl, rfl⟩) wl_X11_272 wi_X11_dateOf ws_X11_dateOf wn_X11 wc_X11_dateOf) (cok_v (t := 32) (c := 11) (N := 39) (n := 3) (idx := 272) E (ct_G_X11_dateOf_2 X.2.1) (by rw [hR]; decide) (Nat.zero_le _) (Nat.zero_le _) hG rfl rfl ⟨rfl, by decide, by decide, by decide⟩ (fun _ => ⟨_, _, rfl, rfl⟩) wl_X11_272 wi_X11_dateOf ws_X11_dateOf wn_X11 wc_X11_dateOf)), fun _ h => absurd h List.not_mem_nil⟩⟩) R sok_no E
  show WP_ X G Q 0 0 ad SHS_ σ 0 [(42, 86), (0, a1), (0, a2), (0, a3), (9, 0), (9, 0), (9, 0)] []
  refine B rfl ?_
  refine And.intro (fun h1 => ?_) (fun h1 => ?_)
  · skip
    refine B rfl ?_
    refine Exists.intro _ (And.intro rfl ?_)
    exact (And.intro (by show -3000 ≤ (-1) ∧ (-1) ≤ 3000; omega) rfl)
  · skip
    show WP_ X G Q 0 0 ad SHS_ σ 5 [(42, 86), (0, a1), (0, a2), (0, a3), (9, 0), (9, 0), (9, 0)] []
    refine B rfl ?_
    refine Exists.intro (a1, a2) (And.intro rfl (And.intro (And.intro hp0 (And.intro (by show 0 ≤ a1; omega) (by show a1 ≤ 2; omega))) ?_))
    rintro z2 m_ h3
    obtain rfl : σ = m_ := h3.2
    have h4 : (z2 = 1 ∧ σ 87 (6 + 15 * a1 + 0) ≤ a2) ∨ z2 = 0 := h3.1
    refine And.intro (fun h5 => ?_) (fun h5 => ?_)
    · skip
      refine B rfl ?_
      refine Or.inl ?_
      refine Exists.intro (a1, a3) (And.intro rfl (And.intro (And.intro (by show 0 ≤ a1; omega) (And.intro (by show a1 ≤ 2; omega) (And.intro (by show 0 ≤ a3; omega) (by show a3 ≤ 1999; omega)))) ?_))
      rintro z6 m_ h7
      obtain rfl : σ = m_ := h7.2
      have h8 : (-1) ≤ z6 ∧ z6 ≤ 2000 := h7.1
      refine Or.inl ?_
      refine Exists.intro (a1, a2) (And.intro rfl (And.intro (And.intro (by show 0 ≤ a1; omega) (And.intro (by show a1 ≤ 2; omega) (And.intro (by show 0 ≤ a2; omega) (by show a2 ≤ 1999; omega)))) ?_))
      rintro z9 m_ h10
      obtain rfl : σ = m_ := h10.2
      have h11 : (-1) ≤ z9 ∧ z9 ≤ 2000 := h10.1
      refine And.intro (by omega) ?_
      refine Or.inr ?_
      refine Or.inl ?_
      refine Exists.intro (a1, a3) (And.intro rfl (And.intro (And.intro (by show 0 ≤ a1; omega) (And.intro (by show a1 ≤ 2; omega) (And.intro (by show 0 ≤ a3; omega) (by show a3 ≤ 1999; omega)))) ?_))
      rintro z12 m_ h13
      obtain rfl : σ = m_ := h13.2
      have h14 : (-1) ≤ z12 ∧ z12 ≤ 7 := h13.1
      refine Or.inr ?_
      refine Or.inl ?_
      refine Exists.intro (a1, a2) (And.intro rfl (And.intro (And.intro (by show 0 ≤ a1; omega) (And.intro (by show a1 ≤ 2; omega) (And.intro (by show 0 ≤ a2; omega) (by show a2 ≤ 1999; omega)))) ?_))
      rintro z15 m_ h16
      obtain rfl : σ = m_ := h16.2
      have h17 : (-1) ≤ z15 ∧ z15 ≤ 7 := h16.1
      refine And.intro (by omega) ?_
      refine And.intro (fun h18 => ?_) (fun h18 => ?_)
      · skip
        refine B rfl ?_
        refine B rfl ?_
        refine And.intro (fun h19 => (by exfalso; omega)) (fun h19 => ?_)
        show WP_ X G Q 0 0 ad SHS_ σ 89 [(42, 86), (0, a1), (0, a2), (0, a3), (0, z6 - z9), (0, z12 - z15), (0, 1)] []
        refine B rfl ?_
        refine And.intro (by omega) ?_
        refine B rfl ?_
        refine Exists.intro _ (And.intro rfl ?_)
        exact (And.intro (by show -3000 ≤ ((z6 - z9) - 1) ∧ ((z6 - z9) - 1) ≤ 3000; omega) rfl)
      · skip
        show WP_ X G Q 0 0 ad SHS_ σ 55 [(42, 86), (0, a1), (0, a2), (0, a3), (0, z6 - z9), (0, z12 - z15), (9, 0)] []
        refine B rfl ?_
        refine And.intro (fun h20 => ?_) (fun h20 => ?_)
        · skip
          refine B rfl ?_
          refine And.intro (fun h21 => ?_) (fun h21 => (by exfalso; omega))
          refine B rfl ?_
          refine Exists.intro _ (And.intro rfl ?_)
          exact (And.intro (by show -3000 ≤ (z6 - z9) ∧ (z6 - z9) ≤ 3000; omega) rfl)
        · skip
          show WP_ X G Q 0 0 ad SHS_ σ 60 [(42, 86), (0, a1), (0, a2), (0, a3), (0, z6 - z9), (0, z12 - z15), (9, 0)] []
          refine B rfl ?_
          refine Or.inr ?_
          refine Or.inr ?_
          refine Exists.intro (a1, a3) (And.intro rfl (And.intro (And.intro (by show 0 ≤ a1; omega) (And.intro (by show a1 ≤ 2; omega) (And.intro (by show 0 ≤ a3; omega) (by show a3 ≤ 1999; omega)))) ?_))
          rintro z22 m_ h23
          obtain rfl : σ = m_ := h23.2
          have h24 : (-1) ≤ z22 ∧ z22 ≤ 68 := h23.1
          refine Or.inr ?_
          refine Or.inr ?_
          refine Exists.intro (a1, a2) (And.intro rfl (And.intro (And.intro (by show 0 ≤ a1; omega) (And.intro (by show a1 ≤ 2; omega) (And.intro (by show 0 ≤ a2; omega) (by show a2 ≤ 1999; omega)))) ?_))
          rintro z25 m_ h26
          obtain rfl : σ = m_ := h26.2
          have h27 : (-1) ≤ z25 ∧ z25 ≤ 68 := h26.1
          refine And.intro (fun h28 => ?_) (fun h28 => ?_)
          · skip
            refine B rfl ?_
            refine And.intro (fun h29 => ?_) (fun h29 => (by exfalso; omega))
            refine B rfl ?_
            refine Exists.intro _ (And.intro rfl ?_)
            exact (And.intro (by show -3000 ≤ (z6 - z9) ∧ (z6 - z9) ≤ 3000; omega) rfl)
          · skip
            show WP_ X G Q 0 0 ad SHS_ σ 77 [(42, 86), (0, a1), (0, a2), (0, a3), (0, z6 - z9), (0, z12 - z15), (9, 0)] []
            refine B rfl ?_
            refine B rfl ?_
            refine And.intro (fun h30 => (by exfalso; omega)) (fun h30 => ?_)
            show WP_ X G Q 0 0 ad SHS_ σ 89 [(42, 86), (0, a1), (0, a2), (0, a3), (0, z6 - z9), (0, z12 - z15), (0, 1)] []
            refine B rfl ?_
            refine And.intro (by omega) ?_
            refine B rfl ?_
            refine Exists.intro _ (And.intro rfl ?_)
            exact (And.intro (by show -3000 ≤ ((z6 - z9) - 1) ∧ ((z6 - z9) - 1) ≤ 3000; omega) rfl)
    · skip
      show WP_ X G Q 0 0 ad SHS_ σ 14 [(42, 86), (0, a1), (0, a2), (0, a3), (9, 0), (9, 0), (9, 0)] []
      refine B rfl ?_
      refine Exists.intro _ (And.intro rfl ?_)
      exact (And.intro (by show -3000 ≤ (-1) ∧ (-1) ≤ 3000; omega) rfl)
def as_G_X11_age : Int × Int × Int → List Sv_t := fun a => [(42, 86), (0, a.1), (0, a.2.1), (0, a.2.2)]
def pre_G_X11_age : Int × Int × Int → Me_t → Prop := fun a σ => (MI σ)
def post_G_X11_age : Int × Int × Int → Me_t → Int → Me_t → Prop := fun a σ z σ' => (∀ k j : Int, ¬ (93 ≤ k ∧ k ≤ 96) → σ' k j = σ k j)
set_option maxHeartbeats 1500000 in
set_option maxRecDepth 100000 in
theorem ct_G_X11_age (l : Launch) : CT_ l yX11_age cX11_age 4 (some .int) 4 93 as_G_X11_age (rmI_) pre_G_X11_age post_G_X11_age := by
  refine ct_of (by decide) (fun _ => Nat.le_of_ble_eq_true rfl) ?_
  intro X G Q ad σ a hl hR E hG R hM hv hp
  obtain ⟨a1, a2, a3⟩ := a
  have r_a1 : -2147483648 ≤ a1 ∧ a1 ≤ 2147483647 := hv (0, a1) (List.mem_of_getElem? (i := 1) rfl)
  have r_a2 : -2147483648 ≤ a2 ∧ a2 ≤ 2147483647 := hv (0, a2) (List.mem_of_getElem? (i := 2) rfl)
  have r_a3 : -2147483648 ≤ a3 ∧ a3 ≤ 2147483647 := hv (0, a3) (List.mem_of_getElem? (i := 3) rfl)
  have hp0 : MI σ := hp
  have B := @bk_ X G Q 0 0 ad SHS_ RX11 cX11_age 4 (some .int) flX11 plX11 knX11 [(166, 2, TR_ as_G_X11_isLand (rmI_) pre_G_X11_isLand post_G_X11_isLand), (179, 1, TR_ as_G_X11_isDay (rmI_) pre_G_X11_isDay post_G_X11_isDay), (538, 1, TR_ as_G_X11_lay (rmV_) pre_G_X11_lay post_G_X11_lay), (798, 4, TR_ as_G_X11_ageOf (rmI_) pre_G_X11_ageOf post_G_X11_ageOf)] _ _ none kX11_age [] flX11_ok plX11_ok knX11_ok eX11_age oX11_age
    (List.forall_mem_cons.mpr ⟨cok_v (t := 32) (c := 11) (N := 39) (n := 1) (idx := 83) E (ct_G_X11_isLand X.2.1) (by rw [hR]; decide) (Nat.zero_le _) (Nat.zero_le _) hG rfl rfl ⟨rfl, by decide, by decide, by decide⟩ (fun _ => ⟨_, _, rfl, rfl⟩) wl_X11_83 wi_X11_isLand ws_X11_isLand wn_X11 wc_X11_isLand, List.forall_mem_cons.mpr ⟨cok_s (n := 1) (idx := 89) E (ct_G_X11_isDay X.2.1) (by rw [hR]; decide) (Nat.zero_le _) (Nat.zero_le _) hG ⟨by decide, by decide, by decide⟩ (fun _ => rfl) wl_X11_89 wt_X11_isDay wn_X11 wc_X11_isDay, List.forall_mem_cons.mpr ⟨cok_v (t := 32) (c := 11) (N := 39) (n := 0) (idx := 269) E (ct_G_X11_lay X.2.1) (by rw [hR]; decide) (Nat.zero_le _) (Nat.zero_le _) hG rfl rfl ⟨rfl, by decide, by decide, by decide⟩ (fun _ => ⟨_, _, rfl, rfl⟩) wl_X11_269 wi_X11_lay ws_X11_lay wn_X11 wc_X11_lay, List.forall_mem_cons.mpr ⟨cok_v (t := 32) (c := 11) (N := 39) (n := 3) (idx := 399) E (ct_G_X11_ageOf X.2.1) (by rw [hR]; decide) (Nat.zero_le _) (Nat.zero_le _) hG rfl rfl ⟨rfl, by decide, by decide, by decide⟩ (fun _ => ⟨_, _, rfl, rfl⟩) wl_X11_399 wi_X11_ageOf ws_X11_ageOf wn_X11 wc_X11_ageOf, fun _ h => absurd h List.not_mem_nil⟩⟩⟩⟩) R sok_no E
  show WP_ X G Q 0 0 ad SHS_ σ 0 [(42, 86), (0, a1), (0, a2), (0, a3)] []
  refine B rfl ?_
  have p1 : BW σ 87 := (hp0).1.1
  refine Exists.intro a1 (And.intro rfl (And.intro p1 ?_))
  rintro z2 m_ h3
  obtain rfl : σ = m_ := h3.2
  have h4 : (z2 = 1 ∧ 0 ≤ a1 ∧ a1 ≤ 2 ∧ a1 < σ 87 1) ∨ z2 = 0 := h3.1
  refine And.intro (fun h5 => ?_) (fun h5 => ?_)
  · skip
    refine B rfl ?_
    refine Exists.intro _ (And.intro rfl ?_)
    exact (fun k j hk => rfl)
  · skip
    refine Exists.intro a2 (And.intro rfl (And.intro True.intro ?_))
    rintro z6 m_ h7
    obtain rfl : σ = m_ := h7.2
    have h8 : (z6 = 1 ∧ 0 ≤ a2 ∧ a2 ≤ 1999) ∨ z6 = 0 := h7.1
    refine And.intro (fun h9 => ?_) (fun h9 => ?_)
    · skip
      refine B rfl ?_
      refine Exists.intro _ (And.intro rfl ?_)
      exact (fun k j hk => rfl)
    · skip
      refine Exists.intro a3 (And.intro rfl (And.intro True.intro ?_))
      rintro z10 m_ h11
      obtain rfl : σ = m_ := h11.2
      have h12 : (z10 = 1 ∧ 0 ≤ a3 ∧ a3 ≤ 1999) ∨ z10 = 0 := h11.1
      refine And.intro (fun h13 => ?_) (fun h13 => ?_)
      · skip
        refine B rfl ?_
        refine Exists.intro () (And.intro rfl (And.intro hp0 ?_))
        intro z14 σ16 h15
        have f17 : ∀ k j : Int, ¬ (93 ≤ k ∧ k ≤ 96) → σ16 k j = σ k j := h15.2
        have h18 : LY σ16 := h15.1
        have p19 : BW σ16 87 := BW_fr p1 (fun k j hk => (f17 _ _ (by omega)))
        refine Exists.intro (a1, a2, a3) (And.intro rfl (And.intro (And.intro p19 (And.intro (by show 0 ≤ a1; omega) (And.intro (by show a1 ≤ 2; omega) (And.intro (by show 0 ≤ a2; omega) (And.intro (by show a2 ≤ 1999; omega) (And.intro (by show 0 ≤ a3; omega) (by show a3 ≤ 1999; omega))))))) ?_))
        rintro z20 m_ h21
        obtain rfl : σ16 = m_ := h21.2
        have h22 : -3000 ≤ z20 ∧ z20 ≤ 3000 := h21.1
        refine Exists.intro _ (And.intro rfl ?_)
        exact (fun k j hk => (f17 _ _ (by omega)))
      · skip
        refine Exists.intro _ (And.intro rfl ?_)
        exact (fun k j hk => rfl)
def as_G_X11_gains : Int × Int × Int × Int → List Sv_t := fun a => [(42, 86), (0, a.1), (0, a.2.1), (0, a.2.2.1), (0, a.2.2.2)]
def pre_G_X11_gains : Int × Int × Int × Int → Me_t → Prop := fun a σ => (MI σ)
def post_G_X11_gains : Int × Int × Int × Int → Me_t → Int → Me_t → Prop := fun a σ z σ' => (∀ k j : Int, ¬ (93 ≤ k ∧ k ≤ 96) → σ' k j = σ k j)
set_option maxHeartbeats 1500000 in
set_option maxRecDepth 100000 in
theorem ct_G_X11_gains (l : Launch) : CT_ l yX11_gains cX11_gains 7 (some .int) 4 93 as_G_X11_gains (rmI_) pre_G_X11_gains post_G_X11_gains := by
  refine ct_of (by decide) (fun _ => Nat.le_of_ble_eq_true rfl) ?_
  intro X G Q ad σ a hl hR E hG R hM hv hp
  obtain ⟨a1, a2, a3, a4⟩ := a
  have r_a1 : -2147483648 ≤ a1 ∧ a1 ≤ 2147483647 := hv (0, a1) (List.mem_of_getElem? (i := 1) rfl)
  have r_a2 : -2147483648 ≤ a2 ∧ a2 ≤ 2147483647 := hv (0, a2) (List.mem_of_getElem? (i := 2) rfl)
  have r_a3 : -2147483648 ≤ a3 ∧ a3 ≤ 2147483647 := hv (0, a3) (List.mem_of_getElem? (i := 3) rfl)
  have r_a4 : -2147483648 ≤ a4 ∧ a4 ≤ 2147483647 := hv (0, a4) (List.mem_of_getElem? (i := 4) rfl)
  have hp0 : MI σ := hp
  have B := @bk_ X G Q 0 0 ad SHS_ RX11 cX11_gains 7 (some .int) flX11 plX11 knX11 [(630, 3, TR_ as_G_X11_areTwo (rmI_) pre_G_X11_areTwo post_G_X11_areTwo), (179, 1, TR_ as_G_X11_isDay (rmI_) pre_G_X11_isDay post_G_X11_isDay), (538, 1, TR_ as_G_X11_lay (rmV_) pre_G_X11_lay post_G_X11_lay), (798, 4, TR_ as_G_X11_ageOf (rmI_) pre_G_X11_ageOf post_G_X11_ageOf)] _ _ none kX11_gains [] flX11_ok plX11_ok knX11_ok eX11_gains oX11_gains
    (List.forall_mem_cons.mpr ⟨cok_v (t := 32) (c := 11) (N := 39) (n := 2) (idx := 315) E (ct_G_X11_areTwo X.2.1) (by rw [hR]; decide) (Nat.zero_le _) (Nat.zero_le _) hG rfl rfl ⟨rfl, by decide, by decide, by decide⟩ (fun _ => ⟨_, _, rfl, rfl⟩) wl_X11_315 wi_X11_areTwo ws_X11_areTwo wn_X11 wc_X11_areTwo, List.forall_mem_cons.mpr ⟨cok_s (n := 1) (idx := 89) E (ct_G_X11_isDay X.2.1) (by rw [hR]; decide) (Nat.zero_le _) (Nat.zero_le _) hG ⟨by decide, by decide, by decide⟩ (fun _ => rfl) wl_X11_89 wt_X11_isDay wn_X11 wc_X11_isDay, List.forall_mem_cons.mpr ⟨cok_v (t := 32) (c := 11) (N := 39) (n := 0) (idx := 269) E (ct_G_X11_lay X.2.1) (by rw [hR]; decide) (Nat.zero_le _) (Nat.zero_le _) hG rfl rfl ⟨rfl, by decide, by decide, by decide⟩ (fun _ => ⟨_, _, rfl, rfl⟩) wl_X11_269 wi_X11_lay ws_X11_lay wn_X11 wc_X11_lay, List.forall_mem_cons.mpr ⟨cok_v (t := 32) (c := 11) (N := 39) (n := 3) (idx := 399) E (ct_G_X11_ageOf X.2.1) (by rw [hR]; decide) (Nat.zero_le _) (Nat.zero_le _) hG rfl rfl ⟨rfl, by decide, by decide, by decide⟩ (fun _ => ⟨_, _, rfl, rfl⟩) wl_X11_399 wi_X11_ageOf ws_X11_ageOf wn_X11 wc_X11_ageOf, fun _ h => absurd h List.not_mem_nil⟩⟩⟩⟩) R sok_no E
  show WP_ X G Q 0 0 ad SHS_ σ 0 [(42, 86), (0, a1), (0, a2), (0, a3), (0, a4), (9, 0), (9, 0)] []
  refine B rfl ?_
  have p1 : BW σ 87 := (hp0).1.1
  refine Exists.intro (a1, a2) (And.intro rfl (And.intro p1 ?_))
  rintro z2 m_ h3
  obtain rfl : σ = m_ := h3.2
  have h4 : (z2 = 1 ∧ 0 ≤ a1 ∧ a1 ≤ 2 ∧ a1 < σ 87 1 ∧ 0 ≤ a2 ∧ a2 ≤ 2 ∧ a2 < σ 87 1 ∧ a1 ≠ a2) ∨ z2 = 0 := h3.1
  refine And.intro (fun h5 => ?_) (fun h5 => ?_)
  · skip
    refine B rfl ?_
    refine Exists.intro _ (And.intro rfl ?_)
    exact (fun k j hk => rfl)
  · skip
    refine Exists.intro a3 (And.intro rfl (And.intro True.intro ?_))
    rintro z6 m_ h7
    obtain rfl : σ = m_ := h7.2
    have h8 : (z6 = 1 ∧ 0 ≤ a3 ∧ a3 ≤ 1999) ∨ z6 = 0 := h7.1
    refine And.intro (fun h9 => ?_) (fun h9 => ?_)
    · skip
      refine B rfl ?_
      refine Exists.intro _ (And.intro rfl ?_)
      exact (fun k j hk => rfl)
    · skip
      refine Exists.intro a4 (And.intro rfl (And.intro True.intro ?_))
      rintro z10 m_ h11
      obtain rfl : σ = m_ := h11.2
      have h12 : (z10 = 1 ∧ 0 ≤ a4 ∧ a4 ≤ 1999) ∨ z10 = 0 := h11.1
      refine And.intro (fun h13 => ?_) (fun h13 => ?_)
      · skip
        refine B rfl ?_
        refine Exists.intro () (And.intro rfl (And.intro hp0 ?_))
        intro z14 σ16 h15
        have f17 : ∀ k j : Int, ¬ (93 ≤ k ∧ k ≤ 96) → σ16 k j = σ k j := h15.2
        have h18 : LY σ16 := h15.1
        have p19 : BW σ16 87 := BW_fr p1 (fun k j hk => (f17 _ _ (by omega)))
        refine Exists.intro (a1, a3, a4) (And.intro rfl (And.intro (And.intro p19 (And.intro (by show 0 ≤ a1; omega) (And.intro (by show a1 ≤ 2; omega) (And.intro (by show 0 ≤ a3; omega) (And.intro (by show a3 ≤ 1999; omega) (And.intro (by show 0 ≤ a4; omega) (by show a4 ≤ 1999; omega))))))) ?_))
        rintro z20 m_ h21
        obtain rfl : σ16 = m_ := h21.2
        have h22 : -3000 ≤ z20 ∧ z20 ≤ 3000 := h21.1
        refine Exists.intro (a2, a3, a4) (And.intro rfl (And.intro (And.intro p19 (And.intro (by show 0 ≤ a2; omega) (And.intro (by show a2 ≤ 2; omega) (And.intro (by show 0 ≤ a3; omega) (And.intro (by show a3 ≤ 1999; omega) (And.intro (by show 0 ≤ a4; omega) (by show a4 ≤ 1999; omega))))))) ?_))
        rintro z23 m_ h24
        obtain rfl : σ16 = m_ := h24.2
        have h25 : -3000 ≤ z23 ∧ z23 ≤ 3000 := h24.1
        refine And.intro (fun h26 => ?_) (fun h26 => ?_)
        · skip
          refine B rfl ?_
          refine B rfl ?_
          refine Exists.intro _ (And.intro rfl ?_)
          exact (fun k j hk => (f17 _ _ (by omega)))
        · skip
          refine And.intro (fun h27 => ?_) (fun h27 => ?_)
          · skip
            refine B rfl ?_
            refine And.intro (by omega) ?_
            refine Exists.intro _ (And.intro rfl ?_)
            exact (fun k j hk => (f17 _ _ (by omega)))
          · skip
            refine B rfl ?_
            refine Exists.intro _ (And.intro rfl ?_)
            exact (fun k j hk => (f17 _ _ (by omega)))
      · skip
        refine Exists.intro _ (And.intro rfl ?_)
        exact (fun k j hk => rfl)
def as_G_X11_march : Int × Int × Int → List Sv_t := fun a => [(42, 86), (0, a.1), (0, a.2.1), (0, a.2.2)]
def pre_G_X11_march : Int × Int × Int → Me_t → Prop := fun a σ => (MI σ)
def post_G_X11_march : Int × Int × Int → Me_t → Int → Me_t → Prop := fun a σ z σ' => (∀ k j : Int, ¬ (93 ≤ k ∧ k ≤ 96) → σ' k j = σ k j)
set_option maxHeartbeats 1500000 in
set_option maxRecDepth 100000 in
theorem ct_G_X11_march (l : Launch) : CT_ l yX11_march cX11_march 6 (some .int) 4 92 as_G_X11_march (rmI_) pre_G_X11_march post_G_X11_march := by
  refine ct_of (by decide) (fun _ => Nat.le_of_ble_eq_true rfl) ?_
  intro X G Q ad σ a hl hR E hG R hM hv hp
  obtain ⟨a1, a2, a3⟩ := a
  have r_a1 : -2147483648 ≤ a1 ∧ a1 ≤ 2147483647 := hv (0, a1) (List.mem_of_getElem? (i := 1) rfl)
  have r_a2 : -2147483648 ≤ a2 ∧ a2 ≤ 2147483647 := hv (0, a2) (List.mem_of_getElem? (i := 2) rfl)
  have r_a3 : -2147483648 ≤ a3 ∧ a3 ≤ 2147483647 := hv (0, a3) (List.mem_of_getElem? (i := 3) rfl)
  have hp0 : MI σ := hp
  have B := @bk_ X G Q 0 0 ad SHS_ RX11 cX11_march 6 (some .int) flX11 plX11 knX11 [(166, 2, TR_ as_G_X11_isLand (rmI_) pre_G_X11_isLand post_G_X11_isLand), (179, 1, TR_ as_G_X11_isDay (rmI_) pre_G_X11_isDay post_G_X11_isDay), (538, 1, TR_ as_G_X11_lay (rmV_) pre_G_X11_lay post_G_X11_lay), (508, 3, TR_ as_G_X11_mayOn (rmI_) pre_G_X11_mayOn post_G_X11_mayOn)] _ _ none kX11_march [35] flX11_ok plX11_ok knX11_ok eX11_march oX11_march
    (List.forall_mem_cons.mpr ⟨cok_v (t := 32) (c := 11) (N := 39) (n := 1) (idx := 83) E (ct_G_X11_isLand X.2.1) (by rw [hR]; decide) (Nat.zero_le _) (Nat.zero_le _) hG rfl rfl ⟨rfl, by decide, by decide, by decide⟩ (fun _ => ⟨_, _, rfl, rfl⟩) wl_X11_83 wi_X11_isLand ws_X11_isLand wn_X11 wc_X11_isLand, List.forall_mem_cons.mpr ⟨cok_s (n := 1) (idx := 89) E (ct_G_X11_isDay X.2.1) (by rw [hR]; decide) (Nat.zero_le _) (Nat.zero_le _) hG ⟨by decide, by decide, by decide⟩ (fun _ => rfl) wl_X11_89 wt_X11_isDay wn_X11 wc_X11_isDay, List.forall_mem_cons.mpr ⟨cok_v (t := 32) (c := 11) (N := 39) (n := 0) (idx := 269) E (ct_G_X11_lay X.2.1) (by rw [hR]; decide) (Nat.zero_le _) (Nat.zero_le _) hG rfl rfl ⟨rfl, by decide, by decide, by decide⟩ (fun _ => ⟨_, _, rfl, rfl⟩) wl_X11_269 wi_X11_lay ws_X11_lay wn_X11 wc_X11_lay, List.forall_mem_cons.mpr ⟨cok_v (t := 32) (c := 11) (N := 39) (n := 2) (idx := 254) E (ct_G_X11_mayOn X.2.1) (by rw [hR]; decide) (Nat.zero_le _) (Nat.zero_le _) hG rfl rfl ⟨rfl, by decide, by decide, by decide⟩ (fun _ => ⟨_, _, rfl, rfl⟩) wl_X11_254 wi_X11_mayOn ws_X11_mayOn wn_X11 wc_X11_mayOn, fun _ h => absurd h List.not_mem_nil⟩⟩⟩⟩) R sok_no E
  show WP_ X G Q 0 0 ad SHS_ σ 0 [(42, 86), (0, a1), (0, a2), (0, a3), (9, 0), (9, 0)] []
  refine B rfl ?_
  have p1 : BW σ 87 := (hp0).1.1
  refine Exists.intro a1 (And.intro rfl (And.intro p1 ?_))
  rintro z2 m_ h3
  obtain rfl : σ = m_ := h3.2
  have h4 : (z2 = 1 ∧ 0 ≤ a1 ∧ a1 ≤ 2 ∧ a1 < σ 87 1) ∨ z2 = 0 := h3.1
  refine And.intro (fun h5 => ?_) (fun h5 => ?_)
  · skip
    refine B rfl ?_
    refine Exists.intro _ (And.intro rfl ?_)
    exact (fun k j hk => rfl)
  · skip
    refine Exists.intro a2 (And.intro rfl (And.intro True.intro ?_))
    rintro z6 m_ h7
    obtain rfl : σ = m_ := h7.2
    have h8 : (z6 = 1 ∧ 0 ≤ a2 ∧ a2 ≤ 1999) ∨ z6 = 0 := h7.1
    refine And.intro (fun h9 => ?_) (fun h9 => ?_)
    · skip
      refine B rfl ?_
      refine Exists.intro _ (And.intro rfl ?_)
      exact (fun k j hk => rfl)
    · skip
      refine And.intro (fun h10 => ?_) (fun h10 => ?_)
      · skip
        refine B rfl ?_
        refine Exists.intro () (And.intro rfl (And.intro hp0 ?_))
        intro z11 σ13 h12
        have f14 : ∀ k j : Int, ¬ (93 ≤ k ∧ k ≤ 96) → σ13 k j = σ k j := h12.2
        have h15 : LY σ13 := h12.1
        show WP_ X G Q 0 0 ad SHS_ σ13 35 [(42, 86), (0, a1), (0, a2), (0, a3), (0, 0), (0, a2)] []
        refine wdrop_ (L' := [(42, 86), (0, a1), (9, 0), (0, a3), (0, 0), (0, a2)]) ⟨Or.inr rfl, ⟨Or.inr rfl, ⟨Or.inl rfl, ⟨Or.inr rfl, ⟨Or.inr rfl, ⟨Or.inr rfl, trivial⟩⟩⟩⟩⟩⟩ ?_
        have lp_35 : ∀ (nq_ : Nat) (v4 : Int) (v5 : Int), (a2 ≤ v5) → (v5 ≤ 2000) → (0 ≤ v4) → (v4 ≤ v5 - a2) → (2000 - v5 : Int).toNat < nq_ → WP_ X G Q 0 0 ad SHS_ σ13 35 [(42, 86), (0, a1), (9, 0), (0, a3), (0, v4), (0, v5)] [] := by
          intro nq_
          induction nq_ with
          | zero => intros; omega
          | succ nq_ ih_35 =>
            intro v4 v5 hi35_0 hi35_1 hi35_2 hi35_3 hm35
            refine B rfl ?_
            refine And.intro (fun h16 => ?_) (fun h16 => ?_)
            · skip
              refine B rfl ?_
              refine Exists.intro _ (And.intro rfl ?_)
              exact (fun k j hk => (f14 _ _ (by omega)))
            · skip
              refine Exists.intro (a1, v5) (And.intro rfl (And.intro (And.intro (by show 0 ≤ a1; omega) (And.intro (by show a1 ≤ 2; omega) (And.intro (by show 0 ≤ v5; omega) (by show v5 ≤ 1999; omega)))) ?_))
              rintro z17 m_ h18
              obtain rfl : σ13 = m_ := h18.2
              have h19 : (z17 = 1 ∧ σ13 96 (2000 * a1 + v5) = 0) ∨ (z17 = 0 ∧ σ13 96 (2000 * a1 + v5) ≠ 0) := h18.1
              try have t20 : σ13 96 (2000 * a1 + v5) = σ 96 (2000 * a1 + v5) := (f14 _ _ (by omega))
              refine And.intro (fun h21 => ?_) (fun h21 => ?_)
              · skip
                refine B rfl ?_
                refine And.intro (by omega) ?_
                refine And.intro (fun h22 => ?_) (fun h22 => ?_)
                · skip
                  refine B rfl ?_
                  refine And.intro (by omega) ?_
                  exact ih_35 (v4 + 0) (v5 + 1) (by show a2 ≤ (v5 + 1); omega) (by show (v5 + 1) ≤ 2000; omega) (by show 0 ≤ (v4 + 0); omega) (by show (v4 + 0) ≤ (v5 + 1) - a2; omega) (by omega)
                · skip
                  refine Exists.intro _ (And.intro rfl ?_)
                  exact (fun k j hk => (f14 _ _ (by omega)))
              · skip
                refine B rfl ?_
                refine And.intro (by omega) ?_
                refine And.intro (fun h23 => ?_) (fun h23 => ?_)
                · skip
                  refine B rfl ?_
                  refine And.intro (by omega) ?_
                  exact ih_35 (v4 + 1) (v5 + 1) (by show a2 ≤ (v5 + 1); omega) (by show (v5 + 1) ≤ 2000; omega) (by show 0 ≤ (v4 + 1); omega) (by show (v4 + 1) ≤ (v5 + 1) - a2; omega) (by omega)
                · skip
                  refine Exists.intro _ (And.intro rfl ?_)
                  exact (fun k j hk => (f14 _ _ (by omega)))
        exact lp_35 ((2000 - a2 : Int).toNat + 1) 0 a2 (by show a2 ≤ a2; omega) (by show a2 ≤ 2000; omega) (by show 0 ≤ 0; omega) (by show 0 ≤ a2 - a2; omega) (by omega)
      · skip
        refine Exists.intro _ (And.intro rfl ?_)
        exact (fun k j hk => rfl)
def as_G_X11_findClash : Int × Int × Int × Int → List Sv_t := fun a => [(42, 86), (0, a.1), (0, a.2.1), (0, a.2.2.1), (0, a.2.2.2)]
def pre_G_X11_findClash : Int × Int × Int × Int → Me_t → Prop := fun a σ => (MI σ) ∧ (0 ≤ a.2.2.1) ∧ (a.2.2.1 ≤ 1999)
def post_G_X11_findClash : Int × Int × Int × Int → Me_t → Int → Me_t → Prop := fun a σ z σ' => (∀ k j : Int, ¬ (k = 86 ∨ (93 ≤ k ∧ k ≤ 96)) → σ' k j = σ k j)
set_option maxHeartbeats 1500000 in
set_option maxRecDepth 100000 in
theorem ct_G_X11_findClash (l : Launch) : CT_ l yX11_findClash cX11_findClash 9 none 4 92 as_G_X11_findClash (rmV_) pre_G_X11_findClash post_G_X11_findClash := by
  refine ct_of (by decide) (fun _ => Nat.le_of_ble_eq_true rfl) ?_
  intro X G Q ad σ a hl hR E hG R hM hv hp
  obtain ⟨a1, a2, a3, a4⟩ := a
  have r_a1 : -2147483648 ≤ a1 ∧ a1 ≤ 2147483647 := hv (0, a1) (List.mem_of_getElem? (i := 1) rfl)
  have r_a2 : -2147483648 ≤ a2 ∧ a2 ≤ 2147483647 := hv (0, a2) (List.mem_of_getElem? (i := 2) rfl)
  have r_a3 : -2147483648 ≤ a3 ∧ a3 ≤ 2147483647 := hv (0, a3) (List.mem_of_getElem? (i := 3) rfl)
  have r_a4 : -2147483648 ≤ a4 ∧ a4 ≤ 2147483647 := hv (0, a4) (List.mem_of_getElem? (i := 4) rfl)
  have hp0 : MI σ := hp.1
  have hp1 : 0 ≤ a3 := hp.2.1
  have hp2 : a3 ≤ 1999 := hp.2.2
  have B := @bk_ X G Q 0 0 ad SHS_ RX11 cX11_findClash 9 none flX11 plX11 knX11 [(538, 1, TR_ as_G_X11_lay (rmV_) pre_G_X11_lay post_G_X11_lay), (508, 3, TR_ as_G_X11_mayOn (rmI_) pre_G_X11_mayOn post_G_X11_mayOn)] _ _ none kX11_findClash [23, 31, 34, 40, 46, 52, 63, 77, 92] flX11_ok plX11_ok knX11_ok eX11_findClash oX11_findClash
    (List.forall_mem_cons.mpr ⟨cok_v (t := 32) (c := 11) (N := 39) (n := 0) (idx := 269) E (ct_G_X11_lay X.2.1) (by rw [hR]; decide) (Nat.zero_le _) (Nat.zero_le _) hG rfl rfl ⟨rfl, by decide, by decide, by decide⟩ (fun _ => ⟨_, _, rfl, rfl⟩) wl_X11_269 wi_X11_lay ws_X11_lay wn_X11 wc_X11_lay, List.forall_mem_cons.mpr ⟨cok_v (t := 32) (c := 11) (N := 39) (n := 2) (idx := 254) E (ct_G_X11_mayOn X.2.1) (by rw [hR]; decide) (Nat.zero_le _) (Nat.zero_le _) hG rfl rfl ⟨rfl, by decide, by decide, by decide⟩ (fun _ => ⟨_, _, rfl, rfl⟩) wl_X11_254 wi_X11_mayOn ws_X11_mayOn wn_X11 wc_X11_mayOn, fun _ h => absurd h List.not_mem_nil⟩⟩) R sok_no E
  show WP_ X G Q 0 0 ad SHS_ σ 0 [(42, 86), (0, a1), (0, a2), (0, a3), (0, a4), (9, 0), (9, 0), (9, 0), (9, 0)] []
  refine B rfl ?_
  refine Exists.intro () (And.intro rfl (And.intro hp0 ?_))
  intro z1 σ3 h2
  have f4 : ∀ k j : Int, ¬ (93 ≤ k ∧ k ≤ 96) → σ3 k j = σ k j := h2.2
  have h5 : LY σ3 := h2.1
  intro σ6 e7
  intro σ8 e9
  show WP_ X G Q 0 0 ad SHS_ σ8 23 [(42, 86), (0, a1), (0, a2), (0, a3), (0, a4), (0, 0), (0, 0), (0, a3), (9, 0)] []
  refine wdrop_ (L' := [(42, 86), (0, a1), (0, a2), (9, 0), (0, a4), (0, 0), (0, 0), (0, a3), (9, 0)]) ⟨Or.inr rfl, ⟨Or.inr rfl, ⟨Or.inr rfl, ⟨Or.inl rfl, ⟨Or.inr rfl, ⟨Or.inr rfl, ⟨Or.inr rfl, ⟨Or.inr rfl, ⟨Or.inl rfl, trivial⟩⟩⟩⟩⟩⟩⟩⟩⟩ ?_
  have lp_23 : ∀ (nq_ : Nat) (v5 : Int) (v6 : Int) (v7 : Int) (τ23 : Me_t), (∀ k j : Int, ¬ (k = 86 ∨ (93 ≤ k ∧ k ≤ 96)) → τ23 k j = σ k j) → (a3 ≤ v7) → (v7 ≤ 2000) → (0 ≤ v5) → (v5 ≤ 3 * (v7 - a3)) → (0 ≤ v6) → (v6 ≤ v5) → (2000 - v7 : Int).toNat < nq_ → WP_ X G Q 0 0 ad SHS_ τ23 23 [(42, 86), (0, a1), (0, a2), (9, 0), (0, a4), (0, v5), (0, v6), (0, v7), (9, 0)] [] := by
    intro nq_
    induction nq_ with
    | zero => intros; omega
    | succ nq_ ih_23 =>
      intro v5 v6 v7 τ23 hf23 hi23_0 hi23_1 hi23_2 hi23_3 hi23_4 hi23_5 hm23
      refine B rfl ?_
      refine And.intro (fun h10 => ?_) (fun h10 => ?_)
      · skip
        refine B rfl ?_
        refine Exists.intro 0 (And.intro rfl ?_)
        exact (fun k j hk => (hf23 _ _ (by omega)))
      · skip
        show WP_ X G Q 0 0 ad SHS_ τ23 31 [(42, 86), (0, a1), (0, a2), (9, 0), (0, a4), (0, v5), (0, v6), (0, v7), (9, 0)] []
        refine B rfl ?_
        have lp_34 : ∀ (nq_ : Nat) (v5 : Int) (v6 : Int) (v8 : Int) (τ34 : Me_t), (∀ k j : Int, ¬ (k = 86 ∨ (93 ≤ k ∧ k ≤ 96)) → τ34 k j = σ k j) → (0 ≤ v8) → (v8 ≤ 3) → (0 ≤ v5) → (v5 ≤ 3 * (v7 - a3) + v8) → (0 ≤ v6) → (v6 ≤ v5) → (3 - v8 : Int).toNat < nq_ → WP_ X G Q 0 0 ad SHS_ τ34 34 [(42, 86), (0, a1), (0, a2), (9, 0), (0, a4), (0, v5), (0, v6), (0, v7), (0, v8)] [] := by
          intro nq_
          induction nq_ with
          | zero => intros; omega
          | succ nq_ ih_34 =>
            intro v5 v6 v8 τ34 hf34 hi34_0 hi34_1 hi34_2 hi34_3 hi34_4 hi34_5 hm34
            refine B rfl ?_
            refine And.intro (fun h11 => ?_) (fun h11 => ?_)
            · skip
              refine B rfl ?_
              refine And.intro (by omega) ?_
              show WP_ X G Q 0 0 ad SHS_ τ34 23 [(42, 86), (0, a1), (0, a2), (9, 0), (0, a4), (0, v5), (0, v6), (0, v7 + 1), (0, v8)] []
              refine wdrop_ (L' := [(42, 86), (0, a1), (0, a2), (9, 0), (0, a4), (0, v5), (0, v6), (0, v7 + 1), (9, 0)]) ⟨Or.inr rfl, ⟨Or.inr rfl, ⟨Or.inr rfl, ⟨Or.inl rfl, ⟨Or.inr rfl, ⟨Or.inr rfl, ⟨Or.inr rfl, ⟨Or.inr rfl, ⟨Or.inl rfl, trivial⟩⟩⟩⟩⟩⟩⟩⟩⟩ ?_
              exact ih_23 v5 v6 (v7 + 1) τ34 (fun k j hk => (hf34 _ _ (by omega))) (by show a3 ≤ (v7 + 1); omega) (by show (v7 + 1) ≤ 2000; omega) (by show 0 ≤ v5; omega) (by show v5 ≤ 3 * ((v7 + 1) - a3); omega) (by show 0 ≤ v6; omega) (by show v6 ≤ v5; omega) (by omega)
            · skip
              show WP_ X G Q 0 0 ad SHS_ τ34 40 [(42, 86), (0, a1), (0, a2), (9, 0), (0, a4), (0, v5), (0, v6), (0, v7), (0, v8)] []
              refine B rfl ?_
              refine And.intro (fun h12 => ?_) (fun h12 => ?_)
              · skip
                refine B rfl ?_
                refine Exists.intro (v8, v7) (And.intro rfl (And.intro (And.intro (by show 0 ≤ v8; omega) (And.intro (by show v8 ≤ 2; omega) (And.intro (by show 0 ≤ v7; omega) (by show v7 ≤ 1999; omega)))) ?_))
                rintro z13 m_ h14
                obtain rfl : τ34 = m_ := h14.2
                have h15 : (z13 = 1 ∧ τ34 96 (2000 * v8 + v7) = 0) ∨ (z13 = 0 ∧ τ34 96 (2000 * v8 + v7) ≠ 0) := h14.1
                try have t16 : τ34 96 (2000 * v8 + v7) = σ 96 (2000 * v8 + v7) := (hf34 _ _ (by omega))
                refine And.intro (fun h17 => ?_) (fun h17 => ?_)
                · skip
                  refine B rfl ?_
                  refine And.intro (by omega) ?_
                  refine And.intro (fun h18 => ?_) (fun h18 => ?_)
                  · skip
                    refine B rfl ?_
                    refine And.intro (by omega) ?_
                    refine And.intro (fun h19 => ?_) (fun h19 => ?_)
                    · skip
                      refine B rfl ?_
                      intro σ20 e21
                      intro σ22 e23
                      refine Exists.intro 0 (And.intro rfl ?_)
                      exact (fun k j hk => ((ups_r e23 (by omega)).trans ((ups_r e21 (by omega)).trans (hf34 _ _ (by omega)))))
                    · skip
                      show WP_ X G Q 0 0 ad SHS_ τ34 92 [(42, 86), (0, a1), (0, a2), (9, 0), (0, a4), (0, v5 + 1), (0, v6 + 0), (0, v7), (0, v8)] []
                      refine B rfl ?_
                      refine B rfl ?_
                      refine And.intro (by omega) ?_
                      exact ih_34 (v5 + 1) (v6 + 0) (v8 + 1) τ34 (fun k j hk => (hf34 _ _ (by omega))) (by show 0 ≤ (v8 + 1); omega) (by show (v8 + 1) ≤ 3; omega) (by show 0 ≤ (v5 + 1); omega) (by show (v5 + 1) ≤ 3 * (v7 - a3) + (v8 + 1); omega) (by show 0 ≤ (v6 + 0); omega) (by show (v6 + 0) ≤ (v5 + 1); omega) (by omega)
                  · skip
                    show WP_ X G Q 0 0 ad SHS_ τ34 77 [(42, 86), (0, a1), (0, a2), (9, 0), (0, a4), (0, v5 + 1), (0, v6), (0, v7), (0, v8)] [(0, v6)]
                    refine B rfl ?_
                    refine B rfl ?_
                    refine And.intro (by omega) ?_
                    refine And.intro (fun h24 => ?_) (fun h24 => ?_)
                    · skip
                      refine B rfl ?_
                      intro σ25 e26
                      intro σ27 e28
                      refine Exists.intro 0 (And.intro rfl ?_)
                      exact (fun k j hk => ((ups_r e28 (by omega)).trans ((ups_r e26 (by omega)).trans (hf34 _ _ (by omega)))))
                    · skip
                      show WP_ X G Q 0 0 ad SHS_ τ34 92 [(42, 86), (0, a1), (0, a2), (9, 0), (0, a4), (0, v5 + 1), (0, v6 + 1), (0, v7), (0, v8)] []
                      refine B rfl ?_
                      refine B rfl ?_
                      refine And.intro (by omega) ?_
                      exact ih_34 (v5 + 1) (v6 + 1) (v8 + 1) τ34 (fun k j hk => (hf34 _ _ (by omega))) (by show 0 ≤ (v8 + 1); omega) (by show (v8 + 1) ≤ 3; omega) (by show 0 ≤ (v5 + 1); omega) (by show (v5 + 1) ≤ 3 * (v7 - a3) + (v8 + 1); omega) (by show 0 ≤ (v6 + 1); omega) (by show (v6 + 1) ≤ (v5 + 1); omega) (by omega)
                · skip
                  show WP_ X G Q 0 0 ad SHS_ τ34 63 [(42, 86), (0, a1), (0, a2), (9, 0), (0, a4), (0, v5), (0, v6), (0, v7), (0, v8)] []
                  refine B rfl ?_
                  refine B rfl ?_
                  refine And.intro (by omega) ?_
                  exact ih_34 v5 v6 (v8 + 1) τ34 (fun k j hk => (hf34 _ _ (by omega))) (by show 0 ≤ (v8 + 1); omega) (by show (v8 + 1) ≤ 3; omega) (by show 0 ≤ v5; omega) (by show v5 ≤ 3 * (v7 - a3) + (v8 + 1); omega) (by show 0 ≤ v6; omega) (by show v6 ≤ v5; omega) (by omega)
              · skip
                show WP_ X G Q 0 0 ad SHS_ τ34 46 [(42, 86), (0, a1), (0, a2), (9, 0), (0, a4), (0, v5), (0, v6), (0, v7), (0, v8)] []
                refine B rfl ?_
                refine And.intro (fun h29 => ?_) (fun h29 => ?_)
                · skip
                  refine B rfl ?_
                  refine And.intro (by omega) ?_
                  exact ih_34 v5 v6 (v8 + 1) τ34 (fun k j hk => (hf34 _ _ (by omega))) (by show 0 ≤ (v8 + 1); omega) (by show (v8 + 1) ≤ 3; omega) (by show 0 ≤ v5; omega) (by show v5 ≤ 3 * (v7 - a3) + (v8 + 1); omega) (by show 0 ≤ v6; omega) (by show v6 ≤ v5; omega) (by omega)
                · skip
                  show WP_ X G Q 0 0 ad SHS_ τ34 52 [(42, 86), (0, a1), (0, a2), (9, 0), (0, a4), (0, v5), (0, v6), (0, v7), (0, v8)] []
                  refine B rfl ?_
                  refine Exists.intro (v8, v7) (And.intro rfl (And.intro (And.intro (by show 0 ≤ v8; omega) (And.intro (by show v8 ≤ 2; omega) (And.intro (by show 0 ≤ v7; omega) (by show v7 ≤ 1999; omega)))) ?_))
                  rintro z30 m_ h31
                  obtain rfl : τ34 = m_ := h31.2
                  have h32 : (z30 = 1 ∧ τ34 96 (2000 * v8 + v7) = 0) ∨ (z30 = 0 ∧ τ34 96 (2000 * v8 + v7) ≠ 0) := h31.1
                  try have t33 : τ34 96 (2000 * v8 + v7) = σ 96 (2000 * v8 + v7) := (hf34 _ _ (by omega))
                  refine And.intro (fun h34 => ?_) (fun h34 => ?_)
                  · skip
                    refine B rfl ?_
                    refine And.intro (by omega) ?_
                    refine And.intro (fun h35 => ?_) (fun h35 => ?_)
                    · skip
                      refine B rfl ?_
                      refine And.intro (by omega) ?_
                      refine And.intro (fun h36 => ?_) (fun h36 => ?_)
                      · skip
                        refine B rfl ?_
                        intro σ37 e38
                        intro σ39 e40
                        refine Exists.intro 0 (And.intro rfl ?_)
                        exact (fun k j hk => ((ups_r e40 (by omega)).trans ((ups_r e38 (by omega)).trans (hf34 _ _ (by omega)))))
                      · skip
                        show WP_ X G Q 0 0 ad SHS_ τ34 92 [(42, 86), (0, a1), (0, a2), (9, 0), (0, a4), (0, v5 + 1), (0, v6 + 0), (0, v7), (0, v8)] []
                        refine B rfl ?_
                        refine B rfl ?_
                        refine And.intro (by omega) ?_
                        exact ih_34 (v5 + 1) (v6 + 0) (v8 + 1) τ34 (fun k j hk => (hf34 _ _ (by omega))) (by show 0 ≤ (v8 + 1); omega) (by show (v8 + 1) ≤ 3; omega) (by show 0 ≤ (v5 + 1); omega) (by show (v5 + 1) ≤ 3 * (v7 - a3) + (v8 + 1); omega) (by show 0 ≤ (v6 + 0); omega) (by show (v6 + 0) ≤ (v5 + 1); omega) (by omega)
                    · skip
                      show WP_ X G Q 0 0 ad SHS_ τ34 77 [(42, 86), (0, a1), (0, a2), (9, 0), (0, a4), (0, v5 + 1), (0, v6), (0, v7), (0, v8)] [(0, v6)]
                      refine B rfl ?_
                      refine B rfl ?_
                      refine And.intro (by omega) ?_
                      refine And.intro (fun h41 => ?_) (fun h41 => ?_)
                      · skip
                        refine B rfl ?_
                        intro σ42 e43
                        intro σ44 e45
                        refine Exists.intro 0 (And.intro rfl ?_)
                        exact (fun k j hk => ((ups_r e45 (by omega)).trans ((ups_r e43 (by omega)).trans (hf34 _ _ (by omega)))))
                      · skip
                        show WP_ X G Q 0 0 ad SHS_ τ34 92 [(42, 86), (0, a1), (0, a2), (9, 0), (0, a4), (0, v5 + 1), (0, v6 + 1), (0, v7), (0, v8)] []
                        refine B rfl ?_
                        refine B rfl ?_
                        refine And.intro (by omega) ?_
                        exact ih_34 (v5 + 1) (v6 + 1) (v8 + 1) τ34 (fun k j hk => (hf34 _ _ (by omega))) (by show 0 ≤ (v8 + 1); omega) (by show (v8 + 1) ≤ 3; omega) (by show 0 ≤ (v5 + 1); omega) (by show (v5 + 1) ≤ 3 * (v7 - a3) + (v8 + 1); omega) (by show 0 ≤ (v6 + 1); omega) (by show (v6 + 1) ≤ (v5 + 1); omega) (by omega)
                  · skip
                    show WP_ X G Q 0 0 ad SHS_ τ34 63 [(42, 86), (0, a1), (0, a2), (9, 0), (0, a4), (0, v5), (0, v6), (0, v7), (0, v8)] []
                    refine B rfl ?_
                    refine B rfl ?_
                    refine And.intro (by omega) ?_
                    exact ih_34 v5 v6 (v8 + 1) τ34 (fun k j hk => (hf34 _ _ (by omega))) (by show 0 ≤ (v8 + 1); omega) (by show (v8 + 1) ≤ 3; omega) (by show 0 ≤ v5; omega) (by show v5 ≤ 3 * (v7 - a3) + (v8 + 1); omega) (by show 0 ≤ v6; omega) (by show v6 ≤ v5; omega) (by omega)
        exact lp_34 ((3 - 0 : Int).toNat + 1) v5 v6 0 τ23 (fun k j hk => (hf23 _ _ (by omega))) (by show 0 ≤ 0; omega) (by show 0 ≤ 3; omega) (by show 0 ≤ v5; omega) (by show v5 ≤ 3 * (v7 - a3) + 0; omega) (by show 0 ≤ v6; omega) (by show v6 ≤ v5; omega) (by omega)
  exact lp_23 ((2000 - a3 : Int).toNat + 1) 0 0 a3 σ8 (fun k j hk => ((ups_r e9 (by omega)).trans ((ups_r e7 (by omega)).trans (f4 _ _ (by omega))))) (by show a3 ≤ a3; omega) (by show a3 ≤ 2000; omega) (by show 0 ≤ 0; omega) (by show 0 ≤ 3 * (a3 - a3); omega) (by show 0 ≤ 0; omega) (by show 0 ≤ 0; omega) (by omega)
def as_G_X11_isClash : Int × Int × Int × Int → List Sv_t := fun a => [(42, 86), (0, a.1), (0, a.2.1), (0, a.2.2.1), (0, a.2.2.2)]
def pre_G_X11_isClash : Int × Int × Int × Int → Me_t → Prop := fun a σ => (BW σ 87)
def post_G_X11_isClash : Int × Int × Int × Int → Me_t → Int → Me_t → Prop := fun a σ z σ' => ((z = 1 ∧ 0 ≤ a.1 ∧ a.1 ≤ 2 ∧ 0 ≤ a.2.1 ∧ a.2.1 ≤ 2 ∧ a.1 ≠ a.2.1 ∧ 0 ≤ a.2.2.1 ∧ a.2.2.1 ≤ 1999 ∧ 1 ≤ a.2.2.2) ∨ z = 0) ∧ (σ = σ')
set_option maxHeartbeats 1500000 in
set_option maxRecDepth 100000 in
theorem ct_G_X11_isClash (l : Launch) : CT_ l yX11_isClash cX11_isClash 5 (some .boolean) 3 69 as_G_X11_isClash (rmI_) pre_G_X11_isClash post_G_X11_isClash := by
  refine ct_of (by decide) (fun _ => Nat.le_of_ble_eq_true rfl) ?_
  intro X G Q ad σ a hl hR E hG R hM hv hp
  obtain ⟨a1, a2, a3, a4⟩ := a
  have r_a1 : -2147483648 ≤ a1 ∧ a1 ≤ 2147483647 := hv (0, a1) (List.mem_of_getElem? (i := 1) rfl)
  have r_a2 : -2147483648 ≤ a2 ∧ a2 ≤ 2147483647 := hv (0, a2) (List.mem_of_getElem? (i := 2) rfl)
  have r_a3 : -2147483648 ≤ a3 ∧ a3 ≤ 2147483647 := hv (0, a3) (List.mem_of_getElem? (i := 3) rfl)
  have r_a4 : -2147483648 ≤ a4 ∧ a4 ≤ 2147483647 := hv (0, a4) (List.mem_of_getElem? (i := 4) rfl)
  have hp0 : BW σ 87 := hp
  have B := @bk_ X G Q 0 0 ad SHS_ RX11 cX11_isClash 5 (some .boolean) flX11 plX11 knX11 [(630, 3, TR_ as_G_X11_areTwo (rmI_) pre_G_X11_areTwo post_G_X11_areTwo), (179, 1, TR_ as_G_X11_isDay (rmI_) pre_G_X11_isDay post_G_X11_isDay)] _ _ none kX11_isClash [] flX11_ok plX11_ok knX11_ok eX11_isClash oX11_isClash
    (List.forall_mem_cons.mpr ⟨cok_v (t := 32) (c := 11) (N := 39) (n := 2) (idx := 315) E (ct_G_X11_areTwo X.2.1) (by rw [hR]; decide) (Nat.zero_le _) (Nat.zero_le _) hG rfl rfl ⟨rfl, by decide, by decide, by decide⟩ (fun _ => ⟨_, _, rfl, rfl⟩) wl_X11_315 wi_X11_areTwo ws_X11_areTwo wn_X11 wc_X11_areTwo, List.forall_mem_cons.mpr ⟨cok_s (n := 1) (idx := 89) E (ct_G_X11_isDay X.2.1) (by rw [hR]; decide) (Nat.zero_le _) (Nat.zero_le _) hG ⟨by decide, by decide, by decide⟩ (fun _ => rfl) wl_X11_89 wt_X11_isDay wn_X11 wc_X11_isDay, fun _ h => absurd h List.not_mem_nil⟩⟩) R sok_no E
  show WP_ X G Q 0 0 ad SHS_ σ 0 [(42, 86), (0, a1), (0, a2), (0, a3), (0, a4)] []
  refine B rfl ?_
  refine Exists.intro (a1, a2) (And.intro rfl (And.intro hp0 ?_))
  rintro z1 m_ h2
  obtain rfl : σ = m_ := h2.2
  have h3 : (z1 = 1 ∧ 0 ≤ a1 ∧ a1 ≤ 2 ∧ a1 < σ 87 1 ∧ 0 ≤ a2 ∧ a2 ≤ 2 ∧ a2 < σ 87 1 ∧ a1 ≠ a2) ∨ z1 = 0 := h2.1
  refine And.intro (fun h4 => ?_) (fun h4 => ?_)
  · skip
    refine B rfl ?_
    refine And.intro (by omega) ?_
    refine Exists.intro _ (And.intro rfl ?_)
    exact (And.intro (by show (0 = 1 ∧ 0 ≤ a1 ∧ a1 ≤ 2 ∧ 0 ≤ a2 ∧ a2 ≤ 2 ∧ a1 ≠ a2 ∧ 0 ≤ a3 ∧ a3 ≤ 1999 ∧ 1 ≤ a4) ∨ 0 = 0; omega) rfl)
  · skip
    refine Exists.intro a3 (And.intro rfl (And.intro True.intro ?_))
    rintro z5 m_ h6
    obtain rfl : σ = m_ := h6.2
    have h7 : (z5 = 1 ∧ 0 ≤ a3 ∧ a3 ≤ 1999) ∨ z5 = 0 := h6.1
    refine And.intro (fun h8 => ?_) (fun h8 => ?_)
    · skip
      refine B rfl ?_
      refine And.intro (by omega) ?_
      refine Exists.intro _ (And.intro rfl ?_)
      exact (And.intro (by show (0 = 1 ∧ 0 ≤ a1 ∧ a1 ≤ 2 ∧ 0 ≤ a2 ∧ a2 ≤ 2 ∧ a1 ≠ a2 ∧ 0 ≤ a3 ∧ a3 ≤ 1999 ∧ 1 ≤ a4) ∨ 0 = 0; omega) rfl)
    · skip
      refine And.intro (fun h9 => ?_) (fun h9 => ?_)
      · skip
        refine B rfl ?_
        refine And.intro (by omega) ?_
        refine Exists.intro _ (And.intro rfl ?_)
        exact (And.intro (by show (0 = 1 ∧ 0 ≤ a1 ∧ a1 ≤ 2 ∧ 0 ≤ a2 ∧ a2 ≤ 2 ∧ a1 ≠ a2 ∧ 0 ≤ a3 ∧ a3 ≤ 1999 ∧ 1 ≤ a4) ∨ 0 = 0; omega) rfl)
      · skip
        refine B rfl ?_
        refine And.intro (by omega) ?_
        refine Exists.intro _ (And.intro rfl ?_)
        exact (And.intro (by show (1 = 1 ∧ 0 ≤ a1 ∧ a1 ≤ 2 ∧ 0 ≤ a2 ∧ a2 ≤ 2 ∧ a1 ≠ a2 ∧ 0 ≤ a3 ∧ a3 ≤ 1999 ∧ 1 ≤ a4) ∨ 1 = 0; omega) rfl)
def as_G_X11_clash : Int × Int × Int × Int → List Sv_t := fun a => [(42, 86), (0, a.1), (0, a.2.1), (0, a.2.2.1), (0, a.2.2.2)]
def pre_G_X11_clash : Int × Int × Int × Int → Me_t → Prop := fun a σ => (MI σ)
def post_G_X11_clash : Int × Int × Int × Int → Me_t → Int → Me_t → Prop := fun a σ z σ' => (∀ k j : Int, ¬ (k = 86 ∨ (93 ≤ k ∧ k ≤ 96)) → σ' k j = σ k j)
set_option maxHeartbeats 1500000 in
set_option maxRecDepth 100000 in
theorem ct_G_X11_clash (l : Launch) : CT_ l yX11_clash cX11_clash 5 (some .int) 5 120 as_G_X11_clash (rmI_) pre_G_X11_clash post_G_X11_clash := by
  refine ct_of (by decide) (fun _ => Nat.le_of_ble_eq_true rfl) ?_
  intro X G Q ad σ a hl hR E hG R hM hv hp
  obtain ⟨a1, a2, a3, a4⟩ := a
  have r_a1 : -2147483648 ≤ a1 ∧ a1 ≤ 2147483647 := hv (0, a1) (List.mem_of_getElem? (i := 1) rfl)
  have r_a2 : -2147483648 ≤ a2 ∧ a2 ≤ 2147483647 := hv (0, a2) (List.mem_of_getElem? (i := 2) rfl)
  have r_a3 : -2147483648 ≤ a3 ∧ a3 ≤ 2147483647 := hv (0, a3) (List.mem_of_getElem? (i := 3) rfl)
  have r_a4 : -2147483648 ≤ a4 ∧ a4 ≤ 2147483647 := hv (0, a4) (List.mem_of_getElem? (i := 4) rfl)
  have hp0 : MI σ := hp
  have B := @bk_ X G Q 0 0 ad SHS_ RX11 cX11_clash 5 (some .int) flX11 plX11 knX11 [(816, 5, TR_ as_G_X11_isClash (rmI_) pre_G_X11_isClash post_G_X11_isClash), (824, 5, TR_ as_G_X11_findClash (rmV_) pre_G_X11_findClash post_G_X11_findClash)] _ _ none kX11_clash [] flX11_ok plX11_ok knX11_ok eX11_clash oX11_clash
    (List.forall_mem_cons.mpr ⟨cok_v (t := 32) (c := 11) (N := 39) (n := 4) (idx := 408) E (ct_G_X11_isClash X.2.1) (by rw [hR]; decide) (Nat.zero_le _) (Nat.zero_le _) hG rfl rfl ⟨rfl, by decide, by decide, by decide⟩ (fun _ => ⟨_, _, rfl, rfl⟩) wl_X11_408 wi_X11_isClash ws_X11_isClash wn_X11 wc_X11_isClash, List.forall_mem_cons.mpr ⟨cok_v (t := 32) (c := 11) (N := 39) (n := 4) (idx := 412) E (ct_G_X11_findClash X.2.1) (by rw [hR]; decide) (Nat.zero_le _) (Nat.zero_le _) hG rfl rfl ⟨rfl, by decide, by decide, by decide⟩ (fun _ => ⟨_, _, rfl, rfl⟩) wl_X11_412 wi_X11_findClash ws_X11_findClash wn_X11 wc_X11_findClash, fun _ h => absurd h List.not_mem_nil⟩⟩) R sok_no E
  show WP_ X G Q 0 0 ad SHS_ σ 0 [(42, 86), (0, a1), (0, a2), (0, a3), (0, a4)] []
  refine B rfl ?_
  have p1 : BW σ 87 := (hp0).1.1
  refine Exists.intro (a1, a2, a3, a4) (And.intro rfl (And.intro p1 ?_))
  rintro z2 m_ h3
  obtain rfl : σ = m_ := h3.2
  have h4 : (z2 = 1 ∧ 0 ≤ a1 ∧ a1 ≤ 2 ∧ 0 ≤ a2 ∧ a2 ≤ 2 ∧ a1 ≠ a2 ∧ 0 ≤ a3 ∧ a3 ≤ 1999 ∧ 1 ≤ a4) ∨ z2 = 0 := h3.1
  refine And.intro (fun h5 => ?_) (fun h5 => ?_)
  · skip
    refine B rfl ?_
    refine Exists.intro (a1, a2, a3, a4) (And.intro rfl (And.intro (And.intro hp0 (And.intro (by show 0 ≤ a3; omega) (by show a3 ≤ 1999; omega))) ?_))
    intro z6 σ8 h7
    have f9 : ∀ k j : Int, ¬ (k = 86 ∨ (93 ≤ k ∧ k ≤ 96)) → σ8 k j = σ k j := h7
    intro z10 ez10 hz10
    have hz10 : ((-2147483648) : Int) ≤ z10 ∧ z10 ≤ (2147483647 : Int) := rgl_ hz10 (by decide +kernel) (by decide +kernel) (by decide +kernel)
    try have t11 : σ8 86 26 = σ 86 26 := (f9 _ _ (by omega))
    refine Exists.intro _ (And.intro rfl ?_)
    exact (fun k j hk => (f9 _ _ (by omega)))
  · skip
    refine Exists.intro _ (And.intro rfl ?_)
    exact (fun k j hk => rfl)
def as_G_X11_place : Int × Int × Int × Int → List Sv_t := fun a => [(42, 86), (0, a.1), (0, a.2.1), (0, a.2.2.1), (0, a.2.2.2)]
def pre_G_X11_place : Int × Int × Int × Int → Me_t → Prop := fun a σ => (MI σ)
def post_G_X11_place : Int × Int × Int × Int → Me_t → Int → Me_t → Prop := fun a σ z σ' => (∀ k j : Int, ¬ (k = 86 ∨ (93 ≤ k ∧ k ≤ 96)) → σ' k j = σ k j)
set_option maxHeartbeats 1500000 in
set_option maxRecDepth 100000 in
theorem ct_G_X11_place (l : Launch) : CT_ l yX11_place cX11_place 5 (some .int) 5 120 as_G_X11_place (rmI_) pre_G_X11_place post_G_X11_place := by
  refine ct_of (by decide) (fun _ => Nat.le_of_ble_eq_true rfl) ?_
  intro X G Q ad σ a hl hR E hG R hM hv hp
  obtain ⟨a1, a2, a3, a4⟩ := a
  have r_a1 : -2147483648 ≤ a1 ∧ a1 ≤ 2147483647 := hv (0, a1) (List.mem_of_getElem? (i := 1) rfl)
  have r_a2 : -2147483648 ≤ a2 ∧ a2 ≤ 2147483647 := hv (0, a2) (List.mem_of_getElem? (i := 2) rfl)
  have r_a3 : -2147483648 ≤ a3 ∧ a3 ≤ 2147483647 := hv (0, a3) (List.mem_of_getElem? (i := 3) rfl)
  have r_a4 : -2147483648 ≤ a4 ∧ a4 ≤ 2147483647 := hv (0, a4) (List.mem_of_getElem? (i := 4) rfl)
  have hp0 : MI σ := hp
  have B := @bk_ X G Q 0 0 ad SHS_ RX11 cX11_place 5 (some .int) flX11 plX11 knX11 [(816, 5, TR_ as_G_X11_isClash (rmI_) pre_G_X11_isClash post_G_X11_isClash), (824, 5, TR_ as_G_X11_findClash (rmV_) pre_G_X11_findClash post_G_X11_findClash)] _ _ none kX11_place [] flX11_ok plX11_ok knX11_ok eX11_place oX11_place
    (List.forall_mem_cons.mpr ⟨cok_v (t := 32) (c := 11) (N := 39) (n := 4) (idx := 408) E (ct_G_X11_isClash X.2.1) (by rw [hR]; decide) (Nat.zero_le _) (Nat.zero_le _) hG rfl rfl ⟨rfl, by decide, by decide, by decide⟩ (fun _ => ⟨_, _, rfl, rfl⟩) wl_X11_408 wi_X11_isClash ws_X11_isClash wn_X11 wc_X11_isClash, List.forall_mem_cons.mpr ⟨cok_v (t := 32) (c := 11) (N := 39) (n := 4) (idx := 412) E (ct_G_X11_findClash X.2.1) (by rw [hR]; decide) (Nat.zero_le _) (Nat.zero_le _) hG rfl rfl ⟨rfl, by decide, by decide, by decide⟩ (fun _ => ⟨_, _, rfl, rfl⟩) wl_X11_412 wi_X11_findClash ws_X11_findClash wn_X11 wc_X11_findClash, fun _ h => absurd h List.not_mem_nil⟩⟩) R sok_no E
  show WP_ X G Q 0 0 ad SHS_ σ 0 [(42, 86), (0, a1), (0, a2), (0, a3), (0, a4)] []
  refine B rfl ?_
  have p1 : BW σ 87 := (hp0).1.1
  refine Exists.intro (a1, a2, a3, a4) (And.intro rfl (And.intro p1 ?_))
  rintro z2 m_ h3
  obtain rfl : σ = m_ := h3.2
  have h4 : (z2 = 1 ∧ 0 ≤ a1 ∧ a1 ≤ 2 ∧ 0 ≤ a2 ∧ a2 ≤ 2 ∧ a1 ≠ a2 ∧ 0 ≤ a3 ∧ a3 ≤ 1999 ∧ 1 ≤ a4) ∨ z2 = 0 := h3.1
  refine And.intro (fun h5 => ?_) (fun h5 => ?_)
  · skip
    refine B rfl ?_
    refine Exists.intro (a1, a2, a3, a4) (And.intro rfl (And.intro (And.intro hp0 (And.intro (by show 0 ≤ a3; omega) (by show a3 ≤ 1999; omega))) ?_))
    intro z6 σ8 h7
    have f9 : ∀ k j : Int, ¬ (k = 86 ∨ (93 ≤ k ∧ k ≤ 96)) → σ8 k j = σ k j := h7
    intro z10 ez10 hz10
    have hz10 : ((-2147483648) : Int) ≤ z10 ∧ z10 ≤ (2147483647 : Int) := rgl_ hz10 (by decide +kernel) (by decide +kernel) (by decide +kernel)
    try have t11 : σ8 86 27 = σ 86 27 := (f9 _ _ (by omega))
    refine Exists.intro _ (And.intro rfl ?_)
    exact (fun k j hk => (f9 _ _ (by omega)))
  · skip
    refine Exists.intro _ (And.intro rfl ?_)
    exact (fun k j hk => rfl)
def as_G_X11_aloneOf : Int × Int × Int × Int → List Sv_t := fun a => [(42, 86), (0, a.1), (0, a.2.1), (0, a.2.2.1), (0, a.2.2.2)]
def pre_G_X11_aloneOf : Int × Int × Int × Int → Me_t → Prop := fun a σ => (0 ≤ a.1) ∧ (a.1 ≤ 2) ∧ (0 ≤ a.2.1) ∧ (a.2.1 ≤ 2) ∧ (0 ≤ a.2.2.1) ∧ (a.2.2.1 ≤ 4000)
def post_G_X11_aloneOf : Int × Int × Int × Int → Me_t → Int → Me_t → Prop := fun a σ z σ' => (0 ≤ z ∧ z ≤ 2000) ∧ (σ = σ')
set_option maxHeartbeats 1500000 in
set_option maxRecDepth 100000 in
theorem ct_G_X11_aloneOf (l : Launch) : CT_ l yX11_aloneOf cX11_aloneOf 7 (some .int) 2 43 as_G_X11_aloneOf (rmI_) pre_G_X11_aloneOf post_G_X11_aloneOf := by
  refine ct_of (by decide) (fun _ => Nat.le_of_ble_eq_true rfl) ?_
  intro X G Q ad σ a hl hR E hG R hM hv hp
  obtain ⟨a1, a2, a3, a4⟩ := a
  have r_a1 : -2147483648 ≤ a1 ∧ a1 ≤ 2147483647 := hv (0, a1) (List.mem_of_getElem? (i := 1) rfl)
  have r_a2 : -2147483648 ≤ a2 ∧ a2 ≤ 2147483647 := hv (0, a2) (List.mem_of_getElem? (i := 2) rfl)
  have r_a3 : -2147483648 ≤ a3 ∧ a3 ≤ 2147483647 := hv (0, a3) (List.mem_of_getElem? (i := 3) rfl)
  have r_a4 : -2147483648 ≤ a4 ∧ a4 ≤ 2147483647 := hv (0, a4) (List.mem_of_getElem? (i := 4) rfl)
  have hp0 : 0 ≤ a1 := hp.1
  have hp1 : a1 ≤ 2 := hp.2.1
  have hp2 : 0 ≤ a2 := hp.2.2.1
  have hp3 : a2 ≤ 2 := hp.2.2.2.1
  have hp4 : 0 ≤ a3 := hp.2.2.2.2.1
  have hp5 : a3 ≤ 4000 := hp.2.2.2.2.2
  have B := @bk_ X G Q 0 0 ad SHS_ RX11 cX11_aloneOf 7 (some .int) flX11 plX11 knX11 [(508, 3, TR_ as_G_X11_mayOn (rmI_) pre_G_X11_mayOn post_G_X11_mayOn)] _ _ none kX11_aloneOf [6] flX11_ok plX11_ok knX11_ok eX11_aloneOf oX11_aloneOf
    (List.forall_mem_cons.mpr ⟨cok_v (t := 32) (c := 11) (N := 39) (n := 2) (idx := 254) E (ct_G_X11_mayOn X.2.1) (by rw [hR]; decide) (Nat.zero_le _) (Nat.zero_le _) hG rfl rfl ⟨rfl, by decide, by decide, by decide⟩ (fun _ => ⟨_, _, rfl, rfl⟩) wl_X11_254 wi_X11_mayOn ws_X11_mayOn wn_X11 wc_X11_mayOn, fun _ h => absurd h List.not_mem_nil⟩) R sok_no E
  show WP_ X G Q 0 0 ad SHS_ σ 0 [(42, 86), (0, a1), (0, a2), (0, a3), (0, a4), (9, 0), (9, 0)] []
  refine B rfl ?_
  show WP_ X G Q 0 0 ad SHS_ σ 6 [(42, 86), (0, a1), (0, a2), (0, a3), (0, a4), (0, 0), (0, a3)] []
  refine wdrop_ (L' := [(42, 86), (0, a1), (0, a2), (9, 0), (0, a4), (0, 0), (0, a3)]) ⟨Or.inr rfl, ⟨Or.inr rfl, ⟨Or.inr rfl, ⟨Or.inl rfl, ⟨Or.inr rfl, ⟨Or.inr rfl, ⟨Or.inr rfl, trivial⟩⟩⟩⟩⟩⟩⟩ ?_
  have lp_6 : ∀ (nq_ : Nat) (v5 : Int) (v6 : Int), (a3 ≤ v6) → (v6 ≤ 4000) → (0 ≤ v5) → (v5 ≤ v6 - a3) → (v6 ≤ 2000 ∨ v5 = 0) → (v5 ≤ 2000) → (4000 - v6 : Int).toNat < nq_ → WP_ X G Q 0 0 ad SHS_ σ 6 [(42, 86), (0, a1), (0, a2), (9, 0), (0, a4), (0, v5), (0, v6)] [] := by
    intro nq_
    induction nq_ with
    | zero => intros; omega
    | succ nq_ ih_6 =>
      intro v5 v6 hi6_0 hi6_1 hi6_2 hi6_3 hi6_4 hi6_5 hm6
      refine B rfl ?_
      refine And.intro (fun h1 => ?_) (fun h1 => ?_)
      · skip
        refine B rfl ?_
        refine Exists.intro _ (And.intro rfl ?_)
        exact (And.intro (by show 0 ≤ v5 ∧ v5 ≤ 2000; omega) rfl)
      · skip
        refine And.intro (fun h2 => ?_) (fun h2 => ?_)
        · skip
          refine B rfl ?_
          refine Exists.intro _ (And.intro rfl ?_)
          exact (And.intro (by show 0 ≤ v5 ∧ v5 ≤ 2000; omega) rfl)
        · skip
          refine Exists.intro (a1, v6) (And.intro rfl (And.intro (And.intro (by show 0 ≤ a1; omega) (And.intro (by show a1 ≤ 2; omega) (And.intro (by show 0 ≤ v6; omega) (by show v6 ≤ 1999; omega)))) ?_))
          rintro z3 m_ h4
          obtain rfl : σ = m_ := h4.2
          have h5 : (z3 = 1 ∧ σ 96 (2000 * a1 + v6) = 0) ∨ (z3 = 0 ∧ σ 96 (2000 * a1 + v6) ≠ 0) := h4.1
          refine And.intro (fun h6 => ?_) (fun h6 => ?_)
          · skip
            refine B rfl ?_
            refine And.intro (by omega) ?_
            refine And.intro (by omega) ?_
            exact ih_6 (v5 + 0) (v6 + 1) (by show a3 ≤ (v6 + 1); omega) (by show (v6 + 1) ≤ 4000; omega) (by show 0 ≤ (v5 + 0); omega) (by show (v5 + 0) ≤ (v6 + 1) - a3; omega) (by show (v6 + 1) ≤ 2000 ∨ (v5 + 0) = 0; omega) (by show (v5 + 0) ≤ 2000; omega) (by omega)
          · skip
            refine Exists.intro (a2, v6) (And.intro rfl (And.intro (And.intro (by show 0 ≤ a2; omega) (And.intro (by show a2 ≤ 2; omega) (And.intro (by show 0 ≤ v6; omega) (by show v6 ≤ 1999; omega)))) ?_))
            rintro z7 m_ h8
            obtain rfl : σ = m_ := h8.2
            have h9 : (z7 = 1 ∧ σ 96 (2000 * a2 + v6) = 0) ∨ (z7 = 0 ∧ σ 96 (2000 * a2 + v6) ≠ 0) := h8.1
            refine And.intro (fun h10 => ?_) (fun h10 => ?_)
            · skip
              refine B rfl ?_
              refine And.intro (by omega) ?_
              refine And.intro (by omega) ?_
              exact ih_6 (v5 + 0) (v6 + 1) (by show a3 ≤ (v6 + 1); omega) (by show (v6 + 1) ≤ 4000; omega) (by show 0 ≤ (v5 + 0); omega) (by show (v5 + 0) ≤ (v6 + 1) - a3; omega) (by show (v6 + 1) ≤ 2000 ∨ (v5 + 0) = 0; omega) (by show (v5 + 0) ≤ 2000; omega) (by omega)
            · skip
              refine B rfl ?_
              refine And.intro (by omega) ?_
              refine And.intro (by omega) ?_
              exact ih_6 (v5 + 1) (v6 + 1) (by show a3 ≤ (v6 + 1); omega) (by show (v6 + 1) ≤ 4000; omega) (by show 0 ≤ (v5 + 1); omega) (by show (v5 + 1) ≤ (v6 + 1) - a3; omega) (by show (v6 + 1) ≤ 2000 ∨ (v5 + 1) = 0; omega) (by show (v5 + 1) ≤ 2000; omega) (by omega)
  exact lp_6 ((4000 - a3 : Int).toNat + 1) 0 a3 (by show a3 ≤ a3; omega) (by show a3 ≤ 4000; omega) (by show 0 ≤ 0; omega) (by show 0 ≤ a3 - a3; omega) (by show a3 ≤ 2000 ∨ 0 = 0; omega) (by show 0 ≤ 2000; omega) (by omega)
def as_G_X11_alone : Int × Int × Int × Int → List Sv_t := fun a => [(42, 86), (0, a.1), (0, a.2.1), (0, a.2.2.1), (0, a.2.2.2)]
def pre_G_X11_alone : Int × Int × Int × Int → Me_t → Prop := fun a σ => (MI σ)
def post_G_X11_alone : Int × Int × Int × Int → Me_t → Int → Me_t → Prop := fun a σ z σ' => (∀ k j : Int, ¬ (93 ≤ k ∧ k ≤ 96) → σ' k j = σ k j)
set_option maxHeartbeats 1500000 in
set_option maxRecDepth 100000 in
theorem ct_G_X11_alone (l : Launch) : CT_ l yX11_alone cX11_alone 5 (some .int) 4 92 as_G_X11_alone (rmI_) pre_G_X11_alone post_G_X11_alone := by
  refine ct_of (by decide) (fun _ => Nat.le_of_ble_eq_true rfl) ?_
  intro X G Q ad σ a hl hR E hG R hM hv hp
  obtain ⟨a1, a2, a3, a4⟩ := a
  have r_a1 : -2147483648 ≤ a1 ∧ a1 ≤ 2147483647 := hv (0, a1) (List.mem_of_getElem? (i := 1) rfl)
  have r_a2 : -2147483648 ≤ a2 ∧ a2 ≤ 2147483647 := hv (0, a2) (List.mem_of_getElem? (i := 2) rfl)
  have r_a3 : -2147483648 ≤ a3 ∧ a3 ≤ 2147483647 := hv (0, a3) (List.mem_of_getElem? (i := 3) rfl)
  have r_a4 : -2147483648 ≤ a4 ∧ a4 ≤ 2147483647 := hv (0, a4) (List.mem_of_getElem? (i := 4) rfl)
  have hp0 : MI σ := hp
  have B := @bk_ X G Q 0 0 ad SHS_ RX11 cX11_alone 5 (some .int) flX11 plX11 knX11 [(630, 3, TR_ as_G_X11_areTwo (rmI_) pre_G_X11_areTwo post_G_X11_areTwo), (593, 2, TR_ as_G_X11_isSpan (rmI_) pre_G_X11_isSpan post_G_X11_isSpan), (538, 1, TR_ as_G_X11_lay (rmV_) pre_G_X11_lay post_G_X11_lay), (830, 5, TR_ as_G_X11_aloneOf (rmI_) pre_G_X11_aloneOf post_G_X11_aloneOf)] _ _ none kX11_alone [] flX11_ok plX11_ok knX11_ok eX11_alone oX11_alone
    (List.forall_mem_cons.mpr ⟨cok_v (t := 32) (c := 11) (N := 39) (n := 2) (idx := 315) E (ct_G_X11_areTwo X.2.1) (by rw [hR]; decide) (Nat.zero_le _) (Nat.zero_le _) hG rfl rfl ⟨rfl, by decide, by decide, by decide⟩ (fun _ => ⟨_, _, rfl, rfl⟩) wl_X11_315 wi_X11_areTwo ws_X11_areTwo wn_X11 wc_X11_areTwo, List.forall_mem_cons.mpr ⟨cok_s (n := 2) (idx := 296) E (ct_G_X11_isSpan X.2.1) (by rw [hR]; decide) (Nat.zero_le _) (Nat.zero_le _) hG ⟨by decide, by decide, by decide⟩ (fun _ => rfl) wl_X11_296 wt_X11_isSpan wn_X11 wc_X11_isSpan, List.forall_mem_cons.mpr ⟨cok_v (t := 32) (c := 11) (N := 39) (n := 0) (idx := 269) E (ct_G_X11_lay X.2.1) (by rw [hR]; decide) (Nat.zero_le _) (Nat.zero_le _) hG rfl rfl ⟨rfl, by decide, by decide, by decide⟩ (fun _ => ⟨_, _, rfl, rfl⟩) wl_X11_269 wi_X11_lay ws_X11_lay wn_X11 wc_X11_lay, List.forall_mem_cons.mpr ⟨cok_v (t := 32) (c := 11) (N := 39) (n := 4) (idx := 415) E (ct_G_X11_aloneOf X.2.1) (by rw [hR]; decide) (Nat.zero_le _) (Nat.zero_le _) hG rfl rfl ⟨rfl, by decide, by decide, by decide⟩ (fun _ => ⟨_, _, rfl, rfl⟩) wl_X11_415 wi_X11_aloneOf ws_X11_aloneOf wn_X11 wc_X11_aloneOf, fun _ h => absurd h List.not_mem_nil⟩⟩⟩⟩) R sok_no E
  show WP_ X G Q 0 0 ad SHS_ σ 0 [(42, 86), (0, a1), (0, a2), (0, a3), (0, a4)] []
  refine B rfl ?_
  have p1 : BW σ 87 := (hp0).1.1
  refine Exists.intro (a1, a2) (And.intro rfl (And.intro p1 ?_))
  rintro z2 m_ h3
  obtain rfl : σ = m_ := h3.2
  have h4 : (z2 = 1 ∧ 0 ≤ a1 ∧ a1 ≤ 2 ∧ a1 < σ 87 1 ∧ 0 ≤ a2 ∧ a2 ≤ 2 ∧ a2 < σ 87 1 ∧ a1 ≠ a2) ∨ z2 = 0 := h3.1
  refine And.intro (fun h5 => ?_) (fun h5 => ?_)
  · skip
    refine B rfl ?_
    refine Exists.intro _ (And.intro rfl ?_)
    exact (fun k j hk => rfl)
  · skip
    refine Exists.intro (a3, a4) (And.intro rfl (And.intro True.intro ?_))
    rintro z6 m_ h7
    obtain rfl : σ = m_ := h7.2
    have h8 : (z6 = 1 ∧ 0 ≤ a3 ∧ a3 ≤ a4 ∧ a4 ≤ 1999) ∨ z6 = 0 := h7.1
    refine And.intro (fun h9 => ?_) (fun h9 => ?_)
    · skip
      refine B rfl ?_
      refine Exists.intro () (And.intro rfl (And.intro hp0 ?_))
      intro z10 σ12 h11
      have f13 : ∀ k j : Int, ¬ (93 ≤ k ∧ k ≤ 96) → σ12 k j = σ k j := h11.2
      have h14 : LY σ12 := h11.1
      refine Exists.intro (a1, a2, a3, a4) (And.intro rfl (And.intro (And.intro (by show 0 ≤ a1; omega) (And.intro (by show a1 ≤ 2; omega) (And.intro (by show 0 ≤ a2; omega) (And.intro (by show a2 ≤ 2; omega) (And.intro (by show 0 ≤ a3; omega) (by show a3 ≤ 4000; omega)))))) ?_))
      rintro z15 m_ h16
      obtain rfl : σ12 = m_ := h16.2
      have h17 : 0 ≤ z15 ∧ z15 ≤ 2000 := h16.1
      refine Exists.intro _ (And.intro rfl ?_)
      exact (fun k j hk => (f13 _ _ (by omega)))
    · skip
      refine Exists.intro _ (And.intro rfl ?_)
      exact (fun k j hk => rfl)
def as_G_X11_beginOf : Int × Int × Int × Int × Int → List Sv_t := fun a => [(42, 86), (0, a.1), (0, a.2.1), (0, a.2.2.1), (0, a.2.2.2.1), (0, a.2.2.2.2)]
def pre_G_X11_beginOf : Int × Int × Int × Int × Int → Me_t → Prop := fun a σ => (MI σ) ∧ (0 ≤ a.1) ∧ (a.1 ≤ 2) ∧ (0 ≤ a.2.1) ∧ (a.2.1 ≤ 2) ∧ (0 ≤ a.2.2.1) ∧ (a.2.2.1 ≤ a.2.2.2.1) ∧ (a.2.2.2.1 ≤ 1999) ∧ (1 ≤ a.2.2.2.2) ∧ (a.2.2.2.2 ≤ 200)
def post_G_X11_beginOf : Int × Int × Int × Int × Int → Me_t → Int → Me_t → Prop := fun a σ z σ' => (∀ k j : Int, ¬ (k = 86 ∨ (93 ≤ k ∧ k ≤ 96)) → σ' k j = σ k j)
set_option maxHeartbeats 1500000 in
set_option maxRecDepth 100000 in
theorem ct_G_X11_beginOf (l : Launch) : CT_ l yX11_beginOf cX11_beginOf 9 (some .int) 4 92 as_G_X11_beginOf (rmI_) pre_G_X11_beginOf post_G_X11_beginOf := by
  refine ct_of (by decide) (fun _ => Nat.le_of_ble_eq_true rfl) ?_
  intro X G Q ad σ a hl hR E hG R hM hv hp
  obtain ⟨a1, a2, a3, a4, a5⟩ := a
  have r_a1 : -2147483648 ≤ a1 ∧ a1 ≤ 2147483647 := hv (0, a1) (List.mem_of_getElem? (i := 1) rfl)
  have r_a2 : -2147483648 ≤ a2 ∧ a2 ≤ 2147483647 := hv (0, a2) (List.mem_of_getElem? (i := 2) rfl)
  have r_a3 : -2147483648 ≤ a3 ∧ a3 ≤ 2147483647 := hv (0, a3) (List.mem_of_getElem? (i := 3) rfl)
  have r_a4 : -2147483648 ≤ a4 ∧ a4 ≤ 2147483647 := hv (0, a4) (List.mem_of_getElem? (i := 4) rfl)
  have r_a5 : -2147483648 ≤ a5 ∧ a5 ≤ 2147483647 := hv (0, a5) (List.mem_of_getElem? (i := 5) rfl)
  have hp0 : MI σ := hp.1
  have hp1 : 0 ≤ a1 := hp.2.1
  have hp2 : a1 ≤ 2 := hp.2.2.1
  have hp3 : 0 ≤ a2 := hp.2.2.2.1
  have hp4 : a2 ≤ 2 := hp.2.2.2.2.1
  have hp5 : 0 ≤ a3 := hp.2.2.2.2.2.1
  have hp6 : a3 ≤ a4 := hp.2.2.2.2.2.2.1
  have hp7 : a4 ≤ 1999 := hp.2.2.2.2.2.2.2.1
  have hp8 : 1 ≤ a5 := hp.2.2.2.2.2.2.2.2.1
  have hp9 : a5 ≤ 200 := hp.2.2.2.2.2.2.2.2.2
  have B := @bk_ X G Q 0 0 ad SHS_ RX11 cX11_beginOf 9 (some .int) flX11 plX11 knX11 [(538, 1, TR_ as_G_X11_lay (rmV_) pre_G_X11_lay post_G_X11_lay), (830, 5, TR_ as_G_X11_aloneOf (rmI_) pre_G_X11_aloneOf post_G_X11_aloneOf)] _ _ none kX11_beginOf [35, 42, 91] flX11_ok plX11_ok knX11_ok eX11_beginOf oX11_beginOf
    (List.forall_mem_cons.mpr ⟨cok_v (t := 32) (c := 11) (N := 39) (n := 0) (idx := 269) E (ct_G_X11_lay X.2.1) (by rw [hR]; decide) (Nat.zero_le _) (Nat.zero_le _) hG rfl rfl ⟨rfl, by decide, by decide, by decide⟩ (fun _ => ⟨_, _, rfl, rfl⟩) wl_X11_269 wi_X11_lay ws_X11_lay wn_X11 wc_X11_lay, List.forall_mem_cons.mpr ⟨cok_v (t := 32) (c := 11) (N := 39) (n := 4) (idx := 415) E (ct_G_X11_aloneOf X.2.1) (by rw [hR]; decide) (Nat.zero_le _) (Nat.zero_le _) hG rfl rfl ⟨rfl, by decide, by decide, by decide⟩ (fun _ => ⟨_, _, rfl, rfl⟩) wl_X11_415 wi_X11_aloneOf ws_X11_aloneOf wn_X11 wc_X11_aloneOf, fun _ h => absurd h List.not_mem_nil⟩⟩) R sok_no E
  show WP_ X G Q 0 0 ad SHS_ σ 0 [(42, 86), (0, a1), (0, a2), (0, a3), (0, a4), (0, a5), (9, 0), (9, 0), (9, 0)] []
  refine B rfl ?_
  refine Exists.intro () (And.intro rfl (And.intro hp0 ?_))
  intro z1 σ3 h2
  have f4 : ∀ k j : Int, ¬ (93 ≤ k ∧ k ≤ 96) → σ3 k j = σ k j := h2.2
  have h5 : LY σ3 := h2.1
  refine And.intro (by omega) ?_
  refine And.intro (by omega) ?_
  refine Exists.intro (a1, a2, a3, (a3 + a5) - 1) (And.intro rfl (And.intro (And.intro (by show 0 ≤ a1; omega) (And.intro (by show a1 ≤ 2; omega) (And.intro (by show 0 ≤ a2; omega) (And.intro (by show a2 ≤ 2; omega) (And.intro (by show 0 ≤ a3; omega) (by show a3 ≤ 4000; omega)))))) ?_))
  rintro z6 m_ h7
  obtain rfl : σ3 = m_ := h7.2
  have h8 : 0 ≤ z6 ∧ z6 ≤ 2000 := h7.1
  intro σ9 e10
  intro z11 ez11 hz11
  have hz11 : ((-2147483648) : Int) ≤ z11 ∧ z11 ≤ (2147483647 : Int) := rgl_ hz11 (by decide +kernel) (by decide +kernel) (by decide +kernel)
  have t12 : σ9 86 28 = z6 := ups_v e10
  refine And.intro (by omega) ?_
  show WP_ X G Q 0 0 ad SHS_ σ9 35 [(42, 86), (0, a1), (0, a2), (0, a3), (0, a4), (0, a5), (0, a3), (0, z11), (0, a3 + 1)] []
  refine wdrop_ (L' := [(42, 86), (0, a1), (0, a2), (9, 0), (0, a4), (0, a5), (0, a3), (0, z11), (0, a3 + 1)]) ⟨Or.inr rfl, ⟨Or.inr rfl, ⟨Or.inr rfl, ⟨Or.inl rfl, ⟨Or.inr rfl, ⟨Or.inr rfl, ⟨Or.inr rfl, ⟨Or.inr rfl, ⟨Or.inr rfl, trivial⟩⟩⟩⟩⟩⟩⟩⟩⟩ ?_
  have lp_35 : ∀ (nq_ : Nat) (v6 : Int) (v7 : Int) (v8 : Int) (τ35 : Me_t), (∀ k j : Int, ¬ (k = 86 ∨ (93 ≤ k ∧ k ≤ 96)) → τ35 k j = σ k j) → (a3 + 1 ≤ v8) → (v8 ≤ a4 + 1) → (-2000 * v8 ≤ v7) → (v7 ≤ 2000 + 2000 * v8) → (a4 + 1 - v8 : Int).toNat < nq_ → WP_ X G Q 0 0 ad SHS_ τ35 35 [(42, 86), (0, a1), (0, a2), (9, 0), (0, a4), (0, a5), (0, v6), (0, v7), (0, v8)] [] := by
    intro nq_
    induction nq_ with
    | zero => intros; omega
    | succ nq_ ih_35 =>
      intro v6 v7 v8 τ35 hf35 hi35_0 hi35_1 hi35_2 hi35_3 hm35
      refine B rfl ?_
      refine And.intro (fun h13 => ?_) (fun h13 => ?_)
      · skip
        refine B rfl ?_
        refine Exists.intro _ (And.intro rfl ?_)
        exact (fun k j hk => (hf35 _ _ (by omega)))
      · skip
        show WP_ X G Q 0 0 ad SHS_ τ35 42 [(42, 86), (0, a1), (0, a2), (9, 0), (0, a4), (0, a5), (0, v6), (0, v7), (0, v8)] []
        refine B rfl ?_
        refine And.intro (by omega) ?_
        refine And.intro (by omega) ?_
        refine And.intro (by omega) ?_
        refine And.intro (by omega) ?_
        refine Exists.intro (a1, a2, (v8 + a5) - 1, (v8 + a5) - 1) (And.intro rfl (And.intro (And.intro (by show 0 ≤ a1; omega) (And.intro (by show a1 ≤ 2; omega) (And.intro (by show 0 ≤ a2; omega) (And.intro (by show a2 ≤ 2; omega) (And.intro (by show 0 ≤ ((v8 + a5) - 1); omega) (by show ((v8 + a5) - 1) ≤ 4000; omega)))))) ?_))
        rintro z14 m_ h15
        obtain rfl : τ35 = m_ := h15.2
        have h16 : 0 ≤ z14 ∧ z14 ≤ 2000 := h15.1
        refine And.intro (by omega) ?_
        refine And.intro (by omega) ?_
        refine Exists.intro (a1, a2, v8 - 1, v8 - 1) (And.intro rfl (And.intro (And.intro (by show 0 ≤ a1; omega) (And.intro (by show a1 ≤ 2; omega) (And.intro (by show 0 ≤ a2; omega) (And.intro (by show a2 ≤ 2; omega) (And.intro (by show 0 ≤ (v8 - 1); omega) (by show (v8 - 1) ≤ 4000; omega)))))) ?_))
        rintro z17 m_ h18
        obtain rfl : τ35 = m_ := h18.2
        have h19 : 0 ≤ z17 ∧ z17 ≤ 2000 := h18.1
        refine And.intro (by omega) ?_
        refine And.intro (by omega) ?_
        intro z20 ez20 hz20
        have hz20 : ((-2147483648) : Int) ≤ z20 ∧ z20 ≤ (2147483647 : Int) := rgl_ hz20 (by decide +kernel) (by decide +kernel) (by decide +kernel)
        try have t21 : τ35 86 28 = σ 86 28 := (hf35 _ _ (by omega))
        refine And.intro (fun h22 => ?_) (fun h22 => ?_)
        · skip
          refine B rfl ?_
          intro σ23 e24
          refine And.intro (by omega) ?_
          exact ih_35 v8 (v7 + (z14 - z17)) (v8 + 1) σ23 (fun k j hk => ((ups_r e24 (by omega)).trans (hf35 _ _ (by omega)))) (by show a3 + 1 ≤ (v8 + 1); omega) (by show (v8 + 1) ≤ a4 + 1; omega) (by show -2000 * (v8 + 1) ≤ (v7 + (z14 - z17)); omega) (by show (v7 + (z14 - z17)) ≤ 2000 + 2000 * (v8 + 1); omega) (by omega)
        · skip
          show WP_ X G Q 0 0 ad SHS_ τ35 91 [(42, 86), (0, a1), (0, a2), (9, 0), (0, a4), (0, a5), (0, v6), (0, v7 + (z14 - z17)), (0, v8)] []
          refine B rfl ?_
          refine B rfl ?_
          refine And.intro (by omega) ?_
          exact ih_35 v6 (v7 + (z14 - z17)) (v8 + 1) τ35 (fun k j hk => (hf35 _ _ (by omega))) (by show a3 + 1 ≤ (v8 + 1); omega) (by show (v8 + 1) ≤ a4 + 1; omega) (by show -2000 * (v8 + 1) ≤ (v7 + (z14 - z17)); omega) (by show (v7 + (z14 - z17)) ≤ 2000 + 2000 * (v8 + 1); omega) (by omega)
  exact lp_35 ((a4 + 1 - (a3 + 1) : Int).toNat + 1) a3 z11 (a3 + 1) σ9 (fun k j hk => ((ups_r e10 (by omega)).trans (f4 _ _ (by omega)))) (by show a3 + 1 ≤ (a3 + 1); omega) (by show (a3 + 1) ≤ a4 + 1; omega) (by show -2000 * (a3 + 1) ≤ z11; omega) (by show z11 ≤ 2000 + 2000 * (a3 + 1); omega) (by omega)
def as_G_X11_isBegin : Int × Int × Int × Int × Int → List Sv_t := fun a => [(42, 86), (0, a.1), (0, a.2.1), (0, a.2.2.1), (0, a.2.2.2.1), (0, a.2.2.2.2)]
def pre_G_X11_isBegin : Int × Int × Int × Int × Int → Me_t → Prop := fun a σ => (BW σ 87)
def post_G_X11_isBegin : Int × Int × Int × Int × Int → Me_t → Int → Me_t → Prop := fun a σ z σ' => ((z = 1 ∧ 0 ≤ a.1 ∧ a.1 ≤ 2 ∧ 0 ≤ a.2.1 ∧ a.2.1 ≤ 2 ∧ a.1 ≠ a.2.1 ∧ 0 ≤ a.2.2.1 ∧ a.2.2.1 ≤ a.2.2.2.1 ∧ a.2.2.2.1 ≤ 1999 ∧ 1 ≤ a.2.2.2.2 ∧ a.2.2.2.2 ≤ 200) ∨ z = 0) ∧ (σ = σ')
set_option maxHeartbeats 1500000 in
set_option maxRecDepth 100000 in
theorem ct_G_X11_isBegin (l : Launch) : CT_ l yX11_isBegin cX11_isBegin 6 (some .boolean) 3 69 as_G_X11_isBegin (rmI_) pre_G_X11_isBegin post_G_X11_isBegin := by
  refine ct_of (by decide) (fun _ => Nat.le_of_ble_eq_true rfl) ?_
  intro X G Q ad σ a hl hR E hG R hM hv hp
  obtain ⟨a1, a2, a3, a4, a5⟩ := a
  have r_a1 : -2147483648 ≤ a1 ∧ a1 ≤ 2147483647 := hv (0, a1) (List.mem_of_getElem? (i := 1) rfl)
  have r_a2 : -2147483648 ≤ a2 ∧ a2 ≤ 2147483647 := hv (0, a2) (List.mem_of_getElem? (i := 2) rfl)
  have r_a3 : -2147483648 ≤ a3 ∧ a3 ≤ 2147483647 := hv (0, a3) (List.mem_of_getElem? (i := 3) rfl)
  have r_a4 : -2147483648 ≤ a4 ∧ a4 ≤ 2147483647 := hv (0, a4) (List.mem_of_getElem? (i := 4) rfl)
  have r_a5 : -2147483648 ≤ a5 ∧ a5 ≤ 2147483647 := hv (0, a5) (List.mem_of_getElem? (i := 5) rfl)
  have hp0 : BW σ 87 := hp
  have B := @bk_ X G Q 0 0 ad SHS_ RX11 cX11_isBegin 6 (some .boolean) flX11 plX11 knX11 [(630, 3, TR_ as_G_X11_areTwo (rmI_) pre_G_X11_areTwo post_G_X11_areTwo), (593, 2, TR_ as_G_X11_isSpan (rmI_) pre_G_X11_isSpan post_G_X11_isSpan), (159, 3, TR_ as_G_X11_in (rmI_) pre_G_X11_in post_G_X11_in)] _ _ none kX11_isBegin [] flX11_ok plX11_ok knX11_ok eX11_isBegin oX11_isBegin
    (List.forall_mem_cons.mpr ⟨cok_v (t := 32) (c := 11) (N := 39) (n := 2) (idx := 315) E (ct_G_X11_areTwo X.2.1) (by rw [hR]; decide) (Nat.zero_le _) (Nat.zero_le _) hG rfl rfl ⟨rfl, by decide, by decide, by decide⟩ (fun _ => ⟨_, _, rfl, rfl⟩) wl_X11_315 wi_X11_areTwo ws_X11_areTwo wn_X11 wc_X11_areTwo, List.forall_mem_cons.mpr ⟨cok_s (n := 2) (idx := 296) E (ct_G_X11_isSpan X.2.1) (by rw [hR]; decide) (Nat.zero_le _) (Nat.zero_le _) hG ⟨by decide, by decide, by decide⟩ (fun _ => rfl) wl_X11_296 wt_X11_isSpan wn_X11 wc_X11_isSpan, List.forall_mem_cons.mpr ⟨cok_s (n := 3) (idx := 79) E (ct_G_X11_in X.2.1) (by rw [hR]; decide) (Nat.zero_le _) (Nat.zero_le _) hG ⟨by decide, by decide, by decide⟩ (fun _ => rfl) wl_X11_79 wt_X11_in wn_X11 wc_X11_in, fun _ h => absurd h List.not_mem_nil⟩⟩⟩) R sok_no E
  show WP_ X G Q 0 0 ad SHS_ σ 0 [(42, 86), (0, a1), (0, a2), (0, a3), (0, a4), (0, a5)] []
  refine B rfl ?_
  refine Exists.intro (a1, a2) (And.intro rfl (And.intro hp0 ?_))
  rintro z1 m_ h2
  obtain rfl : σ = m_ := h2.2
  have h3 : (z1 = 1 ∧ 0 ≤ a1 ∧ a1 ≤ 2 ∧ a1 < σ 87 1 ∧ 0 ≤ a2 ∧ a2 ≤ 2 ∧ a2 < σ 87 1 ∧ a1 ≠ a2) ∨ z1 = 0 := h2.1
  refine And.intro (fun h4 => ?_) (fun h4 => ?_)
  · skip
    refine B rfl ?_
    refine And.intro (by omega) ?_
    refine Exists.intro _ (And.intro rfl ?_)
    exact (And.intro (by show (0 = 1 ∧ 0 ≤ a1 ∧ a1 ≤ 2 ∧ 0 ≤ a2 ∧ a2 ≤ 2 ∧ a1 ≠ a2 ∧ 0 ≤ a3 ∧ a3 ≤ a4 ∧ a4 ≤ 1999 ∧ 1 ≤ a5 ∧ a5 ≤ 200) ∨ 0 = 0; omega) rfl)
  · skip
    refine Exists.intro (a3, a4) (And.intro rfl (And.intro True.intro ?_))
    rintro z5 m_ h6
    obtain rfl : σ = m_ := h6.2
    have h7 : (z5 = 1 ∧ 0 ≤ a3 ∧ a3 ≤ a4 ∧ a4 ≤ 1999) ∨ z5 = 0 := h6.1
    refine And.intro (fun h8 => ?_) (fun h8 => ?_)
    · skip
      refine B rfl ?_
      refine And.intro (by omega) ?_
      refine Exists.intro _ (And.intro rfl ?_)
      exact (And.intro (by show (0 = 1 ∧ 0 ≤ a1 ∧ a1 ≤ 2 ∧ 0 ≤ a2 ∧ a2 ≤ 2 ∧ a1 ≠ a2 ∧ 0 ≤ a3 ∧ a3 ≤ a4 ∧ a4 ≤ 1999 ∧ 1 ≤ a5 ∧ a5 ≤ 200) ∨ 0 = 0; omega) rfl)
    · skip
      refine Exists.intro (a5, 1, 200) (And.intro rfl (And.intro True.intro ?_))
      rintro z9 m_ h10
      obtain rfl : σ = m_ := h10.2
      have h11 : (z9 = 1 ∧ 1 ≤ a5 ∧ a5 ≤ 200) ∨ (z9 = 0 ∧ ¬ (1 ≤ a5 ∧ a5 ≤ 200)) := h10.1
      refine And.intro (fun h12 => ?_) (fun h12 => ?_)
      · skip
        refine B rfl ?_
        refine And.intro (by omega) ?_
        refine Exists.intro _ (And.intro rfl ?_)
        exact (And.intro (by show (0 = 1 ∧ 0 ≤ a1 ∧ a1 ≤ 2 ∧ 0 ≤ a2 ∧ a2 ≤ 2 ∧ a1 ≠ a2 ∧ 0 ≤ a3 ∧ a3 ≤ a4 ∧ a4 ≤ 1999 ∧ 1 ≤ a5 ∧ a5 ≤ 200) ∨ 0 = 0; omega) rfl)
      · skip
        refine B rfl ?_
        refine And.intro (by omega) ?_
        refine Exists.intro _ (And.intro rfl ?_)
        exact (And.intro (by show (1 = 1 ∧ 0 ≤ a1 ∧ a1 ≤ 2 ∧ 0 ≤ a2 ∧ a2 ≤ 2 ∧ a1 ≠ a2 ∧ 0 ≤ a3 ∧ a3 ≤ a4 ∧ a4 ≤ 1999 ∧ 1 ≤ a5 ∧ a5 ≤ 200) ∨ 1 = 0; omega) rfl)
def as_G_X11_begin : Int × Int × Int × Int × Int → List Sv_t := fun a => [(42, 86), (0, a.1), (0, a.2.1), (0, a.2.2.1), (0, a.2.2.2.1), (0, a.2.2.2.2)]
def pre_G_X11_begin : Int × Int × Int × Int × Int → Me_t → Prop := fun a σ => (MI σ)
def post_G_X11_begin : Int × Int × Int × Int × Int → Me_t → Int → Me_t → Prop := fun a σ z σ' => (∀ k j : Int, ¬ (k = 86 ∨ (93 ≤ k ∧ k ≤ 96)) → σ' k j = σ k j)
set_option maxHeartbeats 1500000 in
set_option maxRecDepth 100000 in
theorem ct_G_X11_begin (l : Launch) : CT_ l yX11_begin cX11_begin 6 (some .int) 5 120 as_G_X11_begin (rmI_) pre_G_X11_begin post_G_X11_begin := by
  refine ct_of (by decide) (fun _ => Nat.le_of_ble_eq_true rfl) ?_
  intro X G Q ad σ a hl hR E hG R hM hv hp
  obtain ⟨a1, a2, a3, a4, a5⟩ := a
  have r_a1 : -2147483648 ≤ a1 ∧ a1 ≤ 2147483647 := hv (0, a1) (List.mem_of_getElem? (i := 1) rfl)
  have r_a2 : -2147483648 ≤ a2 ∧ a2 ≤ 2147483647 := hv (0, a2) (List.mem_of_getElem? (i := 2) rfl)
  have r_a3 : -2147483648 ≤ a3 ∧ a3 ≤ 2147483647 := hv (0, a3) (List.mem_of_getElem? (i := 3) rfl)
  have r_a4 : -2147483648 ≤ a4 ∧ a4 ≤ 2147483647 := hv (0, a4) (List.mem_of_getElem? (i := 4) rfl)
  have r_a5 : -2147483648 ≤ a5 ∧ a5 ≤ 2147483647 := hv (0, a5) (List.mem_of_getElem? (i := 5) rfl)
  have hp0 : MI σ := hp
  have B := @bk_ X G Q 0 0 ad SHS_ RX11 cX11_begin 6 (some .int) flX11 plX11 knX11 [(846, 6, TR_ as_G_X11_isBegin (rmI_) pre_G_X11_isBegin post_G_X11_isBegin), (852, 6, TR_ as_G_X11_beginOf (rmI_) pre_G_X11_beginOf post_G_X11_beginOf)] _ _ none kX11_begin [] flX11_ok plX11_ok knX11_ok eX11_begin oX11_begin
    (List.forall_mem_cons.mpr ⟨cok_v (t := 32) (c := 11) (N := 39) (n := 5) (idx := 423) E (ct_G_X11_isBegin X.2.1) (by rw [hR]; decide) (Nat.zero_le _) (Nat.zero_le _) hG rfl rfl ⟨rfl, by decide, by decide, by decide⟩ (fun _ => ⟨_, _, rfl, rfl⟩) wl_X11_423 wi_X11_isBegin ws_X11_isBegin wn_X11 wc_X11_isBegin, List.forall_mem_cons.mpr ⟨cok_v (t := 32) (c := 11) (N := 39) (n := 5) (idx := 426) E (ct_G_X11_beginOf X.2.1) (by rw [hR]; decide) (Nat.zero_le _) (Nat.zero_le _) hG rfl rfl ⟨rfl, by decide, by decide, by decide⟩ (fun _ => ⟨_, _, rfl, rfl⟩) wl_X11_426 wi_X11_beginOf ws_X11_beginOf wn_X11 wc_X11_beginOf, fun _ h => absurd h List.not_mem_nil⟩⟩) R sok_no E
  show WP_ X G Q 0 0 ad SHS_ σ 0 [(42, 86), (0, a1), (0, a2), (0, a3), (0, a4), (0, a5)] []
  refine B rfl ?_
  have p1 : BW σ 87 := (hp0).1.1
  refine Exists.intro (a1, a2, a3, a4, a5) (And.intro rfl (And.intro p1 ?_))
  rintro z2 m_ h3
  obtain rfl : σ = m_ := h3.2
  have h4 : (z2 = 1 ∧ 0 ≤ a1 ∧ a1 ≤ 2 ∧ 0 ≤ a2 ∧ a2 ≤ 2 ∧ a1 ≠ a2 ∧ 0 ≤ a3 ∧ a3 ≤ a4 ∧ a4 ≤ 1999 ∧ 1 ≤ a5 ∧ a5 ≤ 200) ∨ z2 = 0 := h3.1
  refine And.intro (fun h5 => ?_) (fun h5 => ?_)
  · skip
    refine B rfl ?_
    refine Exists.intro _ (And.intro rfl ?_)
    exact (fun k j hk => rfl)
  · skip
    refine Exists.intro (a1, a2, a3, a4, a5) (And.intro rfl (And.intro (And.intro hp0 (And.intro (by show 0 ≤ a1; omega) (And.intro (by show a1 ≤ 2; omega) (And.intro (by show 0 ≤ a2; omega) (And.intro (by show a2 ≤ 2; omega) (And.intro (by show 0 ≤ a3; omega) (And.intro (by show a3 ≤ a4; omega) (And.intro (by show a4 ≤ 1999; omega) (And.intro (by show 1 ≤ a5; omega) (by show a5 ≤ 200; omega)))))))))) ?_))
    intro z6 σ8 h7
    have f9 : ∀ k j : Int, ¬ (k = 86 ∨ (93 ≤ k ∧ k ≤ 96)) → σ8 k j = σ k j := h7
    refine B rfl ?_
    refine Exists.intro _ (And.intro rfl ?_)
    exact (fun k j hk => (f9 _ _ (by omega)))
def as_G_X11_begins : Int × Int × Int × Int × Int → List Sv_t := fun a => [(42, 86), (0, a.1), (0, a.2.1), (0, a.2.2.1), (0, a.2.2.2.1), (0, a.2.2.2.2)]
def pre_G_X11_begins : Int × Int × Int × Int × Int → Me_t → Prop := fun a σ => (MI σ)
def post_G_X11_begins : Int × Int × Int × Int × Int → Me_t → Int → Me_t → Prop := fun a σ z σ' => (∀ k j : Int, ¬ (k = 86 ∨ (93 ≤ k ∧ k ≤ 96)) → σ' k j = σ k j)
set_option maxHeartbeats 1500000 in
set_option maxRecDepth 100000 in
theorem ct_G_X11_begins (l : Launch) : CT_ l yX11_begins cX11_begins 6 (some .int) 5 120 as_G_X11_begins (rmI_) pre_G_X11_begins post_G_X11_begins := by
  refine ct_of (by decide) (fun _ => Nat.le_of_ble_eq_true rfl) ?_
  intro X G Q ad σ a hl hR E hG R hM hv hp
  obtain ⟨a1, a2, a3, a4, a5⟩ := a
  have r_a1 : -2147483648 ≤ a1 ∧ a1 ≤ 2147483647 := hv (0, a1) (List.mem_of_getElem? (i := 1) rfl)
  have r_a2 : -2147483648 ≤ a2 ∧ a2 ≤ 2147483647 := hv (0, a2) (List.mem_of_getElem? (i := 2) rfl)
  have r_a3 : -2147483648 ≤ a3 ∧ a3 ≤ 2147483647 := hv (0, a3) (List.mem_of_getElem? (i := 3) rfl)
  have r_a4 : -2147483648 ≤ a4 ∧ a4 ≤ 2147483647 := hv (0, a4) (List.mem_of_getElem? (i := 4) rfl)
  have r_a5 : -2147483648 ≤ a5 ∧ a5 ≤ 2147483647 := hv (0, a5) (List.mem_of_getElem? (i := 5) rfl)
  have hp0 : MI σ := hp
  have B := @bk_ X G Q 0 0 ad SHS_ RX11 cX11_begins 6 (some .int) flX11 plX11 knX11 [(846, 6, TR_ as_G_X11_isBegin (rmI_) pre_G_X11_isBegin post_G_X11_isBegin), (852, 6, TR_ as_G_X11_beginOf (rmI_) pre_G_X11_beginOf post_G_X11_beginOf)] _ _ none kX11_begins [] flX11_ok plX11_ok knX11_ok eX11_begins oX11_begins
    (List.forall_mem_cons.mpr ⟨cok_v (t := 32) (c := 11) (N := 39) (n := 5) (idx := 423) E (ct_G_X11_isBegin X.2.1) (by rw [hR]; decide) (Nat.zero_le _) (Nat.zero_le _) hG rfl rfl ⟨rfl, by decide, by decide, by decide⟩ (fun _ => ⟨_, _, rfl, rfl⟩) wl_X11_423 wi_X11_isBegin ws_X11_isBegin wn_X11 wc_X11_isBegin, List.forall_mem_cons.mpr ⟨cok_v (t := 32) (c := 11) (N := 39) (n := 5) (idx := 426) E (ct_G_X11_beginOf X.2.1) (by rw [hR]; decide) (Nat.zero_le _) (Nat.zero_le _) hG rfl rfl ⟨rfl, by decide, by decide, by decide⟩ (fun _ => ⟨_, _, rfl, rfl⟩) wl_X11_426 wi_X11_beginOf ws_X11_beginOf wn_X11 wc_X11_beginOf, fun _ h => absurd h List.not_mem_nil⟩⟩) R sok_no E
  show WP_ X G Q 0 0 ad SHS_ σ 0 [(42, 86), (0, a1), (0, a2), (0, a3), (0, a4), (0, a5)] []
  refine B rfl ?_
  have p1 : BW σ 87 := (hp0).1.1
  refine Exists.intro (a1, a2, a3, a4, a5) (And.intro rfl (And.intro p1 ?_))
  rintro z2 m_ h3
  obtain rfl : σ = m_ := h3.2
  have h4 : (z2 = 1 ∧ 0 ≤ a1 ∧ a1 ≤ 2 ∧ 0 ≤ a2 ∧ a2 ≤ 2 ∧ a1 ≠ a2 ∧ 0 ≤ a3 ∧ a3 ≤ a4 ∧ a4 ≤ 1999 ∧ 1 ≤ a5 ∧ a5 ≤ 200) ∨ z2 = 0 := h3.1
  refine And.intro (fun h5 => ?_) (fun h5 => ?_)
  · skip
    refine B rfl ?_
    refine Exists.intro (a1, a2, a3, a4, a5) (And.intro rfl (And.intro (And.intro hp0 (And.intro (by show 0 ≤ a1; omega) (And.intro (by show a1 ≤ 2; omega) (And.intro (by show 0 ≤ a2; omega) (And.intro (by show a2 ≤ 2; omega) (And.intro (by show 0 ≤ a3; omega) (And.intro (by show a3 ≤ a4; omega) (And.intro (by show a4 ≤ 1999; omega) (And.intro (by show 1 ≤ a5; omega) (by show a5 ≤ 200; omega)))))))))) ?_))
    intro z6 σ8 h7
    have f9 : ∀ k j : Int, ¬ (k = 86 ∨ (93 ≤ k ∧ k ≤ 96)) → σ8 k j = σ k j := h7
    intro z10 ez10 hz10
    have hz10 : ((-2147483648) : Int) ≤ z10 ∧ z10 ≤ (2147483647 : Int) := rgl_ hz10 (by decide +kernel) (by decide +kernel) (by decide +kernel)
    try have t11 : σ8 86 28 = σ 86 28 := (f9 _ _ (by omega))
    refine Exists.intro _ (And.intro rfl ?_)
    exact (fun k j hk => (f9 _ _ (by omega)))
  · skip
    refine Exists.intro _ (And.intro rfl ?_)
    exact (fun k j hk => rfl)
def as_G_X11_rank : Int × Int → List Sv_t := fun a => [(0, a.1), (0, a.2)]
def pre_G_X11_rank : Int × Int → Me_t → Prop := fun a σ => True
def post_G_X11_rank : Int × Int → Me_t → Int → Me_t → Prop := fun a σ z σ' => (0 ≤ z ∧ z ≤ 2) ∧ (σ = σ')
set_option maxHeartbeats 1500000 in
set_option maxRecDepth 100000 in
theorem ct_G_X11_rank (l : Launch) : CT_ l yX11_rank cX11_rank 2 (some .int) 0 0 as_G_X11_rank (rmI_) pre_G_X11_rank post_G_X11_rank := by
  refine ct_of (by decide) (fun _ => Nat.le_of_ble_eq_true rfl) ?_
  intro X G Q ad σ a hl hR E hG R hM hv hp
  obtain ⟨a0, a1⟩ := a
  have r_a0 : -2147483648 ≤ a0 ∧ a0 ≤ 2147483647 := hv (0, a0) (List.mem_of_getElem? (i := 0) rfl)
  have r_a1 : -2147483648 ≤ a1 ∧ a1 ≤ 2147483647 := hv (0, a1) (List.mem_of_getElem? (i := 1) rfl)
  have B := @bk_ X G Q 0 0 ad SHS_ RX11 cX11_rank 2 (some .int) flX11 plX11 knX11 [] _ _ none kX11_rank [] flX11_ok plX11_ok knX11_ok eX11_rank oX11_rank
    (fun _ h => absurd h List.not_mem_nil) R sok_no E
  show WP_ X G Q 0 0 ad SHS_ σ 0 [(0, a0), (0, a1)] []
  refine B rfl ?_
  refine And.intro (fun h1 => ?_) (fun h1 => ?_)
  · skip
    refine B rfl ?_
    refine And.intro (fun h2 => ?_) (fun h2 => ?_)
    · skip
      refine B rfl ?_
      refine Exists.intro _ (And.intro rfl ?_)
      exact (And.intro (by show 0 ≤ 0 ∧ 0 ≤ 2; omega) rfl)
    · skip
      refine B rfl ?_
      refine Exists.intro _ (And.intro rfl ?_)
      exact (And.intro (by show 0 ≤ 1 ∧ 1 ≤ 2; omega) rfl)
  · skip
    refine B rfl ?_
    refine Exists.intro _ (And.intro rfl ?_)
    exact (And.intro (by show 0 ≤ 2 ∧ 2 ≤ 2; omega) rfl)
def as_G_X11_behind_99 : Int × Int × Int → List Sv_t := fun a => [(0, a.1), (0, a.2.1), (0, a.2.2), (55, 99)]
def pre_G_X11_behind_99 : Int × Int × Int → Me_t → Prop := fun a σ => (1 ≤ a.2.2) ∧ (a.2.2 ≤ a.2.1) ∧ (a.2.1 ≤ 40)
def post_G_X11_behind_99 : Int × Int × Int → Me_t → Int → Me_t → Prop := fun a σ z σ' => (σ = σ')
set_option maxHeartbeats 1500000 in
set_option maxRecDepth 100000 in
theorem ct_G_X11_behind_99 (l : Launch) : CT_ l yX11_behind cX11_behind 4 (some .int) 0 0 as_G_X11_behind_99 (rmI_) pre_G_X11_behind_99 post_G_X11_behind_99 := by
  refine ct_of (by decide) (fun _ => Nat.le_of_ble_eq_true rfl) ?_
  intro X G Q ad σ a hl hR E hG R hM hv hp
  obtain ⟨a0, a1, a2⟩ := a
  have r_a0 : -2147483648 ≤ a0 ∧ a0 ≤ 2147483647 := hv (0, a0) (List.mem_of_getElem? (i := 0) rfl)
  have r_a1 : -2147483648 ≤ a1 ∧ a1 ≤ 2147483647 := hv (0, a1) (List.mem_of_getElem? (i := 1) rfl)
  have r_a2 : -2147483648 ≤ a2 ∧ a2 ≤ 2147483647 := hv (0, a2) (List.mem_of_getElem? (i := 2) rfl)
  have hp0 : 1 ≤ a2 := hp.1
  have hp1 : a2 ≤ a1 := hp.2.1
  have hp2 : a1 ≤ 40 := hp.2.2
  have B := @bk_ X G Q 0 0 ad SHS_ RX11 cX11_behind 4 (some .int) flX11 plX11 knX11 [] _ _ none kX11_behind [] flX11_ok plX11_ok knX11_ok eX11_behind oX11_behind
    (fun _ h => absurd h List.not_mem_nil) R sok_no E
  show WP_ X G Q 0 0 ad SHS_ σ 0 [(0, a0), (0, a1), (0, a2), (55, 99)] []
  refine B rfl ?_
  refine And.intro (fun h1 => ?_) (fun h1 => ?_)
  · skip
    refine B rfl ?_
    refine And.intro (by omega) ?_
    refine And.intro (by omega) ?_
    intro z2 ez2 hz2
    have hz2 : ((-2147483648) : Int) ≤ z2 ∧ z2 ≤ (2147483647 : Int) := rgl_ hz2 (by decide +kernel) (by decide +kernel) (by decide +kernel)
    refine Exists.intro _ (And.intro rfl ?_)
    exact rfl
  · skip
    refine B rfl ?_
    refine Exists.intro _ (And.intro rfl ?_)
    exact rfl
def as_G_X11_bestTake_99 : Int × Int → List Sv_t := fun a => [(0, a.1), (0, a.2), (55, 99)]
def pre_G_X11_bestTake_99 : Int × Int → Me_t → Prop := fun a σ => (1 ≤ a.2) ∧ (a.2 ≤ 40)
def post_G_X11_bestTake_99 : Int × Int → Me_t → Int → Me_t → Prop := fun a σ z σ' => (z = 1 ∨ z = 2) ∧ (z ≤ a.2) ∧ (σ = σ')
set_option maxHeartbeats 1500000 in
set_option maxRecDepth 100000 in
theorem ct_G_X11_bestTake_99 (l : Launch) : CT_ l yX11_bestTake cX11_bestTake 3 (some .int) 1 23 as_G_X11_bestTake_99 (rmI_) pre_G_X11_bestTake_99 post_G_X11_bestTake_99 := by
  refine ct_of (by decide) (fun _ => Nat.le_of_ble_eq_true rfl) ?_
  intro X G Q ad σ a hl hR E hG R hM hv hp
  obtain ⟨a0, a1⟩ := a
  have r_a0 : -2147483648 ≤ a0 ∧ a0 ≤ 2147483647 := hv (0, a0) (List.mem_of_getElem? (i := 0) rfl)
  have r_a1 : -2147483648 ≤ a1 ∧ a1 ≤ 2147483647 := hv (0, a1) (List.mem_of_getElem? (i := 1) rfl)
  have hp0 : 1 ≤ a1 := hp.1
  have hp1 : a1 ≤ 40 := hp.2
  have B := @bk_ X G Q 0 0 ad SHS_ RX11 cX11_bestTake 3 (some .int) flX11 plX11 knX11 [(859, 4, TR_ as_G_X11_behind_99 (rmI_) pre_G_X11_behind_99 post_G_X11_behind_99), (867, 2, TR_ as_G_X11_rank (rmI_) pre_G_X11_rank post_G_X11_rank)] _ _ none kX11_bestTake [] flX11_ok plX11_ok knX11_ok eX11_bestTake oX11_bestTake
    (List.forall_mem_cons.mpr ⟨cok_s (n := 4) (idx := 429) E (ct_G_X11_behind_99 X.2.1) (by rw [hR]; decide) (Nat.zero_le _) (Nat.zero_le _) hG ⟨by decide, by decide, by decide⟩ (fun _ => rfl) wl_X11_429 wt_X11_behind wn_X11 wc_X11_behind, List.forall_mem_cons.mpr ⟨cok_s (n := 2) (idx := 433) E (ct_G_X11_rank X.2.1) (by rw [hR]; decide) (Nat.zero_le _) (Nat.zero_le _) hG ⟨by decide, by decide, by decide⟩ (fun _ => rfl) wl_X11_433 wt_X11_rank wn_X11 wc_X11_rank, fun _ h => absurd h List.not_mem_nil⟩⟩) R sok_no E
  show WP_ X G Q 0 0 ad SHS_ σ 0 [(0, a0), (0, a1), (55, 99)] []
  refine B rfl ?_
  refine And.intro (fun h1 => ?_) (fun h1 => ?_)
  · skip
    refine B rfl ?_
    refine Exists.intro (a0, a1, 2) (And.intro rfl (And.intro (And.intro (by show 1 ≤ 2; omega) (And.intro (by show 2 ≤ a1; omega) (by show a1 ≤ 40; omega))) ?_))
    rintro z2 m_ h3
    obtain rfl : σ = m_ := h3
    refine Exists.intro (a0, z2) (And.intro rfl (And.intro True.intro ?_))
    rintro z4 m_ h5
    obtain rfl : σ = m_ := h5.2
    have h6 : 0 ≤ z4 ∧ z4 ≤ 2 := h5.1
    refine Exists.intro (a0, a1, 1) (And.intro rfl (And.intro (And.intro (by show 1 ≤ 1; omega) (And.intro (by show 1 ≤ a1; omega) (by show a1 ≤ 40; omega))) ?_))
    rintro z7 m_ h8
    obtain rfl : σ = m_ := h8
    refine Exists.intro (a0, z7) (And.intro rfl (And.intro True.intro ?_))
    rintro z9 m_ h10
    obtain rfl : σ = m_ := h10.2
    have h11 : 0 ≤ z9 ∧ z9 ≤ 2 := h10.1
    refine And.intro (fun h12 => ?_) (fun h12 => ?_)
    · skip
      refine B rfl ?_
      refine Exists.intro _ (And.intro rfl ?_)
      exact (And.intro (by show 1 = 1 ∨ 1 = 2; omega) (And.intro (by show 1 ≤ a1; omega) rfl))
    · skip
      refine B rfl ?_
      refine Exists.intro _ (And.intro rfl ?_)
      exact (And.intro (by show 2 = 1 ∨ 2 = 2; omega) (And.intro (by show 2 ≤ a1; omega) rfl))
  · skip
    refine Exists.intro _ (And.intro rfl ?_)
    exact (And.intro (by show 1 = 1 ∨ 1 = 2; omega) (And.intro (by show 1 ≤ a1; omega) rfl))
def as_G_X11_behind_100 : Int × Int × Int → List Sv_t := fun a => [(0, a.1), (0, a.2.1), (0, a.2.2), (56, 100)]
def pre_G_X11_behind_100 : Int × Int × Int → Me_t → Prop := fun a σ => (1 ≤ a.2.2) ∧ (a.2.2 ≤ a.2.1) ∧ (a.2.1 ≤ 40)
def post_G_X11_behind_100 : Int × Int × Int → Me_t → Int → Me_t → Prop := fun a σ z σ' => (σ = σ')
set_option maxHeartbeats 1500000 in
set_option maxRecDepth 100000 in
theorem ct_G_X11_behind_100 (l : Launch) : CT_ l yX11_behind cX11_behind 4 (some .int) 0 0 as_G_X11_behind_100 (rmI_) pre_G_X11_behind_100 post_G_X11_behind_100 := by
  refine ct_of (by decide) (fun _ => Nat.le_of_ble_eq_true rfl) ?_
  intro X G Q ad σ a hl hR E hG R hM hv hp
  obtain ⟨a0, a1, a2⟩ := a
  have r_a0 : -2147483648 ≤ a0 ∧ a0 ≤ 2147483647 := hv (0, a0) (List.mem_of_getElem? (i := 0) rfl)
  have r_a1 : -2147483648 ≤ a1 ∧ a1 ≤ 2147483647 := hv (0, a1) (List.mem_of_getElem? (i := 1) rfl)
  have r_a2 : -2147483648 ≤ a2 ∧ a2 ≤ 2147483647 := hv (0, a2) (List.mem_of_getElem? (i := 2) rfl)
  have hp0 : 1 ≤ a2 := hp.1
  have hp1 : a2 ≤ a1 := hp.2.1
  have hp2 : a1 ≤ 40 := hp.2.2
  have B := @bk_ X G Q 0 0 ad SHS_ RX11 cX11_behind 4 (some .int) flX11 plX11 knX11 [] _ _ none kX11_behind [] flX11_ok plX11_ok knX11_ok eX11_behind oX11_behind
    (fun _ h => absurd h List.not_mem_nil) R sok_no E
  show WP_ X G Q 0 0 ad SHS_ σ 0 [(0, a0), (0, a1), (0, a2), (56, 100)] []
  refine B rfl ?_
  refine And.intro (fun h1 => ?_) (fun h1 => ?_)
  · skip
    refine B rfl ?_
    refine And.intro (by omega) ?_
    refine And.intro (by omega) ?_
    intro z2 ez2 hz2
    have hz2 : ((-2147483648) : Int) ≤ z2 ∧ z2 ≤ (2147483647 : Int) := rgl_ hz2 (by decide +kernel) (by decide +kernel) (by decide +kernel)
    refine Exists.intro _ (And.intro rfl ?_)
    exact rfl
  · skip
    refine B rfl ?_
    refine Exists.intro _ (And.intro rfl ?_)
    exact rfl
def as_G_X11_bestTake_100 : Int × Int → List Sv_t := fun a => [(0, a.1), (0, a.2), (56, 100)]
def pre_G_X11_bestTake_100 : Int × Int → Me_t → Prop := fun a σ => (1 ≤ a.2) ∧ (a.2 ≤ 40)
def post_G_X11_bestTake_100 : Int × Int → Me_t → Int → Me_t → Prop := fun a σ z σ' => (z = 1 ∨ z = 2) ∧ (z ≤ a.2) ∧ (σ = σ')
set_option maxHeartbeats 1500000 in
set_option maxRecDepth 100000 in
theorem ct_G_X11_bestTake_100 (l : Launch) : CT_ l yX11_bestTake cX11_bestTake 3 (some .int) 1 23 as_G_X11_bestTake_100 (rmI_) pre_G_X11_bestTake_100 post_G_X11_bestTake_100 := by
  refine ct_of (by decide) (fun _ => Nat.le_of_ble_eq_true rfl) ?_
  intro X G Q ad σ a hl hR E hG R hM hv hp
  obtain ⟨a0, a1⟩ := a
  have r_a0 : -2147483648 ≤ a0 ∧ a0 ≤ 2147483647 := hv (0, a0) (List.mem_of_getElem? (i := 0) rfl)
  have r_a1 : -2147483648 ≤ a1 ∧ a1 ≤ 2147483647 := hv (0, a1) (List.mem_of_getElem? (i := 1) rfl)
  have hp0 : 1 ≤ a1 := hp.1
  have hp1 : a1 ≤ 40 := hp.2
  have B := @bk_ X G Q 0 0 ad SHS_ RX11 cX11_bestTake 3 (some .int) flX11 plX11 knX11 [(859, 4, TR_ as_G_X11_behind_100 (rmI_) pre_G_X11_behind_100 post_G_X11_behind_100), (867, 2, TR_ as_G_X11_rank (rmI_) pre_G_X11_rank post_G_X11_rank)] _ _ none kX11_bestTake [] flX11_ok plX11_ok knX11_ok eX11_bestTake oX11_bestTake
    (List.forall_mem_cons.mpr ⟨cok_s (n := 4) (idx := 429) E (ct_G_X11_behind_100 X.2.1) (by rw [hR]; decide) (Nat.zero_le _) (Nat.zero_le _) hG ⟨by decide, by decide, by decide⟩ (fun _ => rfl) wl_X11_429 wt_X11_behind wn_X11 wc_X11_behind, List.forall_mem_cons.mpr ⟨cok_s (n := 2) (idx := 433) E (ct_G_X11_rank X.2.1) (by rw [hR]; decide) (Nat.zero_le _) (Nat.zero_le _) hG ⟨by decide, by decide, by decide⟩ (fun _ => rfl) wl_X11_433 wt_X11_rank wn_X11 wc_X11_rank, fun _ h => absurd h List.not_mem_nil⟩⟩) R sok_no E
  show WP_ X G Q 0 0 ad SHS_ σ 0 [(0, a0), (0, a1), (56, 100)] []
  refine B rfl ?_
  refine And.intro (fun h1 => ?_) (fun h1 => ?_)
  · skip
    refine B rfl ?_
    refine Exists.intro (a0, a1, 2) (And.intro rfl (And.intro (And.intro (by show 1 ≤ 2; omega) (And.intro (by show 2 ≤ a1; omega) (by show a1 ≤ 40; omega))) ?_))
    rintro z2 m_ h3
    obtain rfl : σ = m_ := h3
    refine Exists.intro (a0, z2) (And.intro rfl (And.intro True.intro ?_))
    rintro z4 m_ h5
    obtain rfl : σ = m_ := h5.2
    have h6 : 0 ≤ z4 ∧ z4 ≤ 2 := h5.1
    refine Exists.intro (a0, a1, 1) (And.intro rfl (And.intro (And.intro (by show 1 ≤ 1; omega) (And.intro (by show 1 ≤ a1; omega) (by show a1 ≤ 40; omega))) ?_))
    rintro z7 m_ h8
    obtain rfl : σ = m_ := h8
    refine Exists.intro (a0, z7) (And.intro rfl (And.intro True.intro ?_))
    rintro z9 m_ h10
    obtain rfl : σ = m_ := h10.2
    have h11 : 0 ≤ z9 ∧ z9 ≤ 2 := h10.1
    refine And.intro (fun h12 => ?_) (fun h12 => ?_)
    · skip
      refine B rfl ?_
      refine Exists.intro _ (And.intro rfl ?_)
      exact (And.intro (by show 1 = 1 ∨ 1 = 2; omega) (And.intro (by show 1 ≤ a1; omega) rfl))
    · skip
      refine B rfl ?_
      refine Exists.intro _ (And.intro rfl ?_)
      exact (And.intro (by show 2 = 1 ∨ 2 = 2; omega) (And.intro (by show 2 ≤ a1; omega) rfl))
  · skip
    refine Exists.intro _ (And.intro rfl ?_)
    exact (And.intro (by show 1 = 1 ∨ 1 = 2; omega) (And.intro (by show 1 ≤ a1; omega) rfl))
def as_G_X11_turn_100 : Int → List Sv_t := fun a => [(0, a), (55, 99), (56, 100)]
def pre_G_X11_turn_100 : Int → Me_t → Prop := fun a σ => True
def post_G_X11_turn_100 : Int → Me_t → Int → Me_t → Prop := fun a σ z σ' => (∀ k j : Int, ¬ (k = 100) → σ' k j = σ k j)
set_option maxHeartbeats 1500000 in
set_option maxRecDepth 100000 in
theorem ct_G_X11_turn_100 (l : Launch) : CT_ l yX11_turn cX11_turn 4 none 2 45 as_G_X11_turn_100 (rmV_) pre_G_X11_turn_100 post_G_X11_turn_100 := by
  refine ct_of (by decide) (fun _ => Nat.le_of_ble_eq_true rfl) ?_
  intro X G Q ad σ a hl hR E hG R hM hv hp
  obtain ⟨a0, rfl⟩ : ∃ q : Int, q = a := ⟨_, rfl⟩
  have r_a0 : -2147483648 ≤ a0 ∧ a0 ≤ 2147483647 := hv (0, a0) (List.mem_of_getElem? (i := 0) rfl)
  have B := @bk_ X G Q 0 0 ad SHS_ RX11 cX11_turn 4 none flX11 plX11 knX11 [(873, 3, TR_ as_G_X11_bestTake_99 (rmI_) pre_G_X11_bestTake_99 post_G_X11_bestTake_99), (859, 4, TR_ as_G_X11_behind_99 (rmI_) pre_G_X11_behind_99 post_G_X11_behind_99)] _ _ none kX11_turn [2] flX11_ok plX11_ok knX11_ok eX11_turn oX11_turn
    (List.forall_mem_cons.mpr ⟨cok_s (n := 3) (idx := 436) E (ct_G_X11_bestTake_99 X.2.1) (by rw [hR]; decide) (Nat.zero_le _) (Nat.zero_le _) hG ⟨by decide, by decide, by decide⟩ (fun _ => rfl) wl_X11_436 wt_X11_bestTake wn_X11 wc_X11_bestTake, List.forall_mem_cons.mpr ⟨cok_s (n := 4) (idx := 429) E (ct_G_X11_behind_99 X.2.1) (by rw [hR]; decide) (Nat.zero_le _) (Nat.zero_le _) hG ⟨by decide, by decide, by decide⟩ (fun _ => rfl) wl_X11_429 wt_X11_behind wn_X11 wc_X11_behind, fun _ h => absurd h List.not_mem_nil⟩⟩) R sok_no E
  show WP_ X G Q 0 0 ad SHS_ σ 0 [(0, a0), (55, 99), (56, 100), (9, 0)] []
  refine B rfl ?_
  have lp_2 : ∀ (nq_ : Nat) (v3 : Int) (τ2 : Me_t), (∀ k j : Int, ¬ (k = 100) → τ2 k j = σ k j) → (1 ≤ v3) → (v3 ≤ 41) → (41 - v3 : Int).toNat < nq_ → WP_ X G Q 0 0 ad SHS_ τ2 2 [(0, a0), (55, 99), (56, 100), (0, v3)] [] := by
    intro nq_
    induction nq_ with
    | zero => intros; omega
    | succ nq_ ih_2 =>
      intro v3 τ2 hf2 hi2_0 hi2_1 hm2
      refine B rfl ?_
      refine And.intro (fun h1 => ?_) (fun h1 => ?_)
      · skip
        refine B rfl ?_
        refine Exists.intro 0 (And.intro rfl ?_)
        exact (fun k j hk => (hf2 _ _ (by omega)))
      · skip
        refine Exists.intro (a0, v3) (And.intro rfl (And.intro (And.intro (by show 1 ≤ v3; omega) (by show v3 ≤ 40; omega)) ?_))
        rintro z2 m_ h3
        obtain rfl : τ2 = m_ := h3.2.2
        have h4 : z2 = 1 ∨ z2 = 2 := h3.1
        have h5 : z2 ≤ v3 := h3.2.1
        refine Exists.intro (a0, v3, z2) (And.intro rfl (And.intro (And.intro (by show 1 ≤ z2; omega) (And.intro (by show z2 ≤ v3; omega) (by show v3 ≤ 40; omega))) ?_))
        rintro z6 m_ h7
        obtain rfl : τ2 = m_ := h7
        refine And.intro (by omega) ?_
        intro σ8 e9
        refine And.intro (by omega) ?_
        exact ih_2 (v3 + 1) σ8 (fun k j hk => ((ups_r e9 (by omega)).trans (hf2 _ _ (by omega)))) (by show 1 ≤ (v3 + 1); omega) (by show (v3 + 1) ≤ 41; omega) (by omega)
  exact lp_2 ((41 - 1 : Int).toNat + 1) 1 σ (fun k j hk => rfl) (by show 1 ≤ 1; omega) (by show 1 ≤ 41; omega) (by omega)
def as_G_X11_turn_101 : Int → List Sv_t := fun a => [(0, a), (56, 100), (57, 101)]
def pre_G_X11_turn_101 : Int → Me_t → Prop := fun a σ => True
def post_G_X11_turn_101 : Int → Me_t → Int → Me_t → Prop := fun a σ z σ' => (∀ k j : Int, ¬ (k = 101) → σ' k j = σ k j)
set_option maxHeartbeats 1500000 in
set_option maxRecDepth 100000 in
theorem ct_G_X11_turn_101 (l : Launch) : CT_ l yX11_turn cX11_turn 4 none 2 45 as_G_X11_turn_101 (rmV_) pre_G_X11_turn_101 post_G_X11_turn_101 := by
  refine ct_of (by decide) (fun _ => Nat.le_of_ble_eq_true rfl) ?_
  intro X G Q ad σ a hl hR E hG R hM hv hp
  obtain ⟨a0, rfl⟩ : ∃ q : Int, q = a := ⟨_, rfl⟩
  have r_a0 : -2147483648 ≤ a0 ∧ a0 ≤ 2147483647 := hv (0, a0) (List.mem_of_getElem? (i := 0) rfl)
  have B := @bk_ X G Q 0 0 ad SHS_ RX11 cX11_turn 4 none flX11 plX11 knX11 [(873, 3, TR_ as_G_X11_bestTake_100 (rmI_) pre_G_X11_bestTake_100 post_G_X11_bestTake_100), (859, 4, TR_ as_G_X11_behind_100 (rmI_) pre_G_X11_behind_100 post_G_X11_behind_100)] _ _ none kX11_turn [2] flX11_ok plX11_ok knX11_ok eX11_turn oX11_turn
    (List.forall_mem_cons.mpr ⟨cok_s (n := 3) (idx := 436) E (ct_G_X11_bestTake_100 X.2.1) (by rw [hR]; decide) (Nat.zero_le _) (Nat.zero_le _) hG ⟨by decide, by decide, by decide⟩ (fun _ => rfl) wl_X11_436 wt_X11_bestTake wn_X11 wc_X11_bestTake, List.forall_mem_cons.mpr ⟨cok_s (n := 4) (idx := 429) E (ct_G_X11_behind_100 X.2.1) (by rw [hR]; decide) (Nat.zero_le _) (Nat.zero_le _) hG ⟨by decide, by decide, by decide⟩ (fun _ => rfl) wl_X11_429 wt_X11_behind wn_X11 wc_X11_behind, fun _ h => absurd h List.not_mem_nil⟩⟩) R sok_no E
  show WP_ X G Q 0 0 ad SHS_ σ 0 [(0, a0), (56, 100), (57, 101), (9, 0)] []
  refine B rfl ?_
  have lp_2 : ∀ (nq_ : Nat) (v3 : Int) (τ2 : Me_t), (∀ k j : Int, ¬ (k = 101) → τ2 k j = σ k j) → (1 ≤ v3) → (v3 ≤ 41) → (41 - v3 : Int).toNat < nq_ → WP_ X G Q 0 0 ad SHS_ τ2 2 [(0, a0), (56, 100), (57, 101), (0, v3)] [] := by
    intro nq_
    induction nq_ with
    | zero => intros; omega
    | succ nq_ ih_2 =>
      intro v3 τ2 hf2 hi2_0 hi2_1 hm2
      refine B rfl ?_
      refine And.intro (fun h1 => ?_) (fun h1 => ?_)
      · skip
        refine B rfl ?_
        refine Exists.intro 0 (And.intro rfl ?_)
        exact (fun k j hk => (hf2 _ _ (by omega)))
      · skip
        refine Exists.intro (a0, v3) (And.intro rfl (And.intro (And.intro (by show 1 ≤ v3; omega) (by show v3 ≤ 40; omega)) ?_))
        rintro z2 m_ h3
        obtain rfl : τ2 = m_ := h3.2.2
        have h4 : z2 = 1 ∨ z2 = 2 := h3.1
        have h5 : z2 ≤ v3 := h3.2.1
        refine Exists.intro (a0, v3, z2) (And.intro rfl (And.intro (And.intro (by show 1 ≤ z2; omega) (And.intro (by show z2 ≤ v3; omega) (by show v3 ≤ 40; omega))) ?_))
        rintro z6 m_ h7
        obtain rfl : τ2 = m_ := h7
        refine And.intro (by omega) ?_
        intro σ8 e9
        refine And.intro (by omega) ?_
        exact ih_2 (v3 + 1) σ8 (fun k j hk => ((ups_r e9 (by omega)).trans (hf2 _ _ (by omega)))) (by show 1 ≤ (v3 + 1); omega) (by show (v3 + 1) ≤ 41; omega) (by omega)
  exact lp_2 ((41 - 1 : Int).toNat + 1) 1 σ (fun k j hk => rfl) (by show 1 ≤ 1; omega) (by show 1 ≤ 41; omega) (by omega)
def as_G_X11_copy_100 : Unit → List Sv_t := fun a => [(42, 86), (55, 99), (56, 100)]
def pre_G_X11_copy_100 : Unit → Me_t → Prop := fun a σ => True
def post_G_X11_copy_100 : Unit → Me_t → Int → Me_t → Prop := fun a σ z σ' => (∀ k j : Int, ¬ (k = 100) → σ' k j = σ k j)
set_option maxHeartbeats 1500000 in
set_option maxRecDepth 100000 in
theorem ct_G_X11_copy_100 (l : Launch) : CT_ l yX11_copy cX11_copy 4 none 0 0 as_G_X11_copy_100 (rmV_) pre_G_X11_copy_100 post_G_X11_copy_100 := by
  refine ct_of (by decide) (fun _ => Nat.le_of_ble_eq_true rfl) ?_
  intro X G Q ad σ a hl hR E hG R hM hv hp
  have B := @bk_ X G Q 0 0 ad SHS_ RX11 cX11_copy 4 none flX11 plX11 knX11 [] _ _ none kX11_copy [2] flX11_ok plX11_ok knX11_ok eX11_copy oX11_copy
    (fun _ h => absurd h List.not_mem_nil) R sok_no E
  show WP_ X G Q 0 0 ad SHS_ σ 0 [(42, 86), (55, 99), (56, 100), (9, 0)] []
  refine B rfl ?_
  show WP_ X G Q 0 0 ad SHS_ σ 2 [(42, 86), (55, 99), (56, 100), (0, 1)] []
  refine wdrop_ (L' := [(9, 0), (55, 99), (56, 100), (0, 1)]) ⟨Or.inl rfl, ⟨Or.inr rfl, ⟨Or.inr rfl, ⟨Or.inr rfl, trivial⟩⟩⟩⟩ ?_
  have lp_2 : ∀ (nq_ : Nat) (v3 : Int) (τ2 : Me_t), (∀ k j : Int, ¬ (k = 100) → τ2 k j = σ k j) → (1 ≤ v3) → (v3 ≤ 41) → (41 - v3 : Int).toNat < nq_ → WP_ X G Q 0 0 ad SHS_ τ2 2 [(9, 0), (55, 99), (56, 100), (0, v3)] [] := by
    intro nq_
    induction nq_ with
    | zero => intros; omega
    | succ nq_ ih_2 =>
      intro v3 τ2 hf2 hi2_0 hi2_1 hm2
      refine B rfl ?_
      refine And.intro (fun h1 => ?_) (fun h1 => ?_)
      · skip
        refine B rfl ?_
        refine Exists.intro 0 (And.intro rfl ?_)
        exact (fun k j hk => (hf2 _ _ (by omega)))
      · skip
        refine And.intro (by omega) ?_
        intro z2 ez2 hz2
        have hz2 : ((-2147483648) : Int) ≤ z2 ∧ z2 ≤ (2147483647 : Int) := rgl_ hz2 (by decide +kernel) (by decide +kernel) (by decide +kernel)
        try have t3 : τ2 99 v3 = σ 99 v3 := (hf2 _ _ (by omega))
        refine And.intro (by omega) ?_
        intro σ4 e5
        refine And.intro (by omega) ?_
        exact ih_2 (v3 + 1) σ4 (fun k j hk => ((ups_r e5 (by omega)).trans (hf2 _ _ (by omega)))) (by show 1 ≤ (v3 + 1); omega) (by show (v3 + 1) ≤ 41; omega) (by omega)
  exact lp_2 ((41 - 1 : Int).toNat + 1) 1 σ (fun k j hk => rfl) (by show 1 ≤ 1; omega) (by show 1 ≤ 41; omega) (by omega)
def as_G_X11_copy_101 : Unit → List Sv_t := fun a => [(42, 86), (56, 100), (57, 101)]
def pre_G_X11_copy_101 : Unit → Me_t → Prop := fun a σ => True
def post_G_X11_copy_101 : Unit → Me_t → Int → Me_t → Prop := fun a σ z σ' => (∀ k j : Int, ¬ (k = 101) → σ' k j = σ k j)
set_option maxHeartbeats 1500000 in
set_option maxRecDepth 100000 in
theorem ct_G_X11_copy_101 (l : Launch) : CT_ l yX11_copy cX11_copy 4 none 0 0 as_G_X11_copy_101 (rmV_) pre_G_X11_copy_101 post_G_X11_copy_101 := by
  refine ct_of (by decide) (fun _ => Nat.le_of_ble_eq_true rfl) ?_
  intro X G Q ad σ a hl hR E hG R hM hv hp
  have B := @bk_ X G Q 0 0 ad SHS_ RX11 cX11_copy 4 none flX11 plX11 knX11 [] _ _ none kX11_copy [2] flX11_ok plX11_ok knX11_ok eX11_copy oX11_copy
    (fun _ h => absurd h List.not_mem_nil) R sok_no E
  show WP_ X G Q 0 0 ad SHS_ σ 0 [(42, 86), (56, 100), (57, 101), (9, 0)] []
  refine B rfl ?_
  show WP_ X G Q 0 0 ad SHS_ σ 2 [(42, 86), (56, 100), (57, 101), (0, 1)] []
  refine wdrop_ (L' := [(9, 0), (56, 100), (57, 101), (0, 1)]) ⟨Or.inl rfl, ⟨Or.inr rfl, ⟨Or.inr rfl, ⟨Or.inr rfl, trivial⟩⟩⟩⟩ ?_
  have lp_2 : ∀ (nq_ : Nat) (v3 : Int) (τ2 : Me_t), (∀ k j : Int, ¬ (k = 101) → τ2 k j = σ k j) → (1 ≤ v3) → (v3 ≤ 41) → (41 - v3 : Int).toNat < nq_ → WP_ X G Q 0 0 ad SHS_ τ2 2 [(9, 0), (56, 100), (57, 101), (0, v3)] [] := by
    intro nq_
    induction nq_ with
    | zero => intros; omega
    | succ nq_ ih_2 =>
      intro v3 τ2 hf2 hi2_0 hi2_1 hm2
      refine B rfl ?_
      refine And.intro (fun h1 => ?_) (fun h1 => ?_)
      · skip
        refine B rfl ?_
        refine Exists.intro 0 (And.intro rfl ?_)
        exact (fun k j hk => (hf2 _ _ (by omega)))
      · skip
        refine And.intro (by omega) ?_
        intro z2 ez2 hz2
        have hz2 : ((-2147483648) : Int) ≤ z2 ∧ z2 ≤ (2147483647 : Int) := rgl_ hz2 (by decide +kernel) (by decide +kernel) (by decide +kernel)
        try have t3 : τ2 100 v3 = σ 100 v3 := (hf2 _ _ (by omega))
        refine And.intro (by omega) ?_
        intro σ4 e5
        refine And.intro (by omega) ?_
        exact ih_2 (v3 + 1) σ4 (fun k j hk => ((ups_r e5 (by omega)).trans (hf2 _ _ (by omega)))) (by show 1 ≤ (v3 + 1); omega) (by show (v3 + 1) ≤ 41; omega) (by omega)
  exact lp_2 ((41 - 1 : Int).toNat + 1) 1 σ (fun k j hk => rfl) (by show 1 ≤ 1; omega) (by show 1 ≤ 41; omega) (by omega)
def as_G_X11_copy_99 : Unit → List Sv_t := fun a => [(42, 86), (57, 101), (55, 99)]
def pre_G_X11_copy_99 : Unit → Me_t → Prop := fun a σ => True
def post_G_X11_copy_99 : Unit → Me_t → Int → Me_t → Prop := fun a σ z σ' => (∀ k j : Int, ¬ (k = 99) → σ' k j = σ k j)
set_option maxHeartbeats 1500000 in
set_option maxRecDepth 100000 in
theorem ct_G_X11_copy_99 (l : Launch) : CT_ l yX11_copy cX11_copy 4 none 0 0 as_G_X11_copy_99 (rmV_) pre_G_X11_copy_99 post_G_X11_copy_99 := by
  refine ct_of (by decide) (fun _ => Nat.le_of_ble_eq_true rfl) ?_
  intro X G Q ad σ a hl hR E hG R hM hv hp
  have B := @bk_ X G Q 0 0 ad SHS_ RX11 cX11_copy 4 none flX11 plX11 knX11 [] _ _ none kX11_copy [2] flX11_ok plX11_ok knX11_ok eX11_copy oX11_copy
    (fun _ h => absurd h List.not_mem_nil) R sok_no E
  show WP_ X G Q 0 0 ad SHS_ σ 0 [(42, 86), (57, 101), (55, 99), (9, 0)] []
  refine B rfl ?_
  show WP_ X G Q 0 0 ad SHS_ σ 2 [(42, 86), (57, 101), (55, 99), (0, 1)] []
  refine wdrop_ (L' := [(9, 0), (57, 101), (55, 99), (0, 1)]) ⟨Or.inl rfl, ⟨Or.inr rfl, ⟨Or.inr rfl, ⟨Or.inr rfl, trivial⟩⟩⟩⟩ ?_
  have lp_2 : ∀ (nq_ : Nat) (v3 : Int) (τ2 : Me_t), (∀ k j : Int, ¬ (k = 99) → τ2 k j = σ k j) → (1 ≤ v3) → (v3 ≤ 41) → (41 - v3 : Int).toNat < nq_ → WP_ X G Q 0 0 ad SHS_ τ2 2 [(9, 0), (57, 101), (55, 99), (0, v3)] [] := by
    intro nq_
    induction nq_ with
    | zero => intros; omega
    | succ nq_ ih_2 =>
      intro v3 τ2 hf2 hi2_0 hi2_1 hm2
      refine B rfl ?_
      refine And.intro (fun h1 => ?_) (fun h1 => ?_)
      · skip
        refine B rfl ?_
        refine Exists.intro 0 (And.intro rfl ?_)
        exact (fun k j hk => (hf2 _ _ (by omega)))
      · skip
        refine And.intro (by omega) ?_
        intro z2 ez2 hz2
        have hz2 : ((-2147483648) : Int) ≤ z2 ∧ z2 ≤ (2147483647 : Int) := rgl_ hz2 (by decide +kernel) (by decide +kernel) (by decide +kernel)
        try have t3 : τ2 101 v3 = σ 101 v3 := (hf2 _ _ (by omega))
        refine And.intro (by omega) ?_
        intro σ4 e5
        refine And.intro (by omega) ?_
        exact ih_2 (v3 + 1) σ4 (fun k j hk => ((ups_r e5 (by omega)).trans (hf2 _ _ (by omega)))) (by show 1 ≤ (v3 + 1); omega) (by show (v3 + 1) ≤ 41; omega) (by omega)
  exact lp_2 ((41 - 1 : Int).toNat + 1) 1 σ (fun k j hk => rfl) (by show 1 ≤ 1; omega) (by show 1 ≤ 41; omega) (by omega)
def as_G_X11_play : Int × Int × Int → List Sv_t := fun a => [(42, 86), (0, a.1), (0, a.2.1), (0, a.2.2)]
def pre_G_X11_play : Int × Int × Int → Me_t → Prop := fun a σ => (0 ≤ a.1) ∧ (a.1 ≤ 2) ∧ (0 ≤ a.2.1) ∧ (a.2.1 ≤ 2) ∧ (0 ≤ a.2.2) ∧ (a.2.2 ≤ 2000)
def post_G_X11_play : Int × Int × Int → Me_t → Int → Me_t → Prop := fun a σ z σ' => (∀ k j : Int, ¬ (99 ≤ k ∧ k ≤ 101) → σ' k j = σ k j)
set_option maxHeartbeats 1500000 in
set_option maxRecDepth 100000 in
theorem ct_G_X11_play (l : Launch) : CT_ l yX11_play cX11_play 7 none 3 68 as_G_X11_play (rmV_) pre_G_X11_play post_G_X11_play := by
  refine ct_of (by decide) (fun _ => Nat.le_of_ble_eq_true rfl) ?_
  intro X G Q ad σ a hl hR E hG R hM hv hp
  obtain ⟨a1, a2, a3⟩ := a
  have r_a1 : -2147483648 ≤ a1 ∧ a1 ≤ 2147483647 := hv (0, a1) (List.mem_of_getElem? (i := 1) rfl)
  have r_a2 : -2147483648 ≤ a2 ∧ a2 ≤ 2147483647 := hv (0, a2) (List.mem_of_getElem? (i := 2) rfl)
  have r_a3 : -2147483648 ≤ a3 ∧ a3 ≤ 2147483647 := hv (0, a3) (List.mem_of_getElem? (i := 3) rfl)
  have hp0 : 0 ≤ a1 := hp.1
  have hp1 : a1 ≤ 2 := hp.2.1
  have hp2 : 0 ≤ a2 := hp.2.2.1
  have hp3 : a2 ≤ 2 := hp.2.2.2.1
  have hp4 : 0 ≤ a3 := hp.2.2.2.2.1
  have hp5 : a3 ≤ 2000 := hp.2.2.2.2.2
  have B := @bk_ X G Q 0 0 ad SHS_ RX11 cX11_play 7 none flX11 plX11 knX11 [(880, 3, TOR_ (TR_ as_G_X11_copy_100 (rmV_) pre_G_X11_copy_100 post_G_X11_copy_100) (TOR_ (TR_ as_G_X11_copy_101 (rmV_) pre_G_X11_copy_101 post_G_X11_copy_101) (TR_ as_G_X11_copy_99 (rmV_) pre_G_X11_copy_99 post_G_X11_copy_99))), (508, 3, TR_ as_G_X11_mayOn (rmI_) pre_G_X11_mayOn post_G_X11_mayOn), (889, 3, TOR_ (TR_ as_G_X11_turn_101 (rmV_) pre_G_X11_turn_101 post_G_X11_turn_101) (TR_ as_G_X11_turn_100 (rmV_) pre_G_X11_turn_100 post_G_X11_turn_100)), (279, 2, TMIN_), (643, 2, TMAX_)] _ _ none kX11_play [17, 24, 43, 49, 72, 108] flX11_ok plX11_ok knX11_ok eX11_play oX11_play
    (List.forall_mem_cons.mpr ⟨cok_or (cok_v (t := 32) (c := 11) (N := 39) (n := 2) (idx := 440) E (ct_G_X11_copy_100 X.2.1) (by rw [hR]; decide) (Nat.zero_le _) (Nat.zero_le _) hG rfl rfl ⟨rfl, by decide, by decide, by decide⟩ (fun _ => ⟨_, _, rfl, rfl⟩) wl_X11_440 wi_X11_copy ws_X11_copy wn_X11 wc_X11_copy) (cok_or (cok_v (t := 32) (c := 11) (N := 39) (n := 2) (idx := 440) E (ct_G_X11_copy_101 X.2.1) (by rw [hR]; decide) (Nat.zero_le _) (Nat.zero_le _) hG rfl rfl ⟨rfl, by decide, by decide, by decide⟩ (fun _ => ⟨_, _, rfl, rfl⟩) wl_X11_440 wi_X11_copy ws_X11_copy wn_X11 wc_X11_copy) (cok_v (t := 32) (c := 11) (N := 39) (n := 2) (idx := 440) E (ct_G_X11_copy_99 X.2.1) (by rw [hR]; decide) (Nat.zero_le _) (Nat.zero_le _) hG rfl rfl ⟨rfl, by decide, by decide, by decide⟩ (fun _ => ⟨_, _, rfl, rfl⟩) wl_X11_440 wi_X11_copy ws_X11_copy wn_X11 wc_X11_copy)), List.forall_mem_cons.mpr ⟨cok_v (t := 32) (c := 11) (N := 39) (n := 2) (idx := 254) E (ct_G_X11_mayOn X.2.1) (by rw [hR]; decide) (Nat.zero_le _) (Nat.zero_le _) hG rfl rfl ⟨rfl, by decide, by decide, by decide⟩ (fun _ => ⟨_, _, rfl, rfl⟩) wl_X11_254 wi_X11_mayOn ws_X11_mayOn wn_X11 wc_X11_mayOn, List.forall_mem_cons.mpr ⟨cok_or (cok_s (n := 3) (idx := 444) E (ct_G_X11_turn_101 X.2.1) (by rw [hR]; decide) (Nat.zero_le _) (Nat.zero_le _) hG ⟨by decide, by decide, by decide⟩ (fun _ => rfl) wl_X11_444 wt_X11_turn wn_X11 wc_X11_turn) (cok_s (n := 3) (idx := 444) E (ct_G_X11_turn_100 X.2.1) (by rw [hR]; decide) (Nat.zero_le _) (Nat.zero_le _) hG ⟨by decide, by decide, by decide⟩ (fun _ => rfl) wl_X11_444 wt_X11_turn wn_X11 wc_X11_turn), List.forall_mem_cons.mpr ⟨cok_min (idx := 139) E (by rw [hR]; decide) (Nat.zero_le _) (Nat.zero_le _) wl_X11_139, List.forall_mem_cons.mpr ⟨cok_max (idx := 321) E (by rw [hR]; decide) (Nat.zero_le _) (Nat.zero_le _) wl_X11_321, fun _ h => absurd h List.not_mem_nil⟩⟩⟩⟩⟩) R sok_no E
  show WP_ X G Q 0 0 ad SHS_ σ 0 [(42, 86), (0, a1), (0, a2), (0, a3), (9, 0), (9, 0), (9, 0)] []
  refine B rfl ?_
  refine Exists.intro a1 (Exists.intro a2 (And.intro rfl ?_))
  intro z1 hz1
  refine Exists.intro a1 (Exists.intro a2 (And.intro rfl ?_))
  intro z2 hz2
  show WP_ X G Q 0 0 ad SHS_ σ 17 [(42, 86), (0, a1), (0, a2), (0, a3), (0, z1), (0, z2), (0, 1)] []
  refine wdrop_ (L' := [(42, 86), (9, 0), (9, 0), (0, a3), (0, z1), (0, z2), (0, 1)]) ⟨Or.inr rfl, ⟨Or.inl rfl, ⟨Or.inl rfl, ⟨Or.inr rfl, ⟨Or.inr rfl, ⟨Or.inr rfl, ⟨Or.inr rfl, trivial⟩⟩⟩⟩⟩⟩⟩ ?_
  have lp_17 : ∀ (nq_ : Nat) (v6 : Int) (τ17 : Me_t), (∀ k j : Int, ¬ (99 ≤ k ∧ k ≤ 101) → τ17 k j = σ k j) → (1 ≤ v6) → (v6 ≤ 41) → (41 - v6 : Int).toNat < nq_ → WP_ X G Q 0 0 ad SHS_ τ17 17 [(42, 86), (9, 0), (9, 0), (0, a3), (0, z1), (0, z2), (0, v6)] [] := by
    intro nq_
    induction nq_ with
    | zero => intros; omega
    | succ nq_ ih_17 =>
      intro v6 τ17 hf17 hi17_0 hi17_1 hm17
      refine B rfl ?_
      refine And.intro (fun h3 => ?_) (fun h3 => ?_)
      · skip
        refine B rfl ?_
        have lp_43 : ∀ (nq_ : Nat) (v6 : Int) (τ43 : Me_t), (∀ k j : Int, ¬ (99 ≤ k ∧ k ≤ 101) → τ43 k j = σ k j) → (-1 ≤ v6) → (v6 ≤ 1999) → (v6 + 1 : Int).toNat < nq_ → WP_ X G Q 0 0 ad SHS_ τ43 43 [(42, 86), (9, 0), (9, 0), (0, a3), (0, z1), (0, z2), (0, v6)] [] := by
          intro nq_
          induction nq_ with
          | zero => intros; omega
          | succ nq_ ih_43 =>
            intro v6 τ43 hf43 hi43_0 hi43_1 hm43
            refine B rfl ?_
            refine And.intro (fun h4 => ?_) (fun h4 => ?_)
            · skip
              refine B rfl ?_
              refine Exists.intro 0 (And.intro rfl ?_)
              exact (fun k j hk => (hf43 _ _ (by omega)))
            · skip
              show WP_ X G Q 0 0 ad SHS_ τ43 49 [(42, 86), (9, 0), (9, 0), (0, a3), (0, z1), (0, z2), (0, v6)] []
              refine B rfl ?_
              refine Or.inl ?_
              refine Exists.intro () (And.intro rfl (And.intro True.intro ?_))
              intro z5 σ7 h6
              have f8 : ∀ k j : Int, ¬ (k = 100) → σ7 k j = τ43 k j := h6
              refine Exists.intro (z2, v6) (And.intro rfl (And.intro (And.intro (by show 0 ≤ z2; omega) (And.intro (by show z2 ≤ 2; omega) (And.intro (by show 0 ≤ v6; omega) (by show v6 ≤ 1999; omega)))) ?_))
              rintro z9 m_ h10
              obtain rfl : σ7 = m_ := h10.2
              have h11 : (z9 = 1 ∧ σ7 96 (2000 * z2 + v6) = 0) ∨ (z9 = 0 ∧ σ7 96 (2000 * z2 + v6) ≠ 0) := h10.1
              try have t12 : σ7 96 (2000 * z2 + v6) = σ 96 (2000 * z2 + v6) := ((f8 _ _ (by omega)).trans (hf43 _ _ (by omega)))
              refine And.intro (fun h13 => ?_) (fun h13 => ?_)
              · skip
                refine B rfl ?_
                refine Or.inr ?_
                refine Or.inl ?_
                refine Exists.intro () (And.intro rfl (And.intro True.intro ?_))
                intro z14 σ16 h15
                have f17 : ∀ k j : Int, ¬ (k = 101) → σ16 k j = σ7 k j := h15
                refine Exists.intro (z1, v6) (And.intro rfl (And.intro (And.intro (by show 0 ≤ z1; omega) (And.intro (by show z1 ≤ 2; omega) (And.intro (by show 0 ≤ v6; omega) (by show v6 ≤ 1999; omega)))) ?_))
                rintro z18 m_ h19
                obtain rfl : σ16 = m_ := h19.2
                have h20 : (z18 = 1 ∧ σ16 96 (2000 * z1 + v6) = 0) ∨ (z18 = 0 ∧ σ16 96 (2000 * z1 + v6) ≠ 0) := h19.1
                try have t21 : σ16 96 (2000 * z1 + v6) = σ 96 (2000 * z1 + v6) := ((f17 _ _ (by omega)).trans ((f8 _ _ (by omega)).trans (hf43 _ _ (by omega))))
                refine And.intro (fun h22 => ?_) (fun h22 => ?_)
                · skip
                  refine B rfl ?_
                  refine Or.inr ?_
                  refine Or.inr ?_
                  refine Exists.intro () (And.intro rfl (And.intro True.intro ?_))
                  intro z23 σ25 h24
                  have f26 : ∀ k j : Int, ¬ (k = 99) → σ25 k j = σ16 k j := h24
                  refine And.intro (by omega) ?_
                  exact ih_43 (v6 + (-1)) σ25 (fun k j hk => ((f26 _ _ (by omega)).trans ((f17 _ _ (by omega)).trans ((f8 _ _ (by omega)).trans (hf43 _ _ (by omega)))))) (by show -1 ≤ (v6 + (-1)); omega) (by show (v6 + (-1)) ≤ 1999; omega) (by omega)
                · skip
                  show WP_ X G Q 0 0 ad SHS_ σ16 108 [(42, 86), (9, 0), (9, 0), (0, a3), (0, z1), (0, z2), (0, v6)] []
                  refine B rfl ?_
                  refine Or.inl ?_
                  refine Exists.intro z1 (And.intro rfl (And.intro True.intro ?_))
                  intro z27 σ29 h28
                  have f30 : ∀ k j : Int, ¬ (k = 101) → σ29 k j = σ16 k j := h28
                  refine Or.inr ?_
                  refine Or.inr ?_
                  refine Exists.intro () (And.intro rfl (And.intro True.intro ?_))
                  intro z31 σ33 h32
                  have f34 : ∀ k j : Int, ¬ (k = 99) → σ33 k j = σ29 k j := h32
                  refine And.intro (by omega) ?_
                  exact ih_43 (v6 + (-1)) σ33 (fun k j hk => ((f34 _ _ (by omega)).trans ((f30 _ _ (by omega)).trans ((f17 _ _ (by omega)).trans ((f8 _ _ (by omega)).trans (hf43 _ _ (by omega))))))) (by show -1 ≤ (v6 + (-1)); omega) (by show (v6 + (-1)) ≤ 1999; omega) (by omega)
              · skip
                show WP_ X G Q 0 0 ad SHS_ σ7 72 [(42, 86), (9, 0), (9, 0), (0, a3), (0, z1), (0, z2), (0, v6)] []
                refine B rfl ?_
                refine Or.inr ?_
                refine Exists.intro z2 (And.intro rfl (And.intro True.intro ?_))
                intro z35 σ37 h36
                have f38 : ∀ k j : Int, ¬ (k = 100) → σ37 k j = σ7 k j := h36
                refine Or.inr ?_
                refine Or.inl ?_
                refine Exists.intro () (And.intro rfl (And.intro True.intro ?_))
                intro z39 σ41 h40
                have f42 : ∀ k j : Int, ¬ (k = 101) → σ41 k j = σ37 k j := h40
                refine Exists.intro (z1, v6) (And.intro rfl (And.intro (And.intro (by show 0 ≤ z1; omega) (And.intro (by show z1 ≤ 2; omega) (And.intro (by show 0 ≤ v6; omega) (by show v6 ≤ 1999; omega)))) ?_))
                rintro z43 m_ h44
                obtain rfl : σ41 = m_ := h44.2
                have h45 : (z43 = 1 ∧ σ41 96 (2000 * z1 + v6) = 0) ∨ (z43 = 0 ∧ σ41 96 (2000 * z1 + v6) ≠ 0) := h44.1
                try have t46 : σ41 96 (2000 * z1 + v6) = σ 96 (2000 * z1 + v6) := ((f42 _ _ (by omega)).trans ((f38 _ _ (by omega)).trans ((f8 _ _ (by omega)).trans (hf43 _ _ (by omega)))))
                refine And.intro (fun h47 => ?_) (fun h47 => ?_)
                · skip
                  refine B rfl ?_
                  refine Or.inr ?_
                  refine Or.inr ?_
                  refine Exists.intro () (And.intro rfl (And.intro True.intro ?_))
                  intro z48 σ50 h49
                  have f51 : ∀ k j : Int, ¬ (k = 99) → σ50 k j = σ41 k j := h49
                  refine And.intro (by omega) ?_
                  exact ih_43 (v6 + (-1)) σ50 (fun k j hk => ((f51 _ _ (by omega)).trans ((f42 _ _ (by omega)).trans ((f38 _ _ (by omega)).trans ((f8 _ _ (by omega)).trans (hf43 _ _ (by omega))))))) (by show -1 ≤ (v6 + (-1)); omega) (by show (v6 + (-1)) ≤ 1999; omega) (by omega)
                · skip
                  show WP_ X G Q 0 0 ad SHS_ σ41 108 [(42, 86), (9, 0), (9, 0), (0, a3), (0, z1), (0, z2), (0, v6)] []
                  refine B rfl ?_
                  refine Or.inl ?_
                  refine Exists.intro z1 (And.intro rfl (And.intro True.intro ?_))
                  intro z52 σ54 h53
                  have f55 : ∀ k j : Int, ¬ (k = 101) → σ54 k j = σ41 k j := h53
                  refine Or.inr ?_
                  refine Or.inr ?_
                  refine Exists.intro () (And.intro rfl (And.intro True.intro ?_))
                  intro z56 σ58 h57
                  have f59 : ∀ k j : Int, ¬ (k = 99) → σ58 k j = σ54 k j := h57
                  refine And.intro (by omega) ?_
                  exact ih_43 (v6 + (-1)) σ58 (fun k j hk => ((f59 _ _ (by omega)).trans ((f55 _ _ (by omega)).trans ((f42 _ _ (by omega)).trans ((f38 _ _ (by omega)).trans ((f8 _ _ (by omega)).trans (hf43 _ _ (by omega)))))))) (by show -1 ≤ (v6 + (-1)); omega) (by show (v6 + (-1)) ≤ 1999; omega) (by omega)
        exact lp_43 ((1999 + 1 : Int).toNat + 1) 1999 τ17 (fun k j hk => (hf17 _ _ (by omega))) (by show -1 ≤ 1999; omega) (by show 1999 ≤ 1999; omega) (by omega)
      · skip
        show WP_ X G Q 0 0 ad SHS_ τ17 24 [(42, 86), (9, 0), (9, 0), (0, a3), (0, z1), (0, z2), (0, v6)] []
        refine B rfl ?_
        refine And.intro (by omega) ?_
        intro σ60 e61
        refine And.intro (by omega) ?_
        exact ih_17 (v6 + 1) σ60 (fun k j hk => ((ups_r e61 (by omega)).trans (hf17 _ _ (by omega)))) (by show 1 ≤ (v6 + 1); omega) (by show (v6 + 1) ≤ 41; omega) (by omega)
  exact lp_17 ((41 - 1 : Int).toNat + 1) 1 σ (fun k j hk => rfl) (by show 1 ≤ 1; omega) (by show 1 ≤ 41; omega) (by omega)
def as_G_X11_isGame : Int × Int × Int × Int → List Sv_t := fun a => [(42, 86), (0, a.1), (0, a.2.1), (0, a.2.2.1), (0, a.2.2.2)]
def pre_G_X11_isGame : Int × Int × Int × Int → Me_t → Prop := fun a σ => (BW σ 87)
def post_G_X11_isGame : Int × Int × Int × Int → Me_t → Int → Me_t → Prop := fun a σ z σ' => ((z = 1 ∧ 0 ≤ a.1 ∧ a.1 ≤ 2 ∧ 0 ≤ a.2.1 ∧ a.2.1 ≤ 2 ∧ a.1 ≠ a.2.1 ∧ 0 ≤ a.2.2.1 ∧ a.2.2.1 ≤ 1999 ∧ 1 ≤ a.2.2.2 ∧ a.2.2.2 ≤ 40) ∨ z = 0) ∧ (σ = σ')
set_option maxHeartbeats 1500000 in
set_option maxRecDepth 100000 in
theorem ct_G_X11_isGame (l : Launch) : CT_ l yX11_isGame cX11_isGame 5 (some .boolean) 3 69 as_G_X11_isGame (rmI_) pre_G_X11_isGame post_G_X11_isGame := by
  refine ct_of (by decide) (fun _ => Nat.le_of_ble_eq_true rfl) ?_
  intro X G Q ad σ a hl hR E hG R hM hv hp
  obtain ⟨a1, a2, a3, a4⟩ := a
  have r_a1 : -2147483648 ≤ a1 ∧ a1 ≤ 2147483647 := hv (0, a1) (List.mem_of_getElem? (i := 1) rfl)
  have r_a2 : -2147483648 ≤ a2 ∧ a2 ≤ 2147483647 := hv (0, a2) (List.mem_of_getElem? (i := 2) rfl)
  have r_a3 : -2147483648 ≤ a3 ∧ a3 ≤ 2147483647 := hv (0, a3) (List.mem_of_getElem? (i := 3) rfl)
  have r_a4 : -2147483648 ≤ a4 ∧ a4 ≤ 2147483647 := hv (0, a4) (List.mem_of_getElem? (i := 4) rfl)
  have hp0 : BW σ 87 := hp
  have B := @bk_ X G Q 0 0 ad SHS_ RX11 cX11_isGame 5 (some .boolean) flX11 plX11 knX11 [(630, 3, TR_ as_G_X11_areTwo (rmI_) pre_G_X11_areTwo post_G_X11_areTwo), (179, 1, TR_ as_G_X11_isDay (rmI_) pre_G_X11_isDay post_G_X11_isDay), (159, 3, TR_ as_G_X11_in (rmI_) pre_G_X11_in post_G_X11_in)] _ _ none kX11_isGame [] flX11_ok plX11_ok knX11_ok eX11_isGame oX11_isGame
    (List.forall_mem_cons.mpr ⟨cok_v (t := 32) (c := 11) (N := 39) (n := 2) (idx := 315) E (ct_G_X11_areTwo X.2.1) (by rw [hR]; decide) (Nat.zero_le _) (Nat.zero_le _) hG rfl rfl ⟨rfl, by decide, by decide, by decide⟩ (fun _ => ⟨_, _, rfl, rfl⟩) wl_X11_315 wi_X11_areTwo ws_X11_areTwo wn_X11 wc_X11_areTwo, List.forall_mem_cons.mpr ⟨cok_s (n := 1) (idx := 89) E (ct_G_X11_isDay X.2.1) (by rw [hR]; decide) (Nat.zero_le _) (Nat.zero_le _) hG ⟨by decide, by decide, by decide⟩ (fun _ => rfl) wl_X11_89 wt_X11_isDay wn_X11 wc_X11_isDay, List.forall_mem_cons.mpr ⟨cok_s (n := 3) (idx := 79) E (ct_G_X11_in X.2.1) (by rw [hR]; decide) (Nat.zero_le _) (Nat.zero_le _) hG ⟨by decide, by decide, by decide⟩ (fun _ => rfl) wl_X11_79 wt_X11_in wn_X11 wc_X11_in, fun _ h => absurd h List.not_mem_nil⟩⟩⟩) R sok_no E
  show WP_ X G Q 0 0 ad SHS_ σ 0 [(42, 86), (0, a1), (0, a2), (0, a3), (0, a4)] []
  refine B rfl ?_
  refine Exists.intro (a1, a2) (And.intro rfl (And.intro hp0 ?_))
  rintro z1 m_ h2
  obtain rfl : σ = m_ := h2.2
  have h3 : (z1 = 1 ∧ 0 ≤ a1 ∧ a1 ≤ 2 ∧ a1 < σ 87 1 ∧ 0 ≤ a2 ∧ a2 ≤ 2 ∧ a2 < σ 87 1 ∧ a1 ≠ a2) ∨ z1 = 0 := h2.1
  refine And.intro (fun h4 => ?_) (fun h4 => ?_)
  · skip
    refine B rfl ?_
    refine And.intro (by omega) ?_
    refine Exists.intro _ (And.intro rfl ?_)
    exact (And.intro (by show (0 = 1 ∧ 0 ≤ a1 ∧ a1 ≤ 2 ∧ 0 ≤ a2 ∧ a2 ≤ 2 ∧ a1 ≠ a2 ∧ 0 ≤ a3 ∧ a3 ≤ 1999 ∧ 1 ≤ a4 ∧ a4 ≤ 40) ∨ 0 = 0; omega) rfl)
  · skip
    refine Exists.intro a3 (And.intro rfl (And.intro True.intro ?_))
    rintro z5 m_ h6
    obtain rfl : σ = m_ := h6.2
    have h7 : (z5 = 1 ∧ 0 ≤ a3 ∧ a3 ≤ 1999) ∨ z5 = 0 := h6.1
    refine And.intro (fun h8 => ?_) (fun h8 => ?_)
    · skip
      refine B rfl ?_
      refine And.intro (by omega) ?_
      refine Exists.intro _ (And.intro rfl ?_)
      exact (And.intro (by show (0 = 1 ∧ 0 ≤ a1 ∧ a1 ≤ 2 ∧ 0 ≤ a2 ∧ a2 ≤ 2 ∧ a1 ≠ a2 ∧ 0 ≤ a3 ∧ a3 ≤ 1999 ∧ 1 ≤ a4 ∧ a4 ≤ 40) ∨ 0 = 0; omega) rfl)
    · skip
      refine Exists.intro (a4, 1, 40) (And.intro rfl (And.intro True.intro ?_))
      rintro z9 m_ h10
      obtain rfl : σ = m_ := h10.2
      have h11 : (z9 = 1 ∧ 1 ≤ a4 ∧ a4 ≤ 40) ∨ (z9 = 0 ∧ ¬ (1 ≤ a4 ∧ a4 ≤ 40)) := h10.1
      refine And.intro (fun h12 => ?_) (fun h12 => ?_)
      · skip
        refine B rfl ?_
        refine And.intro (by omega) ?_
        refine Exists.intro _ (And.intro rfl ?_)
        exact (And.intro (by show (0 = 1 ∧ 0 ≤ a1 ∧ a1 ≤ 2 ∧ 0 ≤ a2 ∧ a2 ≤ 2 ∧ a1 ≠ a2 ∧ 0 ≤ a3 ∧ a3 ≤ 1999 ∧ 1 ≤ a4 ∧ a4 ≤ 40) ∨ 0 = 0; omega) rfl)
      · skip
        refine B rfl ?_
        refine And.intro (by omega) ?_
        refine Exists.intro _ (And.intro rfl ?_)
        exact (And.intro (by show (1 = 1 ∧ 0 ≤ a1 ∧ a1 ≤ 2 ∧ 0 ≤ a2 ∧ a2 ≤ 2 ∧ a1 ≠ a2 ∧ 0 ≤ a3 ∧ a3 ≤ 1999 ∧ 1 ≤ a4 ∧ a4 ≤ 40) ∨ 1 = 0; omega) rfl)
def as_G_X11_game : Int × Int × Int × Int → List Sv_t := fun a => [(42, 86), (0, a.1), (0, a.2.1), (0, a.2.2.1), (0, a.2.2.2)]
def pre_G_X11_game : Int × Int × Int × Int → Me_t → Prop := fun a σ => (MI σ)
def post_G_X11_game : Int × Int × Int × Int → Me_t → Int → Me_t → Prop := fun a σ z σ' => (∀ k j : Int, ¬ ((93 ≤ k ∧ k ≤ 96) ∨ (99 ≤ k ∧ k ≤ 101)) → σ' k j = σ k j)
set_option maxHeartbeats 1500000 in
set_option maxRecDepth 100000 in
theorem ct_G_X11_game (l : Launch) : CT_ l yX11_game cX11_game 5 (some .int) 4 94 as_G_X11_game (rmI_) pre_G_X11_game post_G_X11_game := by
  refine ct_of (by decide) (fun _ => Nat.le_of_ble_eq_true rfl) ?_
  intro X G Q ad σ a hl hR E hG R hM hv hp
  obtain ⟨a1, a2, a3, a4⟩ := a
  have r_a1 : -2147483648 ≤ a1 ∧ a1 ≤ 2147483647 := hv (0, a1) (List.mem_of_getElem? (i := 1) rfl)
  have r_a2 : -2147483648 ≤ a2 ∧ a2 ≤ 2147483647 := hv (0, a2) (List.mem_of_getElem? (i := 2) rfl)
  have r_a3 : -2147483648 ≤ a3 ∧ a3 ≤ 2147483647 := hv (0, a3) (List.mem_of_getElem? (i := 3) rfl)
  have r_a4 : -2147483648 ≤ a4 ∧ a4 ≤ 2147483647 := hv (0, a4) (List.mem_of_getElem? (i := 4) rfl)
  have hp0 : MI σ := hp
  have B := @bk_ X G Q 0 0 ad SHS_ RX11 cX11_game 5 (some .int) flX11 plX11 knX11 [(900, 5, TR_ as_G_X11_isGame (rmI_) pre_G_X11_isGame post_G_X11_isGame), (538, 1, TR_ as_G_X11_lay (rmV_) pre_G_X11_lay post_G_X11_lay), (906, 4, TR_ as_G_X11_play (rmV_) pre_G_X11_play post_G_X11_play)] _ _ none kX11_game [] flX11_ok plX11_ok knX11_ok eX11_game oX11_game
    (List.forall_mem_cons.mpr ⟨cok_v (t := 32) (c := 11) (N := 39) (n := 4) (idx := 450) E (ct_G_X11_isGame X.2.1) (by rw [hR]; decide) (Nat.zero_le _) (Nat.zero_le _) hG rfl rfl ⟨rfl, by decide, by decide, by decide⟩ (fun _ => ⟨_, _, rfl, rfl⟩) wl_X11_450 wi_X11_isGame ws_X11_isGame wn_X11 wc_X11_isGame, List.forall_mem_cons.mpr ⟨cok_v (t := 32) (c := 11) (N := 39) (n := 0) (idx := 269) E (ct_G_X11_lay X.2.1) (by rw [hR]; decide) (Nat.zero_le _) (Nat.zero_le _) hG rfl rfl ⟨rfl, by decide, by decide, by decide⟩ (fun _ => ⟨_, _, rfl, rfl⟩) wl_X11_269 wi_X11_lay ws_X11_lay wn_X11 wc_X11_lay, List.forall_mem_cons.mpr ⟨cok_v (t := 32) (c := 11) (N := 39) (n := 3) (idx := 453) E (ct_G_X11_play X.2.1) (by rw [hR]; decide) (Nat.zero_le _) (Nat.zero_le _) hG rfl rfl ⟨rfl, by decide, by decide, by decide⟩ (fun _ => ⟨_, _, rfl, rfl⟩) wl_X11_453 wi_X11_play ws_X11_play wn_X11 wc_X11_play, fun _ h => absurd h List.not_mem_nil⟩⟩⟩) R sok_no E
  show WP_ X G Q 0 0 ad SHS_ σ 0 [(42, 86), (0, a1), (0, a2), (0, a3), (0, a4)] []
  refine B rfl ?_
  have p1 : BW σ 87 := (hp0).1.1
  refine Exists.intro (a1, a2, a3, a4) (And.intro rfl (And.intro p1 ?_))
  rintro z2 m_ h3
  obtain rfl : σ = m_ := h3.2
  have h4 : (z2 = 1 ∧ 0 ≤ a1 ∧ a1 ≤ 2 ∧ 0 ≤ a2 ∧ a2 ≤ 2 ∧ a1 ≠ a2 ∧ 0 ≤ a3 ∧ a3 ≤ 1999 ∧ 1 ≤ a4 ∧ a4 ≤ 40) ∨ z2 = 0 := h3.1
  refine And.intro (fun h5 => ?_) (fun h5 => ?_)
  · skip
    refine B rfl ?_
    refine Exists.intro () (And.intro rfl (And.intro hp0 ?_))
    intro z6 σ8 h7
    have f9 : ∀ k j : Int, ¬ (93 ≤ k ∧ k ≤ 96) → σ8 k j = σ k j := h7.2
    have h10 : LY σ8 := h7.1
    refine Exists.intro (a1, a2, a3) (And.intro rfl (And.intro (And.intro (by show 0 ≤ a1; omega) (And.intro (by show a1 ≤ 2; omega) (And.intro (by show 0 ≤ a2; omega) (And.intro (by show a2 ≤ 2; omega) (And.intro (by show 0 ≤ a3; omega) (by show a3 ≤ 2000; omega)))))) ?_))
    intro z11 σ13 h12
    have f14 : ∀ k j : Int, ¬ (99 ≤ k ∧ k ≤ 101) → σ13 k j = σ8 k j := h12
    refine And.intro (by omega) ?_
    intro z15 ez15 hz15
    have hz15 : ((-2147483648) : Int) ≤ z15 ∧ z15 ≤ (2147483647 : Int) := rgl_ hz15 (by decide +kernel) (by decide +kernel) (by decide +kernel)
    try have t16 : σ13 99 a4 = σ 99 a4 := ((f14 _ _ (by omega)).trans (f9 _ _ (by omega)))
    refine Exists.intro _ (And.intro rfl ?_)
    exact (fun k j hk => ((f14 _ _ (by omega)).trans (f9 _ _ (by omega))))
  · skip
    refine Exists.intro _ (And.intro rfl ?_)
    exact (fun k j hk => rfl)
def as_G_X11_takes_ : Int × Int × Int × Int → List Sv_t := fun a => [(42, 86), (0, a.1), (0, a.2.1), (0, a.2.2.1), (0, a.2.2.2)]
def pre_G_X11_takes_ : Int × Int × Int × Int → Me_t → Prop := fun a σ => (MI σ)
def post_G_X11_takes_ : Int × Int × Int × Int → Me_t → Int → Me_t → Prop := fun a σ z σ' => (∀ k j : Int, ¬ ((93 ≤ k ∧ k ≤ 96) ∨ (99 ≤ k ∧ k ≤ 101)) → σ' k j = σ k j)
set_option maxHeartbeats 1500000 in
set_option maxRecDepth 100000 in
theorem ct_G_X11_takes_ (l : Launch) : CT_ l yX11_takes_ cX11_takes_ 8 (some .int) 4 94 as_G_X11_takes_ (rmI_) pre_G_X11_takes_ post_G_X11_takes_ := by
  refine ct_of (by decide) (fun _ => Nat.le_of_ble_eq_true rfl) ?_
  intro X G Q ad σ a hl hR E hG R hM hv hp
  obtain ⟨a1, a2, a3, a4⟩ := a
  have r_a1 : -2147483648 ≤ a1 ∧ a1 ≤ 2147483647 := hv (0, a1) (List.mem_of_getElem? (i := 1) rfl)
  have r_a2 : -2147483648 ≤ a2 ∧ a2 ≤ 2147483647 := hv (0, a2) (List.mem_of_getElem? (i := 2) rfl)
  have r_a3 : -2147483648 ≤ a3 ∧ a3 ≤ 2147483647 := hv (0, a3) (List.mem_of_getElem? (i := 3) rfl)
  have r_a4 : -2147483648 ≤ a4 ∧ a4 ≤ 2147483647 := hv (0, a4) (List.mem_of_getElem? (i := 4) rfl)
  have hp0 : MI σ := hp
  have B := @bk_ X G Q 0 0 ad SHS_ RX11 cX11_takes_ 8 (some .int) flX11 plX11 knX11 [(900, 5, TR_ as_G_X11_isGame (rmI_) pre_G_X11_isGame post_G_X11_isGame), (538, 1, TR_ as_G_X11_lay (rmV_) pre_G_X11_lay post_G_X11_lay), (906, 4, TR_ as_G_X11_play (rmV_) pre_G_X11_play post_G_X11_play), (508, 3, TR_ as_G_X11_mayOn (rmI_) pre_G_X11_mayOn post_G_X11_mayOn), (880, 3, TR_ as_G_X11_copy_100 (rmV_) pre_G_X11_copy_100 post_G_X11_copy_100), (873, 3, TOR_ (TR_ as_G_X11_bestTake_100 (rmI_) pre_G_X11_bestTake_100 post_G_X11_bestTake_100) (TR_ as_G_X11_bestTake_99 (rmI_) pre_G_X11_bestTake_99 post_G_X11_bestTake_99)), (889, 3, TR_ as_G_X11_turn_100 (rmV_) pre_G_X11_turn_100 post_G_X11_turn_100), (279, 2, TMIN_), (643, 2, TMAX_)] _ _ none kX11_takes_ [12, 22, 30, 40, 50, 64, 101, 136] flX11_ok plX11_ok knX11_ok eX11_takes_ oX11_takes_
    (List.forall_mem_cons.mpr ⟨cok_v (t := 32) (c := 11) (N := 39) (n := 4) (idx := 450) E (ct_G_X11_isGame X.2.1) (by rw [hR]; decide) (Nat.zero_le _) (Nat.zero_le _) hG rfl rfl ⟨rfl, by decide, by decide, by decide⟩ (fun _ => ⟨_, _, rfl, rfl⟩) wl_X11_450 wi_X11_isGame ws_X11_isGame wn_X11 wc_X11_isGame, List.forall_mem_cons.mpr ⟨cok_v (t := 32) (c := 11) (N := 39) (n := 0) (idx := 269) E (ct_G_X11_lay X.2.1) (by rw [hR]; decide) (Nat.zero_le _) (Nat.zero_le _) hG rfl rfl ⟨rfl, by decide, by decide, by decide⟩ (fun _ => ⟨_, _, rfl, rfl⟩) wl_X11_269 wi_X11_lay ws_X11_lay wn_X11 wc_X11_lay, List.forall_mem_cons.mpr ⟨cok_v (t := 32) (c := 11) (N := 39) (n := 3) (idx := 453) E (ct_G_X11_play X.2.1) (by rw [hR]; decide) (Nat.zero_le _) (Nat.zero_le _) hG rfl rfl ⟨rfl, by decide, by decide, by decide⟩ (fun _ => ⟨_, _, rfl, rfl⟩) wl_X11_453 wi_X11_play ws_X11_play wn_X11 wc_X11_play, List.forall_mem_cons.mpr ⟨cok_v (t := 32) (c := 11) (N := 39) (n := 2) (idx := 254) E (ct_G_X11_mayOn X.2.1) (by rw [hR]; decide) (Nat.zero_le _) (Nat.zero_le _) hG rfl rfl ⟨rfl, by decide, by decide, by decide⟩ (fun _ => ⟨_, _, rfl, rfl⟩) wl_X11_254 wi_X11_mayOn ws_X11_mayOn wn_X11 wc_X11_mayOn, List.forall_mem_cons.mpr ⟨cok_v (t := 32) (c := 11) (N := 39) (n := 2) (idx := 440) E (ct_G_X11_copy_100 X.2.1) (by rw [hR]; decide) (Nat.zero_le _) (Nat.zero_le _) hG rfl rfl ⟨rfl, by decide, by decide, by decide⟩ (fun _ => ⟨_, _, rfl, rfl⟩) wl_X11_440 wi_X11_copy ws_X11_copy wn_X11 wc_X11_copy, List.forall_mem_cons.mpr ⟨cok_or (cok_s (n := 3) (idx := 436) E (ct_G_X11_bestTake_100 X.2.1) (by rw [hR]; decide) (Nat.zero_le _) (Nat.zero_le _) hG ⟨by decide, by decide, by decide⟩ (fun _ => rfl) wl_X11_436 wt_X11_bestTake wn_X11 wc_X11_bestTake) (cok_s (n := 3) (idx := 436) E (ct_G_X11_bestTake_99 X.2.1) (by rw [hR]; decide) (Nat.zero_le _) (Nat.zero_le _) hG ⟨by decide, by decide, by decide⟩ (fun _ => rfl) wl_X11_436 wt_X11_bestTake wn_X11 wc_X11_bestTake), List.forall_mem_cons.mpr ⟨cok_s (n := 3) (idx := 444) E (ct_G_X11_turn_100 X.2.1) (by rw [hR]; decide) (Nat.zero_le _) (Nat.zero_le _) hG ⟨by decide, by decide, by decide⟩ (fun _ => rfl) wl_X11_444 wt_X11_turn wn_X11 wc_X11_turn, List.forall_mem_cons.mpr ⟨cok_min (idx := 139) E (by rw [hR]; decide) (Nat.zero_le _) (Nat.zero_le _) wl_X11_139, List.forall_mem_cons.mpr ⟨cok_max (idx := 321) E (by rw [hR]; decide) (Nat.zero_le _) (Nat.zero_le _) wl_X11_321, fun _ h => absurd h List.not_mem_nil⟩⟩⟩⟩⟩⟩⟩⟩⟩) R sok_no E
  show WP_ X G Q 0 0 ad SHS_ σ 0 [(42, 86), (0, a1), (0, a2), (0, a3), (0, a4), (9, 0), (9, 0), (9, 0)] []
  refine B rfl ?_
  have p1 : BW σ 87 := (hp0).1.1
  refine Exists.intro (a1, a2, a3, a4) (And.intro rfl (And.intro p1 ?_))
  rintro z2 m_ h3
  obtain rfl : σ = m_ := h3.2
  have h4 : (z2 = 1 ∧ 0 ≤ a1 ∧ a1 ≤ 2 ∧ 0 ≤ a2 ∧ a2 ≤ 2 ∧ a1 ≠ a2 ∧ 0 ≤ a3 ∧ a3 ≤ 1999 ∧ 1 ≤ a4 ∧ a4 ≤ 40) ∨ z2 = 0 := h3.1
  refine And.intro (fun h5 => ?_) (fun h5 => ?_)
  · skip
    refine B rfl ?_
    refine Exists.intro () (And.intro rfl (And.intro hp0 ?_))
    intro z6 σ8 h7
    have f9 : ∀ k j : Int, ¬ (93 ≤ k ∧ k ≤ 96) → σ8 k j = σ k j := h7.2
    have h10 : LY σ8 := h7.1
    show WP_ X G Q 0 0 ad SHS_ σ8 22 [(42, 86), (0, a1), (0, a2), (0, a3), (0, a4), (0, a3), (9, 0), (9, 0)] []
    refine wdrop_ (L' := [(42, 86), (0, a1), (0, a2), (9, 0), (0, a4), (0, a3), (9, 0), (9, 0)]) ⟨Or.inr rfl, ⟨Or.inr rfl, ⟨Or.inr rfl, ⟨Or.inl rfl, ⟨Or.inr rfl, ⟨Or.inr rfl, ⟨Or.inl rfl, ⟨Or.inl rfl, trivial⟩⟩⟩⟩⟩⟩⟩⟩ ?_
    have lp_22 : ∀ (nq_ : Nat) (v5 : Int), (a3 ≤ v5) → (v5 ≤ 2000) → (2000 - v5 : Int).toNat < nq_ → WP_ X G Q 0 0 ad SHS_ σ8 22 [(42, 86), (0, a1), (0, a2), (9, 0), (0, a4), (0, v5), (9, 0), (9, 0)] [] := by
      intro nq_
      induction nq_ with
      | zero => intros; omega
      | succ nq_ ih_22 =>
        intro v5 hi22_0 hi22_1 hm22
        refine B rfl ?_
        refine And.intro (fun h11 => ?_) (fun h11 => ?_)
        · skip
          refine B rfl ?_
          refine And.intro (fun h12 => ?_) (fun h12 => ?_)
          · skip
            refine B rfl ?_
            refine And.intro (by omega) ?_
            refine Exists.intro (a1, a2, v5 + 1) (And.intro rfl (And.intro (And.intro (by show 0 ≤ a1; omega) (And.intro (by show a1 ≤ 2; omega) (And.intro (by show 0 ≤ a2; omega) (And.intro (by show a2 ≤ 2; omega) (And.intro (by show 0 ≤ (v5 + 1); omega) (by show (v5 + 1) ≤ 2000; omega)))))) ?_))
            intro z13 σ15 h14
            have f16 : ∀ k j : Int, ¬ (99 ≤ k ∧ k ≤ 101) → σ15 k j = σ8 k j := h14
            refine Exists.intro a1 (Exists.intro a2 (And.intro rfl ?_))
            intro z17 hz17
            refine Exists.intro a1 (Exists.intro a2 (And.intro rfl ?_))
            intro z18 hz18
            refine Exists.intro (z17, v5) (And.intro rfl (And.intro (And.intro (by show 0 ≤ z17; omega) (And.intro (by show z17 ≤ 2; omega) (And.intro (by show 0 ≤ v5; omega) (by show v5 ≤ 1999; omega)))) ?_))
            rintro z19 m_ h20
            obtain rfl : σ15 = m_ := h20.2
            have h21 : (z19 = 1 ∧ σ15 96 (2000 * z17 + v5) = 0) ∨ (z19 = 0 ∧ σ15 96 (2000 * z17 + v5) ≠ 0) := h20.1
            try have t22 : σ15 96 (2000 * z17 + v5) = σ 96 (2000 * z17 + v5) := ((f16 _ _ (by omega)).trans (f9 _ _ (by omega)))
            refine And.intro (fun h23 => ?_) (fun h23 => ?_)
            · skip
              refine B rfl ?_
              refine Exists.intro () (And.intro rfl (And.intro True.intro ?_))
              intro z24 σ26 h25
              have f27 : ∀ k j : Int, ¬ (k = 100) → σ26 k j = σ15 k j := h25
              refine Exists.intro (z18, v5) (And.intro rfl (And.intro (And.intro (by show 0 ≤ z18; omega) (And.intro (by show z18 ≤ 2; omega) (And.intro (by show 0 ≤ v5; omega) (by show v5 ≤ 1999; omega)))) ?_))
              rintro z28 m_ h29
              obtain rfl : σ26 = m_ := h29.2
              have h30 : (z28 = 1 ∧ σ26 96 (2000 * z18 + v5) = 0) ∨ (z28 = 0 ∧ σ26 96 (2000 * z18 + v5) ≠ 0) := h29.1
              try have t31 : σ26 96 (2000 * z18 + v5) = σ 96 (2000 * z18 + v5) := ((f27 _ _ (by omega)).trans ((f16 _ _ (by omega)).trans (f9 _ _ (by omega))))
              refine And.intro (fun h32 => ?_) (fun h32 => ?_)
              · skip
                refine B rfl ?_
                refine Or.inl ?_
                refine Exists.intro (z17, a4) (And.intro rfl (And.intro (And.intro (by show 1 ≤ a4; omega) (by show a4 ≤ 40; omega)) ?_))
                rintro z33 m_ h34
                obtain rfl : σ26 = m_ := h34.2.2
                have h35 : z33 = 1 ∨ z33 = 2 := h34.1
                have h36 : z33 ≤ a4 := h34.2.1
                refine Exists.intro _ (And.intro rfl ?_)
                exact (fun k j hk => ((f27 _ _ (by omega)).trans ((f16 _ _ (by omega)).trans (f9 _ _ (by omega)))))
              · skip
                show WP_ X G Q 0 0 ad SHS_ σ26 136 [(42, 86), (0, a1), (0, a2), (9, 0), (0, a4), (0, v5), (0, z17), (0, z18)] []
                refine B rfl ?_
                refine Exists.intro z18 (And.intro rfl (And.intro True.intro ?_))
                intro z37 σ39 h38
                have f40 : ∀ k j : Int, ¬ (k = 100) → σ39 k j = σ26 k j := h38
                refine Or.inl ?_
                refine Exists.intro (z17, a4) (And.intro rfl (And.intro (And.intro (by show 1 ≤ a4; omega) (by show a4 ≤ 40; omega)) ?_))
                rintro z41 m_ h42
                obtain rfl : σ39 = m_ := h42.2.2
                have h43 : z41 = 1 ∨ z41 = 2 := h42.1
                have h44 : z41 ≤ a4 := h42.2.1
                refine Exists.intro _ (And.intro rfl ?_)
                exact (fun k j hk => ((f40 _ _ (by omega)).trans ((f27 _ _ (by omega)).trans ((f16 _ _ (by omega)).trans (f9 _ _ (by omega))))))
            · skip
              show WP_ X G Q 0 0 ad SHS_ σ15 101 [(42, 86), (0, a1), (0, a2), (9, 0), (0, a4), (0, v5), (0, z17), (0, z18)] []
              refine B rfl ?_
              refine Or.inr ?_
              refine Exists.intro (z18, a4) (And.intro rfl (And.intro (And.intro (by show 1 ≤ a4; omega) (by show a4 ≤ 40; omega)) ?_))
              rintro z45 m_ h46
              obtain rfl : σ15 = m_ := h46.2.2
              have h47 : z45 = 1 ∨ z45 = 2 := h46.1
              have h48 : z45 ≤ a4 := h46.2.1
              refine Exists.intro _ (And.intro rfl ?_)
              exact (fun k j hk => ((f16 _ _ (by omega)).trans (f9 _ _ (by omega))))
          · skip
            show WP_ X G Q 0 0 ad SHS_ σ8 64 [(42, 86), (0, a1), (0, a2), (9, 0), (0, a4), (0, v5), (9, 0), (9, 0)] []
            refine B rfl ?_
            refine Exists.intro _ (And.intro rfl ?_)
            exact (fun k j hk => (f9 _ _ (by omega)))
        · skip
          show WP_ X G Q 0 0 ad SHS_ σ8 30 [(42, 86), (0, a1), (0, a2), (9, 0), (0, a4), (0, v5), (9, 0), (9, 0)] []
          refine B rfl ?_
          refine Exists.intro (a1, v5) (And.intro rfl (And.intro (And.intro (by show 0 ≤ a1; omega) (And.intro (by show a1 ≤ 2; omega) (And.intro (by show 0 ≤ v5; omega) (by show v5 ≤ 1999; omega)))) ?_))
          rintro z49 m_ h50
          obtain rfl : σ8 = m_ := h50.2
          have h51 : (z49 = 1 ∧ σ8 96 (2000 * a1 + v5) = 0) ∨ (z49 = 0 ∧ σ8 96 (2000 * a1 + v5) ≠ 0) := h50.1
          try have t52 : σ8 96 (2000 * a1 + v5) = σ 96 (2000 * a1 + v5) := (f9 _ _ (by omega))
          refine And.intro (fun h53 => ?_) (fun h53 => ?_)
          · skip
            refine B rfl ?_
            refine And.intro (fun h54 => ?_) (fun h54 => ?_)
            · skip
              refine B rfl ?_
              refine And.intro (by omega) ?_
              refine Exists.intro (a1, a2, v5 + 1) (And.intro rfl (And.intro (And.intro (by show 0 ≤ a1; omega) (And.intro (by show a1 ≤ 2; omega) (And.intro (by show 0 ≤ a2; omega) (And.intro (by show a2 ≤ 2; omega) (And.intro (by show 0 ≤ (v5 + 1); omega) (by show (v5 + 1) ≤ 2000; omega)))))) ?_))
              intro z55 σ57 h56
              have f58 : ∀ k j : Int, ¬ (99 ≤ k ∧ k ≤ 101) → σ57 k j = σ8 k j := h56
              refine Exists.intro a1 (Exists.intro a2 (And.intro rfl ?_))
              intro z59 hz59
              refine Exists.intro a1 (Exists.intro a2 (And.intro rfl ?_))
              intro z60 hz60
              refine Exists.intro (z59, v5) (And.intro rfl (And.intro (And.intro (by show 0 ≤ z59; omega) (And.intro (by show z59 ≤ 2; omega) (And.intro (by show 0 ≤ v5; omega) (by show v5 ≤ 1999; omega)))) ?_))
              rintro z61 m_ h62
              obtain rfl : σ57 = m_ := h62.2
              have h63 : (z61 = 1 ∧ σ57 96 (2000 * z59 + v5) = 0) ∨ (z61 = 0 ∧ σ57 96 (2000 * z59 + v5) ≠ 0) := h62.1
              try have t64 : σ57 96 (2000 * z59 + v5) = σ 96 (2000 * z59 + v5) := ((f58 _ _ (by omega)).trans (f9 _ _ (by omega)))
              refine And.intro (fun h65 => ?_) (fun h65 => ?_)
              · skip
                refine B rfl ?_
                refine Exists.intro () (And.intro rfl (And.intro True.intro ?_))
                intro z66 σ68 h67
                have f69 : ∀ k j : Int, ¬ (k = 100) → σ68 k j = σ57 k j := h67
                refine Exists.intro (z60, v5) (And.intro rfl (And.intro (And.intro (by show 0 ≤ z60; omega) (And.intro (by show z60 ≤ 2; omega) (And.intro (by show 0 ≤ v5; omega) (by show v5 ≤ 1999; omega)))) ?_))
                rintro z70 m_ h71
                obtain rfl : σ68 = m_ := h71.2
                have h72 : (z70 = 1 ∧ σ68 96 (2000 * z60 + v5) = 0) ∨ (z70 = 0 ∧ σ68 96 (2000 * z60 + v5) ≠ 0) := h71.1
                try have t73 : σ68 96 (2000 * z60 + v5) = σ 96 (2000 * z60 + v5) := ((f69 _ _ (by omega)).trans ((f58 _ _ (by omega)).trans (f9 _ _ (by omega))))
                refine And.intro (fun h74 => ?_) (fun h74 => ?_)
                · skip
                  refine B rfl ?_
                  refine Or.inl ?_
                  refine Exists.intro (z59, a4) (And.intro rfl (And.intro (And.intro (by show 1 ≤ a4; omega) (by show a4 ≤ 40; omega)) ?_))
                  rintro z75 m_ h76
                  obtain rfl : σ68 = m_ := h76.2.2
                  have h77 : z75 = 1 ∨ z75 = 2 := h76.1
                  have h78 : z75 ≤ a4 := h76.2.1
                  refine Exists.intro _ (And.intro rfl ?_)
                  exact (fun k j hk => ((f69 _ _ (by omega)).trans ((f58 _ _ (by omega)).trans (f9 _ _ (by omega)))))
                · skip
                  show WP_ X G Q 0 0 ad SHS_ σ68 136 [(42, 86), (0, a1), (0, a2), (9, 0), (0, a4), (0, v5), (0, z59), (0, z60)] []
                  refine B rfl ?_
                  refine Exists.intro z60 (And.intro rfl (And.intro True.intro ?_))
                  intro z79 σ81 h80
                  have f82 : ∀ k j : Int, ¬ (k = 100) → σ81 k j = σ68 k j := h80
                  refine Or.inl ?_
                  refine Exists.intro (z59, a4) (And.intro rfl (And.intro (And.intro (by show 1 ≤ a4; omega) (by show a4 ≤ 40; omega)) ?_))
                  rintro z83 m_ h84
                  obtain rfl : σ81 = m_ := h84.2.2
                  have h85 : z83 = 1 ∨ z83 = 2 := h84.1
                  have h86 : z83 ≤ a4 := h84.2.1
                  refine Exists.intro _ (And.intro rfl ?_)
                  exact (fun k j hk => ((f82 _ _ (by omega)).trans ((f69 _ _ (by omega)).trans ((f58 _ _ (by omega)).trans (f9 _ _ (by omega))))))
              · skip
                show WP_ X G Q 0 0 ad SHS_ σ57 101 [(42, 86), (0, a1), (0, a2), (9, 0), (0, a4), (0, v5), (0, z59), (0, z60)] []
                refine B rfl ?_
                refine Or.inr ?_
                refine Exists.intro (z60, a4) (And.intro rfl (And.intro (And.intro (by show 1 ≤ a4; omega) (by show a4 ≤ 40; omega)) ?_))
                rintro z87 m_ h88
                obtain rfl : σ57 = m_ := h88.2.2
                have h89 : z87 = 1 ∨ z87 = 2 := h88.1
                have h90 : z87 ≤ a4 := h88.2.1
                refine Exists.intro _ (And.intro rfl ?_)
                exact (fun k j hk => ((f58 _ _ (by omega)).trans (f9 _ _ (by omega))))
            · skip
              show WP_ X G Q 0 0 ad SHS_ σ8 64 [(42, 86), (0, a1), (0, a2), (9, 0), (0, a4), (0, v5), (9, 0), (9, 0)] []
              refine B rfl ?_
              refine Exists.intro _ (And.intro rfl ?_)
              exact (fun k j hk => (f9 _ _ (by omega)))
          · skip
            show WP_ X G Q 0 0 ad SHS_ σ8 40 [(42, 86), (0, a1), (0, a2), (9, 0), (0, a4), (0, v5), (9, 0), (9, 0)] []
            refine B rfl ?_
            refine Exists.intro (a2, v5) (And.intro rfl (And.intro (And.intro (by show 0 ≤ a2; omega) (And.intro (by show a2 ≤ 2; omega) (And.intro (by show 0 ≤ v5; omega) (by show v5 ≤ 1999; omega)))) ?_))
            rintro z91 m_ h92
            obtain rfl : σ8 = m_ := h92.2
            have h93 : (z91 = 1 ∧ σ8 96 (2000 * a2 + v5) = 0) ∨ (z91 = 0 ∧ σ8 96 (2000 * a2 + v5) ≠ 0) := h92.1
            try have t94 : σ8 96 (2000 * a2 + v5) = σ 96 (2000 * a2 + v5) := (f9 _ _ (by omega))
            refine And.intro (fun h95 => ?_) (fun h95 => ?_)
            · skip
              refine B rfl ?_
              refine And.intro (fun h96 => ?_) (fun h96 => ?_)
              · skip
                refine B rfl ?_
                refine And.intro (by omega) ?_
                refine Exists.intro (a1, a2, v5 + 1) (And.intro rfl (And.intro (And.intro (by show 0 ≤ a1; omega) (And.intro (by show a1 ≤ 2; omega) (And.intro (by show 0 ≤ a2; omega) (And.intro (by show a2 ≤ 2; omega) (And.intro (by show 0 ≤ (v5 + 1); omega) (by show (v5 + 1) ≤ 2000; omega)))))) ?_))
                intro z97 σ99 h98
                have f100 : ∀ k j : Int, ¬ (99 ≤ k ∧ k ≤ 101) → σ99 k j = σ8 k j := h98
                refine Exists.intro a1 (Exists.intro a2 (And.intro rfl ?_))
                intro z101 hz101
                refine Exists.intro a1 (Exists.intro a2 (And.intro rfl ?_))
                intro z102 hz102
                refine Exists.intro (z101, v5) (And.intro rfl (And.intro (And.intro (by show 0 ≤ z101; omega) (And.intro (by show z101 ≤ 2; omega) (And.intro (by show 0 ≤ v5; omega) (by show v5 ≤ 1999; omega)))) ?_))
                rintro z103 m_ h104
                obtain rfl : σ99 = m_ := h104.2
                have h105 : (z103 = 1 ∧ σ99 96 (2000 * z101 + v5) = 0) ∨ (z103 = 0 ∧ σ99 96 (2000 * z101 + v5) ≠ 0) := h104.1
                try have t106 : σ99 96 (2000 * z101 + v5) = σ 96 (2000 * z101 + v5) := ((f100 _ _ (by omega)).trans (f9 _ _ (by omega)))
                refine And.intro (fun h107 => ?_) (fun h107 => ?_)
                · skip
                  refine B rfl ?_
                  refine Exists.intro () (And.intro rfl (And.intro True.intro ?_))
                  intro z108 σ110 h109
                  have f111 : ∀ k j : Int, ¬ (k = 100) → σ110 k j = σ99 k j := h109
                  refine Exists.intro (z102, v5) (And.intro rfl (And.intro (And.intro (by show 0 ≤ z102; omega) (And.intro (by show z102 ≤ 2; omega) (And.intro (by show 0 ≤ v5; omega) (by show v5 ≤ 1999; omega)))) ?_))
                  rintro z112 m_ h113
                  obtain rfl : σ110 = m_ := h113.2
                  have h114 : (z112 = 1 ∧ σ110 96 (2000 * z102 + v5) = 0) ∨ (z112 = 0 ∧ σ110 96 (2000 * z102 + v5) ≠ 0) := h113.1
                  try have t115 : σ110 96 (2000 * z102 + v5) = σ 96 (2000 * z102 + v5) := ((f111 _ _ (by omega)).trans ((f100 _ _ (by omega)).trans (f9 _ _ (by omega))))
                  refine And.intro (fun h116 => ?_) (fun h116 => ?_)
                  · skip
                    refine B rfl ?_
                    refine Or.inl ?_
                    refine Exists.intro (z101, a4) (And.intro rfl (And.intro (And.intro (by show 1 ≤ a4; omega) (by show a4 ≤ 40; omega)) ?_))
                    rintro z117 m_ h118
                    obtain rfl : σ110 = m_ := h118.2.2
                    have h119 : z117 = 1 ∨ z117 = 2 := h118.1
                    have h120 : z117 ≤ a4 := h118.2.1
                    refine Exists.intro _ (And.intro rfl ?_)
                    exact (fun k j hk => ((f111 _ _ (by omega)).trans ((f100 _ _ (by omega)).trans (f9 _ _ (by omega)))))
                  · skip
                    show WP_ X G Q 0 0 ad SHS_ σ110 136 [(42, 86), (0, a1), (0, a2), (9, 0), (0, a4), (0, v5), (0, z101), (0, z102)] []
                    refine B rfl ?_
                    refine Exists.intro z102 (And.intro rfl (And.intro True.intro ?_))
                    intro z121 σ123 h122
                    have f124 : ∀ k j : Int, ¬ (k = 100) → σ123 k j = σ110 k j := h122
                    refine Or.inl ?_
                    refine Exists.intro (z101, a4) (And.intro rfl (And.intro (And.intro (by show 1 ≤ a4; omega) (by show a4 ≤ 40; omega)) ?_))
                    rintro z125 m_ h126
                    obtain rfl : σ123 = m_ := h126.2.2
                    have h127 : z125 = 1 ∨ z125 = 2 := h126.1
                    have h128 : z125 ≤ a4 := h126.2.1
                    refine Exists.intro _ (And.intro rfl ?_)
                    exact (fun k j hk => ((f124 _ _ (by omega)).trans ((f111 _ _ (by omega)).trans ((f100 _ _ (by omega)).trans (f9 _ _ (by omega))))))
                · skip
                  show WP_ X G Q 0 0 ad SHS_ σ99 101 [(42, 86), (0, a1), (0, a2), (9, 0), (0, a4), (0, v5), (0, z101), (0, z102)] []
                  refine B rfl ?_
                  refine Or.inr ?_
                  refine Exists.intro (z102, a4) (And.intro rfl (And.intro (And.intro (by show 1 ≤ a4; omega) (by show a4 ≤ 40; omega)) ?_))
                  rintro z129 m_ h130
                  obtain rfl : σ99 = m_ := h130.2.2
                  have h131 : z129 = 1 ∨ z129 = 2 := h130.1
                  have h132 : z129 ≤ a4 := h130.2.1
                  refine Exists.intro _ (And.intro rfl ?_)
                  exact (fun k j hk => ((f100 _ _ (by omega)).trans (f9 _ _ (by omega))))
              · skip
                show WP_ X G Q 0 0 ad SHS_ σ8 64 [(42, 86), (0, a1), (0, a2), (9, 0), (0, a4), (0, v5), (9, 0), (9, 0)] []
                refine B rfl ?_
                refine Exists.intro _ (And.intro rfl ?_)
                exact (fun k j hk => (f9 _ _ (by omega)))
            · skip
              show WP_ X G Q 0 0 ad SHS_ σ8 50 [(42, 86), (0, a1), (0, a2), (9, 0), (0, a4), (0, v5), (9, 0), (9, 0)] []
              refine B rfl ?_
              refine And.intro (by omega) ?_
              exact ih_22 (v5 + 1) (by show a3 ≤ (v5 + 1); omega) (by show (v5 + 1) ≤ 2000; omega) (by omega)
    exact lp_22 ((2000 - a3 : Int).toNat + 1) a3 (by show a3 ≤ a3; omega) (by show a3 ≤ 2000; omega) (by omega)
  · skip
    show WP_ X G Q 0 0 ad SHS_ σ 12 [(42, 86), (0, a1), (0, a2), (0, a3), (0, a4), (9, 0), (9, 0), (9, 0)] []
    refine B rfl ?_
    refine Exists.intro _ (And.intro rfl ?_)
    exact (fun k j hk => rfl)
def as_G_X11_land : Int × Int → List Sv_t := fun a => [(42, 86), (0, a.1), (0, a.2)]
def pre_G_X11_land : Int × Int → Me_t → Prop := fun a σ => (MI σ)
def post_G_X11_land : Int × Int → Me_t → Int → Me_t → Prop := fun a σ z σ' => (σ = σ')
set_option maxHeartbeats 1500000 in
set_option maxRecDepth 100000 in
theorem ct_G_X11_land (l : Launch) : CT_ l yX11_land cX11_land 3 (some .int) 2 47 as_G_X11_land (rmI_) pre_G_X11_land post_G_X11_land := by
  refine ct_of (by decide) (fun _ => Nat.le_of_ble_eq_true rfl) ?_
  intro X G Q ad σ a hl hR E hG R hM hv hp
  obtain ⟨a1, a2⟩ := a
  have r_a1 : -2147483648 ≤ a1 ∧ a1 ≤ 2147483647 := hv (0, a1) (List.mem_of_getElem? (i := 1) rfl)
  have r_a2 : -2147483648 ≤ a2 ∧ a2 ≤ 2147483647 := hv (0, a2) (List.mem_of_getElem? (i := 2) rfl)
  have hp0 : MI σ := hp
  have B := @bk_ X G Q 0 0 ad SHS_ RX11 cX11_land 3 (some .int) flX11 plX11 knX11 [(166, 2, TR_ as_G_X11_isLand (rmI_) pre_G_X11_isLand post_G_X11_isLand), (159, 3, TR_ as_G_X11_in (rmI_) pre_G_X11_in post_G_X11_in), (200, 3, TR_ as_G_X11_of_x (rmI_) pre_G_X11_of_x post_G_X11_of_x)] _ _ none kX11_land [] flX11_ok plX11_ok knX11_ok eX11_land oX11_land
    (List.forall_mem_cons.mpr ⟨cok_v (t := 32) (c := 11) (N := 39) (n := 1) (idx := 83) E (ct_G_X11_isLand X.2.1) (by rw [hR]; decide) (Nat.zero_le _) (Nat.zero_le _) hG rfl rfl ⟨rfl, by decide, by decide, by decide⟩ (fun _ => ⟨_, _, rfl, rfl⟩) wl_X11_83 wi_X11_isLand ws_X11_isLand wn_X11 wc_X11_isLand, List.forall_mem_cons.mpr ⟨cok_s (n := 3) (idx := 79) E (ct_G_X11_in X.2.1) (by rw [hR]; decide) (Nat.zero_le _) (Nat.zero_le _) hG ⟨by decide, by decide, by decide⟩ (fun _ => rfl) wl_X11_79 wt_X11_in wn_X11 wc_X11_in, List.forall_mem_cons.mpr ⟨cok_v (t := 32) (c := 11) (N := 39) (n := 2) (idx := 100) E (ct_G_X11_of_x X.2.1) (by rw [hR]; decide) (Nat.zero_le _) (Nat.zero_le _) hG rfl rfl ⟨rfl, by decide, by decide, by decide⟩ (fun _ => ⟨_, _, rfl, rfl⟩) wl_X11_100 wi_X11_of ws_X11_of wn_X11 wc_X11_of, fun _ h => absurd h List.not_mem_nil⟩⟩⟩) R sok_no E
  show WP_ X G Q 0 0 ad SHS_ σ 0 [(42, 86), (0, a1), (0, a2)] []
  refine B rfl ?_
  have p1 : BW σ 87 := (hp0).1.1
  refine Exists.intro a1 (And.intro rfl (And.intro p1 ?_))
  rintro z2 m_ h3
  obtain rfl : σ = m_ := h3.2
  have h4 : (z2 = 1 ∧ 0 ≤ a1 ∧ a1 ≤ 2 ∧ a1 < σ 87 1) ∨ z2 = 0 := h3.1
  refine And.intro (fun h5 => ?_) (fun h5 => ?_)
  · skip
    refine B rfl ?_
    refine Exists.intro _ (And.intro rfl ?_)
    exact rfl
  · skip
    refine Exists.intro (a2, 0, 6) (And.intro rfl (And.intro True.intro ?_))
    rintro z6 m_ h7
    obtain rfl : σ = m_ := h7.2
    have h8 : (z6 = 1 ∧ 0 ≤ a2 ∧ a2 ≤ 6) ∨ (z6 = 0 ∧ ¬ (0 ≤ a2 ∧ a2 ≤ 6)) := h7.1
    refine And.intro (fun h9 => ?_) (fun h9 => ?_)
    · skip
      refine B rfl ?_
      refine Exists.intro _ (And.intro rfl ?_)
      exact rfl
    · skip
      refine Exists.intro (a1, a2) (And.intro rfl (And.intro (And.intro p1 (And.intro (by show 0 ≤ a1; omega) (And.intro (by show a1 ≤ 2; omega) (And.intro (by show 0 ≤ a2; omega) (by show a2 ≤ 14; omega))))) ?_))
      rintro z10 m_ h11
      obtain rfl : σ = m_ := h11.2.2.2
      have h12 : z10 = σ 87 (6 + 15 * a1 + a2) := h11.1
      have h13 : -1 ≤ z10 ∧ z10 ≤ 1999 := h11.2.1
      have h14 : 7 ≤ a2 → 0 ≤ z10 ∧ z10 ≤ 60 := h11.2.2.1
      refine B rfl ?_
      refine Exists.intro _ (And.intro rfl ?_)
      exact rfl
def as_G_X11_month : Int × Int × Int → List Sv_t := fun a => [(42, 86), (0, a.1), (0, a.2.1), (0, a.2.2)]
def pre_G_X11_month : Int × Int × Int → Me_t → Prop := fun a σ => (MI σ)
def post_G_X11_month : Int × Int × Int → Me_t → Int → Me_t → Prop := fun a σ z σ' => (σ = σ')
set_option maxHeartbeats 1500000 in
set_option maxRecDepth 100000 in
theorem ct_G_X11_month (l : Launch) : CT_ l yX11_month cX11_month 4 (some .int) 2 48 as_G_X11_month (rmI_) pre_G_X11_month post_G_X11_month := by
  refine ct_of (by decide) (fun _ => Nat.le_of_ble_eq_true rfl) ?_
  intro X G Q ad σ a hl hR E hG R hM hv hp
  obtain ⟨a1, a2, a3⟩ := a
  have r_a1 : -2147483648 ≤ a1 ∧ a1 ≤ 2147483647 := hv (0, a1) (List.mem_of_getElem? (i := 1) rfl)
  have r_a2 : -2147483648 ≤ a2 ∧ a2 ≤ 2147483647 := hv (0, a2) (List.mem_of_getElem? (i := 2) rfl)
  have r_a3 : -2147483648 ≤ a3 ∧ a3 ≤ 2147483647 := hv (0, a3) (List.mem_of_getElem? (i := 3) rfl)
  have hp0 : MI σ := hp
  have B := @bk_ X G Q 0 0 ad SHS_ RX11 cX11_month 4 (some .int) flX11 plX11 knX11 [(166, 2, TR_ as_G_X11_isLand (rmI_) pre_G_X11_isLand post_G_X11_isLand), (520, 3, TR_ as_G_X11_isMonth (rmI_) pre_G_X11_isMonth post_G_X11_isMonth), (529, 1, TR_ as_G_X11_isYear (rmI_) pre_G_X11_isYear post_G_X11_isYear), (208, 4, TR_ as_G_X11_lengthOf (rmI_) pre_G_X11_lengthOf post_G_X11_lengthOf)] _ _ none kX11_month [] flX11_ok plX11_ok knX11_ok eX11_month oX11_month
    (List.forall_mem_cons.mpr ⟨cok_v (t := 32) (c := 11) (N := 39) (n := 1) (idx := 83) E (ct_G_X11_isLand X.2.1) (by rw [hR]; decide) (Nat.zero_le _) (Nat.zero_le _) hG rfl rfl ⟨rfl, by decide, by decide, by decide⟩ (fun _ => ⟨_, _, rfl, rfl⟩) wl_X11_83 wi_X11_isLand ws_X11_isLand wn_X11 wc_X11_isLand, List.forall_mem_cons.mpr ⟨cok_v (t := 32) (c := 11) (N := 39) (n := 2) (idx := 260) E (ct_G_X11_isMonth X.2.1) (by rw [hR]; decide) (Nat.zero_le _) (Nat.zero_le _) hG rfl rfl ⟨rfl, by decide, by decide, by decide⟩ (fun _ => ⟨_, _, rfl, rfl⟩) wl_X11_260 wi_X11_isMonth ws_X11_isMonth wn_X11 wc_X11_isMonth, List.forall_mem_cons.mpr ⟨cok_s (n := 1) (idx := 264) E (ct_G_X11_isYear X.2.1) (by rw [hR]; decide) (Nat.zero_le _) (Nat.zero_le _) hG ⟨by decide, by decide, by decide⟩ (fun _ => rfl) wl_X11_264 wt_X11_isYear wn_X11 wc_X11_isYear, List.forall_mem_cons.mpr ⟨cok_v (t := 32) (c := 11) (N := 39) (n := 3) (idx := 104) E (ct_G_X11_lengthOf X.2.1) (by rw [hR]; decide) (Nat.zero_le _) (Nat.zero_le _) hG rfl rfl ⟨rfl, by decide, by decide, by decide⟩ (fun _ => ⟨_, _, rfl, rfl⟩) wl_X11_104 wi_X11_lengthOf ws_X11_lengthOf wn_X11 wc_X11_lengthOf, fun _ h => absurd h List.not_mem_nil⟩⟩⟩⟩) R sok_no E
  show WP_ X G Q 0 0 ad SHS_ σ 0 [(42, 86), (0, a1), (0, a2), (0, a3)] []
  refine B rfl ?_
  have p1 : BW σ 87 := (hp0).1.1
  refine Exists.intro a1 (And.intro rfl (And.intro p1 ?_))
  rintro z2 m_ h3
  obtain rfl : σ = m_ := h3.2
  have h4 : (z2 = 1 ∧ 0 ≤ a1 ∧ a1 ≤ 2 ∧ a1 < σ 87 1) ∨ z2 = 0 := h3.1
  refine And.intro (fun h5 => ?_) (fun h5 => ?_)
  · skip
    refine B rfl ?_
    refine Exists.intro _ (And.intro rfl ?_)
    exact rfl
  · skip
    refine Exists.intro (a1, a2) (And.intro rfl (And.intro (And.intro p1 (And.intro (by show 0 ≤ a1; omega) (by show a1 ≤ 2; omega))) ?_))
    rintro z6 m_ h7
    obtain rfl : σ = m_ := h7.2
    have h8 : (z6 = 1 ∧ 0 ≤ a2 ∧ a2 ≤ 7 ∧ a2 < σ 87 (6 + 15 * a1 + 3)) ∨ z6 = 0 := h7.1
    refine And.intro (fun h9 => ?_) (fun h9 => ?_)
    · skip
      refine B rfl ?_
      refine Exists.intro _ (And.intro rfl ?_)
      exact rfl
    · skip
      refine Exists.intro a3 (And.intro rfl (And.intro True.intro ?_))
      rintro z10 m_ h11
      obtain rfl : σ = m_ := h11.2
      have h12 : (z10 = 1 ∧ 0 ≤ a3 ∧ a3 ≤ 1999) ∨ z10 = 0 := h11.1
      refine And.intro (fun h13 => ?_) (fun h13 => ?_)
      · skip
        refine B rfl ?_
        refine Exists.intro _ (And.intro rfl ?_)
        exact rfl
      · skip
        refine Exists.intro (a1, a2, a3) (And.intro rfl (And.intro (And.intro p1 (And.intro (by show 0 ≤ a1; omega) (And.intro (by show a1 ≤ 2; omega) (And.intro (by show 0 ≤ a2; omega) (And.intro (by show a2 ≤ 7; omega) (by show 0 ≤ a3; omega)))))) ?_))
        rintro z14 m_ h15
        obtain rfl : σ = m_ := h15.2.2
        have h16 : z14 = lenF_ (σ 87) a1 a2 a3 := h15.1
        have h17 : 0 ≤ z14 ∧ z14 ≤ 69 := h15.2.1
        refine B rfl ?_
        refine Exists.intro _ (And.intro rfl ?_)
        exact rfl
def as_G_X11_feast : Int × Int → List Sv_t := fun a => [(42, 86), (0, a.1), (0, a.2)]
def pre_G_X11_feast : Int × Int → Me_t → Prop := fun a σ => (MI σ)
def post_G_X11_feast : Int × Int → Me_t → Int → Me_t → Prop := fun a σ z σ' => (σ = σ')
set_option maxHeartbeats 1500000 in
set_option maxRecDepth 100000 in
theorem ct_G_X11_feast (l : Launch) : CT_ l yX11_feast cX11_feast 3 (some .int) 1 25 as_G_X11_feast (rmI_) pre_G_X11_feast post_G_X11_feast := by
  refine ct_of (by decide) (fun _ => Nat.le_of_ble_eq_true rfl) ?_
  intro X G Q ad σ a hl hR E hG R hM hv hp
  obtain ⟨a1, a2⟩ := a
  have r_a1 : -2147483648 ≤ a1 ∧ a1 ≤ 2147483647 := hv (0, a1) (List.mem_of_getElem? (i := 1) rfl)
  have r_a2 : -2147483648 ≤ a2 ∧ a2 ≤ 2147483647 := hv (0, a2) (List.mem_of_getElem? (i := 2) rfl)
  have hp0 : MI σ := hp
  have B := @bk_ X G Q 0 0 ad SHS_ RX11 cX11_feast 3 (some .int) flX11 plX11 knX11 [(159, 3, TR_ as_G_X11_in (rmI_) pre_G_X11_in post_G_X11_in), (484, 3, TR_ as_G_X11_ofFeast (rmI_) pre_G_X11_ofFeast post_G_X11_ofFeast)] _ _ none kX11_feast [] flX11_ok plX11_ok knX11_ok eX11_feast oX11_feast
    (List.forall_mem_cons.mpr ⟨cok_s (n := 3) (idx := 79) E (ct_G_X11_in X.2.1) (by rw [hR]; decide) (Nat.zero_le _) (Nat.zero_le _) hG ⟨by decide, by decide, by decide⟩ (fun _ => rfl) wl_X11_79 wt_X11_in wn_X11 wc_X11_in, List.forall_mem_cons.mpr ⟨cok_v (t := 32) (c := 11) (N := 39) (n := 2) (idx := 242) E (ct_G_X11_ofFeast X.2.1) (by rw [hR]; decide) (Nat.zero_le _) (Nat.zero_le _) hG rfl rfl ⟨rfl, by decide, by decide, by decide⟩ (fun _ => ⟨_, _, rfl, rfl⟩) wl_X11_242 wi_X11_ofFeast ws_X11_ofFeast wn_X11 wc_X11_ofFeast, fun _ h => absurd h List.not_mem_nil⟩⟩) R sok_no E
  show WP_ X G Q 0 0 ad SHS_ σ 0 [(42, 86), (0, a1), (0, a2)] []
  refine B rfl ?_
  refine And.intro (by omega) ?_
  intro z1 ez1 hz1
  have hz1 : ((-1) : Int) ≤ z1 ∧ z1 ≤ (1999 : Int) := hz1
  have p2 : BW σ 87 := (hp0).1.1
  have b3 := wrh_ p2 (i := 2) (by omega)
  have b3 : (0 : Int) ≤ σ 87 2 ∧ σ 87 2 ≤ (12 : Int) := b3
  refine And.intro (by omega) ?_
  refine Exists.intro (a1, 0, z1 - 1) (And.intro rfl (And.intro True.intro ?_))
  rintro z4 m_ h5
  obtain rfl : σ = m_ := h5.2
  have h6 : (z4 = 1 ∧ 0 ≤ a1 ∧ a1 ≤ (z1 - 1)) ∨ (z4 = 0 ∧ ¬ (0 ≤ a1 ∧ a1 ≤ (z1 - 1))) := h5.1
  refine And.intro (fun h7 => ?_) (fun h7 => ?_)
  · skip
    refine B rfl ?_
    refine Exists.intro _ (And.intro rfl ?_)
    exact rfl
  · skip
    refine Exists.intro (a2, 0, 3) (And.intro rfl (And.intro True.intro ?_))
    rintro z8 m_ h9
    obtain rfl : σ = m_ := h9.2
    have h10 : (z8 = 1 ∧ 0 ≤ a2 ∧ a2 ≤ 3) ∨ (z8 = 0 ∧ ¬ (0 ≤ a2 ∧ a2 ≤ 3)) := h9.1
    refine And.intro (fun h11 => ?_) (fun h11 => ?_)
    · skip
      refine B rfl ?_
      refine Exists.intro _ (And.intro rfl ?_)
      exact rfl
    · skip
      refine Exists.intro (a1, a2) (And.intro rfl (And.intro (And.intro p2 (And.intro (by show 0 ≤ a1; omega) (And.intro (by show a1 ≤ 11; omega) (And.intro (by show 0 ≤ a2; omega) (by show a2 ≤ 3; omega))))) ?_))
      rintro z12 m_ h13
      obtain rfl : σ = m_ := h13.2.2
      have h14 : 0 ≤ z12 ∧ z12 ≤ 59 := h13.1
      have h15 : z12 ≤ fthi_ a2 := h13.2.1
      refine B rfl ?_
      refine Exists.intro _ (And.intro rfl ?_)
      exact rfl
def as_G_X11_truce : Int × Int → List Sv_t := fun a => [(42, 86), (0, a.1), (0, a.2)]
def pre_G_X11_truce : Int × Int → Me_t → Prop := fun a σ => (MI σ)
def post_G_X11_truce : Int × Int → Me_t → Int → Me_t → Prop := fun a σ z σ' => (σ = σ')
set_option maxHeartbeats 1500000 in
set_option maxRecDepth 100000 in
theorem ct_G_X11_truce (l : Launch) : CT_ l yX11_truce cX11_truce 3 (some .int) 1 25 as_G_X11_truce (rmI_) pre_G_X11_truce post_G_X11_truce := by
  refine ct_of (by decide) (fun _ => Nat.le_of_ble_eq_true rfl) ?_
  intro X G Q ad σ a hl hR E hG R hM hv hp
  obtain ⟨a1, a2⟩ := a
  have r_a1 : -2147483648 ≤ a1 ∧ a1 ≤ 2147483647 := hv (0, a1) (List.mem_of_getElem? (i := 1) rfl)
  have r_a2 : -2147483648 ≤ a2 ∧ a2 ≤ 2147483647 := hv (0, a2) (List.mem_of_getElem? (i := 2) rfl)
  have hp0 : MI σ := hp
  have B := @bk_ X G Q 0 0 ad SHS_ RX11 cX11_truce 3 (some .int) flX11 plX11 knX11 [(159, 3, TR_ as_G_X11_in (rmI_) pre_G_X11_in post_G_X11_in), (490, 3, TR_ as_G_X11_ofTruce (rmI_) pre_G_X11_ofTruce post_G_X11_ofTruce)] _ _ none kX11_truce [] flX11_ok plX11_ok knX11_ok eX11_truce oX11_truce
    (List.forall_mem_cons.mpr ⟨cok_s (n := 3) (idx := 79) E (ct_G_X11_in X.2.1) (by rw [hR]; decide) (Nat.zero_le _) (Nat.zero_le _) hG ⟨by decide, by decide, by decide⟩ (fun _ => rfl) wl_X11_79 wt_X11_in wn_X11 wc_X11_in, List.forall_mem_cons.mpr ⟨cok_v (t := 32) (c := 11) (N := 39) (n := 2) (idx := 245) E (ct_G_X11_ofTruce X.2.1) (by rw [hR]; decide) (Nat.zero_le _) (Nat.zero_le _) hG rfl rfl ⟨rfl, by decide, by decide, by decide⟩ (fun _ => ⟨_, _, rfl, rfl⟩) wl_X11_245 wi_X11_ofTruce ws_X11_ofTruce wn_X11 wc_X11_ofTruce, fun _ h => absurd h List.not_mem_nil⟩⟩) R sok_no E
  show WP_ X G Q 0 0 ad SHS_ σ 0 [(42, 86), (0, a1), (0, a2)] []
  refine B rfl ?_
  refine And.intro (by omega) ?_
  intro z1 ez1 hz1
  have hz1 : ((-1) : Int) ≤ z1 ∧ z1 ≤ (1999 : Int) := hz1
  have p2 : BW σ 87 := (hp0).1.1
  have b3 := wrh_ p2 (i := 3) (by omega)
  have b3 : (0 : Int) ≤ σ 87 3 ∧ σ 87 3 ≤ (12 : Int) := b3
  refine And.intro (by omega) ?_
  refine Exists.intro (a1, 0, z1 - 1) (And.intro rfl (And.intro True.intro ?_))
  rintro z4 m_ h5
  obtain rfl : σ = m_ := h5.2
  have h6 : (z4 = 1 ∧ 0 ≤ a1 ∧ a1 ≤ (z1 - 1)) ∨ (z4 = 0 ∧ ¬ (0 ≤ a1 ∧ a1 ≤ (z1 - 1))) := h5.1
  refine And.intro (fun h7 => ?_) (fun h7 => ?_)
  · skip
    refine B rfl ?_
    refine Exists.intro _ (And.intro rfl ?_)
    exact rfl
  · skip
    refine Exists.intro (a2, 0, 2) (And.intro rfl (And.intro True.intro ?_))
    rintro z8 m_ h9
    obtain rfl : σ = m_ := h9.2
    have h10 : (z8 = 1 ∧ 0 ≤ a2 ∧ a2 ≤ 2) ∨ (z8 = 0 ∧ ¬ (0 ≤ a2 ∧ a2 ≤ 2)) := h9.1
    refine And.intro (fun h11 => ?_) (fun h11 => ?_)
    · skip
      refine B rfl ?_
      refine Exists.intro _ (And.intro rfl ?_)
      exact rfl
    · skip
      refine Exists.intro (a1, a2) (And.intro rfl (And.intro (And.intro p2 (And.intro (by show 0 ≤ a1; omega) (And.intro (by show a1 ≤ 11; omega) (And.intro (by show 0 ≤ a2; omega) (by show a2 ≤ 2; omega))))) ?_))
      rintro z12 m_ h13
      obtain rfl : σ = m_ := h13.2
      have h14 : 0 ≤ z12 ∧ z12 ≤ 1999 := h13.1
      refine B rfl ?_
      refine Exists.intro _ (And.intro rfl ?_)
      exact rfl
def as_G_X11_date : Int × Int × Int → List Sv_t := fun a => [(42, 86), (0, a.1), (0, a.2.1), (0, a.2.2)]
def pre_G_X11_date : Int × Int × Int → Me_t → Prop := fun a σ => (MI σ)
def post_G_X11_date : Int × Int × Int → Me_t → Int → Me_t → Prop := fun a σ z σ' => (∀ k j : Int, ¬ (93 ≤ k ∧ k ≤ 96) → σ' k j = σ k j)
set_option maxHeartbeats 1500000 in
set_option maxRecDepth 100000 in
theorem ct_G_X11_date (l : Launch) : CT_ l yX11_date cX11_date 4 (some .int) 4 92 as_G_X11_date (rmI_) pre_G_X11_date post_G_X11_date := by
  refine ct_of (by decide) (fun _ => Nat.le_of_ble_eq_true rfl) ?_
  intro X G Q ad σ a hl hR E hG R hM hv hp
  obtain ⟨a1, a2, a3⟩ := a
  have r_a1 : -2147483648 ≤ a1 ∧ a1 ≤ 2147483647 := hv (0, a1) (List.mem_of_getElem? (i := 1) rfl)
  have r_a2 : -2147483648 ≤ a2 ∧ a2 ≤ 2147483647 := hv (0, a2) (List.mem_of_getElem? (i := 2) rfl)
  have r_a3 : -2147483648 ≤ a3 ∧ a3 ≤ 2147483647 := hv (0, a3) (List.mem_of_getElem? (i := 3) rfl)
  have hp0 : MI σ := hp
  have B := @bk_ X G Q 0 0 ad SHS_ RX11 cX11_date 4 (some .int) flX11 plX11 knX11 [(166, 2, TR_ as_G_X11_isLand (rmI_) pre_G_X11_isLand post_G_X11_isLand), (179, 1, TR_ as_G_X11_isDay (rmI_) pre_G_X11_isDay post_G_X11_isDay), (159, 3, TR_ as_G_X11_in (rmI_) pre_G_X11_in post_G_X11_in), (538, 1, TR_ as_G_X11_lay (rmV_) pre_G_X11_lay post_G_X11_lay), (544, 4, TR_ as_G_X11_dateOf_x (rmI_) pre_G_X11_dateOf_x post_G_X11_dateOf_x)] _ _ none kX11_date [] flX11_ok plX11_ok knX11_ok eX11_date oX11_date
    (List.forall_mem_cons.mpr ⟨cok_v (t := 32) (c := 11) (N := 39) (n := 1) (idx := 83) E (ct_G_X11_isLand X.2.1) (by rw [hR]; decide) (Nat.zero_le _) (Nat.zero_le _) hG rfl rfl ⟨rfl, by decide, by decide, by decide⟩ (fun _ => ⟨_, _, rfl, rfl⟩) wl_X11_83 wi_X11_isLand ws_X11_isLand wn_X11 wc_X11_isLand, List.forall_mem_cons.mpr ⟨cok_s (n := 1) (idx := 89) E (ct_G_X11_isDay X.2.1) (by rw [hR]; decide) (Nat.zero_le _) (Nat.zero_le _) hG ⟨by decide, by decide, by decide⟩ (fun _ => rfl) wl_X11_89 wt_X11_isDay wn_X11 wc_X11_isDay, List.forall_mem_cons.mpr ⟨cok_s (n := 3) (idx := 79) E (ct_G_X11_in X.2.1) (by rw [hR]; decide) (Nat.zero_le _) (Nat.zero_le _) hG ⟨by decide, by decide, by decide⟩ (fun _ => rfl) wl_X11_79 wt_X11_in wn_X11 wc_X11_in, List.forall_mem_cons.mpr ⟨cok_v (t := 32) (c := 11) (N := 39) (n := 0) (idx := 269) E (ct_G_X11_lay X.2.1) (by rw [hR]; decide) (Nat.zero_le _) (Nat.zero_le _) hG rfl rfl ⟨rfl, by decide, by decide, by decide⟩ (fun _ => ⟨_, _, rfl, rfl⟩) wl_X11_269 wi_X11_lay ws_X11_lay wn_X11 wc_X11_lay, List.forall_mem_cons.mpr ⟨cok_v (t := 32) (c := 11) (N := 39) (n := 3) (idx := 272) E (ct_G_X11_dateOf_x X.2.1) (by rw [hR]; decide) (Nat.zero_le _) (Nat.zero_le _) hG rfl rfl ⟨rfl, by decide, by decide, by decide⟩ (fun _ => ⟨_, _, rfl, rfl⟩) wl_X11_272 wi_X11_dateOf ws_X11_dateOf wn_X11 wc_X11_dateOf, fun _ h => absurd h List.not_mem_nil⟩⟩⟩⟩⟩) R sok_no E
  show WP_ X G Q 0 0 ad SHS_ σ 0 [(42, 86), (0, a1), (0, a2), (0, a3)] []
  refine B rfl ?_
  have p1 : BW σ 87 := (hp0).1.1
  refine Exists.intro a1 (And.intro rfl (And.intro p1 ?_))
  rintro z2 m_ h3
  obtain rfl : σ = m_ := h3.2
  have h4 : (z2 = 1 ∧ 0 ≤ a1 ∧ a1 ≤ 2 ∧ a1 < σ 87 1) ∨ z2 = 0 := h3.1
  refine And.intro (fun h5 => ?_) (fun h5 => ?_)
  · skip
    refine B rfl ?_
    refine Exists.intro _ (And.intro rfl ?_)
    exact (fun k j hk => rfl)
  · skip
    refine Exists.intro a2 (And.intro rfl (And.intro True.intro ?_))
    rintro z6 m_ h7
    obtain rfl : σ = m_ := h7.2
    have h8 : (z6 = 1 ∧ 0 ≤ a2 ∧ a2 ≤ 1999) ∨ z6 = 0 := h7.1
    refine And.intro (fun h9 => ?_) (fun h9 => ?_)
    · skip
      refine B rfl ?_
      refine Exists.intro _ (And.intro rfl ?_)
      exact (fun k j hk => rfl)
    · skip
      refine Exists.intro (a3, 0, 3) (And.intro rfl (And.intro True.intro ?_))
      rintro z10 m_ h11
      obtain rfl : σ = m_ := h11.2
      have h12 : (z10 = 1 ∧ 0 ≤ a3 ∧ a3 ≤ 3) ∨ (z10 = 0 ∧ ¬ (0 ≤ a3 ∧ a3 ≤ 3)) := h11.1
      refine And.intro (fun h13 => ?_) (fun h13 => ?_)
      · skip
        refine B rfl ?_
        refine Exists.intro () (And.intro rfl (And.intro hp0 ?_))
        intro z14 σ16 h15
        have f17 : ∀ k j : Int, ¬ (93 ≤ k ∧ k ≤ 96) → σ16 k j = σ k j := h15.2
        have h18 : LY σ16 := h15.1
        have p19 : MI σ16 := MI_fr hp0 (fun k j hk => (f17 _ _ (by omega)))
        have p20 : SW σ16 87 := (p19).1.2.1
        try have t21 : σ16 87 (6 + 15 * a1 + 1) = σ 87 (6 + 15 * a1 + 1) := (f17 _ _ (by omega))
        try have t22 : σ16 87 (6 + 15 * a1 + 3) = σ 87 (6 + 15 * a1 + 3) := (f17 _ _ (by omega))
        try have t23 : σ16 87 1 = σ 87 1 := (f17 _ _ (by omega))
        have w24 := p20 a1 (by omega) (by omega) (by omega)
        have p25 : BW σ16 87 := (p19).1.1
        refine Exists.intro (a1, a2, a3) (And.intro rfl (And.intro (And.intro p25 (And.intro (by show 0 ≤ a1; omega) (And.intro (by show a1 ≤ 2; omega) (And.intro (by show 0 ≤ a2; omega) (And.intro (by show a2 ≤ 1999; omega) (by show 1 ≤ σ16 87 (6 + 15 * a1 + 1); omega)))))) ?_))
        rintro z26 m_ h27
        obtain rfl : σ16 = m_ := h27.2.2.2
        have h28 : -1 ≤ z26 ∧ z26 ≤ 2000 := h27.1
        have h29 : a3 = 1 → z26 ≤ 7 := h27.2.1
        have h30 : a3 = 3 → z26 ≤ 9 := h27.2.2.1
        refine Exists.intro _ (And.intro rfl ?_)
        exact (fun k j hk => (f17 _ _ (by omega)))
      · skip
        refine Exists.intro _ (And.intro rfl ?_)
        exact (fun k j hk => rfl)
def as_G_X11_day : Int × Int × Int × Int → List Sv_t := fun a => [(42, 86), (0, a.1), (0, a.2.1), (0, a.2.2.1), (0, a.2.2.2)]
def pre_G_X11_day : Int × Int × Int × Int → Me_t → Prop := fun a σ => (MI σ)
def post_G_X11_day : Int × Int × Int × Int → Me_t → Int → Me_t → Prop := fun a σ z σ' => (σ = σ')
set_option maxHeartbeats 1500000 in
set_option maxRecDepth 100000 in
theorem ct_G_X11_day (l : Launch) : CT_ l yX11_day cX11_day 6 (some .int) 4 95 as_G_X11_day (rmI_) pre_G_X11_day post_G_X11_day := by
  refine ct_of (by decide) (fun _ => Nat.le_of_ble_eq_true rfl) ?_
  intro X G Q ad σ a hl hR E hG R hM hv hp
  obtain ⟨a1, a2, a3, a4⟩ := a
  have r_a1 : -2147483648 ≤ a1 ∧ a1 ≤ 2147483647 := hv (0, a1) (List.mem_of_getElem? (i := 1) rfl)
  have r_a2 : -2147483648 ≤ a2 ∧ a2 ≤ 2147483647 := hv (0, a2) (List.mem_of_getElem? (i := 2) rfl)
  have r_a3 : -2147483648 ≤ a3 ∧ a3 ≤ 2147483647 := hv (0, a3) (List.mem_of_getElem? (i := 3) rfl)
  have r_a4 : -2147483648 ≤ a4 ∧ a4 ≤ 2147483647 := hv (0, a4) (List.mem_of_getElem? (i := 4) rfl)
  have hp0 : MI σ := hp
  have B := @bk_ X G Q 0 0 ad SHS_ RX11 cX11_day 6 (some .int) flX11 plX11 knX11 [(166, 2, TR_ as_G_X11_isLand (rmI_) pre_G_X11_isLand post_G_X11_isLand), (556, 5, TR_ as_G_X11_isDate (rmI_) pre_G_X11_isDate post_G_X11_isDate), (564, 5, TR_ as_G_X11_dayBy (rmI_) pre_G_X11_dayBy post_G_X11_dayBy)] _ _ none kX11_day [] flX11_ok plX11_ok knX11_ok eX11_day oX11_day
    (List.forall_mem_cons.mpr ⟨cok_v (t := 32) (c := 11) (N := 39) (n := 1) (idx := 83) E (ct_G_X11_isLand X.2.1) (by rw [hR]; decide) (Nat.zero_le _) (Nat.zero_le _) hG rfl rfl ⟨rfl, by decide, by decide, by decide⟩ (fun _ => ⟨_, _, rfl, rfl⟩) wl_X11_83 wi_X11_isLand ws_X11_isLand wn_X11 wc_X11_isLand, List.forall_mem_cons.mpr ⟨cok_v (t := 32) (c := 11) (N := 39) (n := 4) (idx := 278) E (ct_G_X11_isDate X.2.1) (by rw [hR]; decide) (Nat.zero_le _) (Nat.zero_le _) hG rfl rfl ⟨rfl, by decide, by decide, by decide⟩ (fun _ => ⟨_, _, rfl, rfl⟩) wl_X11_278 wi_X11_isDate ws_X11_isDate wn_X11 wc_X11_isDate, List.forall_mem_cons.mpr ⟨cok_v (t := 32) (c := 11) (N := 39) (n := 4) (idx := 282) E (ct_G_X11_dayBy X.2.1) (by rw [hR]; decide) (Nat.zero_le _) (Nat.zero_le _) hG rfl rfl ⟨rfl, by decide, by decide, by decide⟩ (fun _ => ⟨_, _, rfl, rfl⟩) wl_X11_282 wi_X11_dayBy ws_X11_dayBy wn_X11 wc_X11_dayBy, fun _ h => absurd h List.not_mem_nil⟩⟩⟩) R sok_no E
  show WP_ X G Q 0 0 ad SHS_ σ 0 [(42, 86), (0, a1), (0, a2), (0, a3), (0, a4), (9, 0)] []
  refine B rfl ?_
  have p1 : BW σ 87 := (hp0).1.1
  refine Exists.intro a1 (And.intro rfl (And.intro p1 ?_))
  rintro z2 m_ h3
  obtain rfl : σ = m_ := h3.2
  have h4 : (z2 = 1 ∧ 0 ≤ a1 ∧ a1 ≤ 2 ∧ a1 < σ 87 1) ∨ z2 = 0 := h3.1
  refine And.intro (fun h5 => ?_) (fun h5 => ?_)
  · skip
    refine B rfl ?_
    refine Exists.intro _ (And.intro rfl ?_)
    exact rfl
  · skip
    refine Exists.intro (a1, a2, a3, a4) (And.intro rfl (And.intro (And.intro p1 (And.intro (by show 0 ≤ a1; omega) (by show a1 ≤ 2; omega))) ?_))
    rintro z6 m_ h7
    obtain rfl : σ = m_ := h7.2
    have h8 : (z6 = 1 ∧ 0 ≤ a2 ∧ a2 ≤ 1999 ∧ 0 ≤ a3 ∧ a3 ≤ 7 ∧ 0 ≤ a4 ∧ a4 ≤ 68) ∨ z6 = 0 := h7.1
    refine And.intro (fun h9 => ?_) (fun h9 => ?_)
    · skip
      refine B rfl ?_
      refine Exists.intro (a1, a2, a3, a4) (And.intro rfl (And.intro (And.intro p1 (And.intro (by show 0 ≤ a1; omega) (And.intro (by show a1 ≤ 2; omega) (And.intro (by show 0 ≤ a2; omega) (And.intro (by show a2 ≤ 1999; omega) (And.intro (by show 0 ≤ a3; omega) (And.intro (by show a3 ≤ 7; omega) (And.intro (by show 0 ≤ a4; omega) (by show a4 ≤ 100; omega))))))))) ?_))
      rintro z10 m_ h11
      obtain rfl : σ = m_ := h11.2.2
      have h12 : z10 = dayF_ (σ 87) a1 a2 a3 a4 := h11.1
      have h13 : 0 ≤ z10 ∧ z10 ≤ 4000 := h11.2.1
      refine And.intro (fun h14 => ?_) (fun h14 => ?_)
      · skip
        refine B rfl ?_
        refine Exists.intro _ (And.intro rfl ?_)
        exact rfl
      · skip
        refine B rfl ?_
        refine Exists.intro _ (And.intro rfl ?_)
        exact rfl
    · skip
      refine Exists.intro _ (And.intro rfl ?_)
      exact rfl
def as_G_X11_may : Int × Int → List Sv_t := fun a => [(42, 86), (0, a.1), (0, a.2)]
def pre_G_X11_may : Int × Int → Me_t → Prop := fun a σ => (MI σ)
def post_G_X11_may : Int × Int → Me_t → Int → Me_t → Prop := fun a σ z σ' => (∀ k j : Int, ¬ (93 ≤ k ∧ k ≤ 96) → σ' k j = σ k j)
set_option maxHeartbeats 1500000 in
set_option maxRecDepth 100000 in
theorem ct_G_X11_may (l : Launch) : CT_ l yX11_may cX11_may 3 (some .int) 4 92 as_G_X11_may (rmI_) pre_G_X11_may post_G_X11_may := by
  refine ct_of (by decide) (fun _ => Nat.le_of_ble_eq_true rfl) ?_
  intro X G Q ad σ a hl hR E hG R hM hv hp
  obtain ⟨a1, a2⟩ := a
  have r_a1 : -2147483648 ≤ a1 ∧ a1 ≤ 2147483647 := hv (0, a1) (List.mem_of_getElem? (i := 1) rfl)
  have r_a2 : -2147483648 ≤ a2 ∧ a2 ≤ 2147483647 := hv (0, a2) (List.mem_of_getElem? (i := 2) rfl)
  have hp0 : MI σ := hp
  have B := @bk_ X G Q 0 0 ad SHS_ RX11 cX11_may 3 (some .int) flX11 plX11 knX11 [(166, 2, TR_ as_G_X11_isLand (rmI_) pre_G_X11_isLand post_G_X11_isLand), (179, 1, TR_ as_G_X11_isDay (rmI_) pre_G_X11_isDay post_G_X11_isDay), (538, 1, TR_ as_G_X11_lay (rmV_) pre_G_X11_lay post_G_X11_lay), (508, 3, TR_ as_G_X11_mayOn (rmI_) pre_G_X11_mayOn post_G_X11_mayOn)] _ _ none kX11_may [] flX11_ok plX11_ok knX11_ok eX11_may oX11_may
    (List.forall_mem_cons.mpr ⟨cok_v (t := 32) (c := 11) (N := 39) (n := 1) (idx := 83) E (ct_G_X11_isLand X.2.1) (by rw [hR]; decide) (Nat.zero_le _) (Nat.zero_le _) hG rfl rfl ⟨rfl, by decide, by decide, by decide⟩ (fun _ => ⟨_, _, rfl, rfl⟩) wl_X11_83 wi_X11_isLand ws_X11_isLand wn_X11 wc_X11_isLand, List.forall_mem_cons.mpr ⟨cok_s (n := 1) (idx := 89) E (ct_G_X11_isDay X.2.1) (by rw [hR]; decide) (Nat.zero_le _) (Nat.zero_le _) hG ⟨by decide, by decide, by decide⟩ (fun _ => rfl) wl_X11_89 wt_X11_isDay wn_X11 wc_X11_isDay, List.forall_mem_cons.mpr ⟨cok_v (t := 32) (c := 11) (N := 39) (n := 0) (idx := 269) E (ct_G_X11_lay X.2.1) (by rw [hR]; decide) (Nat.zero_le _) (Nat.zero_le _) hG rfl rfl ⟨rfl, by decide, by decide, by decide⟩ (fun _ => ⟨_, _, rfl, rfl⟩) wl_X11_269 wi_X11_lay ws_X11_lay wn_X11 wc_X11_lay, List.forall_mem_cons.mpr ⟨cok_v (t := 32) (c := 11) (N := 39) (n := 2) (idx := 254) E (ct_G_X11_mayOn X.2.1) (by rw [hR]; decide) (Nat.zero_le _) (Nat.zero_le _) hG rfl rfl ⟨rfl, by decide, by decide, by decide⟩ (fun _ => ⟨_, _, rfl, rfl⟩) wl_X11_254 wi_X11_mayOn ws_X11_mayOn wn_X11 wc_X11_mayOn, fun _ h => absurd h List.not_mem_nil⟩⟩⟩⟩) R sok_no E
  show WP_ X G Q 0 0 ad SHS_ σ 0 [(42, 86), (0, a1), (0, a2)] []
  refine B rfl ?_
  have p1 : BW σ 87 := (hp0).1.1
  refine Exists.intro a1 (And.intro rfl (And.intro p1 ?_))
  rintro z2 m_ h3
  obtain rfl : σ = m_ := h3.2
  have h4 : (z2 = 1 ∧ 0 ≤ a1 ∧ a1 ≤ 2 ∧ a1 < σ 87 1) ∨ z2 = 0 := h3.1
  refine And.intro (fun h5 => ?_) (fun h5 => ?_)
  · skip
    refine B rfl ?_
    refine Exists.intro _ (And.intro rfl ?_)
    exact (fun k j hk => rfl)
  · skip
    refine Exists.intro a2 (And.intro rfl (And.intro True.intro ?_))
    rintro z6 m_ h7
    obtain rfl : σ = m_ := h7.2
    have h8 : (z6 = 1 ∧ 0 ≤ a2 ∧ a2 ≤ 1999) ∨ z6 = 0 := h7.1
    refine And.intro (fun h9 => ?_) (fun h9 => ?_)
    · skip
      refine B rfl ?_
      refine Exists.intro () (And.intro rfl (And.intro hp0 ?_))
      intro z10 σ12 h11
      have f13 : ∀ k j : Int, ¬ (93 ≤ k ∧ k ≤ 96) → σ12 k j = σ k j := h11.2
      have h14 : LY σ12 := h11.1
      refine Exists.intro (a1, a2) (And.intro rfl (And.intro (And.intro (by show 0 ≤ a1; omega) (And.intro (by show a1 ≤ 2; omega) (And.intro (by show 0 ≤ a2; omega) (by show a2 ≤ 1999; omega)))) ?_))
      rintro z15 m_ h16
      obtain rfl : σ12 = m_ := h16.2
      have h17 : (z15 = 1 ∧ σ12 96 (2000 * a1 + a2) = 0) ∨ (z15 = 0 ∧ σ12 96 (2000 * a1 + a2) ≠ 0) := h16.1
      try have t18 : σ12 96 (2000 * a1 + a2) = σ 96 (2000 * a1 + a2) := (f13 _ _ (by omega))
      refine And.intro (fun h19 => ?_) (fun h19 => ?_)
      · skip
        refine B rfl ?_
        refine Exists.intro _ (And.intro rfl ?_)
        exact (fun k j hk => (f13 _ _ (by omega)))
      · skip
        refine B rfl ?_
        refine Exists.intro _ (And.intro rfl ?_)
        exact (fun k j hk => (f13 _ _ (by omega)))
    · skip
      refine Exists.intro _ (And.intro rfl ?_)
      exact (fun k j hk => rfl)
def as_G_X11_why : Int × Int → List Sv_t := fun a => [(42, 86), (0, a.1), (0, a.2)]
def pre_G_X11_why : Int × Int → Me_t → Prop := fun a σ => (MI σ)
def post_G_X11_why : Int × Int → Me_t → Int → Me_t → Prop := fun a σ z σ' => (∀ k j : Int, ¬ (93 ≤ k ∧ k ≤ 96) → σ' k j = σ k j)
set_option maxHeartbeats 1500000 in
set_option maxRecDepth 100000 in
theorem ct_G_X11_why (l : Launch) : CT_ l yX11_why cX11_why 3 (some .int) 4 92 as_G_X11_why (rmI_) pre_G_X11_why post_G_X11_why := by
  refine ct_of (by decide) (fun _ => Nat.le_of_ble_eq_true rfl) ?_
  intro X G Q ad σ a hl hR E hG R hM hv hp
  obtain ⟨a1, a2⟩ := a
  have r_a1 : -2147483648 ≤ a1 ∧ a1 ≤ 2147483647 := hv (0, a1) (List.mem_of_getElem? (i := 1) rfl)
  have r_a2 : -2147483648 ≤ a2 ∧ a2 ≤ 2147483647 := hv (0, a2) (List.mem_of_getElem? (i := 2) rfl)
  have hp0 : MI σ := hp
  have B := @bk_ X G Q 0 0 ad SHS_ RX11 cX11_why 3 (some .int) flX11 plX11 knX11 [(166, 2, TR_ as_G_X11_isLand (rmI_) pre_G_X11_isLand post_G_X11_isLand), (179, 1, TR_ as_G_X11_isDay (rmI_) pre_G_X11_isDay post_G_X11_isDay), (538, 1, TR_ as_G_X11_lay (rmV_) pre_G_X11_lay post_G_X11_lay), (467, 2, TR_ as_G_X11_spot (rmI_) pre_G_X11_spot post_G_X11_spot)] _ _ none kX11_why [] flX11_ok plX11_ok knX11_ok eX11_why oX11_why
    (List.forall_mem_cons.mpr ⟨cok_v (t := 32) (c := 11) (N := 39) (n := 1) (idx := 83) E (ct_G_X11_isLand X.2.1) (by rw [hR]; decide) (Nat.zero_le _) (Nat.zero_le _) hG rfl rfl ⟨rfl, by decide, by decide, by decide⟩ (fun _ => ⟨_, _, rfl, rfl⟩) wl_X11_83 wi_X11_isLand ws_X11_isLand wn_X11 wc_X11_isLand, List.forall_mem_cons.mpr ⟨cok_s (n := 1) (idx := 89) E (ct_G_X11_isDay X.2.1) (by rw [hR]; decide) (Nat.zero_le _) (Nat.zero_le _) hG ⟨by decide, by decide, by decide⟩ (fun _ => rfl) wl_X11_89 wt_X11_isDay wn_X11 wc_X11_isDay, List.forall_mem_cons.mpr ⟨cok_v (t := 32) (c := 11) (N := 39) (n := 0) (idx := 269) E (ct_G_X11_lay X.2.1) (by rw [hR]; decide) (Nat.zero_le _) (Nat.zero_le _) hG rfl rfl ⟨rfl, by decide, by decide, by decide⟩ (fun _ => ⟨_, _, rfl, rfl⟩) wl_X11_269 wi_X11_lay ws_X11_lay wn_X11 wc_X11_lay, List.forall_mem_cons.mpr ⟨cok_s (n := 2) (idx := 233) E (ct_G_X11_spot X.2.1) (by rw [hR]; decide) (Nat.zero_le _) (Nat.zero_le _) hG ⟨by decide, by decide, by decide⟩ (fun _ => rfl) wl_X11_233 wt_X11_spot wn_X11 wc_X11_spot, fun _ h => absurd h List.not_mem_nil⟩⟩⟩⟩) R sok_no E
  show WP_ X G Q 0 0 ad SHS_ σ 0 [(42, 86), (0, a1), (0, a2)] []
  refine B rfl ?_
  have p1 : BW σ 87 := (hp0).1.1
  refine Exists.intro a1 (And.intro rfl (And.intro p1 ?_))
  rintro z2 m_ h3
  obtain rfl : σ = m_ := h3.2
  have h4 : (z2 = 1 ∧ 0 ≤ a1 ∧ a1 ≤ 2 ∧ a1 < σ 87 1) ∨ z2 = 0 := h3.1
  refine And.intro (fun h5 => ?_) (fun h5 => ?_)
  · skip
    refine B rfl ?_
    refine Exists.intro _ (And.intro rfl ?_)
    exact (fun k j hk => rfl)
  · skip
    refine Exists.intro a2 (And.intro rfl (And.intro True.intro ?_))
    rintro z6 m_ h7
    obtain rfl : σ = m_ := h7.2
    have h8 : (z6 = 1 ∧ 0 ≤ a2 ∧ a2 ≤ 1999) ∨ z6 = 0 := h7.1
    refine And.intro (fun h9 => ?_) (fun h9 => ?_)
    · skip
      refine B rfl ?_
      refine Exists.intro () (And.intro rfl (And.intro hp0 ?_))
      intro z10 σ12 h11
      have f13 : ∀ k j : Int, ¬ (93 ≤ k ∧ k ≤ 96) → σ12 k j = σ k j := h11.2
      have h14 : LY σ12 := h11.1
      refine Exists.intro (a1, a2) (And.intro rfl (And.intro (And.intro (by show 0 ≤ a1; omega) (And.intro (by show a1 ≤ 2; omega) (And.intro (by show 0 ≤ a2; omega) (by show a2 ≤ 1999; omega)))) ?_))
      rintro z15 m_ h16
      obtain rfl : σ12 = m_ := h16.2
      have h17 : z15 = 2000 * a1 + a2 := h16.1
      have q18 : z15 = 2000 * a1 + a2 := by omega
      subst q18
      refine And.intro (by omega) ?_
      intro z19 ez19 hz19
      have hz19 : (0 : Int) ≤ z19 ∧ z19 ≤ (4 : Int) := hz19
      try have t20 : σ12 96 (2000 * a1 + a2) = σ 96 (2000 * a1 + a2) := (f13 _ _ (by omega))
      refine Exists.intro _ (And.intro rfl ?_)
      exact (fun k j hk => (f13 _ _ (by omega)))
    · skip
      refine Exists.intro _ (And.intro rfl ?_)
      exact (fun k j hk => rfl)
def as_G_X11_who : Int → List Sv_t := fun a => [(42, 86), (0, a)]
def pre_G_X11_who : Int → Me_t → Prop := fun a σ => (MI σ)
def post_G_X11_who : Int → Me_t → Int → Me_t → Prop := fun a σ z σ' => (∀ k j : Int, ¬ (93 ≤ k ∧ k ≤ 96) → σ' k j = σ k j)
set_option maxHeartbeats 1500000 in
set_option maxRecDepth 100000 in
theorem ct_G_X11_who (l : Launch) : CT_ l yX11_who cX11_who 2 (some .int) 4 92 as_G_X11_who (rmI_) pre_G_X11_who post_G_X11_who := by
  refine ct_of (by decide) (fun _ => Nat.le_of_ble_eq_true rfl) ?_
  intro X G Q ad σ a hl hR E hG R hM hv hp
  obtain ⟨a1, rfl⟩ : ∃ q : Int, q = a := ⟨_, rfl⟩
  have r_a1 : -2147483648 ≤ a1 ∧ a1 ≤ 2147483647 := hv (0, a1) (List.mem_of_getElem? (i := 1) rfl)
  have hp0 : MI σ := hp
  have B := @bk_ X G Q 0 0 ad SHS_ RX11 cX11_who 2 (some .int) flX11 plX11 knX11 [(184, 1, TR_ as_G_X11_isWar (rmI_) pre_G_X11_isWar post_G_X11_isWar), (179, 1, TR_ as_G_X11_isDay (rmI_) pre_G_X11_isDay post_G_X11_isDay), (538, 1, TR_ as_G_X11_lay (rmV_) pre_G_X11_lay post_G_X11_lay), (572, 2, TR_ as_G_X11_whoOn (rmI_) pre_G_X11_whoOn post_G_X11_whoOn)] _ _ none kX11_who [] flX11_ok plX11_ok knX11_ok eX11_who oX11_who
    (List.forall_mem_cons.mpr ⟨cok_v (t := 32) (c := 11) (N := 39) (n := 0) (idx := 92) E (ct_G_X11_isWar X.2.1) (by rw [hR]; decide) (Nat.zero_le _) (Nat.zero_le _) hG rfl rfl ⟨rfl, by decide, by decide, by decide⟩ (fun _ => ⟨_, _, rfl, rfl⟩) wl_X11_92 wi_X11_isWar ws_X11_isWar wn_X11 wc_X11_isWar, List.forall_mem_cons.mpr ⟨cok_s (n := 1) (idx := 89) E (ct_G_X11_isDay X.2.1) (by rw [hR]; decide) (Nat.zero_le _) (Nat.zero_le _) hG ⟨by decide, by decide, by decide⟩ (fun _ => rfl) wl_X11_89 wt_X11_isDay wn_X11 wc_X11_isDay, List.forall_mem_cons.mpr ⟨cok_v (t := 32) (c := 11) (N := 39) (n := 0) (idx := 269) E (ct_G_X11_lay X.2.1) (by rw [hR]; decide) (Nat.zero_le _) (Nat.zero_le _) hG rfl rfl ⟨rfl, by decide, by decide, by decide⟩ (fun _ => ⟨_, _, rfl, rfl⟩) wl_X11_269 wi_X11_lay ws_X11_lay wn_X11 wc_X11_lay, List.forall_mem_cons.mpr ⟨cok_v (t := 32) (c := 11) (N := 39) (n := 1) (idx := 286) E (ct_G_X11_whoOn X.2.1) (by rw [hR]; decide) (Nat.zero_le _) (Nat.zero_le _) hG rfl rfl ⟨rfl, by decide, by decide, by decide⟩ (fun _ => ⟨_, _, rfl, rfl⟩) wl_X11_286 wi_X11_whoOn ws_X11_whoOn wn_X11 wc_X11_whoOn, fun _ h => absurd h List.not_mem_nil⟩⟩⟩⟩) R sok_no E
  show WP_ X G Q 0 0 ad SHS_ σ 0 [(42, 86), (0, a1)] []
  refine B rfl ?_
  refine Exists.intro () (And.intro rfl (And.intro True.intro ?_))
  rintro z1 m_ h2
  obtain rfl : σ = m_ := h2.2
  have h3 : 0 ≤ z1 ∧ z1 ≤ 1 := h2.1
  refine And.intro (fun h4 => ?_) (fun h4 => ?_)
  · skip
    refine B rfl ?_
    refine Exists.intro _ (And.intro rfl ?_)
    exact (fun k j hk => rfl)
  · skip
    refine Exists.intro a1 (And.intro rfl (And.intro True.intro ?_))
    rintro z5 m_ h6
    obtain rfl : σ = m_ := h6.2
    have h7 : (z5 = 1 ∧ 0 ≤ a1 ∧ a1 ≤ 1999) ∨ z5 = 0 := h6.1
    refine And.intro (fun h8 => ?_) (fun h8 => ?_)
    · skip
      refine B rfl ?_
      refine Exists.intro () (And.intro rfl (And.intro hp0 ?_))
      intro z9 σ11 h10
      have f12 : ∀ k j : Int, ¬ (93 ≤ k ∧ k ≤ 96) → σ11 k j = σ k j := h10.2
      have h13 : LY σ11 := h10.1
      have p14 : MI σ11 := MI_fr hp0 (fun k j hk => (f12 _ _ (by omega)))
      have p15 : BW σ11 87 := (p14).1.1
      refine Exists.intro a1 (And.intro rfl (And.intro (And.intro p15 (And.intro (by show 0 ≤ a1; omega) (by show a1 ≤ 1999; omega))) ?_))
      rintro z16 m_ h17
      obtain rfl : σ11 = m_ := h17
      refine Exists.intro _ (And.intro rfl ?_)
      exact (fun k j hk => (f12 _ _ (by omega)))
    · skip
      refine Exists.intro _ (And.intro rfl ?_)
      exact (fun k j hk => rfl)
def as_G_X11_many : Int × Int × Int → List Sv_t := fun a => [(42, 86), (0, a.1), (0, a.2.1), (0, a.2.2)]
def pre_G_X11_many : Int × Int × Int → Me_t → Prop := fun a σ => (MI σ)
def post_G_X11_many : Int × Int × Int → Me_t → Int → Me_t → Prop := fun a σ z σ' => (∀ k j : Int, ¬ (93 ≤ k ∧ k ≤ 96) → σ' k j = σ k j)
set_option maxHeartbeats 1500000 in
set_option maxRecDepth 100000 in
theorem ct_G_X11_many (l : Launch) : CT_ l yX11_many cX11_many 4 (some .int) 5 113 as_G_X11_many (rmI_) pre_G_X11_many post_G_X11_many := by
  refine ct_of (by decide) (fun _ => Nat.le_of_ble_eq_true rfl) ?_
  intro X G Q ad σ a hl hR E hG R hM hv hp
  obtain ⟨a1, a2, a3⟩ := a
  have r_a1 : -2147483648 ≤ a1 ∧ a1 ≤ 2147483647 := hv (0, a1) (List.mem_of_getElem? (i := 1) rfl)
  have r_a2 : -2147483648 ≤ a2 ∧ a2 ≤ 2147483647 := hv (0, a2) (List.mem_of_getElem? (i := 2) rfl)
  have r_a3 : -2147483648 ≤ a3 ∧ a3 ≤ 2147483647 := hv (0, a3) (List.mem_of_getElem? (i := 3) rfl)
  have hp0 : MI σ := hp
  have B := @bk_ X G Q 0 0 ad SHS_ RX11 cX11_many 4 (some .int) flX11 plX11 knX11 [(578, 2, TR_ as_G_X11_isSet (rmI_) pre_G_X11_isSet post_G_X11_isSet), (593, 2, TR_ as_G_X11_isSpan (rmI_) pre_G_X11_isSpan post_G_X11_isSpan), (538, 1, TR_ as_G_X11_lay (rmV_) pre_G_X11_lay post_G_X11_lay), (598, 4, TR_ as_G_X11_manyOf (rmI_) pre_G_X11_manyOf post_G_X11_manyOf)] _ _ none kX11_many [] flX11_ok plX11_ok knX11_ok eX11_many oX11_many
    (List.forall_mem_cons.mpr ⟨cok_v (t := 32) (c := 11) (N := 39) (n := 1) (idx := 289) E (ct_G_X11_isSet X.2.1) (by rw [hR]; decide) (Nat.zero_le _) (Nat.zero_le _) hG rfl rfl ⟨rfl, by decide, by decide, by decide⟩ (fun _ => ⟨_, _, rfl, rfl⟩) wl_X11_289 wi_X11_isSet ws_X11_isSet wn_X11 wc_X11_isSet, List.forall_mem_cons.mpr ⟨cok_s (n := 2) (idx := 296) E (ct_G_X11_isSpan X.2.1) (by rw [hR]; decide) (Nat.zero_le _) (Nat.zero_le _) hG ⟨by decide, by decide, by decide⟩ (fun _ => rfl) wl_X11_296 wt_X11_isSpan wn_X11 wc_X11_isSpan, List.forall_mem_cons.mpr ⟨cok_v (t := 32) (c := 11) (N := 39) (n := 0) (idx := 269) E (ct_G_X11_lay X.2.1) (by rw [hR]; decide) (Nat.zero_le _) (Nat.zero_le _) hG rfl rfl ⟨rfl, by decide, by decide, by decide⟩ (fun _ => ⟨_, _, rfl, rfl⟩) wl_X11_269 wi_X11_lay ws_X11_lay wn_X11 wc_X11_lay, List.forall_mem_cons.mpr ⟨cok_v (t := 32) (c := 11) (N := 39) (n := 3) (idx := 299) E (ct_G_X11_manyOf X.2.1) (by rw [hR]; decide) (Nat.zero_le _) (Nat.zero_le _) hG rfl rfl ⟨rfl, by decide, by decide, by decide⟩ (fun _ => ⟨_, _, rfl, rfl⟩) wl_X11_299 wi_X11_manyOf ws_X11_manyOf wn_X11 wc_X11_manyOf, fun _ h => absurd h List.not_mem_nil⟩⟩⟩⟩) R sok_no E
  show WP_ X G Q 0 0 ad SHS_ σ 0 [(42, 86), (0, a1), (0, a2), (0, a3)] []
  refine B rfl ?_
  have p1 : BW σ 87 := (hp0).1.1
  refine Exists.intro a1 (And.intro rfl (And.intro p1 ?_))
  rintro z2 m_ h3
  obtain rfl : σ = m_ := h3.2
  have h4 : 0 ≤ z2 ∧ z2 ≤ 1 := h3.1
  refine And.intro (fun h5 => ?_) (fun h5 => ?_)
  · skip
    refine B rfl ?_
    refine Exists.intro _ (And.intro rfl ?_)
    exact (fun k j hk => rfl)
  · skip
    refine Exists.intro (a2, a3) (And.intro rfl (And.intro True.intro ?_))
    rintro z6 m_ h7
    obtain rfl : σ = m_ := h7.2
    have h8 : (z6 = 1 ∧ 0 ≤ a2 ∧ a2 ≤ a3 ∧ a3 ≤ 1999) ∨ z6 = 0 := h7.1
    refine And.intro (fun h9 => ?_) (fun h9 => ?_)
    · skip
      refine B rfl ?_
      refine Exists.intro () (And.intro rfl (And.intro hp0 ?_))
      intro z10 σ12 h11
      have f13 : ∀ k j : Int, ¬ (93 ≤ k ∧ k ≤ 96) → σ12 k j = σ k j := h11.2
      have h14 : LY σ12 := h11.1
      have p15 : BW σ12 87 := BW_fr p1 (fun k j hk => (f13 _ _ (by omega)))
      refine Exists.intro (a1, a2, a3) (And.intro rfl (And.intro (And.intro p15 (And.intro (by show 0 ≤ a2; omega) (And.intro (by show a2 ≤ a3 + 1; omega) (by show a3 ≤ 1999; omega)))) ?_))
      rintro z16 m_ h17
      obtain rfl : σ12 = m_ := h17.2
      have h18 : 0 ≤ z16 ∧ z16 ≤ a3 + 1 - a2 := h17.1
      refine Exists.intro _ (And.intro rfl ?_)
      exact (fun k j hk => (f13 _ _ (by omega)))
    · skip
      refine Exists.intro _ (And.intro rfl ?_)
      exact (fun k j hk => rfl)
def as_G_X11_waits : Int × Int × Int → List Sv_t := fun a => [(42, 86), (0, a.1), (0, a.2.1), (0, a.2.2)]
def pre_G_X11_waits : Int × Int × Int → Me_t → Prop := fun a σ => (MI σ)
def post_G_X11_waits : Int × Int × Int → Me_t → Int → Me_t → Prop := fun a σ z σ' => (∀ k j : Int, ¬ (k = 86 ∨ (93 ≤ k ∧ k ≤ 96)) → σ' k j = σ k j)
set_option maxHeartbeats 1500000 in
set_option maxRecDepth 100000 in
theorem ct_G_X11_waits (l : Launch) : CT_ l yX11_waits cX11_waits 4 (some .int) 5 113 as_G_X11_waits (rmI_) pre_G_X11_waits post_G_X11_waits := by
  refine ct_of (by decide) (fun _ => Nat.le_of_ble_eq_true rfl) ?_
  intro X G Q ad σ a hl hR E hG R hM hv hp
  obtain ⟨a1, a2, a3⟩ := a
  have r_a1 : -2147483648 ≤ a1 ∧ a1 ≤ 2147483647 := hv (0, a1) (List.mem_of_getElem? (i := 1) rfl)
  have r_a2 : -2147483648 ≤ a2 ∧ a2 ≤ 2147483647 := hv (0, a2) (List.mem_of_getElem? (i := 2) rfl)
  have r_a3 : -2147483648 ≤ a3 ∧ a3 ≤ 2147483647 := hv (0, a3) (List.mem_of_getElem? (i := 3) rfl)
  have hp0 : MI σ := hp
  have B := @bk_ X G Q 0 0 ad SHS_ RX11 cX11_waits 4 (some .int) flX11 plX11 knX11 [(578, 2, TR_ as_G_X11_isSet (rmI_) pre_G_X11_isSet post_G_X11_isSet), (593, 2, TR_ as_G_X11_isSpan (rmI_) pre_G_X11_isSpan post_G_X11_isSpan), (538, 1, TR_ as_G_X11_lay (rmV_) pre_G_X11_lay post_G_X11_lay), (616, 4, TR_ as_G_X11_findWait (rmV_) pre_G_X11_findWait post_G_X11_findWait)] _ _ none kX11_waits [] flX11_ok plX11_ok knX11_ok eX11_waits oX11_waits
    (List.forall_mem_cons.mpr ⟨cok_v (t := 32) (c := 11) (N := 39) (n := 1) (idx := 289) E (ct_G_X11_isSet X.2.1) (by rw [hR]; decide) (Nat.zero_le _) (Nat.zero_le _) hG rfl rfl ⟨rfl, by decide, by decide, by decide⟩ (fun _ => ⟨_, _, rfl, rfl⟩) wl_X11_289 wi_X11_isSet ws_X11_isSet wn_X11 wc_X11_isSet, List.forall_mem_cons.mpr ⟨cok_s (n := 2) (idx := 296) E (ct_G_X11_isSpan X.2.1) (by rw [hR]; decide) (Nat.zero_le _) (Nat.zero_le _) hG ⟨by decide, by decide, by decide⟩ (fun _ => rfl) wl_X11_296 wt_X11_isSpan wn_X11 wc_X11_isSpan, List.forall_mem_cons.mpr ⟨cok_v (t := 32) (c := 11) (N := 39) (n := 0) (idx := 269) E (ct_G_X11_lay X.2.1) (by rw [hR]; decide) (Nat.zero_le _) (Nat.zero_le _) hG rfl rfl ⟨rfl, by decide, by decide, by decide⟩ (fun _ => ⟨_, _, rfl, rfl⟩) wl_X11_269 wi_X11_lay ws_X11_lay wn_X11 wc_X11_lay, List.forall_mem_cons.mpr ⟨cok_v (t := 32) (c := 11) (N := 39) (n := 3) (idx := 308) E (ct_G_X11_findWait X.2.1) (by rw [hR]; decide) (Nat.zero_le _) (Nat.zero_le _) hG rfl rfl ⟨rfl, by decide, by decide, by decide⟩ (fun _ => ⟨_, _, rfl, rfl⟩) wl_X11_308 wi_X11_findWait ws_X11_findWait wn_X11 wc_X11_findWait, fun _ h => absurd h List.not_mem_nil⟩⟩⟩⟩) R sok_no E
  show WP_ X G Q 0 0 ad SHS_ σ 0 [(42, 86), (0, a1), (0, a2), (0, a3)] []
  refine B rfl ?_
  have p1 : BW σ 87 := (hp0).1.1
  refine Exists.intro a1 (And.intro rfl (And.intro p1 ?_))
  rintro z2 m_ h3
  obtain rfl : σ = m_ := h3.2
  have h4 : 0 ≤ z2 ∧ z2 ≤ 1 := h3.1
  refine And.intro (fun h5 => ?_) (fun h5 => ?_)
  · skip
    refine B rfl ?_
    refine Exists.intro _ (And.intro rfl ?_)
    exact (fun k j hk => rfl)
  · skip
    refine Exists.intro (a2, a3) (And.intro rfl (And.intro True.intro ?_))
    rintro z6 m_ h7
    obtain rfl : σ = m_ := h7.2
    have h8 : (z6 = 1 ∧ 0 ≤ a2 ∧ a2 ≤ a3 ∧ a3 ≤ 1999) ∨ z6 = 0 := h7.1
    refine And.intro (fun h9 => ?_) (fun h9 => ?_)
    · skip
      refine B rfl ?_
      refine Exists.intro () (And.intro rfl (And.intro hp0 ?_))
      intro z10 σ12 h11
      have f13 : ∀ k j : Int, ¬ (93 ≤ k ∧ k ≤ 96) → σ12 k j = σ k j := h11.2
      have h14 : LY σ12 := h11.1
      have p15 : BW σ12 87 := BW_fr p1 (fun k j hk => (f13 _ _ (by omega)))
      refine Exists.intro (a1, a2, a3) (And.intro rfl (And.intro (And.intro p15 (And.intro (by show 0 ≤ a2; omega) (And.intro (by show a2 ≤ a3 + 1; omega) (by show a3 ≤ 1999; omega)))) ?_))
      intro z16 σ18 h17
      have f19 : ∀ k j : Int, ¬ (k = 86) → σ18 k j = σ12 k j := h17
      intro z20 ez20 hz20
      have hz20 : ((-2147483648) : Int) ≤ z20 ∧ z20 ≤ (2147483647 : Int) := rgl_ hz20 (by decide +kernel) (by decide +kernel) (by decide +kernel)
      try have t21 : σ18 86 19 = σ 86 19 := ((f19 _ _ (by omega)).trans (f13 _ _ (by omega)))
      refine Exists.intro _ (And.intro rfl ?_)
      exact (fun k j hk => ((f19 _ _ (by omega)).trans (f13 _ _ (by omega))))
    · skip
      refine Exists.intro _ (And.intro rfl ?_)
      exact (fun k j hk => rfl)
def as_G_X11_waiting : Int × Int × Int → List Sv_t := fun a => [(42, 86), (0, a.1), (0, a.2.1), (0, a.2.2)]
def pre_G_X11_waiting : Int × Int × Int → Me_t → Prop := fun a σ => (MI σ)
def post_G_X11_waiting : Int × Int × Int → Me_t → Int → Me_t → Prop := fun a σ z σ' => (∀ k j : Int, ¬ (k = 86 ∨ (93 ≤ k ∧ k ≤ 96)) → σ' k j = σ k j)
set_option maxHeartbeats 1500000 in
set_option maxRecDepth 100000 in
theorem ct_G_X11_waiting (l : Launch) : CT_ l yX11_waiting cX11_waiting 4 (some .int) 5 113 as_G_X11_waiting (rmI_) pre_G_X11_waiting post_G_X11_waiting := by
  refine ct_of (by decide) (fun _ => Nat.le_of_ble_eq_true rfl) ?_
  intro X G Q ad σ a hl hR E hG R hM hv hp
  obtain ⟨a1, a2, a3⟩ := a
  have r_a1 : -2147483648 ≤ a1 ∧ a1 ≤ 2147483647 := hv (0, a1) (List.mem_of_getElem? (i := 1) rfl)
  have r_a2 : -2147483648 ≤ a2 ∧ a2 ≤ 2147483647 := hv (0, a2) (List.mem_of_getElem? (i := 2) rfl)
  have r_a3 : -2147483648 ≤ a3 ∧ a3 ≤ 2147483647 := hv (0, a3) (List.mem_of_getElem? (i := 3) rfl)
  have hp0 : MI σ := hp
  have B := @bk_ X G Q 0 0 ad SHS_ RX11 cX11_waiting 4 (some .int) flX11 plX11 knX11 [(578, 2, TR_ as_G_X11_isSet (rmI_) pre_G_X11_isSet post_G_X11_isSet), (593, 2, TR_ as_G_X11_isSpan (rmI_) pre_G_X11_isSpan post_G_X11_isSpan), (538, 1, TR_ as_G_X11_lay (rmV_) pre_G_X11_lay post_G_X11_lay), (616, 4, TR_ as_G_X11_findWait (rmV_) pre_G_X11_findWait post_G_X11_findWait)] _ _ none kX11_waiting [] flX11_ok plX11_ok knX11_ok eX11_waiting oX11_waiting
    (List.forall_mem_cons.mpr ⟨cok_v (t := 32) (c := 11) (N := 39) (n := 1) (idx := 289) E (ct_G_X11_isSet X.2.1) (by rw [hR]; decide) (Nat.zero_le _) (Nat.zero_le _) hG rfl rfl ⟨rfl, by decide, by decide, by decide⟩ (fun _ => ⟨_, _, rfl, rfl⟩) wl_X11_289 wi_X11_isSet ws_X11_isSet wn_X11 wc_X11_isSet, List.forall_mem_cons.mpr ⟨cok_s (n := 2) (idx := 296) E (ct_G_X11_isSpan X.2.1) (by rw [hR]; decide) (Nat.zero_le _) (Nat.zero_le _) hG ⟨by decide, by decide, by decide⟩ (fun _ => rfl) wl_X11_296 wt_X11_isSpan wn_X11 wc_X11_isSpan, List.forall_mem_cons.mpr ⟨cok_v (t := 32) (c := 11) (N := 39) (n := 0) (idx := 269) E (ct_G_X11_lay X.2.1) (by rw [hR]; decide) (Nat.zero_le _) (Nat.zero_le _) hG rfl rfl ⟨rfl, by decide, by decide, by decide⟩ (fun _ => ⟨_, _, rfl, rfl⟩) wl_X11_269 wi_X11_lay ws_X11_lay wn_X11 wc_X11_lay, List.forall_mem_cons.mpr ⟨cok_v (t := 32) (c := 11) (N := 39) (n := 3) (idx := 308) E (ct_G_X11_findWait X.2.1) (by rw [hR]; decide) (Nat.zero_le _) (Nat.zero_le _) hG rfl rfl ⟨rfl, by decide, by decide, by decide⟩ (fun _ => ⟨_, _, rfl, rfl⟩) wl_X11_308 wi_X11_findWait ws_X11_findWait wn_X11 wc_X11_findWait, fun _ h => absurd h List.not_mem_nil⟩⟩⟩⟩) R sok_no E
  show WP_ X G Q 0 0 ad SHS_ σ 0 [(42, 86), (0, a1), (0, a2), (0, a3)] []
  refine B rfl ?_
  have p1 : BW σ 87 := (hp0).1.1
  refine Exists.intro a1 (And.intro rfl (And.intro p1 ?_))
  rintro z2 m_ h3
  obtain rfl : σ = m_ := h3.2
  have h4 : 0 ≤ z2 ∧ z2 ≤ 1 := h3.1
  refine And.intro (fun h5 => ?_) (fun h5 => ?_)
  · skip
    refine B rfl ?_
    refine Exists.intro _ (And.intro rfl ?_)
    exact (fun k j hk => rfl)
  · skip
    refine Exists.intro (a2, a3) (And.intro rfl (And.intro True.intro ?_))
    rintro z6 m_ h7
    obtain rfl : σ = m_ := h7.2
    have h8 : (z6 = 1 ∧ 0 ≤ a2 ∧ a2 ≤ a3 ∧ a3 ≤ 1999) ∨ z6 = 0 := h7.1
    refine And.intro (fun h9 => ?_) (fun h9 => ?_)
    · skip
      refine B rfl ?_
      refine Exists.intro () (And.intro rfl (And.intro hp0 ?_))
      intro z10 σ12 h11
      have f13 : ∀ k j : Int, ¬ (93 ≤ k ∧ k ≤ 96) → σ12 k j = σ k j := h11.2
      have h14 : LY σ12 := h11.1
      have p15 : BW σ12 87 := BW_fr p1 (fun k j hk => (f13 _ _ (by omega)))
      refine Exists.intro (a1, a2, a3) (And.intro rfl (And.intro (And.intro p15 (And.intro (by show 0 ≤ a2; omega) (And.intro (by show a2 ≤ a3 + 1; omega) (by show a3 ≤ 1999; omega)))) ?_))
      intro z16 σ18 h17
      have f19 : ∀ k j : Int, ¬ (k = 86) → σ18 k j = σ12 k j := h17
      intro z20 ez20 hz20
      have hz20 : ((-2147483648) : Int) ≤ z20 ∧ z20 ≤ (2147483647 : Int) := rgl_ hz20 (by decide +kernel) (by decide +kernel) (by decide +kernel)
      try have t21 : σ18 86 20 = σ 86 20 := ((f19 _ _ (by omega)).trans (f13 _ _ (by omega)))
      refine Exists.intro _ (And.intro rfl ?_)
      exact (fun k j hk => ((f19 _ _ (by omega)).trans (f13 _ _ (by omega))))
    · skip
      refine Exists.intro _ (And.intro rfl ?_)
      exact (fun k j hk => rfl)
def as_G_X11_next : Int × Int → List Sv_t := fun a => [(42, 86), (0, a.1), (0, a.2)]
def pre_G_X11_next : Int × Int → Me_t → Prop := fun a σ => (MI σ)
def post_G_X11_next : Int × Int → Me_t → Int → Me_t → Prop := fun a σ z σ' => (∀ k j : Int, ¬ (93 ≤ k ∧ k ≤ 96) → σ' k j = σ k j)
set_option maxHeartbeats 1500000 in
set_option maxRecDepth 100000 in
theorem ct_G_X11_next (l : Launch) : CT_ l yX11_next cX11_next 4 (some .int) 4 92 as_G_X11_next (rmI_) pre_G_X11_next post_G_X11_next := by
  refine ct_of (by decide) (fun _ => Nat.le_of_ble_eq_true rfl) ?_
  intro X G Q ad σ a hl hR E hG R hM hv hp
  obtain ⟨a1, a2⟩ := a
  have r_a1 : -2147483648 ≤ a1 ∧ a1 ≤ 2147483647 := hv (0, a1) (List.mem_of_getElem? (i := 1) rfl)
  have r_a2 : -2147483648 ≤ a2 ∧ a2 ≤ 2147483647 := hv (0, a2) (List.mem_of_getElem? (i := 2) rfl)
  have hp0 : MI σ := hp
  have B := @bk_ X G Q 0 0 ad SHS_ RX11 cX11_next 4 (some .int) flX11 plX11 knX11 [(578, 2, TR_ as_G_X11_isSet (rmI_) pre_G_X11_isSet post_G_X11_isSet), (179, 1, TR_ as_G_X11_isDay (rmI_) pre_G_X11_isDay post_G_X11_isDay), (538, 1, TR_ as_G_X11_lay (rmV_) pre_G_X11_lay post_G_X11_lay), (586, 3, TR_ as_G_X11_mayAll (rmI_) pre_G_X11_mayAll post_G_X11_mayAll)] _ _ none kX11_next [25] flX11_ok plX11_ok knX11_ok eX11_next oX11_next
    (List.forall_mem_cons.mpr ⟨cok_v (t := 32) (c := 11) (N := 39) (n := 1) (idx := 289) E (ct_G_X11_isSet X.2.1) (by rw [hR]; decide) (Nat.zero_le _) (Nat.zero_le _) hG rfl rfl ⟨rfl, by decide, by decide, by decide⟩ (fun _ => ⟨_, _, rfl, rfl⟩) wl_X11_289 wi_X11_isSet ws_X11_isSet wn_X11 wc_X11_isSet, List.forall_mem_cons.mpr ⟨cok_s (n := 1) (idx := 89) E (ct_G_X11_isDay X.2.1) (by rw [hR]; decide) (Nat.zero_le _) (Nat.zero_le _) hG ⟨by decide, by decide, by decide⟩ (fun _ => rfl) wl_X11_89 wt_X11_isDay wn_X11 wc_X11_isDay, List.forall_mem_cons.mpr ⟨cok_v (t := 32) (c := 11) (N := 39) (n := 0) (idx := 269) E (ct_G_X11_lay X.2.1) (by rw [hR]; decide) (Nat.zero_le _) (Nat.zero_le _) hG rfl rfl ⟨rfl, by decide, by decide, by decide⟩ (fun _ => ⟨_, _, rfl, rfl⟩) wl_X11_269 wi_X11_lay ws_X11_lay wn_X11 wc_X11_lay, List.forall_mem_cons.mpr ⟨cok_v (t := 32) (c := 11) (N := 39) (n := 2) (idx := 293) E (ct_G_X11_mayAll X.2.1) (by rw [hR]; decide) (Nat.zero_le _) (Nat.zero_le _) hG rfl rfl ⟨rfl, by decide, by decide, by decide⟩ (fun _ => ⟨_, _, rfl, rfl⟩) wl_X11_293 wi_X11_mayAll ws_X11_mayAll wn_X11 wc_X11_mayAll, fun _ h => absurd h List.not_mem_nil⟩⟩⟩⟩) R sok_no E
  show WP_ X G Q 0 0 ad SHS_ σ 0 [(42, 86), (0, a1), (0, a2), (9, 0)] []
  refine B rfl ?_
  have p1 : BW σ 87 := (hp0).1.1
  refine Exists.intro a1 (And.intro rfl (And.intro p1 ?_))
  rintro z2 m_ h3
  obtain rfl : σ = m_ := h3.2
  have h4 : 0 ≤ z2 ∧ z2 ≤ 1 := h3.1
  refine And.intro (fun h5 => ?_) (fun h5 => ?_)
  · skip
    refine B rfl ?_
    refine Exists.intro _ (And.intro rfl ?_)
    exact (fun k j hk => rfl)
  · skip
    refine Exists.intro a2 (And.intro rfl (And.intro True.intro ?_))
    rintro z6 m_ h7
    obtain rfl : σ = m_ := h7.2
    have h8 : (z6 = 1 ∧ 0 ≤ a2 ∧ a2 ≤ 1999) ∨ z6 = 0 := h7.1
    refine And.intro (fun h9 => ?_) (fun h9 => ?_)
    · skip
      refine B rfl ?_
      refine Exists.intro () (And.intro rfl (And.intro hp0 ?_))
      intro z10 σ12 h11
      have f13 : ∀ k j : Int, ¬ (93 ≤ k ∧ k ≤ 96) → σ12 k j = σ k j := h11.2
      have h14 : LY σ12 := h11.1
      show WP_ X G Q 0 0 ad SHS_ σ12 25 [(42, 86), (0, a1), (0, a2), (0, a2)] []
      refine wdrop_ (L' := [(42, 86), (0, a1), (9, 0), (0, a2)]) ⟨Or.inr rfl, ⟨Or.inr rfl, ⟨Or.inl rfl, ⟨Or.inr rfl, trivial⟩⟩⟩⟩ ?_
      have lp_25 : ∀ (nq_ : Nat) (v3 : Int), (a2 ≤ v3) → (v3 ≤ 2000) → (2000 - v3 : Int).toNat < nq_ → WP_ X G Q 0 0 ad SHS_ σ12 25 [(42, 86), (0, a1), (9, 0), (0, v3)] [] := by
        intro nq_
        induction nq_ with
        | zero => intros; omega
        | succ nq_ ih_25 =>
          intro v3 hi25_0 hi25_1 hm25
          refine B rfl ?_
          refine And.intro (fun h15 => ?_) (fun h15 => ?_)
          · skip
            refine B rfl ?_
            refine Exists.intro _ (And.intro rfl ?_)
            exact (fun k j hk => (f13 _ _ (by omega)))
          · skip
            have p16 : BW σ12 87 := BW_fr p1 (fun k j hk => (f13 _ _ (by omega)))
            refine Exists.intro (a1, v3) (And.intro rfl (And.intro (And.intro p16 (And.intro (by show 0 ≤ v3; omega) (by show v3 ≤ 1999; omega))) ?_))
            rintro z17 m_ h18
            obtain rfl : σ12 = m_ := h18.2
            have h19 : 0 ≤ z17 ∧ z17 ≤ 1 := h18.1
            refine And.intro (fun h20 => ?_) (fun h20 => ?_)
            · skip
              refine B rfl ?_
              refine And.intro (by omega) ?_
              exact ih_25 (v3 + 1) (by show a2 ≤ (v3 + 1); omega) (by show (v3 + 1) ≤ 2000; omega) (by omega)
            · skip
              refine Exists.intro _ (And.intro rfl ?_)
              exact (fun k j hk => (f13 _ _ (by omega)))
      exact lp_25 ((2000 - a2 : Int).toNat + 1) a2 (by show a2 ≤ a2; omega) (by show a2 ≤ 2000; omega) (by omega)
    · skip
      refine Exists.intro _ (And.intro rfl ?_)
      exact (fun k j hk => rfl)
def as_G_X11_share : Int × Int × Int × Int → List Sv_t := fun a => [(42, 86), (0, a.1), (0, a.2.1), (0, a.2.2.1), (0, a.2.2.2)]
def pre_G_X11_share : Int × Int × Int × Int → Me_t → Prop := fun a σ => (MI σ)
def post_G_X11_share : Int × Int × Int × Int → Me_t → Int → Me_t → Prop := fun a σ z σ' => (∀ k j : Int, ¬ (93 ≤ k ∧ k ≤ 96) → σ' k j = σ k j)
set_option maxHeartbeats 1500000 in
set_option maxRecDepth 100000 in
theorem ct_G_X11_share (l : Launch) : CT_ l yX11_share cX11_share 7 (some .int) 5 113 as_G_X11_share (rmI_) pre_G_X11_share post_G_X11_share := by
  refine ct_of (by decide) (fun _ => Nat.le_of_ble_eq_true rfl) ?_
  intro X G Q ad σ a hl hR E hG R hM hv hp
  obtain ⟨a1, a2, a3, a4⟩ := a
  have r_a1 : -2147483648 ≤ a1 ∧ a1 ≤ 2147483647 := hv (0, a1) (List.mem_of_getElem? (i := 1) rfl)
  have r_a2 : -2147483648 ≤ a2 ∧ a2 ≤ 2147483647 := hv (0, a2) (List.mem_of_getElem? (i := 2) rfl)
  have r_a3 : -2147483648 ≤ a3 ∧ a3 ≤ 2147483647 := hv (0, a3) (List.mem_of_getElem? (i := 3) rfl)
  have r_a4 : -2147483648 ≤ a4 ∧ a4 ≤ 2147483647 := hv (0, a4) (List.mem_of_getElem? (i := 4) rfl)
  have hp0 : MI σ := hp
  have B := @bk_ X G Q 0 0 ad SHS_ RX11 cX11_share 7 (some .int) flX11 plX11 knX11 [(578, 2, TR_ as_G_X11_isSet (rmI_) pre_G_X11_isSet post_G_X11_isSet), (593, 2, TR_ as_G_X11_isSpan (rmI_) pre_G_X11_isSpan post_G_X11_isSpan), (159, 3, TR_ as_G_X11_in (rmI_) pre_G_X11_in post_G_X11_in), (538, 1, TR_ as_G_X11_lay (rmV_) pre_G_X11_lay post_G_X11_lay), (598, 4, TR_ as_G_X11_manyOf (rmI_) pre_G_X11_manyOf post_G_X11_manyOf), (625, 2, TR_ as_G_X11_divisor (rmI_) pre_G_X11_divisor post_G_X11_divisor)] _ _ none kX11_share [] flX11_ok plX11_ok knX11_ok eX11_share oX11_share
    (List.forall_mem_cons.mpr ⟨cok_v (t := 32) (c := 11) (N := 39) (n := 1) (idx := 289) E (ct_G_X11_isSet X.2.1) (by rw [hR]; decide) (Nat.zero_le _) (Nat.zero_le _) hG rfl rfl ⟨rfl, by decide, by decide, by decide⟩ (fun _ => ⟨_, _, rfl, rfl⟩) wl_X11_289 wi_X11_isSet ws_X11_isSet wn_X11 wc_X11_isSet, List.forall_mem_cons.mpr ⟨cok_s (n := 2) (idx := 296) E (ct_G_X11_isSpan X.2.1) (by rw [hR]; decide) (Nat.zero_le _) (Nat.zero_le _) hG ⟨by decide, by decide, by decide⟩ (fun _ => rfl) wl_X11_296 wt_X11_isSpan wn_X11 wc_X11_isSpan, List.forall_mem_cons.mpr ⟨cok_s (n := 3) (idx := 79) E (ct_G_X11_in X.2.1) (by rw [hR]; decide) (Nat.zero_le _) (Nat.zero_le _) hG ⟨by decide, by decide, by decide⟩ (fun _ => rfl) wl_X11_79 wt_X11_in wn_X11 wc_X11_in, List.forall_mem_cons.mpr ⟨cok_v (t := 32) (c := 11) (N := 39) (n := 0) (idx := 269) E (ct_G_X11_lay X.2.1) (by rw [hR]; decide) (Nat.zero_le _) (Nat.zero_le _) hG rfl rfl ⟨rfl, by decide, by decide, by decide⟩ (fun _ => ⟨_, _, rfl, rfl⟩) wl_X11_269 wi_X11_lay ws_X11_lay wn_X11 wc_X11_lay, List.forall_mem_cons.mpr ⟨cok_v (t := 32) (c := 11) (N := 39) (n := 3) (idx := 299) E (ct_G_X11_manyOf X.2.1) (by rw [hR]; decide) (Nat.zero_le _) (Nat.zero_le _) hG rfl rfl ⟨rfl, by decide, by decide, by decide⟩ (fun _ => ⟨_, _, rfl, rfl⟩) wl_X11_299 wi_X11_manyOf ws_X11_manyOf wn_X11 wc_X11_manyOf, List.forall_mem_cons.mpr ⟨cok_s (n := 2) (idx := 312) E (ct_G_X11_divisor X.2.1) (by rw [hR]; decide) (Nat.zero_le _) (Nat.zero_le _) hG ⟨by decide, by decide, by decide⟩ (fun _ => rfl) wl_X11_312 wt_X11_divisor wn_X11 wc_X11_divisor, fun _ h => absurd h List.not_mem_nil⟩⟩⟩⟩⟩⟩) R sok_no E
  show WP_ X G Q 0 0 ad SHS_ σ 0 [(42, 86), (0, a1), (0, a2), (0, a3), (0, a4), (9, 0), (9, 0)] []
  refine B rfl ?_
  have p1 : BW σ 87 := (hp0).1.1
  refine Exists.intro a1 (And.intro rfl (And.intro p1 ?_))
  rintro z2 m_ h3
  obtain rfl : σ = m_ := h3.2
  have h4 : 0 ≤ z2 ∧ z2 ≤ 1 := h3.1
  refine And.intro (fun h5 => ?_) (fun h5 => ?_)
  · skip
    refine B rfl ?_
    refine Exists.intro _ (And.intro rfl ?_)
    exact (fun k j hk => rfl)
  · skip
    refine Exists.intro (a2, a3) (And.intro rfl (And.intro True.intro ?_))
    rintro z6 m_ h7
    obtain rfl : σ = m_ := h7.2
    have h8 : (z6 = 1 ∧ 0 ≤ a2 ∧ a2 ≤ a3 ∧ a3 ≤ 1999) ∨ z6 = 0 := h7.1
    refine And.intro (fun h9 => ?_) (fun h9 => ?_)
    · skip
      refine B rfl ?_
      refine Exists.intro _ (And.intro rfl ?_)
      exact (fun k j hk => rfl)
    · skip
      refine Exists.intro (a4, 0, 1) (And.intro rfl (And.intro True.intro ?_))
      rintro z10 m_ h11
      obtain rfl : σ = m_ := h11.2
      have h12 : (z10 = 1 ∧ 0 ≤ a4 ∧ a4 ≤ 1) ∨ (z10 = 0 ∧ ¬ (0 ≤ a4 ∧ a4 ≤ 1)) := h11.1
      refine And.intro (fun h13 => ?_) (fun h13 => ?_)
      · skip
        refine B rfl ?_
        refine Exists.intro () (And.intro rfl (And.intro hp0 ?_))
        intro z14 σ16 h15
        have f17 : ∀ k j : Int, ¬ (93 ≤ k ∧ k ≤ 96) → σ16 k j = σ k j := h15.2
        have h18 : LY σ16 := h15.1
        have p19 : BW σ16 87 := BW_fr p1 (fun k j hk => (f17 _ _ (by omega)))
        refine Exists.intro (a1, a2, a3) (And.intro rfl (And.intro (And.intro p19 (And.intro (by show 0 ≤ a2; omega) (And.intro (by show a2 ≤ a3 + 1; omega) (by show a3 ≤ 1999; omega)))) ?_))
        rintro z20 m_ h21
        obtain rfl : σ16 = m_ := h21.2
        have h22 : 0 ≤ z20 ∧ z20 ≤ a3 + 1 - a2 := h21.1
        refine And.intro (by omega) ?_
        refine And.intro (by omega) ?_
        refine And.intro (fun h23 => ?_) (fun h23 => ?_)
        · skip
          refine B rfl ?_
          refine Exists.intro (z20, (a3 - a2) + 1) (And.intro rfl (And.intro (And.intro (by show 0 ≤ z20; omega) (by show 1 ≤ ((a3 - a2) + 1); omega)) ?_))
          rintro z24 m_ h25
          obtain rfl : σ16 = m_ := h25.2
          have h26 : 1 ≤ z24 := h25.1
          have q27 := tdiv_r (x := (a3 - a2) + 1) (y := z24) (by omega) (by omega)
          refine And.intro (by omega) ?_
          refine Exists.intro _ (And.intro rfl ?_)
          exact (fun k j hk => (f17 _ _ (by omega)))
        · skip
          refine B rfl ?_
          refine Exists.intro (z20, (a3 - a2) + 1) (And.intro rfl (And.intro (And.intro (by show 0 ≤ z20; omega) (by show 1 ≤ ((a3 - a2) + 1); omega)) ?_))
          rintro z28 m_ h29
          obtain rfl : σ16 = m_ := h29.2
          have h30 : 1 ≤ z28 := h29.1
          have q31 := tdiv_r (x := z20) (y := z28) (by omega) (by omega)
          refine And.intro (by omega) ?_
          refine Exists.intro _ (And.intro rfl ?_)
          exact (fun k j hk => (f17 _ _ (by omega)))
      · skip
        refine Exists.intro _ (And.intro rfl ?_)
        exact (fun k j hk => rfl)
def as_G_X11_meets : Int × Int × Int × Int × Int → List Sv_t := fun a => [(42, 86), (0, a.1), (0, a.2.1), (0, a.2.2.1), (0, a.2.2.2.1), (0, a.2.2.2.2)]
def pre_G_X11_meets : Int × Int × Int × Int × Int → Me_t → Prop := fun a σ => (MI σ)
def post_G_X11_meets : Int × Int × Int × Int × Int → Me_t → Int → Me_t → Prop := fun a σ z σ' => (σ = σ')
set_option maxHeartbeats 1500000 in
set_option maxRecDepth 100000 in
theorem ct_G_X11_meets (l : Launch) : CT_ l yX11_meets cX11_meets 8 (some .int) 3 69 as_G_X11_meets (rmI_) pre_G_X11_meets post_G_X11_meets := by
  refine ct_of (by decide) (fun _ => Nat.le_of_ble_eq_true rfl) ?_
  intro X G Q ad σ a hl hR E hG R hM hv hp
  obtain ⟨a1, a2, a3, a4, a5⟩ := a
  have r_a1 : -2147483648 ≤ a1 ∧ a1 ≤ 2147483647 := hv (0, a1) (List.mem_of_getElem? (i := 1) rfl)
  have r_a2 : -2147483648 ≤ a2 ∧ a2 ≤ 2147483647 := hv (0, a2) (List.mem_of_getElem? (i := 2) rfl)
  have r_a3 : -2147483648 ≤ a3 ∧ a3 ≤ 2147483647 := hv (0, a3) (List.mem_of_getElem? (i := 3) rfl)
  have r_a4 : -2147483648 ≤ a4 ∧ a4 ≤ 2147483647 := hv (0, a4) (List.mem_of_getElem? (i := 4) rfl)
  have r_a5 : -2147483648 ≤ a5 ∧ a5 ≤ 2147483647 := hv (0, a5) (List.mem_of_getElem? (i := 5) rfl)
  have hp0 : MI σ := hp
  have B := @bk_ X G Q 0 0 ad SHS_ RX11 cX11_meets 8 (some .int) flX11 plX11 knX11 [(630, 3, TR_ as_G_X11_areTwo (rmI_) pre_G_X11_areTwo post_G_X11_areTwo), (636, 3, TR_ as_G_X11_isWeekday (rmI_) pre_G_X11_isWeekday post_G_X11_isWeekday), (179, 1, TR_ as_G_X11_isDay (rmI_) pre_G_X11_isDay post_G_X11_isDay), (200, 3, TOR_ (TR_ as_G_X11_of_0 (rmI_) pre_G_X11_of_0 post_G_X11_of_0) (TR_ as_G_X11_of_1 (rmI_) pre_G_X11_of_1 post_G_X11_of_1)), (472, 3, TR_ as_G_X11_weekday (rmI_) pre_G_X11_weekday post_G_X11_weekday), (643, 2, TMAX_)] _ _ none kX11_meets [9, 18, 28, 37, 66, 87, 98, 110] flX11_ok plX11_ok knX11_ok eX11_meets oX11_meets
    (List.forall_mem_cons.mpr ⟨cok_v (t := 32) (c := 11) (N := 39) (n := 2) (idx := 315) E (ct_G_X11_areTwo X.2.1) (by rw [hR]; decide) (Nat.zero_le _) (Nat.zero_le _) hG rfl rfl ⟨rfl, by decide, by decide, by decide⟩ (fun _ => ⟨_, _, rfl, rfl⟩) wl_X11_315 wi_X11_areTwo ws_X11_areTwo wn_X11 wc_X11_areTwo, List.forall_mem_cons.mpr ⟨cok_v (t := 32) (c := 11) (N := 39) (n := 2) (idx := 318) E (ct_G_X11_isWeekday X.2.1) (by rw [hR]; decide) (Nat.zero_le _) (Nat.zero_le _) hG rfl rfl ⟨rfl, by decide, by decide, by decide⟩ (fun _ => ⟨_, _, rfl, rfl⟩) wl_X11_318 wi_X11_isWeekday ws_X11_isWeekday wn_X11 wc_X11_isWeekday, List.forall_mem_cons.mpr ⟨cok_s (n := 1) (idx := 89) E (ct_G_X11_isDay X.2.1) (by rw [hR]; decide) (Nat.zero_le _) (Nat.zero_le _) hG ⟨by decide, by decide, by decide⟩ (fun _ => rfl) wl_X11_89 wt_X11_isDay wn_X11 wc_X11_isDay, List.forall_mem_cons.mpr ⟨cok_or (cok_v (t := 32) (c := 11) (N := 39) (n := 2) (idx := 100) E (ct_G_X11_of_0 X.2.1) (by rw [hR]; decide) (Nat.zero_le _) (Nat.zero_le _) hG rfl rfl ⟨rfl, by decide, by decide, by decide⟩ (fun _ => ⟨_, _, rfl, rfl⟩) wl_X11_100 wi_X11_of ws_X11_of wn_X11 wc_X11_of) (cok_v (t := 32) (c := 11) (N := 39) (n := 2) (idx := 100) E (ct_G_X11_of_1 X.2.1) (by rw [hR]; decide) (Nat.zero_le _) (Nat.zero_le _) hG rfl rfl ⟨rfl, by decide, by decide, by decide⟩ (fun _ => ⟨_, _, rfl, rfl⟩) wl_X11_100 wi_X11_of ws_X11_of wn_X11 wc_X11_of), List.forall_mem_cons.mpr ⟨cok_v (t := 32) (c := 11) (N := 39) (n := 2) (idx := 236) E (ct_G_X11_weekday X.2.1) (by rw [hR]; decide) (Nat.zero_le _) (Nat.zero_le _) hG rfl rfl ⟨rfl, by decide, by decide, by decide⟩ (fun _ => ⟨_, _, rfl, rfl⟩) wl_X11_236 wi_X11_weekday ws_X11_weekday wn_X11 wc_X11_weekday, List.forall_mem_cons.mpr ⟨cok_max (idx := 321) E (by rw [hR]; decide) (Nat.zero_le _) (Nat.zero_le _) wl_X11_321, fun _ h => absurd h List.not_mem_nil⟩⟩⟩⟩⟩⟩) R sok_no E
  show WP_ X G Q 0 0 ad SHS_ σ 0 [(42, 86), (0, a1), (0, a2), (0, a3), (0, a4), (0, a5), (9, 0), (9, 0)] []
  refine B rfl ?_
  have p1 : BW σ 87 := (hp0).1.1
  refine Exists.intro (a1, a3) (And.intro rfl (And.intro p1 ?_))
  rintro z2 m_ h3
  obtain rfl : σ = m_ := h3.2
  have h4 : (z2 = 1 ∧ 0 ≤ a1 ∧ a1 ≤ 2 ∧ a1 < σ 87 1 ∧ 0 ≤ a3 ∧ a3 ≤ 2 ∧ a3 < σ 87 1 ∧ a1 ≠ a3) ∨ z2 = 0 := h3.1
  refine And.intro (fun h5 => ?_) (fun h5 => ?_)
  · skip
    refine B rfl ?_
    refine Exists.intro _ (And.intro rfl ?_)
    exact rfl
  · skip
    show WP_ X G Q 0 0 ad SHS_ σ 9 [(42, 86), (0, a1), (0, a2), (0, a3), (0, a4), (0, a5), (9, 0), (9, 0)] []
    refine B rfl ?_
    refine Exists.intro (a1, a2) (And.intro rfl (And.intro (And.intro p1 (And.intro (by show 0 ≤ a1; omega) (by show a1 ≤ 2; omega))) ?_))
    rintro z6 m_ h7
    obtain rfl : σ = m_ := h7.2
    have h8 : 0 ≤ z6 ∧ z6 ≤ 1 := h7.1
    refine And.intro (fun h9 => ?_) (fun h9 => ?_)
    · skip
      refine B rfl ?_
      refine Exists.intro _ (And.intro rfl ?_)
      exact rfl
    · skip
      show WP_ X G Q 0 0 ad SHS_ σ 18 [(42, 86), (0, a1), (0, a2), (0, a3), (0, a4), (0, a5), (9, 0), (9, 0)] []
      refine B rfl ?_
      refine Exists.intro (a3, a4) (And.intro rfl (And.intro (And.intro p1 (And.intro (by show 0 ≤ a3; omega) (by show a3 ≤ 2; omega))) ?_))
      rintro z10 m_ h11
      obtain rfl : σ = m_ := h11.2
      have h12 : 0 ≤ z10 ∧ z10 ≤ 1 := h11.1
      refine And.intro (fun h13 => ?_) (fun h13 => ?_)
      · skip
        refine B rfl ?_
        refine Exists.intro _ (And.intro rfl ?_)
        exact rfl
      · skip
        show WP_ X G Q 0 0 ad SHS_ σ 28 [(42, 86), (0, a1), (0, a2), (0, a3), (0, a4), (0, a5), (9, 0), (9, 0)] []
        refine B rfl ?_
        refine Exists.intro a5 (And.intro rfl (And.intro True.intro ?_))
        rintro z14 m_ h15
        obtain rfl : σ = m_ := h15.2
        have h16 : (z14 = 1 ∧ 0 ≤ a5 ∧ a5 ≤ 1999) ∨ z14 = 0 := h15.1
        refine And.intro (fun h17 => ?_) (fun h17 => ?_)
        · skip
          refine B rfl ?_
          refine Or.inl ?_
          refine Exists.intro a1 (And.intro rfl (And.intro (And.intro p1 (And.intro (by show 0 ≤ a1; omega) (by show a1 ≤ 2; omega))) ?_))
          rintro z18 m_ h19
          obtain rfl : σ = m_ := h19.2.2
          have h20 : z18 = σ 87 (6 + 15 * a1 + 0) := h19.1
          have h21 : 0 ≤ z18 ∧ z18 ≤ 999 := h19.2.1
          refine Or.inl ?_
          refine Exists.intro a3 (And.intro rfl (And.intro (And.intro p1 (And.intro (by show 0 ≤ a3; omega) (by show a3 ≤ 2; omega))) ?_))
          rintro z22 m_ h23
          obtain rfl : σ = m_ := h23.2.2
          have h24 : z22 = σ 87 (6 + 15 * a3 + 0) := h23.1
          have h25 : 0 ≤ z22 ∧ z22 ≤ 999 := h23.2.1
          refine Exists.intro z18 (Exists.intro z22 (And.intro rfl ?_))
          intro z26 hz26
          refine Exists.intro a5 (Exists.intro z26 (And.intro rfl ?_))
          intro z27 hz27
          show WP_ X G Q 0 0 ad SHS_ σ 66 [(42, 86), (0, a1), (0, a2), (0, a3), (0, a4), (0, a5), (0, z27), (0, z27)] []
          refine wdrop_ (L' := [(42, 86), (0, a1), (0, a2), (0, a3), (0, a4), (9, 0), (0, z27), (0, z27)]) ⟨Or.inr rfl, ⟨Or.inr rfl, ⟨Or.inr rfl, ⟨Or.inr rfl, ⟨Or.inr rfl, ⟨Or.inl rfl, ⟨Or.inr rfl, ⟨Or.inr rfl, trivial⟩⟩⟩⟩⟩⟩⟩⟩ ?_
          have lp_66 : ∀ (nq_ : Nat) (v7 : Int), (0 ≤ v7) → (v7 ≤ 2200) → (2200 - v7 : Int).toNat < nq_ → WP_ X G Q 0 0 ad SHS_ σ 66 [(42, 86), (0, a1), (0, a2), (0, a3), (0, a4), (9, 0), (0, z27), (0, v7)] [] := by
            intro nq_
            induction nq_ with
            | zero => intros; omega
            | succ nq_ ih_66 =>
              intro v7 hi66_0 hi66_1 hm66
              refine B rfl ?_
              refine Or.inr ?_
              refine Exists.intro a1 (And.intro rfl (And.intro (And.intro p1 (And.intro (by show 0 ≤ a1; omega) (by show a1 ≤ 2; omega))) ?_))
              rintro z28 m_ h29
              obtain rfl : σ = m_ := h29.2.2
              have h30 : z28 = σ 87 (6 + 15 * a1 + 1) := h29.1
              have h31 : 0 ≤ z28 ∧ z28 ≤ 10 := h29.2.1
              refine Or.inr ?_
              refine Exists.intro a3 (And.intro rfl (And.intro (And.intro p1 (And.intro (by show 0 ≤ a3; omega) (by show a3 ≤ 2; omega))) ?_))
              rintro z32 m_ h33
              obtain rfl : σ = m_ := h33.2.2
              have h34 : z32 = σ 87 (6 + 15 * a3 + 1) := h33.1
              have h35 : 0 ≤ z32 ∧ z32 ≤ 10 := h33.2.1
              have q36 : 0 ≤ z28 * z32 ∧ z28 * z32 ≤ 100 := mul_r (A := 10) (B := 10) (by omega) (by omega) (by omega) (by omega)
              refine And.intro (by omega) ?_
              refine And.intro (by omega) ?_
              refine And.intro (fun h37 => ?_) (fun h37 => ?_)
              · skip
                refine B rfl ?_
                refine Exists.intro _ (And.intro rfl ?_)
                exact rfl
              · skip
                show WP_ X G Q 0 0 ad SHS_ σ 87 [(42, 86), (0, a1), (0, a2), (0, a3), (0, a4), (9, 0), (0, z27), (0, v7)] []
                refine B rfl ?_
                have p38 : SW σ 87 := (hp0).1.2.1
                have w39 := p38 a1 (by omega) (by omega) (by omega)
                refine Exists.intro (a1, v7) (And.intro rfl (And.intro (And.intro p1 (And.intro (by show 0 ≤ a1; omega) (And.intro (by show a1 ≤ 2; omega) (And.intro (by show 1 ≤ σ 87 (6 + 15 * a1 + 1); omega) (And.intro (by show 0 ≤ v7; omega) (by show v7 ≤ 10000; omega)))))) ?_))
                rintro z40 m_ h41
                obtain rfl : σ = m_ := h41.2
                have h42 : -1 ≤ z40 ∧ z40 ≤ 9 := h41.1
                refine And.intro (fun h43 => ?_) (fun h43 => ?_)
                · skip
                  refine B rfl ?_
                  refine And.intro (by omega) ?_
                  exact ih_66 (v7 + 1) (by show 0 ≤ (v7 + 1); omega) (by show (v7 + 1) ≤ 2200; omega) (by omega)
                · skip
                  show WP_ X G Q 0 0 ad SHS_ σ 98 [(42, 86), (0, a1), (0, a2), (0, a3), (0, a4), (9, 0), (0, z27), (0, v7)] []
                  refine B rfl ?_
                  have w44 := p38 a3 (by omega) (by omega) (by omega)
                  refine Exists.intro (a3, v7) (And.intro rfl (And.intro (And.intro p1 (And.intro (by show 0 ≤ a3; omega) (And.intro (by show a3 ≤ 2; omega) (And.intro (by show 1 ≤ σ 87 (6 + 15 * a3 + 1); omega) (And.intro (by show 0 ≤ v7; omega) (by show v7 ≤ 10000; omega)))))) ?_))
                  rintro z45 m_ h46
                  obtain rfl : σ = m_ := h46.2
                  have h47 : -1 ≤ z45 ∧ z45 ≤ 9 := h46.1
                  refine And.intro (fun h48 => ?_) (fun h48 => ?_)
                  · skip
                    refine B rfl ?_
                    refine And.intro (by omega) ?_
                    exact ih_66 (v7 + 1) (by show 0 ≤ (v7 + 1); omega) (by show (v7 + 1) ≤ 2200; omega) (by omega)
                  · skip
                    show WP_ X G Q 0 0 ad SHS_ σ 110 [(42, 86), (0, a1), (0, a2), (0, a3), (0, a4), (9, 0), (0, z27), (0, v7)] []
                    refine B rfl ?_
                    refine Exists.intro _ (And.intro rfl ?_)
                    exact rfl
          exact lp_66 ((2200 - z27 : Int).toNat + 1) z27 (by show 0 ≤ z27; omega) (by show z27 ≤ 2200; omega) (by omega)
        · skip
          show WP_ X G Q 0 0 ad SHS_ σ 37 [(42, 86), (0, a1), (0, a2), (0, a3), (0, a4), (0, a5), (9, 0), (9, 0)] []
          refine B rfl ?_
          refine Exists.intro _ (And.intro rfl ?_)
          exact rfl
def as_G_X11_period : Int → List Sv_t := fun a => [(42, 86), (0, a)]
def pre_G_X11_period : Int → Me_t → Prop := fun a σ => (MI σ)
def post_G_X11_period : Int → Me_t → Int → Me_t → Prop := fun a σ z σ' => (σ = σ')
set_option maxHeartbeats 1500000 in
set_option maxRecDepth 100000 in
theorem ct_G_X11_period (l : Launch) : CT_ l yX11_period cX11_period 4 (some .int) 3 69 as_G_X11_period (rmI_) pre_G_X11_period post_G_X11_period := by
  refine ct_of (by decide) (fun _ => Nat.le_of_ble_eq_true rfl) ?_
  intro X G Q ad σ a hl hR E hG R hM hv hp
  obtain ⟨a1, rfl⟩ : ∃ q : Int, q = a := ⟨_, rfl⟩
  have r_a1 : -2147483648 ≤ a1 ∧ a1 ≤ 2147483647 := hv (0, a1) (List.mem_of_getElem? (i := 1) rfl)
  have hp0 : MI σ := hp
  have B := @bk_ X G Q 0 0 ad SHS_ RX11 cX11_period 4 (some .int) flX11 plX11 knX11 [(166, 2, TR_ as_G_X11_isLand (rmI_) pre_G_X11_isLand post_G_X11_isLand), (200, 3, TOR_ (TR_ as_G_X11_of_4 (rmI_) pre_G_X11_of_4 post_G_X11_of_4) (TR_ as_G_X11_of_1 (rmI_) pre_G_X11_of_1 post_G_X11_of_1)), (625, 2, TR_ as_G_X11_divisor (rmI_) pre_G_X11_divisor post_G_X11_divisor), (550, 3, TR_ as_G_X11_yearLength (rmI_) pre_G_X11_yearLength post_G_X11_yearLength), (643, 2, TMAX_)] _ _ none kX11_period [16] flX11_ok plX11_ok knX11_ok eX11_period oX11_period
    (List.forall_mem_cons.mpr ⟨cok_v (t := 32) (c := 11) (N := 39) (n := 1) (idx := 83) E (ct_G_X11_isLand X.2.1) (by rw [hR]; decide) (Nat.zero_le _) (Nat.zero_le _) hG rfl rfl ⟨rfl, by decide, by decide, by decide⟩ (fun _ => ⟨_, _, rfl, rfl⟩) wl_X11_83 wi_X11_isLand ws_X11_isLand wn_X11 wc_X11_isLand, List.forall_mem_cons.mpr ⟨cok_or (cok_v (t := 32) (c := 11) (N := 39) (n := 2) (idx := 100) E (ct_G_X11_of_4 X.2.1) (by rw [hR]; decide) (Nat.zero_le _) (Nat.zero_le _) hG rfl rfl ⟨rfl, by decide, by decide, by decide⟩ (fun _ => ⟨_, _, rfl, rfl⟩) wl_X11_100 wi_X11_of ws_X11_of wn_X11 wc_X11_of) (cok_v (t := 32) (c := 11) (N := 39) (n := 2) (idx := 100) E (ct_G_X11_of_1 X.2.1) (by rw [hR]; decide) (Nat.zero_le _) (Nat.zero_le _) hG rfl rfl ⟨rfl, by decide, by decide, by decide⟩ (fun _ => ⟨_, _, rfl, rfl⟩) wl_X11_100 wi_X11_of ws_X11_of wn_X11 wc_X11_of), List.forall_mem_cons.mpr ⟨cok_s (n := 2) (idx := 312) E (ct_G_X11_divisor X.2.1) (by rw [hR]; decide) (Nat.zero_le _) (Nat.zero_le _) hG ⟨by decide, by decide, by decide⟩ (fun _ => rfl) wl_X11_312 wt_X11_divisor wn_X11 wc_X11_divisor, List.forall_mem_cons.mpr ⟨cok_v (t := 32) (c := 11) (N := 39) (n := 2) (idx := 275) E (ct_G_X11_yearLength X.2.1) (by rw [hR]; decide) (Nat.zero_le _) (Nat.zero_le _) hG rfl rfl ⟨rfl, by decide, by decide, by decide⟩ (fun _ => ⟨_, _, rfl, rfl⟩) wl_X11_275 wi_X11_yearLength ws_X11_yearLength wn_X11 wc_X11_yearLength, List.forall_mem_cons.mpr ⟨cok_max (idx := 321) E (by rw [hR]; decide) (Nat.zero_le _) (Nat.zero_le _) wl_X11_321, fun _ h => absurd h List.not_mem_nil⟩⟩⟩⟩⟩) R sok_no E
  show WP_ X G Q 0 0 ad SHS_ σ 0 [(42, 86), (0, a1), (9, 0), (9, 0)] []
  refine B rfl ?_
  have p1 : BW σ 87 := (hp0).1.1
  refine Exists.intro a1 (And.intro rfl (And.intro p1 ?_))
  rintro z2 m_ h3
  obtain rfl : σ = m_ := h3.2
  have h4 : (z2 = 1 ∧ 0 ≤ a1 ∧ a1 ≤ 2 ∧ a1 < σ 87 1) ∨ z2 = 0 := h3.1
  refine And.intro (fun h5 => ?_) (fun h5 => ?_)
  · skip
    refine B rfl ?_
    have lp_16 : ∀ (nq_ : Nat) (v2 : Int) (v3 : Int), (0 ≤ v3) → (v3 ≤ 9) → (0 ≤ v2) → (v2 ≤ 552 * v3) → (9 - v3 : Int).toNat < nq_ → WP_ X G Q 0 0 ad SHS_ σ 16 [(42, 86), (0, a1), (0, v2), (0, v3)] [] := by
      intro nq_
      induction nq_ with
      | zero => intros; omega
      | succ nq_ ih_16 =>
        intro v2 v3 hi16_0 hi16_1 hi16_2 hi16_3 hm16
        refine B rfl ?_
        refine Or.inl ?_
        refine Exists.intro a1 (And.intro rfl (And.intro (And.intro p1 (And.intro (by show 0 ≤ a1; omega) (by show a1 ≤ 2; omega))) ?_))
        rintro z6 m_ h7
        obtain rfl : σ = m_ := h7.2.2
        have h8 : z6 = σ 87 (6 + 15 * a1 + 4) := h7.1
        have h9 : 0 ≤ z6 ∧ z6 ≤ 9 := h7.2.1
        refine Exists.intro 1 (Exists.intro z6 (And.intro rfl ?_))
        intro z10 hz10
        refine And.intro (fun h11 => ?_) (fun h11 => ?_)
        · skip
          refine B rfl ?_
          refine Or.inr ?_
          refine Exists.intro a1 (And.intro rfl (And.intro (And.intro p1 (And.intro (by show 0 ≤ a1; omega) (by show a1 ≤ 2; omega))) ?_))
          rintro z12 m_ h13
          obtain rfl : σ = m_ := h13.2.2
          have h14 : z12 = σ 87 (6 + 15 * a1 + 1) := h13.1
          have h15 : 0 ≤ z12 ∧ z12 ≤ 10 := h13.2.1
          have p16 : SW σ 87 := (hp0).1.2.1
          have w17 := p16 a1 (by omega) (by omega) (by omega)
          refine Exists.intro (v2, z12) (And.intro rfl (And.intro (And.intro (by show 0 ≤ v2; omega) (by show 1 ≤ z12; omega)) ?_))
          rintro z18 m_ h19
          obtain rfl : σ = m_ := h19.2
          have h20 : 1 ≤ z18 := h19.1
          have q21 := tdiv_r (x := v2) (y := z18) (by omega) (by omega)
          refine And.intro (by omega) ?_
          refine Or.inr ?_
          refine Exists.intro a1 (And.intro rfl (And.intro (And.intro p1 (And.intro (by show 0 ≤ a1; omega) (by show a1 ≤ 2; omega))) ?_))
          rintro z22 m_ h23
          obtain rfl : σ = m_ := h23.2.2
          have h24 : z22 = σ 87 (6 + 15 * a1 + 1) := h23.1
          have h25 : 0 ≤ z22 ∧ z22 ≤ 10 := h23.2.1
          have q26 : 0 ≤ (Int.tdiv v2 z18) * z22 ∧ (Int.tdiv v2 z18) * z22 ≤ 49680 := mul_r (A := 4968) (B := 10) (by omega) (by omega) (by omega) (by omega)
          refine And.intro (by omega) ?_
          refine Exists.intro _ (And.intro rfl ?_)
          exact rfl
        · skip
          refine Exists.intro (a1, v3) (And.intro rfl (And.intro (And.intro p1 (And.intro (by show 0 ≤ a1; omega) (And.intro (by show a1 ≤ 2; omega) (by show 0 ≤ v3; omega)))) ?_))
          rintro z27 m_ h28
          obtain rfl : σ = m_ := h28.2.2
          have h29 : z27 = ylF_ (σ 87) a1 v3 := h28.1
          have h30 : 0 ≤ z27 ∧ z27 ≤ 552 := h28.2.1
          refine And.intro (by omega) ?_
          refine And.intro (by omega) ?_
          exact ih_16 (v2 + z27) (v3 + 1) (by show 0 ≤ (v3 + 1); omega) (by show (v3 + 1) ≤ 9; omega) (by show 0 ≤ (v2 + z27); omega) (by show (v2 + z27) ≤ 552 * (v3 + 1); omega) (by omega)
    exact lp_16 ((9 - 0 : Int).toNat + 1) 0 0 (by show 0 ≤ 0; omega) (by show 0 ≤ 9; omega) (by show 0 ≤ 0; omega) (by show 0 ≤ 552 * 0; omega) (by omega)
  · skip
    refine Exists.intro _ (And.intro rfl ?_)
    exact rfl
def as_G_X11_alike : Int × Int × Int → List Sv_t := fun a => [(42, 86), (0, a.1), (0, a.2.1), (0, a.2.2)]
def pre_G_X11_alike : Int × Int × Int → Me_t → Prop := fun a σ => (MI σ)
def post_G_X11_alike : Int × Int × Int → Me_t → Int → Me_t → Prop := fun a σ z σ' => (∀ k j : Int, ¬ (93 ≤ k ∧ k ≤ 96) → σ' k j = σ k j)
set_option maxHeartbeats 1500000 in
set_option maxRecDepth 100000 in
theorem ct_G_X11_alike (l : Launch) : CT_ l yX11_alike cX11_alike 5 (some .int) 4 92 as_G_X11_alike (rmI_) pre_G_X11_alike post_G_X11_alike := by
  refine ct_of (by decide) (fun _ => Nat.le_of_ble_eq_true rfl) ?_
  intro X G Q ad σ a hl hR E hG R hM hv hp
  obtain ⟨a1, a2, a3⟩ := a
  have r_a1 : -2147483648 ≤ a1 ∧ a1 ≤ 2147483647 := hv (0, a1) (List.mem_of_getElem? (i := 1) rfl)
  have r_a2 : -2147483648 ≤ a2 ∧ a2 ≤ 2147483647 := hv (0, a2) (List.mem_of_getElem? (i := 2) rfl)
  have r_a3 : -2147483648 ≤ a3 ∧ a3 ≤ 2147483647 := hv (0, a3) (List.mem_of_getElem? (i := 3) rfl)
  have hp0 : MI σ := hp
  have B := @bk_ X G Q 0 0 ad SHS_ RX11 cX11_alike 5 (some .int) flX11 plX11 knX11 [(630, 3, TR_ as_G_X11_areTwo (rmI_) pre_G_X11_areTwo post_G_X11_areTwo), (179, 1, TR_ as_G_X11_isDay (rmI_) pre_G_X11_isDay post_G_X11_isDay), (538, 1, TR_ as_G_X11_lay (rmV_) pre_G_X11_lay post_G_X11_lay), (648, 3, TR_ as_G_X11_isCounted (rmI_) pre_G_X11_isCounted post_G_X11_isCounted), (544, 4, TOR_ (TR_ as_G_X11_dateOf_1 (rmI_) pre_G_X11_dateOf_1 post_G_X11_dateOf_1) (TR_ as_G_X11_dateOf_2 (rmI_) pre_G_X11_dateOf_2 post_G_X11_dateOf_2))] _ _ none kX11_alike [9, 17, 27, 35, 45, 55, 74, 93] flX11_ok plX11_ok knX11_ok eX11_alike oX11_alike
    (List.forall_mem_cons.mpr ⟨cok_v (t := 32) (c := 11) (N := 39) (n := 2) (idx := 315) E (ct_G_X11_areTwo X.2.1) (by rw [hR]; decide) (Nat.zero_le _) (Nat.zero_le _) hG rfl rfl ⟨rfl, by decide, by decide, by decide⟩ (fun _ => ⟨_, _, rfl, rfl⟩) wl_X11_315 wi_X11_areTwo ws_X11_areTwo wn_X11 wc_X11_areTwo, List.forall_mem_cons.mpr ⟨cok_s (n := 1) (idx := 89) E (ct_G_X11_isDay X.2.1) (by rw [hR]; decide) (Nat.zero_le _) (Nat.zero_le _) hG ⟨by decide, by decide, by decide⟩ (fun _ => rfl) wl_X11_89 wt_X11_isDay wn_X11 wc_X11_isDay, List.forall_mem_cons.mpr ⟨cok_v (t := 32) (c := 11) (N := 39) (n := 0) (idx := 269) E (ct_G_X11_lay X.2.1) (by rw [hR]; decide) (Nat.zero_le _) (Nat.zero_le _) hG rfl rfl ⟨rfl, by decide, by decide, by decide⟩ (fun _ => ⟨_, _, rfl, rfl⟩) wl_X11_269 wi_X11_lay ws_X11_lay wn_X11 wc_X11_lay, List.forall_mem_cons.mpr ⟨cok_v (t := 32) (c := 11) (N := 39) (n := 2) (idx := 324) E (ct_G_X11_isCounted X.2.1) (by rw [hR]; decide) (Nat.zero_le _) (Nat.zero_le _) hG rfl rfl ⟨rfl, by decide, by decide, by decide⟩ (fun _ => ⟨_, _, rfl, rfl⟩) wl_X11_324 wi_X11_isCounted ws_X11_isCounted wn_X11 wc_X11_isCounted, List.forall_mem_cons.mpr ⟨cok_or (cok_v (t := 32) (c := 11) (N := 39) (n := 3) (idx := 272) E (ct_G_X11_dateOf_1 X.2.1) (by rw [hR]; decide) (Nat.zero_le _) (Nat.zero_le _) hG rfl rfl ⟨rfl, by decide, by decide, by decide⟩ (fun _ => ⟨_, _, rfl, rfl⟩) wl_X11_272 wi_X11_dateOf ws_X11_dateOf wn_X11 wc_X11_dateOf) (cok_v (t := 32) (c := 11) (N := 39) (n := 3) (idx := 272) E (ct_G_X11_dateOf_2 X.2.1) (by rw [hR]; decide) (Nat.zero_le _) (Nat.zero_le _) hG rfl rfl ⟨rfl, by decide, by decide, by decide⟩ (fun _ => ⟨_, _, rfl, rfl⟩) wl_X11_272 wi_X11_dateOf ws_X11_dateOf wn_X11 wc_X11_dateOf), fun _ h => absurd h List.not_mem_nil⟩⟩⟩⟩⟩) R sok_no E
  show WP_ X G Q 0 0 ad SHS_ σ 0 [(42, 86), (0, a1), (0, a2), (0, a3), (9, 0)] []
  refine B rfl ?_
  have p1 : BW σ 87 := (hp0).1.1
  refine Exists.intro (a1, a2) (And.intro rfl (And.intro p1 ?_))
  rintro z2 m_ h3
  obtain rfl : σ = m_ := h3.2
  have h4 : (z2 = 1 ∧ 0 ≤ a1 ∧ a1 ≤ 2 ∧ a1 < σ 87 1 ∧ 0 ≤ a2 ∧ a2 ≤ 2 ∧ a2 < σ 87 1 ∧ a1 ≠ a2) ∨ z2 = 0 := h3.1
  refine And.intro (fun h5 => ?_) (fun h5 => ?_)
  · skip
    refine B rfl ?_
    refine Exists.intro _ (And.intro rfl ?_)
    exact (fun k j hk => rfl)
  · skip
    show WP_ X G Q 0 0 ad SHS_ σ 9 [(42, 86), (0, a1), (0, a2), (0, a3), (9, 0)] []
    refine B rfl ?_
    refine Exists.intro a3 (And.intro rfl (And.intro True.intro ?_))
    rintro z6 m_ h7
    obtain rfl : σ = m_ := h7.2
    have h8 : (z6 = 1 ∧ 0 ≤ a3 ∧ a3 ≤ 1999) ∨ z6 = 0 := h7.1
    refine And.intro (fun h9 => ?_) (fun h9 => ?_)
    · skip
      refine B rfl ?_
      refine Exists.intro () (And.intro rfl (And.intro hp0 ?_))
      intro z10 σ12 h11
      have f13 : ∀ k j : Int, ¬ (93 ≤ k ∧ k ≤ 96) → σ12 k j = σ k j := h11.2
      have h14 : LY σ12 := h11.1
      show WP_ X G Q 0 0 ad SHS_ σ12 27 [(42, 86), (0, a1), (0, a2), (0, a3), (0, a3)] []
      refine wdrop_ (L' := [(42, 86), (0, a1), (0, a2), (9, 0), (0, a3)]) ⟨Or.inr rfl, ⟨Or.inr rfl, ⟨Or.inr rfl, ⟨Or.inl rfl, ⟨Or.inr rfl, trivial⟩⟩⟩⟩⟩ ?_
      have lp_27 : ∀ (nq_ : Nat) (v4 : Int), (a3 ≤ v4) → (v4 ≤ 2000) → (2000 - v4 : Int).toNat < nq_ → WP_ X G Q 0 0 ad SHS_ σ12 27 [(42, 86), (0, a1), (0, a2), (9, 0), (0, v4)] [] := by
        intro nq_
        induction nq_ with
        | zero => intros; omega
        | succ nq_ ih_27 =>
          intro v4 hi27_0 hi27_1 hm27
          refine B rfl ?_
          refine And.intro (fun h15 => ?_) (fun h15 => ?_)
          · skip
            refine B rfl ?_
            refine Exists.intro _ (And.intro rfl ?_)
            exact (fun k j hk => (f13 _ _ (by omega)))
          · skip
            show WP_ X G Q 0 0 ad SHS_ σ12 35 [(42, 86), (0, a1), (0, a2), (9, 0), (0, v4)] []
            refine B rfl ?_
            have p16 : BW σ12 87 := BW_fr p1 (fun k j hk => (f13 _ _ (by omega)))
            refine Exists.intro (a1, v4) (And.intro rfl (And.intro (And.intro p16 (And.intro (by show 0 ≤ a1; omega) (by show a1 ≤ 2; omega))) ?_))
            rintro z17 m_ h18
            obtain rfl : σ12 = m_ := h18.2
            have h19 : (z17 = 1 ∧ σ12 87 (6 + 15 * a1 + 0) ≤ v4) ∨ z17 = 0 := h18.1
            try have t20 : σ12 87 (6 + 15 * a1 + 0) = σ 87 (6 + 15 * a1 + 0) := (f13 _ _ (by omega))
            refine And.intro (fun h21 => ?_) (fun h21 => ?_)
            · skip
              refine B rfl ?_
              refine And.intro (by omega) ?_
              exact ih_27 (v4 + 1) (by show a3 ≤ (v4 + 1); omega) (by show (v4 + 1) ≤ 2000; omega) (by omega)
            · skip
              show WP_ X G Q 0 0 ad SHS_ σ12 45 [(42, 86), (0, a1), (0, a2), (9, 0), (0, v4)] []
              refine B rfl ?_
              refine Exists.intro (a2, v4) (And.intro rfl (And.intro (And.intro p16 (And.intro (by show 0 ≤ a2; omega) (by show a2 ≤ 2; omega))) ?_))
              rintro z22 m_ h23
              obtain rfl : σ12 = m_ := h23.2
              have h24 : (z22 = 1 ∧ σ12 87 (6 + 15 * a2 + 0) ≤ v4) ∨ z22 = 0 := h23.1
              try have t25 : σ12 87 (6 + 15 * a2 + 0) = σ 87 (6 + 15 * a2 + 0) := (f13 _ _ (by omega))
              refine And.intro (fun h26 => ?_) (fun h26 => ?_)
              · skip
                refine B rfl ?_
                refine And.intro (by omega) ?_
                exact ih_27 (v4 + 1) (by show a3 ≤ (v4 + 1); omega) (by show (v4 + 1) ≤ 2000; omega) (by omega)
              · skip
                show WP_ X G Q 0 0 ad SHS_ σ12 55 [(42, 86), (0, a1), (0, a2), (9, 0), (0, v4)] []
                refine B rfl ?_
                refine Or.inl ?_
                refine Exists.intro (a1, v4) (And.intro rfl (And.intro (And.intro (by show 0 ≤ a1; omega) (And.intro (by show a1 ≤ 2; omega) (And.intro (by show 0 ≤ v4; omega) (by show v4 ≤ 1999; omega)))) ?_))
                rintro z27 m_ h28
                obtain rfl : σ12 = m_ := h28.2
                have h29 : (-1) ≤ z27 ∧ z27 ≤ 7 := h28.1
                refine Or.inl ?_
                refine Exists.intro (a2, v4) (And.intro rfl (And.intro (And.intro (by show 0 ≤ a2; omega) (And.intro (by show a2 ≤ 2; omega) (And.intro (by show 0 ≤ v4; omega) (by show v4 ≤ 1999; omega)))) ?_))
                rintro z30 m_ h31
                obtain rfl : σ12 = m_ := h31.2
                have h32 : (-1) ≤ z30 ∧ z30 ≤ 7 := h31.1
                refine And.intro (fun h33 => ?_) (fun h33 => ?_)
                · skip
                  refine B rfl ?_
                  refine And.intro (by omega) ?_
                  exact ih_27 (v4 + 1) (by show a3 ≤ (v4 + 1); omega) (by show (v4 + 1) ≤ 2000; omega) (by omega)
                · skip
                  show WP_ X G Q 0 0 ad SHS_ σ12 74 [(42, 86), (0, a1), (0, a2), (9, 0), (0, v4)] []
                  refine B rfl ?_
                  refine Or.inr ?_
                  refine Exists.intro (a1, v4) (And.intro rfl (And.intro (And.intro (by show 0 ≤ a1; omega) (And.intro (by show a1 ≤ 2; omega) (And.intro (by show 0 ≤ v4; omega) (by show v4 ≤ 1999; omega)))) ?_))
                  rintro z34 m_ h35
                  obtain rfl : σ12 = m_ := h35.2
                  have h36 : (-1) ≤ z34 ∧ z34 ≤ 68 := h35.1
                  refine Or.inr ?_
                  refine Exists.intro (a2, v4) (And.intro rfl (And.intro (And.intro (by show 0 ≤ a2; omega) (And.intro (by show a2 ≤ 2; omega) (And.intro (by show 0 ≤ v4; omega) (by show v4 ≤ 1999; omega)))) ?_))
                  rintro z37 m_ h38
                  obtain rfl : σ12 = m_ := h38.2
                  have h39 : (-1) ≤ z37 ∧ z37 ≤ 68 := h38.1
                  refine And.intro (fun h40 => ?_) (fun h40 => ?_)
                  · skip
                    refine B rfl ?_
                    refine And.intro (by omega) ?_
                    exact ih_27 (v4 + 1) (by show a3 ≤ (v4 + 1); omega) (by show (v4 + 1) ≤ 2000; omega) (by omega)
                  · skip
                    show WP_ X G Q 0 0 ad SHS_ σ12 93 [(42, 86), (0, a1), (0, a2), (9, 0), (0, v4)] []
                    refine B rfl ?_
                    refine Exists.intro _ (And.intro rfl ?_)
                    exact (fun k j hk => (f13 _ _ (by omega)))
      exact lp_27 ((2000 - a3 : Int).toNat + 1) a3 (by show a3 ≤ a3; omega) (by show a3 ≤ 2000; omega) (by omega)
    · skip
      show WP_ X G Q 0 0 ad SHS_ σ 17 [(42, 86), (0, a1), (0, a2), (0, a3), (9, 0)] []
      refine B rfl ?_
      refine Exists.intro _ (And.intro rfl ?_)
      exact (fun k j hk => rfl)
def as_G_X11_years : Int → List Sv_t := fun a => [(42, 86), (0, a)]
def pre_G_X11_years : Int → Me_t → Prop := fun a σ => (MI σ)
def post_G_X11_years : Int → Me_t → Int → Me_t → Prop := fun a σ z σ' => (∀ k j : Int, ¬ (93 ≤ k ∧ k ≤ 96) → σ' k j = σ k j)
set_option maxHeartbeats 1500000 in
set_option maxRecDepth 100000 in
theorem ct_G_X11_years (l : Launch) : CT_ l yX11_years cX11_years 4 (some .int) 4 92 as_G_X11_years (rmI_) pre_G_X11_years post_G_X11_years := by
  refine ct_of (by decide) (fun _ => Nat.le_of_ble_eq_true rfl) ?_
  intro X G Q ad σ a hl hR E hG R hM hv hp
  obtain ⟨a1, rfl⟩ : ∃ q : Int, q = a := ⟨_, rfl⟩
  have r_a1 : -2147483648 ≤ a1 ∧ a1 ≤ 2147483647 := hv (0, a1) (List.mem_of_getElem? (i := 1) rfl)
  have hp0 : MI σ := hp
  have B := @bk_ X G Q 0 0 ad SHS_ RX11 cX11_years 4 (some .int) flX11 plX11 knX11 [(184, 1, TR_ as_G_X11_isWar (rmI_) pre_G_X11_isWar post_G_X11_isWar), (179, 1, TR_ as_G_X11_isDay (rmI_) pre_G_X11_isDay post_G_X11_isDay), (538, 1, TR_ as_G_X11_lay (rmV_) pre_G_X11_lay post_G_X11_lay), (544, 4, TOR_ (TR_ as_G_X11_dateOf_1 (rmI_) pre_G_X11_dateOf_1 post_G_X11_dateOf_1) (TR_ as_G_X11_dateOf_2 (rmI_) pre_G_X11_dateOf_2 post_G_X11_dateOf_2))] _ _ none kX11_years [7, 15, 26, 36, 47, 57] flX11_ok plX11_ok knX11_ok eX11_years oX11_years
    (List.forall_mem_cons.mpr ⟨cok_v (t := 32) (c := 11) (N := 39) (n := 0) (idx := 92) E (ct_G_X11_isWar X.2.1) (by rw [hR]; decide) (Nat.zero_le _) (Nat.zero_le _) hG rfl rfl ⟨rfl, by decide, by decide, by decide⟩ (fun _ => ⟨_, _, rfl, rfl⟩) wl_X11_92 wi_X11_isWar ws_X11_isWar wn_X11 wc_X11_isWar, List.forall_mem_cons.mpr ⟨cok_s (n := 1) (idx := 89) E (ct_G_X11_isDay X.2.1) (by rw [hR]; decide) (Nat.zero_le _) (Nat.zero_le _) hG ⟨by decide, by decide, by decide⟩ (fun _ => rfl) wl_X11_89 wt_X11_isDay wn_X11 wc_X11_isDay, List.forall_mem_cons.mpr ⟨cok_v (t := 32) (c := 11) (N := 39) (n := 0) (idx := 269) E (ct_G_X11_lay X.2.1) (by rw [hR]; decide) (Nat.zero_le _) (Nat.zero_le _) hG rfl rfl ⟨rfl, by decide, by decide, by decide⟩ (fun _ => ⟨_, _, rfl, rfl⟩) wl_X11_269 wi_X11_lay ws_X11_lay wn_X11 wc_X11_lay, List.forall_mem_cons.mpr ⟨cok_or (cok_v (t := 32) (c := 11) (N := 39) (n := 3) (idx := 272) E (ct_G_X11_dateOf_1 X.2.1) (by rw [hR]; decide) (Nat.zero_le _) (Nat.zero_le _) hG rfl rfl ⟨rfl, by decide, by decide, by decide⟩ (fun _ => ⟨_, _, rfl, rfl⟩) wl_X11_272 wi_X11_dateOf ws_X11_dateOf wn_X11 wc_X11_dateOf) (cok_v (t := 32) (c := 11) (N := 39) (n := 3) (idx := 272) E (ct_G_X11_dateOf_2 X.2.1) (by rw [hR]; decide) (Nat.zero_le _) (Nat.zero_le _) hG rfl rfl ⟨rfl, by decide, by decide, by decide⟩ (fun _ => ⟨_, _, rfl, rfl⟩) wl_X11_272 wi_X11_dateOf ws_X11_dateOf wn_X11 wc_X11_dateOf), fun _ h => absurd h List.not_mem_nil⟩⟩⟩⟩) R sok_no E
  show WP_ X G Q 0 0 ad SHS_ σ 0 [(42, 86), (0, a1), (9, 0), (9, 0)] []
  refine B rfl ?_
  refine Exists.intro () (And.intro rfl (And.intro True.intro ?_))
  rintro z1 m_ h2
  obtain rfl : σ = m_ := h2.2
  have h3 : 0 ≤ z1 ∧ z1 ≤ 1 := h2.1
  refine And.intro (fun h4 => ?_) (fun h4 => ?_)
  · skip
    refine B rfl ?_
    refine Exists.intro _ (And.intro rfl ?_)
    exact (fun k j hk => rfl)
  · skip
    show WP_ X G Q 0 0 ad SHS_ σ 7 [(42, 86), (0, a1), (9, 0), (9, 0)] []
    refine B rfl ?_
    refine Exists.intro a1 (And.intro rfl (And.intro True.intro ?_))
    rintro z5 m_ h6
    obtain rfl : σ = m_ := h6.2
    have h7 : (z5 = 1 ∧ 0 ≤ a1 ∧ a1 ≤ 1999) ∨ z5 = 0 := h6.1
    refine And.intro (fun h8 => ?_) (fun h8 => ?_)
    · skip
      refine B rfl ?_
      refine Exists.intro () (And.intro rfl (And.intro hp0 ?_))
      intro z9 σ11 h10
      have f12 : ∀ k j : Int, ¬ (93 ≤ k ∧ k ≤ 96) → σ11 k j = σ k j := h10.2
      have h13 : LY σ11 := h10.1
      have lp_26 : ∀ (nq_ : Nat) (v2 : Int) (v3 : Int), (0 ≤ v3) → (v3 ≤ 3) → (3 - v3 : Int).toNat < nq_ → WP_ X G Q 0 0 ad SHS_ σ11 26 [(42, 86), (0, a1), (0, v2), (0, v3)] [] := by
        intro nq_
        induction nq_ with
        | zero => intros; omega
        | succ nq_ ih_26 =>
          intro v2 v3 hi26_0 hi26_1 hm26
          refine B rfl ?_
          refine And.intro (by omega) ?_
          intro z14 ez14 hz14
          have hz14 : ((-1) : Int) ≤ z14 ∧ z14 ≤ (1999 : Int) := hz14
          try have t15 : σ11 87 1 = σ 87 1 := (f12 _ _ (by omega))
          have p16 : MI σ11 := MI_fr hp0 (fun k j hk => (f12 _ _ (by omega)))
          have p17 : BW σ11 87 := (p16).1.1
          have b18 := wrh_ p17 (i := 1) (by omega)
          have b18 : (0 : Int) ≤ σ11 87 1 ∧ σ11 87 1 ≤ (3 : Int) := b18
          refine And.intro (fun h19 => ?_) (fun h19 => ?_)
          · skip
            refine B rfl ?_
            refine Exists.intro _ (And.intro rfl ?_)
            exact (fun k j hk => (f12 _ _ (by omega)))
          · skip
            show WP_ X G Q 0 0 ad SHS_ σ11 36 [(42, 86), (0, a1), (0, v2), (0, v3)] []
            refine B rfl ?_
            refine Or.inl ?_
            refine Exists.intro (v3, a1) (And.intro rfl (And.intro (And.intro (by show 0 ≤ v3; omega) (And.intro (by show v3 ≤ 2; omega) (And.intro (by show 0 ≤ a1; omega) (by show a1 ≤ 1999; omega)))) ?_))
            rintro z20 m_ h21
            obtain rfl : σ11 = m_ := h21.2
            have h22 : (-1) ≤ z20 ∧ z20 ≤ 7 := h21.1
            refine And.intro (fun h23 => ?_) (fun h23 => ?_)
            · skip
              refine B rfl ?_
              refine And.intro (by omega) ?_
              exact ih_26 (or3_ v2 0) (v3 + 1) (by show 0 ≤ (v3 + 1); omega) (by show (v3 + 1) ≤ 3; omega) (by omega)
            · skip
              show WP_ X G Q 0 0 ad SHS_ σ11 47 [(42, 86), (0, a1), (0, v2), (0, v3)] [(0, v2)]
              refine B rfl ?_
              refine Or.inr ?_
              refine Exists.intro (v3, a1) (And.intro rfl (And.intro (And.intro (by show 0 ≤ v3; omega) (And.intro (by show v3 ≤ 2; omega) (And.intro (by show 0 ≤ a1; omega) (by show a1 ≤ 1999; omega)))) ?_))
              rintro z24 m_ h25
              obtain rfl : σ11 = m_ := h25.2
              have h26 : (-1) ≤ z24 ∧ z24 ≤ 68 := h25.1
              refine And.intro (fun h27 => ?_) (fun h27 => ?_)
              · skip
                refine B rfl ?_
                refine And.intro (by omega) ?_
                exact ih_26 (or3_ v2 0) (v3 + 1) (by show 0 ≤ (v3 + 1); omega) (by show (v3 + 1) ≤ 3; omega) (by omega)
              · skip
                show WP_ X G Q 0 0 ad SHS_ σ11 57 [(42, 86), (0, a1), (0, v2), (0, v3)] [(0, v2)]
                refine B rfl ?_
                try have q28 := shl3_1 (b := v3) (by omega) (by omega)
                try have q29 := shl3_b (b := v3) (by omega) (by omega)
                refine B rfl ?_
                refine And.intro (by omega) ?_
                exact ih_26 (or3_ v2 (shl3_ 1 v3)) (v3 + 1) (by show 0 ≤ (v3 + 1); omega) (by show (v3 + 1) ≤ 3; omega) (by omega)
      exact lp_26 ((3 - 0 : Int).toNat + 1) 0 0 (by show 0 ≤ 0; omega) (by show 0 ≤ 3; omega) (by omega)
    · skip
      show WP_ X G Q 0 0 ad SHS_ σ 15 [(42, 86), (0, a1), (9, 0), (9, 0)] []
      refine B rfl ?_
      refine Exists.intro _ (And.intro rfl ?_)
      exact (fun k j hk => rfl)
def as_G_X11_comes : Int × Int → List Sv_t := fun a => [(42, 86), (0, a.1), (0, a.2)]
def pre_G_X11_comes : Int × Int → Me_t → Prop := fun a σ => (MI σ)
def post_G_X11_comes : Int × Int → Me_t → Int → Me_t → Prop := fun a σ z σ' => (∀ k j : Int, ¬ (93 ≤ k ∧ k ≤ 96) → σ' k j = σ k j)
set_option maxHeartbeats 1500000 in
set_option maxRecDepth 100000 in
theorem ct_G_X11_comes (l : Launch) : CT_ l yX11_comes cX11_comes 4 (some .int) 4 92 as_G_X11_comes (rmI_) pre_G_X11_comes post_G_X11_comes := by
  refine ct_of (by decide) (fun _ => Nat.le_of_ble_eq_true rfl) ?_
  intro X G Q ad σ a hl hR E hG R hM hv hp
  obtain ⟨a1, a2⟩ := a
  have r_a1 : -2147483648 ≤ a1 ∧ a1 ≤ 2147483647 := hv (0, a1) (List.mem_of_getElem? (i := 1) rfl)
  have r_a2 : -2147483648 ≤ a2 ∧ a2 ≤ 2147483647 := hv (0, a2) (List.mem_of_getElem? (i := 2) rfl)
  have hp0 : MI σ := hp
  have B := @bk_ X G Q 0 0 ad SHS_ RX11 cX11_comes 4 (some .int) flX11 plX11 knX11 [(166, 2, TR_ as_G_X11_isLand (rmI_) pre_G_X11_isLand post_G_X11_isLand), (179, 1, TR_ as_G_X11_isDay (rmI_) pre_G_X11_isDay post_G_X11_isDay), (538, 1, TR_ as_G_X11_lay (rmV_) pre_G_X11_lay post_G_X11_lay), (648, 3, TR_ as_G_X11_isCounted (rmI_) pre_G_X11_isCounted post_G_X11_isCounted), (544, 4, TOR_ (TR_ as_G_X11_dateOf_1 (rmI_) pre_G_X11_dateOf_1 post_G_X11_dateOf_1) (TR_ as_G_X11_dateOf_2 (rmI_) pre_G_X11_dateOf_2 post_G_X11_dateOf_2)), (472, 3, TR_ as_G_X11_weekday (rmI_) pre_G_X11_weekday post_G_X11_weekday)] _ _ none kX11_comes [9, 17, 28, 35, 44, 61, 78, 93] flX11_ok plX11_ok knX11_ok eX11_comes oX11_comes
    (List.forall_mem_cons.mpr ⟨cok_v (t := 32) (c := 11) (N := 39) (n := 1) (idx := 83) E (ct_G_X11_isLand X.2.1) (by rw [hR]; decide) (Nat.zero_le _) (Nat.zero_le _) hG rfl rfl ⟨rfl, by decide, by decide, by decide⟩ (fun _ => ⟨_, _, rfl, rfl⟩) wl_X11_83 wi_X11_isLand ws_X11_isLand wn_X11 wc_X11_isLand, List.forall_mem_cons.mpr ⟨cok_s (n := 1) (idx := 89) E (ct_G_X11_isDay X.2.1) (by rw [hR]; decide) (Nat.zero_le _) (Nat.zero_le _) hG ⟨by decide, by decide, by decide⟩ (fun _ => rfl) wl_X11_89 wt_X11_isDay wn_X11 wc_X11_isDay, List.forall_mem_cons.mpr ⟨cok_v (t := 32) (c := 11) (N := 39) (n := 0) (idx := 269) E (ct_G_X11_lay X.2.1) (by rw [hR]; decide) (Nat.zero_le _) (Nat.zero_le _) hG rfl rfl ⟨rfl, by decide, by decide, by decide⟩ (fun _ => ⟨_, _, rfl, rfl⟩) wl_X11_269 wi_X11_lay ws_X11_lay wn_X11 wc_X11_lay, List.forall_mem_cons.mpr ⟨cok_v (t := 32) (c := 11) (N := 39) (n := 2) (idx := 324) E (ct_G_X11_isCounted X.2.1) (by rw [hR]; decide) (Nat.zero_le _) (Nat.zero_le _) hG rfl rfl ⟨rfl, by decide, by decide, by decide⟩ (fun _ => ⟨_, _, rfl, rfl⟩) wl_X11_324 wi_X11_isCounted ws_X11_isCounted wn_X11 wc_X11_isCounted, List.forall_mem_cons.mpr ⟨cok_or (cok_v (t := 32) (c := 11) (N := 39) (n := 3) (idx := 272) E (ct_G_X11_dateOf_1 X.2.1) (by rw [hR]; decide) (Nat.zero_le _) (Nat.zero_le _) hG rfl rfl ⟨rfl, by decide, by decide, by decide⟩ (fun _ => ⟨_, _, rfl, rfl⟩) wl_X11_272 wi_X11_dateOf ws_X11_dateOf wn_X11 wc_X11_dateOf) (cok_v (t := 32) (c := 11) (N := 39) (n := 3) (idx := 272) E (ct_G_X11_dateOf_2 X.2.1) (by rw [hR]; decide) (Nat.zero_le _) (Nat.zero_le _) hG rfl rfl ⟨rfl, by decide, by decide, by decide⟩ (fun _ => ⟨_, _, rfl, rfl⟩) wl_X11_272 wi_X11_dateOf ws_X11_dateOf wn_X11 wc_X11_dateOf), List.forall_mem_cons.mpr ⟨cok_v (t := 32) (c := 11) (N := 39) (n := 2) (idx := 236) E (ct_G_X11_weekday X.2.1) (by rw [hR]; decide) (Nat.zero_le _) (Nat.zero_le _) hG rfl rfl ⟨rfl, by decide, by decide, by decide⟩ (fun _ => ⟨_, _, rfl, rfl⟩) wl_X11_236 wi_X11_weekday ws_X11_weekday wn_X11 wc_X11_weekday, fun _ h => absurd h List.not_mem_nil⟩⟩⟩⟩⟩⟩) R sok_no E
  show WP_ X G Q 0 0 ad SHS_ σ 0 [(42, 86), (0, a1), (0, a2), (9, 0)] []
  refine B rfl ?_
  have p1 : BW σ 87 := (hp0).1.1
  refine Exists.intro a1 (And.intro rfl (And.intro p1 ?_))
  rintro z2 m_ h3
  obtain rfl : σ = m_ := h3.2
  have h4 : (z2 = 1 ∧ 0 ≤ a1 ∧ a1 ≤ 2 ∧ a1 < σ 87 1) ∨ z2 = 0 := h3.1
  refine And.intro (fun h5 => ?_) (fun h5 => ?_)
  · skip
    refine B rfl ?_
    refine Exists.intro _ (And.intro rfl ?_)
    exact (fun k j hk => rfl)
  · skip
    show WP_ X G Q 0 0 ad SHS_ σ 9 [(42, 86), (0, a1), (0, a2), (9, 0)] []
    refine B rfl ?_
    refine Exists.intro a2 (And.intro rfl (And.intro True.intro ?_))
    rintro z6 m_ h7
    obtain rfl : σ = m_ := h7.2
    have h8 : (z6 = 1 ∧ 0 ≤ a2 ∧ a2 ≤ 1999) ∨ z6 = 0 := h7.1
    refine And.intro (fun h9 => ?_) (fun h9 => ?_)
    · skip
      refine B rfl ?_
      refine Exists.intro () (And.intro rfl (And.intro hp0 ?_))
      intro z10 σ12 h11
      have f13 : ∀ k j : Int, ¬ (93 ≤ k ∧ k ≤ 96) → σ12 k j = σ k j := h11.2
      have h14 : LY σ12 := h11.1
      refine And.intro (by omega) ?_
      have lp_28 : ∀ (nq_ : Nat) (v3 : Int), (a2 + 1 ≤ v3) → (v3 ≤ 2000) → (2000 - v3 : Int).toNat < nq_ → WP_ X G Q 0 0 ad SHS_ σ12 28 [(42, 86), (0, a1), (0, a2), (0, v3)] [] := by
        intro nq_
        induction nq_ with
        | zero => intros; omega
        | succ nq_ ih_28 =>
          intro v3 hi28_0 hi28_1 hm28
          refine B rfl ?_
          refine And.intro (fun h15 => ?_) (fun h15 => ?_)
          · skip
            refine B rfl ?_
            refine Exists.intro _ (And.intro rfl ?_)
            exact (fun k j hk => (f13 _ _ (by omega)))
          · skip
            show WP_ X G Q 0 0 ad SHS_ σ12 35 [(42, 86), (0, a1), (0, a2), (0, v3)] []
            refine B rfl ?_
            have p16 : BW σ12 87 := BW_fr p1 (fun k j hk => (f13 _ _ (by omega)))
            refine Exists.intro (a1, a2) (And.intro rfl (And.intro (And.intro p16 (And.intro (by show 0 ≤ a1; omega) (by show a1 ≤ 2; omega))) ?_))
            rintro z17 m_ h18
            obtain rfl : σ12 = m_ := h18.2
            have h19 : (z17 = 1 ∧ σ12 87 (6 + 15 * a1 + 0) ≤ a2) ∨ z17 = 0 := h18.1
            try have t20 : σ12 87 (6 + 15 * a1 + 0) = σ 87 (6 + 15 * a1 + 0) := (f13 _ _ (by omega))
            refine And.intro (fun h21 => ?_) (fun h21 => ?_)
            · skip
              refine B rfl ?_
              refine Exists.intro _ (And.intro rfl ?_)
              exact (fun k j hk => (f13 _ _ (by omega)))
            · skip
              show WP_ X G Q 0 0 ad SHS_ σ12 44 [(42, 86), (0, a1), (0, a2), (0, v3)] []
              refine B rfl ?_
              refine Or.inl ?_
              refine Exists.intro (a1, v3) (And.intro rfl (And.intro (And.intro (by show 0 ≤ a1; omega) (And.intro (by show a1 ≤ 2; omega) (And.intro (by show 0 ≤ v3; omega) (by show v3 ≤ 1999; omega)))) ?_))
              rintro z22 m_ h23
              obtain rfl : σ12 = m_ := h23.2
              have h24 : (-1) ≤ z22 ∧ z22 ≤ 7 := h23.1
              refine Or.inl ?_
              refine Exists.intro (a1, a2) (And.intro rfl (And.intro (And.intro (by show 0 ≤ a1; omega) (And.intro (by show a1 ≤ 2; omega) (And.intro (by show 0 ≤ a2; omega) (by show a2 ≤ 1999; omega)))) ?_))
              rintro z25 m_ h26
              obtain rfl : σ12 = m_ := h26.2
              have h27 : (-1) ≤ z25 ∧ z25 ≤ 7 := h26.1
              refine And.intro (fun h28 => ?_) (fun h28 => ?_)
              · skip
                refine B rfl ?_
                refine And.intro (by omega) ?_
                exact ih_28 (v3 + 1) (by show a2 + 1 ≤ (v3 + 1); omega) (by show (v3 + 1) ≤ 2000; omega) (by omega)
              · skip
                show WP_ X G Q 0 0 ad SHS_ σ12 61 [(42, 86), (0, a1), (0, a2), (0, v3)] []
                refine B rfl ?_
                refine Or.inr ?_
                refine Exists.intro (a1, v3) (And.intro rfl (And.intro (And.intro (by show 0 ≤ a1; omega) (And.intro (by show a1 ≤ 2; omega) (And.intro (by show 0 ≤ v3; omega) (by show v3 ≤ 1999; omega)))) ?_))
                rintro z29 m_ h30
                obtain rfl : σ12 = m_ := h30.2
                have h31 : (-1) ≤ z29 ∧ z29 ≤ 68 := h30.1
                refine Or.inr ?_
                refine Exists.intro (a1, a2) (And.intro rfl (And.intro (And.intro (by show 0 ≤ a1; omega) (And.intro (by show a1 ≤ 2; omega) (And.intro (by show 0 ≤ a2; omega) (by show a2 ≤ 1999; omega)))) ?_))
                rintro z32 m_ h33
                obtain rfl : σ12 = m_ := h33.2
                have h34 : (-1) ≤ z32 ∧ z32 ≤ 68 := h33.1
                refine And.intro (fun h35 => ?_) (fun h35 => ?_)
                · skip
                  refine B rfl ?_
                  refine And.intro (by omega) ?_
                  exact ih_28 (v3 + 1) (by show a2 + 1 ≤ (v3 + 1); omega) (by show (v3 + 1) ≤ 2000; omega) (by omega)
                · skip
                  show WP_ X G Q 0 0 ad SHS_ σ12 78 [(42, 86), (0, a1), (0, a2), (0, v3)] []
                  refine B rfl ?_
                  have p36 : MI σ12 := MI_fr hp0 (fun k j hk => (f13 _ _ (by omega)))
                  have p37 : SW σ12 87 := (p36).1.2.1
                  try have t38 : σ12 87 (6 + 15 * a1 + 1) = σ 87 (6 + 15 * a1 + 1) := (f13 _ _ (by omega))
                  try have t39 : σ12 87 (6 + 15 * a1 + 3) = σ 87 (6 + 15 * a1 + 3) := (f13 _ _ (by omega))
                  try have t40 : σ12 87 1 = σ 87 1 := (f13 _ _ (by omega))
                  have w41 := p37 a1 (by omega) (by omega) (by omega)
                  refine Exists.intro (a1, v3) (And.intro rfl (And.intro (And.intro p16 (And.intro (by show 0 ≤ a1; omega) (And.intro (by show a1 ≤ 2; omega) (And.intro (by show 1 ≤ σ12 87 (6 + 15 * a1 + 1); omega) (And.intro (by show 0 ≤ v3; omega) (by show v3 ≤ 10000; omega)))))) ?_))
                  rintro z42 m_ h43
                  obtain rfl : σ12 = m_ := h43.2
                  have h44 : -1 ≤ z42 ∧ z42 ≤ 9 := h43.1
                  have w45 := p37 a1 (by omega) (by omega) (by omega)
                  refine Exists.intro (a1, a2) (And.intro rfl (And.intro (And.intro p16 (And.intro (by show 0 ≤ a1; omega) (And.intro (by show a1 ≤ 2; omega) (And.intro (by show 1 ≤ σ12 87 (6 + 15 * a1 + 1); omega) (And.intro (by show 0 ≤ a2; omega) (by show a2 ≤ 10000; omega)))))) ?_))
                  rintro z46 m_ h47
                  obtain rfl : σ12 = m_ := h47.2
                  have h48 : -1 ≤ z46 ∧ z46 ≤ 9 := h47.1
                  refine And.intro (fun h49 => ?_) (fun h49 => ?_)
                  · skip
                    refine B rfl ?_
                    refine And.intro (by omega) ?_
                    exact ih_28 (v3 + 1) (by show a2 + 1 ≤ (v3 + 1); omega) (by show (v3 + 1) ≤ 2000; omega) (by omega)
                  · skip
                    show WP_ X G Q 0 0 ad SHS_ σ12 93 [(42, 86), (0, a1), (0, a2), (0, v3)] []
                    refine B rfl ?_
                    refine Exists.intro _ (And.intro rfl ?_)
                    exact (fun k j hk => (f13 _ _ (by omega)))
      exact lp_28 ((2000 - (a2 + 1) : Int).toNat + 1) (a2 + 1) (by show a2 + 1 ≤ (a2 + 1); omega) (by show (a2 + 1) ≤ 2000; omega) (by omega)
    · skip
      show WP_ X G Q 0 0 ad SHS_ σ 17 [(42, 86), (0, a1), (0, a2), (9, 0)] []
      refine B rfl ?_
      refine Exists.intro _ (And.intro rfl ?_)
      exact (fun k j hk => rfl)
