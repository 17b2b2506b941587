def as_G_X0_markReason : Int × Int × Int × Int → List Sv_t := fun a => [(25, 30), (0, a.1), (0, a.2.1), (0, a.2.2.1), (0, a.2.2.2)]
def pre_G_X0_markReason : Int × Int × Int × Int → Me_t → Prop := fun a σ => (0 ≤ a.1) ∧ (a.1 ≤ 4000) ∧ (0 ≤ a.2.1) ∧ (a.2.1 ≤ 2000)
def post_G_X0_markReason : Int × Int × Int × Int → Me_t → Int → Me_t → Prop := fun a σ z σ' => (∀ k j : Int, ¬ (k = 32) → σ' k j = σ k j)
set_option maxHeartbeats 1500000 in
set_option maxRecDepth 100000 in
theorem ct_G_X0_markReason (l : Launch) : CT_ l yX0_markReason cX0_markReason 6 none 0 0 as_G_X0_markReason (rmV_) pre_G_X0_markReason post_G_X0_markReason := by
  refine ct_of (by decide) (fun _ => Nat.le_of_ble_eq_true rfl) ?_
  intro X G Q ad σ a hl hR E hG R hM hv hp
  obtain ⟨a1, a2, a3, a4⟩ := a
  have r_a1 : -2147483648 ≤ a1 ∧ a1 ≤ 2147483647 := hv (0, a1) (List.mem_of_getElem? (i := 1) rfl)
  have r_a2 : -2147483648 ≤ a2 ∧ a2 ≤ 2147483647 := hv (0, a2) (List.mem_of_getElem? (i := 2) rfl)
  have r_a3 : -2147483648 ≤ a3 ∧ a3 ≤ 2147483647 := hv (0, a3) (List.mem_of_getElem? (i := 3) rfl)
  have r_a4 : -2147483648 ≤ a4 ∧ a4 ≤ 2147483647 := hv (0, a4) (List.mem_of_getElem? (i := 4) rfl)
  have hp0 : 0 ≤ a1 := hp.1
  have hp1 : a1 ≤ 4000 := hp.2.1
  have hp2 : 0 ≤ a2 := hp.2.2.1
  have hp3 : a2 ≤ 2000 := hp.2.2.2
  have B := @bk_ X G Q 0 0 ad SHS_ RX0 cX0_markReason 6 none flX0 plX0 knX0 [] _ _ none kX0_markReason [3] flX0_ok plX0_ok knX0_ok eX0_markReason oX0_markReason
    (fun _ h => absurd h List.not_mem_nil) R sok_no E
  show WP_ X G Q 0 0 ad SHS_ σ 0 [(25, 30), (0, a1), (0, a2), (0, a3), (0, a4), (9, 0)] []
  refine B rfl ?_
  show WP_ X G Q 0 0 ad SHS_ σ 3 [(25, 30), (0, a1), (0, a2), (0, a3), (0, a4), (0, a2)] []
  refine wdrop_ (L' := [(25, 30), (0, a1), (9, 0), (0, a3), (0, a4), (0, a2)]) ⟨Or.inr rfl, ⟨Or.inr rfl, ⟨Or.inl rfl, ⟨Or.inr rfl, ⟨Or.inr rfl, ⟨Or.inr rfl, trivial⟩⟩⟩⟩⟩⟩ ?_
  have lp_3 : ∀ (nq_ : Nat) (v5 : Int) (τ3 : Me_t), (∀ k j : Int, ¬ (k = 32) → τ3 k j = σ k j) → (0 ≤ v5) → (v5 ≤ 2000) → (2000 - v5 : Int).toNat < nq_ → WP_ X G Q 0 0 ad SHS_ τ3 3 [(25, 30), (0, a1), (9, 0), (0, a3), (0, a4), (0, v5)] [] := by
    intro nq_
    induction nq_ with
    | zero => intros; omega
    | succ nq_ ih_3 =>
      intro v5 τ3 hf3 hi3_0 hi3_1 hm3
      refine B rfl ?_
      refine And.intro (fun h1 => ?_) (fun h1 => ?_)
      · skip
        refine B rfl ?_
        refine Exists.intro 0 (And.intro rfl ?_)
        exact (fun k j hk => (hf3 _ _ (by omega)))
      · skip
        refine And.intro (fun h2 => ?_) (fun h2 => ?_)
        · skip
          refine B rfl ?_
          refine Exists.intro 0 (And.intro rfl ?_)
          exact (fun k j hk => (hf3 _ _ (by omega)))
        · skip
          refine And.intro (by omega) ?_
          refine And.intro (by omega) ?_
          intro z3 ez3 hz3
          have hz3 : ((-128) : Int) ≤ z3 ∧ z3 ≤ (127 : Int) := hz3
          try have t4 : τ3 32 (a1 + v5) = σ 32 (a1 + v5) := (hf3 _ _ (by omega))
          refine And.intro (fun h5 => ?_) (fun h5 => ?_)
          · skip
            refine B rfl ?_
            refine And.intro (by omega) ?_
            exact ih_3 (v5 + 1) τ3 (fun k j hk => (hf3 _ _ (by omega))) (by show 0 ≤ (v5 + 1); omega) (by show (v5 + 1) ≤ 2000; omega) (by omega)
          · skip
            refine And.intro (by omega) ?_
            refine And.intro (by omega) ?_
            refine And.intro (i2b_r _) ?_
            intro σ6 e7
            refine And.intro (by omega) ?_
            exact ih_3 (v5 + 1) σ6 (fun k j hk => ((ups_r e7 (by omega)).trans (hf3 _ _ (by omega)))) (by show 0 ≤ (v5 + 1); omega) (by show (v5 + 1) ≤ 2000; omega) (by omega)
  exact lp_3 ((2000 - a2 : Int).toNat + 1) a2 σ (fun k j hk => rfl) (by show 0 ≤ a2; omega) (by show a2 ≤ 2000; omega) (by omega)
def as_G_X0_markFeast : Int × Int × Int × Int × Int → List Sv_t := fun a => [(25, 30), (20, a.1), (0, a.2.1), (0, a.2.2.1), (0, a.2.2.2.1), (0, a.2.2.2.2)]
def pre_G_X0_markFeast : Int × Int × Int × Int × Int → Me_t → Prop := fun a σ => (0 ≤ a.2.1) ∧ (a.2.1 ≤ 4000) ∧ (0 ≤ a.2.2.1) ∧ (a.2.2.1 ≤ 100) ∧ (0 ≤ a.2.2.2.1) ∧ (a.2.2.2.1 ≤ 100) ∧ (0 ≤ a.2.2.2.2) ∧ (a.2.2.2.2 ≤ 100)
def post_G_X0_markFeast : Int × Int × Int × Int × Int → Me_t → Int → Me_t → Prop := fun a σ z σ' => (∀ k j : Int, ¬ (k = 32) → σ' k j = σ k j)
set_option maxHeartbeats 1500000 in
set_option maxRecDepth 100000 in
theorem ct_G_X0_markFeast (l : Launch) : CT_ l yX0_markFeast cX0_markFeast 8 none 2 47 as_G_X0_markFeast (rmV_) pre_G_X0_markFeast post_G_X0_markFeast := by
  refine ct_of (by decide) (fun _ => Nat.le_of_ble_eq_true rfl) ?_
  intro X G Q ad σ a hl hR E hG R hM hv hp
  obtain ⟨a1, a2, a3, a4, a5⟩ := a
  have k_a1 : isLand_ a1 := tvLand_ (hv (20, a1) (List.mem_of_getElem? (i := 1) rfl))
  have r_a1 : 10 ≤ a1 ∧ a1 ≤ 76 := by unfold isLand_ at k_a1; omega
  have r_a2 : -2147483648 ≤ a2 ∧ a2 ≤ 2147483647 := hv (0, a2) (List.mem_of_getElem? (i := 2) rfl)
  have r_a3 : -2147483648 ≤ a3 ∧ a3 ≤ 2147483647 := hv (0, a3) (List.mem_of_getElem? (i := 3) rfl)
  have r_a4 : -2147483648 ≤ a4 ∧ a4 ≤ 2147483647 := hv (0, a4) (List.mem_of_getElem? (i := 4) rfl)
  have r_a5 : -2147483648 ≤ a5 ∧ a5 ≤ 2147483647 := hv (0, a5) (List.mem_of_getElem? (i := 5) rfl)
  have hp0 : 0 ≤ a2 := hp.1
  have hp1 : a2 ≤ 4000 := hp.2.1
  have hp2 : 0 ≤ a3 := hp.2.2.1
  have hp3 : a3 ≤ 100 := hp.2.2.2.1
  have hp4 : 0 ≤ a4 := hp.2.2.2.2.1
  have hp5 : a4 ≤ 100 := hp.2.2.2.2.2.1
  have hp6 : 0 ≤ a5 := hp.2.2.2.2.2.2.1
  have hp7 : a5 ≤ 100 := hp.2.2.2.2.2.2.2
  have B := @bk_ X G Q 0 0 ad SHS_ RX0 cX0_markFeast 8 none flX0 plX0 knX0 [(214, 4, TR_ as_G_X1_dayOn (rmI_) pre_G_X1_dayOn post_G_X1_dayOn), (206, 5, TR_ as_G_X0_markReason (rmV_) pre_G_X0_markReason post_G_X0_markReason)] _ _ none kX0_markFeast [3] flX0_ok plX0_ok knX0_ok eX0_markFeast oX0_markFeast
    (List.forall_mem_cons.mpr ⟨cok_v (t := 10) (c := 1) (N := 9) (n := 3) (idx := 107) E (ct_G_X1_dayOn X.2.1) (by rw [hR]; decide) (Nat.zero_le _) (Nat.zero_le _) hG rfl rfl ⟨rfl, by decide, by decide, by decide⟩ (fun _ => ⟨_, _, rfl, rfl⟩) wl_X0_107 wi_X1_dayOn ws_X1_dayOn wn_X1 wc_X1_dayOn, List.forall_mem_cons.mpr ⟨cok_v (t := 15) (c := 0) (N := 9) (n := 4) (idx := 103) E (ct_G_X0_markReason X.2.1) (by rw [hR]; decide) (Nat.zero_le _) (Nat.zero_le _) hG rfl rfl ⟨rfl, by decide, by decide, by decide⟩ (fun _ => ⟨_, _, rfl, rfl⟩) wl_X0_103 wi_X0_markReason ws_X0_markReason wn_X0 wc_X0_markReason, fun _ h => absurd h List.not_mem_nil⟩⟩) R sok_no E
  show WP_ X G Q 0 0 ad SHS_ σ 0 [(25, 30), (20, a1), (0, a2), (0, a3), (0, a4), (0, a5), (9, 0), (9, 0)] []
  refine B rfl ?_
  have lp_3 : ∀ (nq_ : Nat) (v6 : Int) (τ3 : Me_t), (∀ k j : Int, ¬ (k = 32) → τ3 k j = σ k j) → (0 ≤ v6) → (v6 ≤ 2000) → (2000 - v6 : Int).toNat < nq_ → WP_ X G Q 0 0 ad SHS_ τ3 3 [(25, 30), (20, a1), (0, a2), (0, a3), (0, a4), (0, a5), (0, v6), (9, 0)] [] := by
    intro nq_
    induction nq_ with
    | zero => intros; omega
    | succ nq_ ih_3 =>
      intro v6 τ3 hf3 hi3_0 hi3_1 hm3
      refine B rfl ?_
      refine And.intro (fun h1 => ?_) (fun h1 => ?_)
      · skip
        refine B rfl ?_
        refine Exists.intro 0 (And.intro rfl ?_)
        exact (fun k j hk => (hf3 _ _ (by omega)))
      · skip
        refine Exists.intro (a1, v6, a3, a4) (And.intro rfl (And.intro (And.intro (by show 0 ≤ v6; omega) (And.intro (by show v6 ≤ 2100; omega) (And.intro (by show 0 ≤ a3; omega) (And.intro (by show a3 ≤ 100; omega) (And.intro (by show 0 ≤ a4; omega) (by show a4 ≤ 100; omega)))))) ?_))
        rintro z2 m_ h3
        obtain rfl : τ3 = m_ := h3.2
        have h4 : 0 ≤ z2 ∧ z2 ≤ 2000000 := h3.1
        refine And.intro (fun h5 => ?_) (fun h5 => ?_)
        · skip
          refine B rfl ?_
          refine And.intro (by omega) ?_
          refine And.intro (by omega) ?_
          refine Exists.intro (a2, z2, (z2 + a5) - 1, 3) (And.intro rfl (And.intro (And.intro (by show 0 ≤ a2; omega) (And.intro (by show a2 ≤ 4000; omega) (And.intro (by show 0 ≤ z2; omega) (by show z2 ≤ 2000; omega)))) ?_))
          intro z6 σ8 h7
          have f9 : ∀ k j : Int, ¬ (k = 32) → σ8 k j = τ3 k j := h7
          refine And.intro (by omega) ?_
          show WP_ X G Q 0 0 ad SHS_ σ8 3 [(25, 30), (20, a1), (0, a2), (0, a3), (0, a4), (0, a5), (0, v6 + 1), (0, z2)] []
          refine wdrop_ (L' := [(25, 30), (20, a1), (0, a2), (0, a3), (0, a4), (0, a5), (0, v6 + 1), (9, 0)]) ⟨Or.inr rfl, ⟨Or.inr rfl, ⟨Or.inr rfl, ⟨Or.inr rfl, ⟨Or.inr rfl, ⟨Or.inr rfl, ⟨Or.inr rfl, ⟨Or.inl rfl, trivial⟩⟩⟩⟩⟩⟩⟩⟩ ?_
          exact ih_3 (v6 + 1) σ8 (fun k j hk => ((f9 _ _ (by omega)).trans (hf3 _ _ (by omega)))) (by show 0 ≤ (v6 + 1); omega) (by show (v6 + 1) ≤ 2000; omega) (by omega)
        · skip
          refine Exists.intro 0 (And.intro rfl ?_)
          exact (fun k j hk => (hf3 _ _ (by omega)))
  exact lp_3 ((2000 - 0 : Int).toNat + 1) 0 σ (fun k j hk => rfl) (by show 0 ≤ 0; omega) (by show 0 ≤ 2000; omega) (by omega)
def as_G_X0_fillReasons : Int × Int → List Sv_t := fun a => [(25, 30), (15, a.1), (0, a.2)]
def pre_G_X0_fillReasons : Int × Int → Me_t → Prop := fun a σ => (0 ≤ a.2) ∧ (a.2 ≤ 2)
def post_G_X0_fillReasons : Int × Int → Me_t → Int → Me_t → Prop := fun a σ z σ' => (∀ k j : Int, ¬ (k = 32) → σ' k j = σ k j)
set_option maxHeartbeats 1500000 in
set_option maxRecDepth 100000 in
theorem ct_G_X0_fillReasons (l : Launch) : CT_ l yX0_fillReasons cX0_fillReasons 8 none 3 74 as_G_X0_fillReasons (rmV_) pre_G_X0_fillReasons post_G_X0_fillReasons := by
  refine ct_of (by decide) (fun _ => Nat.le_of_ble_eq_true rfl) ?_
  intro X G Q ad σ a hl hR E hG R hM hv hp
  obtain ⟨a1, a2⟩ := a
  have k_a1 : isWar_ a1 := tvWar_ (hv (15, a1) (List.mem_of_getElem? (i := 1) rfl))
  have r_a1 : 5 ≤ a1 ∧ a1 ≤ 67 := by unfold isWar_ at k_a1; omega
  have r_a2 : -2147483648 ≤ a2 ∧ a2 ≤ 2147483647 := hv (0, a2) (List.mem_of_getElem? (i := 2) rfl)
  have hp0 : 0 ≤ a2 := hp.1
  have hp1 : a2 ≤ 2 := hp.2
  have B := @bk_ X G Q 0 0 ad SHS_ RX0 cX0_fillReasons 8 none flX0 plX0 knX0 [(206, 5, TR_ as_G_X0_markReason (rmV_) pre_G_X0_markReason post_G_X0_markReason), (186, 6, TR_ as_G_X0_markFeast (rmV_) pre_G_X0_markFeast post_G_X0_markFeast)] _ _ none kX0_fillReasons [17, 25, 53, 75, 84, 100, 109, 126, 169, 178, 195] flX0_ok plX0_ok knX0_ok eX0_fillReasons oX0_fillReasons
    (List.forall_mem_cons.mpr ⟨cok_v (t := 15) (c := 0) (N := 9) (n := 4) (idx := 103) E (ct_G_X0_markReason X.2.1) (by rw [hR]; decide) (Nat.zero_le _) (Nat.zero_le _) hG rfl rfl ⟨rfl, by decide, by decide, by decide⟩ (fun _ => ⟨_, _, rfl, rfl⟩) wl_X0_103 wi_X0_markReason ws_X0_markReason wn_X0 wc_X0_markReason, List.forall_mem_cons.mpr ⟨cok_v (t := 15) (c := 0) (N := 9) (n := 5) (idx := 93) E (ct_G_X0_markFeast X.2.1) (by rw [hR]; decide) (Nat.zero_le _) (Nat.zero_le _) hG rfl rfl ⟨rfl, by decide, by decide, by decide⟩ (fun _ => ⟨_, _, rfl, rfl⟩) wl_X0_93 wi_X0_markFeast ws_X0_markFeast wn_X0 wc_X0_markFeast, fun _ h => absurd h List.not_mem_nil⟩⟩) R sok_no E
  show WP_ X G Q 0 0 ad SHS_ σ 0 [(25, 30), (15, a1), (0, a2), (9, 0), (9, 0), (9, 0), (9, 0), (9, 0)] []
  refine B rfl ?_
  refine And.intro (by omega) ?_
  refine And.intro (by omega) ?_
  have lp_17 : ∀ (nq_ : Nat) (v5 : Int) (τ17 : Me_t), (∀ k j : Int, ¬ (k = 32) → τ17 k j = σ k j) → (0 ≤ v5) → (v5 ≤ 2000) → (2000 - v5 : Int).toNat < nq_ → WP_ X G Q 0 0 ad SHS_ τ17 17 [(25, 30), (15, a1), (0, a2), (20, (a1 + 1) + 4 + 2 * a2), (0, a2 * 2000), (0, v5), (9, 0), (9, 0)] [] := by
    intro nq_
    induction nq_ with
    | zero => intros; omega
    | succ nq_ ih_17 =>
      intro v5 τ17 hf17 hi17_0 hi17_1 hm17
      refine B rfl ?_
      refine And.intro (fun h1 => ?_) (fun h1 => ?_)
      · skip
        refine B rfl ?_
        have lp_100 : ∀ (nq_ : Nat) (v5 : Int) (τ100 : Me_t), (∀ k j : Int, ¬ (k = 32) → τ100 k j = σ k j) → (0 ≤ v5) → (v5 ≤ 12) → (12 - v5 : Int).toNat < nq_ → WP_ X G Q 0 0 ad SHS_ τ100 100 [(25, 30), (15, a1), (0, a2), (20, (a1 + 1) + 4 + 2 * a2), (0, a2 * 2000), (0, v5), (9, 0), (9, 0)] [] := by
          intro nq_
          induction nq_ with
          | zero => intros; omega
          | succ nq_ ih_100 =>
            intro v5 τ100 hf100 hi100_0 hi100_1 hm100
            refine B rfl ?_
            intro z2 ez2 hz2
            have hz2 : (0 : Int) ≤ z2 ∧ z2 ≤ (12 : Int) := hz2
            try have t3 : τ100 a1 3 = σ a1 3 := (hf100 _ _ (by omega))
            refine And.intro (fun h4 => ?_) (fun h4 => ?_)
            · skip
              refine B rfl ?_
              show WP_ X G Q 0 0 ad SHS_ τ100 169 [(25, 30), (15, a1), (0, a2), (20, (a1 + 1) + 4 + 2 * a2), (0, a2 * 2000), (0, 0), (9, 0), (9, 0)] []
              refine wdrop_ (L' := [(25, 30), (15, a1), (0, a2), (9, 0), (0, a2 * 2000), (0, 0), (9, 0), (9, 0)]) ⟨Or.inr rfl, ⟨Or.inr rfl, ⟨Or.inr rfl, ⟨Or.inl rfl, ⟨Or.inr rfl, ⟨Or.inr rfl, ⟨Or.inl rfl, ⟨Or.inl rfl, trivial⟩⟩⟩⟩⟩⟩⟩⟩ ?_
              have lp_169 : ∀ (nq_ : Nat) (v5 : Int) (τ169 : Me_t), (∀ k j : Int, ¬ (k = 32) → τ169 k j = σ k j) → (0 ≤ v5) → (v5 ≤ 12) → (12 - v5 : Int).toNat < nq_ → WP_ X G Q 0 0 ad SHS_ τ169 169 [(25, 30), (15, a1), (0, a2), (9, 0), (0, a2 * 2000), (0, v5), (9, 0), (9, 0)] [] := by
                intro nq_
                induction nq_ with
                | zero => intros; omega
                | succ nq_ ih_169 =>
                  intro v5 τ169 hf169 hi169_0 hi169_1 hm169
                  refine B rfl ?_
                  intro z5 ez5 hz5
                  have hz5 : (0 : Int) ≤ z5 ∧ z5 ≤ (12 : Int) := hz5
                  try have t6 : τ169 a1 4 = σ a1 4 := (hf169 _ _ (by omega))
                  refine And.intro (fun h7 => ?_) (fun h7 => ?_)
                  · skip
                    refine B rfl ?_
                    refine Exists.intro 0 (And.intro rfl ?_)
                    exact (fun k j hk => (hf169 _ _ (by omega)))
                  · skip
                    show WP_ X G Q 0 0 ad SHS_ τ169 178 [(25, 30), (15, a1), (0, a2), (9, 0), (0, a2 * 2000), (0, v5), (9, 0), (9, 0)] []
                    refine B rfl ?_
                    refine And.intro (by omega) ?_
                    refine And.intro (by omega) ?_
                    intro z8 ez8 hz8
                    have hz8 : (0 : Int) ≤ z8 ∧ z8 ≤ (1999 : Int) := hz8
                    try have t9 : τ169 (a1 + 3) (v5 * 3) = σ (a1 + 3) (v5 * 3) := (hf169 _ _ (by omega))
                    refine And.intro (fun h10 => ?_) (fun h10 => ?_)
                    · skip
                      refine B rfl ?_
                      refine And.intro (by omega) ?_
                      show WP_ X G Q 0 0 ad SHS_ τ169 169 [(25, 30), (15, a1), (0, a2), (9, 0), (0, a2 * 2000), (0, v5 + 1), (0, v5 * 3), (9, 0)] []
                      refine wdrop_ (L' := [(25, 30), (15, a1), (0, a2), (9, 0), (0, a2 * 2000), (0, v5 + 1), (9, 0), (9, 0)]) ⟨Or.inr rfl, ⟨Or.inr rfl, ⟨Or.inr rfl, ⟨Or.inl rfl, ⟨Or.inr rfl, ⟨Or.inr rfl, ⟨Or.inl rfl, ⟨Or.inl rfl, trivial⟩⟩⟩⟩⟩⟩⟩⟩ ?_
                      exact ih_169 (v5 + 1) τ169 (fun k j hk => (hf169 _ _ (by omega))) (by show 0 ≤ (v5 + 1); omega) (by show (v5 + 1) ≤ 12; omega) (by omega)
                    · skip
                      show WP_ X G Q 0 0 ad SHS_ τ169 195 [(25, 30), (15, a1), (0, a2), (9, 0), (0, a2 * 2000), (0, v5), (0, v5 * 3), (9, 0)] []
                      refine B rfl ?_
                      refine And.intro (by omega) ?_
                      refine And.intro (by omega) ?_
                      intro z11 ez11 hz11
                      have hz11 : (0 : Int) ≤ z11 ∧ z11 ≤ (1999 : Int) := hz11
                      try have t12 : τ169 (a1 + 3) ((v5 * 3) + 1) = σ (a1 + 3) ((v5 * 3) + 1) := (hf169 _ _ (by omega))
                      refine And.intro (by omega) ?_
                      refine And.intro (by omega) ?_
                      intro z13 ez13 hz13
                      have hz13 : (0 : Int) ≤ z13 ∧ z13 ≤ (1999 : Int) := hz13
                      try have t14 : τ169 (a1 + 3) ((v5 * 3) + 2) = σ (a1 + 3) ((v5 * 3) + 2) := (hf169 _ _ (by omega))
                      refine Exists.intro (a2 * 2000, z11, z13, 4) (And.intro rfl (And.intro (And.intro (by show 0 ≤ (a2 * 2000); omega) (And.intro (by show (a2 * 2000) ≤ 4000; omega) (And.intro (by show 0 ≤ z11; omega) (by show z11 ≤ 2000; omega)))) ?_))
                      intro z15 σ17 h16
                      have f18 : ∀ k j : Int, ¬ (k = 32) → σ17 k j = τ169 k j := h16
                      refine And.intro (by omega) ?_
                      show WP_ X G Q 0 0 ad SHS_ σ17 169 [(25, 30), (15, a1), (0, a2), (9, 0), (0, a2 * 2000), (0, v5 + 1), (0, v5 * 3), (9, 0)] []
                      refine wdrop_ (L' := [(25, 30), (15, a1), (0, a2), (9, 0), (0, a2 * 2000), (0, v5 + 1), (9, 0), (9, 0)]) ⟨Or.inr rfl, ⟨Or.inr rfl, ⟨Or.inr rfl, ⟨Or.inl rfl, ⟨Or.inr rfl, ⟨Or.inr rfl, ⟨Or.inl rfl, ⟨Or.inl rfl, trivial⟩⟩⟩⟩⟩⟩⟩⟩ ?_
                      exact ih_169 (v5 + 1) σ17 (fun k j hk => ((f18 _ _ (by omega)).trans (hf169 _ _ (by omega)))) (by show 0 ≤ (v5 + 1); omega) (by show (v5 + 1) ≤ 12; omega) (by omega)
              exact lp_169 ((12 - 0 : Int).toNat + 1) 0 τ100 (fun k j hk => (hf100 _ _ (by omega))) (by show 0 ≤ 0; omega) (by show 0 ≤ 12; omega) (by omega)
            · skip
              show WP_ X G Q 0 0 ad SHS_ τ100 109 [(25, 30), (15, a1), (0, a2), (20, (a1 + 1) + 4 + 2 * a2), (0, a2 * 2000), (0, v5), (9, 0), (9, 0)] []
              refine B rfl ?_
              refine And.intro (by omega) ?_
              refine And.intro (by omega) ?_
              intro z19 ez19 hz19
              have hz19 : (0 : Int) ≤ z19 ∧ z19 ≤ (59 : Int) := hz19
              try have t20 : τ100 (a1 + 2) (v5 * 4) = σ (a1 + 2) (v5 * 4) := (hf100 _ _ (by omega))
              refine And.intro (fun h21 => ?_) (fun h21 => ?_)
              · skip
                refine B rfl ?_
                refine And.intro (by omega) ?_
                show WP_ X G Q 0 0 ad SHS_ τ100 100 [(25, 30), (15, a1), (0, a2), (20, (a1 + 1) + 4 + 2 * a2), (0, a2 * 2000), (0, v5 + 1), (0, v5 * 4), (9, 0)] []
                refine wdrop_ (L' := [(25, 30), (15, a1), (0, a2), (20, (a1 + 1) + 4 + 2 * a2), (0, a2 * 2000), (0, v5 + 1), (9, 0), (9, 0)]) ⟨Or.inr rfl, ⟨Or.inr rfl, ⟨Or.inr rfl, ⟨Or.inr rfl, ⟨Or.inr rfl, ⟨Or.inr rfl, ⟨Or.inl rfl, ⟨Or.inl rfl, trivial⟩⟩⟩⟩⟩⟩⟩⟩ ?_
                exact ih_100 (v5 + 1) τ100 (fun k j hk => (hf100 _ _ (by omega))) (by show 0 ≤ (v5 + 1); omega) (by show (v5 + 1) ≤ 12; omega) (by omega)
              · skip
                show WP_ X G Q 0 0 ad SHS_ τ100 126 [(25, 30), (15, a1), (0, a2), (20, (a1 + 1) + 4 + 2 * a2), (0, a2 * 2000), (0, v5), (0, v5 * 4), (9, 0)] []
                refine B rfl ?_
                refine And.intro (by omega) ?_
                refine And.intro (by omega) ?_
                intro z22 ez22 hz22
                have hz22 : (0 : Int) ≤ z22 ∧ z22 ≤ (59 : Int) := hz22
                try have t23 : τ100 (a1 + 2) ((v5 * 4) + 1) = σ (a1 + 2) ((v5 * 4) + 1) := (hf100 _ _ (by omega))
                refine And.intro (by omega) ?_
                refine And.intro (by omega) ?_
                intro z24 ez24 hz24
                have hz24 : (0 : Int) ≤ z24 ∧ z24 ≤ (59 : Int) := hz24
                try have t25 : τ100 (a1 + 2) ((v5 * 4) + 2) = σ (a1 + 2) ((v5 * 4) + 2) := (hf100 _ _ (by omega))
                refine And.intro (by omega) ?_
                refine And.intro (by omega) ?_
                intro z26 ez26 hz26
                have hz26 : (0 : Int) ≤ z26 ∧ z26 ≤ (59 : Int) := hz26
                try have t27 : τ100 (a1 + 2) ((v5 * 4) + 3) = σ (a1 + 2) ((v5 * 4) + 3) := (hf100 _ _ (by omega))
                refine Exists.intro ((a1 + 1) + 4 + 2 * a2, a2 * 2000, z22, z24, z26) (And.intro rfl (And.intro (And.intro (by show 0 ≤ (a2 * 2000); omega) (And.intro (by show (a2 * 2000) ≤ 4000; omega) (And.intro (by show 0 ≤ z22; omega) (And.intro (by show z22 ≤ 100; omega) (And.intro (by show 0 ≤ z24; omega) (And.intro (by show z24 ≤ 100; omega) (And.intro (by show 0 ≤ z26; omega) (by show z26 ≤ 100; omega)))))))) ?_))
                intro z28 σ30 h29
                have f31 : ∀ k j : Int, ¬ (k = 32) → σ30 k j = τ100 k j := h29
                refine And.intro (by omega) ?_
                show WP_ X G Q 0 0 ad SHS_ σ30 100 [(25, 30), (15, a1), (0, a2), (20, (a1 + 1) + 4 + 2 * a2), (0, a2 * 2000), (0, v5 + 1), (0, v5 * 4), (9, 0)] []
                refine wdrop_ (L' := [(25, 30), (15, a1), (0, a2), (20, (a1 + 1) + 4 + 2 * a2), (0, a2 * 2000), (0, v5 + 1), (9, 0), (9, 0)]) ⟨Or.inr rfl, ⟨Or.inr rfl, ⟨Or.inr rfl, ⟨Or.inr rfl, ⟨Or.inr rfl, ⟨Or.inr rfl, ⟨Or.inl rfl, ⟨Or.inl rfl, trivial⟩⟩⟩⟩⟩⟩⟩⟩ ?_
                exact ih_100 (v5 + 1) σ30 (fun k j hk => ((f31 _ _ (by omega)).trans (hf100 _ _ (by omega)))) (by show 0 ≤ (v5 + 1); omega) (by show (v5 + 1) ≤ 12; omega) (by omega)
        exact lp_100 ((12 - 0 : Int).toNat + 1) 0 τ17 (fun k j hk => (hf17 _ _ (by omega))) (by show 0 ≤ 0; omega) (by show 0 ≤ 12; omega) (by omega)
      · skip
        show WP_ X G Q 0 0 ad SHS_ τ17 25 [(25, 30), (15, a1), (0, a2), (20, (a1 + 1) + 4 + 2 * a2), (0, a2 * 2000), (0, v5), (9, 0), (9, 0)] []
        refine B rfl ?_
        refine And.intro (by omega) ?_
        refine And.intro (by omega) ?_
        intro z32 ez32 hz32
        have hz32 : ((-1) : Int) ≤ z32 ∧ z32 ≤ (2147483647 : Int) := rgl_ hz32 (by decide +kernel) (by decide +kernel) (by decide +kernel)
        try have t33 : τ17 31 ((a2 * 2000) + v5) = σ 31 ((a2 * 2000) + v5) := (hf17 _ _ (by omega))
        intro z34 ez34 hz34
        have hz34 : (0 : Int) ≤ z34 ∧ z34 ≤ (1022 : Int) := hz34
        try have t35 : τ17 ((a1 + 1) + 4 + 2 * a2) 2 = σ ((a1 + 1) + 4 + 2 * a2) 2 := (hf17 _ _ (by omega))
        have q36 := and3_r (x := z32) (c := 15) (by omega) (by omega)
        have q37 := and3_r (x := shr3_ z34 (and3_ z32 15)) (c := 1) (by omega) (by omega)
        refine And.intro (fun h38 => ?_) (fun h38 => ?_)
        · skip
          refine B rfl ?_
          refine And.intro (by omega) ?_
          refine And.intro (fun h39 => ?_) (fun h39 => ?_)
          · skip
            refine B rfl ?_
            refine And.intro (fun h40 => ?_) (fun h40 => (by exfalso; omega))
            refine B rfl ?_
            refine And.intro (by omega) ?_
            refine And.intro (i2b_r _) ?_
            intro σ41 e42
            refine And.intro (by omega) ?_
            show WP_ X G Q 0 0 ad SHS_ σ41 17 [(25, 30), (15, a1), (0, a2), (20, (a1 + 1) + 4 + 2 * a2), (0, a2 * 2000), (0, v5 + 1), (0, z32), (0, 0)] []
            refine wdrop_ (L' := [(25, 30), (15, a1), (0, a2), (20, (a1 + 1) + 4 + 2 * a2), (0, a2 * 2000), (0, v5 + 1), (9, 0), (9, 0)]) ⟨Or.inr rfl, ⟨Or.inr rfl, ⟨Or.inr rfl, ⟨Or.inr rfl, ⟨Or.inr rfl, ⟨Or.inr rfl, ⟨Or.inl rfl, ⟨Or.inl rfl, trivial⟩⟩⟩⟩⟩⟩⟩⟩ ?_
            exact ih_17 (v5 + 1) σ41 (fun k j hk => ((ups_r e42 (by omega)).trans (hf17 _ _ (by omega)))) (by show 0 ≤ (v5 + 1); omega) (by show (v5 + 1) ≤ 2000; omega) (by omega)
          · skip
            show WP_ X G Q 0 0 ad SHS_ τ17 75 [(25, 30), (15, a1), (0, a2), (20, (a1 + 1) + 4 + 2 * a2), (0, a2 * 2000), (0, v5), (0, z32), (0, 0)] [(0, (a2 * 2000) + v5), (27, 32)]
            refine B rfl ?_
            refine B rfl ?_
            refine And.intro (by omega) ?_
            refine And.intro (i2b_r _) ?_
            intro σ43 e44
            refine And.intro (by omega) ?_
            show WP_ X G Q 0 0 ad SHS_ σ43 17 [(25, 30), (15, a1), (0, a2), (20, (a1 + 1) + 4 + 2 * a2), (0, a2 * 2000), (0, v5 + 1), (0, z32), (0, 0)] []
            refine wdrop_ (L' := [(25, 30), (15, a1), (0, a2), (20, (a1 + 1) + 4 + 2 * a2), (0, a2 * 2000), (0, v5 + 1), (9, 0), (9, 0)]) ⟨Or.inr rfl, ⟨Or.inr rfl, ⟨Or.inr rfl, ⟨Or.inr rfl, ⟨Or.inr rfl, ⟨Or.inr rfl, ⟨Or.inl rfl, ⟨Or.inl rfl, trivial⟩⟩⟩⟩⟩⟩⟩⟩ ?_
            exact ih_17 (v5 + 1) σ43 (fun k j hk => ((ups_r e44 (by omega)).trans (hf17 _ _ (by omega)))) (by show 0 ≤ (v5 + 1); omega) (by show (v5 + 1) ≤ 2000; omega) (by omega)
        · skip
          show WP_ X G Q 0 0 ad SHS_ τ17 53 [(25, 30), (15, a1), (0, a2), (20, (a1 + 1) + 4 + 2 * a2), (0, a2 * 2000), (0, v5), (0, z32), (9, 0)] []
          refine B rfl ?_
          refine B rfl ?_
          refine And.intro (by omega) ?_
          refine And.intro (fun h45 => ?_) (fun h45 => ?_)
          · skip
            refine B rfl ?_
            refine And.intro (fun h46 => (by exfalso; omega)) (fun h46 => ?_)
            show WP_ X G Q 0 0 ad SHS_ τ17 84 [(25, 30), (15, a1), (0, a2), (20, (a1 + 1) + 4 + 2 * a2), (0, a2 * 2000), (0, v5), (0, z32), (0, 1)] [(0, (a2 * 2000) + v5), (27, 32)]
            refine B rfl ?_
            refine B rfl ?_
            refine And.intro (by omega) ?_
            refine And.intro (i2b_r _) ?_
            intro σ47 e48
            refine And.intro (by omega) ?_
            show WP_ X G Q 0 0 ad SHS_ σ47 17 [(25, 30), (15, a1), (0, a2), (20, (a1 + 1) + 4 + 2 * a2), (0, a2 * 2000), (0, v5 + 1), (0, z32), (0, 1)] []
            refine wdrop_ (L' := [(25, 30), (15, a1), (0, a2), (20, (a1 + 1) + 4 + 2 * a2), (0, a2 * 2000), (0, v5 + 1), (9, 0), (9, 0)]) ⟨Or.inr rfl, ⟨Or.inr rfl, ⟨Or.inr rfl, ⟨Or.inr rfl, ⟨Or.inr rfl, ⟨Or.inr rfl, ⟨Or.inl rfl, ⟨Or.inl rfl, trivial⟩⟩⟩⟩⟩⟩⟩⟩ ?_
            exact ih_17 (v5 + 1) σ47 (fun k j hk => ((ups_r e48 (by omega)).trans (hf17 _ _ (by omega)))) (by show 0 ≤ (v5 + 1); omega) (by show (v5 + 1) ≤ 2000; omega) (by omega)
          · skip
            show WP_ X G Q 0 0 ad SHS_ τ17 75 [(25, 30), (15, a1), (0, a2), (20, (a1 + 1) + 4 + 2 * a2), (0, a2 * 2000), (0, v5), (0, z32), (0, 1)] [(0, (a2 * 2000) + v5), (27, 32)]
            refine B rfl ?_
            refine B rfl ?_
            refine And.intro (by omega) ?_
            refine And.intro (i2b_r _) ?_
            intro σ49 e50
            refine And.intro (by omega) ?_
            show WP_ X G Q 0 0 ad SHS_ σ49 17 [(25, 30), (15, a1), (0, a2), (20, (a1 + 1) + 4 + 2 * a2), (0, a2 * 2000), (0, v5 + 1), (0, z32), (0, 1)] []
            refine wdrop_ (L' := [(25, 30), (15, a1), (0, a2), (20, (a1 + 1) + 4 + 2 * a2), (0, a2 * 2000), (0, v5 + 1), (9, 0), (9, 0)]) ⟨Or.inr rfl, ⟨Or.inr rfl, ⟨Or.inr rfl, ⟨Or.inr rfl, ⟨Or.inr rfl, ⟨Or.inr rfl, ⟨Or.inl rfl, ⟨Or.inl rfl, trivial⟩⟩⟩⟩⟩⟩⟩⟩ ?_
            exact ih_17 (v5 + 1) σ49 (fun k j hk => ((ups_r e50 (by omega)).trans (hf17 _ _ (by omega)))) (by show 0 ≤ (v5 + 1); omega) (by show (v5 + 1) ≤ 2000; omega) (by omega)
  exact lp_17 ((2000 - 0 : Int).toNat + 1) 0 σ (fun k j hk => rfl) (by show 0 ≤ 0; omega) (by show 0 ≤ 2000; omega) (by omega)
def as_G_X0_fillFighters : Int → List Sv_t := fun a => [(25, 30), (0, a)]
def pre_G_X0_fillFighters : Int → Me_t → Prop := fun a σ => (0 ≤ a) ∧ (a ≤ 2)
def post_G_X0_fillFighters : Int → Me_t → Int → Me_t → Prop := fun a σ z σ' => (∀ k j : Int, ¬ (k = 33) → σ' k j = σ k j)
set_option maxHeartbeats 1500000 in
set_option maxRecDepth 100000 in
theorem ct_G_X0_fillFighters (l : Launch) : CT_ l yX0_fillFighters cX0_fillFighters 5 none 0 0 as_G_X0_fillFighters (rmV_) pre_G_X0_fillFighters post_G_X0_fillFighters := by
  refine ct_of (by decide) (fun _ => Nat.le_of_ble_eq_true rfl) ?_
  intro X G Q ad σ a hl hR E hG R hM hv hp
  obtain ⟨a1, rfl⟩ : ∃ q : Int, q = a := ⟨_, rfl⟩
  have r_a1 : -2147483648 ≤ a1 ∧ a1 ≤ 2147483647 := hv (0, a1) (List.mem_of_getElem? (i := 1) rfl)
  have hp0 : 0 ≤ a1 := hp.1
  have hp1 : a1 ≤ 2 := hp.2
  have B := @bk_ X G Q 0 0 ad SHS_ RX0 cX0_fillFighters 5 none flX0 plX0 knX0 [] _ _ none kX0_fillFighters [13, 21, 33] flX0_ok plX0_ok knX0_ok eX0_fillFighters oX0_fillFighters
    (fun _ h => absurd h List.not_mem_nil) R sok_no E
  show WP_ X G Q 0 0 ad SHS_ σ 0 [(25, 30), (0, a1), (9, 0), (9, 0), (9, 0)] []
  refine B rfl ?_
  refine And.intro (by omega) ?_
  try have q1 := shl3_1 (b := a1) (by omega) (by omega)
  try have q2 := shl3_b (b := a1) (by omega) (by omega)
  show WP_ X G Q 0 0 ad SHS_ σ 13 [(25, 30), (0, a1), (0, a1 * 2000), (0, shl3_ 1 a1), (0, 0)] []
  refine wdrop_ (L' := [(25, 30), (9, 0), (0, a1 * 2000), (0, shl3_ 1 a1), (0, 0)]) ⟨Or.inr rfl, ⟨Or.inl rfl, ⟨Or.inr rfl, ⟨Or.inr rfl, ⟨Or.inr rfl, trivial⟩⟩⟩⟩⟩ ?_
  have lp_13 : ∀ (nq_ : Nat) (v4 : Int) (τ13 : Me_t), (∀ k j : Int, ¬ (k = 33) → τ13 k j = σ k j) → (0 ≤ v4) → (v4 ≤ 2000) → (2000 - v4 : Int).toNat < nq_ → WP_ X G Q 0 0 ad SHS_ τ13 13 [(25, 30), (9, 0), (0, a1 * 2000), (0, shl3_ 1 a1), (0, v4)] [] := by
    intro nq_
    induction nq_ with
    | zero => intros; omega
    | succ nq_ ih_13 =>
      intro v4 τ13 hf13 hi13_0 hi13_1 hm13
      refine B rfl ?_
      refine And.intro (fun h3 => ?_) (fun h3 => ?_)
      · skip
        refine B rfl ?_
        refine Exists.intro 0 (And.intro rfl ?_)
        exact (fun k j hk => (hf13 _ _ (by omega)))
      · skip
        show WP_ X G Q 0 0 ad SHS_ τ13 21 [(25, 30), (9, 0), (0, a1 * 2000), (0, shl3_ 1 a1), (0, v4)] []
        refine B rfl ?_
        refine And.intro (by omega) ?_
        refine And.intro (by omega) ?_
        intro z4 ez4 hz4
        have hz4 : ((-128) : Int) ≤ z4 ∧ z4 ≤ (127 : Int) := hz4
        try have t5 : τ13 32 ((a1 * 2000) + v4) = σ 32 ((a1 * 2000) + v4) := (hf13 _ _ (by omega))
        refine And.intro (fun h6 => ?_) (fun h6 => ?_)
        · skip
          refine B rfl ?_
          refine And.intro (by omega) ?_
          intro z7 ez7 hz7
          have hz7 : ((-128) : Int) ≤ z7 ∧ z7 ≤ (127 : Int) := hz7
          try have t8 : τ13 33 v4 = σ 33 v4 := (hf13 _ _ (by omega))
          refine And.intro (by omega) ?_
          refine And.intro (i2b_r _) ?_
          intro σ9 e10
          refine And.intro (by omega) ?_
          exact ih_13 (v4 + 1) σ9 (fun k j hk => ((ups_r e10 (by omega)).trans (hf13 _ _ (by omega)))) (by show 0 ≤ (v4 + 1); omega) (by show (v4 + 1) ≤ 2000; omega) (by omega)
        · skip
          show WP_ X G Q 0 0 ad SHS_ τ13 33 [(25, 30), (9, 0), (0, a1 * 2000), (0, shl3_ 1 a1), (0, v4)] []
          refine B rfl ?_
          refine And.intro (by omega) ?_
          intro z11 ez11 hz11
          have hz11 : ((-128) : Int) ≤ z11 ∧ z11 ≤ (127 : Int) := hz11
          try have t12 : τ13 33 v4 = σ 33 v4 := (hf13 _ _ (by omega))
          refine And.intro (by omega) ?_
          refine And.intro (i2b_r _) ?_
          intro σ13 e14
          refine B rfl ?_
          refine And.intro (by omega) ?_
          exact ih_13 (v4 + 1) σ13 (fun k j hk => ((ups_r e14 (by omega)).trans (hf13 _ _ (by omega)))) (by show 0 ≤ (v4 + 1); omega) (by show (v4 + 1) ≤ 2000; omega) (by omega)
  exact lp_13 ((2000 - 0 : Int).toNat + 1) 0 σ (fun k j hk => rfl) (by show 0 ≤ 0; omega) (by show 0 ≤ 2000; omega) (by omega)
