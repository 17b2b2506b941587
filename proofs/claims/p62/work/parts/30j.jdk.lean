def as_G_J7_fill_031fb : Int → List Sv_t := fun a => [(28, 33), (0, a)]
def pre_G_J7_fill_031fb : Int → Me_t → Prop := fun a σ => (-128 ≤ a) ∧ (a ≤ 127)
def post_G_J7_fill_031fb : Int → Me_t → Int → Me_t → Prop := fun a σ z σ' => (∀ k j : Int, ¬ (k = 33) → σ' k j = σ k j)
set_option maxHeartbeats 8000000 in
set_option maxRecDepth 100000 in
theorem ct_G_J7_fill_031fb (l : Launch) : CT_ l yJ7_fill_031fb cJ7_fill_031fb 4 none 0 0 as_G_J7_fill_031fb (rmV_) pre_G_J7_fill_031fb post_G_J7_fill_031fb := by
  refine ct_of (by decide) (fun _ => Nat.le_of_ble_eq_true rfl) ?_
  intro X G Q ad σ a hl hR E hG R hM hv hp
  obtain ⟨a1, rfl⟩ : ∃ q : Int, q = a := ⟨_, rfl⟩
  have r_a1 : -2147483648 ≤ a1 ∧ a1 ≤ 2147483647 := hv (0, a1) (List.mem_of_getElem? (i := 1) rfl)
  have hp0 : -128 ≤ a1 := hp.1
  have hp1 : a1 ≤ 127 := hp.2
  have B := @bk_ X G Q 0 0 ad SHS_ RJ7 cJ7_fill_031fb 4 none flJ7 plJ7 knJ7 [] _ _ none kJ7_fill_031fb [5] flJ7_ok plJ7_ok knJ7_ok eJ7_fill_031fb oJ7_fill_031fb
    (fun _ h => absurd h List.not_mem_nil) R sok_no E
  show WP_ X G Q 0 0 ad SHS_ σ 0 [(28, 33), (0, a1), (9, 0), (9, 0)] []
  refine B rfl ?_
  have lp_5 : ∀ (nq_ : Nat) (v2 : Int) (τ5 : Me_t), (∀ k j : Int, ¬ (k = 33) → τ5 k j = σ k j) → (0 ≤ v2) → (v2 ≤ 2000) → (2000 - v2 : Int).toNat < nq_ → WP_ X G Q 0 0 ad SHS_ τ5 5 [(28, 33), (0, a1), (0, v2), (0, 2000)] [] := by
    intro nq_
    induction nq_ with
    | zero => intros; omega
    | succ nq_ ih_5 =>
      intro v2 τ5 hf5 hi5_0 hi5_1 hm5
      refine B rfl ?_
      refine And.intro (fun h1 => ?_) (fun h1 => ?_)
      · skip
        refine B rfl ?_
        refine Exists.intro 0 (And.intro rfl ?_)
        exact (fun k j hk => (hf5 _ _ (by omega)))
      · skip
        refine And.intro (by omega) ?_
        refine And.intro (by show ((-128) : Int) ≤ _ ∧ _ ≤ (127 : Int); omega) ?_
        intro σ2 e3
        refine And.intro (by omega) ?_
        exact ih_5 (v2 + 1) σ2 (fun k j hk => ((ups_r e3 (by omega)).trans (hf5 _ _ (by omega)))) (by show 0 ≤ (v2 + 1); omega) (by show (v2 + 1) ≤ 2000; omega) (by omega)
  exact lp_5 ((2000 - 0 : Int).toNat + 1) 0 σ (fun k j hk => rfl) (by show 0 ≤ 0; omega) (by show 0 ≤ 2000; omega) (by omega)
def as_G_J7_fill_53178 : Int → List Sv_t := fun a => [(36, 41), (0, a)]
def pre_G_J7_fill_53178 : Int → Me_t → Prop := fun a σ => (0 ≤ a) ∧ (a ≤ 2000)
def post_G_J7_fill_53178 : Int → Me_t → Int → Me_t → Prop := fun a σ z σ' => (∀ j : Int, 0 ≤ j → j < 12 → σ' 41 j = a) ∧ (∀ k j : Int, ¬ (k = 41) → σ' k j = σ k j)
set_option maxHeartbeats 8000000 in
set_option maxRecDepth 100000 in
theorem ct_G_J7_fill_53178 (l : Launch) : CT_ l yJ7_fill_53178 cJ7_fill_53178 4 none 0 0 as_G_J7_fill_53178 (rmV_) pre_G_J7_fill_53178 post_G_J7_fill_53178 := by
  refine ct_of (by decide) (fun _ => Nat.le_of_ble_eq_true rfl) ?_
  intro X G Q ad σ a hl hR E hG R hM hv hp
  obtain ⟨a1, rfl⟩ : ∃ q : Int, q = a := ⟨_, rfl⟩
  have r_a1 : -2147483648 ≤ a1 ∧ a1 ≤ 2147483647 := hv (0, a1) (List.mem_of_getElem? (i := 1) rfl)
  have hp0 : 0 ≤ a1 := hp.1
  have hp1 : a1 ≤ 2000 := hp.2
  have B := @bk_ X G Q 0 0 ad SHS_ RJ7 cJ7_fill_53178 4 none flJ7 plJ7 knJ7 [] _ _ none kJ7_fill_53178 [5] flJ7_ok plJ7_ok knJ7_ok eJ7_fill_53178 oJ7_fill_53178
    (fun _ h => absurd h List.not_mem_nil) R sok_no E
  show WP_ X G Q 0 0 ad SHS_ σ 0 [(36, 41), (0, a1), (9, 0), (9, 0)] []
  refine B rfl ?_
  have lp_5 : ∀ (nq_ : Nat) (v2 : Int) (τ5 : Me_t), (∀ k j : Int, ¬ (k = 41) → τ5 k j = σ k j) → (0 ≤ v2) → (v2 ≤ 12) → (∀ j : Int, 0 ≤ j → j < v2 → τ5 41 j = a1) → (12 - v2 : Int).toNat < nq_ → WP_ X G Q 0 0 ad SHS_ τ5 5 [(36, 41), (0, a1), (0, v2), (0, 12)] [] := by
    intro nq_
    induction nq_ with
    | zero => intros; omega
    | succ nq_ ih_5 =>
      intro v2 τ5 hf5 hi5_0 hi5_1 hi5_2 hm5
      refine B rfl ?_
      refine And.intro (fun h1 => ?_) (fun h1 => ?_)
      · skip
        refine B rfl ?_
        refine Exists.intro 0 (And.intro rfl ?_)
        exact (And.intro (by show ∀ j : Int, 0 ≤ j → j < 12 → τ5 41 j = a1; intro j h1 h2; exact hi5_2 j h1 (by omega)) (fun k j hk => (hf5 _ _ (by omega))))
      · skip
        refine And.intro (by omega) ?_
        refine And.intro (by show (0 : Int) ≤ _ ∧ _ ≤ (2000 : Int); omega) ?_
        intro σ2 e3
        refine And.intro (by omega) ?_
        exact ih_5 (v2 + 1) σ2 (fun k j hk => ((ups_r e3 (by omega)).trans (hf5 _ _ (by omega)))) (by show 0 ≤ (v2 + 1); omega) (by show (v2 + 1) ≤ 12; omega) (by show ∀ j : Int, 0 ≤ j → j < (v2 + 1) → σ2 41 j = a1; intro j h1 h2; by_cases hj : j = v2; subst hj; exact ups_v e3; exact (ups_r e3 (by omega)).trans (hi5_2 j h1 (by omega))) (by omega)
  exact lp_5 ((12 - 0 : Int).toNat + 1) 0 σ (fun k j hk => rfl) (by show 0 ≤ 0; omega) (by show 0 ≤ 12; omega) (by show ∀ j : Int, 0 ≤ j → j < 0 → σ 41 j = a1; intro j h1 h2; omega) (by omega)
def as_G_J7_fill_d0a16 : Int × Int → List Sv_t := fun a => [(41, a.1), (1, a.2)]
def pre_G_J7_fill_d0a16 : Int × Int → Me_t → Prop := fun a σ => True
def post_G_J7_fill_d0a16 : Int × Int → Me_t → Int → Me_t → Prop := fun a σ z σ' => (∀ k j : Int, ¬ (k = a.1) → σ' k j = σ k j)
set_option maxHeartbeats 8000000 in
set_option maxRecDepth 100000 in
theorem ct_G_J7_fill_d0a16 (l : Launch) : CT_ l yJ7_fill_d0a16 cJ7_fill_d0a16 5 none 0 0 as_G_J7_fill_d0a16 (rmV_) pre_G_J7_fill_d0a16 post_G_J7_fill_d0a16 := by
  refine ct_of (by decide) (fun _ => Nat.le_of_ble_eq_true rfl) ?_
  intro X G Q ad σ a hl hR E hG R hM hv hp
  obtain ⟨a0, a1⟩ := a
  have r_a1 : -9223372036854775808 ≤ a1 ∧ a1 ≤ 9223372036854775807 := hv (1, a1) (List.mem_of_getElem? (i := 1) rfl)
  have B := @bk_ X G Q 0 0 ad SHS_ RJ7 cJ7_fill_d0a16 5 none flJ7 plJ7 knJ7 [] _ _ none kJ7_fill_d0a16 [6] flJ7_ok plJ7_ok knJ7_ok eJ7_fill_d0a16 oJ7_fill_d0a16
    (fun _ h => absurd h List.not_mem_nil) R sok_no E
  show WP_ X G Q 0 0 ad SHS_ σ 0 [(41, a0), (1, a1), (9, 0), (9, 0), (9, 0)] []
  refine B rfl ?_
  have lp_6 : ∀ (nq_ : Nat) (v3 : Int) (τ6 : Me_t), (∀ k j : Int, ¬ (k = a0) → τ6 k j = σ k j) → (0 ≤ v3) → (v3 ≤ 60) → (60 - v3 : Int).toNat < nq_ → WP_ X G Q 0 0 ad SHS_ τ6 6 [(41, a0), (1, a1), (9, 0), (0, v3), (0, 60)] [] := by
    intro nq_
    induction nq_ with
    | zero => intros; omega
    | succ nq_ ih_6 =>
      intro v3 τ6 hf6 hi6_0 hi6_1 hm6
      refine B rfl ?_
      refine And.intro (fun h1 => ?_) (fun h1 => ?_)
      · skip
        refine B rfl ?_
        refine Exists.intro 0 (And.intro rfl ?_)
        exact (fun k j hk => (hf6 _ _ (by omega)))
      · skip
        refine And.intro (by omega) ?_
        intro σ2 e3
        refine And.intro (by omega) ?_
        exact ih_6 (v3 + 1) σ2 (fun k j hk => ((ups_r e3 (by omega)).trans (hf6 _ _ (by omega)))) (by show 0 ≤ (v3 + 1); omega) (by show (v3 + 1) ≤ 60; omega) (by omega)
  exact lp_6 ((60 - 0 : Int).toNat + 1) 0 σ (fun k j hk => rfl) (by show 0 ≤ 0; omega) (by show 0 ≤ 60; omega) (by omega)
