def as_G_X0_bringUpToDate : Int → List Sv_t := fun a => [(25, 30), (15, a)]
def pre_G_X0_bringUpToDate : Int → Me_t → Prop := fun a σ => (LG σ a) ∧ (DT σ)
def post_G_X0_bringUpToDate : Int → Me_t → Int → Me_t → Prop := fun a σ z σ' => (DT σ') ∧ (∀ k j : Int, ¬ (30 ≤ k ∧ k ≤ 33) → σ' k j = σ k j)
set_option maxHeartbeats 1500000 in
set_option maxRecDepth 100000 in
theorem ct_G_X0_bringUpToDate (l : Launch) : CT_ l yX0_bringUpToDate cX0_bringUpToDate 3 none 4 101 as_G_X0_bringUpToDate (rmV_) pre_G_X0_bringUpToDate post_G_X0_bringUpToDate := by
  refine ct_of (by decide) (fun _ => Nat.le_of_ble_eq_true rfl) ?_
  intro X G Q ad σ a hl hR E hG R hM hv hp
  obtain ⟨a1, rfl⟩ : ∃ q : Int, q = a := ⟨_, rfl⟩
  have k_a1 : isWar_ a1 := tvWar_ (hv (15, a1) (List.mem_of_getElem? (i := 1) rfl))
  have r_a1 : 5 ≤ a1 ∧ a1 ≤ 67 := by unfold isWar_ at k_a1; omega
  have hp0 : LG σ a1 := hp.1
  have hp1 : DT σ := hp.2
  have B := @bk_ X G Q 0 0 ad SHS_ RX0 cX0_bringUpToDate 3 none flX0 plX0 knX0 [(122, 3, TR_ as_G_X0_fillReasons (rmV_) pre_G_X0_fillReasons post_G_X0_fillReasons), (130, 2, TR_ as_G_X0_fillFighters (rmV_) pre_G_X0_fillFighters post_G_X0_fillFighters), (95, 2, TR_ as_G_J7_fill_031fb (rmV_) pre_G_J7_fill_031fb post_G_J7_fill_031fb), (114, 3, TR_ as_G_X0_fillDates (rmV_) pre_G_X0_fillDates post_G_X0_fillDates)] _ _ none kX0_bringUpToDate [7, 34, 42, 70, 72, 80, 92] flX0_ok plX0_ok knX0_ok eX0_bringUpToDate oX0_bringUpToDate
    (List.forall_mem_cons.mpr ⟨cok_v (t := 15) (c := 0) (N := 9) (n := 2) (idx := 61) E (ct_G_X0_fillReasons X.2.1) (by rw [hR]; decide) (Nat.zero_le _) (Nat.zero_le _) hG rfl rfl ⟨rfl, by decide, by decide, by decide⟩ (fun _ => ⟨_, _, rfl, rfl⟩) wl_X0_61 wi_X0_fillReasons ws_X0_fillReasons wn_X0 wc_X0_fillReasons, List.forall_mem_cons.mpr ⟨cok_v (t := 15) (c := 0) (N := 9) (n := 1) (idx := 65) E (ct_G_X0_fillFighters X.2.1) (by rw [hR]; decide) (Nat.zero_le _) (Nat.zero_le _) hG rfl rfl ⟨rfl, by decide, by decide, by decide⟩ (fun _ => ⟨_, _, rfl, rfl⟩) wl_X0_65 wi_X0_fillFighters ws_X0_fillFighters wn_X0 wc_X0_fillFighters, List.forall_mem_cons.mpr ⟨cok_s (n := 2) (idx := 47) E (ct_G_J7_fill_031fb X.2.1) (by rw [hR]; decide) (Nat.zero_le _) (Nat.zero_le _) hG ⟨by decide, by decide, by decide⟩ (fun _ => rfl) wl_X0_47 wt_J7_fill_031fb wn_J7 wc_J7_fill_031fb, List.forall_mem_cons.mpr ⟨cok_v (t := 15) (c := 0) (N := 9) (n := 2) (idx := 57) E (ct_G_X0_fillDates X.2.1) (by rw [hR]; decide) (Nat.zero_le _) (Nat.zero_le _) hG rfl rfl ⟨rfl, by decide, by decide, by decide⟩ (fun _ => ⟨_, _, rfl, rfl⟩) wl_X0_57 wi_X0_fillDates ws_X0_fillDates wn_X0 wc_X0_fillDates, fun _ h => absurd h List.not_mem_nil⟩⟩⟩⟩) R sok_no E
  show WP_ X G Q 0 0 ad SHS_ σ 0 [(25, 30), (15, a1), (9, 0)] []
  have n31 : a1 ≤ 16 ∨ 45 ≤ a1 := by unfold isWar_ at k_a1; omega
  refine B rfl ?_
  intro z1 ez1 hz1
  have hz1 : (0 : Int) ≤ z1 ∧ z1 ≤ (1 : Int) := hz1
  refine And.intro (fun h2 => ?_) (fun h2 => ?_)
  · skip
    refine B rfl ?_
    intro z3 ez3 hz3
    have hz3 : ((-2147483648) : Int) ≤ z3 ∧ z3 ≤ (2147483647 : Int) := rgl_ hz3 (by decide +kernel) (by decide +kernel) (by decide +kernel)
    refine And.intro (fun h4 => ?_) (fun h4 => ?_)
    · skip
      refine B rfl ?_
      refine Exists.intro 0 (And.intro rfl ?_)
      exact (And.intro hp1 (fun k j hk => rfl))
    · skip
      show WP_ X G Q 0 0 ad SHS_ σ 70 [(25, 30), (15, a1), (9, 0)] []
      refine B rfl ?_
      have lp_72 : ∀ (nq_ : Nat) (v2 : Int) (τ72 : Me_t), (∀ k j : Int, ¬ (30 ≤ k ∧ k ≤ 33) → τ72 k j = σ k j) → (0 ≤ v2) → (v2 ≤ 3) → (DT τ72) → (3 - v2 : Int).toNat < nq_ → WP_ X G Q 0 0 ad SHS_ τ72 72 [(25, 30), (15, a1), (0, v2)] [] := by
        intro nq_
        induction nq_ with
        | zero => intros; omega
        | succ nq_ ih_72 =>
          intro v2 τ72 hf72 hi72_0 hi72_1 hi72_2 hm72
          refine B rfl ?_
          intro z5 ez5 hz5
          have hz5 : (0 : Int) ≤ z5 ∧ z5 ≤ (3 : Int) := hz5
          try have t6 : τ72 a1 2 = σ a1 2 := (hf72 _ _ (by omega))
          refine And.intro (fun h7 => ?_) (fun h7 => ?_)
          · skip
            refine B rfl ?_
            intro σ8 e9
            refine Exists.intro 0 (And.intro rfl ?_)
            have p10 : DT σ8 := DT_fr hi72_2 (fun k j hk => (ups_r e9 (by omega)))
            exact (And.intro p10 (fun k j hk => ((ups_r e9 (by omega)).trans (hf72 _ _ (by omega)))))
          · skip
            show WP_ X G Q 0 0 ad SHS_ τ72 80 [(25, 30), (15, a1), (0, v2)] []
            refine B rfl ?_
            intro z11 ez11 hz11
            have hz11 : ((-2147483648) : Int) ≤ z11 ∧ z11 ≤ (2147483647 : Int) := rgl_ hz11 (by decide +kernel) (by decide +kernel) (by decide +kernel)
            try have t12 : τ72 30 4 = σ 30 4 := (hf72 _ _ (by omega))
            have q13 := and3_r (x := shr3_ z11 v2) (c := 1) (by omega) (by omega)
            refine And.intro (fun h14 => ?_) (fun h14 => ?_)
            · skip
              refine B rfl ?_
              refine And.intro (by omega) ?_
              exact ih_72 (v2 + 1) τ72 (fun k j hk => (hf72 _ _ (by omega))) (by show 0 ≤ (v2 + 1); omega) (by show (v2 + 1) ≤ 3; omega) hi72_2 (by omega)
            · skip
              show WP_ X G Q 0 0 ad SHS_ τ72 92 [(25, 30), (15, a1), (0, v2)] []
              refine B rfl ?_
              refine Exists.intro (a1, v2) (And.intro rfl (And.intro (And.intro (by show 0 ≤ v2; omega) (by show v2 ≤ 2; omega)) ?_))
              intro z15 σ17 h16
              have f18 : ∀ k j : Int, ¬ (k = 32) → σ17 k j = τ72 k j := h16
              refine Exists.intro v2 (And.intro rfl (And.intro (And.intro (by show 0 ≤ v2; omega) (by show v2 ≤ 2; omega)) ?_))
              intro z19 σ21 h20
              have f22 : ∀ k j : Int, ¬ (k = 33) → σ21 k j = σ17 k j := h20
              refine And.intro (by omega) ?_
              have p23 : DT σ21 := DT_fr hi72_2 (fun k j hk => ((f22 _ _ (by omega)).trans (f18 _ _ (by omega))))
              exact ih_72 (v2 + 1) σ21 (fun k j hk => ((f22 _ _ (by omega)).trans ((f18 _ _ (by omega)).trans (hf72 _ _ (by omega))))) (by show 0 ≤ (v2 + 1); omega) (by show (v2 + 1) ≤ 3; omega) p23 (by omega)
      exact lp_72 ((3 - 0 : Int).toNat + 1) 0 σ (fun k j hk => rfl) (by show 0 ≤ 0; omega) (by show 0 ≤ 3; omega) hp1 (by omega)
  · skip
    show WP_ X G Q 0 0 ad SHS_ σ 7 [(25, 30), (15, a1), (9, 0)] []
    refine B rfl ?_
    refine And.intro (by omega) ?_
    intro σ24 e25
    intro z26 ez26 hz26
    have hz26 : (0 : Int) ≤ z26 ∧ z26 ≤ (3 : Int) := hz26
    try have t27 : σ24 a1 2 = σ a1 2 := (ups_r e25 (by omega))
    try have q28 := shl3_1 (b := z26) (by omega) (by omega)
    try have q29 := shl3_b (b := z26) (by omega) (by omega)
    refine And.intro (by omega) ?_
    intro σ30 e31
    refine Exists.intro 0 (And.intro rfl (And.intro (And.intro (by show -128 ≤ 0; omega) (by show 0 ≤ 127; omega)) ?_))
    intro z32 σ34 h33
    have f35 : ∀ k j : Int, ¬ (k = 33) → σ34 k j = σ30 k j := h33
    have lp_34 : ∀ (nq_ : Nat) (v2 : Int) (τ34 : Me_t), (∀ k j : Int, ¬ (30 ≤ k ∧ k ≤ 33) → τ34 k j = σ k j) → (0 ≤ v2) → (v2 ≤ 3) → (DT τ34) → (3 - v2 : Int).toNat < nq_ → WP_ X G Q 0 0 ad SHS_ τ34 34 [(25, 30), (15, a1), (0, v2)] [] := by
      intro nq_
      induction nq_ with
      | zero => intros; omega
      | succ nq_ ih_34 =>
        intro v2 τ34 hf34 hi34_0 hi34_1 hi34_2 hm34
        refine B rfl ?_
        intro z36 ez36 hz36
        have hz36 : (0 : Int) ≤ z36 ∧ z36 ≤ (3 : Int) := hz36
        try have t37 : τ34 a1 2 = σ a1 2 := (hf34 _ _ (by omega))
        refine And.intro (fun h38 => ?_) (fun h38 => ?_)
        · skip
          refine B rfl ?_
          intro z39 ez39 hz39
          have hz39 : ((-2147483648) : Int) ≤ z39 ∧ z39 ≤ (2147483647 : Int) := rgl_ hz39 (by decide +kernel) (by decide +kernel) (by decide +kernel)
          try have t40 : τ34 30 4 = σ 30 4 := (hf34 _ _ (by omega))
          refine And.intro (fun h41 => ?_) (fun h41 => ?_)
          · skip
            refine B rfl ?_
            refine Exists.intro 0 (And.intro rfl ?_)
            exact (And.intro hi34_2 (fun k j hk => (hf34 _ _ (by omega))))
          · skip
            show WP_ X G Q 0 0 ad SHS_ τ34 70 [(25, 30), (15, a1), (0, v2)] []
            refine B rfl ?_
            have lp_72 : ∀ (nq_ : Nat) (v2_1 : Int) (τ72_2 : Me_t), (∀ k j : Int, ¬ (30 ≤ k ∧ k ≤ 33) → τ72_2 k j = σ k j) → (0 ≤ v2_1) → (v2_1 ≤ 3) → (DT τ72_2) → (3 - v2_1 : Int).toNat < nq_ → WP_ X G Q 0 0 ad SHS_ τ72_2 72 [(25, 30), (15, a1), (0, v2_1)] [] := by
              intro nq_
              induction nq_ with
              | zero => intros; omega
              | succ nq_ ih_72 =>
                intro v2_1 τ72_2 hf72 hi72_0 hi72_1 hi72_2 hm72
                refine B rfl ?_
                intro z42 ez42 hz42
                have hz42 : (0 : Int) ≤ z42 ∧ z42 ≤ (3 : Int) := hz42
                try have t43 : τ72_2 a1 2 = σ a1 2 := (hf72 _ _ (by omega))
                refine And.intro (fun h44 => ?_) (fun h44 => ?_)
                · skip
                  refine B rfl ?_
                  intro σ45 e46
                  refine Exists.intro 0 (And.intro rfl ?_)
                  have p47 : DT σ45 := DT_fr hi72_2 (fun k j hk => (ups_r e46 (by omega)))
                  exact (And.intro p47 (fun k j hk => ((ups_r e46 (by omega)).trans (hf72 _ _ (by omega)))))
                · skip
                  show WP_ X G Q 0 0 ad SHS_ τ72_2 80 [(25, 30), (15, a1), (0, v2_1)] []
                  refine B rfl ?_
                  intro z48 ez48 hz48
                  have hz48 : ((-2147483648) : Int) ≤ z48 ∧ z48 ≤ (2147483647 : Int) := rgl_ hz48 (by decide +kernel) (by decide +kernel) (by decide +kernel)
                  try have t49 : τ72_2 30 4 = σ 30 4 := (hf72 _ _ (by omega))
                  have q50 := and3_r (x := shr3_ z48 v2_1) (c := 1) (by omega) (by omega)
                  refine And.intro (fun h51 => ?_) (fun h51 => ?_)
                  · skip
                    refine B rfl ?_
                    refine And.intro (by omega) ?_
                    exact ih_72 (v2_1 + 1) τ72_2 (fun k j hk => (hf72 _ _ (by omega))) (by show 0 ≤ (v2_1 + 1); omega) (by show (v2_1 + 1) ≤ 3; omega) hi72_2 (by omega)
                  · skip
                    show WP_ X G Q 0 0 ad SHS_ τ72_2 92 [(25, 30), (15, a1), (0, v2_1)] []
                    refine B rfl ?_
                    refine Exists.intro (a1, v2_1) (And.intro rfl (And.intro (And.intro (by show 0 ≤ v2_1; omega) (by show v2_1 ≤ 2; omega)) ?_))
                    intro z52 σ54 h53
                    have f55 : ∀ k j : Int, ¬ (k = 32) → σ54 k j = τ72_2 k j := h53
                    refine Exists.intro v2_1 (And.intro rfl (And.intro (And.intro (by show 0 ≤ v2_1; omega) (by show v2_1 ≤ 2; omega)) ?_))
                    intro z56 σ58 h57
                    have f59 : ∀ k j : Int, ¬ (k = 33) → σ58 k j = σ54 k j := h57
                    refine And.intro (by omega) ?_
                    have p60 : DT σ58 := DT_fr hi72_2 (fun k j hk => ((f59 _ _ (by omega)).trans (f55 _ _ (by omega))))
                    exact ih_72 (v2_1 + 1) σ58 (fun k j hk => ((f59 _ _ (by omega)).trans ((f55 _ _ (by omega)).trans (hf72 _ _ (by omega))))) (by show 0 ≤ (v2_1 + 1); omega) (by show (v2_1 + 1) ≤ 3; omega) p60 (by omega)
            exact lp_72 ((3 - 0 : Int).toNat + 1) 0 τ34 (fun k j hk => (hf34 _ _ (by omega))) (by show 0 ≤ 0; omega) (by show 0 ≤ 3; omega) hi34_2 (by omega)
        · skip
          show WP_ X G Q 0 0 ad SHS_ τ34 42 [(25, 30), (15, a1), (0, v2)] []
          refine B rfl ?_
          refine And.intro (by omega) ?_
          refine And.intro (by omega) ?_
          have p61 : LG τ34 a1 := LG_fr hp0 (fun k j hk => (hf34 _ _ (by omega)))
          have hs := p61 v2 (by omega) (by omega) (by omega)
          try have t62 : τ34 ((a1 + 1) + 4 + 2 * v2) 3 = σ ((a1 + 1) + 4 + 2 * v2) 3 := (hf34 _ _ (by omega))
          try have t63 : τ34 ((a1 + 1) + 4 + 2 * v2) 1 = σ ((a1 + 1) + 4 + 2 * v2) 1 := (hf34 _ _ (by omega))
          refine Exists.intro ((a1 + 1) + 4 + 2 * v2, v2 * 2000) (And.intro rfl (And.intro (And.intro hi34_2 (And.intro (by show 1 ≤ τ34 ((a1 + 1) + 4 + 2 * v2) 3; omega) (And.intro (by show 2 ≤ τ34 ((a1 + 1) + 4 + 2 * v2) 1; omega) (And.intro (by show 0 ≤ (v2 * 2000); omega) (by show (v2 * 2000) ≤ 4000; omega))))) ?_))
          intro z64 σ66 h65
          have f67 : ∀ k j : Int, ¬ (k = 31) → σ66 k j = τ34 k j := h65.2
          have h68 : DT σ66 := h65.1
          refine And.intro (by omega) ?_
          exact ih_34 (v2 + 1) σ66 (fun k j hk => ((f67 _ _ (by omega)).trans (hf34 _ _ (by omega)))) (by show 0 ≤ (v2 + 1); omega) (by show (v2 + 1) ≤ 3; omega) h68 (by omega)
    have p69 : DT σ34 := DT_fr hp1 (fun k j hk => ((f35 _ _ (by omega)).trans ((ups_r e31 (by omega)).trans (ups_r e25 (by omega)))))
    exact lp_34 ((3 - 0 : Int).toNat + 1) 0 σ34 (fun k j hk => ((f35 _ _ (by omega)).trans ((ups_r e31 (by omega)).trans (ups_r e25 (by omega))))) (by show 0 ≤ 0; omega) (by show 0 ≤ 3; omega) p69 (by omega)
def as_G_X0_reason : Int × Int → List Sv_t := fun a => [(25, 30), (0, a.1), (0, a.2)]
def pre_G_X0_reason : Int × Int → Me_t → Prop := fun a σ => (0 ≤ a.1) ∧ (a.1 ≤ 2) ∧ (0 ≤ a.2) ∧ (a.2 ≤ 1999)
def post_G_X0_reason : Int × Int → Me_t → Int → Me_t → Prop := fun a σ z σ' => (σ = σ')
set_option maxHeartbeats 1500000 in
set_option maxRecDepth 100000 in
theorem ct_G_X0_reason (l : Launch) : CT_ l yX0_reason cX0_reason 3 (some .int) 0 0 as_G_X0_reason (rmI_) pre_G_X0_reason post_G_X0_reason := by
  refine ct_of (by decide) (fun _ => Nat.le_of_ble_eq_true rfl) ?_
  intro X G Q ad σ a hl hR E hG R hM hv hp
  obtain ⟨a1, a2⟩ := a
  have r_a1 : -2147483648 ≤ a1 ∧ a1 ≤ 2147483647 := hv (0, a1) (List.mem_of_getElem? (i := 1) rfl)
  have r_a2 : -2147483648 ≤ a2 ∧ a2 ≤ 2147483647 := hv (0, a2) (List.mem_of_getElem? (i := 2) rfl)
  have hp0 : 0 ≤ a1 := hp.1
  have hp1 : a1 ≤ 2 := hp.2.1
  have hp2 : 0 ≤ a2 := hp.2.2.1
  have hp3 : a2 ≤ 1999 := hp.2.2.2
  have B := @bk_ X G Q 0 0 ad SHS_ RX0 cX0_reason 3 (some .int) flX0 plX0 knX0 [] _ _ none kX0_reason [] flX0_ok plX0_ok knX0_ok eX0_reason oX0_reason
    (fun _ h => absurd h List.not_mem_nil) R sok_no E
  show WP_ X G Q 0 0 ad SHS_ σ 0 [(25, 30), (0, a1), (0, a2)] []
  refine B rfl ?_
  refine And.intro (by omega) ?_
  refine And.intro (by omega) ?_
  refine And.intro (by omega) ?_
  intro z1 ez1 hz1
  have hz1 : ((-128) : Int) ≤ z1 ∧ z1 ≤ (127 : Int) := hz1
  refine Exists.intro _ (And.intro rfl ?_)
  exact rfl
def as_G_X0_part : Int × Int × Int → List Sv_t := fun a => [(25, 30), (0, a.1), (0, a.2.1), (0, a.2.2)]
def pre_G_X0_part : Int × Int × Int → Me_t → Prop := fun a σ => (DT σ) ∧ (0 ≤ a.2.1) ∧ (a.2.1 ≤ 1999) ∧ (a.2.2 = 4 ∨ (0 ≤ a.1 ∧ a.1 ≤ 2))
def post_G_X0_part : Int × Int × Int → Me_t → Int → Me_t → Prop := fun a σ z σ' => (-1 ≤ z ∧ z ≤ 200000) ∧ (a.2.2 = 4 → 0 ≤ z ∧ z ≤ 1) ∧ (a.2.2 = 1 → z ≤ 7) ∧ (a.2.2 = 3 → z ≤ 10) ∧ (σ = σ')
set_option maxHeartbeats 1500000 in
set_option maxRecDepth 100000 in
theorem ct_G_X0_part (l : Launch) : CT_ l yX0_part cX0_part 5 (some .int) 0 0 as_G_X0_part (rmI_) pre_G_X0_part post_G_X0_part := by
  refine ct_of (by decide) (fun _ => Nat.le_of_ble_eq_true rfl) ?_
  intro X G Q ad σ a hl hR E hG R hM hv hp
  obtain ⟨a1, a2, a3⟩ := a
  have r_a1 : -2147483648 ≤ a1 ∧ a1 ≤ 2147483647 := hv (0, a1) (List.mem_of_getElem? (i := 1) rfl)
  have r_a2 : -2147483648 ≤ a2 ∧ a2 ≤ 2147483647 := hv (0, a2) (List.mem_of_getElem? (i := 2) rfl)
  have r_a3 : -2147483648 ≤ a3 ∧ a3 ≤ 2147483647 := hv (0, a3) (List.mem_of_getElem? (i := 3) rfl)
  have hp0 : DT σ := hp.1
  have hp1 : 0 ≤ a2 := hp.2.1
  have hp2 : a2 ≤ 1999 := hp.2.2.1
  have hp3 : a3 = 4 ∨ (0 ≤ a1 ∧ a1 ≤ 2) := hp.2.2.2
  have B := @bk_ X G Q 0 0 ad SHS_ RX0 cX0_part 5 (some .int) flX0 plX0 knX0 [] _ _ none kX0_part [5, 36] flX0_ok plX0_ok knX0_ok eX0_part oX0_part
    (fun _ h => absurd h List.not_mem_nil) R sok_no E
  show WP_ X G Q 0 0 ad SHS_ σ 0 [(25, 30), (0, a1), (0, a2), (0, a3), (9, 0)] []
  refine B rfl ?_
  refine And.intro (fun h1 => ?_) (fun h1 => ?_)
  · skip
    refine B rfl ?_
    refine And.intro (by omega) ?_
    refine And.intro (by omega) ?_
    refine And.intro (by omega) ?_
    intro z2 ez2 hz2
    have hz2 : ((-1) : Int) ≤ z2 ∧ z2 ≤ (2147483647 : Int) := rgl_ hz2 (by decide +kernel) (by decide +kernel) (by decide +kernel)
    have hd := hp0 (a1 * 2000 + a2) (by omega) (by omega)
    refine And.intro (fun h3 => ?_) (fun h3 => ?_)
    · skip
      refine B rfl ?_
      refine And.intro (fun h4 => ?_) ?_
      · skip
        refine B rfl ?_
        have h15 := and3_15 (x := z2) (by omega) (by omega)
        have q5 := and3_r (x := z2) (c := 15) (by omega) (by omega)
        refine Exists.intro _ (And.intro rfl ?_)
        exact (And.intro (by show -1 ≤ (and3_ z2 15) ∧ (and3_ z2 15) ≤ 200000; omega) (And.intro (by show a3 = 4 → 0 ≤ (and3_ z2 15) ∧ (and3_ z2 15) ≤ 1; omega) (And.intro (by show a3 = 1 → (and3_ z2 15) ≤ 7; omega) (And.intro (by show a3 = 3 → (and3_ z2 15) ≤ 10; omega) rfl))))
      refine And.intro (fun h4 => ?_) ?_
      · skip
        refine B rfl ?_
        try have q6 : shr3_ z2 14 = z2 / 16384 := shr3_n 14 (by omega) (by omega)
        refine Exists.intro _ (And.intro rfl ?_)
        exact (And.intro (by show -1 ≤ (shr3_ z2 14) ∧ (shr3_ z2 14) ≤ 200000; omega) (And.intro (by show a3 = 4 → 0 ≤ (shr3_ z2 14) ∧ (shr3_ z2 14) ≤ 1; omega) (And.intro (by show a3 = 1 → (shr3_ z2 14) ≤ 7; omega) (And.intro (by show a3 = 3 → (shr3_ z2 14) ≤ 10; omega) rfl))))
      refine And.intro (fun h4 => ?_) ?_
      · skip
        refine B rfl ?_
        try have q7 : shr3_ z2 11 = z2 / 2048 := shr3_n 11 (by omega) (by omega)
        have q8 := and3_r (x := shr3_ z2 11) (c := 7) (by omega) (by omega)
        refine Exists.intro _ (And.intro rfl ?_)
        exact (And.intro (by show -1 ≤ (and3_ (shr3_ z2 11) 7) ∧ (and3_ (shr3_ z2 11) 7) ≤ 200000; omega) (And.intro (by show a3 = 4 → 0 ≤ (and3_ (shr3_ z2 11) 7) ∧ (and3_ (shr3_ z2 11) 7) ≤ 1; omega) (And.intro (by show a3 = 1 → (and3_ (shr3_ z2 11) 7) ≤ 7; omega) (And.intro (by show a3 = 3 → (and3_ (shr3_ z2 11) 7) ≤ 10; omega) rfl))))
      refine And.intro (fun h4 => ?_) ?_
      · skip
        refine B rfl ?_
        try have q9 : shr3_ z2 4 = z2 / 16 := shr3_n 4 (by omega) (by omega)
        have q10 := and3_r (x := shr3_ z2 4) (c := 127) (by omega) (by omega)
        refine Exists.intro _ (And.intro rfl ?_)
        exact (And.intro (by show -1 ≤ (and3_ (shr3_ z2 4) 127) ∧ (and3_ (shr3_ z2 4) 127) ≤ 200000; omega) (And.intro (by show a3 = 4 → 0 ≤ (and3_ (shr3_ z2 4) 127) ∧ (and3_ (shr3_ z2 4) 127) ≤ 1; omega) (And.intro (by show a3 = 1 → (and3_ (shr3_ z2 4) 127) ≤ 7; omega) (And.intro (by show a3 = 3 → (and3_ (shr3_ z2 4) 127) ≤ 10; omega) rfl))))
      exact True.intro
    · skip
      show WP_ X G Q 0 0 ad SHS_ σ 36 [(25, 30), (0, a1), (0, a2), (0, a3), (0, z2)] []
      refine B rfl ?_
      refine Exists.intro _ (And.intro rfl ?_)
      exact (And.intro (by show -1 ≤ (-1) ∧ (-1) ≤ 200000; omega) (And.intro (by show a3 = 4 → 0 ≤ (-1) ∧ (-1) ≤ 1; omega) (And.intro (by show a3 = 1 → (-1) ≤ 7; omega) (And.intro (by show a3 = 3 → (-1) ≤ 10; omega) rfl))))
  · skip
    show WP_ X G Q 0 0 ad SHS_ σ 5 [(25, 30), (0, a1), (0, a2), (0, a3), (9, 0)] []
    refine B rfl ?_
    refine And.intro (by omega) ?_
    intro z11 ez11 hz11
    have hz11 : ((-128) : Int) ≤ z11 ∧ z11 ≤ (127 : Int) := hz11
    have q12 := and3_r (x := shr3_ z11 a1) (c := 1) (by omega) (by omega)
    refine Exists.intro _ (And.intro rfl ?_)
    exact (And.intro (by show -1 ≤ (and3_ (shr3_ z11 a1) 1) ∧ (and3_ (shr3_ z11 a1) 1) ≤ 200000; omega) (And.intro (by show a3 = 4 → 0 ≤ (and3_ (shr3_ z11 a1) 1) ∧ (and3_ (shr3_ z11 a1) 1) ≤ 1; omega) (And.intro (by show a3 = 1 → (and3_ (shr3_ z11 a1) 1) ≤ 7; omega) (And.intro (by show a3 = 3 → (and3_ (shr3_ z11 a1) 1) ≤ 10; omega) rfl))))
def as_G_X0_monthDay : Int × Int → List Sv_t := fun a => [(25, 30), (0, a.1), (0, a.2)]
def pre_G_X0_monthDay : Int × Int → Me_t → Prop := fun a σ => (0 ≤ a.1) ∧ (a.1 ≤ 2) ∧ (0 ≤ a.2) ∧ (a.2 ≤ 1999)
def post_G_X0_monthDay : Int × Int → Me_t → Int → Me_t → Prop := fun a σ z σ' => (-1 ≤ z ∧ z ≤ 1023) ∧ (σ = σ')
set_option maxHeartbeats 1500000 in
set_option maxRecDepth 100000 in
theorem ct_G_X0_monthDay (l : Launch) : CT_ l yX0_monthDay cX0_monthDay 4 (some .int) 0 0 as_G_X0_monthDay (rmI_) pre_G_X0_monthDay post_G_X0_monthDay := by
  refine ct_of (by decide) (fun _ => Nat.le_of_ble_eq_true rfl) ?_
  intro X G Q ad σ a hl hR E hG R hM hv hp
  obtain ⟨a1, a2⟩ := a
  have r_a1 : -2147483648 ≤ a1 ∧ a1 ≤ 2147483647 := hv (0, a1) (List.mem_of_getElem? (i := 1) rfl)
  have r_a2 : -2147483648 ≤ a2 ∧ a2 ≤ 2147483647 := hv (0, a2) (List.mem_of_getElem? (i := 2) rfl)
  have hp0 : 0 ≤ a1 := hp.1
  have hp1 : a1 ≤ 2 := hp.2.1
  have hp2 : 0 ≤ a2 := hp.2.2.1
  have hp3 : a2 ≤ 1999 := hp.2.2.2
  have B := @bk_ X G Q 0 0 ad SHS_ RX0 cX0_monthDay 4 (some .int) flX0 plX0 knX0 [] _ _ none kX0_monthDay [] flX0_ok plX0_ok knX0_ok eX0_monthDay oX0_monthDay
    (fun _ h => absurd h List.not_mem_nil) R sok_no E
  show WP_ X G Q 0 0 ad SHS_ σ 0 [(25, 30), (0, a1), (0, a2), (9, 0)] []
  refine B rfl ?_
  refine And.intro (by omega) ?_
  refine And.intro (by omega) ?_
  refine And.intro (by omega) ?_
  intro z1 ez1 hz1
  have hz1 : ((-1) : Int) ≤ z1 ∧ z1 ≤ (2147483647 : Int) := rgl_ hz1 (by decide +kernel) (by decide +kernel) (by decide +kernel)
  refine And.intro (fun h2 => ?_) (fun h2 => ?_)
  · skip
    refine B rfl ?_
    try have q3 : shr3_ z1 4 = z1 / 16 := shr3_n 4 (by omega) (by omega)
    have q4 := and3_r (x := shr3_ z1 4) (c := 1023) (by omega) (by omega)
    refine Exists.intro _ (And.intro rfl ?_)
    exact (And.intro (by show -1 ≤ (and3_ (shr3_ z1 4) 1023) ∧ (and3_ (shr3_ z1 4) 1023) ≤ 1023; omega) rfl)
  · skip
    refine B rfl ?_
    refine Exists.intro _ (And.intro rfl ?_)
    exact (And.intro (by show -1 ≤ (-1) ∧ (-1) ≤ 1023; omega) rfl)
def as_G_X0_allFight : Int × Int → List Sv_t := fun a => [(25, 30), (0, a.1), (0, a.2)]
def pre_G_X0_allFight : Int × Int → Me_t → Prop := fun a σ => (0 ≤ a.2) ∧ (a.2 ≤ 1999)
def post_G_X0_allFight : Int × Int → Me_t → Int → Me_t → Prop := fun a σ z σ' => (0 ≤ z ∧ z ≤ 1) ∧ (σ = σ')
set_option maxHeartbeats 1500000 in
set_option maxRecDepth 100000 in
theorem ct_G_X0_allFight (l : Launch) : CT_ l yX0_allFight cX0_allFight 3 (some .boolean) 0 0 as_G_X0_allFight (rmI_) pre_G_X0_allFight post_G_X0_allFight := by
  refine ct_of (by decide) (fun _ => Nat.le_of_ble_eq_true rfl) ?_
  intro X G Q ad σ a hl hR E hG R hM hv hp
  obtain ⟨a1, a2⟩ := a
  have r_a1 : -2147483648 ≤ a1 ∧ a1 ≤ 2147483647 := hv (0, a1) (List.mem_of_getElem? (i := 1) rfl)
  have r_a2 : -2147483648 ≤ a2 ∧ a2 ≤ 2147483647 := hv (0, a2) (List.mem_of_getElem? (i := 2) rfl)
  have hp0 : 0 ≤ a2 := hp.1
  have hp1 : a2 ≤ 1999 := hp.2
  have B := @bk_ X G Q 0 0 ad SHS_ RX0 cX0_allFight 3 (some .boolean) flX0 plX0 knX0 [] _ _ none kX0_allFight [] flX0_ok plX0_ok knX0_ok eX0_allFight oX0_allFight
    (fun _ h => absurd h List.not_mem_nil) R sok_no E
  show WP_ X G Q 0 0 ad SHS_ σ 0 [(25, 30), (0, a1), (0, a2)] []
  refine B rfl ?_
  refine And.intro (by omega) ?_
  intro z1 ez1 hz1
  have hz1 : ((-128) : Int) ≤ z1 ∧ z1 ≤ (127 : Int) := hz1
  refine And.intro (fun h2 => ?_) (fun h2 => ?_)
  · skip
    refine B rfl ?_
    refine And.intro (by omega) ?_
    refine Exists.intro _ (And.intro rfl ?_)
    exact (And.intro (by show 0 ≤ 0 ∧ 0 ≤ 1; omega) rfl)
  · skip
    refine B rfl ?_
    refine And.intro (by omega) ?_
    refine Exists.intro _ (And.intro rfl ?_)
    exact (And.intro (by show 0 ≤ 1 ∧ 1 ≤ 1; omega) rfl)
def as_G_X0_fightingDays : Int × Int × Int → List Sv_t := fun a => [(25, 30), (0, a.1), (0, a.2.1), (0, a.2.2)]
def pre_G_X0_fightingDays : Int × Int × Int → Me_t → Prop := fun a σ => (0 ≤ a.2.1) ∧ (a.2.1 ≤ a.2.2 + 1) ∧ (a.2.2 ≤ 1999)
def post_G_X0_fightingDays : Int × Int × Int → Me_t → Int → Me_t → Prop := fun a σ z σ' => (0 ≤ z ∧ z ≤ 2000) ∧ (σ = σ')
set_option maxHeartbeats 1500000 in
set_option maxRecDepth 100000 in
theorem ct_G_X0_fightingDays (l : Launch) : CT_ l yX0_fightingDays cX0_fightingDays 6 (some .int) 1 22 as_G_X0_fightingDays (rmI_) pre_G_X0_fightingDays post_G_X0_fightingDays := by
  refine ct_of (by decide) (fun _ => Nat.le_of_ble_eq_true rfl) ?_
  intro X G Q ad σ a hl hR E hG R hM hv hp
  obtain ⟨a1, a2, a3⟩ := a
  have r_a1 : -2147483648 ≤ a1 ∧ a1 ≤ 2147483647 := hv (0, a1) (List.mem_of_getElem? (i := 1) rfl)
  have r_a2 : -2147483648 ≤ a2 ∧ a2 ≤ 2147483647 := hv (0, a2) (List.mem_of_getElem? (i := 2) rfl)
  have r_a3 : -2147483648 ≤ a3 ∧ a3 ≤ 2147483647 := hv (0, a3) (List.mem_of_getElem? (i := 3) rfl)
  have hp0 : 0 ≤ a2 := hp.1
  have hp1 : a2 ≤ a3 + 1 := hp.2.1
  have hp2 : a3 ≤ 1999 := hp.2.2
  have B := @bk_ X G Q 0 0 ad SHS_ RX0 cX0_fightingDays 6 (some .int) flX0 plX0 knX0 [(222, 3, TR_ as_G_X0_allFight (rmI_) pre_G_X0_allFight post_G_X0_allFight)] _ _ none kX0_fightingDays [6] flX0_ok plX0_ok knX0_ok eX0_fightingDays oX0_fightingDays
    (List.forall_mem_cons.mpr ⟨cok_v (t := 15) (c := 0) (N := 9) (n := 2) (idx := 111) E (ct_G_X0_allFight X.2.1) (by rw [hR]; decide) (Nat.zero_le _) (Nat.zero_le _) hG rfl rfl ⟨rfl, by decide, by decide, by decide⟩ (fun _ => ⟨_, _, rfl, rfl⟩) wl_X0_111 wi_X0_allFight ws_X0_allFight wn_X0 wc_X0_allFight, fun _ h => absurd h List.not_mem_nil⟩) R sok_no E
  show WP_ X G Q 0 0 ad SHS_ σ 0 [(25, 30), (0, a1), (0, a2), (0, a3), (9, 0), (9, 0)] []
  refine B rfl ?_
  show WP_ X G Q 0 0 ad SHS_ σ 6 [(25, 30), (0, a1), (0, a2), (0, a3), (0, 0), (0, a2)] []
  refine wdrop_ (L' := [(25, 30), (0, a1), (9, 0), (0, a3), (0, 0), (0, a2)]) ⟨Or.inr rfl, ⟨Or.inr rfl, ⟨Or.inl rfl, ⟨Or.inr rfl, ⟨Or.inr rfl, ⟨Or.inr rfl, trivial⟩⟩⟩⟩⟩⟩ ?_
  have lp_6 : ∀ (nq_ : Nat) (v4 : Int) (v5 : Int), (a2 ≤ v5) → (v5 ≤ a3 + 1) → (0 ≤ v4) → (v4 ≤ v5 - a2) → (a3 + 1 - v5 : Int).toNat < nq_ → WP_ X G Q 0 0 ad SHS_ σ 6 [(25, 30), (0, a1), (9, 0), (0, a3), (0, v4), (0, v5)] [] := by
    intro nq_
    induction nq_ with
    | zero => intros; omega
    | succ nq_ ih_6 =>
      intro v4 v5 hi6_0 hi6_1 hi6_2 hi6_3 hm6
      refine B rfl ?_
      refine And.intro (fun h1 => ?_) (fun h1 => ?_)
      · skip
        refine B rfl ?_
        refine Exists.intro _ (And.intro rfl ?_)
        exact (And.intro (by show 0 ≤ v4 ∧ v4 ≤ 2000; omega) rfl)
      · skip
        refine Exists.intro (a1, v5) (And.intro rfl (And.intro (And.intro (by show 0 ≤ v5; omega) (by show v5 ≤ 1999; omega)) ?_))
        rintro z2 m_ h3
        obtain rfl : σ = m_ := h3.2
        have h4 : 0 ≤ z2 ∧ z2 ≤ 1 := h3.1
        refine And.intro (fun h5 => ?_) (fun h5 => ?_)
        · skip
          refine B rfl ?_
          refine And.intro (by omega) ?_
          exact ih_6 v4 (v5 + 1) (by show a2 ≤ (v5 + 1); omega) (by show (v5 + 1) ≤ a3 + 1; omega) (by show 0 ≤ v4; omega) (by show v4 ≤ (v5 + 1) - a2; omega) (by omega)
        · skip
          refine And.intro (by omega) ?_
          refine And.intro (by omega) ?_
          exact ih_6 (v4 + 1) (v5 + 1) (by show a2 ≤ (v5 + 1); omega) (by show (v5 + 1) ≤ a3 + 1; omega) (by show 0 ≤ (v4 + 1); omega) (by show (v4 + 1) ≤ (v5 + 1) - a2; omega) (by omega)
  exact lp_6 ((a3 + 1 - a2 : Int).toNat + 1) 0 a2 (by show a2 ≤ a2; omega) (by show a2 ≤ a3 + 1; omega) (by show 0 ≤ 0; omega) (by show 0 ≤ a2 - a2; omega) (by omega)
def as_G_X0_seekWait : Int × Int × Int × Int → List Sv_t := fun a => [(25, 30), (0, a.1), (0, a.2.1), (0, a.2.2.1), (0, a.2.2.2)]
def pre_G_X0_seekWait : Int × Int × Int × Int → Me_t → Prop := fun a σ => (0 ≤ a.2.1) ∧ (a.2.1 ≤ a.2.2.1 + 1) ∧ (a.2.2.1 ≤ 1999) ∧ (0 ≤ a.2.2.2)
def post_G_X0_seekWait : Int × Int × Int × Int → Me_t → Int → Me_t → Prop := fun a σ z σ' => (∀ k j : Int, ¬ (k = 30) → σ' k j = σ k j)
set_option maxHeartbeats 1500000 in
set_option maxRecDepth 100000 in
theorem ct_G_X0_seekWait (l : Launch) : CT_ l yX0_seekWait cX0_seekWait 8 none 1 22 as_G_X0_seekWait (rmV_) pre_G_X0_seekWait post_G_X0_seekWait := by
  refine ct_of (by decide) (fun _ => Nat.le_of_ble_eq_true rfl) ?_
  intro X G Q ad σ a hl hR E hG R hM hv hp
  obtain ⟨a1, a2, a3, a4⟩ := a
  have r_a1 : -2147483648 ≤ a1 ∧ a1 ≤ 2147483647 := hv (0, a1) (List.mem_of_getElem? (i := 1) rfl)
  have r_a2 : -2147483648 ≤ a2 ∧ a2 ≤ 2147483647 := hv (0, a2) (List.mem_of_getElem? (i := 2) rfl)
  have r_a3 : -2147483648 ≤ a3 ∧ a3 ≤ 2147483647 := hv (0, a3) (List.mem_of_getElem? (i := 3) rfl)
  have r_a4 : -2147483648 ≤ a4 ∧ a4 ≤ 2147483647 := hv (0, a4) (List.mem_of_getElem? (i := 4) rfl)
  have hp0 : 0 ≤ a2 := hp.1
  have hp1 : a2 ≤ a3 + 1 := hp.2.1
  have hp2 : a3 ≤ 1999 := hp.2.2.1
  have hp3 : 0 ≤ a4 := hp.2.2.2
  have B := @bk_ X G Q 0 0 ad SHS_ RX0 cX0_seekWait 8 none flX0 plX0 knX0 [(222, 3, TR_ as_G_X0_allFight (rmI_) pre_G_X0_allFight post_G_X0_allFight)] _ _ none kX0_seekWait [19, 25, 35, 38, 45, 52, 62, 85] flX0_ok plX0_ok knX0_ok eX0_seekWait oX0_seekWait
    (List.forall_mem_cons.mpr ⟨cok_v (t := 15) (c := 0) (N := 9) (n := 2) (idx := 111) E (ct_G_X0_allFight X.2.1) (by rw [hR]; decide) (Nat.zero_le _) (Nat.zero_le _) hG rfl rfl ⟨rfl, by decide, by decide, by decide⟩ (fun _ => ⟨_, _, rfl, rfl⟩) wl_X0_111 wi_X0_allFight ws_X0_allFight wn_X0 wc_X0_allFight, fun _ h => absurd h List.not_mem_nil⟩) R sok_no E
  show WP_ X G Q 0 0 ad SHS_ σ 0 [(25, 30), (0, a1), (0, a2), (0, a3), (0, a4), (9, 0), (9, 0), (9, 0)] []
  refine B rfl ?_
  intro σ1 e2
  intro σ3 e4
  show WP_ X G Q 0 0 ad SHS_ σ3 19 [(25, 30), (0, a1), (0, a2), (0, a3), (0, a4), (0, a2), (0, 0), (0, a2)] []
  refine wdrop_ (L' := [(25, 30), (0, a1), (9, 0), (0, a3), (0, a4), (0, a2), (0, 0), (0, a2)]) ⟨Or.inr rfl, ⟨Or.inr rfl, ⟨Or.inl rfl, ⟨Or.inr rfl, ⟨Or.inr rfl, ⟨Or.inr rfl, ⟨Or.inr rfl, ⟨Or.inr rfl, trivial⟩⟩⟩⟩⟩⟩⟩⟩ ?_
  have lp_19 : ∀ (nq_ : Nat) (v5 : Int) (v6 : Int) (v7 : Int) (τ19 : Me_t), (∀ k j : Int, ¬ (k = 30) → τ19 k j = σ k j) → (a2 ≤ v7) → (v7 ≤ a3 + 1) → (a2 ≤ v5) → (v5 ≤ v7) → (0 ≤ v6) → (v6 ≤ v7 - a2) → (a3 + 1 - v7 : Int).toNat < nq_ → WP_ X G Q 0 0 ad SHS_ τ19 19 [(25, 30), (0, a1), (9, 0), (0, a3), (0, a4), (0, v5), (0, v6), (0, v7)] [] := by
    intro nq_
    induction nq_ with
    | zero => intros; omega
    | succ nq_ ih_19 =>
      intro v5 v6 v7 τ19 hf19 hi19_0 hi19_1 hi19_2 hi19_3 hi19_4 hi19_5 hm19
      refine B rfl ?_
      refine And.intro (fun h5 => ?_) (fun h5 => ?_)
      · skip
        refine B rfl ?_
        refine Exists.intro 0 (And.intro rfl ?_)
        exact (fun k j hk => (hf19 _ _ (by omega)))
      · skip
        show WP_ X G Q 0 0 ad SHS_ τ19 25 [(25, 30), (0, a1), (9, 0), (0, a3), (0, a4), (0, v5), (0, v6), (0, v7)] []
        refine B rfl ?_
        refine Exists.intro (a1, v7) (And.intro rfl (And.intro (And.intro (by show 0 ≤ v7; omega) (by show v7 ≤ 1999; omega)) ?_))
        rintro z6 m_ h7
        obtain rfl : τ19 = m_ := h7.2
        have h8 : 0 ≤ z6 ∧ z6 ≤ 1 := h7.1
        refine And.intro (fun h9 => ?_) (fun h9 => ?_)
        · skip
          have lp_38 : ∀ (nq_ : Nat) (v5 : Int) (v6 : Int), (a2 ≤ v5) → (v5 ≤ v7 + 1) → (0 ≤ v6) → (v6 ≤ v7 - a2 + 1) → (v7 + 1 - v5 : Int).toNat < nq_ → WP_ X G Q 0 0 ad SHS_ τ19 38 [(25, 30), (0, a1), (9, 0), (0, a3), (0, a4), (0, v5), (0, v6), (0, v7)] [] := by
            intro nq_
            induction nq_ with
            | zero => intros; omega
            | succ nq_ ih_38 =>
              intro v5 v6 hi38_0 hi38_1 hi38_2 hi38_3 hm38
              refine B rfl ?_
              refine And.intro (fun h10 => ?_) (fun h10 => ?_)
              · skip
                refine B rfl ?_
                refine And.intro (by omega) ?_
                refine And.intro (by omega) ?_
                intro z11 ez11 hz11
                have hz11 : ((-2147483648) : Int) ≤ z11 ∧ z11 ≤ (2147483647 : Int) := rgl_ hz11 (by decide +kernel) (by decide +kernel) (by decide +kernel)
                try have t12 : τ19 30 5 = σ 30 5 := (hf19 _ _ (by omega))
                refine And.intro (fun h13 => ?_) (fun h13 => ?_)
                · skip
                  refine B rfl ?_
                  refine And.intro (by omega) ?_
                  exact ih_19 v5 v6 (v7 + 1) τ19 (fun k j hk => (hf19 _ _ (by omega))) (by show a2 ≤ (v7 + 1); omega) (by show (v7 + 1) ≤ a3 + 1; omega) (by show a2 ≤ v5; omega) (by show v5 ≤ (v7 + 1); omega) (by show 0 ≤ v6; omega) (by show v6 ≤ (v7 + 1) - a2; omega) (by omega)
                · skip
                  show WP_ X G Q 0 0 ad SHS_ τ19 85 [(25, 30), (0, a1), (9, 0), (0, a3), (0, a4), (0, v5), (0, v6), (0, v7)] []
                  refine B rfl ?_
                  refine And.intro (by omega) ?_
                  refine And.intro (by omega) ?_
                  intro σ14 e15
                  intro σ16 e17
                  refine And.intro (by omega) ?_
                  exact ih_19 v5 v6 (v7 + 1) σ16 (fun k j hk => ((ups_r e17 (by omega)).trans ((ups_r e15 (by omega)).trans (hf19 _ _ (by omega))))) (by show a2 ≤ (v7 + 1); omega) (by show (v7 + 1) ≤ a3 + 1; omega) (by show a2 ≤ v5; omega) (by show v5 ≤ (v7 + 1); omega) (by show 0 ≤ v6; omega) (by show v6 ≤ (v7 + 1) - a2; omega) (by omega)
              · skip
                show WP_ X G Q 0 0 ad SHS_ τ19 45 [(25, 30), (0, a1), (9, 0), (0, a3), (0, a4), (0, v5), (0, v6), (0, v7)] []
                refine B rfl ?_
                refine And.intro (fun h18 => ?_) (fun h18 => ?_)
                · skip
                  refine B rfl ?_
                  refine And.intro (by omega) ?_
                  refine And.intro (by omega) ?_
                  intro z19 ez19 hz19
                  have hz19 : ((-2147483648) : Int) ≤ z19 ∧ z19 ≤ (2147483647 : Int) := rgl_ hz19 (by decide +kernel) (by decide +kernel) (by decide +kernel)
                  try have t20 : τ19 30 5 = σ 30 5 := (hf19 _ _ (by omega))
                  refine And.intro (fun h21 => ?_) (fun h21 => ?_)
                  · skip
                    refine B rfl ?_
                    refine And.intro (by omega) ?_
                    exact ih_19 v5 v6 (v7 + 1) τ19 (fun k j hk => (hf19 _ _ (by omega))) (by show a2 ≤ (v7 + 1); omega) (by show (v7 + 1) ≤ a3 + 1; omega) (by show a2 ≤ v5; omega) (by show v5 ≤ (v7 + 1); omega) (by show 0 ≤ v6; omega) (by show v6 ≤ (v7 + 1) - a2; omega) (by omega)
                  · skip
                    show WP_ X G Q 0 0 ad SHS_ τ19 85 [(25, 30), (0, a1), (9, 0), (0, a3), (0, a4), (0, v5), (0, v6), (0, v7)] []
                    refine B rfl ?_
                    refine And.intro (by omega) ?_
                    refine And.intro (by omega) ?_
                    intro σ22 e23
                    intro σ24 e25
                    refine And.intro (by omega) ?_
                    exact ih_19 v5 v6 (v7 + 1) σ24 (fun k j hk => ((ups_r e25 (by omega)).trans ((ups_r e23 (by omega)).trans (hf19 _ _ (by omega))))) (by show a2 ≤ (v7 + 1); omega) (by show (v7 + 1) ≤ a3 + 1; omega) (by show a2 ≤ v5; omega) (by show v5 ≤ (v7 + 1); omega) (by show 0 ≤ v6; omega) (by show v6 ≤ (v7 + 1) - a2; omega) (by omega)
                · skip
                  show WP_ X G Q 0 0 ad SHS_ τ19 52 [(25, 30), (0, a1), (9, 0), (0, a3), (0, a4), (0, v5), (0, v6), (0, v7)] []
                  refine B rfl ?_
                  refine Exists.intro (a1, v5) (And.intro rfl (And.intro (And.intro (by show 0 ≤ v5; omega) (by show v5 ≤ 1999; omega)) ?_))
                  rintro z26 m_ h27
                  obtain rfl : τ19 = m_ := h27.2
                  have h28 : 0 ≤ z26 ∧ z26 ≤ 1 := h27.1
                  refine And.intro (fun h29 => ?_) (fun h29 => ?_)
                  · skip
                    refine B rfl ?_
                    refine And.intro (by omega) ?_
                    exact ih_38 (v5 + 1) v6 (by show a2 ≤ (v5 + 1); omega) (by show (v5 + 1) ≤ v7 + 1; omega) (by show 0 ≤ v6; omega) (by show v6 ≤ v7 - a2 + 1; omega) (by omega)
                  · skip
                    show WP_ X G Q 0 0 ad SHS_ τ19 62 [(25, 30), (0, a1), (9, 0), (0, a3), (0, a4), (0, v5), (0, v6), (0, v7)] []
                    refine B rfl ?_
                    refine And.intro (by omega) ?_
                    refine And.intro (by omega) ?_
                    exact ih_38 (v5 + 1) (v6 + (-1)) (by show a2 ≤ (v5 + 1); omega) (by show (v5 + 1) ≤ v7 + 1; omega) (by show 0 ≤ (v6 + (-1)); omega) (by show (v6 + (-1)) ≤ v7 - a2 + 1; omega) (by omega)
          exact lp_38 ((v7 + 1 - v5 : Int).toNat + 1) v5 v6 (by show a2 ≤ v5; omega) (by show v5 ≤ v7 + 1; omega) (by show 0 ≤ v6; omega) (by show v6 ≤ v7 - a2 + 1; omega) (by omega)
        · skip
          show WP_ X G Q 0 0 ad SHS_ τ19 35 [(25, 30), (0, a1), (9, 0), (0, a3), (0, a4), (0, v5), (0, v6), (0, v7)] []
          refine B rfl ?_
          refine And.intro (by omega) ?_
          have lp_38 : ∀ (nq_ : Nat) (v5_1 : Int) (v6_1 : Int), (a2 ≤ v5_1) → (v5_1 ≤ v7 + 1) → (0 ≤ v6_1) → (v6_1 ≤ v7 - a2 + 1) → (v7 + 1 - v5_1 : Int).toNat < nq_ → WP_ X G Q 0 0 ad SHS_ τ19 38 [(25, 30), (0, a1), (9, 0), (0, a3), (0, a4), (0, v5_1), (0, v6_1), (0, v7)] [] := by
            intro nq_
            induction nq_ with
            | zero => intros; omega
            | succ nq_ ih_38 =>
              intro v5_1 v6_1 hi38_0 hi38_1 hi38_2 hi38_3 hm38
              refine B rfl ?_
              refine And.intro (fun h30 => ?_) (fun h30 => ?_)
              · skip
                refine B rfl ?_
                refine And.intro (by omega) ?_
                refine And.intro (by omega) ?_
                intro z31 ez31 hz31
                have hz31 : ((-2147483648) : Int) ≤ z31 ∧ z31 ≤ (2147483647 : Int) := rgl_ hz31 (by decide +kernel) (by decide +kernel) (by decide +kernel)
                try have t32 : τ19 30 5 = σ 30 5 := (hf19 _ _ (by omega))
                refine And.intro (fun h33 => ?_) (fun h33 => ?_)
                · skip
                  refine B rfl ?_
                  refine And.intro (by omega) ?_
                  exact ih_19 v5_1 v6_1 (v7 + 1) τ19 (fun k j hk => (hf19 _ _ (by omega))) (by show a2 ≤ (v7 + 1); omega) (by show (v7 + 1) ≤ a3 + 1; omega) (by show a2 ≤ v5_1; omega) (by show v5_1 ≤ (v7 + 1); omega) (by show 0 ≤ v6_1; omega) (by show v6_1 ≤ (v7 + 1) - a2; omega) (by omega)
                · skip
                  show WP_ X G Q 0 0 ad SHS_ τ19 85 [(25, 30), (0, a1), (9, 0), (0, a3), (0, a4), (0, v5_1), (0, v6_1), (0, v7)] []
                  refine B rfl ?_
                  refine And.intro (by omega) ?_
                  refine And.intro (by omega) ?_
                  intro σ34 e35
                  intro σ36 e37
                  refine And.intro (by omega) ?_
                  exact ih_19 v5_1 v6_1 (v7 + 1) σ36 (fun k j hk => ((ups_r e37 (by omega)).trans ((ups_r e35 (by omega)).trans (hf19 _ _ (by omega))))) (by show a2 ≤ (v7 + 1); omega) (by show (v7 + 1) ≤ a3 + 1; omega) (by show a2 ≤ v5_1; omega) (by show v5_1 ≤ (v7 + 1); omega) (by show 0 ≤ v6_1; omega) (by show v6_1 ≤ (v7 + 1) - a2; omega) (by omega)
              · skip
                show WP_ X G Q 0 0 ad SHS_ τ19 45 [(25, 30), (0, a1), (9, 0), (0, a3), (0, a4), (0, v5_1), (0, v6_1), (0, v7)] []
                refine B rfl ?_
                refine And.intro (fun h38 => ?_) (fun h38 => ?_)
                · skip
                  refine B rfl ?_
                  refine And.intro (by omega) ?_
                  refine And.intro (by omega) ?_
                  intro z39 ez39 hz39
                  have hz39 : ((-2147483648) : Int) ≤ z39 ∧ z39 ≤ (2147483647 : Int) := rgl_ hz39 (by decide +kernel) (by decide +kernel) (by decide +kernel)
                  try have t40 : τ19 30 5 = σ 30 5 := (hf19 _ _ (by omega))
                  refine And.intro (fun h41 => ?_) (fun h41 => ?_)
                  · skip
                    refine B rfl ?_
                    refine And.intro (by omega) ?_
                    exact ih_19 v5_1 v6_1 (v7 + 1) τ19 (fun k j hk => (hf19 _ _ (by omega))) (by show a2 ≤ (v7 + 1); omega) (by show (v7 + 1) ≤ a3 + 1; omega) (by show a2 ≤ v5_1; omega) (by show v5_1 ≤ (v7 + 1); omega) (by show 0 ≤ v6_1; omega) (by show v6_1 ≤ (v7 + 1) - a2; omega) (by omega)
                  · skip
                    show WP_ X G Q 0 0 ad SHS_ τ19 85 [(25, 30), (0, a1), (9, 0), (0, a3), (0, a4), (0, v5_1), (0, v6_1), (0, v7)] []
                    refine B rfl ?_
                    refine And.intro (by omega) ?_
                    refine And.intro (by omega) ?_
                    intro σ42 e43
                    intro σ44 e45
                    refine And.intro (by omega) ?_
                    exact ih_19 v5_1 v6_1 (v7 + 1) σ44 (fun k j hk => ((ups_r e45 (by omega)).trans ((ups_r e43 (by omega)).trans (hf19 _ _ (by omega))))) (by show a2 ≤ (v7 + 1); omega) (by show (v7 + 1) ≤ a3 + 1; omega) (by show a2 ≤ v5_1; omega) (by show v5_1 ≤ (v7 + 1); omega) (by show 0 ≤ v6_1; omega) (by show v6_1 ≤ (v7 + 1) - a2; omega) (by omega)
                · skip
                  show WP_ X G Q 0 0 ad SHS_ τ19 52 [(25, 30), (0, a1), (9, 0), (0, a3), (0, a4), (0, v5_1), (0, v6_1), (0, v7)] []
                  refine B rfl ?_
                  refine Exists.intro (a1, v5_1) (And.intro rfl (And.intro (And.intro (by show 0 ≤ v5_1; omega) (by show v5_1 ≤ 1999; omega)) ?_))
                  rintro z46 m_ h47
                  obtain rfl : τ19 = m_ := h47.2
                  have h48 : 0 ≤ z46 ∧ z46 ≤ 1 := h47.1
                  refine And.intro (fun h49 => ?_) (fun h49 => ?_)
                  · skip
                    refine B rfl ?_
                    refine And.intro (by omega) ?_
                    exact ih_38 (v5_1 + 1) v6_1 (by show a2 ≤ (v5_1 + 1); omega) (by show (v5_1 + 1) ≤ v7 + 1; omega) (by show 0 ≤ v6_1; omega) (by show v6_1 ≤ v7 - a2 + 1; omega) (by omega)
                  · skip
                    show WP_ X G Q 0 0 ad SHS_ τ19 62 [(25, 30), (0, a1), (9, 0), (0, a3), (0, a4), (0, v5_1), (0, v6_1), (0, v7)] []
                    refine B rfl ?_
                    refine And.intro (by omega) ?_
                    refine And.intro (by omega) ?_
                    exact ih_38 (v5_1 + 1) (v6_1 + (-1)) (by show a2 ≤ (v5_1 + 1); omega) (by show (v5_1 + 1) ≤ v7 + 1; omega) (by show 0 ≤ (v6_1 + (-1)); omega) (by show (v6_1 + (-1)) ≤ v7 - a2 + 1; omega) (by omega)
          exact lp_38 ((v7 + 1 - v5 : Int).toNat + 1) v5 (v6 + 1) (by show a2 ≤ v5; omega) (by show v5 ≤ v7 + 1; omega) (by show 0 ≤ (v6 + 1); omega) (by show (v6 + 1) ≤ v7 - a2 + 1; omega) (by omega)
  exact lp_19 ((a3 + 1 - a2 : Int).toNat + 1) a2 0 a2 σ3 (fun k j hk => ((ups_r e4 (by omega)).trans (ups_r e2 (by omega)))) (by show a2 ≤ a2; omega) (by show a2 ≤ a3 + 1; omega) (by show a2 ≤ a2; omega) (by show a2 ≤ a2; omega) (by show 0 ≤ 0; omega) (by show 0 ≤ a2 - a2; omega) (by omega)
def as_G_X0_ageBy : Int × Int × Int → List Sv_t := fun a => [(25, 30), (0, a.1), (0, a.2.1), (0, a.2.2)]
def pre_G_X0_ageBy : Int × Int × Int → Me_t → Prop := fun a σ => (DT σ) ∧ (0 ≤ a.1) ∧ (a.1 ≤ 2) ∧ (0 ≤ a.2.1) ∧ (a.2.1 ≤ 1999) ∧ (0 ≤ a.2.2) ∧ (a.2.2 ≤ 1999)
def post_G_X0_ageBy : Int × Int × Int → Me_t → Int → Me_t → Prop := fun a σ z σ' => (-300000 ≤ z ∧ z ≤ 300000) ∧ (σ = σ')
set_option maxHeartbeats 1500000 in
set_option maxRecDepth 100000 in
theorem ct_G_X0_ageBy (l : Launch) : CT_ l yX0_ageBy cX0_ageBy 6 (some .int) 1 24 as_G_X0_ageBy (rmI_) pre_G_X0_ageBy post_G_X0_ageBy := by
  refine ct_of (by decide) (fun _ => Nat.le_of_ble_eq_true rfl) ?_
  intro X G Q ad σ a hl hR E hG R hM hv hp
  obtain ⟨a1, a2, a3⟩ := a
  have r_a1 : -2147483648 ≤ a1 ∧ a1 ≤ 2147483647 := hv (0, a1) (List.mem_of_getElem? (i := 1) rfl)
  have r_a2 : -2147483648 ≤ a2 ∧ a2 ≤ 2147483647 := hv (0, a2) (List.mem_of_getElem? (i := 2) rfl)
  have r_a3 : -2147483648 ≤ a3 ∧ a3 ≤ 2147483647 := hv (0, a3) (List.mem_of_getElem? (i := 3) rfl)
  have hp0 : DT σ := hp.1
  have hp1 : 0 ≤ a1 := hp.2.1
  have hp2 : a1 ≤ 2 := hp.2.2.1
  have hp3 : 0 ≤ a2 := hp.2.2.2.1
  have hp4 : a2 ≤ 1999 := hp.2.2.2.2.1
  have hp5 : 0 ≤ a3 := hp.2.2.2.2.2.1
  have hp6 : a3 ≤ 1999 := hp.2.2.2.2.2.2
  have B := @bk_ X G Q 0 0 ad SHS_ RX0 cX0_ageBy 6 (some .int) flX0 plX0 knX0 [(230, 3, TR_ as_G_X0_monthDay (rmI_) pre_G_X0_monthDay post_G_X0_monthDay), (236, 4, TR_ as_G_X0_part (rmI_) pre_G_X0_part post_G_X0_part)] _ _ none kX0_ageBy [] flX0_ok plX0_ok knX0_ok eX0_ageBy oX0_ageBy
    (List.forall_mem_cons.mpr ⟨cok_v (t := 15) (c := 0) (N := 9) (n := 2) (idx := 115) E (ct_G_X0_monthDay X.2.1) (by rw [hR]; decide) (Nat.zero_le _) (Nat.zero_le _) hG rfl rfl ⟨rfl, by decide, by decide, by decide⟩ (fun _ => ⟨_, _, rfl, rfl⟩) wl_X0_115 wi_X0_monthDay ws_X0_monthDay wn_X0 wc_X0_monthDay, List.forall_mem_cons.mpr ⟨cok_v (t := 15) (c := 0) (N := 9) (n := 3) (idx := 118) E (ct_G_X0_part X.2.1) (by rw [hR]; decide) (Nat.zero_le _) (Nat.zero_le _) hG rfl rfl ⟨rfl, by decide, by decide, by decide⟩ (fun _ => ⟨_, _, rfl, rfl⟩) wl_X0_118 wi_X0_part ws_X0_part wn_X0 wc_X0_part, fun _ h => absurd h List.not_mem_nil⟩⟩) R sok_no E
  show WP_ X G Q 0 0 ad SHS_ σ 0 [(25, 30), (0, a1), (0, a2), (0, a3), (9, 0), (9, 0)] []
  refine B rfl ?_
  refine Exists.intro (a1, a2) (And.intro rfl (And.intro (And.intro (by show 0 ≤ a1; omega) (And.intro (by show a1 ≤ 2; omega) (And.intro (by show 0 ≤ a2; omega) (by show a2 ≤ 1999; omega)))) ?_))
  rintro z1 m_ h2
  obtain rfl : σ = m_ := h2.2
  have h3 : -1 ≤ z1 ∧ z1 ≤ 1023 := h2.1
  refine And.intro (fun h4 => ?_) (fun h4 => ?_)
  · skip
    refine B rfl ?_
    refine Exists.intro _ (And.intro rfl ?_)
    exact (And.intro (by show -300000 ≤ (-1) ∧ (-1) ≤ 300000; omega) rfl)
  · skip
    refine And.intro (fun h5 => ?_) (fun h5 => ?_)
    · skip
      refine B rfl ?_
      refine Exists.intro (a1, a3, 0) (And.intro rfl (And.intro (And.intro hp0 (And.intro (by show 0 ≤ a3; omega) (And.intro (by show a3 ≤ 1999; omega) (by show 0 = 4 ∨ (0 ≤ a1 ∧ a1 ≤ 2); omega)))) ?_))
      rintro z6 m_ h7
      obtain rfl : σ = m_ := h7.2.2.2.2
      have h8 : -1 ≤ z6 ∧ z6 ≤ 200000 := h7.1
      have h9 : (0 : Int) = 4 → 0 ≤ z6 ∧ z6 ≤ 1 := h7.2.1
      have h10 : (0 : Int) = 1 → z6 ≤ 7 := h7.2.2.1
      have h11 : (0 : Int) = 3 → z6 ≤ 10 := h7.2.2.2.1
      refine Exists.intro (a1, a2, 0) (And.intro rfl (And.intro (And.intro hp0 (And.intro (by show 0 ≤ a2; omega) (And.intro (by show a2 ≤ 1999; omega) (by show 0 = 4 ∨ (0 ≤ a1 ∧ a1 ≤ 2); omega)))) ?_))
      rintro z12 m_ h13
      obtain rfl : σ = m_ := h13.2.2.2.2
      have h14 : -1 ≤ z12 ∧ z12 ≤ 200000 := h13.1
      have h15 : (0 : Int) = 4 → 0 ≤ z12 ∧ z12 ≤ 1 := h13.2.1
      have h16 : (0 : Int) = 1 → z12 ≤ 7 := h13.2.2.1
      have h17 : (0 : Int) = 3 → z12 ≤ 10 := h13.2.2.2.1
      refine And.intro (by omega) ?_
      refine Exists.intro (a1, a3) (And.intro rfl (And.intro (And.intro (by show 0 ≤ a1; omega) (And.intro (by show a1 ≤ 2; omega) (And.intro (by show 0 ≤ a3; omega) (by show a3 ≤ 1999; omega)))) ?_))
      rintro z18 m_ h19
      obtain rfl : σ = m_ := h19.2
      have h20 : -1 ≤ z18 ∧ z18 ≤ 1023 := h19.1
      refine And.intro (fun h21 => ?_) (fun h21 => ?_)
      · skip
        refine B rfl ?_
        refine Exists.intro _ (And.intro rfl ?_)
        exact (And.intro (by show -300000 ≤ (z6 - z12) ∧ (z6 - z12) ≤ 300000; omega) rfl)
      · skip
        refine And.intro (by omega) ?_
        refine B rfl ?_
        refine Exists.intro _ (And.intro rfl ?_)
        exact (And.intro (by show -300000 ≤ ((z6 - z12) - 1) ∧ ((z6 - z12) - 1) ≤ 300000; omega) rfl)
    · skip
      refine Exists.intro _ (And.intro rfl ?_)
      exact (And.intro (by show -300000 ≤ (-1) ∧ (-1) ≤ 300000; omega) rfl)
def as_G_X0_clashDay : Int × Int × Int × Int → List Sv_t := fun a => [(25, 30), (0, a.1), (0, a.2.1), (0, a.2.2.1), (0, a.2.2.2)]
def pre_G_X0_clashDay : Int × Int × Int × Int → Me_t → Prop := fun a σ => (DT σ) ∧ (0 ≤ a.2.2.1) ∧ (a.2.2.1 ≤ 2000)
def post_G_X0_clashDay : Int × Int × Int × Int → Me_t → Int → Me_t → Prop := fun a σ z σ' => (z = -1 ∨ (a.2.2.1 ≤ z ∧ z ≤ 1999)) ∧ (σ = σ')
set_option maxHeartbeats 1500000 in
set_option maxRecDepth 100000 in
theorem ct_G_X0_clashDay (l : Launch) : CT_ l yX0_clashDay cX0_clashDay 7 (some .int) 1 24 as_G_X0_clashDay (rmI_) pre_G_X0_clashDay post_G_X0_clashDay := by
  refine ct_of (by decide) (fun _ => Nat.le_of_ble_eq_true rfl) ?_
  intro X G Q ad σ a hl hR E hG R hM hv hp
  obtain ⟨a1, a2, a3, a4⟩ := a
  have r_a1 : -2147483648 ≤ a1 ∧ a1 ≤ 2147483647 := hv (0, a1) (List.mem_of_getElem? (i := 1) rfl)
  have r_a2 : -2147483648 ≤ a2 ∧ a2 ≤ 2147483647 := hv (0, a2) (List.mem_of_getElem? (i := 2) rfl)
  have r_a3 : -2147483648 ≤ a3 ∧ a3 ≤ 2147483647 := hv (0, a3) (List.mem_of_getElem? (i := 3) rfl)
  have r_a4 : -2147483648 ≤ a4 ∧ a4 ≤ 2147483647 := hv (0, a4) (List.mem_of_getElem? (i := 4) rfl)
  have hp0 : DT σ := hp.1
  have hp1 : 0 ≤ a3 := hp.2.1
  have hp2 : a3 ≤ 2000 := hp.2.2
  have B := @bk_ X G Q 0 0 ad SHS_ RX0 cX0_clashDay 7 (some .int) flX0 plX0 knX0 [(236, 4, TR_ as_G_X0_part (rmI_) pre_G_X0_part post_G_X0_part)] _ _ none kX0_clashDay [6] flX0_ok plX0_ok knX0_ok eX0_clashDay oX0_clashDay
    (List.forall_mem_cons.mpr ⟨cok_v (t := 15) (c := 0) (N := 9) (n := 3) (idx := 118) E (ct_G_X0_part X.2.1) (by rw [hR]; decide) (Nat.zero_le _) (Nat.zero_le _) hG rfl rfl ⟨rfl, by decide, by decide, by decide⟩ (fun _ => ⟨_, _, rfl, rfl⟩) wl_X0_118 wi_X0_part ws_X0_part wn_X0 wc_X0_part, fun _ h => absurd h List.not_mem_nil⟩) R sok_no E
  show WP_ X G Q 0 0 ad SHS_ σ 0 [(25, 30), (0, a1), (0, a2), (0, a3), (0, a4), (9, 0), (9, 0)] []
  refine B rfl ?_
  show WP_ X G Q 0 0 ad SHS_ σ 6 [(25, 30), (0, a1), (0, a2), (0, a3), (0, a4), (0, 0), (0, a3)] []
  refine wdrop_ (L' := [(25, 30), (0, a1), (0, a2), (9, 0), (0, a4), (0, 0), (0, a3)]) ⟨Or.inr rfl, ⟨Or.inr rfl, ⟨Or.inr rfl, ⟨Or.inl rfl, ⟨Or.inr rfl, ⟨Or.inr rfl, ⟨Or.inr rfl, trivial⟩⟩⟩⟩⟩⟩⟩ ?_
  have lp_6 : ∀ (nq_ : Nat) (v5 : Int) (v6 : Int), (a3 ≤ v6) → (v6 ≤ 2000) → (0 ≤ v5) → (v5 ≤ 2 * (v6 - a3)) → (2000 - v6 : Int).toNat < nq_ → WP_ X G Q 0 0 ad SHS_ σ 6 [(25, 30), (0, a1), (0, a2), (9, 0), (0, a4), (0, v5), (0, v6)] [] := by
    intro nq_
    induction nq_ with
    | zero => intros; omega
    | succ nq_ ih_6 =>
      intro v5 v6 hi6_0 hi6_1 hi6_2 hi6_3 hm6
      refine B rfl ?_
      refine And.intro (fun h1 => ?_) (fun h1 => ?_)
      · skip
        refine B rfl ?_
        refine Exists.intro _ (And.intro rfl ?_)
        exact (And.intro (by show (-1) = -1 ∨ (a3 ≤ (-1) ∧ (-1) ≤ 1999); omega) rfl)
      · skip
        refine Exists.intro (a1, v6, 4) (And.intro rfl (And.intro (And.intro hp0 (And.intro (by show 0 ≤ v6; omega) (And.intro (by show v6 ≤ 1999; omega) (by show 4 = 4 ∨ (0 ≤ a1 ∧ a1 ≤ 2); omega)))) ?_))
        rintro z2 m_ h3
        obtain rfl : σ = m_ := h3.2.2.2.2
        have h4 : -1 ≤ z2 ∧ z2 ≤ 200000 := h3.1
        have h5 : (4 : Int) = 4 → 0 ≤ z2 ∧ z2 ≤ 1 := h3.2.1
        have h6 : (4 : Int) = 1 → z2 ≤ 7 := h3.2.2.1
        have h7 : (4 : Int) = 3 → z2 ≤ 10 := h3.2.2.2.1
        refine Exists.intro (a2, v6, 4) (And.intro rfl (And.intro (And.intro hp0 (And.intro (by show 0 ≤ v6; omega) (And.intro (by show v6 ≤ 1999; omega) (by show 4 = 4 ∨ (0 ≤ a2 ∧ a2 ≤ 2); omega)))) ?_))
        rintro z8 m_ h9
        obtain rfl : σ = m_ := h9.2.2.2.2
        have h10 : -1 ≤ z8 ∧ z8 ≤ 200000 := h9.1
        have h11 : (4 : Int) = 4 → 0 ≤ z8 ∧ z8 ≤ 1 := h9.2.1
        have h12 : (4 : Int) = 1 → z8 ≤ 7 := h9.2.2.1
        have h13 : (4 : Int) = 3 → z8 ≤ 10 := h9.2.2.2.1
        refine And.intro (by omega) ?_
        refine And.intro (by omega) ?_
        refine And.intro (fun h14 => ?_) (fun h14 => ?_)
        · skip
          refine B rfl ?_
          refine And.intro (by omega) ?_
          exact ih_6 (v5 + (z2 + z8)) (v6 + 1) (by show a3 ≤ (v6 + 1); omega) (by show (v6 + 1) ≤ 2000; omega) (by show 0 ≤ (v5 + (z2 + z8)); omega) (by show (v5 + (z2 + z8)) ≤ 2 * ((v6 + 1) - a3); omega) (by omega)
        · skip
          refine Exists.intro _ (And.intro rfl ?_)
          exact (And.intro (by show v6 = -1 ∨ (a3 ≤ v6 ∧ v6 ≤ 1999); omega) rfl)
  exact lp_6 ((2000 - a3 : Int).toNat + 1) 0 a3 (by show a3 ≤ a3; omega) (by show a3 ≤ 2000; omega) (by show 0 ≤ 0; omega) (by show 0 ≤ 2 * (a3 - a3); omega) (by omega)
def as_G_X0_aloneOn : Int × Int × Int → List Sv_t := fun a => [(25, 30), (0, a.1), (0, a.2.1), (0, a.2.2)]
def pre_G_X0_aloneOn : Int × Int × Int → Me_t → Prop := fun a σ => (DT σ) ∧ (0 ≤ a.2.2) ∧ (a.2.2 ≤ 1999)
def post_G_X0_aloneOn : Int × Int × Int → Me_t → Int → Me_t → Prop := fun a σ z σ' => (0 ≤ z ∧ z ≤ 1) ∧ (σ = σ')
set_option maxHeartbeats 1500000 in
set_option maxRecDepth 100000 in
theorem ct_G_X0_aloneOn (l : Launch) : CT_ l yX0_aloneOn cX0_aloneOn 4 (some .int) 1 24 as_G_X0_aloneOn (rmI_) pre_G_X0_aloneOn post_G_X0_aloneOn := by
  refine ct_of (by decide) (fun _ => Nat.le_of_ble_eq_true rfl) ?_
  intro X G Q ad σ a hl hR E hG R hM hv hp
  obtain ⟨a1, a2, a3⟩ := a
  have r_a1 : -2147483648 ≤ a1 ∧ a1 ≤ 2147483647 := hv (0, a1) (List.mem_of_getElem? (i := 1) rfl)
  have r_a2 : -2147483648 ≤ a2 ∧ a2 ≤ 2147483647 := hv (0, a2) (List.mem_of_getElem? (i := 2) rfl)
  have r_a3 : -2147483648 ≤ a3 ∧ a3 ≤ 2147483647 := hv (0, a3) (List.mem_of_getElem? (i := 3) rfl)
  have hp0 : DT σ := hp.1
  have hp1 : 0 ≤ a3 := hp.2.1
  have hp2 : a3 ≤ 1999 := hp.2.2
  have B := @bk_ X G Q 0 0 ad SHS_ RX0 cX0_aloneOn 4 (some .int) flX0 plX0 knX0 [(236, 4, TR_ as_G_X0_part (rmI_) pre_G_X0_part post_G_X0_part)] _ _ none kX0_aloneOn [] flX0_ok plX0_ok knX0_ok eX0_aloneOn oX0_aloneOn
    (List.forall_mem_cons.mpr ⟨cok_v (t := 15) (c := 0) (N := 9) (n := 3) (idx := 118) E (ct_G_X0_part X.2.1) (by rw [hR]; decide) (Nat.zero_le _) (Nat.zero_le _) hG rfl rfl ⟨rfl, by decide, by decide, by decide⟩ (fun _ => ⟨_, _, rfl, rfl⟩) wl_X0_118 wi_X0_part ws_X0_part wn_X0 wc_X0_part, fun _ h => absurd h List.not_mem_nil⟩) R sok_no E
  show WP_ X G Q 0 0 ad SHS_ σ 0 [(25, 30), (0, a1), (0, a2), (0, a3)] []
  refine B rfl ?_
  refine Exists.intro (a1, a3, 4) (And.intro rfl (And.intro (And.intro hp0 (And.intro (by show 0 ≤ a3; omega) (And.intro (by show a3 ≤ 1999; omega) (by show 4 = 4 ∨ (0 ≤ a1 ∧ a1 ≤ 2); omega)))) ?_))
  rintro z1 m_ h2
  obtain rfl : σ = m_ := h2.2.2.2.2
  have h3 : -1 ≤ z1 ∧ z1 ≤ 200000 := h2.1
  have h4 : (4 : Int) = 4 → 0 ≤ z1 ∧ z1 ≤ 1 := h2.2.1
  have h5 : (4 : Int) = 1 → z1 ≤ 7 := h2.2.2.1
  have h6 : (4 : Int) = 3 → z1 ≤ 10 := h2.2.2.2.1
  refine Exists.intro (a2, a3, 4) (And.intro rfl (And.intro (And.intro hp0 (And.intro (by show 0 ≤ a3; omega) (And.intro (by show a3 ≤ 1999; omega) (by show 4 = 4 ∨ (0 ≤ a2 ∧ a2 ≤ 2); omega)))) ?_))
  rintro z7 m_ h8
  obtain rfl : σ = m_ := h8.2.2.2.2
  have h9 : -1 ≤ z7 ∧ z7 ≤ 200000 := h8.1
  have h10 : (4 : Int) = 4 → 0 ≤ z7 ∧ z7 ≤ 1 := h8.2.1
  have h11 : (4 : Int) = 1 → z7 ≤ 7 := h8.2.2.1
  have h12 : (4 : Int) = 3 → z7 ≤ 10 := h8.2.2.2.1
  have ha := and3_l (x := z1) (y := xor3_ z7 (-1)) (by omega) (by omega)
  refine Exists.intro _ (And.intro rfl ?_)
  exact (And.intro (by show 0 ≤ (and3_ z1 (xor3_ z7 (-1))) ∧ (and3_ z1 (xor3_ z7 (-1))) ≤ 1; omega) rfl)
def as_G_X0_daysAlone : Int × Int × Int × Int → List Sv_t := fun a => [(25, 30), (0, a.1), (0, a.2.1), (0, a.2.2.1), (0, a.2.2.2)]
def pre_G_X0_daysAlone : Int × Int × Int × Int → Me_t → Prop := fun a σ => (DT σ) ∧ (0 ≤ a.2.2.1) ∧ (a.2.2.1 ≤ a.2.2.2 + 1) ∧ (a.2.2.2 ≤ 1999)
def post_G_X0_daysAlone : Int × Int × Int × Int → Me_t → Int → Me_t → Prop := fun a σ z σ' => (0 ≤ z ∧ z ≤ 2000) ∧ (σ = σ')
set_option maxHeartbeats 1500000 in
set_option maxRecDepth 100000 in
theorem ct_G_X0_daysAlone (l : Launch) : CT_ l yX0_daysAlone cX0_daysAlone 7 (some .int) 2 47 as_G_X0_daysAlone (rmI_) pre_G_X0_daysAlone post_G_X0_daysAlone := by
  refine ct_of (by decide) (fun _ => Nat.le_of_ble_eq_true rfl) ?_
  intro X G Q ad σ a hl hR E hG R hM hv hp
  obtain ⟨a1, a2, a3, a4⟩ := a
  have r_a1 : -2147483648 ≤ a1 ∧ a1 ≤ 2147483647 := hv (0, a1) (List.mem_of_getElem? (i := 1) rfl)
  have r_a2 : -2147483648 ≤ a2 ∧ a2 ≤ 2147483647 := hv (0, a2) (List.mem_of_getElem? (i := 2) rfl)
  have r_a3 : -2147483648 ≤ a3 ∧ a3 ≤ 2147483647 := hv (0, a3) (List.mem_of_getElem? (i := 3) rfl)
  have r_a4 : -2147483648 ≤ a4 ∧ a4 ≤ 2147483647 := hv (0, a4) (List.mem_of_getElem? (i := 4) rfl)
  have hp0 : DT σ := hp.1
  have hp1 : 0 ≤ a3 := hp.2.1
  have hp2 : a3 ≤ a4 + 1 := hp.2.2.1
  have hp3 : a4 ≤ 1999 := hp.2.2.2
  have B := @bk_ X G Q 0 0 ad SHS_ RX0 cX0_daysAlone 7 (some .int) flX0 plX0 knX0 [(242, 4, TR_ as_G_X0_aloneOn (rmI_) pre_G_X0_aloneOn post_G_X0_aloneOn)] _ _ none kX0_daysAlone [6] flX0_ok plX0_ok knX0_ok eX0_daysAlone oX0_daysAlone
    (List.forall_mem_cons.mpr ⟨cok_v (t := 15) (c := 0) (N := 9) (n := 3) (idx := 121) E (ct_G_X0_aloneOn X.2.1) (by rw [hR]; decide) (Nat.zero_le _) (Nat.zero_le _) hG rfl rfl ⟨rfl, by decide, by decide, by decide⟩ (fun _ => ⟨_, _, rfl, rfl⟩) wl_X0_121 wi_X0_aloneOn ws_X0_aloneOn wn_X0 wc_X0_aloneOn, fun _ h => absurd h List.not_mem_nil⟩) R sok_no E
  show WP_ X G Q 0 0 ad SHS_ σ 0 [(25, 30), (0, a1), (0, a2), (0, a3), (0, a4), (9, 0), (9, 0)] []
  refine B rfl ?_
  show WP_ X G Q 0 0 ad SHS_ σ 6 [(25, 30), (0, a1), (0, a2), (0, a3), (0, a4), (0, 0), (0, a3)] []
  refine wdrop_ (L' := [(25, 30), (0, a1), (0, a2), (9, 0), (0, a4), (0, 0), (0, a3)]) ⟨Or.inr rfl, ⟨Or.inr rfl, ⟨Or.inr rfl, ⟨Or.inl rfl, ⟨Or.inr rfl, ⟨Or.inr rfl, ⟨Or.inr rfl, trivial⟩⟩⟩⟩⟩⟩⟩ ?_
  have lp_6 : ∀ (nq_ : Nat) (v5 : Int) (v6 : Int), (a3 ≤ v6) → (v6 ≤ a4 + 1) → (0 ≤ v5) → (v5 ≤ v6 - a3) → (a4 + 1 - v6 : Int).toNat < nq_ → WP_ X G Q 0 0 ad SHS_ σ 6 [(25, 30), (0, a1), (0, a2), (9, 0), (0, a4), (0, v5), (0, v6)] [] := by
    intro nq_
    induction nq_ with
    | zero => intros; omega
    | succ nq_ ih_6 =>
      intro v5 v6 hi6_0 hi6_1 hi6_2 hi6_3 hm6
      refine B rfl ?_
      refine And.intro (fun h1 => ?_) (fun h1 => ?_)
      · skip
        refine B rfl ?_
        refine Exists.intro _ (And.intro rfl ?_)
        exact (And.intro (by show 0 ≤ v5 ∧ v5 ≤ 2000; omega) rfl)
      · skip
        refine Exists.intro (a1, a2, v6) (And.intro rfl (And.intro (And.intro hp0 (And.intro (by show 0 ≤ v6; omega) (by show v6 ≤ 1999; omega))) ?_))
        rintro z2 m_ h3
        obtain rfl : σ = m_ := h3.2
        have h4 : 0 ≤ z2 ∧ z2 ≤ 1 := h3.1
        refine And.intro (by omega) ?_
        refine And.intro (by omega) ?_
        exact ih_6 (v5 + z2) (v6 + 1) (by show a3 ≤ (v6 + 1); omega) (by show (v6 + 1) ≤ a4 + 1; omega) (by show 0 ≤ (v5 + z2); omega) (by show (v5 + z2) ≤ (v6 + 1) - a3; omega) (by omega)
  exact lp_6 ((a4 + 1 - a3 : Int).toNat + 1) 0 a3 (by show a3 ≤ a3; omega) (by show a3 ≤ a4 + 1; omega) (by show 0 ≤ 0; omega) (by show 0 ≤ a3 - a3; omega) (by omega)
def as_G_X0_seekBeginning : Int × Int × Int × Int × Int → List Sv_t := fun a => [(25, 30), (0, a.1), (0, a.2.1), (0, a.2.2.1), (0, a.2.2.2.1), (0, a.2.2.2.2)]
def pre_G_X0_seekBeginning : Int × Int × Int × Int × Int → Me_t → Prop := fun a σ => (DT σ) ∧ (0 ≤ a.2.2.1) ∧ (a.2.2.1 ≤ a.2.2.2.1) ∧ (a.2.2.2.1 ≤ 1999) ∧ (1 ≤ a.2.2.2.2) ∧ (a.2.2.2.2 ≤ 200)
def post_G_X0_seekBeginning : Int × Int × Int × Int × Int → Me_t → Int → Me_t → Prop := fun a σ z σ' => (∀ k j : Int, ¬ (k = 30) → σ' k j = σ k j)
set_option maxHeartbeats 1500000 in
set_option maxRecDepth 100000 in
theorem ct_G_X0_seekBeginning (l : Launch) : CT_ l yX0_seekBeginning cX0_seekBeginning 8 none 3 73 as_G_X0_seekBeginning (rmV_) pre_G_X0_seekBeginning post_G_X0_seekBeginning := by
  refine ct_of (by decide) (fun _ => Nat.le_of_ble_eq_true rfl) ?_
  intro X G Q ad σ a hl hR E hG R hM hv hp
  obtain ⟨a1, a2, a3, a4, a5⟩ := a
  have r_a1 : -2147483648 ≤ a1 ∧ a1 ≤ 2147483647 := hv (0, a1) (List.mem_of_getElem? (i := 1) rfl)
  have r_a2 : -2147483648 ≤ a2 ∧ a2 ≤ 2147483647 := hv (0, a2) (List.mem_of_getElem? (i := 2) rfl)
  have r_a3 : -2147483648 ≤ a3 ∧ a3 ≤ 2147483647 := hv (0, a3) (List.mem_of_getElem? (i := 3) rfl)
  have r_a4 : -2147483648 ≤ a4 ∧ a4 ≤ 2147483647 := hv (0, a4) (List.mem_of_getElem? (i := 4) rfl)
  have r_a5 : -2147483648 ≤ a5 ∧ a5 ≤ 2147483647 := hv (0, a5) (List.mem_of_getElem? (i := 5) rfl)
  have hp0 : DT σ := hp.1
  have hp1 : 0 ≤ a3 := hp.2.1
  have hp2 : a3 ≤ a4 := hp.2.2.1
  have hp3 : a4 ≤ 1999 := hp.2.2.2.1
  have hp4 : 1 ≤ a5 := hp.2.2.2.2.1
  have hp5 : a5 ≤ 200 := hp.2.2.2.2.2
  have B := @bk_ X G Q 0 0 ad SHS_ RX0 cX0_seekBeginning 8 none flX0 plX0 knX0 [(258, 5, TR_ as_G_X0_daysAlone (rmI_) pre_G_X0_daysAlone post_G_X0_daysAlone), (242, 4, TR_ as_G_X0_aloneOn (rmI_) pre_G_X0_aloneOn post_G_X0_aloneOn), (249, 2, TMIN_)] _ _ none kX0_seekBeginning [37, 44, 72, 99] flX0_ok plX0_ok knX0_ok eX0_seekBeginning oX0_seekBeginning
    (List.forall_mem_cons.mpr ⟨cok_v (t := 15) (c := 0) (N := 9) (n := 4) (idx := 129) E (ct_G_X0_daysAlone X.2.1) (by rw [hR]; decide) (Nat.zero_le _) (Nat.zero_le _) hG rfl rfl ⟨rfl, by decide, by decide, by decide⟩ (fun _ => ⟨_, _, rfl, rfl⟩) wl_X0_129 wi_X0_daysAlone ws_X0_daysAlone wn_X0 wc_X0_daysAlone, List.forall_mem_cons.mpr ⟨cok_v (t := 15) (c := 0) (N := 9) (n := 3) (idx := 121) E (ct_G_X0_aloneOn X.2.1) (by rw [hR]; decide) (Nat.zero_le _) (Nat.zero_le _) hG rfl rfl ⟨rfl, by decide, by decide, by decide⟩ (fun _ => ⟨_, _, rfl, rfl⟩) wl_X0_121 wi_X0_aloneOn ws_X0_aloneOn wn_X0 wc_X0_aloneOn, List.forall_mem_cons.mpr ⟨cok_min (idx := 124) E (by rw [hR]; decide) (Nat.zero_le _) (Nat.zero_le _) wl_X0_124, fun _ h => absurd h List.not_mem_nil⟩⟩⟩) R sok_no E
  show WP_ X G Q 0 0 ad SHS_ σ 0 [(25, 30), (0, a1), (0, a2), (0, a3), (0, a4), (0, a5), (9, 0), (9, 0)] []
  refine B rfl ?_
  refine And.intro (by omega) ?_
  refine Exists.intro (a3 + a5) (Exists.intro 2000 (And.intro rfl ?_))
  intro z1 hz1
  refine And.intro (by omega) ?_
  refine Exists.intro (a1, a2, a3, z1 - 1) (And.intro rfl (And.intro (And.intro hp0 (And.intro (by show 0 ≤ a3; omega) (And.intro (by show a3 ≤ (z1 - 1) + 1; omega) (by show (z1 - 1) ≤ 1999; omega)))) ?_))
  rintro z2 m_ h3
  obtain rfl : σ = m_ := h3.2
  have h4 : 0 ≤ z2 ∧ z2 ≤ 2000 := h3.1
  intro σ5 e6
  intro σ7 e8
  refine And.intro (by omega) ?_
  show WP_ X G Q 0 0 ad SHS_ σ7 37 [(25, 30), (0, a1), (0, a2), (0, a3), (0, a4), (0, a5), (0, z2), (0, a3 + 1)] []
  refine wdrop_ (L' := [(25, 30), (0, a1), (0, a2), (9, 0), (0, a4), (0, a5), (0, z2), (0, a3 + 1)]) ⟨Or.inr rfl, ⟨Or.inr rfl, ⟨Or.inr rfl, ⟨Or.inl rfl, ⟨Or.inr rfl, ⟨Or.inr rfl, ⟨Or.inr rfl, ⟨Or.inr rfl, trivial⟩⟩⟩⟩⟩⟩⟩⟩ ?_
  have lp_37 : ∀ (nq_ : Nat) (v6 : Int) (v7 : Int) (τ37 : Me_t), (∀ k j : Int, ¬ (k = 30) → τ37 k j = σ k j) → (a3 + 1 ≤ v7) → (v7 ≤ a4 + 1) → (-v7 ≤ v6) → (v6 ≤ 2000 + v7) → (a4 + 1 - v7 : Int).toNat < nq_ → WP_ X G Q 0 0 ad SHS_ τ37 37 [(25, 30), (0, a1), (0, a2), (9, 0), (0, a4), (0, a5), (0, v6), (0, v7)] [] := by
    intro nq_
    induction nq_ with
    | zero => intros; omega
    | succ nq_ ih_37 =>
      intro v6 v7 τ37 hf37 hi37_0 hi37_1 hi37_2 hi37_3 hm37
      refine B rfl ?_
      refine And.intro (fun h9 => ?_) (fun h9 => ?_)
      · skip
        refine B rfl ?_
        refine Exists.intro 0 (And.intro rfl ?_)
        exact (fun k j hk => (hf37 _ _ (by omega)))
      · skip
        show WP_ X G Q 0 0 ad SHS_ τ37 44 [(25, 30), (0, a1), (0, a2), (9, 0), (0, a4), (0, a5), (0, v6), (0, v7)] []
        refine B rfl ?_
        refine And.intro (by omega) ?_
        have p10 : DT τ37 := DT_fr hp0 (fun k j hk => (hf37 _ _ (by omega)))
        refine Exists.intro (a1, a2, v7 - 1) (And.intro rfl (And.intro (And.intro p10 (And.intro (by show 0 ≤ (v7 - 1); omega) (by show (v7 - 1) ≤ 1999; omega))) ?_))
        rintro z11 m_ h12
        obtain rfl : τ37 = m_ := h12.2
        have h13 : 0 ≤ z11 ∧ z11 ≤ 1 := h12.1
        refine And.intro (by omega) ?_
        refine And.intro (by omega) ?_
        refine And.intro (by omega) ?_
        refine And.intro (fun h14 => ?_) (fun h14 => ?_)
        · skip
          refine B rfl ?_
          intro z15 ez15 hz15
          have hz15 : ((-2147483648) : Int) ≤ z15 ∧ z15 ≤ (2147483647 : Int) := rgl_ hz15 (by decide +kernel) (by decide +kernel) (by decide +kernel)
          try have t16 : τ37 30 8 = σ 30 8 := (hf37 _ _ (by omega))
          refine And.intro (fun h17 => ?_) (fun h17 => ?_)
          · skip
            refine B rfl ?_
            refine And.intro (by omega) ?_
            exact ih_37 (v6 - z11) (v7 + 1) τ37 (fun k j hk => (hf37 _ _ (by omega))) (by show a3 + 1 ≤ (v7 + 1); omega) (by show (v7 + 1) ≤ a4 + 1; omega) (by show -(v7 + 1) ≤ (v6 - z11); omega) (by show (v6 - z11) ≤ 2000 + (v7 + 1); omega) (by omega)
          · skip
            show WP_ X G Q 0 0 ad SHS_ τ37 99 [(25, 30), (0, a1), (0, a2), (9, 0), (0, a4), (0, a5), (0, v6 - z11), (0, v7)] []
            refine B rfl ?_
            intro σ18 e19
            intro σ20 e21
            refine And.intro (by omega) ?_
            exact ih_37 (v6 - z11) (v7 + 1) σ20 (fun k j hk => ((ups_r e21 (by omega)).trans ((ups_r e19 (by omega)).trans (hf37 _ _ (by omega))))) (by show a3 + 1 ≤ (v7 + 1); omega) (by show (v7 + 1) ≤ a4 + 1; omega) (by show -(v7 + 1) ≤ (v6 - z11); omega) (by show (v6 - z11) ≤ 2000 + (v7 + 1); omega) (by omega)
        · skip
          show WP_ X G Q 0 0 ad SHS_ τ37 72 [(25, 30), (0, a1), (0, a2), (9, 0), (0, a4), (0, a5), (0, v6 - z11), (0, v7)] []
          refine B rfl ?_
          refine And.intro (by omega) ?_
          refine And.intro (by omega) ?_
          refine Exists.intro (a1, a2, (v7 + a5) - 1) (And.intro rfl (And.intro (And.intro p10 (And.intro (by show 0 ≤ ((v7 + a5) - 1); omega) (by show ((v7 + a5) - 1) ≤ 1999; omega))) ?_))
          rintro z22 m_ h23
          obtain rfl : τ37 = m_ := h23.2
          have h24 : 0 ≤ z22 ∧ z22 ≤ 1 := h23.1
          refine And.intro (by omega) ?_
          intro z25 ez25 hz25
          have hz25 : ((-2147483648) : Int) ≤ z25 ∧ z25 ≤ (2147483647 : Int) := rgl_ hz25 (by decide +kernel) (by decide +kernel) (by decide +kernel)
          try have t26 : τ37 30 8 = σ 30 8 := (hf37 _ _ (by omega))
          refine And.intro (fun h27 => ?_) (fun h27 => ?_)
          · skip
            refine B rfl ?_
            refine And.intro (by omega) ?_
            exact ih_37 ((v6 - z11) + z22) (v7 + 1) τ37 (fun k j hk => (hf37 _ _ (by omega))) (by show a3 + 1 ≤ (v7 + 1); omega) (by show (v7 + 1) ≤ a4 + 1; omega) (by show -(v7 + 1) ≤ ((v6 - z11) + z22); omega) (by show ((v6 - z11) + z22) ≤ 2000 + (v7 + 1); omega) (by omega)
          · skip
            show WP_ X G Q 0 0 ad SHS_ τ37 99 [(25, 30), (0, a1), (0, a2), (9, 0), (0, a4), (0, a5), (0, (v6 - z11) + z22), (0, v7)] []
            refine B rfl ?_
            intro σ28 e29
            intro σ30 e31
            refine And.intro (by omega) ?_
            exact ih_37 ((v6 - z11) + z22) (v7 + 1) σ30 (fun k j hk => ((ups_r e31 (by omega)).trans ((ups_r e29 (by omega)).trans (hf37 _ _ (by omega))))) (by show a3 + 1 ≤ (v7 + 1); omega) (by show (v7 + 1) ≤ a4 + 1; omega) (by show -(v7 + 1) ≤ ((v6 - z11) + z22); omega) (by show ((v6 - z11) + z22) ≤ 2000 + (v7 + 1); omega) (by omega)
  exact lp_37 ((a4 + 1 - (a3 + 1) : Int).toNat + 1) z2 (a3 + 1) σ7 (fun k j hk => ((ups_r e8 (by omega)).trans (ups_r e6 (by omega)))) (by show a3 + 1 ≤ (a3 + 1); omega) (by show (a3 + 1) ≤ a4 + 1; omega) (by show -(a3 + 1) ≤ z2; omega) (by show z2 ≤ 2000 + (a3 + 1); omega) (by omega)
