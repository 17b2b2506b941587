def as_G_X0_fillDates : Int × Int → List Sv_t := fun a => [(25, 30), (20, a.1), (0, a.2)]
def pre_G_X0_fillDates : Int × Int → Me_t → Prop := fun a σ => (DT σ) ∧ (1 ≤ σ a.1 3) ∧ (2 ≤ σ a.1 1) ∧ (0 ≤ a.2) ∧ (a.2 ≤ 4000)
def post_G_X0_fillDates : Int × Int → Me_t → Int → Me_t → Prop := fun a σ z σ' => (DT σ') ∧ (∀ k j : Int, ¬ (k = 31) → σ' k j = σ k j)
set_option maxHeartbeats 1500000 in
set_option maxRecDepth 100000 in
theorem ct_G_X0_fillDates (l : Launch) : CT_ l yX0_fillDates cX0_fillDates 9 none 2 43 as_G_X0_fillDates (rmV_) pre_G_X0_fillDates post_G_X0_fillDates := by
  refine ct_of (by decide) (fun _ => Nat.le_of_ble_eq_true rfl) ?_
  intro X G Q ad σ a hl hR E hG R hM hv hp
  obtain ⟨a1, a2⟩ := a
  have k_a1 : isLand_ a1 := tvLand_ (hv (20, a1) (List.mem_of_getElem? (i := 1) rfl))
  have r_a1 : 10 ≤ a1 ∧ a1 ≤ 76 := by unfold isLand_ at k_a1; omega
  have r_a2 : -2147483648 ≤ a2 ∧ a2 ≤ 2147483647 := hv (0, a2) (List.mem_of_getElem? (i := 2) rfl)
  have hp0 : DT σ := hp.1
  have hp1 : 1 ≤ σ a1 3 := hp.2.1
  have hp2 : 2 ≤ σ a1 1 := hp.2.2.1
  have hp3 : 0 ≤ a2 := hp.2.2.2.1
  have hp4 : a2 ≤ 4000 := hp.2.2.2.2
  have B := @bk_ X G Q 0 0 ad SHS_ RX0 cX0_fillDates 9 none flX0 plX0 knX0 [(138, 3, TR_ as_G_X1_lengthIn (rmI_) pre_G_X1_lengthIn post_G_X1_lengthIn)] _ _ none kX0_fillDates [22, 30, 39, 52, 79, 90, 100, 110, 116, 125, 131, 140] flX0_ok plX0_ok knX0_ok eX0_fillDates oX0_fillDates
    (List.forall_mem_cons.mpr ⟨cok_v (t := 10) (c := 1) (N := 9) (n := 2) (idx := 69) E (ct_G_X1_lengthIn X.2.1) (by rw [hR]; decide) (Nat.zero_le _) (Nat.zero_le _) hG rfl rfl ⟨rfl, by decide, by decide, by decide⟩ (fun _ => ⟨_, _, rfl, rfl⟩) wl_X0_69 wi_X1_lengthIn ws_X1_lengthIn wn_X1 wc_X1_lengthIn, fun _ h => absurd h List.not_mem_nil⟩) R sok_no E
  show WP_ X G Q 0 0 ad SHS_ σ 0 [(25, 30), (20, a1), (0, a2), (9, 0), (9, 0), (9, 0), (9, 0), (9, 0), (9, 0)] []
  have n31 : a1 ≠ 31 := by unfold isLand_ at k_a1; omega
  have r1 := rgf_ (t := 10) (j := 1) hM (hv (20, a1) (List.mem_of_getElem? (i := 1) rfl)) (by decide)
  have r1 : (0 : Int) ≤ σ a1 1 ∧ σ a1 1 ≤ (10 : Int) := r1
  have r3 := rgf_ (t := 10) (j := 3) hM (hv (20, a1) (List.mem_of_getElem? (i := 1) rfl)) (by decide)
  have r3 : (0 : Int) ≤ σ a1 3 ∧ σ a1 3 ≤ (8 : Int) := r3
  refine B rfl ?_
  refine Exists.intro (a1, 0, 0) (And.intro rfl (And.intro (And.intro (by show 0 ≤ 0; omega) (And.intro (by show 0 ≤ 7; omega) (by show 0 ≤ 0; omega))) ?_))
  rintro z1 m_ h2
  obtain rfl : σ = m_ := h2.2
  have h3 : 0 ≤ z1 ∧ z1 ≤ 69 := h2.1
  have lp_22 : ∀ (nq_ : Nat) (v3 : Int) (v4 : Int) (v5 : Int) (v6 : Int) (v7 : Int) (v8 : Int) (τ22 : Me_t), (∀ k j : Int, ¬ (k = 31) → τ22 k j = σ k j) → (0 ≤ v3) → (v3 ≤ v8) → (0 ≤ v4) → (v4 + 1 ≤ σ a1 3) → (0 ≤ v5) → (v5 ≤ v8) → (0 ≤ v6) → (v6 + 1 ≤ σ a1 1) → (σ a1 1 ≤ 10) → (σ a1 3 ≤ 8) → (0 ≤ v7) → (v7 ≤ 69) → (0 ≤ v8) → (v8 ≤ 2000) → (DT τ22) → (2000 - v8 : Int).toNat < nq_ → WP_ X G Q 0 0 ad SHS_ τ22 22 [(25, 30), (20, a1), (0, a2), (0, v3), (0, v4), (0, v5), (0, v6), (0, v7), (0, v8)] [] := by
    intro nq_
    induction nq_ with
    | zero => intros; omega
    | succ nq_ ih_22 =>
      intro v3 v4 v5 v6 v7 v8 τ22 hf22 hi22_0 hi22_1 hi22_2 hi22_3 hi22_4 hi22_5 hi22_6 hi22_7 hi22_8 hi22_9 hi22_10 hi22_11 hi22_12 hi22_13 hi22_14 hm22
      refine B rfl ?_
      refine And.intro (fun h4 => ?_) (fun h4 => ?_)
      · skip
        refine B rfl ?_
        refine Exists.intro 0 (And.intro rfl ?_)
        exact (And.intro hi22_14 (fun k j hk => (hf22 _ _ (by omega))))
      · skip
        show WP_ X G Q 0 0 ad SHS_ τ22 30 [(25, 30), (20, a1), (0, a2), (0, v3), (0, v4), (0, v5), (0, v6), (0, v7), (0, v8)] []
        refine B rfl ?_
        intro z5 ez5 hz5
        have hz5 : (0 : Int) ≤ z5 ∧ z5 ≤ (999 : Int) := hz5
        try have t6 : τ22 a1 0 = σ a1 0 := (hf22 _ _ (by omega))
        refine And.intro (fun h7 => ?_) (fun h7 => ?_)
        · skip
          refine B rfl ?_
          refine And.intro (by omega) ?_
          have qd := pack_r (y := v3) (m := v4) (d := v5) (w := v6) (by omega) (by omega) (by omega) (by omega) (by omega) (by omega) (by omega) (by omega)
          refine And.intro (by omega) ?_
          refine And.intro (rng_ (a := (-1)) (b := 2147483647) (by omega) (by decide +kernel) (by decide +kernel)) ?_
          intro σ8 e9
          have p10 : DT σ8 := DT_st hi22_14 e9 (by omega)
          clear qd
          show WP_ X G Q 0 0 ad SHS_ σ8 79 [(25, 30), (20, a1), (0, a2), (0, v3), (0, v4), (0, v5), (0, v6), (0, v7), (0, v8)] []
          refine B rfl ?_
          refine And.intro (by omega) ?_
          intro z11 ez11 hz11
          have hz11 : (0 : Int) ≤ z11 ∧ z11 ≤ (10 : Int) := hz11
          try have t12 : σ8 a1 1 = σ a1 1 := ((ups_r e9 (by omega)).trans (hf22 _ _ (by omega)))
          refine And.intro (fun h13 => ?_) (fun h13 => ?_)
          · skip
            refine B rfl ?_
            refine And.intro (by omega) ?_
            show WP_ X G Q 0 0 ad SHS_ σ8 100 [(25, 30), (20, a1), (0, a2), (0, v3), (0, v4), (0, v5), (0, v6 + 1), (0, v7), (0, v8)] []
            refine B rfl ?_
            refine And.intro (by omega) ?_
            refine And.intro (fun h14 => ?_) (fun h14 => ?_)
            · skip
              refine B rfl ?_
              refine And.intro (by omega) ?_
              exact ih_22 v3 v4 (v5 + 1) (v6 + 1) v7 (v8 + 1) σ8 (fun k j hk => ((ups_r e9 (by omega)).trans (hf22 _ _ (by omega)))) (by show 0 ≤ v3; omega) (by show v3 ≤ (v8 + 1); omega) (by show 0 ≤ v4; omega) (by show v4 + 1 ≤ σ a1 3; omega) (by show 0 ≤ (v5 + 1); omega) (by show (v5 + 1) ≤ (v8 + 1); omega) (by show 0 ≤ (v6 + 1); omega) (by show (v6 + 1) + 1 ≤ σ a1 1; omega) (by show σ a1 1 ≤ 10; omega) (by show σ a1 3 ≤ 8; omega) (by show 0 ≤ v7; omega) (by show v7 ≤ 69; omega) (by show 0 ≤ (v8 + 1); omega) (by show (v8 + 1) ≤ 2000; omega) p10 (by omega)
            · skip
              show WP_ X G Q 0 0 ad SHS_ σ8 110 [(25, 30), (20, a1), (0, a2), (0, v3), (0, v4), (0, v5 + 1), (0, v6 + 1), (0, v7), (0, v8)] []
              refine B rfl ?_
              refine And.intro (by omega) ?_
              show WP_ X G Q 0 0 ad SHS_ σ8 116 [(25, 30), (20, a1), (0, a2), (0, v3), (0, v4 + 1), (0, 0), (0, v6 + 1), (0, v7), (0, v8)] []
              refine B rfl ?_
              intro z15 ez15 hz15
              have hz15 : (0 : Int) ≤ z15 ∧ z15 ≤ (8 : Int) := hz15
              try have t16 : σ8 a1 3 = σ a1 3 := ((ups_r e9 (by omega)).trans (hf22 _ _ (by omega)))
              refine And.intro (fun h17 => ?_) (fun h17 => ?_)
              · skip
                refine B rfl ?_
                refine Exists.intro (a1, v4 + 1, v3) (And.intro rfl (And.intro (And.intro (by show 0 ≤ (v4 + 1); omega) (And.intro (by show (v4 + 1) ≤ 7; omega) (by show 0 ≤ v3; omega))) ?_))
                rintro z18 m_ h19
                obtain rfl : σ8 = m_ := h19.2
                have h20 : 0 ≤ z18 ∧ z18 ≤ 69 := h19.1
                show WP_ X G Q 0 0 ad SHS_ σ8 140 [(25, 30), (20, a1), (0, a2), (0, v3), (0, v4 + 1), (0, 0), (0, v6 + 1), (0, z18), (0, v8)] []
                refine B rfl ?_
                refine And.intro (by omega) ?_
                exact ih_22 v3 (v4 + 1) 0 (v6 + 1) z18 (v8 + 1) σ8 (fun k j hk => ((ups_r e9 (by omega)).trans (hf22 _ _ (by omega)))) (by show 0 ≤ v3; omega) (by show v3 ≤ (v8 + 1); omega) (by show 0 ≤ (v4 + 1); omega) (by show (v4 + 1) + 1 ≤ σ a1 3; omega) (by show 0 ≤ 0; omega) (by show 0 ≤ (v8 + 1); omega) (by show 0 ≤ (v6 + 1); omega) (by show (v6 + 1) + 1 ≤ σ a1 1; omega) (by show σ a1 1 ≤ 10; omega) (by show σ a1 3 ≤ 8; omega) (by show 0 ≤ z18; omega) (by show z18 ≤ 69; omega) (by show 0 ≤ (v8 + 1); omega) (by show (v8 + 1) ≤ 2000; omega) p10 (by omega)
              · skip
                show WP_ X G Q 0 0 ad SHS_ σ8 125 [(25, 30), (20, a1), (0, a2), (0, v3), (0, v4 + 1), (0, 0), (0, v6 + 1), (0, v7), (0, v8)] []
                refine B rfl ?_
                refine And.intro (by omega) ?_
                show WP_ X G Q 0 0 ad SHS_ σ8 131 [(25, 30), (20, a1), (0, a2), (0, v3 + 1), (0, 0), (0, 0), (0, v6 + 1), (0, v7), (0, v8)] []
                refine B rfl ?_
                refine Exists.intro (a1, 0, v3 + 1) (And.intro rfl (And.intro (And.intro (by show 0 ≤ 0; omega) (And.intro (by show 0 ≤ 7; omega) (by show 0 ≤ (v3 + 1); omega))) ?_))
                rintro z21 m_ h22
                obtain rfl : σ8 = m_ := h22.2
                have h23 : 0 ≤ z21 ∧ z21 ≤ 69 := h22.1
                show WP_ X G Q 0 0 ad SHS_ σ8 140 [(25, 30), (20, a1), (0, a2), (0, v3 + 1), (0, 0), (0, 0), (0, v6 + 1), (0, z21), (0, v8)] []
                refine B rfl ?_
                refine And.intro (by omega) ?_
                exact ih_22 (v3 + 1) 0 0 (v6 + 1) z21 (v8 + 1) σ8 (fun k j hk => ((ups_r e9 (by omega)).trans (hf22 _ _ (by omega)))) (by show 0 ≤ (v3 + 1); omega) (by show (v3 + 1) ≤ (v8 + 1); omega) (by show 0 ≤ 0; omega) (by show 0 + 1 ≤ σ a1 3; omega) (by show 0 ≤ 0; omega) (by show 0 ≤ (v8 + 1); omega) (by show 0 ≤ (v6 + 1); omega) (by show (v6 + 1) + 1 ≤ σ a1 1; omega) (by show σ a1 1 ≤ 10; omega) (by show σ a1 3 ≤ 8; omega) (by show 0 ≤ z21; omega) (by show z21 ≤ 69; omega) (by show 0 ≤ (v8 + 1); omega) (by show (v8 + 1) ≤ 2000; omega) p10 (by omega)
          · skip
            show WP_ X G Q 0 0 ad SHS_ σ8 90 [(25, 30), (20, a1), (0, a2), (0, v3), (0, v4), (0, v5), (0, v6), (0, v7), (0, v8)] []
            refine B rfl ?_
            refine B rfl ?_
            show WP_ X G Q 0 0 ad SHS_ σ8 100 [(25, 30), (20, a1), (0, a2), (0, v3), (0, v4), (0, v5), (0, 0), (0, v7), (0, v8)] []
            refine B rfl ?_
            refine And.intro (by omega) ?_
            refine And.intro (fun h24 => ?_) (fun h24 => ?_)
            · skip
              refine B rfl ?_
              refine And.intro (by omega) ?_
              exact ih_22 v3 v4 (v5 + 1) 0 v7 (v8 + 1) σ8 (fun k j hk => ((ups_r e9 (by omega)).trans (hf22 _ _ (by omega)))) (by show 0 ≤ v3; omega) (by show v3 ≤ (v8 + 1); omega) (by show 0 ≤ v4; omega) (by show v4 + 1 ≤ σ a1 3; omega) (by show 0 ≤ (v5 + 1); omega) (by show (v5 + 1) ≤ (v8 + 1); omega) (by show 0 ≤ 0; omega) (by show 0 + 1 ≤ σ a1 1; omega) (by show σ a1 1 ≤ 10; omega) (by show σ a1 3 ≤ 8; omega) (by show 0 ≤ v7; omega) (by show v7 ≤ 69; omega) (by show 0 ≤ (v8 + 1); omega) (by show (v8 + 1) ≤ 2000; omega) p10 (by omega)
            · skip
              show WP_ X G Q 0 0 ad SHS_ σ8 110 [(25, 30), (20, a1), (0, a2), (0, v3), (0, v4), (0, v5 + 1), (0, 0), (0, v7), (0, v8)] []
              refine B rfl ?_
              refine And.intro (by omega) ?_
              show WP_ X G Q 0 0 ad SHS_ σ8 116 [(25, 30), (20, a1), (0, a2), (0, v3), (0, v4 + 1), (0, 0), (0, 0), (0, v7), (0, v8)] []
              refine B rfl ?_
              intro z25 ez25 hz25
              have hz25 : (0 : Int) ≤ z25 ∧ z25 ≤ (8 : Int) := hz25
              try have t26 : σ8 a1 3 = σ a1 3 := ((ups_r e9 (by omega)).trans (hf22 _ _ (by omega)))
              refine And.intro (fun h27 => ?_) (fun h27 => ?_)
              · skip
                refine B rfl ?_
                refine Exists.intro (a1, v4 + 1, v3) (And.intro rfl (And.intro (And.intro (by show 0 ≤ (v4 + 1); omega) (And.intro (by show (v4 + 1) ≤ 7; omega) (by show 0 ≤ v3; omega))) ?_))
                rintro z28 m_ h29
                obtain rfl : σ8 = m_ := h29.2
                have h30 : 0 ≤ z28 ∧ z28 ≤ 69 := h29.1
                show WP_ X G Q 0 0 ad SHS_ σ8 140 [(25, 30), (20, a1), (0, a2), (0, v3), (0, v4 + 1), (0, 0), (0, 0), (0, z28), (0, v8)] []
                refine B rfl ?_
                refine And.intro (by omega) ?_
                exact ih_22 v3 (v4 + 1) 0 0 z28 (v8 + 1) σ8 (fun k j hk => ((ups_r e9 (by omega)).trans (hf22 _ _ (by omega)))) (by show 0 ≤ v3; omega) (by show v3 ≤ (v8 + 1); omega) (by show 0 ≤ (v4 + 1); omega) (by show (v4 + 1) + 1 ≤ σ a1 3; omega) (by show 0 ≤ 0; omega) (by show 0 ≤ (v8 + 1); omega) (by show 0 ≤ 0; omega) (by show 0 + 1 ≤ σ a1 1; omega) (by show σ a1 1 ≤ 10; omega) (by show σ a1 3 ≤ 8; omega) (by show 0 ≤ z28; omega) (by show z28 ≤ 69; omega) (by show 0 ≤ (v8 + 1); omega) (by show (v8 + 1) ≤ 2000; omega) p10 (by omega)
              · skip
                show WP_ X G Q 0 0 ad SHS_ σ8 125 [(25, 30), (20, a1), (0, a2), (0, v3), (0, v4 + 1), (0, 0), (0, 0), (0, v7), (0, v8)] []
                refine B rfl ?_
                refine And.intro (by omega) ?_
                show WP_ X G Q 0 0 ad SHS_ σ8 131 [(25, 30), (20, a1), (0, a2), (0, v3 + 1), (0, 0), (0, 0), (0, 0), (0, v7), (0, v8)] []
                refine B rfl ?_
                refine Exists.intro (a1, 0, v3 + 1) (And.intro rfl (And.intro (And.intro (by show 0 ≤ 0; omega) (And.intro (by show 0 ≤ 7; omega) (by show 0 ≤ (v3 + 1); omega))) ?_))
                rintro z31 m_ h32
                obtain rfl : σ8 = m_ := h32.2
                have h33 : 0 ≤ z31 ∧ z31 ≤ 69 := h32.1
                show WP_ X G Q 0 0 ad SHS_ σ8 140 [(25, 30), (20, a1), (0, a2), (0, v3 + 1), (0, 0), (0, 0), (0, 0), (0, z31), (0, v8)] []
                refine B rfl ?_
                refine And.intro (by omega) ?_
                exact ih_22 (v3 + 1) 0 0 0 z31 (v8 + 1) σ8 (fun k j hk => ((ups_r e9 (by omega)).trans (hf22 _ _ (by omega)))) (by show 0 ≤ (v3 + 1); omega) (by show (v3 + 1) ≤ (v8 + 1); omega) (by show 0 ≤ 0; omega) (by show 0 + 1 ≤ σ a1 3; omega) (by show 0 ≤ 0; omega) (by show 0 ≤ (v8 + 1); omega) (by show 0 ≤ 0; omega) (by show 0 + 1 ≤ σ a1 1; omega) (by show σ a1 1 ≤ 10; omega) (by show σ a1 3 ≤ 8; omega) (by show 0 ≤ z31; omega) (by show z31 ≤ 69; omega) (by show 0 ≤ (v8 + 1); omega) (by show (v8 + 1) ≤ 2000; omega) p10 (by omega)
        · skip
          show WP_ X G Q 0 0 ad SHS_ τ22 39 [(25, 30), (20, a1), (0, a2), (0, v3), (0, v4), (0, v5), (0, v6), (0, v7), (0, v8)] []
          refine B rfl ?_
          refine And.intro (by omega) ?_
          refine And.intro (by omega) ?_
          refine And.intro (rng_ (a := (-1)) (b := 2147483647) (by omega) (by decide +kernel) (by decide +kernel)) ?_
          intro σ34 e35
          have p36 : DT σ34 := DT_st hi22_14 e35 (by omega)
          refine B rfl ?_
          refine And.intro (by omega) ?_
          exact ih_22 v3 v4 v5 v6 v7 (v8 + 1) σ34 (fun k j hk => ((ups_r e35 (by omega)).trans (hf22 _ _ (by omega)))) (by show 0 ≤ v3; omega) (by show v3 ≤ (v8 + 1); omega) (by show 0 ≤ v4; omega) (by show v4 + 1 ≤ σ a1 3; omega) (by show 0 ≤ v5; omega) (by show v5 ≤ (v8 + 1); omega) (by show 0 ≤ v6; omega) (by show v6 + 1 ≤ σ a1 1; omega) (by show σ a1 1 ≤ 10; omega) (by show σ a1 3 ≤ 8; omega) (by show 0 ≤ v7; omega) (by show v7 ≤ 69; omega) (by show 0 ≤ (v8 + 1); omega) (by show (v8 + 1) ≤ 2000; omega) p36 (by omega)
  exact lp_22 ((2000 - 0 : Int).toNat + 1) 0 0 0 0 z1 0 σ (fun k j hk => rfl) (by show 0 ≤ 0; omega) (by show 0 ≤ 0; omega) (by show 0 ≤ 0; omega) (by show 0 + 1 ≤ σ a1 3; omega) (by show 0 ≤ 0; omega) (by show 0 ≤ 0; omega) (by show 0 ≤ 0; omega) (by show 0 + 1 ≤ σ a1 1; omega) (by show σ a1 1 ≤ 10; omega) (by show σ a1 3 ≤ 8; omega) (by show 0 ≤ z1; omega) (by show z1 ≤ 69; omega) (by show 0 ≤ 0; omega) (by show 0 ≤ 2000; omega) hp0 (by omega)
