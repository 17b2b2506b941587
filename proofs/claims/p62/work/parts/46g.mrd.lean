def as_G_X11_war : Unit → List Sv_t := fun a => [(42, 86)]
def pre_G_X11_war : Unit → Me_t → Prop := fun a σ => (MI σ)
def post_G_X11_war : Unit → Me_t → Int → Me_t → Prop := fun a σ z σ' => (MI σ') ∧ (∀ k j : Int, ¬ (k = 86 ∨ k = 87 ∨ k = 92) → σ' k j = σ k j)
set_option maxHeartbeats 3000000 in
set_option maxRecDepth 100000 in
theorem ct_G_X11_war (l : Launch) : CT_ l yX11_war cX11_war 2 (some .int) 12 258 as_G_X11_war (rmI_) pre_G_X11_war post_G_X11_war := by
  refine ct_of (by decide) (fun _ => Nat.le_of_ble_eq_true rfl) ?_
  intro X G Q ad σ a hl hR E hG R hM hv hp
  have hp0 : MI σ := hp
  have B := @bk_ X G Q 0 0 ad SHS_ RX11 cX11_war 2 (some .int) flX11 plX11 knX11 [(326, 1, TR_ as_G_X11_advance (rmV_) pre_G_X11_advance post_G_X11_advance), (294, 1, TR_ as_G_X11_good (rmI_) pre_G_X11_good post_G_X11_good), (460, 1, TR_ as_G_X11_readLine (rmV_) pre_G_X11_readLine post_G_X11_readLine)] _ _ none kX11_war [30, 37, 54, 61, 68, 82, 87, 94] flX11_ok plX11_ok knX11_ok eX11_war oX11_war
    (List.forall_mem_cons.mpr ⟨cok_v (t := 32) (c := 11) (N := 39) (n := 0) (idx := 163) E (ct_G_X11_advance X.2.1) (by rw [hR]; decide) (Nat.zero_le _) (Nat.zero_le _) hG rfl rfl ⟨rfl, by decide, by decide, by decide⟩ (fun _ => ⟨_, _, rfl, rfl⟩) wl_X11_163 wi_X11_advance ws_X11_advance wn_X11 wc_X11_advance, List.forall_mem_cons.mpr ⟨cok_v (t := 32) (c := 11) (N := 39) (n := 0) (idx := 147) E (ct_G_X11_good X.2.1) (by rw [hR]; decide) (Nat.zero_le _) (Nat.zero_le _) hG rfl rfl ⟨rfl, by decide, by decide, by decide⟩ (fun _ => ⟨_, _, rfl, rfl⟩) wl_X11_147 wi_X11_good ws_X11_good wn_X11 wc_X11_good, List.forall_mem_cons.mpr ⟨cok_v (t := 32) (c := 11) (N := 39) (n := 0) (idx := 230) E (ct_G_X11_readLine X.2.1) (by rw [hR]; decide) (Nat.zero_le _) (Nat.zero_le _) hG rfl rfl ⟨rfl, by decide, by decide, by decide⟩ (fun _ => ⟨_, _, rfl, rfl⟩) wl_X11_230 wi_X11_readLine ws_X11_readLine wn_X11 wc_X11_readLine, fun _ h => absurd h List.not_mem_nil⟩⟩⟩) R sok_no E
  show WP_ X G Q 0 0 ad SHS_ σ 0 [(42, 86), (9, 0)] []
  refine B rfl ?_
  intro z1 ez1 hz1
  have hz1 : (0 : Int) ≤ z1 ∧ z1 ≤ (1200 : Int) := hz1
  refine And.intro (by omega) ?_
  intro σ2 e3
  refine And.intro (by omega) ?_
  intro σ4 e5
  refine And.intro (by omega) ?_
  intro σ6 e7
  refine And.intro (by omega) ?_
  intro σ8 e9
  refine And.intro (by omega) ?_
  intro σ10 e11
  have lp_30 : ∀ (nq_ : Nat) (v1 : Int) (τ30 : Me_t), (∀ k j : Int, ¬ (k = 86 ∨ k = 87 ∨ k = 92) → τ30 k j = σ k j) → (0 ≤ v1) → (v1 ≤ 495) → (τ30 86 8 = 0) → (τ30 86 12 = 0) → (0 ≤ τ30 86 7 ∧ τ30 86 7 ≤ 1200) → (∀ j : Int, 0 ≤ j → j < v1 → τ30 92 j = 0) → (MI τ30) → (495 - v1 : Int).toNat < nq_ → WP_ X G Q 0 0 ad SHS_ τ30 30 [(42, 86), (0, v1)] [] := by
    intro nq_
    induction nq_ with
    | zero => intros; omega
    | succ nq_ ih_30 =>
      intro v1 τ30 hf30 hi30_0 hi30_1 hi30_2 hi30_3 hi30_4 hi30_5 hi30_6 hm30
      refine B rfl ?_
      refine And.intro (fun h12 => ?_) (fun h12 => ?_)
      · skip
        refine B rfl ?_
        have bz : ∀ j : Int, 0 ≤ j → j < 495 → τ30 92 j = 0 := fun j h1 h2 => hi30_5 j h1 (by omega)
        have bw0 : BW τ30 92 := BW_0 bz
        have bz1 := bz 1 (by omega) (by omega)
        have bz4 := bz 4 (by omega) (by omega)
        have bz5 := bz 5 (by omega) (by omega)
        have sw0 : SW τ30 92 := fun l h0 h1 h2 => by omega
        try have t13 : τ30 86 10 = σ 86 10 := (hf30 _ _ (by omega))
        try have t14 : τ30 86 11 = σ 86 11 := (hf30 _ _ (by omega))
        refine Exists.intro () (And.intro rfl (And.intro (by show τ30 86 8 ≤ τ30 86 7; omega) ?_))
        intro z15 σ17 h16
        have f18 : ∀ k j : Int, ¬ (k = 86) → σ17 k j = τ30 k j := h16.2.2.2.2.2.2
        have h19 : σ17 86 9 ≤ σ17 86 8 := h16.1
        have h20 : σ17 86 8 ≤ σ17 86 7 := h16.2.1
        have h21 : σ17 86 7 = τ30 86 7 := h16.2.2.1
        have h22 : τ30 86 8 ≤ σ17 86 8 ∧ (τ30 86 8 < σ17 86 8 ∨ σ17 86 10 ≤ τ30 86 10) := h16.2.2.2.1
        have h23 : σ17 86 12 = τ30 86 12 := h16.2.2.2.2.1
        have h24 : (τ30 86 8 < σ17 86 8 ∨ σ17 86 10 ≤ 0) := h16.2.2.2.2.2.1
        show WP_ X G Q 0 0 ad SHS_ σ17 54 [(42, 86), (0, v1)] []
        refine wdrop_ (L' := [(42, 86), (9, 0)]) ⟨Or.inr rfl, ⟨Or.inl rfl, trivial⟩⟩ ?_
        have lp_54 : ∀ (nq_ : Nat)  (τ54 : Me_t), (∀ k j : Int, ¬ (k = 86 ∨ k = 87 ∨ k = 92) → τ54 k j = σ k j) → (τ54 86 9 ≤ τ54 86 8) → (τ54 86 8 ≤ τ54 86 7) → (BW τ54 92) → (τ54 86 12 = 0 → SW τ54 92) → (τ54 92 5 = 0) → (τ54 86 12 ≠ 0 ∨ τ54 86 10 ≤ 0 ∨ τ54 92 4 ≤ τ54 86 8) → (MI τ54) → (τ54 86 7 ≤ 1200) → (5 * (τ54 86 7 - τ54 86 8) + τ54 86 10 - τ54 86 12 + 3 : Int).toNat < nq_ → WP_ X G Q 0 0 ad SHS_ τ54 54 [(42, 86), (9, 0)] [] := by
          intro nq_
          induction nq_ with
          | zero => intros; omega
          | succ nq_ ih_54 =>
            intro  τ54 hf54 hi54_0 hi54_1 hi54_2 hi54_3 hi54_4 hi54_5 hi54_6 hi54_7 hm54
            refine B rfl ?_
            try have t25 : τ54 86 11 = σ 86 11 := (hf54 _ _ (by omega))
            refine Exists.intro () (And.intro rfl (And.intro True.intro ?_))
            rintro z26 m_ h27
            obtain rfl : τ54 = m_ := h27.2
            have h28 : (z26 = 1 ∧ τ54 86 12 = 0) ∨ (z26 = 0 ∧ τ54 86 12 ≠ 0) := h27.1
            refine And.intro (fun h29 => ?_) (fun h29 => ?_)
            · skip
              refine B rfl ?_
              refine Exists.intro () (And.intro rfl (And.intro True.intro ?_))
              rintro z30 m_ h31
              obtain rfl : τ54 = m_ := h31.2
              have h32 : (z30 = 1 ∧ τ54 86 12 = 0) ∨ (z30 = 0 ∧ τ54 86 12 ≠ 0) := h31.1
              refine And.intro (fun h33 => ?_) (fun h33 => ?_)
              · skip
                refine B rfl ?_
                have sw75 : SW τ54 92 := hi54_3 (by omega)
                have lp_87 : ∀ (nq_ : Nat) (v1 : Int) (τ87 : Me_t), (∀ k j : Int, ¬ (k = 86 ∨ k = 87 ∨ k = 92) → τ87 k j = σ k j) → (0 ≤ v1) → (v1 ≤ 495) → (BW τ87 92) → (SW τ87 92) → (τ87 92 5 = 0) → (∀ i : Int, 0 ≤ i → i < v1 → τ87 87 i = τ87 92 i) → (495 - v1 : Int).toNat < nq_ → WP_ X G Q 0 0 ad SHS_ τ87 87 [(42, 86), (0, v1)] [] := by
                  intro nq_
                  induction nq_ with
                  | zero => intros; omega
                  | succ nq_ ih_87 =>
                    intro v1 τ87 hf87 hi87_0 hi87_1 hi87_2 hi87_3 hi87_4 hi87_5 hm87
                    refine B rfl ?_
                    refine And.intro (fun h34 => ?_) (fun h34 => ?_)
                    · skip
                      refine B rfl ?_
                      refine And.intro (by omega) ?_
                      intro z35 ez35 hz35
                      have hz35 : ((-1) : Int) ≤ z35 ∧ z35 ≤ (1999 : Int) := hz35
                      try have t36 : τ87 87 4 = σ 87 4 := (hf87 _ _ (by omega))
                      refine Exists.intro _ (And.intro rfl ?_)
                      exact (And.intro (by show MI τ87; exact ⟨WB_cg (f := τ87 92) (fun i h0 h1 => hi87_5 i h0 (by omega)) ⟨hi87_2, hi87_3, UM_0 hi87_4 (wrh_ hi87_2 (i := 2) (by omega)) (wrh_ hi87_2 (i := 3) (by omega))⟩, fun k k0 k1 => WB_cg (fun i _ _ => (hf87 _ _ (by omega))) (hp0.2 k k0 k1)⟩) (fun k j hk => (hf87 _ _ (by omega))))
                    · skip
                      show WP_ X G Q 0 0 ad SHS_ τ87 94 [(42, 86), (0, v1)] []
                      refine B rfl ?_
                      refine And.intro (by omega) ?_
                      intro z37 ez37 hz37
                      have hz37 : ((-1) : Int) ≤ z37 ∧ z37 ≤ (1999 : Int) := hz37
                      try have t38 : τ87 92 v1 = σ 92 v1 := (hf87 _ _ (by omega))
                      refine And.intro (by omega) ?_
                      refine And.intro (by show ((-1) : Int) ≤ _ ∧ _ ≤ (1999 : Int); omega) ?_
                      intro σ39 e40
                      refine And.intro (by omega) ?_
                      have p41 : BW σ39 92 := BW_fr hi87_2 (fun k j hk => (ups_r e40 (by omega)))
                      have p42 : SW σ39 92 := SW_fr hi87_3 (fun k j hk => (ups_r e40 (by omega)))
                      try have t43 : σ39 92 5 = τ87 92 5 := (ups_r e40 (by omega))
                      exact ih_87 (v1 + 1) σ39 (fun k j hk => ((ups_r e40 (by omega)).trans (hf87 _ _ (by omega)))) (by show 0 ≤ (v1 + 1); omega) (by show (v1 + 1) ≤ 495; omega) p41 p42 (by show σ39 92 5 = 0; omega) (by show ∀ i : Int, 0 ≤ i → i < (v1 + 1) → σ39 87 i = σ39 92 i; intro i h1 h2; rw [show σ39 92 i = τ87 92 i from ups_r e40 (by omega)]; by_cases hj : i = v1; (subst hj; rw [ups_v e40]; assumption); exact (ups_r e40 (by omega)).trans (hi87_5 i h1 (by omega))) (by omega)
                exact lp_87 ((495 - 0 : Int).toNat + 1) 0 τ54 (fun k j hk => (hf54 _ _ (by omega))) (by show 0 ≤ 0; omega) (by show 0 ≤ 495; omega) hi54_2 sw75 (by show τ54 92 5 = 0; omega) (by show ∀ i : Int, 0 ≤ i → i < 0 → τ54 87 i = τ54 92 i; intro i h1 h2; omega) (by omega)
              · skip
                show WP_ X G Q 0 0 ad SHS_ τ54 82 [(42, 86), (9, 0)] []
                refine B rfl ?_
                refine Exists.intro _ (And.intro rfl ?_)
                exact (And.intro hi54_6 (fun k j hk => (hf54 _ _ (by omega))))
            · skip
              show WP_ X G Q 0 0 ad SHS_ τ54 61 [(42, 86), (9, 0)] []
              refine B rfl ?_
              intro z44 ez44 hz44
              have hz44 : (0 : Int) ≤ z44 ∧ z44 ≤ (4 : Int) := hz44
              refine And.intro (fun h45 => ?_) (fun h45 => ?_)
              · skip
                refine B rfl ?_
                refine Exists.intro () (And.intro rfl (And.intro True.intro ?_))
                rintro z46 m_ h47
                obtain rfl : τ54 = m_ := h47.2
                have h48 : (z46 = 1 ∧ τ54 86 12 = 0) ∨ (z46 = 0 ∧ τ54 86 12 ≠ 0) := h47.1
                refine And.intro (fun h49 => ?_) (fun h49 => ?_)
                · skip
                  refine B rfl ?_
                  have sw75 : SW τ54 92 := hi54_3 (by omega)
                  have lp_87 : ∀ (nq_ : Nat) (v1_1 : Int) (τ87_2 : Me_t), (∀ k j : Int, ¬ (k = 86 ∨ k = 87 ∨ k = 92) → τ87_2 k j = σ k j) → (0 ≤ v1_1) → (v1_1 ≤ 495) → (BW τ87_2 92) → (SW τ87_2 92) → (τ87_2 92 5 = 0) → (∀ i : Int, 0 ≤ i → i < v1_1 → τ87_2 87 i = τ87_2 92 i) → (495 - v1_1 : Int).toNat < nq_ → WP_ X G Q 0 0 ad SHS_ τ87_2 87 [(42, 86), (0, v1_1)] [] := by
                    intro nq_
                    induction nq_ with
                    | zero => intros; omega
                    | succ nq_ ih_87 =>
                      intro v1_1 τ87_2 hf87 hi87_0 hi87_1 hi87_2 hi87_3 hi87_4 hi87_5 hm87
                      refine B rfl ?_
                      refine And.intro (fun h50 => ?_) (fun h50 => ?_)
                      · skip
                        refine B rfl ?_
                        refine And.intro (by omega) ?_
                        intro z51 ez51 hz51
                        have hz51 : ((-1) : Int) ≤ z51 ∧ z51 ≤ (1999 : Int) := hz51
                        try have t52 : τ87_2 87 4 = σ 87 4 := (hf87 _ _ (by omega))
                        refine Exists.intro _ (And.intro rfl ?_)
                        exact (And.intro (by show MI τ87_2; exact ⟨WB_cg (f := τ87_2 92) (fun i h0 h1 => hi87_5 i h0 (by omega)) ⟨hi87_2, hi87_3, UM_0 hi87_4 (wrh_ hi87_2 (i := 2) (by omega)) (wrh_ hi87_2 (i := 3) (by omega))⟩, fun k k0 k1 => WB_cg (fun i _ _ => (hf87 _ _ (by omega))) (hp0.2 k k0 k1)⟩) (fun k j hk => (hf87 _ _ (by omega))))
                      · skip
                        show WP_ X G Q 0 0 ad SHS_ τ87_2 94 [(42, 86), (0, v1_1)] []
                        refine B rfl ?_
                        refine And.intro (by omega) ?_
                        intro z53 ez53 hz53
                        have hz53 : ((-1) : Int) ≤ z53 ∧ z53 ≤ (1999 : Int) := hz53
                        try have t54 : τ87_2 92 v1_1 = σ 92 v1_1 := (hf87 _ _ (by omega))
                        refine And.intro (by omega) ?_
                        refine And.intro (by show ((-1) : Int) ≤ _ ∧ _ ≤ (1999 : Int); omega) ?_
                        intro σ55 e56
                        refine And.intro (by omega) ?_
                        have p57 : BW σ55 92 := BW_fr hi87_2 (fun k j hk => (ups_r e56 (by omega)))
                        have p58 : SW σ55 92 := SW_fr hi87_3 (fun k j hk => (ups_r e56 (by omega)))
                        try have t59 : σ55 92 5 = τ87_2 92 5 := (ups_r e56 (by omega))
                        exact ih_87 (v1_1 + 1) σ55 (fun k j hk => ((ups_r e56 (by omega)).trans (hf87 _ _ (by omega)))) (by show 0 ≤ (v1_1 + 1); omega) (by show (v1_1 + 1) ≤ 495; omega) p57 p58 (by show σ55 92 5 = 0; omega) (by show ∀ i : Int, 0 ≤ i → i < (v1_1 + 1) → σ55 87 i = σ55 92 i; intro i h1 h2; rw [show σ55 92 i = τ87_2 92 i from ups_r e56 (by omega)]; by_cases hj : i = v1_1; (subst hj; rw [ups_v e56]; assumption); exact (ups_r e56 (by omega)).trans (hi87_5 i h1 (by omega))) (by omega)
                  exact lp_87 ((495 - 0 : Int).toNat + 1) 0 τ54 (fun k j hk => (hf54 _ _ (by omega))) (by show 0 ≤ 0; omega) (by show 0 ≤ 495; omega) hi54_2 sw75 (by show τ54 92 5 = 0; omega) (by show ∀ i : Int, 0 ≤ i → i < 0 → τ54 87 i = τ54 92 i; intro i h1 h2; omega) (by omega)
                · skip
                  show WP_ X G Q 0 0 ad SHS_ τ54 82 [(42, 86), (9, 0)] []
                  refine B rfl ?_
                  refine Exists.intro _ (And.intro rfl ?_)
                  exact (And.intro hi54_6 (fun k j hk => (hf54 _ _ (by omega))))
              · skip
                show WP_ X G Q 0 0 ad SHS_ τ54 68 [(42, 86), (9, 0)] []
                refine B rfl ?_
                have hb4 := wrh_ hi54_2 (i := 4) (by omega)
                have e4 : hdhi_ 4 = 1300 := rfl
                have hsw4 : SW τ54 92 := hi54_3 (by omega)
                refine Exists.intro () (And.intro rfl (And.intro (And.intro (by show τ54 86 9 ≤ τ54 86 8; omega) (And.intro (by show τ54 86 8 ≤ τ54 86 7; omega) (And.intro hi54_2 (And.intro hsw4 (by show τ54 92 4 ≤ 1200; omega))))) ?_))
                intro z60 σ62 h61
                have f63 : ∀ k j : Int, ¬ (k = 86 ∨ k = 92) → σ62 k j = τ54 k j := h61.2.2.2.2.2.2.2.2.2
                have h64 : σ62 86 9 ≤ σ62 86 8 := h61.1
                have h65 : σ62 86 8 ≤ σ62 86 7 := h61.2.1
                have h66 : σ62 86 7 = τ54 86 7 := h61.2.2.1
                have h67 : τ54 86 8 ≤ σ62 86 8 ∧ (τ54 86 8 < σ62 86 8 ∨ σ62 86 10 ≤ τ54 86 10) := h61.2.2.2.1
                have h68 : BW σ62 92 := h61.2.2.2.2.1
                have h69 : σ62 86 12 = 0 → (τ54 86 8 < σ62 86 8 ∨ σ62 86 10 ≤ 0) := h61.2.2.2.2.2.1
                have h70 : σ62 86 12 = 0 → SW σ62 92 := h61.2.2.2.2.2.2.1
                have h71 : σ62 92 4 = τ54 92 4 + 1 := h61.2.2.2.2.2.2.2.1
                have h72 : σ62 92 5 = τ54 92 5 := h61.2.2.2.2.2.2.2.2.1
                have hsl : σ62 86 12 = 0 → SW σ62 92 := h61.2.2.2.2.2.2.1
                refine wmt_ (fun hm_ => ?_)
                have rg0 := rgf_ (t := 32) (j := 10) hm_ (hv (42, 86) (List.mem_of_getElem? (i := 0) rfl)) (by decide)
                have rg0 : (0 : Int) ≤ σ62 86 10 ∧ σ62 86 10 ≤ (4 : Int) := rg0
                have rg1 := rgf_ (t := 32) (j := 12) hm_ (hv (42, 86) (List.mem_of_getElem? (i := 0) rfl)) (by decide)
                have rg1 : (0 : Int) ≤ σ62 86 12 ∧ σ62 86 12 ≤ (3 : Int) := rg1
                have p73 : MI σ62 := MI_fr hi54_6 (fun k j hk => (f63 _ _ (by omega)))
                exact ih_54  σ62 (fun k j hk => ((f63 _ _ (by omega)).trans (hf54 _ _ (by omega)))) (by show σ62 86 9 ≤ σ62 86 8; omega) (by show σ62 86 8 ≤ σ62 86 7; omega) h68 (by show σ62 86 12 = 0 → SW σ62 92; exact hsl) (by show σ62 92 5 = 0; omega) (by show σ62 86 12 ≠ 0 ∨ σ62 86 10 ≤ 0 ∨ σ62 92 4 ≤ σ62 86 8; omega) p73 (by show σ62 86 7 ≤ 1200; omega) (by omega)
        have p74 : BW σ17 92 := BW_fr bw0 (fun k j hk => (f18 _ _ (by omega)))
        have p75 : SW σ17 92 := SW_fr sw0 (fun k j hk => (f18 _ _ (by omega)))
        try have t76 : σ17 92 5 = τ30 92 5 := (f18 _ _ (by omega))
        try have t77 : σ17 92 4 = τ30 92 4 := (f18 _ _ (by omega))
        have p78 : MI σ17 := MI_fr hi30_6 (fun k j hk => (f18 _ _ (by omega)))
        exact lp_54 ((5 * (σ17 86 7 - σ17 86 8) + σ17 86 10 - σ17 86 12 + 3 : Int).toNat + 1)  σ17 (fun k j hk => ((f18 _ _ (by omega)).trans (hf30 _ _ (by omega)))) (by show σ17 86 9 ≤ σ17 86 8; omega) (by show σ17 86 8 ≤ σ17 86 7; omega) p74 (by show σ17 86 12 = 0 → SW σ17 92; exact fun _ => p75) (by show σ17 92 5 = 0; omega) (by show σ17 86 12 ≠ 0 ∨ σ17 86 10 ≤ 0 ∨ σ17 92 4 ≤ σ17 86 8; omega) p78 (by show σ17 86 7 ≤ 1200; omega) (by omega)
      · skip
        show WP_ X G Q 0 0 ad SHS_ τ30 37 [(42, 86), (0, v1)] []
        refine B rfl ?_
        refine And.intro (by omega) ?_
        refine And.intro (by show ((-1) : Int) ≤ _ ∧ _ ≤ (1999 : Int); omega) ?_
        intro σ79 e80
        refine And.intro (by omega) ?_
        try have t81 : σ79 86 8 = τ30 86 8 := (ups_r e80 (by omega))
        try have t82 : σ79 86 12 = τ30 86 12 := (ups_r e80 (by omega))
        try have t83 : σ79 86 7 = τ30 86 7 := (ups_r e80 (by omega))
        have p84 : MI σ79 := MI_fr hi30_6 (fun k j hk => (ups_r e80 (by omega)))
        exact ih_30 (v1 + 1) σ79 (fun k j hk => ((ups_r e80 (by omega)).trans (hf30 _ _ (by omega)))) (by show 0 ≤ (v1 + 1); omega) (by show (v1 + 1) ≤ 495; omega) (by show σ79 86 8 = 0; omega) (by show σ79 86 12 = 0; omega) (by show 0 ≤ σ79 86 7 ∧ σ79 86 7 ≤ 1200; omega) (by show ∀ j : Int, 0 ≤ j → j < (v1 + 1) → σ79 92 j = 0; intro j h1 h2; by_cases hj : j = v1; subst hj; exact ups_v e80; exact (ups_r e80 (by omega)).trans (hi30_5 j h1 (by omega))) p84 (by omega)
  have t85 : σ10 86 8 = 0 := (((ups_r e11 (by omega)).trans (ups_r e9 (by omega)))).trans (ups_v e7)
  have t86 : σ10 86 12 = 0 := ((ups_r e11 (by omega))).trans (ups_v e9)
  have t87 : σ10 86 7 = z1 := (((ups_r e11 (by omega)).trans ((ups_r e9 (by omega)).trans ((ups_r e7 (by omega)).trans (ups_r e5 (by omega)))))).trans (ups_v e3)
  have p88 : MI σ10 := MI_fr hp0 (fun k j hk => ((ups_r e11 (by omega)).trans ((ups_r e9 (by omega)).trans ((ups_r e7 (by omega)).trans ((ups_r e5 (by omega)).trans (ups_r e3 (by omega)))))))
  exact lp_30 ((495 - 0 : Int).toNat + 1) 0 σ10 (fun k j hk => ((ups_r e11 (by omega)).trans ((ups_r e9 (by omega)).trans ((ups_r e7 (by omega)).trans ((ups_r e5 (by omega)).trans (ups_r e3 (by omega))))))) (by show 0 ≤ 0; omega) (by show 0 ≤ 495; omega) (by show σ10 86 8 = 0; omega) (by show σ10 86 12 = 0; omega) (by show 0 ≤ σ10 86 7 ∧ σ10 86 7 ≤ 1200; omega) (by show ∀ j : Int, 0 ≤ j → j < 0 → σ10 92 j = 0; intro j h1 h2; omega) p88 (by omega)
