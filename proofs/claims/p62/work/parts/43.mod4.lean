def as_G_X11_asksOrders : Int → List Sv_t := fun a => [(42, 86), (0, a)]
def pre_G_X11_asksOrders : Int → Me_t → Prop := fun a σ => (MI σ)
def post_G_X11_asksOrders : Int → Me_t → Int → Me_t → Prop := fun a σ z σ' => (z < 0 ∨ (0 ≤ a ∧ a ≤ 3 ∧ 0 ≤ σ 102 a ∧ σ 102 a ≤ 60 ∧ OD σ a)) ∧ (σ = σ')
set_option maxHeartbeats 1500000 in
set_option maxRecDepth 100000 in
theorem ct_G_X11_asksOrders (l : Launch) : CT_ l yX11_asksOrders cX11_asksOrders 3 (some .int) 5 117 as_G_X11_asksOrders (rmI_) pre_G_X11_asksOrders post_G_X11_asksOrders := by
  refine ct_of (by decide) (fun _ => Nat.le_of_ble_eq_true rfl) ?_
  intro X G Q ad σ a hl hR E hG R hM hv hp
  obtain ⟨a1, rfl⟩ : ∃ q : Int, q = a := ⟨_, rfl⟩
  have r_a1 : -2147483648 ≤ a1 ∧ a1 ≤ 2147483647 := hv (0, a1) (List.mem_of_getElem? (i := 1) rfl)
  have hp0 : MI σ := hp
  have B := @bk_ X G Q 0 0 ad SHS_ RX11 cX11_asksOrders 3 (some .int) flX11 plX11 knX11 [(723, 1, TR_ as_G_X11_isSlot (rmI_) pre_G_X11_isSlot post_G_X11_isSlot), (184, 1, TR_ as_G_X11_isWar (rmI_) pre_G_X11_isWar post_G_X11_isWar), (708, 3, TR_ as_G_X11_numberAt (rmL_) pre_G_X11_numberAt post_G_X11_numberAt), (166, 2, TR_ as_G_X11_isLand (rmI_) pre_G_X11_isLand post_G_X11_isLand), (716, 3, TR_ as_G_X11_intAt (rmI_) pre_G_X11_intAt post_G_X11_intAt), (556, 5, TR_ as_G_X11_isDate (rmI_) pre_G_X11_isDate post_G_X11_isDate), (728, 3, TR_ as_G_X11_dayAt (rmI_) pre_G_X11_dayAt post_G_X11_dayAt)] _ _ none kX11_asksOrders [7, 14, 27, 41, 46, 56, 69, 106, 123] flX11_ok plX11_ok knX11_ok eX11_asksOrders oX11_asksOrders
    (List.forall_mem_cons.mpr ⟨cok_s (n := 1) (idx := 361) E (ct_G_X11_isSlot X.2.1) (by rw [hR]; decide) (Nat.zero_le _) (Nat.zero_le _) hG ⟨by decide, by decide, by decide⟩ (fun _ => rfl) wl_X11_361 wt_X11_isSlot wn_X11 wc_X11_isSlot, List.forall_mem_cons.mpr ⟨cok_v (t := 32) (c := 11) (N := 39) (n := 0) (idx := 92) E (ct_G_X11_isWar X.2.1) (by rw [hR]; decide) (Nat.zero_le _) (Nat.zero_le _) hG rfl rfl ⟨rfl, by decide, by decide, by decide⟩ (fun _ => ⟨_, _, rfl, rfl⟩) wl_X11_92 wi_X11_isWar ws_X11_isWar wn_X11 wc_X11_isWar, List.forall_mem_cons.mpr ⟨cok_v (t := 32) (c := 11) (N := 39) (n := 2) (idx := 354) E (ct_G_X11_numberAt X.2.1) (by rw [hR]; decide) (Nat.zero_le _) (Nat.zero_le _) hG rfl rfl ⟨rfl, by decide, by decide, by decide⟩ (fun _ => ⟨_, _, rfl, rfl⟩) wl_X11_354 wi_X11_numberAt ws_X11_numberAt wn_X11 wc_X11_numberAt, List.forall_mem_cons.mpr ⟨cok_v (t := 32) (c := 11) (N := 39) (n := 1) (idx := 83) E (ct_G_X11_isLand X.2.1) (by rw [hR]; decide) (Nat.zero_le _) (Nat.zero_le _) hG rfl rfl ⟨rfl, by decide, by decide, by decide⟩ (fun _ => ⟨_, _, rfl, rfl⟩) wl_X11_83 wi_X11_isLand ws_X11_isLand wn_X11 wc_X11_isLand, List.forall_mem_cons.mpr ⟨cok_v (t := 32) (c := 11) (N := 39) (n := 2) (idx := 358) E (ct_G_X11_intAt X.2.1) (by rw [hR]; decide) (Nat.zero_le _) (Nat.zero_le _) hG rfl rfl ⟨rfl, by decide, by decide, by decide⟩ (fun _ => ⟨_, _, rfl, rfl⟩) wl_X11_358 wi_X11_intAt ws_X11_intAt wn_X11 wc_X11_intAt, List.forall_mem_cons.mpr ⟨cok_v (t := 32) (c := 11) (N := 39) (n := 4) (idx := 278) E (ct_G_X11_isDate X.2.1) (by rw [hR]; decide) (Nat.zero_le _) (Nat.zero_le _) hG rfl rfl ⟨rfl, by decide, by decide, by decide⟩ (fun _ => ⟨_, _, rfl, rfl⟩) wl_X11_278 wi_X11_isDate ws_X11_isDate wn_X11 wc_X11_isDate, List.forall_mem_cons.mpr ⟨cok_v (t := 32) (c := 11) (N := 39) (n := 2) (idx := 364) E (ct_G_X11_dayAt X.2.1) (by rw [hR]; decide) (Nat.zero_le _) (Nat.zero_le _) hG rfl rfl ⟨rfl, by decide, by decide, by decide⟩ (fun _ => ⟨_, _, rfl, rfl⟩) wl_X11_364 wi_X11_dayAt ws_X11_dayAt wn_X11 wc_X11_dayAt, fun _ h => absurd h List.not_mem_nil⟩⟩⟩⟩⟩⟩⟩) R sok_no E
  show WP_ X G Q 0 0 ad SHS_ σ 0 [(42, 86), (0, a1), (9, 0)] []
  refine B rfl ?_
  refine Exists.intro a1 (And.intro rfl (And.intro True.intro ?_))
  rintro z1 m_ h2
  obtain rfl : σ = m_ := h2.2
  have h3 : (z1 = 1 ∧ 0 ≤ a1 ∧ a1 ≤ 3) ∨ (z1 = 0 ∧ ¬ (0 ≤ a1 ∧ a1 ≤ 3)) := h2.1
  refine And.intro (fun h4 => ?_) (fun h4 => ?_)
  · skip
    refine B rfl ?_
    refine Exists.intro _ (And.intro rfl ?_)
    exact (And.intro (by show (-2) < 0 ∨ (0 ≤ a1 ∧ a1 ≤ 3 ∧ 0 ≤ σ 102 a1 ∧ σ 102 a1 ≤ 60 ∧ OD σ a1); exact Or.inl (by omega)) rfl)
  · skip
    show WP_ X G Q 0 0 ad SHS_ σ 7 [(42, 86), (0, a1), (9, 0)] []
    refine B rfl ?_
    refine Exists.intro () (And.intro rfl (And.intro True.intro ?_))
    rintro z5 m_ h6
    obtain rfl : σ = m_ := h6.2
    have h7 : 0 ≤ z5 ∧ z5 ≤ 1 := h6.1
    refine And.intro (fun h8 => ?_) (fun h8 => ?_)
    · skip
      refine B rfl ?_
      refine And.intro (by omega) ?_
      intro z9 ez9 hz9
      have hz9 : ((-1) : Int) ≤ z9 ∧ z9 ≤ (60 : Int) := hz9
      refine And.intro (fun h10 => ?_) (fun h10 => ?_)
      · skip
        refine B rfl ?_
        refine And.intro (by omega) ?_
        intro z11 ez11 hz11
        have q12 : z9 = z11 := ez9.trans ez11.symm
        subst q12
        have q13 : Int.tmod z9 4 = z9 % 4 := Int.tmod_eq_emod_of_nonneg (by omega)
        refine And.intro (by omega) ?_
        refine And.intro (fun h14 => ?_) (fun h14 => ?_)
        · skip
          refine B rfl ?_
          have lp_46 : ∀ (nq_ : Nat) (v2 : Int), (0 ≤ v2) → (v2 ≤ 60) → (v2 % 4 = 0) → (∀ j : Int, 0 ≤ j → 4 * j < v2 → ODe σ a1 j) → (60 - v2 : Int).toNat < nq_ → WP_ X G Q 0 0 ad SHS_ σ 46 [(42, 86), (0, a1), (0, v2)] [] := by
            intro nq_
            induction nq_ with
            | zero => intros; omega
            | succ nq_ ih_46 =>
              intro v2 hi46_0 hi46_1 hi46_2 hi46_3 hm46
              refine B rfl ?_
              refine And.intro (by omega) ?_
              intro z15 ez15 hz15
              have q16 : z9 = z15 := ez9.trans ez15.symm
              subst q16
              refine And.intro (fun h17 => ?_) (fun h17 => ?_)
              · skip
                refine B rfl ?_
                refine Exists.intro _ (And.intro rfl ?_)
                exact (And.intro (by show 0 < 0 ∨ (0 ≤ a1 ∧ a1 ≤ 3 ∧ 0 ≤ σ 102 a1 ∧ σ 102 a1 ≤ 60 ∧ OD σ a1); exact Or.inr ⟨by omega, by omega, by omega, by omega, fun j h1 h2 => hi46_3 j h1 (by omega)⟩) rfl)
              · skip
                show WP_ X G Q 0 0 ad SHS_ σ 56 [(42, 86), (0, a1), (0, v2)] []
                refine B rfl ?_
                refine Exists.intro (a1, v2) (And.intro rfl (And.intro (And.intro (by show 0 ≤ a1; omega) (And.intro (by show a1 ≤ 3; omega) (And.intro (by show 0 ≤ v2; omega) (by show v2 ≤ 59; omega)))) ?_))
                rintro z18 m_ h19
                obtain rfl : σ = m_ := h19.2
                have h20 : z18 = σ 104 (60 * a1 + v2) := h19.1
                have q21 : z18 = σ 104 (60 * a1 + v2) := by omega
                subst q21
                have p22 : BW σ 87 := (hp0).1.1
                refine Exists.intro (σ 104 (60 * a1 + v2)) (And.intro rfl (And.intro p22 ?_))
                rintro z23 m_ h24
                obtain rfl : σ = m_ := h24.2
                have h25 : (z23 = 1 ∧ 0 ≤ (σ 104 (60 * a1 + v2)) ∧ (σ 104 (60 * a1 + v2)) ≤ 2 ∧ (σ 104 (60 * a1 + v2)) < σ 87 1) ∨ z23 = 0 := h24.1
                refine And.intro (fun h26 => ?_) (fun h26 => ?_)
                · skip
                  refine B rfl ?_
                  refine Exists.intro _ (And.intro rfl ?_)
                  exact (And.intro (by show (-2) < 0 ∨ (0 ≤ a1 ∧ a1 ≤ 3 ∧ 0 ≤ σ 102 a1 ∧ σ 102 a1 ≤ 60 ∧ OD σ a1); exact Or.inl (by omega)) rfl)
                · skip
                  show WP_ X G Q 0 0 ad SHS_ σ 69 [(42, 86), (0, a1), (0, v2)] []
                  refine B rfl ?_
                  refine Exists.intro (a1, v2) (And.intro rfl (And.intro (And.intro (by show 0 ≤ a1; omega) (And.intro (by show a1 ≤ 3; omega) (And.intro (by show 0 ≤ v2; omega) (by show v2 ≤ 59; omega)))) ?_))
                  rintro z27 m_ h28
                  obtain rfl : σ = m_ := h28.2.2.2
                  have h29 : z27 = l2i_ (σ 104 (60 * a1 + v2)) := h28.1
                  have h30 : -2147483648 ≤ z27 ∧ z27 ≤ 2147483647 := h28.2.1
                  have h31 : -2147483648 ≤ σ 104 (60 * a1 + v2) ∧ σ 104 (60 * a1 + v2) ≤ 2147483647 → z27 = σ 104 (60 * a1 + v2) := h28.2.2.1
                  have q32 : z27 = l2i_ (σ 104 (60 * a1 + v2)) := by omega
                  subst q32
                  refine And.intro (by omega) ?_
                  refine Exists.intro (a1, v2 + 1) (And.intro rfl (And.intro (And.intro (by show 0 ≤ a1; omega) (And.intro (by show a1 ≤ 3; omega) (And.intro (by show 0 ≤ (v2 + 1); omega) (by show (v2 + 1) ≤ 59; omega)))) ?_))
                  rintro z33 m_ h34
                  obtain rfl : σ = m_ := h34.2
                  have h35 : z33 = σ 104 (60 * a1 + (v2 + 1)) := h34.1
                  have q36 : z33 = σ 104 (60 * a1 + (v2 + 1)) := by omega
                  subst q36
                  refine And.intro (by omega) ?_
                  refine Exists.intro (a1, v2 + 2) (And.intro rfl (And.intro (And.intro (by show 0 ≤ a1; omega) (And.intro (by show a1 ≤ 3; omega) (And.intro (by show 0 ≤ (v2 + 2); omega) (by show (v2 + 2) ≤ 59; omega)))) ?_))
                  rintro z37 m_ h38
                  obtain rfl : σ = m_ := h38.2
                  have h39 : z37 = σ 104 (60 * a1 + (v2 + 2)) := h38.1
                  have q40 : z37 = σ 104 (60 * a1 + (v2 + 2)) := by omega
                  subst q40
                  refine And.intro (by omega) ?_
                  refine Exists.intro (a1, v2 + 3) (And.intro rfl (And.intro (And.intro (by show 0 ≤ a1; omega) (And.intro (by show a1 ≤ 3; omega) (And.intro (by show 0 ≤ (v2 + 3); omega) (by show (v2 + 3) ≤ 59; omega)))) ?_))
                  rintro z41 m_ h42
                  obtain rfl : σ = m_ := h42.2
                  have h43 : z41 = σ 104 (60 * a1 + (v2 + 3)) := h42.1
                  have q44 : z41 = σ 104 (60 * a1 + (v2 + 3)) := by omega
                  subst q44
                  refine Exists.intro (l2i_ (σ 104 (60 * a1 + v2)), σ 104 (60 * a1 + (v2 + 1)), σ 104 (60 * a1 + (v2 + 2)), σ 104 (60 * a1 + (v2 + 3))) (And.intro rfl (And.intro (And.intro p22 (And.intro (by show 0 ≤ (l2i_ (σ 104 (60 * a1 + v2))); omega) (by show (l2i_ (σ 104 (60 * a1 + v2))) ≤ 2; omega))) ?_))
                  rintro z45 m_ h46
                  obtain rfl : σ = m_ := h46.2
                  have h47 : (z45 = 1 ∧ 0 ≤ (σ 104 (60 * a1 + (v2 + 1))) ∧ (σ 104 (60 * a1 + (v2 + 1))) ≤ 1999 ∧ 0 ≤ (σ 104 (60 * a1 + (v2 + 2))) ∧ (σ 104 (60 * a1 + (v2 + 2))) ≤ 7 ∧ 0 ≤ (σ 104 (60 * a1 + (v2 + 3))) ∧ (σ 104 (60 * a1 + (v2 + 3))) ≤ 68) ∨ z45 = 0 := h46.1
                  refine And.intro (fun h48 => ?_) (fun h48 => ?_)
                  · skip
                    refine B rfl ?_
                    have q49 : Int.tdiv v2 4 = v2 / 4 := Int.tdiv_eq_ediv_of_nonneg (by omega)
                    refine And.intro (by omega) ?_
                    have e5 : 4 * (Int.tdiv v2 4) = v2 := by omega
                    have n0 : l2i_ (σ 104 (60 * a1 + 4 * (Int.tdiv v2 4))) = σ 104 (60 * a1 + v2) := by rw [e5]; exact (l2i_t).1 (by omega)
                    have n1 : l2i_ (σ 104 (60 * a1 + (4 * (Int.tdiv v2 4) + 1))) = σ 104 (60 * a1 + (v2 + 1)) := by rw [e5]; exact (l2i_t).1 (by omega)
                    have n2 : l2i_ (σ 104 (60 * a1 + (4 * (Int.tdiv v2 4) + 2))) = σ 104 (60 * a1 + (v2 + 2)) := by rw [e5]; exact (l2i_t).1 (by omega)
                    have n3 : l2i_ (σ 104 (60 * a1 + (4 * (Int.tdiv v2 4) + 3))) = σ 104 (60 * a1 + (v2 + 3)) := by rw [e5]; exact (l2i_t).1 (by omega)
                    refine Exists.intro (a1, Int.tdiv v2 4) (And.intro rfl (And.intro (And.intro p22 (And.intro (by show 0 ≤ a1; omega) (And.intro (by show a1 ≤ 3; omega) (And.intro (by show 0 ≤ (Int.tdiv v2 4); omega) (And.intro (by show (Int.tdiv v2 4) ≤ 14; omega) (And.intro (by show 0 ≤ l2i_ (σ 104 (60 * a1 + 4 * (Int.tdiv v2 4))); omega) (And.intro (by show l2i_ (σ 104 (60 * a1 + 4 * (Int.tdiv v2 4))) ≤ 2; omega) (And.intro (by show 0 ≤ l2i_ (σ 104 (60 * a1 + (4 * (Int.tdiv v2 4) + 1))); omega) (And.intro (by show l2i_ (σ 104 (60 * a1 + (4 * (Int.tdiv v2 4) + 1))) ≤ 1999; omega) (And.intro (by show 0 ≤ l2i_ (σ 104 (60 * a1 + (4 * (Int.tdiv v2 4) + 2))); omega) (And.intro (by show l2i_ (σ 104 (60 * a1 + (4 * (Int.tdiv v2 4) + 2))) ≤ 7; omega) (And.intro (by show 0 ≤ l2i_ (σ 104 (60 * a1 + (4 * (Int.tdiv v2 4) + 3))); omega) (by show l2i_ (σ 104 (60 * a1 + (4 * (Int.tdiv v2 4) + 3))) ≤ 68; omega))))))))))))) ?_))
                    rintro z50 m_ h51
                    obtain rfl : σ = m_ := h51.2.2
                    have h52 : z50 = dayF_ (σ 87) (l2i_ (σ 104 (60 * a1 + 4 * (Int.tdiv v2 4)))) (l2i_ (σ 104 (60 * a1 + (4 * (Int.tdiv v2 4) + 1)))) (l2i_ (σ 104 (60 * a1 + (4 * (Int.tdiv v2 4) + 2)))) (l2i_ (σ 104 (60 * a1 + (4 * (Int.tdiv v2 4) + 3)))) := h51.1
                    have h53 : 0 ≤ z50 ∧ z50 ≤ 4000 := h51.2.1
                    refine And.intro (fun h54 => ?_) (fun h54 => ?_)
                    · skip
                      refine B rfl ?_
                      refine And.intro (by omega) ?_
                      exact ih_46 (v2 + 4) (by show 0 ≤ (v2 + 4); omega) (by show (v2 + 4) ≤ 60; omega) (by show (v2 + 4) % 4 = 0; omega) (by show ∀ j : Int, 0 ≤ j → 4 * j < (v2 + 4) → ODe σ a1 j; intro j h1 h2; by_cases hj : 4 * j = v2; have hj2 : j = Int.tdiv v2 4 := (by omega); subst hj2; unfold ODe; refine ⟨⟨?_, ?_⟩, ⟨?_, ?_⟩, ⟨?_, ?_⟩, ⟨?_, ?_⟩, ?_⟩ <;> omega; exact hi46_3 j h1 (by omega)) (by omega)
                    · skip
                      show WP_ X G Q 0 0 ad SHS_ σ 123 [(42, 86), (0, a1), (0, v2)] []
                      refine B rfl ?_
                      refine Exists.intro _ (And.intro rfl ?_)
                      exact (And.intro (by show (-2) < 0 ∨ (0 ≤ a1 ∧ a1 ≤ 3 ∧ 0 ≤ σ 102 a1 ∧ σ 102 a1 ≤ 60 ∧ OD σ a1); exact Or.inl (by omega)) rfl)
                  · skip
                    show WP_ X G Q 0 0 ad SHS_ σ 106 [(42, 86), (0, a1), (0, v2)] []
                    refine B rfl ?_
                    refine Exists.intro _ (And.intro rfl ?_)
                    exact (And.intro (by show (-2) < 0 ∨ (0 ≤ a1 ∧ a1 ≤ 3 ∧ 0 ≤ σ 102 a1 ∧ σ 102 a1 ≤ 60 ∧ OD σ a1); exact Or.inl (by omega)) rfl)
          exact lp_46 ((60 - 0 : Int).toNat + 1) 0 (by show 0 ≤ 0; omega) (by show 0 ≤ 60; omega) (by show 0 % 4 = 0; omega) (by show ∀ j : Int, 0 ≤ j → 4 * j < 0 → ODe σ a1 j; intro j h1 h2; omega) (by omega)
        · skip
          show WP_ X G Q 0 0 ad SHS_ σ 41 [(42, 86), (0, a1), (9, 0)] []
          refine B rfl ?_
          refine Exists.intro _ (And.intro rfl ?_)
          exact (And.intro (by show (-2) < 0 ∨ (0 ≤ a1 ∧ a1 ≤ 3 ∧ 0 ≤ σ 102 a1 ∧ σ 102 a1 ≤ 60 ∧ OD σ a1); exact Or.inl (by omega)) rfl)
      · skip
        show WP_ X G Q 0 0 ad SHS_ σ 27 [(42, 86), (0, a1), (9, 0)] []
        refine B rfl ?_
        refine Exists.intro _ (And.intro rfl ?_)
        exact (And.intro (by show (-6) < 0 ∨ (0 ≤ a1 ∧ a1 ≤ 3 ∧ 0 ≤ σ 102 a1 ∧ σ 102 a1 ≤ 60 ∧ OD σ a1); exact Or.inl (by omega)) rfl)
    · skip
      show WP_ X G Q 0 0 ad SHS_ σ 14 [(42, 86), (0, a1), (9, 0)] []
      refine B rfl ?_
      refine Exists.intro _ (And.intro rfl ?_)
      exact (And.intro (by show (-2) < 0 ∨ (0 ≤ a1 ∧ a1 ≤ 3 ∧ 0 ≤ σ 102 a1 ∧ σ 102 a1 ≤ 60 ∧ OD σ a1); exact Or.inl (by omega)) rfl)
def as_G_X11_oldest : Int → List Sv_t := fun a => [(42, 86), (0, a)]
def pre_G_X11_oldest : Int → Me_t → Prop := fun a σ => (MI σ)
def post_G_X11_oldest : Int → Me_t → Int → Me_t → Prop := fun a σ z σ' => (σ = σ')
set_option maxHeartbeats 1500000 in
set_option maxRecDepth 100000 in
theorem ct_G_X11_oldest (l : Launch) : CT_ l yX11_oldest cX11_oldest 5 (some .int) 6 139 as_G_X11_oldest (rmI_) pre_G_X11_oldest post_G_X11_oldest := by
  refine ct_of (by decide) (fun _ => Nat.le_of_ble_eq_true rfl) ?_
  intro X G Q ad σ a hl hR E hG R hM hv hp
  obtain ⟨a1, rfl⟩ : ∃ q : Int, q = a := ⟨_, rfl⟩
  have r_a1 : -2147483648 ≤ a1 ∧ a1 ≤ 2147483647 := hv (0, a1) (List.mem_of_getElem? (i := 1) rfl)
  have hp0 : MI σ := hp
  have B := @bk_ X G Q 0 0 ad SHS_ RX11 cX11_oldest 5 (some .int) flX11 plX11 knX11 [(734, 2, TR_ as_G_X11_asksOrders (rmI_) pre_G_X11_asksOrders post_G_X11_asksOrders), (728, 3, TR_ as_G_X11_dayAt (rmI_) pre_G_X11_dayAt post_G_X11_dayAt)] _ _ none kX11_oldest [17] flX11_ok plX11_ok knX11_ok eX11_oldest oX11_oldest
    (List.forall_mem_cons.mpr ⟨cok_v (t := 32) (c := 11) (N := 39) (n := 1) (idx := 367) E (ct_G_X11_asksOrders X.2.1) (by rw [hR]; decide) (Nat.zero_le _) (Nat.zero_le _) hG rfl rfl ⟨rfl, by decide, by decide, by decide⟩ (fun _ => ⟨_, _, rfl, rfl⟩) wl_X11_367 wi_X11_asksOrders ws_X11_asksOrders wn_X11 wc_X11_asksOrders, List.forall_mem_cons.mpr ⟨cok_v (t := 32) (c := 11) (N := 39) (n := 2) (idx := 364) E (ct_G_X11_dayAt X.2.1) (by rw [hR]; decide) (Nat.zero_le _) (Nat.zero_le _) hG rfl rfl ⟨rfl, by decide, by decide, by decide⟩ (fun _ => ⟨_, _, rfl, rfl⟩) wl_X11_364 wi_X11_dayAt ws_X11_dayAt wn_X11 wc_X11_dayAt, fun _ h => absurd h List.not_mem_nil⟩⟩) R sok_no E
  show WP_ X G Q 0 0 ad SHS_ σ 0 [(42, 86), (0, a1), (9, 0), (9, 0), (9, 0)] []
  refine B rfl ?_
  refine Exists.intro a1 (And.intro rfl (And.intro hp0 ?_))
  rintro z1 m_ h2
  obtain rfl : σ = m_ := h2.2
  have h3 : z1 < 0 ∨ (0 ≤ a1 ∧ a1 ≤ 3 ∧ 0 ≤ σ 102 a1 ∧ σ 102 a1 ≤ 60 ∧ OD σ a1) := h2.1
  have hqo := h2.1
  try dsimp only at hqo
  refine And.intro (fun h4 => ?_) (fun h4 => ?_)
  · skip
    refine B rfl ?_
    have hqq := hqo.resolve_left (by omega)
    have hod0 : OD σ a1 := hqq.2.2.2.2
    show WP_ X G Q 0 0 ad SHS_ σ 17 [(42, 86), (0, a1), (0, z1), (0, (-1)), (0, 0)] []
    refine wdrop_ (L' := [(42, 86), (0, a1), (9, 0), (0, (-1)), (0, 0)]) ⟨Or.inr rfl, ⟨Or.inr rfl, ⟨Or.inl rfl, ⟨Or.inr rfl, ⟨Or.inr rfl, trivial⟩⟩⟩⟩⟩ ?_
    have lp_17 : ∀ (nq_ : Nat) (v3 : Int) (v4 : Int), (0 ≤ v4) → (v4 ≤ 15) → (-1 ≤ v3) → (v3 < v4) → (15 - v4 : Int).toNat < nq_ → WP_ X G Q 0 0 ad SHS_ σ 17 [(42, 86), (0, a1), (9, 0), (0, v3), (0, v4)] [] := by
      intro nq_
      induction nq_ with
      | zero => intros; omega
      | succ nq_ ih_17 =>
        intro v3 v4 hi17_0 hi17_1 hi17_2 hi17_3 hm17
        refine B rfl ?_
        refine And.intro (by omega) ?_
        refine And.intro (by omega) ?_
        intro z5 ez5 hz5
        have hz5 : ((-1) : Int) ≤ z5 ∧ z5 ≤ (60 : Int) := hz5
        refine And.intro (fun h6 => ?_) (fun h6 => ?_)
        · skip
          refine B rfl ?_
          refine Exists.intro _ (And.intro rfl ?_)
          exact rfl
        · skip
          refine And.intro (fun h7 => ?_) (fun h7 => ?_)
          · skip
            refine B rfl ?_
            refine And.intro (by omega) ?_
            exact ih_17 v4 (v4 + 1) (by show 0 ≤ (v4 + 1); omega) (by show (v4 + 1) ≤ 15; omega) (by show -1 ≤ v4; omega) (by show v4 < (v4 + 1); omega) (by omega)
          · skip
            have o8 := hod0 v4 (by omega) (by omega)
            unfold ODe at o8
            have p9 : BW σ 87 := (hp0).1.1
            refine Exists.intro (a1, v4) (And.intro rfl (And.intro (And.intro p9 (And.intro (by show 0 ≤ a1; omega) (And.intro (by show a1 ≤ 3; omega) (And.intro (by show 0 ≤ v4; omega) (And.intro (by show v4 ≤ 14; omega) (And.intro (by show 0 ≤ l2i_ (σ 104 (60 * a1 + 4 * v4)); omega) (And.intro (by show l2i_ (σ 104 (60 * a1 + 4 * v4)) ≤ 2; omega) (And.intro (by show 0 ≤ l2i_ (σ 104 (60 * a1 + (4 * v4 + 1))); omega) (And.intro (by show l2i_ (σ 104 (60 * a1 + (4 * v4 + 1))) ≤ 1999; omega) (And.intro (by show 0 ≤ l2i_ (σ 104 (60 * a1 + (4 * v4 + 2))); omega) (And.intro (by show l2i_ (σ 104 (60 * a1 + (4 * v4 + 2))) ≤ 7; omega) (And.intro (by show 0 ≤ l2i_ (σ 104 (60 * a1 + (4 * v4 + 3))); omega) (by show l2i_ (σ 104 (60 * a1 + (4 * v4 + 3))) ≤ 68; omega))))))))))))) ?_))
            rintro z10 m_ h11
            obtain rfl : σ = m_ := h11.2.2
            have h12 : z10 = dayF_ (σ 87) (l2i_ (σ 104 (60 * a1 + 4 * v4))) (l2i_ (σ 104 (60 * a1 + (4 * v4 + 1)))) (l2i_ (σ 104 (60 * a1 + (4 * v4 + 2)))) (l2i_ (σ 104 (60 * a1 + (4 * v4 + 3)))) := h11.1
            have h13 : 0 ≤ z10 ∧ z10 ≤ 4000 := h11.2.1
            have o14 := hod0 v3 (by omega) (by omega)
            unfold ODe at o14
            refine Exists.intro (a1, v3) (And.intro rfl (And.intro (And.intro p9 (And.intro (by show 0 ≤ a1; omega) (And.intro (by show a1 ≤ 3; omega) (And.intro (by show 0 ≤ v3; omega) (And.intro (by show v3 ≤ 14; omega) (And.intro (by show 0 ≤ l2i_ (σ 104 (60 * a1 + 4 * v3)); omega) (And.intro (by show l2i_ (σ 104 (60 * a1 + 4 * v3)) ≤ 2; omega) (And.intro (by show 0 ≤ l2i_ (σ 104 (60 * a1 + (4 * v3 + 1))); omega) (And.intro (by show l2i_ (σ 104 (60 * a1 + (4 * v3 + 1))) ≤ 1999; omega) (And.intro (by show 0 ≤ l2i_ (σ 104 (60 * a1 + (4 * v3 + 2))); omega) (And.intro (by show l2i_ (σ 104 (60 * a1 + (4 * v3 + 2))) ≤ 7; omega) (And.intro (by show 0 ≤ l2i_ (σ 104 (60 * a1 + (4 * v3 + 3))); omega) (by show l2i_ (σ 104 (60 * a1 + (4 * v3 + 3))) ≤ 68; omega))))))))))))) ?_))
            rintro z15 m_ h16
            obtain rfl : σ = m_ := h16.2.2
            have h17 : z15 = dayF_ (σ 87) (l2i_ (σ 104 (60 * a1 + 4 * v3))) (l2i_ (σ 104 (60 * a1 + (4 * v3 + 1)))) (l2i_ (σ 104 (60 * a1 + (4 * v3 + 2)))) (l2i_ (σ 104 (60 * a1 + (4 * v3 + 3)))) := h16.1
            have h18 : 0 ≤ z15 ∧ z15 ≤ 4000 := h16.2.1
            refine And.intro (fun h19 => ?_) (fun h19 => ?_)
            · skip
              refine B rfl ?_
              refine And.intro (by omega) ?_
              exact ih_17 v3 (v4 + 1) (by show 0 ≤ (v4 + 1); omega) (by show (v4 + 1) ≤ 15; omega) (by show -1 ≤ v3; omega) (by show v3 < (v4 + 1); omega) (by omega)
            · skip
              refine And.intro (by omega) ?_
              exact ih_17 v4 (v4 + 1) (by show 0 ≤ (v4 + 1); omega) (by show (v4 + 1) ≤ 15; omega) (by show -1 ≤ v4; omega) (by show v4 < (v4 + 1); omega) (by omega)
    exact lp_17 ((15 - 0 : Int).toNat + 1) (-1) 0 (by show 0 ≤ 0; omega) (by show 0 ≤ 15; omega) (by show -1 ≤ (-1); omega) (by show (-1) < 0; omega) (by omega)
  · skip
    refine Exists.intro _ (And.intro rfl ?_)
    exact rfl
def as_G_X11_older : Int × Int → List Sv_t := fun a => [(42, 86), (0, a.1), (0, a.2)]
def pre_G_X11_older : Int × Int → Me_t → Prop := fun a σ => (MI σ)
def post_G_X11_older : Int × Int → Me_t → Int → Me_t → Prop := fun a σ z σ' => (σ = σ')
set_option maxHeartbeats 1500000 in
set_option maxRecDepth 100000 in
theorem ct_G_X11_older (l : Launch) : CT_ l yX11_older cX11_older 6 (some .int) 6 139 as_G_X11_older (rmI_) pre_G_X11_older post_G_X11_older := by
  refine ct_of (by decide) (fun _ => Nat.le_of_ble_eq_true rfl) ?_
  intro X G Q ad σ a hl hR E hG R hM hv hp
  obtain ⟨a1, a2⟩ := a
  have r_a1 : -2147483648 ≤ a1 ∧ a1 ≤ 2147483647 := hv (0, a1) (List.mem_of_getElem? (i := 1) rfl)
  have r_a2 : -2147483648 ≤ a2 ∧ a2 ≤ 2147483647 := hv (0, a2) (List.mem_of_getElem? (i := 2) rfl)
  have hp0 : MI σ := hp
  have B := @bk_ X G Q 0 0 ad SHS_ RX11 cX11_older 6 (some .int) flX11 plX11 knX11 [(734, 2, TR_ as_G_X11_asksOrders (rmI_) pre_G_X11_asksOrders post_G_X11_asksOrders), (159, 3, TR_ as_G_X11_in (rmI_) pre_G_X11_in post_G_X11_in), (728, 3, TR_ as_G_X11_dayAt (rmI_) pre_G_X11_dayAt post_G_X11_dayAt)] _ _ none kX11_older [10, 32, 40, 53, 71] flX11_ok plX11_ok knX11_ok eX11_older oX11_older
    (List.forall_mem_cons.mpr ⟨cok_v (t := 32) (c := 11) (N := 39) (n := 1) (idx := 367) E (ct_G_X11_asksOrders X.2.1) (by rw [hR]; decide) (Nat.zero_le _) (Nat.zero_le _) hG rfl rfl ⟨rfl, by decide, by decide, by decide⟩ (fun _ => ⟨_, _, rfl, rfl⟩) wl_X11_367 wi_X11_asksOrders ws_X11_asksOrders wn_X11 wc_X11_asksOrders, List.forall_mem_cons.mpr ⟨cok_s (n := 3) (idx := 79) E (ct_G_X11_in X.2.1) (by rw [hR]; decide) (Nat.zero_le _) (Nat.zero_le _) hG ⟨by decide, by decide, by decide⟩ (fun _ => rfl) wl_X11_79 wt_X11_in wn_X11 wc_X11_in, List.forall_mem_cons.mpr ⟨cok_v (t := 32) (c := 11) (N := 39) (n := 2) (idx := 364) E (ct_G_X11_dayAt X.2.1) (by rw [hR]; decide) (Nat.zero_le _) (Nat.zero_le _) hG rfl rfl ⟨rfl, by decide, by decide, by decide⟩ (fun _ => ⟨_, _, rfl, rfl⟩) wl_X11_364 wi_X11_dayAt ws_X11_dayAt wn_X11 wc_X11_dayAt, fun _ h => absurd h List.not_mem_nil⟩⟩⟩) R sok_no E
  show WP_ X G Q 0 0 ad SHS_ σ 0 [(42, 86), (0, a1), (0, a2), (9, 0), (9, 0), (9, 0)] []
  refine B rfl ?_
  refine Exists.intro a1 (And.intro rfl (And.intro hp0 ?_))
  rintro z1 m_ h2
  obtain rfl : σ = m_ := h2.2
  have h3 : z1 < 0 ∨ (0 ≤ a1 ∧ a1 ≤ 3 ∧ 0 ≤ σ 102 a1 ∧ σ 102 a1 ≤ 60 ∧ OD σ a1) := h2.1
  have hqo := h2.1
  try dsimp only at hqo
  refine And.intro (fun h4 => ?_) (fun h4 => ?_)
  · skip
    refine B rfl ?_
    have hqq := hqo.resolve_left (by omega)
    have hod0 : OD σ a1 := hqq.2.2.2.2
    refine And.intro (by omega) ?_
    intro z5 ez5 hz5
    have hz5 : ((-1) : Int) ≤ z5 ∧ z5 ≤ (60 : Int) := hz5
    have q6 : Int.tdiv z5 4 = z5 / 4 := Int.tdiv_eq_ediv_of_nonneg (by omega)
    refine And.intro (by omega) ?_
    refine And.intro (by omega) ?_
    refine Exists.intro (a2, 0, (Int.tdiv z5 4) - 1) (And.intro rfl (And.intro True.intro ?_))
    rintro z7 m_ h8
    obtain rfl : σ = m_ := h8.2
    have h9 : (z7 = 1 ∧ 0 ≤ a2 ∧ a2 ≤ ((Int.tdiv z5 4) - 1)) ∨ (z7 = 0 ∧ ¬ (0 ≤ a2 ∧ a2 ≤ ((Int.tdiv z5 4) - 1))) := h8.1
    refine And.intro (fun h10 => ?_) (fun h10 => ?_)
    · skip
      refine B rfl ?_
      show WP_ X G Q 0 0 ad SHS_ σ 40 [(42, 86), (0, a1), (0, a2), (0, z1), (0, 0), (0, 0)] []
      refine wdrop_ (L' := [(42, 86), (0, a1), (0, a2), (9, 0), (0, 0), (0, 0)]) ⟨Or.inr rfl, ⟨Or.inr rfl, ⟨Or.inr rfl, ⟨Or.inl rfl, ⟨Or.inr rfl, ⟨Or.inr rfl, trivial⟩⟩⟩⟩⟩⟩ ?_
      have lp_40 : ∀ (nq_ : Nat) (v4 : Int) (v5 : Int), (0 ≤ v5) → (v5 ≤ 15) → (0 ≤ v4) → (v4 ≤ v5) → (15 - v5 : Int).toNat < nq_ → WP_ X G Q 0 0 ad SHS_ σ 40 [(42, 86), (0, a1), (0, a2), (9, 0), (0, v4), (0, v5)] [] := by
        intro nq_
        induction nq_ with
        | zero => intros; omega
        | succ nq_ ih_40 =>
          intro v4 v5 hi40_0 hi40_1 hi40_2 hi40_3 hm40
          refine B rfl ?_
          refine And.intro (by omega) ?_
          refine And.intro (by omega) ?_
          intro z11 ez11 hz11
          have q12 : z5 = z11 := ez5.trans ez11.symm
          subst q12
          refine And.intro (fun h13 => ?_) (fun h13 => ?_)
          · skip
            refine B rfl ?_
            refine Exists.intro _ (And.intro rfl ?_)
            exact rfl
          · skip
            show WP_ X G Q 0 0 ad SHS_ σ 53 [(42, 86), (0, a1), (0, a2), (9, 0), (0, v4), (0, v5)] []
            refine B rfl ?_
            have o14 := hod0 v5 (by omega) (by omega)
            unfold ODe at o14
            have p15 : BW σ 87 := (hp0).1.1
            refine Exists.intro (a1, v5) (And.intro rfl (And.intro (And.intro p15 (And.intro (by show 0 ≤ a1; omega) (And.intro (by show a1 ≤ 3; omega) (And.intro (by show 0 ≤ v5; omega) (And.intro (by show v5 ≤ 14; omega) (And.intro (by show 0 ≤ l2i_ (σ 104 (60 * a1 + 4 * v5)); omega) (And.intro (by show l2i_ (σ 104 (60 * a1 + 4 * v5)) ≤ 2; omega) (And.intro (by show 0 ≤ l2i_ (σ 104 (60 * a1 + (4 * v5 + 1))); omega) (And.intro (by show l2i_ (σ 104 (60 * a1 + (4 * v5 + 1))) ≤ 1999; omega) (And.intro (by show 0 ≤ l2i_ (σ 104 (60 * a1 + (4 * v5 + 2))); omega) (And.intro (by show l2i_ (σ 104 (60 * a1 + (4 * v5 + 2))) ≤ 7; omega) (And.intro (by show 0 ≤ l2i_ (σ 104 (60 * a1 + (4 * v5 + 3))); omega) (by show l2i_ (σ 104 (60 * a1 + (4 * v5 + 3))) ≤ 68; omega))))))))))))) ?_))
            rintro z16 m_ h17
            obtain rfl : σ = m_ := h17.2.2
            have h18 : z16 = dayF_ (σ 87) (l2i_ (σ 104 (60 * a1 + 4 * v5))) (l2i_ (σ 104 (60 * a1 + (4 * v5 + 1)))) (l2i_ (σ 104 (60 * a1 + (4 * v5 + 2)))) (l2i_ (σ 104 (60 * a1 + (4 * v5 + 3)))) := h17.1
            have h19 : 0 ≤ z16 ∧ z16 ≤ 4000 := h17.2.1
            have o20 := hod0 a2 (by omega) (by omega)
            unfold ODe at o20
            refine Exists.intro (a1, a2) (And.intro rfl (And.intro (And.intro p15 (And.intro (by show 0 ≤ a1; omega) (And.intro (by show a1 ≤ 3; omega) (And.intro (by show 0 ≤ a2; omega) (And.intro (by show a2 ≤ 14; omega) (And.intro (by show 0 ≤ l2i_ (σ 104 (60 * a1 + 4 * a2)); omega) (And.intro (by show l2i_ (σ 104 (60 * a1 + 4 * a2)) ≤ 2; omega) (And.intro (by show 0 ≤ l2i_ (σ 104 (60 * a1 + (4 * a2 + 1))); omega) (And.intro (by show l2i_ (σ 104 (60 * a1 + (4 * a2 + 1))) ≤ 1999; omega) (And.intro (by show 0 ≤ l2i_ (σ 104 (60 * a1 + (4 * a2 + 2))); omega) (And.intro (by show l2i_ (σ 104 (60 * a1 + (4 * a2 + 2))) ≤ 7; omega) (And.intro (by show 0 ≤ l2i_ (σ 104 (60 * a1 + (4 * a2 + 3))); omega) (by show l2i_ (σ 104 (60 * a1 + (4 * a2 + 3))) ≤ 68; omega))))))))))))) ?_))
            rintro z21 m_ h22
            obtain rfl : σ = m_ := h22.2.2
            have h23 : z21 = dayF_ (σ 87) (l2i_ (σ 104 (60 * a1 + 4 * a2))) (l2i_ (σ 104 (60 * a1 + (4 * a2 + 1)))) (l2i_ (σ 104 (60 * a1 + (4 * a2 + 2)))) (l2i_ (σ 104 (60 * a1 + (4 * a2 + 3)))) := h22.1
            have h24 : 0 ≤ z21 ∧ z21 ≤ 4000 := h22.2.1
            refine And.intro (fun h25 => ?_) (fun h25 => ?_)
            · skip
              refine B rfl ?_
              refine And.intro (by omega) ?_
              refine And.intro (by omega) ?_
              exact ih_40 (v4 + 0) (v5 + 1) (by show 0 ≤ (v5 + 1); omega) (by show (v5 + 1) ≤ 15; omega) (by show 0 ≤ (v4 + 0); omega) (by show (v4 + 0) ≤ (v5 + 1); omega) (by omega)
            · skip
              show WP_ X G Q 0 0 ad SHS_ σ 71 [(42, 86), (0, a1), (0, a2), (9, 0), (0, v4), (0, v5)] [(0, v4)]
              refine B rfl ?_
              refine B rfl ?_
              refine And.intro (by omega) ?_
              refine And.intro (by omega) ?_
              exact ih_40 (v4 + 1) (v5 + 1) (by show 0 ≤ (v5 + 1); omega) (by show (v5 + 1) ≤ 15; omega) (by show 0 ≤ (v4 + 1); omega) (by show (v4 + 1) ≤ (v5 + 1); omega) (by omega)
      exact lp_40 ((15 - 0 : Int).toNat + 1) 0 0 (by show 0 ≤ 0; omega) (by show 0 ≤ 15; omega) (by show 0 ≤ 0; omega) (by show 0 ≤ 0; omega) (by omega)
    · skip
      show WP_ X G Q 0 0 ad SHS_ σ 32 [(42, 86), (0, a1), (0, a2), (0, z1), (9, 0), (9, 0)] []
      refine B rfl ?_
      refine Exists.intro _ (And.intro rfl ?_)
      exact rfl
  · skip
    show WP_ X G Q 0 0 ad SHS_ σ 10 [(42, 86), (0, a1), (0, a2), (0, z1), (9, 0), (9, 0)] []
    refine B rfl ?_
    refine Exists.intro _ (And.intro rfl ?_)
    exact rfl
def as_G_X11_apart : Int → List Sv_t := fun a => [(42, 86), (0, a)]
def pre_G_X11_apart : Int → Me_t → Prop := fun a σ => (MI σ)
def post_G_X11_apart : Int → Me_t → Int → Me_t → Prop := fun a σ z σ' => (σ = σ')
set_option maxHeartbeats 1500000 in
set_option maxRecDepth 100000 in
theorem ct_G_X11_apart (l : Launch) : CT_ l yX11_apart cX11_apart 6 (some .int) 6 139 as_G_X11_apart (rmI_) pre_G_X11_apart post_G_X11_apart := by
  refine ct_of (by decide) (fun _ => Nat.le_of_ble_eq_true rfl) ?_
  intro X G Q ad σ a hl hR E hG R hM hv hp
  obtain ⟨a1, rfl⟩ : ∃ q : Int, q = a := ⟨_, rfl⟩
  have r_a1 : -2147483648 ≤ a1 ∧ a1 ≤ 2147483647 := hv (0, a1) (List.mem_of_getElem? (i := 1) rfl)
  have hp0 : MI σ := hp
  have B := @bk_ X G Q 0 0 ad SHS_ RX11 cX11_apart 6 (some .int) flX11 plX11 knX11 [(734, 2, TR_ as_G_X11_asksOrders (rmI_) pre_G_X11_asksOrders post_G_X11_asksOrders), (728, 3, TR_ as_G_X11_dayAt (rmI_) pre_G_X11_dayAt post_G_X11_dayAt), (279, 2, TMIN_), (643, 2, TMAX_)] _ _ none kX11_apart [10, 21, 33, 46] flX11_ok plX11_ok knX11_ok eX11_apart oX11_apart
    (List.forall_mem_cons.mpr ⟨cok_v (t := 32) (c := 11) (N := 39) (n := 1) (idx := 367) E (ct_G_X11_asksOrders X.2.1) (by rw [hR]; decide) (Nat.zero_le _) (Nat.zero_le _) hG rfl rfl ⟨rfl, by decide, by decide, by decide⟩ (fun _ => ⟨_, _, rfl, rfl⟩) wl_X11_367 wi_X11_asksOrders ws_X11_asksOrders wn_X11 wc_X11_asksOrders, List.forall_mem_cons.mpr ⟨cok_v (t := 32) (c := 11) (N := 39) (n := 2) (idx := 364) E (ct_G_X11_dayAt X.2.1) (by rw [hR]; decide) (Nat.zero_le _) (Nat.zero_le _) hG rfl rfl ⟨rfl, by decide, by decide, by decide⟩ (fun _ => ⟨_, _, rfl, rfl⟩) wl_X11_364 wi_X11_dayAt ws_X11_dayAt wn_X11 wc_X11_dayAt, List.forall_mem_cons.mpr ⟨cok_min (idx := 139) E (by rw [hR]; decide) (Nat.zero_le _) (Nat.zero_le _) wl_X11_139, List.forall_mem_cons.mpr ⟨cok_max (idx := 321) E (by rw [hR]; decide) (Nat.zero_le _) (Nat.zero_le _) wl_X11_321, fun _ h => absurd h List.not_mem_nil⟩⟩⟩⟩) R sok_no E
  show WP_ X G Q 0 0 ad SHS_ σ 0 [(42, 86), (0, a1), (9, 0), (9, 0), (9, 0), (9, 0)] []
  refine B rfl ?_
  refine Exists.intro a1 (And.intro rfl (And.intro hp0 ?_))
  rintro z1 m_ h2
  obtain rfl : σ = m_ := h2.2
  have h3 : z1 < 0 ∨ (0 ≤ a1 ∧ a1 ≤ 3 ∧ 0 ≤ σ 102 a1 ∧ σ 102 a1 ≤ 60 ∧ OD σ a1) := h2.1
  have hqo := h2.1
  try dsimp only at hqo
  refine And.intro (fun h4 => ?_) (fun h4 => ?_)
  · skip
    refine B rfl ?_
    have hqq := hqo.resolve_left (by omega)
    have hod0 : OD σ a1 := hqq.2.2.2.2
    refine And.intro (by omega) ?_
    intro z5 ez5 hz5
    have hz5 : ((-1) : Int) ≤ z5 ∧ z5 ≤ (60 : Int) := hz5
    refine And.intro (fun h6 => ?_) (fun h6 => ?_)
    · skip
      refine B rfl ?_
      show WP_ X G Q 0 0 ad SHS_ σ 33 [(42, 86), (0, a1), (0, z1), (0, 1000000), (0, 0), (0, 0)] []
      refine wdrop_ (L' := [(42, 86), (0, a1), (9, 0), (0, 1000000), (0, 0), (0, 0)]) ⟨Or.inr rfl, ⟨Or.inr rfl, ⟨Or.inl rfl, ⟨Or.inr rfl, ⟨Or.inr rfl, ⟨Or.inr rfl, trivial⟩⟩⟩⟩⟩⟩ ?_
      have lp_33 : ∀ (nq_ : Nat) (v3 : Int) (v4 : Int) (v5 : Int), (0 ≤ v5) → (v5 ≤ 15) → (0 ≤ v3) → (v3 ≤ 1000000) → (0 ≤ v4) → (v4 ≤ 4000) → (15 - v5 : Int).toNat < nq_ → WP_ X G Q 0 0 ad SHS_ σ 33 [(42, 86), (0, a1), (9, 0), (0, v3), (0, v4), (0, v5)] [] := by
        intro nq_
        induction nq_ with
        | zero => intros; omega
        | succ nq_ ih_33 =>
          intro v3 v4 v5 hi33_0 hi33_1 hi33_2 hi33_3 hi33_4 hi33_5 hm33
          refine B rfl ?_
          refine And.intro (by omega) ?_
          refine And.intro (by omega) ?_
          intro z7 ez7 hz7
          have q8 : z5 = z7 := ez5.trans ez7.symm
          subst q8
          refine And.intro (fun h9 => ?_) (fun h9 => ?_)
          · skip
            refine B rfl ?_
            refine And.intro (by omega) ?_
            refine Exists.intro _ (And.intro rfl ?_)
            exact rfl
          · skip
            show WP_ X G Q 0 0 ad SHS_ σ 46 [(42, 86), (0, a1), (9, 0), (0, v3), (0, v4), (0, v5)] []
            refine B rfl ?_
            have o10 := hod0 v5 (by omega) (by omega)
            unfold ODe at o10
            have p11 : BW σ 87 := (hp0).1.1
            refine Exists.intro (a1, v5) (And.intro rfl (And.intro (And.intro p11 (And.intro (by show 0 ≤ a1; omega) (And.intro (by show a1 ≤ 3; omega) (And.intro (by show 0 ≤ v5; omega) (And.intro (by show v5 ≤ 14; omega) (And.intro (by show 0 ≤ l2i_ (σ 104 (60 * a1 + 4 * v5)); omega) (And.intro (by show l2i_ (σ 104 (60 * a1 + 4 * v5)) ≤ 2; omega) (And.intro (by show 0 ≤ l2i_ (σ 104 (60 * a1 + (4 * v5 + 1))); omega) (And.intro (by show l2i_ (σ 104 (60 * a1 + (4 * v5 + 1))) ≤ 1999; omega) (And.intro (by show 0 ≤ l2i_ (σ 104 (60 * a1 + (4 * v5 + 2))); omega) (And.intro (by show l2i_ (σ 104 (60 * a1 + (4 * v5 + 2))) ≤ 7; omega) (And.intro (by show 0 ≤ l2i_ (σ 104 (60 * a1 + (4 * v5 + 3))); omega) (by show l2i_ (σ 104 (60 * a1 + (4 * v5 + 3))) ≤ 68; omega))))))))))))) ?_))
            rintro z12 m_ h13
            obtain rfl : σ = m_ := h13.2.2
            have h14 : z12 = dayF_ (σ 87) (l2i_ (σ 104 (60 * a1 + 4 * v5))) (l2i_ (σ 104 (60 * a1 + (4 * v5 + 1)))) (l2i_ (σ 104 (60 * a1 + (4 * v5 + 2)))) (l2i_ (σ 104 (60 * a1 + (4 * v5 + 3)))) := h13.1
            have h15 : 0 ≤ z12 ∧ z12 ≤ 4000 := h13.2.1
            refine Exists.intro v3 (Exists.intro z12 (And.intro rfl ?_))
            intro z16 hz16
            have o17 := hod0 v5 (by omega) (by omega)
            unfold ODe at o17
            refine Exists.intro (a1, v5) (And.intro rfl (And.intro (And.intro p11 (And.intro (by show 0 ≤ a1; omega) (And.intro (by show a1 ≤ 3; omega) (And.intro (by show 0 ≤ v5; omega) (And.intro (by show v5 ≤ 14; omega) (And.intro (by show 0 ≤ l2i_ (σ 104 (60 * a1 + 4 * v5)); omega) (And.intro (by show l2i_ (σ 104 (60 * a1 + 4 * v5)) ≤ 2; omega) (And.intro (by show 0 ≤ l2i_ (σ 104 (60 * a1 + (4 * v5 + 1))); omega) (And.intro (by show l2i_ (σ 104 (60 * a1 + (4 * v5 + 1))) ≤ 1999; omega) (And.intro (by show 0 ≤ l2i_ (σ 104 (60 * a1 + (4 * v5 + 2))); omega) (And.intro (by show l2i_ (σ 104 (60 * a1 + (4 * v5 + 2))) ≤ 7; omega) (And.intro (by show 0 ≤ l2i_ (σ 104 (60 * a1 + (4 * v5 + 3))); omega) (by show l2i_ (σ 104 (60 * a1 + (4 * v5 + 3))) ≤ 68; omega))))))))))))) ?_))
            rintro z18 m_ h19
            obtain rfl : σ = m_ := h19.2.2
            have h20 : z18 = dayF_ (σ 87) (l2i_ (σ 104 (60 * a1 + 4 * v5))) (l2i_ (σ 104 (60 * a1 + (4 * v5 + 1)))) (l2i_ (σ 104 (60 * a1 + (4 * v5 + 2)))) (l2i_ (σ 104 (60 * a1 + (4 * v5 + 3)))) := h19.1
            have h21 : 0 ≤ z18 ∧ z18 ≤ 4000 := h19.2.1
            refine Exists.intro v4 (Exists.intro z18 (And.intro rfl ?_))
            intro z22 hz22
            refine And.intro (by omega) ?_
            exact ih_33 z16 z22 (v5 + 1) (by show 0 ≤ (v5 + 1); omega) (by show (v5 + 1) ≤ 15; omega) (by show 0 ≤ z16; omega) (by show z16 ≤ 1000000; omega) (by show 0 ≤ z22; omega) (by show z22 ≤ 4000; omega) (by omega)
      exact lp_33 ((15 - 0 : Int).toNat + 1) 1000000 0 0 (by show 0 ≤ 0; omega) (by show 0 ≤ 15; omega) (by show 0 ≤ 1000000; omega) (by show 1000000 ≤ 1000000; omega) (by show 0 ≤ 0; omega) (by show 0 ≤ 4000; omega) (by omega)
    · skip
      show WP_ X G Q 0 0 ad SHS_ σ 21 [(42, 86), (0, a1), (0, z1), (9, 0), (9, 0), (9, 0)] []
      refine B rfl ?_
      refine Exists.intro _ (And.intro rfl ?_)
      exact rfl
  · skip
    show WP_ X G Q 0 0 ad SHS_ σ 10 [(42, 86), (0, a1), (0, z1), (9, 0), (9, 0), (9, 0)] []
    refine B rfl ?_
    refine Exists.intro _ (And.intro rfl ?_)
    exact rfl
def as_G_X11_idle : Int → List Sv_t := fun a => [(42, 86), (0, a)]
def pre_G_X11_idle : Int → Me_t → Prop := fun a σ => (MI σ)
def post_G_X11_idle : Int → Me_t → Int → Me_t → Prop := fun a σ z σ' => (∀ k j : Int, ¬ (93 ≤ k ∧ k ≤ 96) → σ' k j = σ k j)
set_option maxHeartbeats 1500000 in
set_option maxRecDepth 100000 in
theorem ct_G_X11_idle (l : Launch) : CT_ l yX11_idle cX11_idle 5 (some .int) 6 139 as_G_X11_idle (rmI_) pre_G_X11_idle post_G_X11_idle := by
  refine ct_of (by decide) (fun _ => Nat.le_of_ble_eq_true rfl) ?_
  intro X G Q ad σ a hl hR E hG R hM hv hp
  obtain ⟨a1, rfl⟩ : ∃ q : Int, q = a := ⟨_, rfl⟩
  have r_a1 : -2147483648 ≤ a1 ∧ a1 ≤ 2147483647 := hv (0, a1) (List.mem_of_getElem? (i := 1) rfl)
  have hp0 : MI σ := hp
  have B := @bk_ X G Q 0 0 ad SHS_ RX11 cX11_idle 5 (some .int) flX11 plX11 knX11 [(734, 2, TR_ as_G_X11_asksOrders (rmI_) pre_G_X11_asksOrders post_G_X11_asksOrders), (538, 1, TR_ as_G_X11_lay (rmV_) pre_G_X11_lay post_G_X11_lay), (716, 3, TR_ as_G_X11_intAt (rmI_) pre_G_X11_intAt post_G_X11_intAt), (728, 3, TR_ as_G_X11_dayAt (rmI_) pre_G_X11_dayAt post_G_X11_dayAt), (508, 3, TR_ as_G_X11_mayOn (rmI_) pre_G_X11_mayOn post_G_X11_mayOn)] _ _ none kX11_idle [10, 21, 34, 58] flX11_ok plX11_ok knX11_ok eX11_idle oX11_idle
    (List.forall_mem_cons.mpr ⟨cok_v (t := 32) (c := 11) (N := 39) (n := 1) (idx := 367) E (ct_G_X11_asksOrders X.2.1) (by rw [hR]; decide) (Nat.zero_le _) (Nat.zero_le _) hG rfl rfl ⟨rfl, by decide, by decide, by decide⟩ (fun _ => ⟨_, _, rfl, rfl⟩) wl_X11_367 wi_X11_asksOrders ws_X11_asksOrders wn_X11 wc_X11_asksOrders, List.forall_mem_cons.mpr ⟨cok_v (t := 32) (c := 11) (N := 39) (n := 0) (idx := 269) E (ct_G_X11_lay X.2.1) (by rw [hR]; decide) (Nat.zero_le _) (Nat.zero_le _) hG rfl rfl ⟨rfl, by decide, by decide, by decide⟩ (fun _ => ⟨_, _, rfl, rfl⟩) wl_X11_269 wi_X11_lay ws_X11_lay wn_X11 wc_X11_lay, List.forall_mem_cons.mpr ⟨cok_v (t := 32) (c := 11) (N := 39) (n := 2) (idx := 358) E (ct_G_X11_intAt X.2.1) (by rw [hR]; decide) (Nat.zero_le _) (Nat.zero_le _) hG rfl rfl ⟨rfl, by decide, by decide, by decide⟩ (fun _ => ⟨_, _, rfl, rfl⟩) wl_X11_358 wi_X11_intAt ws_X11_intAt wn_X11 wc_X11_intAt, List.forall_mem_cons.mpr ⟨cok_v (t := 32) (c := 11) (N := 39) (n := 2) (idx := 364) E (ct_G_X11_dayAt X.2.1) (by rw [hR]; decide) (Nat.zero_le _) (Nat.zero_le _) hG rfl rfl ⟨rfl, by decide, by decide, by decide⟩ (fun _ => ⟨_, _, rfl, rfl⟩) wl_X11_364 wi_X11_dayAt ws_X11_dayAt wn_X11 wc_X11_dayAt, List.forall_mem_cons.mpr ⟨cok_v (t := 32) (c := 11) (N := 39) (n := 2) (idx := 254) E (ct_G_X11_mayOn X.2.1) (by rw [hR]; decide) (Nat.zero_le _) (Nat.zero_le _) hG rfl rfl ⟨rfl, by decide, by decide, by decide⟩ (fun _ => ⟨_, _, rfl, rfl⟩) wl_X11_254 wi_X11_mayOn ws_X11_mayOn wn_X11 wc_X11_mayOn, fun _ h => absurd h List.not_mem_nil⟩⟩⟩⟩⟩) R sok_no E
  show WP_ X G Q 0 0 ad SHS_ σ 0 [(42, 86), (0, a1), (9, 0), (9, 0), (9, 0)] []
  refine B rfl ?_
  refine Exists.intro a1 (And.intro rfl (And.intro hp0 ?_))
  rintro z1 m_ h2
  obtain rfl : σ = m_ := h2.2
  have h3 : z1 < 0 ∨ (0 ≤ a1 ∧ a1 ≤ 3 ∧ 0 ≤ σ 102 a1 ∧ σ 102 a1 ≤ 60 ∧ OD σ a1) := h2.1
  have hqo := h2.1
  try dsimp only at hqo
  refine And.intro (fun h4 => ?_) (fun h4 => ?_)
  · skip
    refine B rfl ?_
    have hqq := hqo.resolve_left (by omega)
    have hod0 : OD σ a1 := hqq.2.2.2.2
    refine Exists.intro () (And.intro rfl (And.intro hp0 ?_))
    intro z5 σ7 h6
    have f8 : ∀ k j : Int, ¬ (93 ≤ k ∧ k ≤ 96) → σ7 k j = σ k j := h6.2
    have h9 : LY σ7 := h6.1
    show WP_ X G Q 0 0 ad SHS_ σ7 21 [(42, 86), (0, a1), (0, z1), (0, 0), (0, 0)] []
    refine wdrop_ (L' := [(42, 86), (0, a1), (9, 0), (0, 0), (0, 0)]) ⟨Or.inr rfl, ⟨Or.inr rfl, ⟨Or.inl rfl, ⟨Or.inr rfl, ⟨Or.inr rfl, trivial⟩⟩⟩⟩⟩ ?_
    have lp_21 : ∀ (nq_ : Nat) (v3 : Int) (v4 : Int), (0 ≤ v4) → (v4 ≤ 15) → (0 ≤ v3) → (v3 ≤ v4) → (15 - v4 : Int).toNat < nq_ → WP_ X G Q 0 0 ad SHS_ σ7 21 [(42, 86), (0, a1), (9, 0), (0, v3), (0, v4)] [] := by
      intro nq_
      induction nq_ with
      | zero => intros; omega
      | succ nq_ ih_21 =>
        intro v3 v4 hi21_0 hi21_1 hi21_2 hi21_3 hm21
        refine B rfl ?_
        refine And.intro (by omega) ?_
        refine And.intro (by omega) ?_
        intro z10 ez10 hz10
        have hz10 : ((-1) : Int) ≤ z10 ∧ z10 ≤ (60 : Int) := hz10
        try have t11 : σ7 102 a1 = σ 102 a1 := (f8 _ _ (by omega))
        refine And.intro (fun h12 => ?_) (fun h12 => ?_)
        · skip
          refine B rfl ?_
          refine Exists.intro _ (And.intro rfl ?_)
          exact (fun k j hk => (f8 _ _ (by omega)))
        · skip
          show WP_ X G Q 0 0 ad SHS_ σ7 34 [(42, 86), (0, a1), (9, 0), (0, v3), (0, v4)] []
          refine B rfl ?_
          refine And.intro (by omega) ?_
          have p13 : OD σ7 a1 := OD_fr hod0 (fun k j hk => (f8 _ _ (by omega)))
          have o14 := p13 v4 (by omega) (by omega)
          unfold ODe at o14
          refine Exists.intro (a1, 4 * v4) (And.intro rfl (And.intro (And.intro (by show 0 ≤ a1; omega) (And.intro (by show a1 ≤ 3; omega) (And.intro (by show 0 ≤ (4 * v4); omega) (by show (4 * v4) ≤ 59; omega)))) ?_))
          rintro z15 m_ h16
          obtain rfl : σ7 = m_ := h16.2.2.2
          have h17 : z15 = l2i_ (σ7 104 (60 * a1 + (4 * v4))) := h16.1
          try have t18 : σ7 104 (60 * a1 + (4 * v4)) = σ 104 (60 * a1 + (4 * v4)) := (f8 _ _ (by omega))
          have h19 : -2147483648 ≤ z15 ∧ z15 ≤ 2147483647 := h16.2.1
          have h20 : -2147483648 ≤ σ7 104 (60 * a1 + (4 * v4)) ∧ σ7 104 (60 * a1 + (4 * v4)) ≤ 2147483647 → z15 = σ7 104 (60 * a1 + (4 * v4)) := h16.2.2.1
          have q21 : z15 = l2i_ (σ7 104 (60 * a1 + (4 * v4))) := by omega
          subst q21
          have p22 : MI σ7 := MI_fr hp0 (fun k j hk => (f8 _ _ (by omega)))
          have p23 : BW σ7 87 := (p22).1.1
          try have t24 : σ7 104 (60 * a1 + 4 * v4) = σ 104 (60 * a1 + 4 * v4) := (f8 _ _ (by omega))
          try have t25 : σ7 104 (60 * a1 + (4 * v4 + 1)) = σ 104 (60 * a1 + (4 * v4 + 1)) := (f8 _ _ (by omega))
          try have t26 : σ7 104 (60 * a1 + (4 * v4 + 2)) = σ 104 (60 * a1 + (4 * v4 + 2)) := (f8 _ _ (by omega))
          try have t27 : σ7 104 (60 * a1 + (4 * v4 + 3)) = σ 104 (60 * a1 + (4 * v4 + 3)) := (f8 _ _ (by omega))
          refine Exists.intro (a1, v4) (And.intro rfl (And.intro (And.intro p23 (And.intro (by show 0 ≤ a1; omega) (And.intro (by show a1 ≤ 3; omega) (And.intro (by show 0 ≤ v4; omega) (And.intro (by show v4 ≤ 14; omega) (And.intro (by show 0 ≤ l2i_ (σ7 104 (60 * a1 + 4 * v4)); omega) (And.intro (by show l2i_ (σ7 104 (60 * a1 + 4 * v4)) ≤ 2; omega) (And.intro (by show 0 ≤ l2i_ (σ7 104 (60 * a1 + (4 * v4 + 1))); omega) (And.intro (by show l2i_ (σ7 104 (60 * a1 + (4 * v4 + 1))) ≤ 1999; omega) (And.intro (by show 0 ≤ l2i_ (σ7 104 (60 * a1 + (4 * v4 + 2))); omega) (And.intro (by show l2i_ (σ7 104 (60 * a1 + (4 * v4 + 2))) ≤ 7; omega) (And.intro (by show 0 ≤ l2i_ (σ7 104 (60 * a1 + (4 * v4 + 3))); omega) (by show l2i_ (σ7 104 (60 * a1 + (4 * v4 + 3))) ≤ 68; omega))))))))))))) ?_))
          rintro z28 m_ h29
          obtain rfl : σ7 = m_ := h29.2.2
          have h30 : z28 = dayF_ (σ7 87) (l2i_ (σ7 104 (60 * a1 + 4 * v4))) (l2i_ (σ7 104 (60 * a1 + (4 * v4 + 1)))) (l2i_ (σ7 104 (60 * a1 + (4 * v4 + 2)))) (l2i_ (σ7 104 (60 * a1 + (4 * v4 + 3)))) := h29.1
          have h31 : 0 ≤ z28 ∧ z28 ≤ 4000 := h29.2.1
          refine Exists.intro (l2i_ (σ7 104 (60 * a1 + (4 * v4))), z28) (And.intro rfl (And.intro (And.intro (by show 0 ≤ (l2i_ (σ7 104 (60 * a1 + (4 * v4)))); omega) (And.intro (by show (l2i_ (σ7 104 (60 * a1 + (4 * v4)))) ≤ 2; omega) (And.intro (by show 0 ≤ z28; omega) (by show z28 ≤ 1999; omega)))) ?_))
          rintro z32 m_ h33
          obtain rfl : σ7 = m_ := h33.2
          have h34 : (z32 = 1 ∧ σ7 96 (2000 * (l2i_ (σ7 104 (60 * a1 + (4 * v4)))) + z28) = 0) ∨ (z32 = 0 ∧ σ7 96 (2000 * (l2i_ (σ7 104 (60 * a1 + (4 * v4)))) + z28) ≠ 0) := h33.1
          refine And.intro (fun h35 => ?_) (fun h35 => ?_)
          · skip
            refine B rfl ?_
            refine And.intro (by omega) ?_
            refine And.intro (by omega) ?_
            exact ih_21 (v3 + 1) (v4 + 1) (by show 0 ≤ (v4 + 1); omega) (by show (v4 + 1) ≤ 15; omega) (by show 0 ≤ (v3 + 1); omega) (by show (v3 + 1) ≤ (v4 + 1); omega) (by omega)
          · skip
            show WP_ X G Q 0 0 ad SHS_ σ7 58 [(42, 86), (0, a1), (9, 0), (0, v3), (0, v4)] [(0, v3)]
            refine B rfl ?_
            refine B rfl ?_
            refine And.intro (by omega) ?_
            refine And.intro (by omega) ?_
            exact ih_21 (v3 + 0) (v4 + 1) (by show 0 ≤ (v4 + 1); omega) (by show (v4 + 1) ≤ 15; omega) (by show 0 ≤ (v3 + 0); omega) (by show (v3 + 0) ≤ (v4 + 1); omega) (by omega)
    exact lp_21 ((15 - 0 : Int).toNat + 1) 0 0 (by show 0 ≤ 0; omega) (by show 0 ≤ 15; omega) (by show 0 ≤ 0; omega) (by show 0 ≤ 0; omega) (by omega)
  · skip
    show WP_ X G Q 0 0 ad SHS_ σ 10 [(42, 86), (0, a1), (0, z1), (9, 0), (9, 0)] []
    refine B rfl ?_
    refine Exists.intro _ (And.intro rfl ?_)
    exact (fun k j hk => rfl)
def as_G_X11_asksSeen : Int × Int × Int × Int → List Sv_t := fun a => [(42, 86), (0, a.1), (0, a.2.1), (0, a.2.2.1), (0, a.2.2.2)]
def pre_G_X11_asksSeen : Int × Int × Int × Int → Me_t → Prop := fun a σ => (MI σ)
def post_G_X11_asksSeen : Int × Int × Int × Int → Me_t → Int → Me_t → Prop := fun a σ z σ' => (z < 0 ∨ (0 ≤ a.1 ∧ a.1 ≤ 3 ∧ 0 ≤ a.2.1 ∧ a.2.1 ≤ a.2.2.1 ∧ a.2.2.1 ≤ 1999 ∧ SN σ' a.1)) ∧ (∀ k j : Int, ¬ (93 ≤ k ∧ k ≤ 96) → σ' k j = σ k j)
set_option maxHeartbeats 1500000 in
set_option maxRecDepth 100000 in
theorem ct_G_X11_asksSeen (l : Launch) : CT_ l yX11_asksSeen cX11_asksSeen 6 (some .int) 4 92 as_G_X11_asksSeen (rmI_) pre_G_X11_asksSeen post_G_X11_asksSeen := by
  refine ct_of (by decide) (fun _ => Nat.le_of_ble_eq_true rfl) ?_
  intro X G Q ad σ a hl hR E hG R hM hv hp
  obtain ⟨a1, a2, a3, a4⟩ := a
  have r_a1 : -2147483648 ≤ a1 ∧ a1 ≤ 2147483647 := hv (0, a1) (List.mem_of_getElem? (i := 1) rfl)
  have r_a2 : -2147483648 ≤ a2 ∧ a2 ≤ 2147483647 := hv (0, a2) (List.mem_of_getElem? (i := 2) rfl)
  have r_a3 : -2147483648 ≤ a3 ∧ a3 ≤ 2147483647 := hv (0, a3) (List.mem_of_getElem? (i := 3) rfl)
  have r_a4 : -2147483648 ≤ a4 ∧ a4 ≤ 2147483647 := hv (0, a4) (List.mem_of_getElem? (i := 4) rfl)
  have hp0 : MI σ := hp
  have B := @bk_ X G Q 0 0 ad SHS_ RX11 cX11_asksSeen 6 (some .int) flX11 plX11 knX11 [(723, 1, TR_ as_G_X11_isSlot (rmI_) pre_G_X11_isSlot post_G_X11_isSlot), (593, 2, TR_ as_G_X11_isSpan (rmI_) pre_G_X11_isSpan post_G_X11_isSpan), (184, 1, TR_ as_G_X11_isWar (rmI_) pre_G_X11_isWar post_G_X11_isWar), (538, 1, TR_ as_G_X11_lay (rmV_) pre_G_X11_lay post_G_X11_lay), (708, 3, TR_ as_G_X11_numberAt (rmL_) pre_G_X11_numberAt post_G_X11_numberAt), (166, 2, TR_ as_G_X11_isLand (rmI_) pre_G_X11_isLand post_G_X11_isLand), (159, 3, TR_ as_G_X11_in (rmI_) pre_G_X11_in post_G_X11_in)] _ _ none kX11_asksSeen [7, 15, 22, 27, 40, 54, 60, 71, 85, 104] flX11_ok plX11_ok knX11_ok eX11_asksSeen oX11_asksSeen
    (List.forall_mem_cons.mpr ⟨cok_s (n := 1) (idx := 361) E (ct_G_X11_isSlot X.2.1) (by rw [hR]; decide) (Nat.zero_le _) (Nat.zero_le _) hG ⟨by decide, by decide, by decide⟩ (fun _ => rfl) wl_X11_361 wt_X11_isSlot wn_X11 wc_X11_isSlot, List.forall_mem_cons.mpr ⟨cok_s (n := 2) (idx := 296) E (ct_G_X11_isSpan X.2.1) (by rw [hR]; decide) (Nat.zero_le _) (Nat.zero_le _) hG ⟨by decide, by decide, by decide⟩ (fun _ => rfl) wl_X11_296 wt_X11_isSpan wn_X11 wc_X11_isSpan, List.forall_mem_cons.mpr ⟨cok_v (t := 32) (c := 11) (N := 39) (n := 0) (idx := 92) E (ct_G_X11_isWar X.2.1) (by rw [hR]; decide) (Nat.zero_le _) (Nat.zero_le _) hG rfl rfl ⟨rfl, by decide, by decide, by decide⟩ (fun _ => ⟨_, _, rfl, rfl⟩) wl_X11_92 wi_X11_isWar ws_X11_isWar wn_X11 wc_X11_isWar, List.forall_mem_cons.mpr ⟨cok_v (t := 32) (c := 11) (N := 39) (n := 0) (idx := 269) E (ct_G_X11_lay X.2.1) (by rw [hR]; decide) (Nat.zero_le _) (Nat.zero_le _) hG rfl rfl ⟨rfl, by decide, by decide, by decide⟩ (fun _ => ⟨_, _, rfl, rfl⟩) wl_X11_269 wi_X11_lay ws_X11_lay wn_X11 wc_X11_lay, List.forall_mem_cons.mpr ⟨cok_v (t := 32) (c := 11) (N := 39) (n := 2) (idx := 354) E (ct_G_X11_numberAt X.2.1) (by rw [hR]; decide) (Nat.zero_le _) (Nat.zero_le _) hG rfl rfl ⟨rfl, by decide, by decide, by decide⟩ (fun _ => ⟨_, _, rfl, rfl⟩) wl_X11_354 wi_X11_numberAt ws_X11_numberAt wn_X11 wc_X11_numberAt, List.forall_mem_cons.mpr ⟨cok_v (t := 32) (c := 11) (N := 39) (n := 1) (idx := 83) E (ct_G_X11_isLand X.2.1) (by rw [hR]; decide) (Nat.zero_le _) (Nat.zero_le _) hG rfl rfl ⟨rfl, by decide, by decide, by decide⟩ (fun _ => ⟨_, _, rfl, rfl⟩) wl_X11_83 wi_X11_isLand ws_X11_isLand wn_X11 wc_X11_isLand, List.forall_mem_cons.mpr ⟨cok_s (n := 3) (idx := 79) E (ct_G_X11_in X.2.1) (by rw [hR]; decide) (Nat.zero_le _) (Nat.zero_le _) hG ⟨by decide, by decide, by decide⟩ (fun _ => rfl) wl_X11_79 wt_X11_in wn_X11 wc_X11_in, fun _ h => absurd h List.not_mem_nil⟩⟩⟩⟩⟩⟩⟩) R sok_no E
  show WP_ X G Q 0 0 ad SHS_ σ 0 [(42, 86), (0, a1), (0, a2), (0, a3), (0, a4), (9, 0)] []
  refine B rfl ?_
  refine Exists.intro a1 (And.intro rfl (And.intro True.intro ?_))
  rintro z1 m_ h2
  obtain rfl : σ = m_ := h2.2
  have h3 : (z1 = 1 ∧ 0 ≤ a1 ∧ a1 ≤ 3) ∨ (z1 = 0 ∧ ¬ (0 ≤ a1 ∧ a1 ≤ 3)) := h2.1
  refine And.intro (fun h4 => ?_) (fun h4 => ?_)
  · skip
    refine B rfl ?_
    refine Exists.intro _ (And.intro rfl ?_)
    exact (And.intro (by show (-2) < 0 ∨ (0 ≤ a1 ∧ a1 ≤ 3 ∧ 0 ≤ a2 ∧ a2 ≤ a3 ∧ a3 ≤ 1999 ∧ SN σ a1); exact Or.inl (by omega)) (fun k j hk => rfl))
  · skip
    show WP_ X G Q 0 0 ad SHS_ σ 7 [(42, 86), (0, a1), (0, a2), (0, a3), (0, a4), (9, 0)] []
    refine B rfl ?_
    refine Exists.intro (a2, a3) (And.intro rfl (And.intro True.intro ?_))
    rintro z5 m_ h6
    obtain rfl : σ = m_ := h6.2
    have h7 : (z5 = 1 ∧ 0 ≤ a2 ∧ a2 ≤ a3 ∧ a3 ≤ 1999) ∨ z5 = 0 := h6.1
    refine And.intro (fun h8 => ?_) (fun h8 => ?_)
    · skip
      refine B rfl ?_
      refine Exists.intro _ (And.intro rfl ?_)
      exact (And.intro (by show (-2) < 0 ∨ (0 ≤ a1 ∧ a1 ≤ 3 ∧ 0 ≤ a2 ∧ a2 ≤ a3 ∧ a3 ≤ 1999 ∧ SN σ a1); exact Or.inl (by omega)) (fun k j hk => rfl))
    · skip
      show WP_ X G Q 0 0 ad SHS_ σ 15 [(42, 86), (0, a1), (0, a2), (0, a3), (0, a4), (9, 0)] []
      refine B rfl ?_
      refine Exists.intro () (And.intro rfl (And.intro True.intro ?_))
      rintro z9 m_ h10
      obtain rfl : σ = m_ := h10.2
      have h11 : 0 ≤ z9 ∧ z9 ≤ 1 := h10.1
      refine And.intro (fun h12 => ?_) (fun h12 => ?_)
      · skip
        refine B rfl ?_
        refine Exists.intro _ (And.intro rfl ?_)
        exact (And.intro (by show (-2) < 0 ∨ (0 ≤ a1 ∧ a1 ≤ 3 ∧ 0 ≤ a2 ∧ a2 ≤ a3 ∧ a3 ≤ 1999 ∧ SN σ a1); exact Or.inl (by omega)) (fun k j hk => rfl))
      · skip
        show WP_ X G Q 0 0 ad SHS_ σ 22 [(42, 86), (0, a1), (0, a2), (0, a3), (0, a4), (9, 0)] []
        refine B rfl ?_
        refine And.intro (fun h13 => ?_) (fun h13 => ?_)
        · skip
          refine B rfl ?_
          refine And.intro (by omega) ?_
          intro z14 ez14 hz14
          have hz14 : ((-1) : Int) ≤ z14 ∧ z14 ≤ (60 : Int) := hz14
          refine And.intro (fun h15 => ?_) (fun h15 => ?_)
          · skip
            refine B rfl ?_
            refine And.intro (by omega) ?_
            intro z16 ez16 hz16
            have q17 : z14 = z16 := ez14.trans ez16.symm
            subst q17
            have q18 : Int.tmod z14 3 = z14 % 3 := Int.tmod_eq_emod_of_nonneg (by omega)
            refine And.intro (by omega) ?_
            refine And.intro (fun h19 => ?_) (fun h19 => ?_)
            · skip
              refine B rfl ?_
              show WP_ X G Q 0 0 ad SHS_ σ 60 [(42, 86), (0, a1), (0, a2), (0, a3), (0, a4), (0, 0)] []
              refine wdrop_ (L' := [(42, 86), (0, a1), (9, 0), (9, 0), (9, 0), (0, 0)]) ⟨Or.inr rfl, ⟨Or.inr rfl, ⟨Or.inl rfl, ⟨Or.inl rfl, ⟨Or.inl rfl, ⟨Or.inr rfl, trivial⟩⟩⟩⟩⟩⟩ ?_
              have lp_60 : ∀ (nq_ : Nat) (v5 : Int), (0 ≤ v5) → (v5 ≤ 60) → (v5 % 3 = 0) → (∀ j : Int, 0 ≤ j → j < v5 → j % 3 = 0 → SNe σ a1 j) → (60 - v5 : Int).toNat < nq_ → WP_ X G Q 0 0 ad SHS_ σ 60 [(42, 86), (0, a1), (9, 0), (9, 0), (9, 0), (0, v5)] [] := by
                intro nq_
                induction nq_ with
                | zero => intros; omega
                | succ nq_ ih_60 =>
                  intro v5 hi60_0 hi60_1 hi60_2 hi60_3 hm60
                  refine B rfl ?_
                  refine And.intro (by omega) ?_
                  intro z20 ez20 hz20
                  have q21 : z14 = z20 := ez14.trans ez20.symm
                  subst q21
                  refine And.intro (fun h22 => ?_) (fun h22 => ?_)
                  · skip
                    refine B rfl ?_
                    have hsn0 : SN σ a1 := fun j h1 h2 h3 => hi60_3 j h1 (by omega) h3
                    refine Exists.intro () (And.intro rfl (And.intro hp0 ?_))
                    intro z23 σ25 h24
                    have f26 : ∀ k j : Int, ¬ (93 ≤ k ∧ k ≤ 96) → σ25 k j = σ k j := h24.2
                    have h27 : LY σ25 := h24.1
                    refine Exists.intro _ (And.intro rfl ?_)
                    have p28 : SN σ25 a1 := SN_fr hsn0 (fun k j hk => (f26 _ _ (by omega)))
                    exact (And.intro (by show 0 < 0 ∨ (0 ≤ a1 ∧ a1 ≤ 3 ∧ 0 ≤ a2 ∧ a2 ≤ a3 ∧ a3 ≤ 1999 ∧ SN σ25 a1); exact Or.inr ⟨by omega, by omega, by omega, by omega, by omega, p28⟩) (fun k j hk => (f26 _ _ (by omega))))
                  · skip
                    show WP_ X G Q 0 0 ad SHS_ σ 71 [(42, 86), (0, a1), (9, 0), (9, 0), (9, 0), (0, v5)] []
                    refine B rfl ?_
                    refine Exists.intro (a1, v5) (And.intro rfl (And.intro (And.intro (by show 0 ≤ a1; omega) (And.intro (by show a1 ≤ 3; omega) (And.intro (by show 0 ≤ v5; omega) (by show v5 ≤ 59; omega)))) ?_))
                    rintro z29 m_ h30
                    obtain rfl : σ = m_ := h30.2
                    have h31 : z29 = σ 104 (60 * a1 + v5) := h30.1
                    have q32 : z29 = σ 104 (60 * a1 + v5) := by omega
                    subst q32
                    have p33 : BW σ 87 := (hp0).1.1
                    refine Exists.intro (σ 104 (60 * a1 + v5)) (And.intro rfl (And.intro p33 ?_))
                    rintro z34 m_ h35
                    obtain rfl : σ = m_ := h35.2
                    have h36 : (z34 = 1 ∧ 0 ≤ (σ 104 (60 * a1 + v5)) ∧ (σ 104 (60 * a1 + v5)) ≤ 2 ∧ (σ 104 (60 * a1 + v5)) < σ 87 1) ∨ z34 = 0 := h35.1
                    refine And.intro (fun h37 => ?_) (fun h37 => ?_)
                    · skip
                      refine B rfl ?_
                      refine Exists.intro _ (And.intro rfl ?_)
                      exact (And.intro (by show (-2) < 0 ∨ (0 ≤ a1 ∧ a1 ≤ 3 ∧ 0 ≤ a2 ∧ a2 ≤ a3 ∧ a3 ≤ 1999 ∧ SN σ a1); exact Or.inl (by omega)) (fun k j hk => rfl))
                    · skip
                      show WP_ X G Q 0 0 ad SHS_ σ 85 [(42, 86), (0, a1), (9, 0), (9, 0), (9, 0), (0, v5)] []
                      refine B rfl ?_
                      refine And.intro (by omega) ?_
                      refine Exists.intro (a1, v5 + 1) (And.intro rfl (And.intro (And.intro (by show 0 ≤ a1; omega) (And.intro (by show a1 ≤ 3; omega) (And.intro (by show 0 ≤ (v5 + 1); omega) (by show (v5 + 1) ≤ 59; omega)))) ?_))
                      rintro z38 m_ h39
                      obtain rfl : σ = m_ := h39.2
                      have h40 : z38 = σ 104 (60 * a1 + (v5 + 1)) := h39.1
                      have q41 : z38 = σ 104 (60 * a1 + (v5 + 1)) := by omega
                      subst q41
                      refine Exists.intro (σ 104 (60 * a1 + (v5 + 1)), 0, 4) (And.intro rfl (And.intro True.intro ?_))
                      rintro z42 m_ h43
                      obtain rfl : σ = m_ := h43.2
                      have h44 : (z42 = 1 ∧ 0 ≤ (σ 104 (60 * a1 + (v5 + 1))) ∧ (σ 104 (60 * a1 + (v5 + 1))) ≤ 4) ∨ (z42 = 0 ∧ ¬ (0 ≤ (σ 104 (60 * a1 + (v5 + 1))) ∧ (σ 104 (60 * a1 + (v5 + 1))) ≤ 4)) := h43.1
                      refine And.intro (fun h45 => ?_) (fun h45 => ?_)
                      · skip
                        refine B rfl ?_
                        refine And.intro (by omega) ?_
                        exact ih_60 (v5 + 3) (by show 0 ≤ (v5 + 3); omega) (by show (v5 + 3) ≤ 60; omega) (by show (v5 + 3) % 3 = 0; omega) (by show ∀ j : Int, 0 ≤ j → j < (v5 + 3) → j % 3 = 0 → SNe σ a1 j; intro j h1 h2 h3; by_cases hj : j = v5; subst hj; unfold SNe; rw [(l2i_t (x := σ 104 (60 * a1 + j))).1 (by omega), (l2i_t (x := σ 104 (60 * a1 + (j + 1)))).1 (by omega)]; refine ⟨⟨?_, ?_, ?_⟩, ?_, ?_⟩ <;> omega; exact hi60_3 j h1 (by omega) h3) (by omega)
                      · skip
                        show WP_ X G Q 0 0 ad SHS_ σ 104 [(42, 86), (0, a1), (9, 0), (9, 0), (9, 0), (0, v5)] []
                        refine B rfl ?_
                        refine Exists.intro _ (And.intro rfl ?_)
                        exact (And.intro (by show (-2) < 0 ∨ (0 ≤ a1 ∧ a1 ≤ 3 ∧ 0 ≤ a2 ∧ a2 ≤ a3 ∧ a3 ≤ 1999 ∧ SN σ a1); exact Or.inl (by omega)) (fun k j hk => rfl))
              exact lp_60 ((60 - 0 : Int).toNat + 1) 0 (by show 0 ≤ 0; omega) (by show 0 ≤ 60; omega) (by show 0 % 3 = 0; omega) (by show ∀ j : Int, 0 ≤ j → j < 0 → j % 3 = 0 → SNe σ a1 j; intro j h1 h2; omega) (by omega)
            · skip
              show WP_ X G Q 0 0 ad SHS_ σ 54 [(42, 86), (0, a1), (0, a2), (0, a3), (0, a4), (9, 0)] []
              refine B rfl ?_
              refine Exists.intro _ (And.intro rfl ?_)
              exact (And.intro (by show (-2) < 0 ∨ (0 ≤ a1 ∧ a1 ≤ 3 ∧ 0 ≤ a2 ∧ a2 ≤ a3 ∧ a3 ≤ 1999 ∧ SN σ a1); exact Or.inl (by omega)) (fun k j hk => rfl))
          · skip
            show WP_ X G Q 0 0 ad SHS_ σ 40 [(42, 86), (0, a1), (0, a2), (0, a3), (0, a4), (9, 0)] []
            refine B rfl ?_
            refine Exists.intro _ (And.intro rfl ?_)
            exact (And.intro (by show (-6) < 0 ∨ (0 ≤ a1 ∧ a1 ≤ 3 ∧ 0 ≤ a2 ∧ a2 ≤ a3 ∧ a3 ≤ 1999 ∧ SN σ a1); exact Or.inl (by omega)) (fun k j hk => rfl))
        · skip
          show WP_ X G Q 0 0 ad SHS_ σ 27 [(42, 86), (0, a1), (0, a2), (0, a3), (0, a4), (9, 0)] []
          refine B rfl ?_
          refine Exists.intro _ (And.intro rfl ?_)
          exact (And.intro (by show (-2) < 0 ∨ (0 ≤ a1 ∧ a1 ≤ 3 ∧ 0 ≤ a2 ∧ a2 ≤ a3 ∧ a3 ≤ 1999 ∧ SN σ a1); exact Or.inl (by omega)) (fun k j hk => rfl))
def as_G_X11_seen : Int × Int × Int → List Sv_t := fun a => [(42, 86), (0, a.1), (0, a.2.1), (0, a.2.2)]
def pre_G_X11_seen : Int × Int × Int → Me_t → Prop := fun a σ => (BW σ 87) ∧ (0 ≤ a.1) ∧ (a.1 ≤ 2) ∧ (1 ≤ σ 87 (6 + 15 * a.1 + 1)) ∧ (0 ≤ a.2.1) ∧ (a.2.1 ≤ 4) ∧ (0 ≤ a.2.2) ∧ (a.2.2 ≤ 1999)
def post_G_X11_seen : Int × Int × Int → Me_t → Int → Me_t → Prop := fun a σ z σ' => (-1 ≤ z ∧ z ≤ 2000) ∧ (a.2.1 = 1 → z ≤ 7) ∧ (a.2.1 = 3 → z ≤ 9) ∧ (a.2.1 = 4 → 0 ≤ z ∧ z ≤ 1) ∧ (σ = σ')
set_option maxHeartbeats 1500000 in
set_option maxRecDepth 100000 in
theorem ct_G_X11_seen (l : Launch) : CT_ l yX11_seen cX11_seen 4 (some .int) 3 67 as_G_X11_seen (rmI_) pre_G_X11_seen post_G_X11_seen := by
  refine ct_of (by decide) (fun _ => Nat.le_of_ble_eq_true rfl) ?_
  intro X G Q ad σ a hl hR E hG R hM hv hp
  obtain ⟨a1, a2, a3⟩ := a
  have r_a1 : -2147483648 ≤ a1 ∧ a1 ≤ 2147483647 := hv (0, a1) (List.mem_of_getElem? (i := 1) rfl)
  have r_a2 : -2147483648 ≤ a2 ∧ a2 ≤ 2147483647 := hv (0, a2) (List.mem_of_getElem? (i := 2) rfl)
  have r_a3 : -2147483648 ≤ a3 ∧ a3 ≤ 2147483647 := hv (0, a3) (List.mem_of_getElem? (i := 3) rfl)
  have hp0 : BW σ 87 := hp.1
  have hp1 : 0 ≤ a1 := hp.2.1
  have hp2 : a1 ≤ 2 := hp.2.2.1
  have hp3 : 1 ≤ σ 87 (6 + 15 * a1 + 1) := hp.2.2.2.1
  have hp4 : 0 ≤ a2 := hp.2.2.2.2.1
  have hp5 : a2 ≤ 4 := hp.2.2.2.2.2.1
  have hp6 : 0 ≤ a3 := hp.2.2.2.2.2.2.1
  have hp7 : a3 ≤ 1999 := hp.2.2.2.2.2.2.2
  have B := @bk_ X G Q 0 0 ad SHS_ RX11 cX11_seen 4 (some .int) flX11 plX11 knX11 [(544, 4, TR_ as_G_X11_dateOf_x (rmI_) pre_G_X11_dateOf_x post_G_X11_dateOf_x), (508, 3, TR_ as_G_X11_mayOn (rmI_) pre_G_X11_mayOn post_G_X11_mayOn)] _ _ none kX11_seen [] flX11_ok plX11_ok knX11_ok eX11_seen oX11_seen
    (List.forall_mem_cons.mpr ⟨cok_v (t := 32) (c := 11) (N := 39) (n := 3) (idx := 272) E (ct_G_X11_dateOf_x X.2.1) (by rw [hR]; decide) (Nat.zero_le _) (Nat.zero_le _) hG rfl rfl ⟨rfl, by decide, by decide, by decide⟩ (fun _ => ⟨_, _, rfl, rfl⟩) wl_X11_272 wi_X11_dateOf ws_X11_dateOf wn_X11 wc_X11_dateOf, List.forall_mem_cons.mpr ⟨cok_v (t := 32) (c := 11) (N := 39) (n := 2) (idx := 254) E (ct_G_X11_mayOn X.2.1) (by rw [hR]; decide) (Nat.zero_le _) (Nat.zero_le _) hG rfl rfl ⟨rfl, by decide, by decide, by decide⟩ (fun _ => ⟨_, _, rfl, rfl⟩) wl_X11_254 wi_X11_mayOn ws_X11_mayOn wn_X11 wc_X11_mayOn, fun _ h => absurd h List.not_mem_nil⟩⟩) R sok_no E
  show WP_ X G Q 0 0 ad SHS_ σ 0 [(42, 86), (0, a1), (0, a2), (0, a3)] []
  refine B rfl ?_
  refine And.intro (fun h1 => ?_) (fun h1 => ?_)
  · skip
    refine B rfl ?_
    refine Exists.intro (a1, a3, a2) (And.intro rfl (And.intro (And.intro hp0 (And.intro (by show 0 ≤ a1; omega) (And.intro (by show a1 ≤ 2; omega) (And.intro (by show 0 ≤ a3; omega) (And.intro (by show a3 ≤ 1999; omega) (by show 1 ≤ σ 87 (6 + 15 * a1 + 1); omega)))))) ?_))
    rintro z2 m_ h3
    obtain rfl : σ = m_ := h3.2.2.2
    have h4 : -1 ≤ z2 ∧ z2 ≤ 2000 := h3.1
    have h5 : a2 = 1 → z2 ≤ 7 := h3.2.1
    have h6 : a2 = 3 → z2 ≤ 9 := h3.2.2.1
    refine Exists.intro _ (And.intro rfl ?_)
    exact (And.intro (by show -1 ≤ z2 ∧ z2 ≤ 2000; omega) (And.intro (by show a2 = 1 → z2 ≤ 7; omega) (And.intro (by show a2 = 3 → z2 ≤ 9; omega) (And.intro (by show a2 = 4 → 0 ≤ z2 ∧ z2 ≤ 1; omega) rfl))))
  · skip
    refine Exists.intro (a1, a3) (And.intro rfl (And.intro (And.intro (by show 0 ≤ a1; omega) (And.intro (by show a1 ≤ 2; omega) (And.intro (by show 0 ≤ a3; omega) (by show a3 ≤ 1999; omega)))) ?_))
    rintro z7 m_ h8
    obtain rfl : σ = m_ := h8.2
    have h9 : (z7 = 1 ∧ σ 96 (2000 * a1 + a3) = 0) ∨ (z7 = 0 ∧ σ 96 (2000 * a1 + a3) ≠ 0) := h8.1
    refine And.intro (fun h10 => ?_) (fun h10 => ?_)
    · skip
      refine B rfl ?_
      refine B rfl ?_
      refine Exists.intro _ (And.intro rfl ?_)
      exact (And.intro (by show -1 ≤ 0 ∧ 0 ≤ 2000; omega) (And.intro (by show a2 = 1 → 0 ≤ 7; omega) (And.intro (by show a2 = 3 → 0 ≤ 9; omega) (And.intro (by show a2 = 4 → 0 ≤ 0 ∧ 0 ≤ 1; omega) rfl))))
    · skip
      refine B rfl ?_
      refine Exists.intro _ (And.intro rfl ?_)
      exact (And.intro (by show -1 ≤ 1 ∧ 1 ≤ 2000; omega) (And.intro (by show a2 = 1 → 1 ≤ 7; omega) (And.intro (by show a2 = 3 → 1 ≤ 9; omega) (And.intro (by show a2 = 4 → 0 ≤ 1 ∧ 1 ≤ 1; omega) rfl))))
def as_G_X11_isSeen : Int × Int → List Sv_t := fun a => [(42, 86), (0, a.1), (0, a.2)]
def pre_G_X11_isSeen : Int × Int → Me_t → Prop := fun a σ => (MI σ) ∧ (SN σ a.1) ∧ (0 ≤ a.1) ∧ (a.1 ≤ 3) ∧ (0 ≤ a.2) ∧ (a.2 ≤ 1999)
def post_G_X11_isSeen : Int × Int → Me_t → Int → Me_t → Prop := fun a σ z σ' => (0 ≤ z ∧ z ≤ 1) ∧ (σ = σ')
set_option maxHeartbeats 1500000 in
set_option maxRecDepth 100000 in
theorem ct_G_X11_isSeen (l : Launch) : CT_ l yX11_isSeen cX11_isSeen 5 (some .boolean) 4 90 as_G_X11_isSeen (rmI_) pre_G_X11_isSeen post_G_X11_isSeen := by
  refine ct_of (by decide) (fun _ => Nat.le_of_ble_eq_true rfl) ?_
  intro X G Q ad σ a hl hR E hG R hM hv hp
  obtain ⟨a1, a2⟩ := a
  have r_a1 : -2147483648 ≤ a1 ∧ a1 ≤ 2147483647 := hv (0, a1) (List.mem_of_getElem? (i := 1) rfl)
  have r_a2 : -2147483648 ≤ a2 ∧ a2 ≤ 2147483647 := hv (0, a2) (List.mem_of_getElem? (i := 2) rfl)
  have hp0 : MI σ := hp.1
  have hp1 : SN σ a1 := hp.2.1
  have hp2 : 0 ≤ a1 := hp.2.2.1
  have hp3 : a1 ≤ 3 := hp.2.2.2.1
  have hp4 : 0 ≤ a2 := hp.2.2.2.2.1
  have hp5 : a2 ≤ 1999 := hp.2.2.2.2.2
  have B := @bk_ X G Q 0 0 ad SHS_ RX11 cX11_isSeen 5 (some .boolean) flX11 plX11 knX11 [(716, 3, TR_ as_G_X11_intAt (rmI_) pre_G_X11_intAt post_G_X11_intAt), (746, 4, TR_ as_G_X11_seen (rmI_) pre_G_X11_seen post_G_X11_seen), (708, 3, TR_ as_G_X11_numberAt (rmL_) pre_G_X11_numberAt post_G_X11_numberAt)] _ _ none kX11_isSeen [2] flX11_ok plX11_ok knX11_ok eX11_isSeen oX11_isSeen
    (List.forall_mem_cons.mpr ⟨cok_v (t := 32) (c := 11) (N := 39) (n := 2) (idx := 358) E (ct_G_X11_intAt X.2.1) (by rw [hR]; decide) (Nat.zero_le _) (Nat.zero_le _) hG rfl rfl ⟨rfl, by decide, by decide, by decide⟩ (fun _ => ⟨_, _, rfl, rfl⟩) wl_X11_358 wi_X11_intAt ws_X11_intAt wn_X11 wc_X11_intAt, List.forall_mem_cons.mpr ⟨cok_v (t := 32) (c := 11) (N := 39) (n := 3) (idx := 373) E (ct_G_X11_seen X.2.1) (by rw [hR]; decide) (Nat.zero_le _) (Nat.zero_le _) hG rfl rfl ⟨rfl, by decide, by decide, by decide⟩ (fun _ => ⟨_, _, rfl, rfl⟩) wl_X11_373 wi_X11_seen ws_X11_seen wn_X11 wc_X11_seen, List.forall_mem_cons.mpr ⟨cok_v (t := 32) (c := 11) (N := 39) (n := 2) (idx := 354) E (ct_G_X11_numberAt X.2.1) (by rw [hR]; decide) (Nat.zero_le _) (Nat.zero_le _) hG rfl rfl ⟨rfl, by decide, by decide, by decide⟩ (fun _ => ⟨_, _, rfl, rfl⟩) wl_X11_354 wi_X11_numberAt ws_X11_numberAt wn_X11 wc_X11_numberAt, fun _ h => absurd h List.not_mem_nil⟩⟩⟩) R sok_no E
  show WP_ X G Q 0 0 ad SHS_ σ 0 [(42, 86), (0, a1), (0, a2), (9, 0), (9, 0)] []
  refine B rfl ?_
  have lp_2 : ∀ (nq_ : Nat) (v3 : Int), (0 ≤ v3) → (v3 ≤ 60) → (v3 % 3 = 0) → (60 - v3 : Int).toNat < nq_ → WP_ X G Q 0 0 ad SHS_ σ 2 [(42, 86), (0, a1), (0, a2), (0, v3), (9, 0)] [] := by
    intro nq_
    induction nq_ with
    | zero => intros; omega
    | succ nq_ ih_2 =>
      intro v3 hi2_0 hi2_1 hi2_2 hm2
      refine B rfl ?_
      refine And.intro (by omega) ?_
      intro z1 ez1 hz1
      have hz1 : ((-1) : Int) ≤ z1 ∧ z1 ≤ (60 : Int) := hz1
      refine And.intro (fun h2 => ?_) (fun h2 => ?_)
      · skip
        refine B rfl ?_
        refine And.intro (by omega) ?_
        refine Exists.intro _ (And.intro rfl ?_)
        exact (And.intro (by show 0 ≤ 1 ∧ 1 ≤ 1; omega) rfl)
      · skip
        refine Exists.intro (a1, v3) (And.intro rfl (And.intro (And.intro (by show 0 ≤ a1; omega) (And.intro (by show a1 ≤ 3; omega) (And.intro (by show 0 ≤ v3; omega) (by show v3 ≤ 59; omega)))) ?_))
        rintro z3 m_ h4
        obtain rfl : σ = m_ := h4.2.2.2
        have h5 : z3 = l2i_ (σ 104 (60 * a1 + v3)) := h4.1
        have h6 : -2147483648 ≤ z3 ∧ z3 ≤ 2147483647 := h4.2.1
        have h7 : -2147483648 ≤ σ 104 (60 * a1 + v3) ∧ σ 104 (60 * a1 + v3) ≤ 2147483647 → z3 = σ 104 (60 * a1 + v3) := h4.2.2.1
        have q8 : z3 = l2i_ (σ 104 (60 * a1 + v3)) := by omega
        subst q8
        refine And.intro (by omega) ?_
        refine Exists.intro (a1, v3 + 1) (And.intro rfl (And.intro (And.intro (by show 0 ≤ a1; omega) (And.intro (by show a1 ≤ 3; omega) (And.intro (by show 0 ≤ (v3 + 1); omega) (by show (v3 + 1) ≤ 59; omega)))) ?_))
        rintro z9 m_ h10
        obtain rfl : σ = m_ := h10.2.2.2
        have h11 : z9 = l2i_ (σ 104 (60 * a1 + (v3 + 1))) := h10.1
        have h12 : -2147483648 ≤ z9 ∧ z9 ≤ 2147483647 := h10.2.1
        have h13 : -2147483648 ≤ σ 104 (60 * a1 + (v3 + 1)) ∧ σ 104 (60 * a1 + (v3 + 1)) ≤ 2147483647 → z9 = σ 104 (60 * a1 + (v3 + 1)) := h10.2.2.1
        have q14 : z9 = l2i_ (σ 104 (60 * a1 + (v3 + 1))) := by omega
        subst q14
        have p16 : SW σ 87 := (hp0).1.2.1
        have o15 := hp1 v3 (by omega) (by omega) (by omega)
        unfold SNe at o15
        have w17 := p16 (l2i_ (σ 104 (60 * a1 + v3))) (by omega) (by omega) (by omega)
        have p18 : BW σ 87 := (hp0).1.1
        refine Exists.intro (l2i_ (σ 104 (60 * a1 + v3)), l2i_ (σ 104 (60 * a1 + (v3 + 1))), a2) (And.intro rfl (And.intro (And.intro p18 (And.intro (by show 0 ≤ (l2i_ (σ 104 (60 * a1 + v3))); omega) (And.intro (by show (l2i_ (σ 104 (60 * a1 + v3))) ≤ 2; omega) (And.intro (by show 1 ≤ σ 87 (6 + 15 * (l2i_ (σ 104 (60 * a1 + v3))) + 1); omega) (And.intro (by show 0 ≤ (l2i_ (σ 104 (60 * a1 + (v3 + 1)))); omega) (And.intro (by show (l2i_ (σ 104 (60 * a1 + (v3 + 1)))) ≤ 4; omega) (And.intro (by show 0 ≤ a2; omega) (by show a2 ≤ 1999; omega)))))))) ?_))
        rintro z19 m_ h20
        obtain rfl : σ = m_ := h20.2.2.2.2
        have h21 : -1 ≤ z19 ∧ z19 ≤ 2000 := h20.1
        have h22 : (l2i_ (σ 104 (60 * a1 + (v3 + 1)))) = 1 → z19 ≤ 7 := h20.2.1
        have h23 : (l2i_ (σ 104 (60 * a1 + (v3 + 1)))) = 3 → z19 ≤ 9 := h20.2.2.1
        have h24 : (l2i_ (σ 104 (60 * a1 + (v3 + 1)))) = 4 → 0 ≤ z19 ∧ z19 ≤ 1 := h20.2.2.2.1
        refine And.intro (fun h25 => ?_) (fun h25 => ?_)
        · skip
          refine B rfl ?_
          refine And.intro (by omega) ?_
          refine Exists.intro _ (And.intro rfl ?_)
          exact (And.intro (by show 0 ≤ 0 ∧ 0 ≤ 1; omega) rfl)
        · skip
          refine And.intro (by omega) ?_
          refine Exists.intro (a1, v3 + 2) (And.intro rfl (And.intro (And.intro (by show 0 ≤ a1; omega) (And.intro (by show a1 ≤ 3; omega) (And.intro (by show 0 ≤ (v3 + 2); omega) (by show (v3 + 2) ≤ 59; omega)))) ?_))
          rintro z26 m_ h27
          obtain rfl : σ = m_ := h27.2
          have h28 : z26 = σ 104 (60 * a1 + (v3 + 2)) := h27.1
          have q29 : z26 = σ 104 (60 * a1 + (v3 + 2)) := by omega
          subst q29
          refine And.intro (fun h30 => ?_) (fun h30 => ?_)
          · simp only [lcmp_lt0, lcmp_ge0, lcmp_gt0, lcmp_le0, lcmp_eq0] at h30
            refine B rfl ?_
            refine And.intro (by omega) ?_
            show WP_ X G Q 0 0 ad SHS_ σ 2 [(42, 86), (0, a1), (0, a2), (0, v3 + 3), (0, z19)] []
            refine wdrop_ (L' := [(42, 86), (0, a1), (0, a2), (0, v3 + 3), (9, 0)]) ⟨Or.inr rfl, ⟨Or.inr rfl, ⟨Or.inr rfl, ⟨Or.inr rfl, ⟨Or.inl rfl, trivial⟩⟩⟩⟩⟩ ?_
            exact ih_2 (v3 + 3) (by show 0 ≤ (v3 + 3); omega) (by show (v3 + 3) ≤ 60; omega) (by show (v3 + 3) % 3 = 0; omega) (by omega)
          · simp only [lcmp_lt0, lcmp_ge0, lcmp_gt0, lcmp_le0, lcmp_eq0] at h30
            refine And.intro (by omega) ?_
            refine Exists.intro _ (And.intro rfl ?_)
            exact (And.intro (by show 0 ≤ 0 ∧ 0 ≤ 1; omega) rfl)
  exact lp_2 ((60 - 0 : Int).toNat + 1) 0 (by show 0 ≤ 0; omega) (by show 0 ≤ 60; omega) (by show 0 % 3 = 0; omega) (by omega)
def as_G_X11_fitsOf : Int × Int × Int → List Sv_t := fun a => [(42, 86), (0, a.1), (0, a.2.1), (0, a.2.2)]
def pre_G_X11_fitsOf : Int × Int × Int → Me_t → Prop := fun a σ => (MI σ) ∧ (SN σ a.1) ∧ (0 ≤ a.1) ∧ (a.1 ≤ 3) ∧ (0 ≤ a.2.1) ∧ (a.2.1 ≤ a.2.2) ∧ (a.2.2 ≤ 1999)
def post_G_X11_fitsOf : Int × Int × Int → Me_t → Int → Me_t → Prop := fun a σ z σ' => (0 ≤ z ∧ z ≤ 2000) ∧ (σ = σ')
set_option maxHeartbeats 1500000 in
set_option maxRecDepth 100000 in
theorem ct_G_X11_fitsOf (l : Launch) : CT_ l yX11_fitsOf cX11_fitsOf 6 (some .int) 5 114 as_G_X11_fitsOf (rmI_) pre_G_X11_fitsOf post_G_X11_fitsOf := by
  refine ct_of (by decide) (fun _ => Nat.le_of_ble_eq_true rfl) ?_
  intro X G Q ad σ a hl hR E hG R hM hv hp
  obtain ⟨a1, a2, a3⟩ := a
  have r_a1 : -2147483648 ≤ a1 ∧ a1 ≤ 2147483647 := hv (0, a1) (List.mem_of_getElem? (i := 1) rfl)
  have r_a2 : -2147483648 ≤ a2 ∧ a2 ≤ 2147483647 := hv (0, a2) (List.mem_of_getElem? (i := 2) rfl)
  have r_a3 : -2147483648 ≤ a3 ∧ a3 ≤ 2147483647 := hv (0, a3) (List.mem_of_getElem? (i := 3) rfl)
  have hp0 : MI σ := hp.1
  have hp1 : SN σ a1 := hp.2.1
  have hp2 : 0 ≤ a1 := hp.2.2.1
  have hp3 : a1 ≤ 3 := hp.2.2.2.1
  have hp4 : 0 ≤ a2 := hp.2.2.2.2.1
  have hp5 : a2 ≤ a3 := hp.2.2.2.2.2.1
  have hp6 : a3 ≤ 1999 := hp.2.2.2.2.2.2
  have B := @bk_ X G Q 0 0 ad SHS_ RX11 cX11_fitsOf 6 (some .int) flX11 plX11 knX11 [(752, 3, TR_ as_G_X11_isSeen (rmI_) pre_G_X11_isSeen post_G_X11_isSeen)] _ _ none kX11_fitsOf [6] flX11_ok plX11_ok knX11_ok eX11_fitsOf oX11_fitsOf
    (List.forall_mem_cons.mpr ⟨cok_v (t := 32) (c := 11) (N := 39) (n := 2) (idx := 376) E (ct_G_X11_isSeen X.2.1) (by rw [hR]; decide) (Nat.zero_le _) (Nat.zero_le _) hG rfl rfl ⟨rfl, by decide, by decide, by decide⟩ (fun _ => ⟨_, _, rfl, rfl⟩) wl_X11_376 wi_X11_isSeen ws_X11_isSeen wn_X11 wc_X11_isSeen, fun _ h => absurd h List.not_mem_nil⟩) R sok_no E
  show WP_ X G Q 0 0 ad SHS_ σ 0 [(42, 86), (0, a1), (0, a2), (0, a3), (9, 0), (9, 0)] []
  refine B rfl ?_
  show WP_ X G Q 0 0 ad SHS_ σ 6 [(42, 86), (0, a1), (0, a2), (0, a3), (0, 0), (0, a2)] []
  refine wdrop_ (L' := [(42, 86), (0, a1), (9, 0), (0, a3), (0, 0), (0, a2)]) ⟨Or.inr rfl, ⟨Or.inr rfl, ⟨Or.inl rfl, ⟨Or.inr rfl, ⟨Or.inr rfl, ⟨Or.inr rfl, trivial⟩⟩⟩⟩⟩⟩ ?_
  have lp_6 : ∀ (nq_ : Nat) (v4 : Int) (v5 : Int), (a2 ≤ v5) → (v5 ≤ a3 + 1) → (0 ≤ v4) → (v4 ≤ v5 - a2) → (a3 + 1 - v5 : Int).toNat < nq_ → WP_ X G Q 0 0 ad SHS_ σ 6 [(42, 86), (0, a1), (9, 0), (0, a3), (0, v4), (0, v5)] [] := by
    intro nq_
    induction nq_ with
    | zero => intros; omega
    | succ nq_ ih_6 =>
      intro v4 v5 hi6_0 hi6_1 hi6_2 hi6_3 hm6
      refine B rfl ?_
      refine And.intro (fun h1 => ?_) (fun h1 => ?_)
      · skip
        refine B rfl ?_
        refine Exists.intro _ (And.intro rfl ?_)
        exact (And.intro (by show 0 ≤ v4 ∧ v4 ≤ 2000; omega) rfl)
      · skip
        refine Exists.intro (a1, v5) (And.intro rfl (And.intro (And.intro hp0 (And.intro hp1 (And.intro (by show 0 ≤ a1; omega) (And.intro (by show a1 ≤ 3; omega) (And.intro (by show 0 ≤ v5; omega) (by show v5 ≤ 1999; omega)))))) ?_))
        rintro z2 m_ h3
        obtain rfl : σ = m_ := h3.2
        have h4 : 0 ≤ z2 ∧ z2 ≤ 1 := h3.1
        refine And.intro (fun h5 => ?_) (fun h5 => ?_)
        · skip
          refine B rfl ?_
          refine And.intro (by omega) ?_
          refine And.intro (by omega) ?_
          exact ih_6 (v4 + 0) (v5 + 1) (by show a2 ≤ (v5 + 1); omega) (by show (v5 + 1) ≤ a3 + 1; omega) (by show 0 ≤ (v4 + 0); omega) (by show (v4 + 0) ≤ (v5 + 1) - a2; omega) (by omega)
        · skip
          refine B rfl ?_
          refine And.intro (by omega) ?_
          refine And.intro (by omega) ?_
          exact ih_6 (v4 + 1) (v5 + 1) (by show a2 ≤ (v5 + 1); omega) (by show (v5 + 1) ≤ a3 + 1; omega) (by show 0 ≤ (v4 + 1); omega) (by show (v4 + 1) ≤ (v5 + 1) - a2; omega) (by omega)
  exact lp_6 ((a3 + 1 - a2 : Int).toNat + 1) 0 a2 (by show a2 ≤ a2; omega) (by show a2 ≤ a3 + 1; omega) (by show 0 ≤ 0; omega) (by show 0 ≤ a2 - a2; omega) (by omega)
def as_G_X11_fits : Int × Int × Int → List Sv_t := fun a => [(42, 86), (0, a.1), (0, a.2.1), (0, a.2.2)]
def pre_G_X11_fits : Int × Int × Int → Me_t → Prop := fun a σ => (MI σ)
def post_G_X11_fits : Int × Int × Int → Me_t → Int → Me_t → Prop := fun a σ z σ' => (∀ k j : Int, ¬ (93 ≤ k ∧ k ≤ 96) → σ' k j = σ k j)
set_option maxHeartbeats 1500000 in
set_option maxRecDepth 100000 in
theorem ct_G_X11_fits (l : Launch) : CT_ l yX11_fits cX11_fits 5 (some .int) 6 139 as_G_X11_fits (rmI_) pre_G_X11_fits post_G_X11_fits := by
  refine ct_of (by decide) (fun _ => Nat.le_of_ble_eq_true rfl) ?_
  intro X G Q ad σ a hl hR E hG R hM hv hp
  obtain ⟨a1, a2, a3⟩ := a
  have r_a1 : -2147483648 ≤ a1 ∧ a1 ≤ 2147483647 := hv (0, a1) (List.mem_of_getElem? (i := 1) rfl)
  have r_a2 : -2147483648 ≤ a2 ∧ a2 ≤ 2147483647 := hv (0, a2) (List.mem_of_getElem? (i := 2) rfl)
  have r_a3 : -2147483648 ≤ a3 ∧ a3 ≤ 2147483647 := hv (0, a3) (List.mem_of_getElem? (i := 3) rfl)
  have hp0 : MI σ := hp
  have B := @bk_ X G Q 0 0 ad SHS_ RX11 cX11_fits 5 (some .int) flX11 plX11 knX11 [(758, 5, TR_ as_G_X11_asksSeen (rmI_) pre_G_X11_asksSeen post_G_X11_asksSeen), (766, 4, TR_ as_G_X11_fitsOf (rmI_) pre_G_X11_fitsOf post_G_X11_fitsOf)] _ _ none kX11_fits [] flX11_ok plX11_ok knX11_ok eX11_fits oX11_fits
    (List.forall_mem_cons.mpr ⟨cok_v (t := 32) (c := 11) (N := 39) (n := 4) (idx := 379) E (ct_G_X11_asksSeen X.2.1) (by rw [hR]; decide) (Nat.zero_le _) (Nat.zero_le _) hG rfl rfl ⟨rfl, by decide, by decide, by decide⟩ (fun _ => ⟨_, _, rfl, rfl⟩) wl_X11_379 wi_X11_asksSeen ws_X11_asksSeen wn_X11 wc_X11_asksSeen, List.forall_mem_cons.mpr ⟨cok_v (t := 32) (c := 11) (N := 39) (n := 3) (idx := 383) E (ct_G_X11_fitsOf X.2.1) (by rw [hR]; decide) (Nat.zero_le _) (Nat.zero_le _) hG rfl rfl ⟨rfl, by decide, by decide, by decide⟩ (fun _ => ⟨_, _, rfl, rfl⟩) wl_X11_383 wi_X11_fitsOf ws_X11_fitsOf wn_X11 wc_X11_fitsOf, fun _ h => absurd h List.not_mem_nil⟩⟩) R sok_no E
  show WP_ X G Q 0 0 ad SHS_ σ 0 [(42, 86), (0, a1), (0, a2), (0, a3), (9, 0)] []
  refine B rfl ?_
  refine Exists.intro (a1, a2, a3, 1) (And.intro rfl (And.intro hp0 ?_))
  intro z1 σ3 h2
  have f4 : ∀ k j : Int, ¬ (93 ≤ k ∧ k ≤ 96) → σ3 k j = σ k j := h2.2
  have h5 : z1 < 0 ∨ (0 ≤ a1 ∧ a1 ≤ 3 ∧ 0 ≤ a2 ∧ a2 ≤ a3 ∧ a3 ≤ 1999 ∧ SN σ3 a1) := h2.1
  have hqo := h2.1
  try dsimp only at hqo
  refine And.intro (fun h6 => ?_) (fun h6 => ?_)
  · skip
    refine B rfl ?_
    have hqq := hqo.resolve_left (by omega)
    have hsn0 : SN σ3 a1 := hqq.2.2.2.2.2
    have p7 : MI σ3 := MI_fr hp0 (fun k j hk => (f4 _ _ (by omega)))
    refine Exists.intro (a1, a2, a3) (And.intro rfl (And.intro (And.intro p7 (And.intro hsn0 (And.intro (by show 0 ≤ a1; omega) (And.intro (by show a1 ≤ 3; omega) (And.intro (by show 0 ≤ a2; omega) (And.intro (by show a2 ≤ a3; omega) (by show a3 ≤ 1999; omega))))))) ?_))
    rintro z8 m_ h9
    obtain rfl : σ3 = m_ := h9.2
    have h10 : 0 ≤ z8 ∧ z8 ≤ 2000 := h9.1
    refine Exists.intro _ (And.intro rfl ?_)
    exact (fun k j hk => (f4 _ _ (by omega)))
  · skip
    refine B rfl ?_
    refine Exists.intro _ (And.intro rfl ?_)
    exact (fun k j hk => (f4 _ _ (by omega)))
def as_G_X11_fit : Int × Int × Int × Int → List Sv_t := fun a => [(42, 86), (0, a.1), (0, a.2.1), (0, a.2.2.1), (0, a.2.2.2)]
def pre_G_X11_fit : Int × Int × Int × Int → Me_t → Prop := fun a σ => (MI σ)
def post_G_X11_fit : Int × Int × Int × Int → Me_t → Int → Me_t → Prop := fun a σ z σ' => (∀ k j : Int, ¬ (93 ≤ k ∧ k ≤ 96) → σ' k j = σ k j)
set_option maxHeartbeats 1500000 in
set_option maxRecDepth 100000 in
theorem ct_G_X11_fit (l : Launch) : CT_ l yX11_fit cX11_fit 8 (some .int) 5 117 as_G_X11_fit (rmI_) pre_G_X11_fit post_G_X11_fit := by
  refine ct_of (by decide) (fun _ => Nat.le_of_ble_eq_true rfl) ?_
  intro X G Q ad σ a hl hR E hG R hM hv hp
  obtain ⟨a1, a2, a3, a4⟩ := a
  have r_a1 : -2147483648 ≤ a1 ∧ a1 ≤ 2147483647 := hv (0, a1) (List.mem_of_getElem? (i := 1) rfl)
  have r_a2 : -2147483648 ≤ a2 ∧ a2 ≤ 2147483647 := hv (0, a2) (List.mem_of_getElem? (i := 2) rfl)
  have r_a3 : -2147483648 ≤ a3 ∧ a3 ≤ 2147483647 := hv (0, a3) (List.mem_of_getElem? (i := 3) rfl)
  have r_a4 : -2147483648 ≤ a4 ∧ a4 ≤ 2147483647 := hv (0, a4) (List.mem_of_getElem? (i := 4) rfl)
  have hp0 : MI σ := hp
  have B := @bk_ X G Q 0 0 ad SHS_ RX11 cX11_fit 8 (some .int) flX11 plX11 knX11 [(758, 5, TR_ as_G_X11_asksSeen (rmI_) pre_G_X11_asksSeen post_G_X11_asksSeen), (752, 3, TR_ as_G_X11_isSeen (rmI_) pre_G_X11_isSeen post_G_X11_isSeen)] _ _ none kX11_fit [24] flX11_ok plX11_ok knX11_ok eX11_fit oX11_fit
    (List.forall_mem_cons.mpr ⟨cok_v (t := 32) (c := 11) (N := 39) (n := 4) (idx := 379) E (ct_G_X11_asksSeen X.2.1) (by rw [hR]; decide) (Nat.zero_le _) (Nat.zero_le _) hG rfl rfl ⟨rfl, by decide, by decide, by decide⟩ (fun _ => ⟨_, _, rfl, rfl⟩) wl_X11_379 wi_X11_asksSeen ws_X11_asksSeen wn_X11 wc_X11_asksSeen, List.forall_mem_cons.mpr ⟨cok_v (t := 32) (c := 11) (N := 39) (n := 2) (idx := 376) E (ct_G_X11_isSeen X.2.1) (by rw [hR]; decide) (Nat.zero_le _) (Nat.zero_le _) hG rfl rfl ⟨rfl, by decide, by decide, by decide⟩ (fun _ => ⟨_, _, rfl, rfl⟩) wl_X11_376 wi_X11_isSeen ws_X11_isSeen wn_X11 wc_X11_isSeen, fun _ h => absurd h List.not_mem_nil⟩⟩) R sok_no E
  show WP_ X G Q 0 0 ad SHS_ σ 0 [(42, 86), (0, a1), (0, a2), (0, a3), (0, a4), (9, 0), (9, 0), (9, 0)] []
  refine B rfl ?_
  refine Exists.intro (a1, a2, a3, 1) (And.intro rfl (And.intro hp0 ?_))
  intro z1 σ3 h2
  have f4 : ∀ k j : Int, ¬ (93 ≤ k ∧ k ≤ 96) → σ3 k j = σ k j := h2.2
  have h5 : z1 < 0 ∨ (0 ≤ a1 ∧ a1 ≤ 3 ∧ 0 ≤ a2 ∧ a2 ≤ a3 ∧ a3 ≤ 1999 ∧ SN σ3 a1) := h2.1
  have hqo := h2.1
  try dsimp only at hqo
  refine And.intro (fun h6 => ?_) (fun h6 => ?_)
  · skip
    refine B rfl ?_
    have hqq := hqo.resolve_left (by omega)
    have hsn0 : SN σ3 a1 := hqq.2.2.2.2.2
    show WP_ X G Q 0 0 ad SHS_ σ3 24 [(42, 86), (0, a1), (0, a2), (0, a3), (0, a4), (0, z1), (0, 0), (0, a2)] []
    refine wdrop_ (L' := [(42, 86), (0, a1), (9, 0), (0, a3), (0, a4), (9, 0), (0, 0), (0, a2)]) ⟨Or.inr rfl, ⟨Or.inr rfl, ⟨Or.inl rfl, ⟨Or.inr rfl, ⟨Or.inr rfl, ⟨Or.inl rfl, ⟨Or.inr rfl, ⟨Or.inr rfl, trivial⟩⟩⟩⟩⟩⟩⟩⟩ ?_
    have lp_24 : ∀ (nq_ : Nat) (v6 : Int) (v7 : Int), (a2 ≤ v7) → (v7 ≤ a3 + 1) → (0 ≤ v6) → (v6 ≤ v7 - a2) → (a3 + 1 - v7 : Int).toNat < nq_ → WP_ X G Q 0 0 ad SHS_ σ3 24 [(42, 86), (0, a1), (9, 0), (0, a3), (0, a4), (9, 0), (0, v6), (0, v7)] [] := by
      intro nq_
      induction nq_ with
      | zero => intros; omega
      | succ nq_ ih_24 =>
        intro v6 v7 hi24_0 hi24_1 hi24_2 hi24_3 hm24
        refine B rfl ?_
        refine And.intro (fun h7 => ?_) (fun h7 => ?_)
        · skip
          refine B rfl ?_
          refine Exists.intro _ (And.intro rfl ?_)
          exact (fun k j hk => (f4 _ _ (by omega)))
        · skip
          have p8 : MI σ3 := MI_fr hp0 (fun k j hk => (f4 _ _ (by omega)))
          refine Exists.intro (a1, v7) (And.intro rfl (And.intro (And.intro p8 (And.intro hsn0 (And.intro (by show 0 ≤ a1; omega) (And.intro (by show a1 ≤ 3; omega) (And.intro (by show 0 ≤ v7; omega) (by show v7 ≤ 1999; omega)))))) ?_))
          rintro z9 m_ h10
          obtain rfl : σ3 = m_ := h10.2
          have h11 : 0 ≤ z9 ∧ z9 ≤ 1 := h10.1
          refine And.intro (fun h12 => ?_) (fun h12 => ?_)
          · skip
            refine B rfl ?_
            refine And.intro (fun h13 => ?_) (fun h13 => ?_)
            · skip
              refine B rfl ?_
              refine And.intro (by omega) ?_
              refine And.intro (by omega) ?_
              exact ih_24 (v6 + 1) (v7 + 1) (by show a2 ≤ (v7 + 1); omega) (by show (v7 + 1) ≤ a3 + 1; omega) (by show 0 ≤ (v6 + 1); omega) (by show (v6 + 1) ≤ (v7 + 1) - a2; omega) (by omega)
            · skip
              refine Exists.intro _ (And.intro rfl ?_)
              exact (fun k j hk => (f4 _ _ (by omega)))
          · skip
            refine B rfl ?_
            refine And.intro (by omega) ?_
            exact ih_24 v6 (v7 + 1) (by show a2 ≤ (v7 + 1); omega) (by show (v7 + 1) ≤ a3 + 1; omega) (by show 0 ≤ v6; omega) (by show v6 ≤ (v7 + 1) - a2; omega) (by omega)
    exact lp_24 ((a3 + 1 - a2 : Int).toNat + 1) 0 a2 (by show a2 ≤ a2; omega) (by show a2 ≤ a3 + 1; omega) (by show 0 ≤ 0; omega) (by show 0 ≤ a2 - a2; omega) (by omega)
  · skip
    refine Exists.intro _ (And.intro rfl ?_)
    exact (fun k j hk => (f4 _ _ (by omega)))
def as_G_X11_sure : Int × Int × Int × Int → List Sv_t := fun a => [(42, 86), (0, a.1), (0, a.2.1), (0, a.2.2.1), (0, a.2.2.2)]
def pre_G_X11_sure : Int × Int × Int × Int → Me_t → Prop := fun a σ => (MI σ)
def post_G_X11_sure : Int × Int × Int × Int → Me_t → Int → Me_t → Prop := fun a σ z σ' => (∀ k j : Int, ¬ (93 ≤ k ∧ k ≤ 96) → σ' k j = σ k j)
set_option maxHeartbeats 1500000 in
set_option maxRecDepth 100000 in
theorem ct_G_X11_sure (l : Launch) : CT_ l yX11_sure cX11_sure 10 (some .int) 5 117 as_G_X11_sure (rmI_) pre_G_X11_sure post_G_X11_sure := by
  refine ct_of (by decide) (fun _ => Nat.le_of_ble_eq_true rfl) ?_
  intro X G Q ad σ a hl hR E hG R hM hv hp
  obtain ⟨a1, a2, a3, a4⟩ := a
  have r_a1 : -2147483648 ≤ a1 ∧ a1 ≤ 2147483647 := hv (0, a1) (List.mem_of_getElem? (i := 1) rfl)
  have r_a2 : -2147483648 ≤ a2 ∧ a2 ≤ 2147483647 := hv (0, a2) (List.mem_of_getElem? (i := 2) rfl)
  have r_a3 : -2147483648 ≤ a3 ∧ a3 ≤ 2147483647 := hv (0, a3) (List.mem_of_getElem? (i := 3) rfl)
  have r_a4 : -2147483648 ≤ a4 ∧ a4 ≤ 2147483647 := hv (0, a4) (List.mem_of_getElem? (i := 4) rfl)
  have hp0 : MI σ := hp
  have B := @bk_ X G Q 0 0 ad SHS_ RX11 cX11_sure 10 (some .int) flX11 plX11 knX11 [(159, 3, TR_ as_G_X11_in (rmI_) pre_G_X11_in post_G_X11_in), (758, 5, TR_ as_G_X11_asksSeen (rmI_) pre_G_X11_asksSeen post_G_X11_asksSeen), (192, 1, TR_ as_G_X11_allLands (rmI_) pre_G_X11_allLands post_G_X11_allLands), (752, 3, TR_ as_G_X11_isSeen (rmI_) pre_G_X11_isSeen post_G_X11_isSeen), (572, 2, TR_ as_G_X11_whoOn (rmI_) pre_G_X11_whoOn post_G_X11_whoOn)] _ _ none kX11_sure [22, 40, 46, 56, 95, 104] flX11_ok plX11_ok knX11_ok eX11_sure oX11_sure
    (List.forall_mem_cons.mpr ⟨cok_s (n := 3) (idx := 79) E (ct_G_X11_in X.2.1) (by rw [hR]; decide) (Nat.zero_le _) (Nat.zero_le _) hG ⟨by decide, by decide, by decide⟩ (fun _ => rfl) wl_X11_79 wt_X11_in wn_X11 wc_X11_in, List.forall_mem_cons.mpr ⟨cok_v (t := 32) (c := 11) (N := 39) (n := 4) (idx := 379) E (ct_G_X11_asksSeen X.2.1) (by rw [hR]; decide) (Nat.zero_le _) (Nat.zero_le _) hG rfl rfl ⟨rfl, by decide, by decide, by decide⟩ (fun _ => ⟨_, _, rfl, rfl⟩) wl_X11_379 wi_X11_asksSeen ws_X11_asksSeen wn_X11 wc_X11_asksSeen, List.forall_mem_cons.mpr ⟨cok_v (t := 32) (c := 11) (N := 39) (n := 0) (idx := 96) E (ct_G_X11_allLands X.2.1) (by rw [hR]; decide) (Nat.zero_le _) (Nat.zero_le _) hG rfl rfl ⟨rfl, by decide, by decide, by decide⟩ (fun _ => ⟨_, _, rfl, rfl⟩) wl_X11_96 wi_X11_allLands ws_X11_allLands wn_X11 wc_X11_allLands, List.forall_mem_cons.mpr ⟨cok_v (t := 32) (c := 11) (N := 39) (n := 2) (idx := 376) E (ct_G_X11_isSeen X.2.1) (by rw [hR]; decide) (Nat.zero_le _) (Nat.zero_le _) hG rfl rfl ⟨rfl, by decide, by decide, by decide⟩ (fun _ => ⟨_, _, rfl, rfl⟩) wl_X11_376 wi_X11_isSeen ws_X11_isSeen wn_X11 wc_X11_isSeen, List.forall_mem_cons.mpr ⟨cok_v (t := 32) (c := 11) (N := 39) (n := 1) (idx := 286) E (ct_G_X11_whoOn X.2.1) (by rw [hR]; decide) (Nat.zero_le _) (Nat.zero_le _) hG rfl rfl ⟨rfl, by decide, by decide, by decide⟩ (fun _ => ⟨_, _, rfl, rfl⟩) wl_X11_286 wi_X11_whoOn ws_X11_whoOn wn_X11 wc_X11_whoOn, fun _ h => absurd h List.not_mem_nil⟩⟩⟩⟩⟩) R sok_no E
  show WP_ X G Q 0 0 ad SHS_ σ 0 [(42, 86), (0, a1), (0, a2), (0, a3), (0, a4), (9, 0), (9, 0), (9, 0), (9, 0), (9, 0)] []
  refine B rfl ?_
  refine Exists.intro (a4, 0, 1) (And.intro rfl (And.intro True.intro ?_))
  rintro z1 m_ h2
  obtain rfl : σ = m_ := h2.2
  have h3 : (z1 = 1 ∧ 0 ≤ a4 ∧ a4 ≤ 1) ∨ (z1 = 0 ∧ ¬ (0 ≤ a4 ∧ a4 ≤ 1)) := h2.1
  refine Exists.intro (a1, a2, a3, z1) (And.intro rfl (And.intro hp0 ?_))
  intro z4 σ6 h5
  have f7 : ∀ k j : Int, ¬ (93 ≤ k ∧ k ≤ 96) → σ6 k j = σ k j := h5.2
  have h8 : z4 < 0 ∨ (0 ≤ a1 ∧ a1 ≤ 3 ∧ 0 ≤ a2 ∧ a2 ≤ a3 ∧ a3 ≤ 1999 ∧ SN σ6 a1) := h5.1
  have hqo := h5.1
  try dsimp only at hqo
  refine And.intro (fun h9 => ?_) (fun h9 => ?_)
  · skip
    refine B rfl ?_
    have hqq := hqo.resolve_left (by omega)
    have hsn0 : SN σ6 a1 := hqq.2.2.2.2.2
    have p10 : MI σ6 := MI_fr hp0 (fun k j hk => (f7 _ _ (by omega)))
    have p11 : BW σ6 87 := (p10).1.1
    refine Exists.intro () (And.intro rfl (And.intro p11 ?_))
    rintro z12 m_ h13
    obtain rfl : σ6 = m_ := h13.2
    have h14 : 0 ≤ z12 ∧ z12 ≤ 7 := h13.1
    show WP_ X G Q 0 0 ad SHS_ σ6 40 [(42, 86), (0, a1), (0, a2), (0, a3), (0, a4), (0, z4), (0, z12), (0, 0), (0, 0), (0, a2)] []
    refine wdrop_ (L' := [(42, 86), (0, a1), (9, 0), (0, a3), (0, a4), (9, 0), (0, z12), (0, 0), (0, 0), (0, a2)]) ⟨Or.inr rfl, ⟨Or.inr rfl, ⟨Or.inl rfl, ⟨Or.inr rfl, ⟨Or.inr rfl, ⟨Or.inl rfl, ⟨Or.inr rfl, ⟨Or.inr rfl, ⟨Or.inr rfl, ⟨Or.inr rfl, trivial⟩⟩⟩⟩⟩⟩⟩⟩⟩⟩ ?_
    have lp_40 : ∀ (nq_ : Nat) (v6 : Int) (v7 : Int) (v8 : Int) (v9 : Int), (a2 ≤ v9) → (v9 ≤ a3 + 1) → (0 ≤ v8) → (v8 ≤ 1) → (a3 + 1 - v9 : Int).toNat < nq_ → WP_ X G Q 0 0 ad SHS_ σ6 40 [(42, 86), (0, a1), (9, 0), (0, a3), (0, a4), (9, 0), (0, v6), (0, v7), (0, v8), (0, v9)] [] := by
      intro nq_
      induction nq_ with
      | zero => intros; omega
      | succ nq_ ih_40 =>
        intro v6 v7 v8 v9 hi40_0 hi40_1 hi40_2 hi40_3 hm40
        refine B rfl ?_
        refine And.intro (fun h15 => ?_) (fun h15 => ?_)
        · skip
          refine B rfl ?_
          refine And.intro (fun h16 => ?_) (fun h16 => ?_)
          · skip
            refine B rfl ?_
            refine And.intro (fun h17 => ?_) (fun h17 => ?_)
            · skip
              refine B rfl ?_
              refine Exists.intro _ (And.intro rfl ?_)
              exact (fun k j hk => (f7 _ _ (by omega)))
            · skip
              show WP_ X G Q 0 0 ad SHS_ σ6 104 [(42, 86), (0, a1), (9, 0), (0, a3), (0, a4), (9, 0), (0, v6), (0, v7), (0, v8), (0, v9)] []
              refine B rfl ?_
              refine B rfl ?_
              refine Exists.intro _ (And.intro rfl ?_)
              exact (fun k j hk => (f7 _ _ (by omega)))
          · skip
            show WP_ X G Q 0 0 ad SHS_ σ6 95 [(42, 86), (0, a1), (9, 0), (0, a3), (0, a4), (9, 0), (0, v6), (0, v7), (0, v8), (0, v9)] []
            refine B rfl ?_
            refine B rfl ?_
            refine Exists.intro _ (And.intro rfl ?_)
            exact (fun k j hk => (f7 _ _ (by omega)))
        · skip
          show WP_ X G Q 0 0 ad SHS_ σ6 46 [(42, 86), (0, a1), (9, 0), (0, a3), (0, a4), (9, 0), (0, v6), (0, v7), (0, v8), (0, v9)] []
          refine B rfl ?_
          refine Exists.intro (a1, v9) (And.intro rfl (And.intro (And.intro p10 (And.intro hsn0 (And.intro (by show 0 ≤ a1; omega) (And.intro (by show a1 ≤ 3; omega) (And.intro (by show 0 ≤ v9; omega) (by show v9 ≤ 1999; omega)))))) ?_))
          rintro z18 m_ h19
          obtain rfl : σ6 = m_ := h19.2
          have h20 : 0 ≤ z18 ∧ z18 ≤ 1 := h19.1
          refine And.intro (fun h21 => ?_) (fun h21 => ?_)
          · skip
            refine B rfl ?_
            refine Exists.intro v9 (And.intro rfl (And.intro (And.intro p11 (And.intro (by show 0 ≤ v9; omega) (by show v9 ≤ 1999; omega))) ?_))
            rintro z22 m_ h23
            obtain rfl : σ6 = m_ := h23
            refine Exists.intro v9 (And.intro rfl (And.intro (And.intro p11 (And.intro (by show 0 ≤ v9; omega) (by show v9 ≤ 1999; omega))) ?_))
            rintro z24 m_ h25
            obtain rfl : σ6 = m_ := h25
            refine And.intro (by omega) ?_
            exact ih_40 (and3_ v6 z22) (or3_ v7 z24) 1 (v9 + 1) (by show a2 ≤ (v9 + 1); omega) (by show (v9 + 1) ≤ a3 + 1; omega) (by show 0 ≤ 1; omega) (by show 1 ≤ 1; omega) (by omega)
          · skip
            show WP_ X G Q 0 0 ad SHS_ σ6 56 [(42, 86), (0, a1), (9, 0), (0, a3), (0, a4), (9, 0), (0, v6), (0, v7), (0, v8), (0, v9)] []
            refine B rfl ?_
            refine B rfl ?_
            refine And.intro (by omega) ?_
            exact ih_40 v6 v7 v8 (v9 + 1) (by show a2 ≤ (v9 + 1); omega) (by show (v9 + 1) ≤ a3 + 1; omega) (by show 0 ≤ v8; omega) (by show v8 ≤ 1; omega) (by omega)
    exact lp_40 ((a3 + 1 - a2 : Int).toNat + 1) z12 0 0 a2 (by show a2 ≤ a2; omega) (by show a2 ≤ a3 + 1; omega) (by show 0 ≤ 0; omega) (by show 0 ≤ 1; omega) (by omega)
  · skip
    show WP_ X G Q 0 0 ad SHS_ σ6 22 [(42, 86), (0, a1), (0, a2), (0, a3), (0, a4), (0, z4), (9, 0), (9, 0), (9, 0), (9, 0)] []
    refine B rfl ?_
    refine Exists.intro _ (And.intro rfl ?_)
    exact (fun k j hk => (f7 _ _ (by omega)))
def as_G_X11_worstOf : Int × Int × Int × Int × Int → List Sv_t := fun a => [(42, 86), (0, a.1), (0, a.2.1), (0, a.2.2.1), (0, a.2.2.2.1), (0, a.2.2.2.2)]
def pre_G_X11_worstOf : Int × Int × Int × Int × Int → Me_t → Prop := fun a σ => (MI σ) ∧ (SN σ a.1) ∧ (0 ≤ a.1) ∧ (a.1 ≤ 3) ∧ (0 ≤ a.2.1) ∧ (a.2.1 ≤ a.2.2.1) ∧ (a.2.2.1 ≤ 1999) ∧ (0 ≤ a.2.2.2.1) ∧ (a.2.2.2.1 ≤ 2) ∧ (a.2.2.2.1 < σ 87 1) ∧ (a.2.2.2.2 = 1 ∨ a.2.2.2.2 = 3 ∨ a.2.2.2.2 = 4)
def post_G_X11_worstOf : Int × Int × Int × Int × Int → Me_t → Int → Me_t → Prop := fun a σ z σ' => (0 ≤ z ∧ z ≤ 2000) ∧ (∀ k j : Int, ¬ (k = 98) → σ' k j = σ k j)
set_option maxHeartbeats 1500000 in
set_option maxRecDepth 100000 in
theorem ct_G_X11_worstOf (l : Launch) : CT_ l yX11_worstOf cX11_worstOf 9 (some .int) 5 114 as_G_X11_worstOf (rmI_) pre_G_X11_worstOf post_G_X11_worstOf := by
  refine ct_of (by decide) (fun _ => Nat.le_of_ble_eq_true rfl) ?_
  intro X G Q ad σ a hl hR E hG R hM hv hp
  obtain ⟨a1, a2, a3, a4, a5⟩ := a
  have r_a1 : -2147483648 ≤ a1 ∧ a1 ≤ 2147483647 := hv (0, a1) (List.mem_of_getElem? (i := 1) rfl)
  have r_a2 : -2147483648 ≤ a2 ∧ a2 ≤ 2147483647 := hv (0, a2) (List.mem_of_getElem? (i := 2) rfl)
  have r_a3 : -2147483648 ≤ a3 ∧ a3 ≤ 2147483647 := hv (0, a3) (List.mem_of_getElem? (i := 3) rfl)
  have r_a4 : -2147483648 ≤ a4 ∧ a4 ≤ 2147483647 := hv (0, a4) (List.mem_of_getElem? (i := 4) rfl)
  have r_a5 : -2147483648 ≤ a5 ∧ a5 ≤ 2147483647 := hv (0, a5) (List.mem_of_getElem? (i := 5) rfl)
  have hp0 : MI σ := hp.1
  have hp1 : SN σ a1 := hp.2.1
  have hp2 : 0 ≤ a1 := hp.2.2.1
  have hp3 : a1 ≤ 3 := hp.2.2.2.1
  have hp4 : 0 ≤ a2 := hp.2.2.2.2.1
  have hp5 : a2 ≤ a3 := hp.2.2.2.2.2.1
  have hp6 : a3 ≤ 1999 := hp.2.2.2.2.2.2.1
  have hp7 : 0 ≤ a4 := hp.2.2.2.2.2.2.2.1
  have hp8 : a4 ≤ 2 := hp.2.2.2.2.2.2.2.2.1
  have hp9 : a4 < σ 87 1 := hp.2.2.2.2.2.2.2.2.2.1
  have hp10 : a5 = 1 ∨ a5 = 3 ∨ a5 = 4 := hp.2.2.2.2.2.2.2.2.2.2
  have B := @bk_ X G Q 0 0 ad SHS_ RX11 cX11_worstOf 9 (some .int) flX11 plX11 knX11 [(752, 3, TR_ as_G_X11_isSeen (rmI_) pre_G_X11_isSeen post_G_X11_isSeen), (746, 4, TR_ as_G_X11_seen (rmI_) pre_G_X11_seen post_G_X11_seen), (643, 2, TMAX_)] _ _ none kX11_worstOf [6, 16, 33, 39, 49] flX11_ok plX11_ok knX11_ok eX11_worstOf oX11_worstOf
    (List.forall_mem_cons.mpr ⟨cok_v (t := 32) (c := 11) (N := 39) (n := 2) (idx := 376) E (ct_G_X11_isSeen X.2.1) (by rw [hR]; decide) (Nat.zero_le _) (Nat.zero_le _) hG rfl rfl ⟨rfl, by decide, by decide, by decide⟩ (fun _ => ⟨_, _, rfl, rfl⟩) wl_X11_376 wi_X11_isSeen ws_X11_isSeen wn_X11 wc_X11_isSeen, List.forall_mem_cons.mpr ⟨cok_v (t := 32) (c := 11) (N := 39) (n := 3) (idx := 373) E (ct_G_X11_seen X.2.1) (by rw [hR]; decide) (Nat.zero_le _) (Nat.zero_le _) hG rfl rfl ⟨rfl, by decide, by decide, by decide⟩ (fun _ => ⟨_, _, rfl, rfl⟩) wl_X11_373 wi_X11_seen ws_X11_seen wn_X11 wc_X11_seen, List.forall_mem_cons.mpr ⟨cok_max (idx := 321) E (by rw [hR]; decide) (Nat.zero_le _) (Nat.zero_le _) wl_X11_321, fun _ h => absurd h List.not_mem_nil⟩⟩⟩) R sok_no E
  show WP_ X G Q 0 0 ad SHS_ σ 0 [(42, 86), (0, a1), (0, a2), (0, a3), (0, a4), (0, a5), (9, 0), (9, 0), (9, 0)] []
  refine B rfl ?_
  have lp_6 : ∀ (nq_ : Nat) (v7 : Int) (τ6 : Me_t), (∀ k j : Int, ¬ (k = 98) → τ6 k j = σ k j) → (0 ≤ v7) → (v7 ≤ 12) → (∀ j : Int, 0 ≤ j → j < v7 → τ6 98 j = 0) → (12 - v7 : Int).toNat < nq_ → WP_ X G Q 0 0 ad SHS_ τ6 6 [(42, 86), (0, a1), (0, a2), (0, a3), (0, a4), (0, a5), (0, 0), (0, v7), (9, 0)] [] := by
    intro nq_
    induction nq_ with
    | zero => intros; omega
    | succ nq_ ih_6 =>
      intro v7 τ6 hf6 hi6_0 hi6_1 hi6_2 hm6
      refine B rfl ?_
      refine And.intro (fun h1 => ?_) (fun h1 => ?_)
      · skip
        refine B rfl ?_
        show WP_ X G Q 0 0 ad SHS_ τ6 33 [(42, 86), (0, a1), (0, a2), (0, a3), (0, a4), (0, a5), (0, 0), (0, a2), (9, 0)] []
        refine wdrop_ (L' := [(42, 86), (0, a1), (9, 0), (0, a3), (0, a4), (0, a5), (0, 0), (0, a2), (9, 0)]) ⟨Or.inr rfl, ⟨Or.inr rfl, ⟨Or.inl rfl, ⟨Or.inr rfl, ⟨Or.inr rfl, ⟨Or.inr rfl, ⟨Or.inr rfl, ⟨Or.inr rfl, ⟨Or.inl rfl, trivial⟩⟩⟩⟩⟩⟩⟩⟩⟩ ?_
        have lp_33 : ∀ (nq_ : Nat) (v6 : Int) (v7 : Int) (τ33 : Me_t), (∀ k j : Int, ¬ (k = 98) → τ33 k j = σ k j) → (a2 ≤ v7) → (v7 ≤ a3 + 1) → (0 ≤ v6) → (v6 ≤ 2000) → (∀ j : Int, 0 ≤ j → j < 12 → τ33 98 j ≤ v7 - a2) → (a3 + 1 - v7 : Int).toNat < nq_ → WP_ X G Q 0 0 ad SHS_ τ33 33 [(42, 86), (0, a1), (9, 0), (0, a3), (0, a4), (0, a5), (0, v6), (0, v7), (9, 0)] [] := by
          intro nq_
          induction nq_ with
          | zero => intros; omega
          | succ nq_ ih_33 =>
            intro v6 v7 τ33 hf33 hi33_0 hi33_1 hi33_2 hi33_3 hi33_4 hm33
            refine B rfl ?_
            refine And.intro (fun h2 => ?_) (fun h2 => ?_)
            · skip
              refine B rfl ?_
              refine Exists.intro _ (And.intro rfl ?_)
              exact (And.intro (by show 0 ≤ v6 ∧ v6 ≤ 2000; omega) (fun k j hk => (hf33 _ _ (by omega))))
            · skip
              show WP_ X G Q 0 0 ad SHS_ τ33 39 [(42, 86), (0, a1), (9, 0), (0, a3), (0, a4), (0, a5), (0, v6), (0, v7), (9, 0)] []
              refine B rfl ?_
              have p3 : MI τ33 := MI_fr hp0 (fun k j hk => (hf33 _ _ (by omega)))
              have p4 : SN τ33 a1 := SN_fr hp1 (fun k j hk => (hf33 _ _ (by omega)))
              refine Exists.intro (a1, v7) (And.intro rfl (And.intro (And.intro p3 (And.intro p4 (And.intro (by show 0 ≤ a1; omega) (And.intro (by show a1 ≤ 3; omega) (And.intro (by show 0 ≤ v7; omega) (by show v7 ≤ 1999; omega)))))) ?_))
              rintro z5 m_ h6
              obtain rfl : τ33 = m_ := h6.2
              have h7 : 0 ≤ z5 ∧ z5 ≤ 1 := h6.1
              refine And.intro (fun h8 => ?_) (fun h8 => ?_)
              · skip
                refine B rfl ?_
                have p9 : SW τ33 87 := (p3).1.2.1
                try have t10 : τ33 87 (6 + 15 * a4 + 1) = σ 87 (6 + 15 * a4 + 1) := (hf33 _ _ (by omega))
                try have t11 : τ33 87 (6 + 15 * a4 + 3) = σ 87 (6 + 15 * a4 + 3) := (hf33 _ _ (by omega))
                try have t12 : τ33 87 1 = σ 87 1 := (hf33 _ _ (by omega))
                have w13 := p9 a4 (by omega) (by omega) (by omega)
                have p14 : BW τ33 87 := (p3).1.1
                refine Exists.intro (a4, a5, v7) (And.intro rfl (And.intro (And.intro p14 (And.intro (by show 0 ≤ a4; omega) (And.intro (by show a4 ≤ 2; omega) (And.intro (by show 1 ≤ τ33 87 (6 + 15 * a4 + 1); omega) (And.intro (by show 0 ≤ a5; omega) (And.intro (by show a5 ≤ 4; omega) (And.intro (by show 0 ≤ v7; omega) (by show v7 ≤ 1999; omega)))))))) ?_))
                rintro z15 m_ h16
                obtain rfl : τ33 = m_ := h16.2.2.2.2
                have h17 : -1 ≤ z15 ∧ z15 ≤ 2000 := h16.1
                have h18 : a5 = 1 → z15 ≤ 7 := h16.2.1
                have h19 : a5 = 3 → z15 ≤ 9 := h16.2.2.1
                have h20 : a5 = 4 → 0 ≤ z15 ∧ z15 ≤ 1 := h16.2.2.2.1
                refine And.intro (by omega) ?_
                refine And.intro (by omega) ?_
                intro z21 ez21 hz21
                have hz21 : (0 : Int) ≤ z21 ∧ z21 ≤ (2000 : Int) := hz21
                try have t22 : τ33 98 (z15 + 1) = σ 98 (z15 + 1) := (hf33 _ _ (by omega))
                have hak := hi33_4 (z15 + 1) (by omega) (by omega)
                refine And.intro (by omega) ?_
                refine And.intro (by omega) ?_
                refine And.intro (by show (0 : Int) ≤ _ ∧ _ ≤ (2000 : Int); omega) ?_
                intro σ23 e24
                refine And.intro (by omega) ?_
                intro z25 ez25 hz25
                have hz25 : (0 : Int) ≤ z25 ∧ z25 ≤ (2000 : Int) := hz25
                have t26 : σ23 98 (z15 + 1) = z21 + 1 := ups_v e24
                refine Exists.intro v6 (Exists.intro z25 (And.intro rfl ?_))
                intro z27 hz27
                refine And.intro (by omega) ?_
                show WP_ X G Q 0 0 ad SHS_ σ23 33 [(42, 86), (0, a1), (9, 0), (0, a3), (0, a4), (0, a5), (0, z27), (0, v7 + 1), (0, z15 + 1)] []
                refine wdrop_ (L' := [(42, 86), (0, a1), (9, 0), (0, a3), (0, a4), (0, a5), (0, z27), (0, v7 + 1), (9, 0)]) ⟨Or.inr rfl, ⟨Or.inr rfl, ⟨Or.inl rfl, ⟨Or.inr rfl, ⟨Or.inr rfl, ⟨Or.inr rfl, ⟨Or.inr rfl, ⟨Or.inr rfl, ⟨Or.inl rfl, trivial⟩⟩⟩⟩⟩⟩⟩⟩⟩ ?_
                exact ih_33 z27 (v7 + 1) σ23 (fun k j hk => ((ups_r e24 (by omega)).trans (hf33 _ _ (by omega)))) (by show a2 ≤ (v7 + 1); omega) (by show (v7 + 1) ≤ a3 + 1; omega) (by show 0 ≤ z27; omega) (by show z27 ≤ 2000; omega) (by show ∀ j : Int, 0 ≤ j → j < 12 → σ23 98 j ≤ (v7 + 1) - a2; intro j h1 h2; have h3 := hi33_4 j h1 h2; by_cases hj : j = (z15 + 1); subst hj; omega; rw [show σ23 98 j = τ33 98 j from (ups_r e24 (by omega))]; omega) (by omega)
              · skip
                show WP_ X G Q 0 0 ad SHS_ τ33 49 [(42, 86), (0, a1), (9, 0), (0, a3), (0, a4), (0, a5), (0, v6), (0, v7), (9, 0)] []
                refine B rfl ?_
                refine B rfl ?_
                refine And.intro (by omega) ?_
                exact ih_33 v6 (v7 + 1) τ33 (fun k j hk => (hf33 _ _ (by omega))) (by show a2 ≤ (v7 + 1); omega) (by show (v7 + 1) ≤ a3 + 1; omega) (by show 0 ≤ v6; omega) (by show v6 ≤ 2000; omega) (by show ∀ j : Int, 0 ≤ j → j < 12 → τ33 98 j ≤ (v7 + 1) - a2; intro j h1 h2; have h3 := hi33_4 j h1 h2; omega) (by omega)
        exact lp_33 ((a3 + 1 - a2 : Int).toNat + 1) 0 a2 τ6 (fun k j hk => (hf6 _ _ (by omega))) (by show a2 ≤ a2; omega) (by show a2 ≤ a3 + 1; omega) (by show 0 ≤ 0; omega) (by show 0 ≤ 2000; omega) (by show ∀ j : Int, 0 ≤ j → j < 12 → τ6 98 j ≤ a2 - a2; intro j h1 h2; have h3 := hi6_2 j h1 (by omega); omega) (by omega)
      · skip
        show WP_ X G Q 0 0 ad SHS_ τ6 16 [(42, 86), (0, a1), (0, a2), (0, a3), (0, a4), (0, a5), (0, 0), (0, v7), (9, 0)] []
        refine B rfl ?_
        refine And.intro (by omega) ?_
        refine And.intro (by show (0 : Int) ≤ _ ∧ _ ≤ (2000 : Int); omega) ?_
        intro σ28 e29
        refine And.intro (by omega) ?_
        exact ih_6 (v7 + 1) σ28 (fun k j hk => ((ups_r e29 (by omega)).trans (hf6 _ _ (by omega)))) (by show 0 ≤ (v7 + 1); omega) (by show (v7 + 1) ≤ 12; omega) (by show ∀ j : Int, 0 ≤ j → j < (v7 + 1) → σ28 98 j = 0; intro j h1 h2; by_cases hj : j = v7; subst hj; exact ups_v e29; exact (ups_r e29 (by omega)).trans (hi6_2 j h1 (by omega))) (by omega)
  exact lp_6 ((12 - 0 : Int).toNat + 1) 0 σ (fun k j hk => rfl) (by show 0 ≤ 0; omega) (by show 0 ≤ 12; omega) (by show ∀ j : Int, 0 ≤ j → j < 0 → σ 98 j = 0; intro j h1 h2; omega) (by omega)
def as_G_X11_askOf : Int × Int × Int → List Sv_t := fun a => [(42, 86), (0, a.1), (0, a.2.1), (0, a.2.2)]
def pre_G_X11_askOf : Int × Int × Int → Me_t → Prop := fun a σ => (MI σ) ∧ (SN σ a.1) ∧ (0 ≤ a.1) ∧ (a.1 ≤ 3) ∧ (0 ≤ a.2.1) ∧ (a.2.1 ≤ a.2.2) ∧ (a.2.2 ≤ 1999)
def post_G_X11_askOf : Int × Int × Int → Me_t → Int → Me_t → Prop := fun a σ z σ' => (∀ k j : Int, ¬ (k = 86 ∨ k = 98) → σ' k j = σ k j)
set_option maxHeartbeats 1500000 in
set_option maxRecDepth 100000 in
theorem ct_G_X11_askOf (l : Launch) : CT_ l yX11_askOf cX11_askOf 8 (some .int) 6 142 as_G_X11_askOf (rmI_) pre_G_X11_askOf post_G_X11_askOf := by
  refine ct_of (by decide) (fun _ => Nat.le_of_ble_eq_true rfl) ?_
  intro X G Q ad σ a hl hR E hG R hM hv hp
  obtain ⟨a1, a2, a3⟩ := a
  have r_a1 : -2147483648 ≤ a1 ∧ a1 ≤ 2147483647 := hv (0, a1) (List.mem_of_getElem? (i := 1) rfl)
  have r_a2 : -2147483648 ≤ a2 ∧ a2 ≤ 2147483647 := hv (0, a2) (List.mem_of_getElem? (i := 2) rfl)
  have r_a3 : -2147483648 ≤ a3 ∧ a3 ≤ 2147483647 := hv (0, a3) (List.mem_of_getElem? (i := 3) rfl)
  have hp0 : MI σ := hp.1
  have hp1 : SN σ a1 := hp.2.1
  have hp2 : 0 ≤ a1 := hp.2.2.1
  have hp3 : a1 ≤ 3 := hp.2.2.2.1
  have hp4 : 0 ≤ a2 := hp.2.2.2.2.1
  have hp5 : a2 ≤ a3 := hp.2.2.2.2.2.1
  have hp6 : a3 ≤ 1999 := hp.2.2.2.2.2.2
  have B := @bk_ X G Q 0 0 ad SHS_ RX11 cX11_askOf 8 (some .int) flX11 plX11 knX11 [(766, 4, TR_ as_G_X11_fitsOf (rmI_) pre_G_X11_fitsOf post_G_X11_fitsOf), (778, 6, TR_ as_G_X11_worstOf (rmI_) pre_G_X11_worstOf post_G_X11_worstOf)] _ _ none kX11_askOf [17, 28, 31, 37, 43, 71] flX11_ok plX11_ok knX11_ok eX11_askOf oX11_askOf
    (List.forall_mem_cons.mpr ⟨cok_v (t := 32) (c := 11) (N := 39) (n := 3) (idx := 383) E (ct_G_X11_fitsOf X.2.1) (by rw [hR]; decide) (Nat.zero_le _) (Nat.zero_le _) hG rfl rfl ⟨rfl, by decide, by decide, by decide⟩ (fun _ => ⟨_, _, rfl, rfl⟩) wl_X11_383 wi_X11_fitsOf ws_X11_fitsOf wn_X11 wc_X11_fitsOf, List.forall_mem_cons.mpr ⟨cok_v (t := 32) (c := 11) (N := 39) (n := 5) (idx := 389) E (ct_G_X11_worstOf X.2.1) (by rw [hR]; decide) (Nat.zero_le _) (Nat.zero_le _) hG rfl rfl ⟨rfl, by decide, by decide, by decide⟩ (fun _ => ⟨_, _, rfl, rfl⟩) wl_X11_389 wi_X11_worstOf ws_X11_worstOf wn_X11 wc_X11_worstOf, fun _ h => absurd h List.not_mem_nil⟩⟩) R sok_no E
  show WP_ X G Q 0 0 ad SHS_ σ 0 [(42, 86), (0, a1), (0, a2), (0, a3), (9, 0), (9, 0), (9, 0), (9, 0)] []
  refine B rfl ?_
  refine Exists.intro (a1, a2, a3) (And.intro rfl (And.intro (And.intro hp0 (And.intro hp1 (And.intro (by show 0 ≤ a1; omega) (And.intro (by show a1 ≤ 3; omega) (And.intro (by show 0 ≤ a2; omega) (And.intro (by show a2 ≤ a3; omega) (by show a3 ≤ 1999; omega))))))) ?_))
  rintro z1 m_ h2
  obtain rfl : σ = m_ := h2.2
  have h3 : 0 ≤ z1 ∧ z1 ≤ 2000 := h2.1
  intro σ4 e5
  have lp_17 : ∀ (nq_ : Nat) (v4 : Int) (v5 : Int) (τ17 : Me_t), (∀ k j : Int, ¬ (k = 86 ∨ k = 98) → τ17 k j = σ k j) → (0 ≤ v5) → (v5 ≤ 3) → (3 - v5 : Int).toNat < nq_ → WP_ X G Q 0 0 ad SHS_ τ17 17 [(42, 86), (0, a1), (0, a2), (0, a3), (0, v4), (0, v5), (9, 0), (9, 0)] [] := by
    intro nq_
    induction nq_ with
    | zero => intros; omega
    | succ nq_ ih_17 =>
      intro v4 v5 τ17 hf17 hi17_0 hi17_1 hm17
      refine B rfl ?_
      refine And.intro (by omega) ?_
      intro z6 ez6 hz6
      have hz6 : ((-1) : Int) ≤ z6 ∧ z6 ≤ (1999 : Int) := hz6
      try have t7 : τ17 87 1 = σ 87 1 := (hf17 _ _ (by omega))
      have p8 : MI τ17 := MI_fr hp0 (fun k j hk => (hf17 _ _ (by omega)))
      have p9 : BW τ17 87 := (p8).1.1
      have b10 := wrh_ p9 (i := 1) (by omega)
      have b10 : (0 : Int) ≤ τ17 87 1 ∧ τ17 87 1 ≤ (3 : Int) := b10
      refine And.intro (fun h11 => ?_) (fun h11 => ?_)
      · skip
        refine B rfl ?_
        refine Exists.intro _ (And.intro rfl ?_)
        exact (fun k j hk => (hf17 _ _ (by omega)))
      · skip
        show WP_ X G Q 0 0 ad SHS_ τ17 28 [(42, 86), (0, a1), (0, a2), (0, a3), (0, v4), (0, v5), (9, 0), (9, 0)] []
        refine B rfl ?_
        have lp_31 : ∀ (nq_ : Nat) (v4 : Int) (v6 : Int) (τ31 : Me_t), (∀ k j : Int, ¬ (k = 86 ∨ k = 98) → τ31 k j = σ k j) → (1 ≤ v6) → (v6 ≤ 5) → (5 - v6 : Int).toNat < nq_ → WP_ X G Q 0 0 ad SHS_ τ31 31 [(42, 86), (0, a1), (0, a2), (0, a3), (0, v4), (0, v5), (0, v6), (9, 0)] [] := by
          intro nq_
          induction nq_ with
          | zero => intros; omega
          | succ nq_ ih_31 =>
            intro v4 v6 τ31 hf31 hi31_0 hi31_1 hm31
            refine B rfl ?_
            refine And.intro (fun h12 => ?_) (fun h12 => ?_)
            · skip
              refine B rfl ?_
              refine And.intro (by omega) ?_
              show WP_ X G Q 0 0 ad SHS_ τ31 17 [(42, 86), (0, a1), (0, a2), (0, a3), (0, v4), (0, v5 + 1), (0, v6), (9, 0)] []
              refine wdrop_ (L' := [(42, 86), (0, a1), (0, a2), (0, a3), (0, v4), (0, v5 + 1), (9, 0), (9, 0)]) ⟨Or.inr rfl, ⟨Or.inr rfl, ⟨Or.inr rfl, ⟨Or.inr rfl, ⟨Or.inr rfl, ⟨Or.inr rfl, ⟨Or.inl rfl, ⟨Or.inl rfl, trivial⟩⟩⟩⟩⟩⟩⟩⟩ ?_
              exact ih_17 v4 (v5 + 1) τ31 (fun k j hk => (hf31 _ _ (by omega))) (by show 0 ≤ (v5 + 1); omega) (by show (v5 + 1) ≤ 3; omega) (by omega)
            · skip
              show WP_ X G Q 0 0 ad SHS_ τ31 37 [(42, 86), (0, a1), (0, a2), (0, a3), (0, v4), (0, v5), (0, v6), (9, 0)] []
              refine B rfl ?_
              refine And.intro (fun h13 => ?_) (fun h13 => ?_)
              · skip
                refine B rfl ?_
                have p14 : MI τ31 := MI_fr hp0 (fun k j hk => (hf31 _ _ (by omega)))
                have p15 : SN τ31 a1 := SN_fr hp1 (fun k j hk => (hf31 _ _ (by omega)))
                try have t16 : τ31 87 1 = σ 87 1 := (hf31 _ _ (by omega))
                refine Exists.intro (a1, a2, a3, v5, v6) (And.intro rfl (And.intro (And.intro p14 (And.intro p15 (And.intro (by show 0 ≤ a1; omega) (And.intro (by show a1 ≤ 3; omega) (And.intro (by show 0 ≤ a2; omega) (And.intro (by show a2 ≤ a3; omega) (And.intro (by show a3 ≤ 1999; omega) (And.intro (by show 0 ≤ v5; omega) (And.intro (by show v5 ≤ 2; omega) (And.intro (by show v5 < τ31 87 1; omega) (by show v6 = 1 ∨ v6 = 3 ∨ v6 = 4; omega))))))))))) ?_))
                intro z17 σ19 h18
                have f20 : ∀ k j : Int, ¬ (k = 98) → σ19 k j = τ31 k j := h18.2
                have h21 : 0 ≤ z17 ∧ z17 ≤ 2000 := h18.1
                intro z22 ez22 hz22
                have hz22 : ((-2147483648) : Int) ≤ z22 ∧ z22 ≤ (2147483647 : Int) := rgl_ hz22 (by decide +kernel) (by decide +kernel) (by decide +kernel)
                try have t23 : σ19 86 25 = σ 86 25 := ((f20 _ _ (by omega)).trans (hf31 _ _ (by omega)))
                refine And.intro (fun h24 => ?_) (fun h24 => ?_)
                · skip
                  refine B rfl ?_
                  intro σ25 e26
                  refine And.intro (by omega) ?_
                  refine And.intro (by omega) ?_
                  refine And.intro (by omega) ?_
                  show WP_ X G Q 0 0 ad SHS_ σ25 31 [(42, 86), (0, a1), (0, a2), (0, a3), (0, (10 * v5) + v6), (0, v5), (0, v6 + 1), (0, z17)] []
                  refine wdrop_ (L' := [(42, 86), (0, a1), (0, a2), (0, a3), (0, (10 * v5) + v6), (0, v5), (0, v6 + 1), (9, 0)]) ⟨Or.inr rfl, ⟨Or.inr rfl, ⟨Or.inr rfl, ⟨Or.inr rfl, ⟨Or.inr rfl, ⟨Or.inr rfl, ⟨Or.inr rfl, ⟨Or.inl rfl, trivial⟩⟩⟩⟩⟩⟩⟩⟩ ?_
                  exact ih_31 ((10 * v5) + v6) (v6 + 1) σ25 (fun k j hk => ((ups_r e26 (by omega)).trans ((f20 _ _ (by omega)).trans (hf31 _ _ (by omega))))) (by show 1 ≤ (v6 + 1); omega) (by show (v6 + 1) ≤ 5; omega) (by omega)
                · skip
                  show WP_ X G Q 0 0 ad SHS_ σ19 71 [(42, 86), (0, a1), (0, a2), (0, a3), (0, v4), (0, v5), (0, v6), (0, z17)] []
                  refine B rfl ?_
                  refine B rfl ?_
                  refine And.intro (by omega) ?_
                  show WP_ X G Q 0 0 ad SHS_ σ19 31 [(42, 86), (0, a1), (0, a2), (0, a3), (0, v4), (0, v5), (0, v6 + 1), (0, z17)] []
                  refine wdrop_ (L' := [(42, 86), (0, a1), (0, a2), (0, a3), (0, v4), (0, v5), (0, v6 + 1), (9, 0)]) ⟨Or.inr rfl, ⟨Or.inr rfl, ⟨Or.inr rfl, ⟨Or.inr rfl, ⟨Or.inr rfl, ⟨Or.inr rfl, ⟨Or.inr rfl, ⟨Or.inl rfl, trivial⟩⟩⟩⟩⟩⟩⟩⟩ ?_
                  exact ih_31 v4 (v6 + 1) σ19 (fun k j hk => ((f20 _ _ (by omega)).trans (hf31 _ _ (by omega)))) (by show 1 ≤ (v6 + 1); omega) (by show (v6 + 1) ≤ 5; omega) (by omega)
              · skip
                show WP_ X G Q 0 0 ad SHS_ τ31 43 [(42, 86), (0, a1), (0, a2), (0, a3), (0, v4), (0, v5), (0, v6), (9, 0)] []
                refine B rfl ?_
                refine B rfl ?_
                intro z27 ez27 hz27
                have hz27 : ((-2147483648) : Int) ≤ z27 ∧ z27 ≤ (2147483647 : Int) := rgl_ hz27 (by decide +kernel) (by decide +kernel) (by decide +kernel)
                try have t28 : τ31 86 25 = σ 86 25 := (hf31 _ _ (by omega))
                refine And.intro (fun h29 => ?_) (fun h29 => ?_)
                · skip
                  refine B rfl ?_
                  intro σ30 e31
                  refine And.intro (by omega) ?_
                  refine And.intro (by omega) ?_
                  refine And.intro (by omega) ?_
                  show WP_ X G Q 0 0 ad SHS_ σ30 31 [(42, 86), (0, a1), (0, a2), (0, a3), (0, (10 * v5) + v6), (0, v5), (0, v6 + 1), (0, 1000000)] []
                  refine wdrop_ (L' := [(42, 86), (0, a1), (0, a2), (0, a3), (0, (10 * v5) + v6), (0, v5), (0, v6 + 1), (9, 0)]) ⟨Or.inr rfl, ⟨Or.inr rfl, ⟨Or.inr rfl, ⟨Or.inr rfl, ⟨Or.inr rfl, ⟨Or.inr rfl, ⟨Or.inr rfl, ⟨Or.inl rfl, trivial⟩⟩⟩⟩⟩⟩⟩⟩ ?_
                  exact ih_31 ((10 * v5) + v6) (v6 + 1) σ30 (fun k j hk => ((ups_r e31 (by omega)).trans (hf31 _ _ (by omega)))) (by show 1 ≤ (v6 + 1); omega) (by show (v6 + 1) ≤ 5; omega) (by omega)
                · skip
                  show WP_ X G Q 0 0 ad SHS_ τ31 71 [(42, 86), (0, a1), (0, a2), (0, a3), (0, v4), (0, v5), (0, v6), (0, 1000000)] []
                  refine B rfl ?_
                  refine B rfl ?_
                  refine And.intro (by omega) ?_
                  show WP_ X G Q 0 0 ad SHS_ τ31 31 [(42, 86), (0, a1), (0, a2), (0, a3), (0, v4), (0, v5), (0, v6 + 1), (0, 1000000)] []
                  refine wdrop_ (L' := [(42, 86), (0, a1), (0, a2), (0, a3), (0, v4), (0, v5), (0, v6 + 1), (9, 0)]) ⟨Or.inr rfl, ⟨Or.inr rfl, ⟨Or.inr rfl, ⟨Or.inr rfl, ⟨Or.inr rfl, ⟨Or.inr rfl, ⟨Or.inr rfl, ⟨Or.inl rfl, trivial⟩⟩⟩⟩⟩⟩⟩⟩ ?_
                  exact ih_31 v4 (v6 + 1) τ31 (fun k j hk => (hf31 _ _ (by omega))) (by show 1 ≤ (v6 + 1); omega) (by show (v6 + 1) ≤ 5; omega) (by omega)
        exact lp_31 ((5 - 1 : Int).toNat + 1) v4 1 τ17 (fun k j hk => (hf17 _ _ (by omega))) (by show 1 ≤ 1; omega) (by show 1 ≤ 5; omega) (by omega)
  exact lp_17 ((3 - 0 : Int).toNat + 1) (-1) 0 σ4 (fun k j hk => (ups_r e5 (by omega))) (by show 0 ≤ 0; omega) (by show 0 ≤ 3; omega) (by omega)
def as_G_X11_ask : Int × Int × Int → List Sv_t := fun a => [(42, 86), (0, a.1), (0, a.2.1), (0, a.2.2)]
def pre_G_X11_ask : Int × Int × Int → Me_t → Prop := fun a σ => (MI σ)
def post_G_X11_ask : Int × Int × Int → Me_t → Int → Me_t → Prop := fun a σ z σ' => (∀ k j : Int, ¬ (k = 86 ∨ k = 98 ∨ (93 ≤ k ∧ k ≤ 96)) → σ' k j = σ k j)
set_option maxHeartbeats 1500000 in
set_option maxRecDepth 100000 in
theorem ct_G_X11_ask (l : Launch) : CT_ l yX11_ask cX11_ask 5 (some .int) 7 169 as_G_X11_ask (rmI_) pre_G_X11_ask post_G_X11_ask := by
  refine ct_of (by decide) (fun _ => Nat.le_of_ble_eq_true rfl) ?_
  intro X G Q ad σ a hl hR E hG R hM hv hp
  obtain ⟨a1, a2, a3⟩ := a
  have r_a1 : -2147483648 ≤ a1 ∧ a1 ≤ 2147483647 := hv (0, a1) (List.mem_of_getElem? (i := 1) rfl)
  have r_a2 : -2147483648 ≤ a2 ∧ a2 ≤ 2147483647 := hv (0, a2) (List.mem_of_getElem? (i := 2) rfl)
  have r_a3 : -2147483648 ≤ a3 ∧ a3 ≤ 2147483647 := hv (0, a3) (List.mem_of_getElem? (i := 3) rfl)
  have hp0 : MI σ := hp
  have B := @bk_ X G Q 0 0 ad SHS_ RX11 cX11_ask 5 (some .int) flX11 plX11 knX11 [(758, 5, TR_ as_G_X11_asksSeen (rmI_) pre_G_X11_asksSeen post_G_X11_asksSeen), (786, 4, TR_ as_G_X11_askOf (rmI_) pre_G_X11_askOf post_G_X11_askOf)] _ _ none kX11_ask [] flX11_ok plX11_ok knX11_ok eX11_ask oX11_ask
    (List.forall_mem_cons.mpr ⟨cok_v (t := 32) (c := 11) (N := 39) (n := 4) (idx := 379) E (ct_G_X11_asksSeen X.2.1) (by rw [hR]; decide) (Nat.zero_le _) (Nat.zero_le _) hG rfl rfl ⟨rfl, by decide, by decide, by decide⟩ (fun _ => ⟨_, _, rfl, rfl⟩) wl_X11_379 wi_X11_asksSeen ws_X11_asksSeen wn_X11 wc_X11_asksSeen, List.forall_mem_cons.mpr ⟨cok_v (t := 32) (c := 11) (N := 39) (n := 3) (idx := 393) E (ct_G_X11_askOf X.2.1) (by rw [hR]; decide) (Nat.zero_le _) (Nat.zero_le _) hG rfl rfl ⟨rfl, by decide, by decide, by decide⟩ (fun _ => ⟨_, _, rfl, rfl⟩) wl_X11_393 wi_X11_askOf ws_X11_askOf wn_X11 wc_X11_askOf, fun _ h => absurd h List.not_mem_nil⟩⟩) R sok_no E
  show WP_ X G Q 0 0 ad SHS_ σ 0 [(42, 86), (0, a1), (0, a2), (0, a3), (9, 0)] []
  refine B rfl ?_
  refine Exists.intro (a1, a2, a3, 1) (And.intro rfl (And.intro hp0 ?_))
  intro z1 σ3 h2
  have f4 : ∀ k j : Int, ¬ (93 ≤ k ∧ k ≤ 96) → σ3 k j = σ k j := h2.2
  have h5 : z1 < 0 ∨ (0 ≤ a1 ∧ a1 ≤ 3 ∧ 0 ≤ a2 ∧ a2 ≤ a3 ∧ a3 ≤ 1999 ∧ SN σ3 a1) := h2.1
  have hqo := h2.1
  try dsimp only at hqo
  refine And.intro (fun h6 => ?_) (fun h6 => ?_)
  · skip
    refine B rfl ?_
    have hqq := hqo.resolve_left (by omega)
    have hsn0 : SN σ3 a1 := hqq.2.2.2.2.2
    have p7 : MI σ3 := MI_fr hp0 (fun k j hk => (f4 _ _ (by omega)))
    refine Exists.intro (a1, a2, a3) (And.intro rfl (And.intro (And.intro p7 (And.intro hsn0 (And.intro (by show 0 ≤ a1; omega) (And.intro (by show a1 ≤ 3; omega) (And.intro (by show 0 ≤ a2; omega) (And.intro (by show a2 ≤ a3; omega) (by show a3 ≤ 1999; omega))))))) ?_))
    intro z8 σ10 h9
    have f11 : ∀ k j : Int, ¬ (k = 86 ∨ k = 98) → σ10 k j = σ3 k j := h9
    refine Exists.intro _ (And.intro rfl ?_)
    exact (fun k j hk => ((f11 _ _ (by omega)).trans (f4 _ _ (by omega))))
  · skip
    refine B rfl ?_
    refine Exists.intro _ (And.intro rfl ?_)
    exact (fun k j hk => (f4 _ _ (by omega)))
def as_G_X11_leaves : Int × Int × Int → List Sv_t := fun a => [(42, 86), (0, a.1), (0, a.2.1), (0, a.2.2)]
def pre_G_X11_leaves : Int × Int × Int → Me_t → Prop := fun a σ => (MI σ)
def post_G_X11_leaves : Int × Int × Int → Me_t → Int → Me_t → Prop := fun a σ z σ' => (∀ k j : Int, ¬ (k = 86 ∨ k = 98 ∨ (93 ≤ k ∧ k ≤ 96)) → σ' k j = σ k j)
set_option maxHeartbeats 1500000 in
set_option maxRecDepth 100000 in
theorem ct_G_X11_leaves (l : Launch) : CT_ l yX11_leaves cX11_leaves 5 (some .int) 7 169 as_G_X11_leaves (rmI_) pre_G_X11_leaves post_G_X11_leaves := by
  refine ct_of (by decide) (fun _ => Nat.le_of_ble_eq_true rfl) ?_
  intro X G Q ad σ a hl hR E hG R hM hv hp
  obtain ⟨a1, a2, a3⟩ := a
  have r_a1 : -2147483648 ≤ a1 ∧ a1 ≤ 2147483647 := hv (0, a1) (List.mem_of_getElem? (i := 1) rfl)
  have r_a2 : -2147483648 ≤ a2 ∧ a2 ≤ 2147483647 := hv (0, a2) (List.mem_of_getElem? (i := 2) rfl)
  have r_a3 : -2147483648 ≤ a3 ∧ a3 ≤ 2147483647 := hv (0, a3) (List.mem_of_getElem? (i := 3) rfl)
  have hp0 : MI σ := hp
  have B := @bk_ X G Q 0 0 ad SHS_ RX11 cX11_leaves 5 (some .int) flX11 plX11 knX11 [(758, 5, TR_ as_G_X11_asksSeen (rmI_) pre_G_X11_asksSeen post_G_X11_asksSeen), (786, 4, TR_ as_G_X11_askOf (rmI_) pre_G_X11_askOf post_G_X11_askOf)] _ _ none kX11_leaves [] flX11_ok plX11_ok knX11_ok eX11_leaves oX11_leaves
    (List.forall_mem_cons.mpr ⟨cok_v (t := 32) (c := 11) (N := 39) (n := 4) (idx := 379) E (ct_G_X11_asksSeen X.2.1) (by rw [hR]; decide) (Nat.zero_le _) (Nat.zero_le _) hG rfl rfl ⟨rfl, by decide, by decide, by decide⟩ (fun _ => ⟨_, _, rfl, rfl⟩) wl_X11_379 wi_X11_asksSeen ws_X11_asksSeen wn_X11 wc_X11_asksSeen, List.forall_mem_cons.mpr ⟨cok_v (t := 32) (c := 11) (N := 39) (n := 3) (idx := 393) E (ct_G_X11_askOf X.2.1) (by rw [hR]; decide) (Nat.zero_le _) (Nat.zero_le _) hG rfl rfl ⟨rfl, by decide, by decide, by decide⟩ (fun _ => ⟨_, _, rfl, rfl⟩) wl_X11_393 wi_X11_askOf ws_X11_askOf wn_X11 wc_X11_askOf, fun _ h => absurd h List.not_mem_nil⟩⟩) R sok_no E
  show WP_ X G Q 0 0 ad SHS_ σ 0 [(42, 86), (0, a1), (0, a2), (0, a3), (9, 0)] []
  refine B rfl ?_
  refine Exists.intro (a1, a2, a3, 1) (And.intro rfl (And.intro hp0 ?_))
  intro z1 σ3 h2
  have f4 : ∀ k j : Int, ¬ (93 ≤ k ∧ k ≤ 96) → σ3 k j = σ k j := h2.2
  have h5 : z1 < 0 ∨ (0 ≤ a1 ∧ a1 ≤ 3 ∧ 0 ≤ a2 ∧ a2 ≤ a3 ∧ a3 ≤ 1999 ∧ SN σ3 a1) := h2.1
  have hqo := h2.1
  try dsimp only at hqo
  refine And.intro (fun h6 => ?_) (fun h6 => ?_)
  · skip
    refine B rfl ?_
    have hqq := hqo.resolve_left (by omega)
    have hsn0 : SN σ3 a1 := hqq.2.2.2.2.2
    have p7 : MI σ3 := MI_fr hp0 (fun k j hk => (f4 _ _ (by omega)))
    refine Exists.intro (a1, a2, a3) (And.intro rfl (And.intro (And.intro p7 (And.intro hsn0 (And.intro (by show 0 ≤ a1; omega) (And.intro (by show a1 ≤ 3; omega) (And.intro (by show 0 ≤ a2; omega) (And.intro (by show a2 ≤ a3; omega) (by show a3 ≤ 1999; omega))))))) ?_))
    intro z8 σ10 h9
    have f11 : ∀ k j : Int, ¬ (k = 86 ∨ k = 98) → σ10 k j = σ3 k j := h9
    intro z12 ez12 hz12
    have hz12 : ((-2147483648) : Int) ≤ z12 ∧ z12 ≤ (2147483647 : Int) := rgl_ hz12 (by decide +kernel) (by decide +kernel) (by decide +kernel)
    try have t13 : σ10 86 25 = σ 86 25 := ((f11 _ _ (by omega)).trans (f4 _ _ (by omega)))
    refine Exists.intro _ (And.intro rfl ?_)
    exact (fun k j hk => ((f11 _ _ (by omega)).trans (f4 _ _ (by omega))))
  · skip
    refine Exists.intro _ (And.intro rfl ?_)
    exact (fun k j hk => (f4 _ _ (by omega)))
