def as_G_X11_isDate : Int × Int × Int × Int → List Sv_t := fun a => [(42, 86), (0, a.1), (1, a.2.1), (1, a.2.2.1), (1, a.2.2.2)]
def pre_G_X11_isDate : Int × Int × Int × Int → Me_t → Prop := fun a σ => (BW σ 87) ∧ (0 ≤ a.1) ∧ (a.1 ≤ 2)
def post_G_X11_isDate : Int × Int × Int × Int → Me_t → Int → Me_t → Prop := fun a σ z σ' => ((z = 1 ∧ 0 ≤ a.2.1 ∧ a.2.1 ≤ 1999 ∧ 0 ≤ a.2.2.1 ∧ a.2.2.1 ≤ 7 ∧ 0 ≤ a.2.2.2 ∧ a.2.2.2 ≤ 68) ∨ z = 0) ∧ (σ = σ')
set_option maxHeartbeats 1500000 in
set_option maxRecDepth 100000 in
theorem ct_G_X11_isDate (l : Launch) : CT_ l yX11_isDate cX11_isDate 8 (some .boolean) 2 48 as_G_X11_isDate (rmI_) pre_G_X11_isDate post_G_X11_isDate := by
  refine ct_of (by decide) (fun _ => Nat.le_of_ble_eq_true rfl) ?_
  intro X G Q ad σ a hl hR E hG R hM hv hp
  obtain ⟨a1, a2, a3, a4⟩ := a
  have r_a1 : -2147483648 ≤ a1 ∧ a1 ≤ 2147483647 := hv (0, a1) (List.mem_of_getElem? (i := 1) rfl)
  have r_a2 : -9223372036854775808 ≤ a2 ∧ a2 ≤ 9223372036854775807 := hv (1, a2) (List.mem_of_getElem? (i := 2) rfl)
  have r_a3 : -9223372036854775808 ≤ a3 ∧ a3 ≤ 9223372036854775807 := hv (1, a3) (List.mem_of_getElem? (i := 3) rfl)
  have r_a4 : -9223372036854775808 ≤ a4 ∧ a4 ≤ 9223372036854775807 := hv (1, a4) (List.mem_of_getElem? (i := 4) rfl)
  have hp0 : BW σ 87 := hp.1
  have hp1 : 0 ≤ a1 := hp.2.1
  have hp2 : a1 ≤ 2 := hp.2.2
  have B := @bk_ X G Q 0 0 ad SHS_ RX11 cX11_isDate 8 (some .boolean) flX11 plX11 knX11 [(529, 1, TR_ as_G_X11_isYear (rmI_) pre_G_X11_isYear post_G_X11_isYear), (520, 3, TR_ as_G_X11_isMonth (rmI_) pre_G_X11_isMonth post_G_X11_isMonth), (208, 4, TR_ as_G_X11_lengthOf (rmI_) pre_G_X11_lengthOf post_G_X11_lengthOf), (159, 3, TR_ as_G_X11_in (rmI_) pre_G_X11_in post_G_X11_in)] _ _ none kX11_isDate [] flX11_ok plX11_ok knX11_ok eX11_isDate oX11_isDate
    (List.forall_mem_cons.mpr ⟨cok_s (n := 1) (idx := 264) E (ct_G_X11_isYear X.2.1) (by rw [hR]; decide) (Nat.zero_le _) (Nat.zero_le _) hG ⟨by decide, by decide, by decide⟩ (fun _ => rfl) wl_X11_264 wt_X11_isYear wn_X11 wc_X11_isYear, List.forall_mem_cons.mpr ⟨cok_v (t := 32) (c := 11) (N := 39) (n := 2) (idx := 260) E (ct_G_X11_isMonth X.2.1) (by rw [hR]; decide) (Nat.zero_le _) (Nat.zero_le _) hG rfl rfl ⟨rfl, by decide, by decide, by decide⟩ (fun _ => ⟨_, _, rfl, rfl⟩) wl_X11_260 wi_X11_isMonth ws_X11_isMonth wn_X11 wc_X11_isMonth, List.forall_mem_cons.mpr ⟨cok_v (t := 32) (c := 11) (N := 39) (n := 3) (idx := 104) E (ct_G_X11_lengthOf X.2.1) (by rw [hR]; decide) (Nat.zero_le _) (Nat.zero_le _) hG rfl rfl ⟨rfl, by decide, by decide, by decide⟩ (fun _ => ⟨_, _, rfl, rfl⟩) wl_X11_104 wi_X11_lengthOf ws_X11_lengthOf wn_X11 wc_X11_lengthOf, List.forall_mem_cons.mpr ⟨cok_s (n := 3) (idx := 79) E (ct_G_X11_in X.2.1) (by rw [hR]; decide) (Nat.zero_le _) (Nat.zero_le _) hG ⟨by decide, by decide, by decide⟩ (fun _ => rfl) wl_X11_79 wt_X11_in wn_X11 wc_X11_in, fun _ h => absurd h List.not_mem_nil⟩⟩⟩⟩) R sok_no E
  show WP_ X G Q 0 0 ad SHS_ σ 0 [(42, 86), (0, a1), (1, a2), (9, 0), (1, a3), (9, 0), (1, a4), (9, 0)] []
  refine B rfl ?_
  refine Exists.intro a2 (And.intro rfl (And.intro True.intro ?_))
  rintro z1 m_ h2
  obtain rfl : σ = m_ := h2.2
  have h3 : (z1 = 1 ∧ 0 ≤ a2 ∧ a2 ≤ 1999) ∨ z1 = 0 := h2.1
  refine And.intro (fun h4 => ?_) (fun h4 => ?_)
  · skip
    refine B rfl ?_
    refine And.intro (by omega) ?_
    refine Exists.intro _ (And.intro rfl ?_)
    exact (And.intro (by show (0 = 1 ∧ 0 ≤ a2 ∧ a2 ≤ 1999 ∧ 0 ≤ a3 ∧ a3 ≤ 7 ∧ 0 ≤ a4 ∧ a4 ≤ 68) ∨ 0 = 0; omega) rfl)
  · skip
    refine Exists.intro (a1, a3) (And.intro rfl (And.intro (And.intro hp0 (And.intro (by show 0 ≤ a1; omega) (by show a1 ≤ 2; omega))) ?_))
    rintro z5 m_ h6
    obtain rfl : σ = m_ := h6.2
    have h7 : (z5 = 1 ∧ 0 ≤ a3 ∧ a3 ≤ 7 ∧ a3 < σ 87 (6 + 15 * a1 + 3)) ∨ z5 = 0 := h6.1
    refine And.intro (fun h8 => ?_) (fun h8 => ?_)
    · skip
      refine B rfl ?_
      refine And.intro (by omega) ?_
      refine Exists.intro _ (And.intro rfl ?_)
      exact (And.intro (by show (0 = 1 ∧ 0 ≤ a2 ∧ a2 ≤ 1999 ∧ 0 ≤ a3 ∧ a3 ≤ 7 ∧ 0 ≤ a4 ∧ a4 ≤ 68) ∨ 0 = 0; omega) rfl)
    · skip
      have q9 := l2i_t (x := a3)
      have q10 := l2i_t (x := a2)
      refine Exists.intro (a1, l2i_ a3, l2i_ a2) (And.intro rfl (And.intro (And.intro hp0 (And.intro (by show 0 ≤ a1; omega) (And.intro (by show a1 ≤ 2; omega) (And.intro (by show 0 ≤ (l2i_ a3); omega) (And.intro (by show (l2i_ a3) ≤ 7; omega) (by show 0 ≤ (l2i_ a2); omega)))))) ?_))
      rintro z11 m_ h12
      obtain rfl : σ = m_ := h12.2.2
      have h13 : z11 = lenF_ (σ 87) a1 (l2i_ a3) (l2i_ a2) := h12.1
      have h14 : 0 ≤ z11 ∧ z11 ≤ 69 := h12.2.1
      refine And.intro (by omega) ?_
      refine Exists.intro (a4, 0, z11 - 1) (And.intro rfl (And.intro True.intro ?_))
      rintro z15 m_ h16
      obtain rfl : σ = m_ := h16.2
      have h17 : (z15 = 1 ∧ 0 ≤ a4 ∧ a4 ≤ (z11 - 1)) ∨ (z15 = 0 ∧ ¬ (0 ≤ a4 ∧ a4 ≤ (z11 - 1))) := h16.1
      refine And.intro (fun h18 => ?_) (fun h18 => ?_)
      · skip
        refine B rfl ?_
        refine And.intro (by omega) ?_
        refine Exists.intro _ (And.intro rfl ?_)
        exact (And.intro (by show (0 = 1 ∧ 0 ≤ a2 ∧ a2 ≤ 1999 ∧ 0 ≤ a3 ∧ a3 ≤ 7 ∧ 0 ≤ a4 ∧ a4 ≤ 68) ∨ 0 = 0; omega) rfl)
      · skip
        refine B rfl ?_
        refine And.intro (by omega) ?_
        refine Exists.intro _ (And.intro rfl ?_)
        exact (And.intro (by show (1 = 1 ∧ 0 ≤ a2 ∧ a2 ≤ 1999 ∧ 0 ≤ a3 ∧ a3 ≤ 7 ∧ 0 ≤ a4 ∧ a4 ≤ 68) ∨ 1 = 0; omega) rfl)
def as_G_X11_dayBy : Int × Int × Int × Int → List Sv_t := fun a => [(42, 86), (0, a.1), (0, a.2.1), (0, a.2.2.1), (0, a.2.2.2)]
def pre_G_X11_dayBy : Int × Int × Int × Int → Me_t → Prop := fun a σ => (BW σ 87) ∧ (0 ≤ a.1) ∧ (a.1 ≤ 2) ∧ (0 ≤ a.2.1) ∧ (a.2.1 ≤ 1999) ∧ (0 ≤ a.2.2.1) ∧ (a.2.2.1 ≤ 7) ∧ (0 ≤ a.2.2.2) ∧ (a.2.2.2 ≤ 100)
def post_G_X11_dayBy : Int × Int × Int × Int → Me_t → Int → Me_t → Prop := fun a σ z σ' => (z = dayF_ (σ 87) a.1 a.2.1 a.2.2.1 a.2.2.2) ∧ (0 ≤ z ∧ z ≤ 4000) ∧ (σ = σ')
set_option maxHeartbeats 1500000 in
set_option maxRecDepth 100000 in
theorem ct_G_X11_dayBy (l : Launch) : CT_ l yX11_dayBy cX11_dayBy 7 (some .int) 3 69 as_G_X11_dayBy (rmI_) pre_G_X11_dayBy post_G_X11_dayBy := by
  refine ct_of (by decide) (fun _ => Nat.le_of_ble_eq_true rfl) ?_
  intro X G Q ad σ a hl hR E hG R hM hv hp
  obtain ⟨a1, a2, a3, a4⟩ := a
  have r_a1 : -2147483648 ≤ a1 ∧ a1 ≤ 2147483647 := hv (0, a1) (List.mem_of_getElem? (i := 1) rfl)
  have r_a2 : -2147483648 ≤ a2 ∧ a2 ≤ 2147483647 := hv (0, a2) (List.mem_of_getElem? (i := 2) rfl)
  have r_a3 : -2147483648 ≤ a3 ∧ a3 ≤ 2147483647 := hv (0, a3) (List.mem_of_getElem? (i := 3) rfl)
  have r_a4 : -2147483648 ≤ a4 ∧ a4 ≤ 2147483647 := hv (0, a4) (List.mem_of_getElem? (i := 4) rfl)
  have hp0 : BW σ 87 := hp.1
  have hp1 : 0 ≤ a1 := hp.2.1
  have hp2 : a1 ≤ 2 := hp.2.2.1
  have hp3 : 0 ≤ a2 := hp.2.2.2.1
  have hp4 : a2 ≤ 1999 := hp.2.2.2.2.1
  have hp5 : 0 ≤ a3 := hp.2.2.2.2.2.1
  have hp6 : a3 ≤ 7 := hp.2.2.2.2.2.2.1
  have hp7 : 0 ≤ a4 := hp.2.2.2.2.2.2.2.1
  have hp8 : a4 ≤ 100 := hp.2.2.2.2.2.2.2.2
  have B := @bk_ X G Q 0 0 ad SHS_ RX11 cX11_dayBy 7 (some .int) flX11 plX11 knX11 [(200, 3, TR_ as_G_X11_of_0 (rmI_) pre_G_X11_of_0 post_G_X11_of_0), (208, 4, TR_ as_G_X11_lengthOf (rmI_) pre_G_X11_lengthOf post_G_X11_lengthOf), (550, 3, TR_ as_G_X11_yearLength (rmI_) pre_G_X11_yearLength post_G_X11_yearLength)] _ _ none kX11_dayBy [14, 49] flX11_ok plX11_ok knX11_ok eX11_dayBy oX11_dayBy
    (List.forall_mem_cons.mpr ⟨cok_v (t := 32) (c := 11) (N := 39) (n := 2) (idx := 100) E (ct_G_X11_of_0 X.2.1) (by rw [hR]; decide) (Nat.zero_le _) (Nat.zero_le _) hG rfl rfl ⟨rfl, by decide, by decide, by decide⟩ (fun _ => ⟨_, _, rfl, rfl⟩) wl_X11_100 wi_X11_of ws_X11_of wn_X11 wc_X11_of, List.forall_mem_cons.mpr ⟨cok_v (t := 32) (c := 11) (N := 39) (n := 3) (idx := 104) E (ct_G_X11_lengthOf X.2.1) (by rw [hR]; decide) (Nat.zero_le _) (Nat.zero_le _) hG rfl rfl ⟨rfl, by decide, by decide, by decide⟩ (fun _ => ⟨_, _, rfl, rfl⟩) wl_X11_104 wi_X11_lengthOf ws_X11_lengthOf wn_X11 wc_X11_lengthOf, List.forall_mem_cons.mpr ⟨cok_v (t := 32) (c := 11) (N := 39) (n := 2) (idx := 275) E (ct_G_X11_yearLength X.2.1) (by rw [hR]; decide) (Nat.zero_le _) (Nat.zero_le _) hG rfl rfl ⟨rfl, by decide, by decide, by decide⟩ (fun _ => ⟨_, _, rfl, rfl⟩) wl_X11_275 wi_X11_yearLength ws_X11_yearLength wn_X11 wc_X11_yearLength, fun _ h => absurd h List.not_mem_nil⟩⟩⟩) R sok_no E
  show WP_ X G Q 0 0 ad SHS_ σ 0 [(42, 86), (0, a1), (0, a2), (0, a3), (0, a4), (9, 0), (9, 0)] []
  refine B rfl ?_
  refine Exists.intro a1 (And.intro rfl (And.intro (And.intro hp0 (And.intro (by show 0 ≤ a1; omega) (by show a1 ≤ 2; omega))) ?_))
  rintro z1 m_ h2
  obtain rfl : σ = m_ := h2.2.2
  have h3 : z1 = σ 87 (6 + 15 * a1 + 0) := h2.1
  have h4 : 0 ≤ z1 ∧ z1 ≤ 999 := h2.2.1
  refine And.intro (by omega) ?_
  show WP_ X G Q 0 0 ad SHS_ σ 14 [(42, 86), (0, a1), (0, a2), (0, a3), (0, a4), (0, z1 + a4), (0, 0)] []
  refine wdrop_ (L' := [(42, 86), (0, a1), (0, a2), (0, a3), (9, 0), (0, z1 + a4), (0, 0)]) ⟨Or.inr rfl, ⟨Or.inr rfl, ⟨Or.inr rfl, ⟨Or.inr rfl, ⟨Or.inl rfl, ⟨Or.inr rfl, ⟨Or.inr rfl, trivial⟩⟩⟩⟩⟩⟩⟩ ?_
  have lp_14 : ∀ (nq_ : Nat) (v5 : Int) (v6 : Int), (0 ≤ v6) → (v6 ≤ a2) → (0 ≤ v5) → (v5 ≤ 2552) → (dl_ (σ 87) a1 a2 (a2 - v6).toNat v6 v5 = dl_ (σ 87) a1 a2 (a2).toNat 0 (σ 87 (6 + 15 * a1 + 0) + a4)) → (a2 - v6 : Int).toNat < nq_ → WP_ X G Q 0 0 ad SHS_ σ 14 [(42, 86), (0, a1), (0, a2), (0, a3), (9, 0), (0, v5), (0, v6)] [] := by
    intro nq_
    induction nq_ with
    | zero => intros; omega
    | succ nq_ ih_14 =>
      intro v5 v6 hi14_0 hi14_1 hi14_2 hi14_3 hi14_4 hm14
      refine B rfl ?_
      refine And.intro (fun h5 => ?_) (fun h5 => ?_)
      · skip
        refine B rfl ?_
        have lp_49 : ∀ (nq_ : Nat) (v5 : Int) (v6 : Int), (0 ≤ v6) → (v6 ≤ a3) → (0 ≤ v5) → (v5 ≤ 2552 + 69 * v6) → (v5 = dl_ (σ 87) a1 a2 (a2).toNat 0 (σ 87 (6 + 15 * a1 + 0) + a4) + ylN_ (σ 87) a1 a2 (v6 : Int).toNat) → (a3 - v6 : Int).toNat < nq_ → WP_ X G Q 0 0 ad SHS_ σ 49 [(42, 86), (0, a1), (0, a2), (0, a3), (9, 0), (0, v5), (0, v6)] [] := by
          intro nq_
          induction nq_ with
          | zero => intros; omega
          | succ nq_ ih_49 =>
            intro v5 v6 hi49_0 hi49_1 hi49_2 hi49_3 hi49_4 hm49
            refine B rfl ?_
            refine And.intro (fun h6 => ?_) (fun h6 => ?_)
            · skip
              refine B rfl ?_
              refine Exists.intro _ (And.intro rfl ?_)
              exact (And.intro (by show v5 = dayF_ (σ 87) a1 a2 a3 a4; unfold dayF_; rw [show a3 = v6 by omega]; exact hi49_4) (And.intro (by show 0 ≤ v5 ∧ v5 ≤ 4000; omega) rfl))
            · skip
              refine Exists.intro (a1, v6, a2) (And.intro rfl (And.intro (And.intro hp0 (And.intro (by show 0 ≤ a1; omega) (And.intro (by show a1 ≤ 2; omega) (And.intro (by show 0 ≤ v6; omega) (And.intro (by show v6 ≤ 7; omega) (by show 0 ≤ a2; omega)))))) ?_))
              rintro z7 m_ h8
              obtain rfl : σ = m_ := h8.2.2
              have h9 : z7 = lenF_ (σ 87) a1 v6 a2 := h8.1
              have h10 : 0 ≤ z7 ∧ z7 ≤ 69 := h8.2.1
              refine And.intro (by omega) ?_
              refine And.intro (by omega) ?_
              exact ih_49 (v5 + z7) (v6 + 1) (by show 0 ≤ (v6 + 1); omega) (by show (v6 + 1) ≤ a3; omega) (by show 0 ≤ (v5 + z7); omega) (by show (v5 + z7) ≤ 2552 + 69 * (v6 + 1); omega) (by show (v5 + z7) = dl_ (σ 87) a1 a2 (a2).toNat 0 (σ 87 (6 + 15 * a1 + 0) + a4) + ylN_ (σ 87) a1 a2 ((v6 + 1) : Int).toNat; rw [ylN_s (by omega)]; omega) (by omega)
        exact lp_49 ((a3 - 0 : Int).toNat + 1) v5 0 (by show 0 ≤ 0; omega) (by show 0 ≤ a3; omega) (by show 0 ≤ v5; omega) (by show v5 ≤ 2552 + 69 * 0; omega) (by show v5 = dl_ (σ 87) a1 a2 (a2).toNat 0 (σ 87 (6 + 15 * a1 + 0) + a4) + ylN_ (σ 87) a1 a2 (0 : Int).toNat; rw [← hi14_4, dl_e (by omega)]; exact (Int.add_zero _).symm) (by omega)
      · skip
        refine And.intro (fun h11 => ?_) (fun h11 => ?_)
        · skip
          refine B rfl ?_
          have lp_49 : ∀ (nq_ : Nat) (v5_1 : Int) (v6_1 : Int), (0 ≤ v6_1) → (v6_1 ≤ a3) → (0 ≤ v5_1) → (v5_1 ≤ 2552 + 69 * v6_1) → (v5_1 = dl_ (σ 87) a1 a2 (a2).toNat 0 (σ 87 (6 + 15 * a1 + 0) + a4) + ylN_ (σ 87) a1 a2 (v6_1 : Int).toNat) → (a3 - v6_1 : Int).toNat < nq_ → WP_ X G Q 0 0 ad SHS_ σ 49 [(42, 86), (0, a1), (0, a2), (0, a3), (9, 0), (0, v5_1), (0, v6_1)] [] := by
            intro nq_
            induction nq_ with
            | zero => intros; omega
            | succ nq_ ih_49 =>
              intro v5_1 v6_1 hi49_0 hi49_1 hi49_2 hi49_3 hi49_4 hm49
              refine B rfl ?_
              refine And.intro (fun h12 => ?_) (fun h12 => ?_)
              · skip
                refine B rfl ?_
                refine Exists.intro _ (And.intro rfl ?_)
                exact (And.intro (by show v5_1 = dayF_ (σ 87) a1 a2 a3 a4; unfold dayF_; rw [show a3 = v6 by omega]; exact hi49_4) (And.intro (by show 0 ≤ v5_1 ∧ v5_1 ≤ 4000; omega) rfl))
              · skip
                refine Exists.intro (a1, v6_1, a2) (And.intro rfl (And.intro (And.intro hp0 (And.intro (by show 0 ≤ a1; omega) (And.intro (by show a1 ≤ 2; omega) (And.intro (by show 0 ≤ v6_1; omega) (And.intro (by show v6_1 ≤ 7; omega) (by show 0 ≤ a2; omega)))))) ?_))
                rintro z13 m_ h14
                obtain rfl : σ = m_ := h14.2.2
                have h15 : z13 = lenF_ (σ 87) a1 v6_1 a2 := h14.1
                have h16 : 0 ≤ z13 ∧ z13 ≤ 69 := h14.2.1
                refine And.intro (by omega) ?_
                refine And.intro (by omega) ?_
                exact ih_49 (v5_1 + z13) (v6_1 + 1) (by show 0 ≤ (v6_1 + 1); omega) (by show (v6_1 + 1) ≤ a3; omega) (by show 0 ≤ (v5_1 + z13); omega) (by show (v5_1 + z13) ≤ 2552 + 69 * (v6_1 + 1); omega) (by show (v5_1 + z13) = dl_ (σ 87) a1 a2 (a2).toNat 0 (σ 87 (6 + 15 * a1 + 0) + a4) + ylN_ (σ 87) a1 a2 ((v6_1 + 1) : Int).toNat; rw [ylN_s (by omega)]; omega) (by omega)
          exact lp_49 ((a3 - 0 : Int).toNat + 1) v5 0 (by show 0 ≤ 0; omega) (by show 0 ≤ a3; omega) (by show 0 ≤ v5; omega) (by show v5 ≤ 2552 + 69 * 0; omega) (by show v5 = dl_ (σ 87) a1 a2 (a2).toNat 0 (σ 87 (6 + 15 * a1 + 0) + a4) + ylN_ (σ 87) a1 a2 (0 : Int).toNat; rw [← hi14_4, dl_e (by omega)]; exact (Int.add_zero _).symm) (by omega)
        · skip
          refine Exists.intro (a1, v6) (And.intro rfl (And.intro (And.intro hp0 (And.intro (by show 0 ≤ a1; omega) (And.intro (by show a1 ≤ 2; omega) (by show 0 ≤ v6; omega)))) ?_))
          rintro z17 m_ h18
          obtain rfl : σ = m_ := h18.2.2
          have h19 : z17 = ylF_ (σ 87) a1 v6 := h18.1
          have h20 : 0 ≤ z17 ∧ z17 ≤ 552 := h18.2.1
          refine And.intro (by omega) ?_
          refine And.intro (by omega) ?_
          exact ih_14 (v5 + z17) (v6 + 1) (by show 0 ≤ (v6 + 1); omega) (by show (v6 + 1) ≤ a2; omega) (by show 0 ≤ (v5 + z17); omega) (by show (v5 + z17) ≤ 2552; omega) (by show dl_ (σ 87) a1 a2 (a2 - (v6 + 1)).toNat (v6 + 1) (v5 + z17) = dl_ (σ 87) a1 a2 (a2).toNat 0 (σ 87 (6 + 15 * a1 + 0) + a4); subst_vars; rw [← dl_s (by omega) (by omega)]; exact hi14_4) (by omega)
  exact lp_14 ((a2 - 0 : Int).toNat + 1) (z1 + a4) 0 (by show 0 ≤ 0; omega) (by show 0 ≤ a2; omega) (by show 0 ≤ (z1 + a4); omega) (by show (z1 + a4) ≤ 2552; omega) (by show dl_ (σ 87) a1 a2 (a2 - 0).toNat 0 (z1 + a4) = dl_ (σ 87) a1 a2 (a2).toNat 0 (σ 87 (6 + 15 * a1 + 0) + a4); subst_vars; rw [Int.sub_zero]) (by omega)
def as_G_X11_numberAt : Int × Int → List Sv_t := fun a => [(42, 86), (0, a.1), (0, a.2)]
def pre_G_X11_numberAt : Int × Int → Me_t → Prop := fun a σ => (0 ≤ a.1) ∧ (a.1 ≤ 3) ∧ (0 ≤ a.2) ∧ (a.2 ≤ 59)
def post_G_X11_numberAt : Int × Int → Me_t → Int → Me_t → Prop := fun a σ z σ' => (z = σ 104 (60 * a.1 + a.2)) ∧ (σ = σ')
set_option maxHeartbeats 1500000 in
set_option maxRecDepth 100000 in
theorem ct_G_X11_numberAt (l : Launch) : CT_ l yX11_numberAt cX11_numberAt 3 (some .long) 0 0 as_G_X11_numberAt (rmL_) pre_G_X11_numberAt post_G_X11_numberAt := by
  refine ct_of (by decide) (fun _ => Nat.le_of_ble_eq_true rfl) ?_
  intro X G Q ad σ a hl hR E hG R hM hv hp
  obtain ⟨a1, a2⟩ := a
  have r_a1 : -2147483648 ≤ a1 ∧ a1 ≤ 2147483647 := hv (0, a1) (List.mem_of_getElem? (i := 1) rfl)
  have r_a2 : -2147483648 ≤ a2 ∧ a2 ≤ 2147483647 := hv (0, a2) (List.mem_of_getElem? (i := 2) rfl)
  have hp0 : 0 ≤ a1 := hp.1
  have hp1 : a1 ≤ 3 := hp.2.1
  have hp2 : 0 ≤ a2 := hp.2.2.1
  have hp3 : a2 ≤ 59 := hp.2.2.2
  have B := @bk_ X G Q 0 0 ad SHS_ RX11 cX11_numberAt 3 (some .long) flX11 plX11 knX11 [] _ _ none kX11_numberAt [] flX11_ok plX11_ok knX11_ok eX11_numberAt oX11_numberAt
    (fun _ h => absurd h List.not_mem_nil) R sok_no E
  show WP_ X G Q 0 0 ad SHS_ σ 0 [(42, 86), (0, a1), (0, a2)] []
  refine B rfl ?_
  refine And.intro (by omega) ?_
  refine And.intro (by omega) ?_
  refine And.intro (by omega) ?_
  refine Exists.intro _ (And.intro rfl ?_)
  exact (And.intro (by show (σ 104 ((60 * a1) + a2)) = σ 104 (60 * a1 + a2); omega) rfl)
def as_G_X11_intAt : Int × Int → List Sv_t := fun a => [(42, 86), (0, a.1), (0, a.2)]
def pre_G_X11_intAt : Int × Int → Me_t → Prop := fun a σ => (0 ≤ a.1) ∧ (a.1 ≤ 3) ∧ (0 ≤ a.2) ∧ (a.2 ≤ 59)
def post_G_X11_intAt : Int × Int → Me_t → Int → Me_t → Prop := fun a σ z σ' => (z = l2i_ (σ 104 (60 * a.1 + a.2))) ∧ (-2147483648 ≤ z ∧ z ≤ 2147483647) ∧ (-2147483648 ≤ σ 104 (60 * a.1 + a.2) ∧ σ 104 (60 * a.1 + a.2) ≤ 2147483647 → z = σ 104 (60 * a.1 + a.2)) ∧ (σ = σ')
set_option maxHeartbeats 1500000 in
set_option maxRecDepth 100000 in
theorem ct_G_X11_intAt (l : Launch) : CT_ l yX11_intAt cX11_intAt 3 (some .int) 1 22 as_G_X11_intAt (rmI_) pre_G_X11_intAt post_G_X11_intAt := by
  refine ct_of (by decide) (fun _ => Nat.le_of_ble_eq_true rfl) ?_
  intro X G Q ad σ a hl hR E hG R hM hv hp
  obtain ⟨a1, a2⟩ := a
  have r_a1 : -2147483648 ≤ a1 ∧ a1 ≤ 2147483647 := hv (0, a1) (List.mem_of_getElem? (i := 1) rfl)
  have r_a2 : -2147483648 ≤ a2 ∧ a2 ≤ 2147483647 := hv (0, a2) (List.mem_of_getElem? (i := 2) rfl)
  have hp0 : 0 ≤ a1 := hp.1
  have hp1 : a1 ≤ 3 := hp.2.1
  have hp2 : 0 ≤ a2 := hp.2.2.1
  have hp3 : a2 ≤ 59 := hp.2.2.2
  have B := @bk_ X G Q 0 0 ad SHS_ RX11 cX11_intAt 3 (some .int) flX11 plX11 knX11 [(708, 3, TR_ as_G_X11_numberAt (rmL_) pre_G_X11_numberAt post_G_X11_numberAt)] _ _ none kX11_intAt [] flX11_ok plX11_ok knX11_ok eX11_intAt oX11_intAt
    (List.forall_mem_cons.mpr ⟨cok_v (t := 32) (c := 11) (N := 39) (n := 2) (idx := 354) E (ct_G_X11_numberAt X.2.1) (by rw [hR]; decide) (Nat.zero_le _) (Nat.zero_le _) hG rfl rfl ⟨rfl, by decide, by decide, by decide⟩ (fun _ => ⟨_, _, rfl, rfl⟩) wl_X11_354 wi_X11_numberAt ws_X11_numberAt wn_X11 wc_X11_numberAt, fun _ h => absurd h List.not_mem_nil⟩) R sok_no E
  show WP_ X G Q 0 0 ad SHS_ σ 0 [(42, 86), (0, a1), (0, a2)] []
  refine B rfl ?_
  refine Exists.intro (a1, a2) (And.intro rfl (And.intro (And.intro (by show 0 ≤ a1; omega) (And.intro (by show a1 ≤ 3; omega) (And.intro (by show 0 ≤ a2; omega) (by show a2 ≤ 59; omega)))) ?_))
  rintro z1 m_ h2
  obtain rfl : σ = m_ := h2.2
  have h3 : z1 = σ 104 (60 * a1 + a2) := h2.1
  have q4 : z1 = σ 104 (60 * a1 + a2) := by omega
  subst q4
  have q5 := l2i_t (x := σ 104 (60 * a1 + a2))
  refine Exists.intro _ (And.intro rfl ?_)
  exact (And.intro (by show (l2i_ (σ 104 (60 * a1 + a2))) = l2i_ (σ 104 (60 * a1 + a2)); omega) (And.intro (by show -2147483648 ≤ (l2i_ (σ 104 (60 * a1 + a2))) ∧ (l2i_ (σ 104 (60 * a1 + a2))) ≤ 2147483647; omega) (And.intro (by show -2147483648 ≤ σ 104 (60 * a1 + a2) ∧ σ 104 (60 * a1 + a2) ≤ 2147483647 → (l2i_ (σ 104 (60 * a1 + a2))) = σ 104 (60 * a1 + a2); omega) rfl)))
def as_G_X11_dayAt : Int × Int → List Sv_t := fun a => [(42, 86), (0, a.1), (0, a.2)]
def pre_G_X11_dayAt : Int × Int → Me_t → Prop := fun a σ => (BW σ 87) ∧ (0 ≤ a.1) ∧ (a.1 ≤ 3) ∧ (0 ≤ a.2) ∧ (a.2 ≤ 14) ∧ (0 ≤ l2i_ (σ 104 (60 * a.1 + 4 * a.2))) ∧ (l2i_ (σ 104 (60 * a.1 + 4 * a.2)) ≤ 2) ∧ (0 ≤ l2i_ (σ 104 (60 * a.1 + (4 * a.2 + 1)))) ∧ (l2i_ (σ 104 (60 * a.1 + (4 * a.2 + 1))) ≤ 1999) ∧ (0 ≤ l2i_ (σ 104 (60 * a.1 + (4 * a.2 + 2)))) ∧ (l2i_ (σ 104 (60 * a.1 + (4 * a.2 + 2))) ≤ 7) ∧ (0 ≤ l2i_ (σ 104 (60 * a.1 + (4 * a.2 + 3)))) ∧ (l2i_ (σ 104 (60 * a.1 + (4 * a.2 + 3))) ≤ 68)
def post_G_X11_dayAt : Int × Int → Me_t → Int → Me_t → Prop := fun a σ z σ' => (z = dayF_ (σ 87) (l2i_ (σ 104 (60 * a.1 + 4 * a.2))) (l2i_ (σ 104 (60 * a.1 + (4 * a.2 + 1)))) (l2i_ (σ 104 (60 * a.1 + (4 * a.2 + 2)))) (l2i_ (σ 104 (60 * a.1 + (4 * a.2 + 3))))) ∧ (0 ≤ z ∧ z ≤ 4000) ∧ (σ = σ')
set_option maxHeartbeats 1500000 in
set_option maxRecDepth 100000 in
theorem ct_G_X11_dayAt (l : Launch) : CT_ l yX11_dayAt cX11_dayAt 3 (some .int) 4 95 as_G_X11_dayAt (rmI_) pre_G_X11_dayAt post_G_X11_dayAt := by
  refine ct_of (by decide) (fun _ => Nat.le_of_ble_eq_true rfl) ?_
  intro X G Q ad σ a hl hR E hG R hM hv hp
  obtain ⟨a1, a2⟩ := a
  have r_a1 : -2147483648 ≤ a1 ∧ a1 ≤ 2147483647 := hv (0, a1) (List.mem_of_getElem? (i := 1) rfl)
  have r_a2 : -2147483648 ≤ a2 ∧ a2 ≤ 2147483647 := hv (0, a2) (List.mem_of_getElem? (i := 2) rfl)
  have hp0 : BW σ 87 := hp.1
  have hp1 : 0 ≤ a1 := hp.2.1
  have hp2 : a1 ≤ 3 := hp.2.2.1
  have hp3 : 0 ≤ a2 := hp.2.2.2.1
  have hp4 : a2 ≤ 14 := hp.2.2.2.2.1
  have hp5 : 0 ≤ l2i_ (σ 104 (60 * a1 + 4 * a2)) := hp.2.2.2.2.2.1
  have hp6 : l2i_ (σ 104 (60 * a1 + 4 * a2)) ≤ 2 := hp.2.2.2.2.2.2.1
  have hp7 : 0 ≤ l2i_ (σ 104 (60 * a1 + (4 * a2 + 1))) := hp.2.2.2.2.2.2.2.1
  have hp8 : l2i_ (σ 104 (60 * a1 + (4 * a2 + 1))) ≤ 1999 := hp.2.2.2.2.2.2.2.2.1
  have hp9 : 0 ≤ l2i_ (σ 104 (60 * a1 + (4 * a2 + 2))) := hp.2.2.2.2.2.2.2.2.2.1
  have hp10 : l2i_ (σ 104 (60 * a1 + (4 * a2 + 2))) ≤ 7 := hp.2.2.2.2.2.2.2.2.2.2.1
  have hp11 : 0 ≤ l2i_ (σ 104 (60 * a1 + (4 * a2 + 3))) := hp.2.2.2.2.2.2.2.2.2.2.2.1
  have hp12 : l2i_ (σ 104 (60 * a1 + (4 * a2 + 3))) ≤ 68 := hp.2.2.2.2.2.2.2.2.2.2.2.2
  have B := @bk_ X G Q 0 0 ad SHS_ RX11 cX11_dayAt 3 (some .int) flX11 plX11 knX11 [(716, 3, TR_ as_G_X11_intAt (rmI_) pre_G_X11_intAt post_G_X11_intAt), (564, 5, TR_ as_G_X11_dayBy (rmI_) pre_G_X11_dayBy post_G_X11_dayBy)] _ _ none kX11_dayAt [] flX11_ok plX11_ok knX11_ok eX11_dayAt oX11_dayAt
    (List.forall_mem_cons.mpr ⟨cok_v (t := 32) (c := 11) (N := 39) (n := 2) (idx := 358) E (ct_G_X11_intAt X.2.1) (by rw [hR]; decide) (Nat.zero_le _) (Nat.zero_le _) hG rfl rfl ⟨rfl, by decide, by decide, by decide⟩ (fun _ => ⟨_, _, rfl, rfl⟩) wl_X11_358 wi_X11_intAt ws_X11_intAt wn_X11 wc_X11_intAt, List.forall_mem_cons.mpr ⟨cok_v (t := 32) (c := 11) (N := 39) (n := 4) (idx := 282) E (ct_G_X11_dayBy X.2.1) (by rw [hR]; decide) (Nat.zero_le _) (Nat.zero_le _) hG rfl rfl ⟨rfl, by decide, by decide, by decide⟩ (fun _ => ⟨_, _, rfl, rfl⟩) wl_X11_282 wi_X11_dayBy ws_X11_dayBy wn_X11 wc_X11_dayBy, fun _ h => absurd h List.not_mem_nil⟩⟩) R sok_no E
  show WP_ X G Q 0 0 ad SHS_ σ 0 [(42, 86), (0, a1), (0, a2)] []
  refine B rfl ?_
  refine And.intro (by omega) ?_
  refine Exists.intro (a1, 4 * a2) (And.intro rfl (And.intro (And.intro (by show 0 ≤ a1; omega) (And.intro (by show a1 ≤ 3; omega) (And.intro (by show 0 ≤ (4 * a2); omega) (by show (4 * a2) ≤ 59; omega)))) ?_))
  rintro z1 m_ h2
  obtain rfl : σ = m_ := h2.2.2.2
  have h3 : z1 = l2i_ (σ 104 (60 * a1 + (4 * a2))) := h2.1
  have h4 : -2147483648 ≤ z1 ∧ z1 ≤ 2147483647 := h2.2.1
  have h5 : -2147483648 ≤ σ 104 (60 * a1 + (4 * a2)) ∧ σ 104 (60 * a1 + (4 * a2)) ≤ 2147483647 → z1 = σ 104 (60 * a1 + (4 * a2)) := h2.2.2.1
  have q6 : z1 = l2i_ (σ 104 (60 * a1 + (4 * a2))) := by omega
  subst q6
  refine And.intro (by omega) ?_
  refine And.intro (by omega) ?_
  refine Exists.intro (a1, (4 * a2) + 1) (And.intro rfl (And.intro (And.intro (by show 0 ≤ a1; omega) (And.intro (by show a1 ≤ 3; omega) (And.intro (by show 0 ≤ ((4 * a2) + 1); omega) (by show ((4 * a2) + 1) ≤ 59; omega)))) ?_))
  rintro z7 m_ h8
  obtain rfl : σ = m_ := h8.2.2.2
  have h9 : z7 = l2i_ (σ 104 (60 * a1 + ((4 * a2) + 1))) := h8.1
  have h10 : -2147483648 ≤ z7 ∧ z7 ≤ 2147483647 := h8.2.1
  have h11 : -2147483648 ≤ σ 104 (60 * a1 + ((4 * a2) + 1)) ∧ σ 104 (60 * a1 + ((4 * a2) + 1)) ≤ 2147483647 → z7 = σ 104 (60 * a1 + ((4 * a2) + 1)) := h8.2.2.1
  have q12 : z7 = l2i_ (σ 104 (60 * a1 + ((4 * a2) + 1))) := by omega
  subst q12
  refine And.intro (by omega) ?_
  refine And.intro (by omega) ?_
  refine Exists.intro (a1, (4 * a2) + 2) (And.intro rfl (And.intro (And.intro (by show 0 ≤ a1; omega) (And.intro (by show a1 ≤ 3; omega) (And.intro (by show 0 ≤ ((4 * a2) + 2); omega) (by show ((4 * a2) + 2) ≤ 59; omega)))) ?_))
  rintro z13 m_ h14
  obtain rfl : σ = m_ := h14.2.2.2
  have h15 : z13 = l2i_ (σ 104 (60 * a1 + ((4 * a2) + 2))) := h14.1
  have h16 : -2147483648 ≤ z13 ∧ z13 ≤ 2147483647 := h14.2.1
  have h17 : -2147483648 ≤ σ 104 (60 * a1 + ((4 * a2) + 2)) ∧ σ 104 (60 * a1 + ((4 * a2) + 2)) ≤ 2147483647 → z13 = σ 104 (60 * a1 + ((4 * a2) + 2)) := h14.2.2.1
  have q18 : z13 = l2i_ (σ 104 (60 * a1 + ((4 * a2) + 2))) := by omega
  subst q18
  refine And.intro (by omega) ?_
  refine And.intro (by omega) ?_
  refine Exists.intro (a1, (4 * a2) + 3) (And.intro rfl (And.intro (And.intro (by show 0 ≤ a1; omega) (And.intro (by show a1 ≤ 3; omega) (And.intro (by show 0 ≤ ((4 * a2) + 3); omega) (by show ((4 * a2) + 3) ≤ 59; omega)))) ?_))
  rintro z19 m_ h20
  obtain rfl : σ = m_ := h20.2.2.2
  have h21 : z19 = l2i_ (σ 104 (60 * a1 + ((4 * a2) + 3))) := h20.1
  have h22 : -2147483648 ≤ z19 ∧ z19 ≤ 2147483647 := h20.2.1
  have h23 : -2147483648 ≤ σ 104 (60 * a1 + ((4 * a2) + 3)) ∧ σ 104 (60 * a1 + ((4 * a2) + 3)) ≤ 2147483647 → z19 = σ 104 (60 * a1 + ((4 * a2) + 3)) := h20.2.2.1
  have q24 : z19 = l2i_ (σ 104 (60 * a1 + ((4 * a2) + 3))) := by omega
  subst q24
  refine Exists.intro (l2i_ (σ 104 (60 * a1 + (4 * a2))), l2i_ (σ 104 (60 * a1 + ((4 * a2) + 1))), l2i_ (σ 104 (60 * a1 + ((4 * a2) + 2))), l2i_ (σ 104 (60 * a1 + ((4 * a2) + 3)))) (And.intro rfl (And.intro (And.intro hp0 (And.intro (by show 0 ≤ (l2i_ (σ 104 (60 * a1 + (4 * a2)))); omega) (And.intro (by show (l2i_ (σ 104 (60 * a1 + (4 * a2)))) ≤ 2; omega) (And.intro (by show 0 ≤ (l2i_ (σ 104 (60 * a1 + ((4 * a2) + 1)))); omega) (And.intro (by show (l2i_ (σ 104 (60 * a1 + ((4 * a2) + 1)))) ≤ 1999; omega) (And.intro (by show 0 ≤ (l2i_ (σ 104 (60 * a1 + ((4 * a2) + 2)))); omega) (And.intro (by show (l2i_ (σ 104 (60 * a1 + ((4 * a2) + 2)))) ≤ 7; omega) (And.intro (by show 0 ≤ (l2i_ (σ 104 (60 * a1 + ((4 * a2) + 3)))); omega) (by show (l2i_ (σ 104 (60 * a1 + ((4 * a2) + 3)))) ≤ 100; omega))))))))) ?_))
  rintro z25 m_ h26
  obtain rfl : σ = m_ := h26.2.2
  have h27 : z25 = dayF_ (σ 87) (l2i_ (σ 104 (60 * a1 + (4 * a2)))) (l2i_ (σ 104 (60 * a1 + ((4 * a2) + 1)))) (l2i_ (σ 104 (60 * a1 + ((4 * a2) + 2)))) (l2i_ (σ 104 (60 * a1 + ((4 * a2) + 3)))) := h26.1
  have h28 : 0 ≤ z25 ∧ z25 ≤ 4000 := h26.2.1
  refine Exists.intro _ (And.intro rfl ?_)
  exact (And.intro (by show z25 = dayF_ (σ 87) (l2i_ (σ 104 (60 * a1 + 4 * a2))) (l2i_ (σ 104 (60 * a1 + (4 * a2 + 1)))) (l2i_ (σ 104 (60 * a1 + (4 * a2 + 2)))) (l2i_ (σ 104 (60 * a1 + (4 * a2 + 3)))); omega) (And.intro (by show 0 ≤ z25 ∧ z25 ≤ 4000; omega) rfl))
def as_G_X11_holdOn : Int → List Sv_t := fun a => [(42, 86), (0, a)]
def pre_G_X11_holdOn : Int → Me_t → Prop := fun a σ => (BW σ 87)
def post_G_X11_holdOn : Int → Me_t → Int → Me_t → Prop := fun a σ z σ' => (0 ≤ z ∧ z ≤ 12) ∧ (σ = σ')
set_option maxHeartbeats 1500000 in
set_option maxRecDepth 100000 in
theorem ct_G_X11_holdOn (l : Launch) : CT_ l yX11_holdOn cX11_holdOn 4 (some .int) 1 25 as_G_X11_holdOn (rmI_) pre_G_X11_holdOn post_G_X11_holdOn := by
  refine ct_of (by decide) (fun _ => Nat.le_of_ble_eq_true rfl) ?_
  intro X G Q ad σ a hl hR E hG R hM hv hp
  obtain ⟨a1, rfl⟩ : ∃ q : Int, q = a := ⟨_, rfl⟩
  have r_a1 : -2147483648 ≤ a1 ∧ a1 ≤ 2147483647 := hv (0, a1) (List.mem_of_getElem? (i := 1) rfl)
  have hp0 : BW σ 87 := hp
  have B := @bk_ X G Q 0 0 ad SHS_ RX11 cX11_holdOn 4 (some .int) flX11 plX11 knX11 [(490, 3, TR_ as_G_X11_ofTruce (rmI_) pre_G_X11_ofTruce post_G_X11_ofTruce), (159, 3, TR_ as_G_X11_in (rmI_) pre_G_X11_in post_G_X11_in)] _ _ none kX11_holdOn [4] flX11_ok plX11_ok knX11_ok eX11_holdOn oX11_holdOn
    (List.forall_mem_cons.mpr ⟨cok_v (t := 32) (c := 11) (N := 39) (n := 2) (idx := 245) E (ct_G_X11_ofTruce X.2.1) (by rw [hR]; decide) (Nat.zero_le _) (Nat.zero_le _) hG rfl rfl ⟨rfl, by decide, by decide, by decide⟩ (fun _ => ⟨_, _, rfl, rfl⟩) wl_X11_245 wi_X11_ofTruce ws_X11_ofTruce wn_X11 wc_X11_ofTruce, List.forall_mem_cons.mpr ⟨cok_s (n := 3) (idx := 79) E (ct_G_X11_in X.2.1) (by rw [hR]; decide) (Nat.zero_le _) (Nat.zero_le _) hG ⟨by decide, by decide, by decide⟩ (fun _ => rfl) wl_X11_79 wt_X11_in wn_X11 wc_X11_in, fun _ h => absurd h List.not_mem_nil⟩⟩) R sok_no E
  show WP_ X G Q 0 0 ad SHS_ σ 0 [(42, 86), (0, a1), (9, 0), (9, 0)] []
  refine B rfl ?_
  have lp_4 : ∀ (nq_ : Nat) (v2 : Int) (v3 : Int), (0 ≤ v3) → (v3 ≤ 12) → (0 ≤ v2) → (v2 ≤ v3) → (12 - v3 : Int).toNat < nq_ → WP_ X G Q 0 0 ad SHS_ σ 4 [(42, 86), (0, a1), (0, v2), (0, v3)] [] := by
    intro nq_
    induction nq_ with
    | zero => intros; omega
    | succ nq_ ih_4 =>
      intro v2 v3 hi4_0 hi4_1 hi4_2 hi4_3 hm4
      refine B rfl ?_
      refine And.intro (by omega) ?_
      intro z1 ez1 hz1
      have hz1 : ((-1) : Int) ≤ z1 ∧ z1 ≤ (1999 : Int) := hz1
      have b2 := wrh_ hp0 (i := 3) (by omega)
      have b2 : (0 : Int) ≤ σ 87 3 ∧ σ 87 3 ≤ (12 : Int) := b2
      refine And.intro (fun h3 => ?_) (fun h3 => ?_)
      · skip
        refine B rfl ?_
        refine Exists.intro _ (And.intro rfl ?_)
        exact (And.intro (by show 0 ≤ v2 ∧ v2 ≤ 12; omega) rfl)
      · skip
        refine Exists.intro (v3, 1) (And.intro rfl (And.intro (And.intro hp0 (And.intro (by show 0 ≤ v3; omega) (And.intro (by show v3 ≤ 11; omega) (And.intro (by show 0 ≤ 1; omega) (by show 1 ≤ 2; omega))))) ?_))
        rintro z4 m_ h5
        obtain rfl : σ = m_ := h5.2
        have h6 : 0 ≤ z4 ∧ z4 ≤ 1999 := h5.1
        refine Exists.intro (v3, 2) (And.intro rfl (And.intro (And.intro hp0 (And.intro (by show 0 ≤ v3; omega) (And.intro (by show v3 ≤ 11; omega) (And.intro (by show 0 ≤ 2; omega) (by show 2 ≤ 2; omega))))) ?_))
        rintro z7 m_ h8
        obtain rfl : σ = m_ := h8.2
        have h9 : 0 ≤ z7 ∧ z7 ≤ 1999 := h8.1
        refine Exists.intro (a1, z4, z7) (And.intro rfl (And.intro True.intro ?_))
        rintro z10 m_ h11
        obtain rfl : σ = m_ := h11.2
        have h12 : (z10 = 1 ∧ z4 ≤ a1 ∧ a1 ≤ z7) ∨ (z10 = 0 ∧ ¬ (z4 ≤ a1 ∧ a1 ≤ z7)) := h11.1
        refine And.intro (fun h13 => ?_) (fun h13 => ?_)
        · skip
          refine B rfl ?_
          refine And.intro (by omega) ?_
          refine And.intro (by omega) ?_
          exact ih_4 (v2 + 0) (v3 + 1) (by show 0 ≤ (v3 + 1); omega) (by show (v3 + 1) ≤ 12; omega) (by show 0 ≤ (v2 + 0); omega) (by show (v2 + 0) ≤ (v3 + 1); omega) (by omega)
        · skip
          refine B rfl ?_
          refine And.intro (by omega) ?_
          refine And.intro (by omega) ?_
          exact ih_4 (v2 + 1) (v3 + 1) (by show 0 ≤ (v3 + 1); omega) (by show (v3 + 1) ≤ 12; omega) (by show 0 ≤ (v2 + 1); omega) (by show (v2 + 1) ≤ (v3 + 1); omega) (by omega)
  exact lp_4 ((12 - 0 : Int).toNat + 1) 0 0 (by show 0 ≤ 0; omega) (by show 0 ≤ 12; omega) (by show 0 ≤ 0; omega) (by show 0 ≤ 0; omega) (by omega)
def as_G_X11_holds : Int → List Sv_t := fun a => [(42, 86), (0, a)]
def pre_G_X11_holds : Int → Me_t → Prop := fun a σ => (MI σ)
def post_G_X11_holds : Int → Me_t → Int → Me_t → Prop := fun a σ z σ' => (σ = σ')
set_option maxHeartbeats 1500000 in
set_option maxRecDepth 100000 in
theorem ct_G_X11_holds (l : Launch) : CT_ l yX11_holds cX11_holds 2 (some .int) 2 48 as_G_X11_holds (rmI_) pre_G_X11_holds post_G_X11_holds := by
  refine ct_of (by decide) (fun _ => Nat.le_of_ble_eq_true rfl) ?_
  intro X G Q ad σ a hl hR E hG R hM hv hp
  obtain ⟨a1, rfl⟩ : ∃ q : Int, q = a := ⟨_, rfl⟩
  have r_a1 : -2147483648 ≤ a1 ∧ a1 ≤ 2147483647 := hv (0, a1) (List.mem_of_getElem? (i := 1) rfl)
  have hp0 : MI σ := hp
  have B := @bk_ X G Q 0 0 ad SHS_ RX11 cX11_holds 2 (some .int) flX11 plX11 knX11 [(184, 1, TR_ as_G_X11_isWar (rmI_) pre_G_X11_isWar post_G_X11_isWar), (179, 1, TR_ as_G_X11_isDay (rmI_) pre_G_X11_isDay post_G_X11_isDay), (792, 2, TR_ as_G_X11_holdOn (rmI_) pre_G_X11_holdOn post_G_X11_holdOn)] _ _ none kX11_holds [] flX11_ok plX11_ok knX11_ok eX11_holds oX11_holds
    (List.forall_mem_cons.mpr ⟨cok_v (t := 32) (c := 11) (N := 39) (n := 0) (idx := 92) E (ct_G_X11_isWar X.2.1) (by rw [hR]; decide) (Nat.zero_le _) (Nat.zero_le _) hG rfl rfl ⟨rfl, by decide, by decide, by decide⟩ (fun _ => ⟨_, _, rfl, rfl⟩) wl_X11_92 wi_X11_isWar ws_X11_isWar wn_X11 wc_X11_isWar, List.forall_mem_cons.mpr ⟨cok_s (n := 1) (idx := 89) E (ct_G_X11_isDay X.2.1) (by rw [hR]; decide) (Nat.zero_le _) (Nat.zero_le _) hG ⟨by decide, by decide, by decide⟩ (fun _ => rfl) wl_X11_89 wt_X11_isDay wn_X11 wc_X11_isDay, List.forall_mem_cons.mpr ⟨cok_v (t := 32) (c := 11) (N := 39) (n := 1) (idx := 396) E (ct_G_X11_holdOn X.2.1) (by rw [hR]; decide) (Nat.zero_le _) (Nat.zero_le _) hG rfl rfl ⟨rfl, by decide, by decide, by decide⟩ (fun _ => ⟨_, _, rfl, rfl⟩) wl_X11_396 wi_X11_holdOn ws_X11_holdOn wn_X11 wc_X11_holdOn, fun _ h => absurd h List.not_mem_nil⟩⟩⟩) R sok_no E
  show WP_ X G Q 0 0 ad SHS_ σ 0 [(42, 86), (0, a1)] []
  refine B rfl ?_
  refine Exists.intro () (And.intro rfl (And.intro True.intro ?_))
  rintro z1 m_ h2
  obtain rfl : σ = m_ := h2.2
  have h3 : 0 ≤ z1 ∧ z1 ≤ 1 := h2.1
  refine And.intro (fun h4 => ?_) (fun h4 => ?_)
  · skip
    refine B rfl ?_
    refine Exists.intro _ (And.intro rfl ?_)
    exact rfl
  · skip
    refine Exists.intro a1 (And.intro rfl (And.intro True.intro ?_))
    rintro z5 m_ h6
    obtain rfl : σ = m_ := h6.2
    have h7 : (z5 = 1 ∧ 0 ≤ a1 ∧ a1 ≤ 1999) ∨ z5 = 0 := h6.1
    refine And.intro (fun h8 => ?_) (fun h8 => ?_)
    · skip
      refine B rfl ?_
      refine Exists.intro _ (And.intro rfl ?_)
      exact rfl
    · skip
      have p9 : BW σ 87 := (hp0).1.1
      refine Exists.intro a1 (And.intro rfl (And.intro p9 ?_))
      rintro z10 m_ h11
      obtain rfl : σ = m_ := h11.2
      have h12 : 0 ≤ z10 ∧ z10 ≤ 12 := h11.1
      refine B rfl ?_
      refine Exists.intro _ (And.intro rfl ?_)
      exact rfl
def as_G_X11_overlap : Int × Int → List Sv_t := fun a => [(42, 86), (0, a.1), (0, a.2)]
def pre_G_X11_overlap : Int × Int → Me_t → Prop := fun a σ => (MI σ)
def post_G_X11_overlap : Int × Int → Me_t → Int → Me_t → Prop := fun a σ z σ' => (σ = σ')
set_option maxHeartbeats 1500000 in
set_option maxRecDepth 100000 in
theorem ct_G_X11_overlap (l : Launch) : CT_ l yX11_overlap cX11_overlap 4 (some .int) 2 48 as_G_X11_overlap (rmI_) pre_G_X11_overlap post_G_X11_overlap := by
  refine ct_of (by decide) (fun _ => Nat.le_of_ble_eq_true rfl) ?_
  intro X G Q ad σ a hl hR E hG R hM hv hp
  obtain ⟨a1, a2⟩ := a
  have r_a1 : -2147483648 ≤ a1 ∧ a1 ≤ 2147483647 := hv (0, a1) (List.mem_of_getElem? (i := 1) rfl)
  have r_a2 : -2147483648 ≤ a2 ∧ a2 ≤ 2147483647 := hv (0, a2) (List.mem_of_getElem? (i := 2) rfl)
  have hp0 : MI σ := hp
  have B := @bk_ X G Q 0 0 ad SHS_ RX11 cX11_overlap 4 (some .int) flX11 plX11 knX11 [(184, 1, TR_ as_G_X11_isWar (rmI_) pre_G_X11_isWar post_G_X11_isWar), (179, 1, TR_ as_G_X11_isDay (rmI_) pre_G_X11_isDay post_G_X11_isDay), (792, 2, TR_ as_G_X11_holdOn (rmI_) pre_G_X11_holdOn post_G_X11_holdOn)] _ _ none kX11_overlap [25] flX11_ok plX11_ok knX11_ok eX11_overlap oX11_overlap
    (List.forall_mem_cons.mpr ⟨cok_v (t := 32) (c := 11) (N := 39) (n := 0) (idx := 92) E (ct_G_X11_isWar X.2.1) (by rw [hR]; decide) (Nat.zero_le _) (Nat.zero_le _) hG rfl rfl ⟨rfl, by decide, by decide, by decide⟩ (fun _ => ⟨_, _, rfl, rfl⟩) wl_X11_92 wi_X11_isWar ws_X11_isWar wn_X11 wc_X11_isWar, List.forall_mem_cons.mpr ⟨cok_s (n := 1) (idx := 89) E (ct_G_X11_isDay X.2.1) (by rw [hR]; decide) (Nat.zero_le _) (Nat.zero_le _) hG ⟨by decide, by decide, by decide⟩ (fun _ => rfl) wl_X11_89 wt_X11_isDay wn_X11 wc_X11_isDay, List.forall_mem_cons.mpr ⟨cok_v (t := 32) (c := 11) (N := 39) (n := 1) (idx := 396) E (ct_G_X11_holdOn X.2.1) (by rw [hR]; decide) (Nat.zero_le _) (Nat.zero_le _) hG rfl rfl ⟨rfl, by decide, by decide, by decide⟩ (fun _ => ⟨_, _, rfl, rfl⟩) wl_X11_396 wi_X11_holdOn ws_X11_holdOn wn_X11 wc_X11_holdOn, fun _ h => absurd h List.not_mem_nil⟩⟩⟩) R sok_no E
  show WP_ X G Q 0 0 ad SHS_ σ 0 [(42, 86), (0, a1), (0, a2), (9, 0)] []
  refine B rfl ?_
  refine Exists.intro () (And.intro rfl (And.intro True.intro ?_))
  rintro z1 m_ h2
  obtain rfl : σ = m_ := h2.2
  have h3 : 0 ≤ z1 ∧ z1 ≤ 1 := h2.1
  refine And.intro (fun h4 => ?_) (fun h4 => ?_)
  · skip
    refine B rfl ?_
    refine Exists.intro _ (And.intro rfl ?_)
    exact rfl
  · skip
    refine And.intro (fun h5 => ?_) (fun h5 => ?_)
    · skip
      refine B rfl ?_
      refine Exists.intro _ (And.intro rfl ?_)
      exact rfl
    · skip
      refine Exists.intro a2 (And.intro rfl (And.intro True.intro ?_))
      rintro z6 m_ h7
      obtain rfl : σ = m_ := h7.2
      have h8 : (z6 = 1 ∧ 0 ≤ a2 ∧ a2 ≤ 1999) ∨ z6 = 0 := h7.1
      refine And.intro (fun h9 => ?_) (fun h9 => ?_)
      · skip
        refine B rfl ?_
        show WP_ X G Q 0 0 ad SHS_ σ 25 [(42, 86), (0, a1), (0, a2), (0, a2)] []
        refine wdrop_ (L' := [(42, 86), (0, a1), (9, 0), (0, a2)]) ⟨Or.inr rfl, ⟨Or.inr rfl, ⟨Or.inl rfl, ⟨Or.inr rfl, trivial⟩⟩⟩⟩ ?_
        have lp_25 : ∀ (nq_ : Nat) (v3 : Int), (0 ≤ v3) → (v3 ≤ 2000) → (2000 - v3 : Int).toNat < nq_ → WP_ X G Q 0 0 ad SHS_ σ 25 [(42, 86), (0, a1), (9, 0), (0, v3)] [] := by
          intro nq_
          induction nq_ with
          | zero => intros; omega
          | succ nq_ ih_25 =>
            intro v3 hi25_0 hi25_1 hm25
            refine B rfl ?_
            refine And.intro (fun h10 => ?_) (fun h10 => ?_)
            · skip
              refine B rfl ?_
              refine Exists.intro _ (And.intro rfl ?_)
              exact rfl
            · skip
              have p11 : BW σ 87 := (hp0).1.1
              refine Exists.intro v3 (And.intro rfl (And.intro p11 ?_))
              rintro z12 m_ h13
              obtain rfl : σ = m_ := h13.2
              have h14 : 0 ≤ z12 ∧ z12 ≤ 12 := h13.1
              refine And.intro (fun h15 => ?_) (fun h15 => ?_)
              · skip
                refine B rfl ?_
                refine And.intro (by omega) ?_
                exact ih_25 (v3 + 1) (by show 0 ≤ (v3 + 1); omega) (by show (v3 + 1) ≤ 2000; omega) (by omega)
              · skip
                refine Exists.intro _ (And.intro rfl ?_)
                exact rfl
        exact lp_25 ((2000 - a2 : Int).toNat + 1) a2 (by show 0 ≤ a2; omega) (by show a2 ≤ 2000; omega) (by omega)
      · skip
        refine Exists.intro _ (And.intro rfl ?_)
        exact rfl
def as_G_X11_most : Unit → List Sv_t := fun a => [(42, 86)]
def pre_G_X11_most : Unit → Me_t → Prop := fun a σ => (MI σ)
def post_G_X11_most : Unit → Me_t → Int → Me_t → Prop := fun a σ z σ' => (σ = σ')
set_option maxHeartbeats 1500000 in
set_option maxRecDepth 100000 in
theorem ct_G_X11_most (l : Launch) : CT_ l yX11_most cX11_most 3 (some .int) 2 48 as_G_X11_most (rmI_) pre_G_X11_most post_G_X11_most := by
  refine ct_of (by decide) (fun _ => Nat.le_of_ble_eq_true rfl) ?_
  intro X G Q ad σ a hl hR E hG R hM hv hp
  have hp0 : MI σ := hp
  have B := @bk_ X G Q 0 0 ad SHS_ RX11 cX11_most 3 (some .int) flX11 plX11 knX11 [(184, 1, TR_ as_G_X11_isWar (rmI_) pre_G_X11_isWar post_G_X11_isWar), (792, 2, TR_ as_G_X11_holdOn (rmI_) pre_G_X11_holdOn post_G_X11_holdOn), (643, 2, TMAX_)] _ _ none kX11_most [14] flX11_ok plX11_ok knX11_ok eX11_most oX11_most
    (List.forall_mem_cons.mpr ⟨cok_v (t := 32) (c := 11) (N := 39) (n := 0) (idx := 92) E (ct_G_X11_isWar X.2.1) (by rw [hR]; decide) (Nat.zero_le _) (Nat.zero_le _) hG rfl rfl ⟨rfl, by decide, by decide, by decide⟩ (fun _ => ⟨_, _, rfl, rfl⟩) wl_X11_92 wi_X11_isWar ws_X11_isWar wn_X11 wc_X11_isWar, List.forall_mem_cons.mpr ⟨cok_v (t := 32) (c := 11) (N := 39) (n := 1) (idx := 396) E (ct_G_X11_holdOn X.2.1) (by rw [hR]; decide) (Nat.zero_le _) (Nat.zero_le _) hG rfl rfl ⟨rfl, by decide, by decide, by decide⟩ (fun _ => ⟨_, _, rfl, rfl⟩) wl_X11_396 wi_X11_holdOn ws_X11_holdOn wn_X11 wc_X11_holdOn, List.forall_mem_cons.mpr ⟨cok_max (idx := 321) E (by rw [hR]; decide) (Nat.zero_le _) (Nat.zero_le _) wl_X11_321, fun _ h => absurd h List.not_mem_nil⟩⟩⟩) R sok_no E
  show WP_ X G Q 0 0 ad SHS_ σ 0 [(42, 86), (9, 0), (9, 0)] []
  refine B rfl ?_
  refine Exists.intro () (And.intro rfl (And.intro True.intro ?_))
  rintro z1 m_ h2
  obtain rfl : σ = m_ := h2.2
  have h3 : 0 ≤ z1 ∧ z1 ≤ 1 := h2.1
  refine And.intro (fun h4 => ?_) (fun h4 => ?_)
  · skip
    refine B rfl ?_
    have lp_14 : ∀ (nq_ : Nat) (v1 : Int) (v2 : Int), (0 ≤ v2) → (v2 ≤ 2000) → (2000 - v2 : Int).toNat < nq_ → WP_ X G Q 0 0 ad SHS_ σ 14 [(42, 86), (0, v1), (0, v2)] [] := by
      intro nq_
      induction nq_ with
      | zero => intros; omega
      | succ nq_ ih_14 =>
        intro v1 v2 hi14_0 hi14_1 hm14
        refine B rfl ?_
        refine And.intro (fun h5 => ?_) (fun h5 => ?_)
        · skip
          refine B rfl ?_
          refine Exists.intro _ (And.intro rfl ?_)
          exact rfl
        · skip
          have p6 : BW σ 87 := (hp0).1.1
          refine Exists.intro v2 (And.intro rfl (And.intro p6 ?_))
          rintro z7 m_ h8
          obtain rfl : σ = m_ := h8.2
          have h9 : 0 ≤ z7 ∧ z7 ≤ 12 := h8.1
          refine Exists.intro v1 (Exists.intro z7 (And.intro rfl ?_))
          intro z10 hz10
          refine And.intro (by omega) ?_
          exact ih_14 z10 (v2 + 1) (by show 0 ≤ (v2 + 1); omega) (by show (v2 + 1) ≤ 2000; omega) (by omega)
    exact lp_14 ((2000 - 0 : Int).toNat + 1) 0 0 (by show 0 ≤ 0; omega) (by show 0 ≤ 2000; omega) (by omega)
  · skip
    refine Exists.intro _ (And.intro rfl ?_)
    exact rfl
def as_G_X11_ageOf : Int × Int × Int → List Sv_t := fun a => [(42, 86), (0, a.1), (0, a.2.1), (0, a.2.2)]
def pre_G_X11_ageOf : Int × Int × Int → Me_t → Prop := fun a σ => (BW σ 87) ∧ (0 ≤ a.1) ∧ (a.1 ≤ 2) ∧ (0 ≤ a.2.1) ∧ (a.2.1 ≤ 1999) ∧ (0 ≤ a.2.2) ∧ (a.2.2 ≤ 1999)
def post_G_X11_ageOf : Int × Int × Int → Me_t → Int → Me_t → Prop := fun a σ z σ' => (-3000 ≤ z ∧ z ≤ 3000) ∧ (σ = σ')
set_option maxHeartbeats 1500000 in
set_option maxRecDepth 100000 in
theorem ct_G_X11_ageOf (l : Launch) : CT_ l yX11_ageOf cX11_ageOf 7 (some .int) 3 67 as_G_X11_ageOf (rmI_) pre_G_X11_ageOf post_G_X11_ageOf := by
  refine ct_of (by decide) (fun _ => Nat.le_of_ble_eq_true rfl) ?_
  intro X G Q ad σ a hl hR E hG R hM hv hp
  obtain ⟨a1, a2, a3⟩ := a
  have r_a1 : -2147483648 ≤ a1 ∧ a1 ≤ 2147483647 := hv (0, a1) (List.mem_of_getElem? (i := 1) rfl)
  have r_a2 : -2147483648 ≤ a2 ∧ a2 ≤ 2147483647 := hv (0, a2) (List.mem_of_getElem? (i := 2) rfl)
  have r_a3 : -2147483648 ≤ a3 ∧ a3 ≤ 2147483647 := hv (0, a3) (List.mem_of_getElem? (i := 3) rfl)
  have hp0 : BW σ 87 := hp.1
  have hp1 : 0 ≤ a1 := hp.2.1
  have hp2 : a1 ≤ 2 := hp.2.2.1
  have hp3 : 0 ≤ a2 := hp.2.2.2.1
  have hp4 : a2 ≤ 1999 := hp.2.2.2.2.1
  have hp5 : 0 ≤ a3 := hp.2.2.2.2.2.1
  have hp6 : a3 ≤ 1999 := hp.2.2.2.2.2.2
  have B := @bk_ X G Q 0 0 ad SHS_ RX11 cX11_ageOf 7 (some .int) flX11 plX11 knX11 [(648, 3, TR_ as_G_X11_isCounted (rmI_) pre_G_X11_isCounted post_G_X11_isCounted), (544, 4, TOR_ (TR_ as_G_X11_dateOf_0 (rmI_) pre_G_X11_dateOf_0 post_G_X11_dateOf_0) (TOR_ (TR_ as_G_X11_dateOf_1 (rmI_) pre_G_X11_dateOf_1 post_G_X11_dateOf_1) (TR_ as_G_X11_dateOf_2 (rmI_) pre_G_X11_dateOf_2 post_G_X11_dateOf_2)))] _ _ none kX11_ageOf [5, 14, 55, 60, 77, 89] flX11_ok plX11_ok knX11_ok eX11_ageOf oX11_ageOf
    (List.forall_mem_cons.mpr ⟨cok_v (t := 32) (c := 11) (N := 39) (n := 2) (idx := 324) E (ct_G_X11_isCounted X.2.1) (by rw [hR]; decide) (Nat.zero_le _) (Nat.zero_le _) hG rfl rfl ⟨rfl, by decide, by decide, by decide⟩ (fun _ => ⟨_, _, rfl, rfl⟩) wl_X11_324 wi_X11_isCounted ws_X11_isCounted wn_X11 wc_X11_isCounted, List.forall_mem_cons.mpr ⟨cok_or (cok_v (t := 32) (c := 11) (N := 39) (n := 3) (idx := 272) E (ct_G_X11_dateOf_0 X.2.1) (by rw [hR]; decide) (Nat.zero_le _) (Nat.zero_le _) hG rfl rfl ⟨rfl, by decide, by decide, by decide⟩ (fun _ => ⟨_, _, rfl, rfl⟩) wl_X11_272 wi_X11_dateOf ws_X11_dateOf wn_X11 wc_X11_dateOf) (cok_or (cok_v (t := 32) (c := 11) (N := 39) (n := 3) (idx := 272) E (ct_G_X11_dateOf_1 X.2.1) (by rw [hR]; decide) (Nat.zero_le _) (Nat.zero_le _) hG rfl rfl ⟨rfl, by decide, by decide, by decide⟩ (fun _ => ⟨_, _, rfl, rfl⟩) wl_X11_272 wi_X11_dateOf ws_X11_dateOf wn_X11 wc_X11_dateOf) (cok_v (t := 32) (c := 11) (N := 39) (n := 3) (idx := 272) E (ct_G_X11_dateOf_2 X.2.1) (by rw [hR]; decide) (Nat.zero_le _) (Nat.zero_le _) hG rfl rfl ⟨rfl, by decide, by decide, by decide⟩ (fun _ => ⟨_, _, rfl, rfl⟩) wl_X11_272 wi_X11_dateOf ws_X11_dateOf wn_X11 wc_X11_dateOf)), fun _ h => absurd h List.not_mem_nil⟩⟩) R sok_no E
  show WP_ X G Q 0 0 ad SHS_ σ 0 [(42, 86), (0, a1), (0, a2), (0, a3), (9, 0), (9, 0), (9, 0)] []
  refine B rfl ?_
  refine And.intro (fun h1 => ?_) (fun h1 => ?_)
  · skip
    refine B rfl ?_
    refine Exists.intro _ (And.intro rfl ?_)
    exact (And.intro (by show -3000 ≤ (-1) ∧ (-1) ≤ 3000; omega) rfl)
  · skip
    show WP_ X G Q 0 0 ad SHS_ σ 5 [(42, 86), (0, a1), (0, a2), (0, a3), (9, 0), (9, 0), (9, 0)] []
    refine B rfl ?_
    refine Exists.intro (a1, a2) (And.intro rfl (And.intro (And.intro hp0 (And.intro (by show 0 ≤ a1; omega) (by show a1 ≤ 2; omega))) ?_))
    rintro z2 m_ h3
    obtain rfl : σ = m_ := h3.2
    have h4 : (z2 = 1 ∧ σ 87 (6 + 15 * a1 + 0) ≤ a2) ∨ z2 = 0 := h3.1
    refine And.intro (fun h5 => ?_) (fun h5 => ?_)
    · skip
      refine B rfl ?_
      refine Or.inl ?_
      refine Exists.intro (a1, a3) (And.intro rfl (And.intro (And.intro (by show 0 ≤ a1; omega) (And.intro (by show a1 ≤ 2; omega) (And.intro (by show 0 ≤ a3; omega) (by show a3 ≤ 1999; omega)))) ?_))
      rintro z6 m_ h7
      obtain rfl : σ = m_ := h7.2
      have h8 : (-1) ≤ z6 ∧ z6 ≤ 2000 := h7.1
      refine Or.inl ?_
      refine Exists.intro (a1, a2) (And.intro rfl (And.intro (And.intro (by show 0 ≤ a1; omega) (And.intro (by show a1 ≤ 2; omega) (And.intro (by show 0 ≤ a2; omega) (by show a2 ≤ 1999; omega)))) ?_))
      rintro z9 m_ h10
      obtain rfl : σ = m_ := h10.2
      have h11 : (-1) ≤ z9 ∧ z9 ≤ 2000 := h10.1
      refine And.intro (by omega) ?_
      refine Or.inr ?_
      refine Or.inl ?_
      refine Exists.intro (a1, a3) (And.intro rfl (And.intro (And.intro (by show 0 ≤ a1; omega) (And.intro (by show a1 ≤ 2; omega) (And.intro (by show 0 ≤ a3; omega) (by show a3 ≤ 1999; omega)))) ?_))
      rintro z12 m_ h13
      obtain rfl : σ = m_ := h13.2
      have h14 : (-1) ≤ z12 ∧ z12 ≤ 7 := h13.1
      refine Or.inr ?_
      refine Or.inl ?_
      refine Exists.intro (a1, a2) (And.intro rfl (And.intro (And.intro (by show 0 ≤ a1; omega) (And.intro (by show a1 ≤ 2; omega) (And.intro (by show 0 ≤ a2; omega) (by show a2 ≤ 1999; omega)))) ?_))
      rintro z15 m_ h16
      obtain rfl : σ = m_ := h16.2
      have h17 : (-1) ≤ z15 ∧ z15 ≤ 7 := h16.1
      refine And.intro (by omega) ?_
      refine And.intro (fun h18 => ?_) (fun h18 => ?_)
      · skip
        refine B rfl ?_
        refine B rfl ?_
        refine And.intro (fun h19 => (by exfalso; omega)) (fun h19 => ?_)
        show WP_ X G Q 0 0 ad SHS_ σ 89 [(42, 86), (0, a1), (0, a2), (0, a3), (0, z6 - z9), (0, z12 - z15), (0, 1)] []
        refine B rfl ?_
        refine And.intro (by omega) ?_
        refine B rfl ?_
        refine Exists.intro _ (And.intro rfl ?_)
        exact (And.intro (by show -3000 ≤ ((z6 - z9) - 1) ∧ ((z6 - z9) - 1) ≤ 3000; omega) rfl)
      · skip
        show WP_ X G Q 0 0 ad SHS_ σ 55 [(42, 86), (0, a1), (0, a2), (0, a3), (0, z6 - z9), (0, z12 - z15), (9, 0)] []
        refine B rfl ?_
        refine And.intro (fun h20 => ?_) (fun h20 => ?_)
        · skip
          refine B rfl ?_
          refine And.intro (fun h21 => ?_) (fun h21 => (by exfalso; omega))
          refine B rfl ?_
          refine Exists.intro _ (And.intro rfl ?_)
          exact (And.intro (by show -3000 ≤ (z6 - z9) ∧ (z6 - z9) ≤ 3000; omega) rfl)
        · skip
          show WP_ X G Q 0 0 ad SHS_ σ 60 [(42, 86), (0, a1), (0, a2), (0, a3), (0, z6 - z9), (0, z12 - z15), (9, 0)] []
          refine B rfl ?_
          refine Or.inr ?_
          refine Or.inr ?_
          refine Exists.intro (a1, a3) (And.intro rfl (And.intro (And.intro (by show 0 ≤ a1; omega) (And.intro (by show a1 ≤ 2; omega) (And.intro (by show 0 ≤ a3; omega) (by show a3 ≤ 1999; omega)))) ?_))
          rintro z22 m_ h23
          obtain rfl : σ = m_ := h23.2
          have h24 : (-1) ≤ z22 ∧ z22 ≤ 68 := h23.1
          refine Or.inr ?_
          refine Or.inr ?_
          refine Exists.intro (a1, a2) (And.intro rfl (And.intro (And.intro (by show 0 ≤ a1; omega) (And.intro (by show a1 ≤ 2; omega) (And.intro (by show 0 ≤ a2; omega) (by show a2 ≤ 1999; omega)))) ?_))
          rintro z25 m_ h26
          obtain rfl : σ = m_ := h26.2
          have h27 : (-1) ≤ z25 ∧ z25 ≤ 68 := h26.1
          refine And.intro (fun h28 => ?_) (fun h28 => ?_)
          · skip
            refine B rfl ?_
            refine And.intro (fun h29 => ?_) (fun h29 => (by exfalso; omega))
            refine B rfl ?_
            refine Exists.intro _ (And.intro rfl ?_)
            exact (And.intro (by show -3000 ≤ (z6 - z9) ∧ (z6 - z9) ≤ 3000; omega) rfl)
          · skip
            show WP_ X G Q 0 0 ad SHS_ σ 77 [(42, 86), (0, a1), (0, a2), (0, a3), (0, z6 - z9), (0, z12 - z15), (9, 0)] []
            refine B rfl ?_
            refine B rfl ?_
            refine And.intro (fun h30 => (by exfalso; omega)) (fun h30 => ?_)
            show WP_ X G Q 0 0 ad SHS_ σ 89 [(42, 86), (0, a1), (0, a2), (0, a3), (0, z6 - z9), (0, z12 - z15), (0, 1)] []
            refine B rfl ?_
            refine And.intro (by omega) ?_
            refine B rfl ?_
            refine Exists.intro _ (And.intro rfl ?_)
            exact (And.intro (by show -3000 ≤ ((z6 - z9) - 1) ∧ ((z6 - z9) - 1) ≤ 3000; omega) rfl)
    · skip
      show WP_ X G Q 0 0 ad SHS_ σ 14 [(42, 86), (0, a1), (0, a2), (0, a3), (9, 0), (9, 0), (9, 0)] []
      refine B rfl ?_
      refine Exists.intro _ (And.intro rfl ?_)
      exact (And.intro (by show -3000 ≤ (-1) ∧ (-1) ≤ 3000; omega) rfl)
def as_G_X11_age : Int × Int × Int → List Sv_t := fun a => [(42, 86), (0, a.1), (0, a.2.1), (0, a.2.2)]
def pre_G_X11_age : Int × Int × Int → Me_t → Prop := fun a σ => (MI σ)
def post_G_X11_age : Int × Int × Int → Me_t → Int → Me_t → Prop := fun a σ z σ' => (∀ k j : Int, ¬ (93 ≤ k ∧ k ≤ 96) → σ' k j = σ k j)
set_option maxHeartbeats 1500000 in
set_option maxRecDepth 100000 in
theorem ct_G_X11_age (l : Launch) : CT_ l yX11_age cX11_age 4 (some .int) 4 93 as_G_X11_age (rmI_) pre_G_X11_age post_G_X11_age := by
  refine ct_of (by decide) (fun _ => Nat.le_of_ble_eq_true rfl) ?_
  intro X G Q ad σ a hl hR E hG R hM hv hp
  obtain ⟨a1, a2, a3⟩ := a
  have r_a1 : -2147483648 ≤ a1 ∧ a1 ≤ 2147483647 := hv (0, a1) (List.mem_of_getElem? (i := 1) rfl)
  have r_a2 : -2147483648 ≤ a2 ∧ a2 ≤ 2147483647 := hv (0, a2) (List.mem_of_getElem? (i := 2) rfl)
  have r_a3 : -2147483648 ≤ a3 ∧ a3 ≤ 2147483647 := hv (0, a3) (List.mem_of_getElem? (i := 3) rfl)
  have hp0 : MI σ := hp
  have B := @bk_ X G Q 0 0 ad SHS_ RX11 cX11_age 4 (some .int) flX11 plX11 knX11 [(166, 2, TR_ as_G_X11_isLand (rmI_) pre_G_X11_isLand post_G_X11_isLand), (179, 1, TR_ as_G_X11_isDay (rmI_) pre_G_X11_isDay post_G_X11_isDay), (538, 1, TR_ as_G_X11_lay (rmV_) pre_G_X11_lay post_G_X11_lay), (798, 4, TR_ as_G_X11_ageOf (rmI_) pre_G_X11_ageOf post_G_X11_ageOf)] _ _ none kX11_age [] flX11_ok plX11_ok knX11_ok eX11_age oX11_age
    (List.forall_mem_cons.mpr ⟨cok_v (t := 32) (c := 11) (N := 39) (n := 1) (idx := 83) E (ct_G_X11_isLand X.2.1) (by rw [hR]; decide) (Nat.zero_le _) (Nat.zero_le _) hG rfl rfl ⟨rfl, by decide, by decide, by decide⟩ (fun _ => ⟨_, _, rfl, rfl⟩) wl_X11_83 wi_X11_isLand ws_X11_isLand wn_X11 wc_X11_isLand, List.forall_mem_cons.mpr ⟨cok_s (n := 1) (idx := 89) E (ct_G_X11_isDay X.2.1) (by rw [hR]; decide) (Nat.zero_le _) (Nat.zero_le _) hG ⟨by decide, by decide, by decide⟩ (fun _ => rfl) wl_X11_89 wt_X11_isDay wn_X11 wc_X11_isDay, List.forall_mem_cons.mpr ⟨cok_v (t := 32) (c := 11) (N := 39) (n := 0) (idx := 269) E (ct_G_X11_lay X.2.1) (by rw [hR]; decide) (Nat.zero_le _) (Nat.zero_le _) hG rfl rfl ⟨rfl, by decide, by decide, by decide⟩ (fun _ => ⟨_, _, rfl, rfl⟩) wl_X11_269 wi_X11_lay ws_X11_lay wn_X11 wc_X11_lay, List.forall_mem_cons.mpr ⟨cok_v (t := 32) (c := 11) (N := 39) (n := 3) (idx := 399) E (ct_G_X11_ageOf X.2.1) (by rw [hR]; decide) (Nat.zero_le _) (Nat.zero_le _) hG rfl rfl ⟨rfl, by decide, by decide, by decide⟩ (fun _ => ⟨_, _, rfl, rfl⟩) wl_X11_399 wi_X11_ageOf ws_X11_ageOf wn_X11 wc_X11_ageOf, fun _ h => absurd h List.not_mem_nil⟩⟩⟩⟩) R sok_no E
  show WP_ X G Q 0 0 ad SHS_ σ 0 [(42, 86), (0, a1), (0, a2), (0, a3)] []
  refine B rfl ?_
  have p1 : BW σ 87 := (hp0).1.1
  refine Exists.intro a1 (And.intro rfl (And.intro p1 ?_))
  rintro z2 m_ h3
  obtain rfl : σ = m_ := h3.2
  have h4 : (z2 = 1 ∧ 0 ≤ a1 ∧ a1 ≤ 2 ∧ a1 < σ 87 1) ∨ z2 = 0 := h3.1
  refine And.intro (fun h5 => ?_) (fun h5 => ?_)
  · skip
    refine B rfl ?_
    refine Exists.intro _ (And.intro rfl ?_)
    exact (fun k j hk => rfl)
  · skip
    refine Exists.intro a2 (And.intro rfl (And.intro True.intro ?_))
    rintro z6 m_ h7
    obtain rfl : σ = m_ := h7.2
    have h8 : (z6 = 1 ∧ 0 ≤ a2 ∧ a2 ≤ 1999) ∨ z6 = 0 := h7.1
    refine And.intro (fun h9 => ?_) (fun h9 => ?_)
    · skip
      refine B rfl ?_
      refine Exists.intro _ (And.intro rfl ?_)
      exact (fun k j hk => rfl)
    · skip
      refine Exists.intro a3 (And.intro rfl (And.intro True.intro ?_))
      rintro z10 m_ h11
      obtain rfl : σ = m_ := h11.2
      have h12 : (z10 = 1 ∧ 0 ≤ a3 ∧ a3 ≤ 1999) ∨ z10 = 0 := h11.1
      refine And.intro (fun h13 => ?_) (fun h13 => ?_)
      · skip
        refine B rfl ?_
        refine Exists.intro () (And.intro rfl (And.intro hp0 ?_))
        intro z14 σ16 h15
        have f17 : ∀ k j : Int, ¬ (93 ≤ k ∧ k ≤ 96) → σ16 k j = σ k j := h15.2
        have h18 : LY σ16 := h15.1
        have p19 : BW σ16 87 := BW_fr p1 (fun k j hk => (f17 _ _ (by omega)))
        refine Exists.intro (a1, a2, a3) (And.intro rfl (And.intro (And.intro p19 (And.intro (by show 0 ≤ a1; omega) (And.intro (by show a1 ≤ 2; omega) (And.intro (by show 0 ≤ a2; omega) (And.intro (by show a2 ≤ 1999; omega) (And.intro (by show 0 ≤ a3; omega) (by show a3 ≤ 1999; omega))))))) ?_))
        rintro z20 m_ h21
        obtain rfl : σ16 = m_ := h21.2
        have h22 : -3000 ≤ z20 ∧ z20 ≤ 3000 := h21.1
        refine Exists.intro _ (And.intro rfl ?_)
        exact (fun k j hk => (f17 _ _ (by omega)))
      · skip
        refine Exists.intro _ (And.intro rfl ?_)
        exact (fun k j hk => rfl)
def as_G_X11_gains : Int × Int × Int × Int → List Sv_t := fun a => [(42, 86), (0, a.1), (0, a.2.1), (0, a.2.2.1), (0, a.2.2.2)]
def pre_G_X11_gains : Int × Int × Int × Int → Me_t → Prop := fun a σ => (MI σ)
def post_G_X11_gains : Int × Int × Int × Int → Me_t → Int → Me_t → Prop := fun a σ z σ' => (∀ k j : Int, ¬ (93 ≤ k ∧ k ≤ 96) → σ' k j = σ k j)
set_option maxHeartbeats 1500000 in
set_option maxRecDepth 100000 in
theorem ct_G_X11_gains (l : Launch) : CT_ l yX11_gains cX11_gains 7 (some .int) 4 93 as_G_X11_gains (rmI_) pre_G_X11_gains post_G_X11_gains := by
  refine ct_of (by decide) (fun _ => Nat.le_of_ble_eq_true rfl) ?_
  intro X G Q ad σ a hl hR E hG R hM hv hp
  obtain ⟨a1, a2, a3, a4⟩ := a
  have r_a1 : -2147483648 ≤ a1 ∧ a1 ≤ 2147483647 := hv (0, a1) (List.mem_of_getElem? (i := 1) rfl)
  have r_a2 : -2147483648 ≤ a2 ∧ a2 ≤ 2147483647 := hv (0, a2) (List.mem_of_getElem? (i := 2) rfl)
  have r_a3 : -2147483648 ≤ a3 ∧ a3 ≤ 2147483647 := hv (0, a3) (List.mem_of_getElem? (i := 3) rfl)
  have r_a4 : -2147483648 ≤ a4 ∧ a4 ≤ 2147483647 := hv (0, a4) (List.mem_of_getElem? (i := 4) rfl)
  have hp0 : MI σ := hp
  have B := @bk_ X G Q 0 0 ad SHS_ RX11 cX11_gains 7 (some .int) flX11 plX11 knX11 [(630, 3, TR_ as_G_X11_areTwo (rmI_) pre_G_X11_areTwo post_G_X11_areTwo), (179, 1, TR_ as_G_X11_isDay (rmI_) pre_G_X11_isDay post_G_X11_isDay), (538, 1, TR_ as_G_X11_lay (rmV_) pre_G_X11_lay post_G_X11_lay), (798, 4, TR_ as_G_X11_ageOf (rmI_) pre_G_X11_ageOf post_G_X11_ageOf)] _ _ none kX11_gains [] flX11_ok plX11_ok knX11_ok eX11_gains oX11_gains
    (List.forall_mem_cons.mpr ⟨cok_v (t := 32) (c := 11) (N := 39) (n := 2) (idx := 315) E (ct_G_X11_areTwo X.2.1) (by rw [hR]; decide) (Nat.zero_le _) (Nat.zero_le _) hG rfl rfl ⟨rfl, by decide, by decide, by decide⟩ (fun _ => ⟨_, _, rfl, rfl⟩) wl_X11_315 wi_X11_areTwo ws_X11_areTwo wn_X11 wc_X11_areTwo, List.forall_mem_cons.mpr ⟨cok_s (n := 1) (idx := 89) E (ct_G_X11_isDay X.2.1) (by rw [hR]; decide) (Nat.zero_le _) (Nat.zero_le _) hG ⟨by decide, by decide, by decide⟩ (fun _ => rfl) wl_X11_89 wt_X11_isDay wn_X11 wc_X11_isDay, List.forall_mem_cons.mpr ⟨cok_v (t := 32) (c := 11) (N := 39) (n := 0) (idx := 269) E (ct_G_X11_lay X.2.1) (by rw [hR]; decide) (Nat.zero_le _) (Nat.zero_le _) hG rfl rfl ⟨rfl, by decide, by decide, by decide⟩ (fun _ => ⟨_, _, rfl, rfl⟩) wl_X11_269 wi_X11_lay ws_X11_lay wn_X11 wc_X11_lay, List.forall_mem_cons.mpr ⟨cok_v (t := 32) (c := 11) (N := 39) (n := 3) (idx := 399) E (ct_G_X11_ageOf X.2.1) (by rw [hR]; decide) (Nat.zero_le _) (Nat.zero_le _) hG rfl rfl ⟨rfl, by decide, by decide, by decide⟩ (fun _ => ⟨_, _, rfl, rfl⟩) wl_X11_399 wi_X11_ageOf ws_X11_ageOf wn_X11 wc_X11_ageOf, fun _ h => absurd h List.not_mem_nil⟩⟩⟩⟩) R sok_no E
  show WP_ X G Q 0 0 ad SHS_ σ 0 [(42, 86), (0, a1), (0, a2), (0, a3), (0, a4), (9, 0), (9, 0)] []
  refine B rfl ?_
  have p1 : BW σ 87 := (hp0).1.1
  refine Exists.intro (a1, a2) (And.intro rfl (And.intro p1 ?_))
  rintro z2 m_ h3
  obtain rfl : σ = m_ := h3.2
  have h4 : (z2 = 1 ∧ 0 ≤ a1 ∧ a1 ≤ 2 ∧ a1 < σ 87 1 ∧ 0 ≤ a2 ∧ a2 ≤ 2 ∧ a2 < σ 87 1 ∧ a1 ≠ a2) ∨ z2 = 0 := h3.1
  refine And.intro (fun h5 => ?_) (fun h5 => ?_)
  · skip
    refine B rfl ?_
    refine Exists.intro _ (And.intro rfl ?_)
    exact (fun k j hk => rfl)
  · skip
    refine Exists.intro a3 (And.intro rfl (And.intro True.intro ?_))
    rintro z6 m_ h7
    obtain rfl : σ = m_ := h7.2
    have h8 : (z6 = 1 ∧ 0 ≤ a3 ∧ a3 ≤ 1999) ∨ z6 = 0 := h7.1
    refine And.intro (fun h9 => ?_) (fun h9 => ?_)
    · skip
      refine B rfl ?_
      refine Exists.intro _ (And.intro rfl ?_)
      exact (fun k j hk => rfl)
    · skip
      refine Exists.intro a4 (And.intro rfl (And.intro True.intro ?_))
      rintro z10 m_ h11
      obtain rfl : σ = m_ := h11.2
      have h12 : (z10 = 1 ∧ 0 ≤ a4 ∧ a4 ≤ 1999) ∨ z10 = 0 := h11.1
      refine And.intro (fun h13 => ?_) (fun h13 => ?_)
      · skip
        refine B rfl ?_
        refine Exists.intro () (And.intro rfl (And.intro hp0 ?_))
        intro z14 σ16 h15
        have f17 : ∀ k j : Int, ¬ (93 ≤ k ∧ k ≤ 96) → σ16 k j = σ k j := h15.2
        have h18 : LY σ16 := h15.1
        have p19 : BW σ16 87 := BW_fr p1 (fun k j hk => (f17 _ _ (by omega)))
        refine Exists.intro (a1, a3, a4) (And.intro rfl (And.intro (And.intro p19 (And.intro (by show 0 ≤ a1; omega) (And.intro (by show a1 ≤ 2; omega) (And.intro (by show 0 ≤ a3; omega) (And.intro (by show a3 ≤ 1999; omega) (And.intro (by show 0 ≤ a4; omega) (by show a4 ≤ 1999; omega))))))) ?_))
        rintro z20 m_ h21
        obtain rfl : σ16 = m_ := h21.2
        have h22 : -3000 ≤ z20 ∧ z20 ≤ 3000 := h21.1
        refine Exists.intro (a2, a3, a4) (And.intro rfl (And.intro (And.intro p19 (And.intro (by show 0 ≤ a2; omega) (And.intro (by show a2 ≤ 2; omega) (And.intro (by show 0 ≤ a3; omega) (And.intro (by show a3 ≤ 1999; omega) (And.intro (by show 0 ≤ a4; omega) (by show a4 ≤ 1999; omega))))))) ?_))
        rintro z23 m_ h24
        obtain rfl : σ16 = m_ := h24.2
        have h25 : -3000 ≤ z23 ∧ z23 ≤ 3000 := h24.1
        refine And.intro (fun h26 => ?_) (fun h26 => ?_)
        · skip
          refine B rfl ?_
          refine B rfl ?_
          refine Exists.intro _ (And.intro rfl ?_)
          exact (fun k j hk => (f17 _ _ (by omega)))
        · skip
          refine And.intro (fun h27 => ?_) (fun h27 => ?_)
          · skip
            refine B rfl ?_
            refine And.intro (by omega) ?_
            refine Exists.intro _ (And.intro rfl ?_)
            exact (fun k j hk => (f17 _ _ (by omega)))
          · skip
            refine B rfl ?_
            refine Exists.intro _ (And.intro rfl ?_)
            exact (fun k j hk => (f17 _ _ (by omega)))
      · skip
        refine Exists.intro _ (And.intro rfl ?_)
        exact (fun k j hk => rfl)
def as_G_X11_march : Int × Int × Int → List Sv_t := fun a => [(42, 86), (0, a.1), (0, a.2.1), (0, a.2.2)]
def pre_G_X11_march : Int × Int × Int → Me_t → Prop := fun a σ => (MI σ)
def post_G_X11_march : Int × Int × Int → Me_t → Int → Me_t → Prop := fun a σ z σ' => (∀ k j : Int, ¬ (93 ≤ k ∧ k ≤ 96) → σ' k j = σ k j)
set_option maxHeartbeats 1500000 in
set_option maxRecDepth 100000 in
theorem ct_G_X11_march (l : Launch) : CT_ l yX11_march cX11_march 6 (some .int) 4 92 as_G_X11_march (rmI_) pre_G_X11_march post_G_X11_march := by
  refine ct_of (by decide) (fun _ => Nat.le_of_ble_eq_true rfl) ?_
  intro X G Q ad σ a hl hR E hG R hM hv hp
  obtain ⟨a1, a2, a3⟩ := a
  have r_a1 : -2147483648 ≤ a1 ∧ a1 ≤ 2147483647 := hv (0, a1) (List.mem_of_getElem? (i := 1) rfl)
  have r_a2 : -2147483648 ≤ a2 ∧ a2 ≤ 2147483647 := hv (0, a2) (List.mem_of_getElem? (i := 2) rfl)
  have r_a3 : -2147483648 ≤ a3 ∧ a3 ≤ 2147483647 := hv (0, a3) (List.mem_of_getElem? (i := 3) rfl)
  have hp0 : MI σ := hp
  have B := @bk_ X G Q 0 0 ad SHS_ RX11 cX11_march 6 (some .int) flX11 plX11 knX11 [(166, 2, TR_ as_G_X11_isLand (rmI_) pre_G_X11_isLand post_G_X11_isLand), (179, 1, TR_ as_G_X11_isDay (rmI_) pre_G_X11_isDay post_G_X11_isDay), (538, 1, TR_ as_G_X11_lay (rmV_) pre_G_X11_lay post_G_X11_lay), (508, 3, TR_ as_G_X11_mayOn (rmI_) pre_G_X11_mayOn post_G_X11_mayOn)] _ _ none kX11_march [35] flX11_ok plX11_ok knX11_ok eX11_march oX11_march
    (List.forall_mem_cons.mpr ⟨cok_v (t := 32) (c := 11) (N := 39) (n := 1) (idx := 83) E (ct_G_X11_isLand X.2.1) (by rw [hR]; decide) (Nat.zero_le _) (Nat.zero_le _) hG rfl rfl ⟨rfl, by decide, by decide, by decide⟩ (fun _ => ⟨_, _, rfl, rfl⟩) wl_X11_83 wi_X11_isLand ws_X11_isLand wn_X11 wc_X11_isLand, List.forall_mem_cons.mpr ⟨cok_s (n := 1) (idx := 89) E (ct_G_X11_isDay X.2.1) (by rw [hR]; decide) (Nat.zero_le _) (Nat.zero_le _) hG ⟨by decide, by decide, by decide⟩ (fun _ => rfl) wl_X11_89 wt_X11_isDay wn_X11 wc_X11_isDay, List.forall_mem_cons.mpr ⟨cok_v (t := 32) (c := 11) (N := 39) (n := 0) (idx := 269) E (ct_G_X11_lay X.2.1) (by rw [hR]; decide) (Nat.zero_le _) (Nat.zero_le _) hG rfl rfl ⟨rfl, by decide, by decide, by decide⟩ (fun _ => ⟨_, _, rfl, rfl⟩) wl_X11_269 wi_X11_lay ws_X11_lay wn_X11 wc_X11_lay, List.forall_mem_cons.mpr ⟨cok_v (t := 32) (c := 11) (N := 39) (n := 2) (idx := 254) E (ct_G_X11_mayOn X.2.1) (by rw [hR]; decide) (Nat.zero_le _) (Nat.zero_le _) hG rfl rfl ⟨rfl, by decide, by decide, by decide⟩ (fun _ => ⟨_, _, rfl, rfl⟩) wl_X11_254 wi_X11_mayOn ws_X11_mayOn wn_X11 wc_X11_mayOn, fun _ h => absurd h List.not_mem_nil⟩⟩⟩⟩) R sok_no E
  show WP_ X G Q 0 0 ad SHS_ σ 0 [(42, 86), (0, a1), (0, a2), (0, a3), (9, 0), (9, 0)] []
  refine B rfl ?_
  have p1 : BW σ 87 := (hp0).1.1
  refine Exists.intro a1 (And.intro rfl (And.intro p1 ?_))
  rintro z2 m_ h3
  obtain rfl : σ = m_ := h3.2
  have h4 : (z2 = 1 ∧ 0 ≤ a1 ∧ a1 ≤ 2 ∧ a1 < σ 87 1) ∨ z2 = 0 := h3.1
  refine And.intro (fun h5 => ?_) (fun h5 => ?_)
  · skip
    refine B rfl ?_
    refine Exists.intro _ (And.intro rfl ?_)
    exact (fun k j hk => rfl)
  · skip
    refine Exists.intro a2 (And.intro rfl (And.intro True.intro ?_))
    rintro z6 m_ h7
    obtain rfl : σ = m_ := h7.2
    have h8 : (z6 = 1 ∧ 0 ≤ a2 ∧ a2 ≤ 1999) ∨ z6 = 0 := h7.1
    refine And.intro (fun h9 => ?_) (fun h9 => ?_)
    · skip
      refine B rfl ?_
      refine Exists.intro _ (And.intro rfl ?_)
      exact (fun k j hk => rfl)
    · skip
      refine And.intro (fun h10 => ?_) (fun h10 => ?_)
      · skip
        refine B rfl ?_
        refine Exists.intro () (And.intro rfl (And.intro hp0 ?_))
        intro z11 σ13 h12
        have f14 : ∀ k j : Int, ¬ (93 ≤ k ∧ k ≤ 96) → σ13 k j = σ k j := h12.2
        have h15 : LY σ13 := h12.1
        show WP_ X G Q 0 0 ad SHS_ σ13 35 [(42, 86), (0, a1), (0, a2), (0, a3), (0, 0), (0, a2)] []
        refine wdrop_ (L' := [(42, 86), (0, a1), (9, 0), (0, a3), (0, 0), (0, a2)]) ⟨Or.inr rfl, ⟨Or.inr rfl, ⟨Or.inl rfl, ⟨Or.inr rfl, ⟨Or.inr rfl, ⟨Or.inr rfl, trivial⟩⟩⟩⟩⟩⟩ ?_
        have lp_35 : ∀ (nq_ : Nat) (v4 : Int) (v5 : Int), (a2 ≤ v5) → (v5 ≤ 2000) → (0 ≤ v4) → (v4 ≤ v5 - a2) → (2000 - v5 : Int).toNat < nq_ → WP_ X G Q 0 0 ad SHS_ σ13 35 [(42, 86), (0, a1), (9, 0), (0, a3), (0, v4), (0, v5)] [] := by
          intro nq_
          induction nq_ with
          | zero => intros; omega
          | succ nq_ ih_35 =>
            intro v4 v5 hi35_0 hi35_1 hi35_2 hi35_3 hm35
            refine B rfl ?_
            refine And.intro (fun h16 => ?_) (fun h16 => ?_)
            · skip
              refine B rfl ?_
              refine Exists.intro _ (And.intro rfl ?_)
              exact (fun k j hk => (f14 _ _ (by omega)))
            · skip
              refine Exists.intro (a1, v5) (And.intro rfl (And.intro (And.intro (by show 0 ≤ a1; omega) (And.intro (by show a1 ≤ 2; omega) (And.intro (by show 0 ≤ v5; omega) (by show v5 ≤ 1999; omega)))) ?_))
              rintro z17 m_ h18
              obtain rfl : σ13 = m_ := h18.2
              have h19 : (z17 = 1 ∧ σ13 96 (2000 * a1 + v5) = 0) ∨ (z17 = 0 ∧ σ13 96 (2000 * a1 + v5) ≠ 0) := h18.1
              try have t20 : σ13 96 (2000 * a1 + v5) = σ 96 (2000 * a1 + v5) := (f14 _ _ (by omega))
              refine And.intro (fun h21 => ?_) (fun h21 => ?_)
              · skip
                refine B rfl ?_
                refine And.intro (by omega) ?_
                refine And.intro (fun h22 => ?_) (fun h22 => ?_)
                · skip
                  refine B rfl ?_
                  refine And.intro (by omega) ?_
                  exact ih_35 (v4 + 0) (v5 + 1) (by show a2 ≤ (v5 + 1); omega) (by show (v5 + 1) ≤ 2000; omega) (by show 0 ≤ (v4 + 0); omega) (by show (v4 + 0) ≤ (v5 + 1) - a2; omega) (by omega)
                · skip
                  refine Exists.intro _ (And.intro rfl ?_)
                  exact (fun k j hk => (f14 _ _ (by omega)))
              · skip
                refine B rfl ?_
                refine And.intro (by omega) ?_
                refine And.intro (fun h23 => ?_) (fun h23 => ?_)
                · skip
                  refine B rfl ?_
                  refine And.intro (by omega) ?_
                  exact ih_35 (v4 + 1) (v5 + 1) (by show a2 ≤ (v5 + 1); omega) (by show (v5 + 1) ≤ 2000; omega) (by show 0 ≤ (v4 + 1); omega) (by show (v4 + 1) ≤ (v5 + 1) - a2; omega) (by omega)
                · skip
                  refine Exists.intro _ (And.intro rfl ?_)
                  exact (fun k j hk => (f14 _ _ (by omega)))
        exact lp_35 ((2000 - a2 : Int).toNat + 1) 0 a2 (by show a2 ≤ a2; omega) (by show a2 ≤ 2000; omega) (by show 0 ≤ 0; omega) (by show 0 ≤ a2 - a2; omega) (by omega)
      · skip
        refine Exists.intro _ (And.intro rfl ?_)
        exact (fun k j hk => rfl)
def as_G_X11_findClash : Int × Int × Int × Int → List Sv_t := fun a => [(42, 86), (0, a.1), (0, a.2.1), (0, a.2.2.1), (0, a.2.2.2)]
def pre_G_X11_findClash : Int × Int × Int × Int → Me_t → Prop := fun a σ => (MI σ) ∧ (0 ≤ a.2.2.1) ∧ (a.2.2.1 ≤ 1999)
def post_G_X11_findClash : Int × Int × Int × Int → Me_t → Int → Me_t → Prop := fun a σ z σ' => (∀ k j : Int, ¬ (k = 86 ∨ (93 ≤ k ∧ k ≤ 96)) → σ' k j = σ k j)
set_option maxHeartbeats 1500000 in
set_option maxRecDepth 100000 in
theorem ct_G_X11_findClash (l : Launch) : CT_ l yX11_findClash cX11_findClash 9 none 4 92 as_G_X11_findClash (rmV_) pre_G_X11_findClash post_G_X11_findClash := by
  refine ct_of (by decide) (fun _ => Nat.le_of_ble_eq_true rfl) ?_
  intro X G Q ad σ a hl hR E hG R hM hv hp
  obtain ⟨a1, a2, a3, a4⟩ := a
  have r_a1 : -2147483648 ≤ a1 ∧ a1 ≤ 2147483647 := hv (0, a1) (List.mem_of_getElem? (i := 1) rfl)
  have r_a2 : -2147483648 ≤ a2 ∧ a2 ≤ 2147483647 := hv (0, a2) (List.mem_of_getElem? (i := 2) rfl)
  have r_a3 : -2147483648 ≤ a3 ∧ a3 ≤ 2147483647 := hv (0, a3) (List.mem_of_getElem? (i := 3) rfl)
  have r_a4 : -2147483648 ≤ a4 ∧ a4 ≤ 2147483647 := hv (0, a4) (List.mem_of_getElem? (i := 4) rfl)
  have hp0 : MI σ := hp.1
  have hp1 : 0 ≤ a3 := hp.2.1
  have hp2 : a3 ≤ 1999 := hp.2.2
  have B := @bk_ X G Q 0 0 ad SHS_ RX11 cX11_findClash 9 none flX11 plX11 knX11 [(538, 1, TR_ as_G_X11_lay (rmV_) pre_G_X11_lay post_G_X11_lay), (508, 3, TR_ as_G_X11_mayOn (rmI_) pre_G_X11_mayOn post_G_X11_mayOn)] _ _ none kX11_findClash [23, 31, 34, 40, 46, 52, 63, 77, 92] flX11_ok plX11_ok knX11_ok eX11_findClash oX11_findClash
    (List.forall_mem_cons.mpr ⟨cok_v (t := 32) (c := 11) (N := 39) (n := 0) (idx := 269) E (ct_G_X11_lay X.2.1) (by rw [hR]; decide) (Nat.zero_le _) (Nat.zero_le _) hG rfl rfl ⟨rfl, by decide, by decide, by decide⟩ (fun _ => ⟨_, _, rfl, rfl⟩) wl_X11_269 wi_X11_lay ws_X11_lay wn_X11 wc_X11_lay, List.forall_mem_cons.mpr ⟨cok_v (t := 32) (c := 11) (N := 39) (n := 2) (idx := 254) E (ct_G_X11_mayOn X.2.1) (by rw [hR]; decide) (Nat.zero_le _) (Nat.zero_le _) hG rfl rfl ⟨rfl, by decide, by decide, by decide⟩ (fun _ => ⟨_, _, rfl, rfl⟩) wl_X11_254 wi_X11_mayOn ws_X11_mayOn wn_X11 wc_X11_mayOn, fun _ h => absurd h List.not_mem_nil⟩⟩) R sok_no E
  show WP_ X G Q 0 0 ad SHS_ σ 0 [(42, 86), (0, a1), (0, a2), (0, a3), (0, a4), (9, 0), (9, 0), (9, 0), (9, 0)] []
  refine B rfl ?_
  refine Exists.intro () (And.intro rfl (And.intro hp0 ?_))
  intro z1 σ3 h2
  have f4 : ∀ k j : Int, ¬ (93 ≤ k ∧ k ≤ 96) → σ3 k j = σ k j := h2.2
  have h5 : LY σ3 := h2.1
  intro σ6 e7
  intro σ8 e9
  show WP_ X G Q 0 0 ad SHS_ σ8 23 [(42, 86), (0, a1), (0, a2), (0, a3), (0, a4), (0, 0), (0, 0), (0, a3), (9, 0)] []
  refine wdrop_ (L' := [(42, 86), (0, a1), (0, a2), (9, 0), (0, a4), (0, 0), (0, 0), (0, a3), (9, 0)]) ⟨Or.inr rfl, ⟨Or.inr rfl, ⟨Or.inr rfl, ⟨Or.inl rfl, ⟨Or.inr rfl, ⟨Or.inr rfl, ⟨Or.inr rfl, ⟨Or.inr rfl, ⟨Or.inl rfl, trivial⟩⟩⟩⟩⟩⟩⟩⟩⟩ ?_
  have lp_23 : ∀ (nq_ : Nat) (v5 : Int) (v6 : Int) (v7 : Int) (τ23 : Me_t), (∀ k j : Int, ¬ (k = 86 ∨ (93 ≤ k ∧ k ≤ 96)) → τ23 k j = σ k j) → (a3 ≤ v7) → (v7 ≤ 2000) → (0 ≤ v5) → (v5 ≤ 3 * (v7 - a3)) → (0 ≤ v6) → (v6 ≤ v5) → (2000 - v7 : Int).toNat < nq_ → WP_ X G Q 0 0 ad SHS_ τ23 23 [(42, 86), (0, a1), (0, a2), (9, 0), (0, a4), (0, v5), (0, v6), (0, v7), (9, 0)] [] := by
    intro nq_
    induction nq_ with
    | zero => intros; omega
    | succ nq_ ih_23 =>
      intro v5 v6 v7 τ23 hf23 hi23_0 hi23_1 hi23_2 hi23_3 hi23_4 hi23_5 hm23
      refine B rfl ?_
      refine And.intro (fun h10 => ?_) (fun h10 => ?_)
      · skip
        refine B rfl ?_
        refine Exists.intro 0 (And.intro rfl ?_)
        exact (fun k j hk => (hf23 _ _ (by omega)))
      · skip
        show WP_ X G Q 0 0 ad SHS_ τ23 31 [(42, 86), (0, a1), (0, a2), (9, 0), (0, a4), (0, v5), (0, v6), (0, v7), (9, 0)] []
        refine B rfl ?_
        have lp_34 : ∀ (nq_ : Nat) (v5 : Int) (v6 : Int) (v8 : Int) (τ34 : Me_t), (∀ k j : Int, ¬ (k = 86 ∨ (93 ≤ k ∧ k ≤ 96)) → τ34 k j = σ k j) → (0 ≤ v8) → (v8 ≤ 3) → (0 ≤ v5) → (v5 ≤ 3 * (v7 - a3) + v8) → (0 ≤ v6) → (v6 ≤ v5) → (3 - v8 : Int).toNat < nq_ → WP_ X G Q 0 0 ad SHS_ τ34 34 [(42, 86), (0, a1), (0, a2), (9, 0), (0, a4), (0, v5), (0, v6), (0, v7), (0, v8)] [] := by
          intro nq_
          induction nq_ with
          | zero => intros; omega
          | succ nq_ ih_34 =>
            intro v5 v6 v8 τ34 hf34 hi34_0 hi34_1 hi34_2 hi34_3 hi34_4 hi34_5 hm34
            refine B rfl ?_
            refine And.intro (fun h11 => ?_) (fun h11 => ?_)
            · skip
              refine B rfl ?_
              refine And.intro (by omega) ?_
              show WP_ X G Q 0 0 ad SHS_ τ34 23 [(42, 86), (0, a1), (0, a2), (9, 0), (0, a4), (0, v5), (0, v6), (0, v7 + 1), (0, v8)] []
              refine wdrop_ (L' := [(42, 86), (0, a1), (0, a2), (9, 0), (0, a4), (0, v5), (0, v6), (0, v7 + 1), (9, 0)]) ⟨Or.inr rfl, ⟨Or.inr rfl, ⟨Or.inr rfl, ⟨Or.inl rfl, ⟨Or.inr rfl, ⟨Or.inr rfl, ⟨Or.inr rfl, ⟨Or.inr rfl, ⟨Or.inl rfl, trivial⟩⟩⟩⟩⟩⟩⟩⟩⟩ ?_
              exact ih_23 v5 v6 (v7 + 1) τ34 (fun k j hk => (hf34 _ _ (by omega))) (by show a3 ≤ (v7 + 1); omega) (by show (v7 + 1) ≤ 2000; omega) (by show 0 ≤ v5; omega) (by show v5 ≤ 3 * ((v7 + 1) - a3); omega) (by show 0 ≤ v6; omega) (by show v6 ≤ v5; omega) (by omega)
            · skip
              show WP_ X G Q 0 0 ad SHS_ τ34 40 [(42, 86), (0, a1), (0, a2), (9, 0), (0, a4), (0, v5), (0, v6), (0, v7), (0, v8)] []
              refine B rfl ?_
              refine And.intro (fun h12 => ?_) (fun h12 => ?_)
              · skip
                refine B rfl ?_
                refine Exists.intro (v8, v7) (And.intro rfl (And.intro (And.intro (by show 0 ≤ v8; omega) (And.intro (by show v8 ≤ 2; omega) (And.intro (by show 0 ≤ v7; omega) (by show v7 ≤ 1999; omega)))) ?_))
                rintro z13 m_ h14
                obtain rfl : τ34 = m_ := h14.2
                have h15 : (z13 = 1 ∧ τ34 96 (2000 * v8 + v7) = 0) ∨ (z13 = 0 ∧ τ34 96 (2000 * v8 + v7) ≠ 0) := h14.1
                try have t16 : τ34 96 (2000 * v8 + v7) = σ 96 (2000 * v8 + v7) := (hf34 _ _ (by omega))
                refine And.intro (fun h17 => ?_) (fun h17 => ?_)
                · skip
                  refine B rfl ?_
                  refine And.intro (by omega) ?_
                  refine And.intro (fun h18 => ?_) (fun h18 => ?_)
                  · skip
                    refine B rfl ?_
                    refine And.intro (by omega) ?_
                    refine And.intro (fun h19 => ?_) (fun h19 => ?_)
                    · skip
                      refine B rfl ?_
                      intro σ20 e21
                      intro σ22 e23
                      refine Exists.intro 0 (And.intro rfl ?_)
                      exact (fun k j hk => ((ups_r e23 (by omega)).trans ((ups_r e21 (by omega)).trans (hf34 _ _ (by omega)))))
                    · skip
                      show WP_ X G Q 0 0 ad SHS_ τ34 92 [(42, 86), (0, a1), (0, a2), (9, 0), (0, a4), (0, v5 + 1), (0, v6 + 0), (0, v7), (0, v8)] []
                      refine B rfl ?_
                      refine B rfl ?_
                      refine And.intro (by omega) ?_
                      exact ih_34 (v5 + 1) (v6 + 0) (v8 + 1) τ34 (fun k j hk => (hf34 _ _ (by omega))) (by show 0 ≤ (v8 + 1); omega) (by show (v8 + 1) ≤ 3; omega) (by show 0 ≤ (v5 + 1); omega) (by show (v5 + 1) ≤ 3 * (v7 - a3) + (v8 + 1); omega) (by show 0 ≤ (v6 + 0); omega) (by show (v6 + 0) ≤ (v5 + 1); omega) (by omega)
                  · skip
                    show WP_ X G Q 0 0 ad SHS_ τ34 77 [(42, 86), (0, a1), (0, a2), (9, 0), (0, a4), (0, v5 + 1), (0, v6), (0, v7), (0, v8)] [(0, v6)]
                    refine B rfl ?_
                    refine B rfl ?_
                    refine And.intro (by omega) ?_
                    refine And.intro (fun h24 => ?_) (fun h24 => ?_)
                    · skip
                      refine B rfl ?_
                      intro σ25 e26
                      intro σ27 e28
                      refine Exists.intro 0 (And.intro rfl ?_)
                      exact (fun k j hk => ((ups_r e28 (by omega)).trans ((ups_r e26 (by omega)).trans (hf34 _ _ (by omega)))))
                    · skip
                      show WP_ X G Q 0 0 ad SHS_ τ34 92 [(42, 86), (0, a1), (0, a2), (9, 0), (0, a4), (0, v5 + 1), (0, v6 + 1), (0, v7), (0, v8)] []
                      refine B rfl ?_
                      refine B rfl ?_
                      refine And.intro (by omega) ?_
                      exact ih_34 (v5 + 1) (v6 + 1) (v8 + 1) τ34 (fun k j hk => (hf34 _ _ (by omega))) (by show 0 ≤ (v8 + 1); omega) (by show (v8 + 1) ≤ 3; omega) (by show 0 ≤ (v5 + 1); omega) (by show (v5 + 1) ≤ 3 * (v7 - a3) + (v8 + 1); omega) (by show 0 ≤ (v6 + 1); omega) (by show (v6 + 1) ≤ (v5 + 1); omega) (by omega)
                · skip
                  show WP_ X G Q 0 0 ad SHS_ τ34 63 [(42, 86), (0, a1), (0, a2), (9, 0), (0, a4), (0, v5), (0, v6), (0, v7), (0, v8)] []
                  refine B rfl ?_
                  refine B rfl ?_
                  refine And.intro (by omega) ?_
                  exact ih_34 v5 v6 (v8 + 1) τ34 (fun k j hk => (hf34 _ _ (by omega))) (by show 0 ≤ (v8 + 1); omega) (by show (v8 + 1) ≤ 3; omega) (by show 0 ≤ v5; omega) (by show v5 ≤ 3 * (v7 - a3) + (v8 + 1); omega) (by show 0 ≤ v6; omega) (by show v6 ≤ v5; omega) (by omega)
              · skip
                show WP_ X G Q 0 0 ad SHS_ τ34 46 [(42, 86), (0, a1), (0, a2), (9, 0), (0, a4), (0, v5), (0, v6), (0, v7), (0, v8)] []
                refine B rfl ?_
                refine And.intro (fun h29 => ?_) (fun h29 => ?_)
                · skip
                  refine B rfl ?_
                  refine And.intro (by omega) ?_
                  exact ih_34 v5 v6 (v8 + 1) τ34 (fun k j hk => (hf34 _ _ (by omega))) (by show 0 ≤ (v8 + 1); omega) (by show (v8 + 1) ≤ 3; omega) (by show 0 ≤ v5; omega) (by show v5 ≤ 3 * (v7 - a3) + (v8 + 1); omega) (by show 0 ≤ v6; omega) (by show v6 ≤ v5; omega) (by omega)
                · skip
                  show WP_ X G Q 0 0 ad SHS_ τ34 52 [(42, 86), (0, a1), (0, a2), (9, 0), (0, a4), (0, v5), (0, v6), (0, v7), (0, v8)] []
                  refine B rfl ?_
                  refine Exists.intro (v8, v7) (And.intro rfl (And.intro (And.intro (by show 0 ≤ v8; omega) (And.intro (by show v8 ≤ 2; omega) (And.intro (by show 0 ≤ v7; omega) (by show v7 ≤ 1999; omega)))) ?_))
                  rintro z30 m_ h31
                  obtain rfl : τ34 = m_ := h31.2
                  have h32 : (z30 = 1 ∧ τ34 96 (2000 * v8 + v7) = 0) ∨ (z30 = 0 ∧ τ34 96 (2000 * v8 + v7) ≠ 0) := h31.1
                  try have t33 : τ34 96 (2000 * v8 + v7) = σ 96 (2000 * v8 + v7) := (hf34 _ _ (by omega))
                  refine And.intro (fun h34 => ?_) (fun h34 => ?_)
                  · skip
                    refine B rfl ?_
                    refine And.intro (by omega) ?_
                    refine And.intro (fun h35 => ?_) (fun h35 => ?_)
                    · skip
                      refine B rfl ?_
                      refine And.intro (by omega) ?_
                      refine And.intro (fun h36 => ?_) (fun h36 => ?_)
                      · skip
                        refine B rfl ?_
                        intro σ37 e38
                        intro σ39 e40
                        refine Exists.intro 0 (And.intro rfl ?_)
                        exact (fun k j hk => ((ups_r e40 (by omega)).trans ((ups_r e38 (by omega)).trans (hf34 _ _ (by omega)))))
                      · skip
                        show WP_ X G Q 0 0 ad SHS_ τ34 92 [(42, 86), (0, a1), (0, a2), (9, 0), (0, a4), (0, v5 + 1), (0, v6 + 0), (0, v7), (0, v8)] []
                        refine B rfl ?_
                        refine B rfl ?_
                        refine And.intro (by omega) ?_
                        exact ih_34 (v5 + 1) (v6 + 0) (v8 + 1) τ34 (fun k j hk => (hf34 _ _ (by omega))) (by show 0 ≤ (v8 + 1); omega) (by show (v8 + 1) ≤ 3; omega) (by show 0 ≤ (v5 + 1); omega) (by show (v5 + 1) ≤ 3 * (v7 - a3) + (v8 + 1); omega) (by show 0 ≤ (v6 + 0); omega) (by show (v6 + 0) ≤ (v5 + 1); omega) (by omega)
                    · skip
                      show WP_ X G Q 0 0 ad SHS_ τ34 77 [(42, 86), (0, a1), (0, a2), (9, 0), (0, a4), (0, v5 + 1), (0, v6), (0, v7), (0, v8)] [(0, v6)]
                      refine B rfl ?_
                      refine B rfl ?_
                      refine And.intro (by omega) ?_
                      refine And.intro (fun h41 => ?_) (fun h41 => ?_)
                      · skip
                        refine B rfl ?_
                        intro σ42 e43
                        intro σ44 e45
                        refine Exists.intro 0 (And.intro rfl ?_)
                        exact (fun k j hk => ((ups_r e45 (by omega)).trans ((ups_r e43 (by omega)).trans (hf34 _ _ (by omega)))))
                      · skip
                        show WP_ X G Q 0 0 ad SHS_ τ34 92 [(42, 86), (0, a1), (0, a2), (9, 0), (0, a4), (0, v5 + 1), (0, v6 + 1), (0, v7), (0, v8)] []
                        refine B rfl ?_
                        refine B rfl ?_
                        refine And.intro (by omega) ?_
                        exact ih_34 (v5 + 1) (v6 + 1) (v8 + 1) τ34 (fun k j hk => (hf34 _ _ (by omega))) (by show 0 ≤ (v8 + 1); omega) (by show (v8 + 1) ≤ 3; omega) (by show 0 ≤ (v5 + 1); omega) (by show (v5 + 1) ≤ 3 * (v7 - a3) + (v8 + 1); omega) (by show 0 ≤ (v6 + 1); omega) (by show (v6 + 1) ≤ (v5 + 1); omega) (by omega)
                  · skip
                    show WP_ X G Q 0 0 ad SHS_ τ34 63 [(42, 86), (0, a1), (0, a2), (9, 0), (0, a4), (0, v5), (0, v6), (0, v7), (0, v8)] []
                    refine B rfl ?_
                    refine B rfl ?_
                    refine And.intro (by omega) ?_
                    exact ih_34 v5 v6 (v8 + 1) τ34 (fun k j hk => (hf34 _ _ (by omega))) (by show 0 ≤ (v8 + 1); omega) (by show (v8 + 1) ≤ 3; omega) (by show 0 ≤ v5; omega) (by show v5 ≤ 3 * (v7 - a3) + (v8 + 1); omega) (by show 0 ≤ v6; omega) (by show v6 ≤ v5; omega) (by omega)
        exact lp_34 ((3 - 0 : Int).toNat + 1) v5 v6 0 τ23 (fun k j hk => (hf23 _ _ (by omega))) (by show 0 ≤ 0; omega) (by show 0 ≤ 3; omega) (by show 0 ≤ v5; omega) (by show v5 ≤ 3 * (v7 - a3) + 0; omega) (by show 0 ≤ v6; omega) (by show v6 ≤ v5; omega) (by omega)
  exact lp_23 ((2000 - a3 : Int).toNat + 1) 0 0 a3 σ8 (fun k j hk => ((ups_r e9 (by omega)).trans ((ups_r e7 (by omega)).trans (f4 _ _ (by omega))))) (by show a3 ≤ a3; omega) (by show a3 ≤ 2000; omega) (by show 0 ≤ 0; omega) (by show 0 ≤ 3 * (a3 - a3); omega) (by show 0 ≤ 0; omega) (by show 0 ≤ 0; omega) (by omega)
def as_G_X11_isClash : Int × Int × Int × Int → List Sv_t := fun a => [(42, 86), (0, a.1), (0, a.2.1), (0, a.2.2.1), (0, a.2.2.2)]
def pre_G_X11_isClash : Int × Int × Int × Int → Me_t → Prop := fun a σ => (BW σ 87)
def post_G_X11_isClash : Int × Int × Int × Int → Me_t → Int → Me_t → Prop := fun a σ z σ' => ((z = 1 ∧ 0 ≤ a.1 ∧ a.1 ≤ 2 ∧ 0 ≤ a.2.1 ∧ a.2.1 ≤ 2 ∧ a.1 ≠ a.2.1 ∧ 0 ≤ a.2.2.1 ∧ a.2.2.1 ≤ 1999 ∧ 1 ≤ a.2.2.2) ∨ z = 0) ∧ (σ = σ')
set_option maxHeartbeats 1500000 in
set_option maxRecDepth 100000 in
theorem ct_G_X11_isClash (l : Launch) : CT_ l yX11_isClash cX11_isClash 5 (some .boolean) 3 69 as_G_X11_isClash (rmI_) pre_G_X11_isClash post_G_X11_isClash := by
  refine ct_of (by decide) (fun _ => Nat.le_of_ble_eq_true rfl) ?_
  intro X G Q ad σ a hl hR E hG R hM hv hp
  obtain ⟨a1, a2, a3, a4⟩ := a
  have r_a1 : -2147483648 ≤ a1 ∧ a1 ≤ 2147483647 := hv (0, a1) (List.mem_of_getElem? (i := 1) rfl)
  have r_a2 : -2147483648 ≤ a2 ∧ a2 ≤ 2147483647 := hv (0, a2) (List.mem_of_getElem? (i := 2) rfl)
  have r_a3 : -2147483648 ≤ a3 ∧ a3 ≤ 2147483647 := hv (0, a3) (List.mem_of_getElem? (i := 3) rfl)
  have r_a4 : -2147483648 ≤ a4 ∧ a4 ≤ 2147483647 := hv (0, a4) (List.mem_of_getElem? (i := 4) rfl)
  have hp0 : BW σ 87 := hp
  have B := @bk_ X G Q 0 0 ad SHS_ RX11 cX11_isClash 5 (some .boolean) flX11 plX11 knX11 [(630, 3, TR_ as_G_X11_areTwo (rmI_) pre_G_X11_areTwo post_G_X11_areTwo), (179, 1, TR_ as_G_X11_isDay (rmI_) pre_G_X11_isDay post_G_X11_isDay)] _ _ none kX11_isClash [] flX11_ok plX11_ok knX11_ok eX11_isClash oX11_isClash
    (List.forall_mem_cons.mpr ⟨cok_v (t := 32) (c := 11) (N := 39) (n := 2) (idx := 315) E (ct_G_X11_areTwo X.2.1) (by rw [hR]; decide) (Nat.zero_le _) (Nat.zero_le _) hG rfl rfl ⟨rfl, by decide, by decide, by decide⟩ (fun _ => ⟨_, _, rfl, rfl⟩) wl_X11_315 wi_X11_areTwo ws_X11_areTwo wn_X11 wc_X11_areTwo, List.forall_mem_cons.mpr ⟨cok_s (n := 1) (idx := 89) E (ct_G_X11_isDay X.2.1) (by rw [hR]; decide) (Nat.zero_le _) (Nat.zero_le _) hG ⟨by decide, by decide, by decide⟩ (fun _ => rfl) wl_X11_89 wt_X11_isDay wn_X11 wc_X11_isDay, fun _ h => absurd h List.not_mem_nil⟩⟩) R sok_no E
  show WP_ X G Q 0 0 ad SHS_ σ 0 [(42, 86), (0, a1), (0, a2), (0, a3), (0, a4)] []
  refine B rfl ?_
  refine Exists.intro (a1, a2) (And.intro rfl (And.intro hp0 ?_))
  rintro z1 m_ h2
  obtain rfl : σ = m_ := h2.2
  have h3 : (z1 = 1 ∧ 0 ≤ a1 ∧ a1 ≤ 2 ∧ a1 < σ 87 1 ∧ 0 ≤ a2 ∧ a2 ≤ 2 ∧ a2 < σ 87 1 ∧ a1 ≠ a2) ∨ z1 = 0 := h2.1
  refine And.intro (fun h4 => ?_) (fun h4 => ?_)
  · skip
    refine B rfl ?_
    refine And.intro (by omega) ?_
    refine Exists.intro _ (And.intro rfl ?_)
    exact (And.intro (by show (0 = 1 ∧ 0 ≤ a1 ∧ a1 ≤ 2 ∧ 0 ≤ a2 ∧ a2 ≤ 2 ∧ a1 ≠ a2 ∧ 0 ≤ a3 ∧ a3 ≤ 1999 ∧ 1 ≤ a4) ∨ 0 = 0; omega) rfl)
  · skip
    refine Exists.intro a3 (And.intro rfl (And.intro True.intro ?_))
    rintro z5 m_ h6
    obtain rfl : σ = m_ := h6.2
    have h7 : (z5 = 1 ∧ 0 ≤ a3 ∧ a3 ≤ 1999) ∨ z5 = 0 := h6.1
    refine And.intro (fun h8 => ?_) (fun h8 => ?_)
    · skip
      refine B rfl ?_
      refine And.intro (by omega) ?_
      refine Exists.intro _ (And.intro rfl ?_)
      exact (And.intro (by show (0 = 1 ∧ 0 ≤ a1 ∧ a1 ≤ 2 ∧ 0 ≤ a2 ∧ a2 ≤ 2 ∧ a1 ≠ a2 ∧ 0 ≤ a3 ∧ a3 ≤ 1999 ∧ 1 ≤ a4) ∨ 0 = 0; omega) rfl)
    · skip
      refine And.intro (fun h9 => ?_) (fun h9 => ?_)
      · skip
        refine B rfl ?_
        refine And.intro (by omega) ?_
        refine Exists.intro _ (And.intro rfl ?_)
        exact (And.intro (by show (0 = 1 ∧ 0 ≤ a1 ∧ a1 ≤ 2 ∧ 0 ≤ a2 ∧ a2 ≤ 2 ∧ a1 ≠ a2 ∧ 0 ≤ a3 ∧ a3 ≤ 1999 ∧ 1 ≤ a4) ∨ 0 = 0; omega) rfl)
      · skip
        refine B rfl ?_
        refine And.intro (by omega) ?_
        refine Exists.intro _ (And.intro rfl ?_)
        exact (And.intro (by show (1 = 1 ∧ 0 ≤ a1 ∧ a1 ≤ 2 ∧ 0 ≤ a2 ∧ a2 ≤ 2 ∧ a1 ≠ a2 ∧ 0 ≤ a3 ∧ a3 ≤ 1999 ∧ 1 ≤ a4) ∨ 1 = 0; omega) rfl)
def as_G_X11_clash : Int × Int × Int × Int → List Sv_t := fun a => [(42, 86), (0, a.1), (0, a.2.1), (0, a.2.2.1), (0, a.2.2.2)]
def pre_G_X11_clash : Int × Int × Int × Int → Me_t → Prop := fun a σ => (MI σ)
def post_G_X11_clash : Int × Int × Int × Int → Me_t → Int → Me_t → Prop := fun a σ z σ' => (∀ k j : Int, ¬ (k = 86 ∨ (93 ≤ k ∧ k ≤ 96)) → σ' k j = σ k j)
set_option maxHeartbeats 1500000 in
set_option maxRecDepth 100000 in
theorem ct_G_X11_clash (l : Launch) : CT_ l yX11_clash cX11_clash 5 (some .int) 5 120 as_G_X11_clash (rmI_) pre_G_X11_clash post_G_X11_clash := by
  refine ct_of (by decide) (fun _ => Nat.le_of_ble_eq_true rfl) ?_
  intro X G Q ad σ a hl hR E hG R hM hv hp
  obtain ⟨a1, a2, a3, a4⟩ := a
  have r_a1 : -2147483648 ≤ a1 ∧ a1 ≤ 2147483647 := hv (0, a1) (List.mem_of_getElem? (i := 1) rfl)
  have r_a2 : -2147483648 ≤ a2 ∧ a2 ≤ 2147483647 := hv (0, a2) (List.mem_of_getElem? (i := 2) rfl)
  have r_a3 : -2147483648 ≤ a3 ∧ a3 ≤ 2147483647 := hv (0, a3) (List.mem_of_getElem? (i := 3) rfl)
  have r_a4 : -2147483648 ≤ a4 ∧ a4 ≤ 2147483647 := hv (0, a4) (List.mem_of_getElem? (i := 4) rfl)
  have hp0 : MI σ := hp
  have B := @bk_ X G Q 0 0 ad SHS_ RX11 cX11_clash 5 (some .int) flX11 plX11 knX11 [(816, 5, TR_ as_G_X11_isClash (rmI_) pre_G_X11_isClash post_G_X11_isClash), (824, 5, TR_ as_G_X11_findClash (rmV_) pre_G_X11_findClash post_G_X11_findClash)] _ _ none kX11_clash [] flX11_ok plX11_ok knX11_ok eX11_clash oX11_clash
    (List.forall_mem_cons.mpr ⟨cok_v (t := 32) (c := 11) (N := 39) (n := 4) (idx := 408) E (ct_G_X11_isClash X.2.1) (by rw [hR]; decide) (Nat.zero_le _) (Nat.zero_le _) hG rfl rfl ⟨rfl, by decide, by decide, by decide⟩ (fun _ => ⟨_, _, rfl, rfl⟩) wl_X11_408 wi_X11_isClash ws_X11_isClash wn_X11 wc_X11_isClash, List.forall_mem_cons.mpr ⟨cok_v (t := 32) (c := 11) (N := 39) (n := 4) (idx := 412) E (ct_G_X11_findClash X.2.1) (by rw [hR]; decide) (Nat.zero_le _) (Nat.zero_le _) hG rfl rfl ⟨rfl, by decide, by decide, by decide⟩ (fun _ => ⟨_, _, rfl, rfl⟩) wl_X11_412 wi_X11_findClash ws_X11_findClash wn_X11 wc_X11_findClash, fun _ h => absurd h List.not_mem_nil⟩⟩) R sok_no E
  show WP_ X G Q 0 0 ad SHS_ σ 0 [(42, 86), (0, a1), (0, a2), (0, a3), (0, a4)] []
  refine B rfl ?_
  have p1 : BW σ 87 := (hp0).1.1
  refine Exists.intro (a1, a2, a3, a4) (And.intro rfl (And.intro p1 ?_))
  rintro z2 m_ h3
  obtain rfl : σ = m_ := h3.2
  have h4 : (z2 = 1 ∧ 0 ≤ a1 ∧ a1 ≤ 2 ∧ 0 ≤ a2 ∧ a2 ≤ 2 ∧ a1 ≠ a2 ∧ 0 ≤ a3 ∧ a3 ≤ 1999 ∧ 1 ≤ a4) ∨ z2 = 0 := h3.1
  refine And.intro (fun h5 => ?_) (fun h5 => ?_)
  · skip
    refine B rfl ?_
    refine Exists.intro (a1, a2, a3, a4) (And.intro rfl (And.intro (And.intro hp0 (And.intro (by show 0 ≤ a3; omega) (by show a3 ≤ 1999; omega))) ?_))
    intro z6 σ8 h7
    have f9 : ∀ k j : Int, ¬ (k = 86 ∨ (93 ≤ k ∧ k ≤ 96)) → σ8 k j = σ k j := h7
    intro z10 ez10 hz10
    have hz10 : ((-2147483648) : Int) ≤ z10 ∧ z10 ≤ (2147483647 : Int) := rgl_ hz10 (by decide +kernel) (by decide +kernel) (by decide +kernel)
    try have t11 : σ8 86 26 = σ 86 26 := (f9 _ _ (by omega))
    refine Exists.intro _ (And.intro rfl ?_)
    exact (fun k j hk => (f9 _ _ (by omega)))
  · skip
    refine Exists.intro _ (And.intro rfl ?_)
    exact (fun k j hk => rfl)
def as_G_X11_place : Int × Int × Int × Int → List Sv_t := fun a => [(42, 86), (0, a.1), (0, a.2.1), (0, a.2.2.1), (0, a.2.2.2)]
def pre_G_X11_place : Int × Int × Int × Int → Me_t → Prop := fun a σ => (MI σ)
def post_G_X11_place : Int × Int × Int × Int → Me_t → Int → Me_t → Prop := fun a σ z σ' => (∀ k j : Int, ¬ (k = 86 ∨ (93 ≤ k ∧ k ≤ 96)) → σ' k j = σ k j)
set_option maxHeartbeats 1500000 in
set_option maxRecDepth 100000 in
theorem ct_G_X11_place (l : Launch) : CT_ l yX11_place cX11_place 5 (some .int) 5 120 as_G_X11_place (rmI_) pre_G_X11_place post_G_X11_place := by
  refine ct_of (by decide) (fun _ => Nat.le_of_ble_eq_true rfl) ?_
  intro X G Q ad σ a hl hR E hG R hM hv hp
  obtain ⟨a1, a2, a3, a4⟩ := a
  have r_a1 : -2147483648 ≤ a1 ∧ a1 ≤ 2147483647 := hv (0, a1) (List.mem_of_getElem? (i := 1) rfl)
  have r_a2 : -2147483648 ≤ a2 ∧ a2 ≤ 2147483647 := hv (0, a2) (List.mem_of_getElem? (i := 2) rfl)
  have r_a3 : -2147483648 ≤ a3 ∧ a3 ≤ 2147483647 := hv (0, a3) (List.mem_of_getElem? (i := 3) rfl)
  have r_a4 : -2147483648 ≤ a4 ∧ a4 ≤ 2147483647 := hv (0, a4) (List.mem_of_getElem? (i := 4) rfl)
  have hp0 : MI σ := hp
  have B := @bk_ X G Q 0 0 ad SHS_ RX11 cX11_place 5 (some .int) flX11 plX11 knX11 [(816, 5, TR_ as_G_X11_isClash (rmI_) pre_G_X11_isClash post_G_X11_isClash), (824, 5, TR_ as_G_X11_findClash (rmV_) pre_G_X11_findClash post_G_X11_findClash)] _ _ none kX11_place [] flX11_ok plX11_ok knX11_ok eX11_place oX11_place
    (List.forall_mem_cons.mpr ⟨cok_v (t := 32) (c := 11) (N := 39) (n := 4) (idx := 408) E (ct_G_X11_isClash X.2.1) (by rw [hR]; decide) (Nat.zero_le _) (Nat.zero_le _) hG rfl rfl ⟨rfl, by decide, by decide, by decide⟩ (fun _ => ⟨_, _, rfl, rfl⟩) wl_X11_408 wi_X11_isClash ws_X11_isClash wn_X11 wc_X11_isClash, List.forall_mem_cons.mpr ⟨cok_v (t := 32) (c := 11) (N := 39) (n := 4) (idx := 412) E (ct_G_X11_findClash X.2.1) (by rw [hR]; decide) (Nat.zero_le _) (Nat.zero_le _) hG rfl rfl ⟨rfl, by decide, by decide, by decide⟩ (fun _ => ⟨_, _, rfl, rfl⟩) wl_X11_412 wi_X11_findClash ws_X11_findClash wn_X11 wc_X11_findClash, fun _ h => absurd h List.not_mem_nil⟩⟩) R sok_no E
  show WP_ X G Q 0 0 ad SHS_ σ 0 [(42, 86), (0, a1), (0, a2), (0, a3), (0, a4)] []
  refine B rfl ?_
  have p1 : BW σ 87 := (hp0).1.1
  refine Exists.intro (a1, a2, a3, a4) (And.intro rfl (And.intro p1 ?_))
  rintro z2 m_ h3
  obtain rfl : σ = m_ := h3.2
  have h4 : (z2 = 1 ∧ 0 ≤ a1 ∧ a1 ≤ 2 ∧ 0 ≤ a2 ∧ a2 ≤ 2 ∧ a1 ≠ a2 ∧ 0 ≤ a3 ∧ a3 ≤ 1999 ∧ 1 ≤ a4) ∨ z2 = 0 := h3.1
  refine And.intro (fun h5 => ?_) (fun h5 => ?_)
  · skip
    refine B rfl ?_
    refine Exists.intro (a1, a2, a3, a4) (And.intro rfl (And.intro (And.intro hp0 (And.intro (by show 0 ≤ a3; omega) (by show a3 ≤ 1999; omega))) ?_))
    intro z6 σ8 h7
    have f9 : ∀ k j : Int, ¬ (k = 86 ∨ (93 ≤ k ∧ k ≤ 96)) → σ8 k j = σ k j := h7
    intro z10 ez10 hz10
    have hz10 : ((-2147483648) : Int) ≤ z10 ∧ z10 ≤ (2147483647 : Int) := rgl_ hz10 (by decide +kernel) (by decide +kernel) (by decide +kernel)
    try have t11 : σ8 86 27 = σ 86 27 := (f9 _ _ (by omega))
    refine Exists.intro _ (And.intro rfl ?_)
    exact (fun k j hk => (f9 _ _ (by omega)))
  · skip
    refine Exists.intro _ (And.intro rfl ?_)
    exact (fun k j hk => rfl)
def as_G_X11_aloneOf : Int × Int × Int × Int → List Sv_t := fun a => [(42, 86), (0, a.1), (0, a.2.1), (0, a.2.2.1), (0, a.2.2.2)]
def pre_G_X11_aloneOf : Int × Int × Int × Int → Me_t → Prop := fun a σ => (0 ≤ a.1) ∧ (a.1 ≤ 2) ∧ (0 ≤ a.2.1) ∧ (a.2.1 ≤ 2) ∧ (0 ≤ a.2.2.1) ∧ (a.2.2.1 ≤ 4000)
def post_G_X11_aloneOf : Int × Int × Int × Int → Me_t → Int → Me_t → Prop := fun a σ z σ' => (0 ≤ z ∧ z ≤ 2000) ∧ (σ = σ')
set_option maxHeartbeats 1500000 in
set_option maxRecDepth 100000 in
theorem ct_G_X11_aloneOf (l : Launch) : CT_ l yX11_aloneOf cX11_aloneOf 7 (some .int) 2 43 as_G_X11_aloneOf (rmI_) pre_G_X11_aloneOf post_G_X11_aloneOf := by
  refine ct_of (by decide) (fun _ => Nat.le_of_ble_eq_true rfl) ?_
  intro X G Q ad σ a hl hR E hG R hM hv hp
  obtain ⟨a1, a2, a3, a4⟩ := a
  have r_a1 : -2147483648 ≤ a1 ∧ a1 ≤ 2147483647 := hv (0, a1) (List.mem_of_getElem? (i := 1) rfl)
  have r_a2 : -2147483648 ≤ a2 ∧ a2 ≤ 2147483647 := hv (0, a2) (List.mem_of_getElem? (i := 2) rfl)
  have r_a3 : -2147483648 ≤ a3 ∧ a3 ≤ 2147483647 := hv (0, a3) (List.mem_of_getElem? (i := 3) rfl)
  have r_a4 : -2147483648 ≤ a4 ∧ a4 ≤ 2147483647 := hv (0, a4) (List.mem_of_getElem? (i := 4) rfl)
  have hp0 : 0 ≤ a1 := hp.1
  have hp1 : a1 ≤ 2 := hp.2.1
  have hp2 : 0 ≤ a2 := hp.2.2.1
  have hp3 : a2 ≤ 2 := hp.2.2.2.1
  have hp4 : 0 ≤ a3 := hp.2.2.2.2.1
  have hp5 : a3 ≤ 4000 := hp.2.2.2.2.2
  have B := @bk_ X G Q 0 0 ad SHS_ RX11 cX11_aloneOf 7 (some .int) flX11 plX11 knX11 [(508, 3, TR_ as_G_X11_mayOn (rmI_) pre_G_X11_mayOn post_G_X11_mayOn)] _ _ none kX11_aloneOf [6] flX11_ok plX11_ok knX11_ok eX11_aloneOf oX11_aloneOf
    (List.forall_mem_cons.mpr ⟨cok_v (t := 32) (c := 11) (N := 39) (n := 2) (idx := 254) E (ct_G_X11_mayOn X.2.1) (by rw [hR]; decide) (Nat.zero_le _) (Nat.zero_le _) hG rfl rfl ⟨rfl, by decide, by decide, by decide⟩ (fun _ => ⟨_, _, rfl, rfl⟩) wl_X11_254 wi_X11_mayOn ws_X11_mayOn wn_X11 wc_X11_mayOn, fun _ h => absurd h List.not_mem_nil⟩) R sok_no E
  show WP_ X G Q 0 0 ad SHS_ σ 0 [(42, 86), (0, a1), (0, a2), (0, a3), (0, a4), (9, 0), (9, 0)] []
  refine B rfl ?_
  show WP_ X G Q 0 0 ad SHS_ σ 6 [(42, 86), (0, a1), (0, a2), (0, a3), (0, a4), (0, 0), (0, a3)] []
  refine wdrop_ (L' := [(42, 86), (0, a1), (0, a2), (9, 0), (0, a4), (0, 0), (0, a3)]) ⟨Or.inr rfl, ⟨Or.inr rfl, ⟨Or.inr rfl, ⟨Or.inl rfl, ⟨Or.inr rfl, ⟨Or.inr rfl, ⟨Or.inr rfl, trivial⟩⟩⟩⟩⟩⟩⟩ ?_
  have lp_6 : ∀ (nq_ : Nat) (v5 : Int) (v6 : Int), (a3 ≤ v6) → (v6 ≤ 4000) → (0 ≤ v5) → (v5 ≤ v6 - a3) → (v6 ≤ 2000 ∨ v5 = 0) → (v5 ≤ 2000) → (4000 - v6 : Int).toNat < nq_ → WP_ X G Q 0 0 ad SHS_ σ 6 [(42, 86), (0, a1), (0, a2), (9, 0), (0, a4), (0, v5), (0, v6)] [] := by
    intro nq_
    induction nq_ with
    | zero => intros; omega
    | succ nq_ ih_6 =>
      intro v5 v6 hi6_0 hi6_1 hi6_2 hi6_3 hi6_4 hi6_5 hm6
      refine B rfl ?_
      refine And.intro (fun h1 => ?_) (fun h1 => ?_)
      · skip
        refine B rfl ?_
        refine Exists.intro _ (And.intro rfl ?_)
        exact (And.intro (by show 0 ≤ v5 ∧ v5 ≤ 2000; omega) rfl)
      · skip
        refine And.intro (fun h2 => ?_) (fun h2 => ?_)
        · skip
          refine B rfl ?_
          refine Exists.intro _ (And.intro rfl ?_)
          exact (And.intro (by show 0 ≤ v5 ∧ v5 ≤ 2000; omega) rfl)
        · skip
          refine Exists.intro (a1, v6) (And.intro rfl (And.intro (And.intro (by show 0 ≤ a1; omega) (And.intro (by show a1 ≤ 2; omega) (And.intro (by show 0 ≤ v6; omega) (by show v6 ≤ 1999; omega)))) ?_))
          rintro z3 m_ h4
          obtain rfl : σ = m_ := h4.2
          have h5 : (z3 = 1 ∧ σ 96 (2000 * a1 + v6) = 0) ∨ (z3 = 0 ∧ σ 96 (2000 * a1 + v6) ≠ 0) := h4.1
          refine And.intro (fun h6 => ?_) (fun h6 => ?_)
          · skip
            refine B rfl ?_
            refine And.intro (by omega) ?_
            refine And.intro (by omega) ?_
            exact ih_6 (v5 + 0) (v6 + 1) (by show a3 ≤ (v6 + 1); omega) (by show (v6 + 1) ≤ 4000; omega) (by show 0 ≤ (v5 + 0); omega) (by show (v5 + 0) ≤ (v6 + 1) - a3; omega) (by show (v6 + 1) ≤ 2000 ∨ (v5 + 0) = 0; omega) (by show (v5 + 0) ≤ 2000; omega) (by omega)
          · skip
            refine Exists.intro (a2, v6) (And.intro rfl (And.intro (And.intro (by show 0 ≤ a2; omega) (And.intro (by show a2 ≤ 2; omega) (And.intro (by show 0 ≤ v6; omega) (by show v6 ≤ 1999; omega)))) ?_))
            rintro z7 m_ h8
            obtain rfl : σ = m_ := h8.2
            have h9 : (z7 = 1 ∧ σ 96 (2000 * a2 + v6) = 0) ∨ (z7 = 0 ∧ σ 96 (2000 * a2 + v6) ≠ 0) := h8.1
            refine And.intro (fun h10 => ?_) (fun h10 => ?_)
            · skip
              refine B rfl ?_
              refine And.intro (by omega) ?_
              refine And.intro (by omega) ?_
              exact ih_6 (v5 + 0) (v6 + 1) (by show a3 ≤ (v6 + 1); omega) (by show (v6 + 1) ≤ 4000; omega) (by show 0 ≤ (v5 + 0); omega) (by show (v5 + 0) ≤ (v6 + 1) - a3; omega) (by show (v6 + 1) ≤ 2000 ∨ (v5 + 0) = 0; omega) (by show (v5 + 0) ≤ 2000; omega) (by omega)
            · skip
              refine B rfl ?_
              refine And.intro (by omega) ?_
              refine And.intro (by omega) ?_
              exact ih_6 (v5 + 1) (v6 + 1) (by show a3 ≤ (v6 + 1); omega) (by show (v6 + 1) ≤ 4000; omega) (by show 0 ≤ (v5 + 1); omega) (by show (v5 + 1) ≤ (v6 + 1) - a3; omega) (by show (v6 + 1) ≤ 2000 ∨ (v5 + 1) = 0; omega) (by show (v5 + 1) ≤ 2000; omega) (by omega)
  exact lp_6 ((4000 - a3 : Int).toNat + 1) 0 a3 (by show a3 ≤ a3; omega) (by show a3 ≤ 4000; omega) (by show 0 ≤ 0; omega) (by show 0 ≤ a3 - a3; omega) (by show a3 ≤ 2000 ∨ 0 = 0; omega) (by show 0 ≤ 2000; omega) (by omega)
def as_G_X11_alone : Int × Int × Int × Int → List Sv_t := fun a => [(42, 86), (0, a.1), (0, a.2.1), (0, a.2.2.1), (0, a.2.2.2)]
def pre_G_X11_alone : Int × Int × Int × Int → Me_t → Prop := fun a σ => (MI σ)
def post_G_X11_alone : Int × Int × Int × Int → Me_t → Int → Me_t → Prop := fun a σ z σ' => (∀ k j : Int, ¬ (93 ≤ k ∧ k ≤ 96) → σ' k j = σ k j)
set_option maxHeartbeats 1500000 in
set_option maxRecDepth 100000 in
theorem ct_G_X11_alone (l : Launch) : CT_ l yX11_alone cX11_alone 5 (some .int) 4 92 as_G_X11_alone (rmI_) pre_G_X11_alone post_G_X11_alone := by
  refine ct_of (by decide) (fun _ => Nat.le_of_ble_eq_true rfl) ?_
  intro X G Q ad σ a hl hR E hG R hM hv hp
  obtain ⟨a1, a2, a3, a4⟩ := a
  have r_a1 : -2147483648 ≤ a1 ∧ a1 ≤ 2147483647 := hv (0, a1) (List.mem_of_getElem? (i := 1) rfl)
  have r_a2 : -2147483648 ≤ a2 ∧ a2 ≤ 2147483647 := hv (0, a2) (List.mem_of_getElem? (i := 2) rfl)
  have r_a3 : -2147483648 ≤ a3 ∧ a3 ≤ 2147483647 := hv (0, a3) (List.mem_of_getElem? (i := 3) rfl)
  have r_a4 : -2147483648 ≤ a4 ∧ a4 ≤ 2147483647 := hv (0, a4) (List.mem_of_getElem? (i := 4) rfl)
  have hp0 : MI σ := hp
  have B := @bk_ X G Q 0 0 ad SHS_ RX11 cX11_alone 5 (some .int) flX11 plX11 knX11 [(630, 3, TR_ as_G_X11_areTwo (rmI_) pre_G_X11_areTwo post_G_X11_areTwo), (593, 2, TR_ as_G_X11_isSpan (rmI_) pre_G_X11_isSpan post_G_X11_isSpan), (538, 1, TR_ as_G_X11_lay (rmV_) pre_G_X11_lay post_G_X11_lay), (830, 5, TR_ as_G_X11_aloneOf (rmI_) pre_G_X11_aloneOf post_G_X11_aloneOf)] _ _ none kX11_alone [] flX11_ok plX11_ok knX11_ok eX11_alone oX11_alone
    (List.forall_mem_cons.mpr ⟨cok_v (t := 32) (c := 11) (N := 39) (n := 2) (idx := 315) E (ct_G_X11_areTwo X.2.1) (by rw [hR]; decide) (Nat.zero_le _) (Nat.zero_le _) hG rfl rfl ⟨rfl, by decide, by decide, by decide⟩ (fun _ => ⟨_, _, rfl, rfl⟩) wl_X11_315 wi_X11_areTwo ws_X11_areTwo wn_X11 wc_X11_areTwo, List.forall_mem_cons.mpr ⟨cok_s (n := 2) (idx := 296) E (ct_G_X11_isSpan X.2.1) (by rw [hR]; decide) (Nat.zero_le _) (Nat.zero_le _) hG ⟨by decide, by decide, by decide⟩ (fun _ => rfl) wl_X11_296 wt_X11_isSpan wn_X11 wc_X11_isSpan, List.forall_mem_cons.mpr ⟨cok_v (t := 32) (c := 11) (N := 39) (n := 0) (idx := 269) E (ct_G_X11_lay X.2.1) (by rw [hR]; decide) (Nat.zero_le _) (Nat.zero_le _) hG rfl rfl ⟨rfl, by decide, by decide, by decide⟩ (fun _ => ⟨_, _, rfl, rfl⟩) wl_X11_269 wi_X11_lay ws_X11_lay wn_X11 wc_X11_lay, List.forall_mem_cons.mpr ⟨cok_v (t := 32) (c := 11) (N := 39) (n := 4) (idx := 415) E (ct_G_X11_aloneOf X.2.1) (by rw [hR]; decide) (Nat.zero_le _) (Nat.zero_le _) hG rfl rfl ⟨rfl, by decide, by decide, by decide⟩ (fun _ => ⟨_, _, rfl, rfl⟩) wl_X11_415 wi_X11_aloneOf ws_X11_aloneOf wn_X11 wc_X11_aloneOf, fun _ h => absurd h List.not_mem_nil⟩⟩⟩⟩) R sok_no E
  show WP_ X G Q 0 0 ad SHS_ σ 0 [(42, 86), (0, a1), (0, a2), (0, a3), (0, a4)] []
  refine B rfl ?_
  have p1 : BW σ 87 := (hp0).1.1
  refine Exists.intro (a1, a2) (And.intro rfl (And.intro p1 ?_))
  rintro z2 m_ h3
  obtain rfl : σ = m_ := h3.2
  have h4 : (z2 = 1 ∧ 0 ≤ a1 ∧ a1 ≤ 2 ∧ a1 < σ 87 1 ∧ 0 ≤ a2 ∧ a2 ≤ 2 ∧ a2 < σ 87 1 ∧ a1 ≠ a2) ∨ z2 = 0 := h3.1
  refine And.intro (fun h5 => ?_) (fun h5 => ?_)
  · skip
    refine B rfl ?_
    refine Exists.intro _ (And.intro rfl ?_)
    exact (fun k j hk => rfl)
  · skip
    refine Exists.intro (a3, a4) (And.intro rfl (And.intro True.intro ?_))
    rintro z6 m_ h7
    obtain rfl : σ = m_ := h7.2
    have h8 : (z6 = 1 ∧ 0 ≤ a3 ∧ a3 ≤ a4 ∧ a4 ≤ 1999) ∨ z6 = 0 := h7.1
    refine And.intro (fun h9 => ?_) (fun h9 => ?_)
    · skip
      refine B rfl ?_
      refine Exists.intro () (And.intro rfl (And.intro hp0 ?_))
      intro z10 σ12 h11
      have f13 : ∀ k j : Int, ¬ (93 ≤ k ∧ k ≤ 96) → σ12 k j = σ k j := h11.2
      have h14 : LY σ12 := h11.1
      refine Exists.intro (a1, a2, a3, a4) (And.intro rfl (And.intro (And.intro (by show 0 ≤ a1; omega) (And.intro (by show a1 ≤ 2; omega) (And.intro (by show 0 ≤ a2; omega) (And.intro (by show a2 ≤ 2; omega) (And.intro (by show 0 ≤ a3; omega) (by show a3 ≤ 4000; omega)))))) ?_))
      rintro z15 m_ h16
      obtain rfl : σ12 = m_ := h16.2
      have h17 : 0 ≤ z15 ∧ z15 ≤ 2000 := h16.1
      refine Exists.intro _ (And.intro rfl ?_)
      exact (fun k j hk => (f13 _ _ (by omega)))
    · skip
      refine Exists.intro _ (And.intro rfl ?_)
      exact (fun k j hk => rfl)
def as_G_X11_beginOf : Int × Int × Int × Int × Int → List Sv_t := fun a => [(42, 86), (0, a.1), (0, a.2.1), (0, a.2.2.1), (0, a.2.2.2.1), (0, a.2.2.2.2)]
def pre_G_X11_beginOf : Int × Int × Int × Int × Int → Me_t → Prop := fun a σ => (MI σ) ∧ (0 ≤ a.1) ∧ (a.1 ≤ 2) ∧ (0 ≤ a.2.1) ∧ (a.2.1 ≤ 2) ∧ (0 ≤ a.2.2.1) ∧ (a.2.2.1 ≤ a.2.2.2.1) ∧ (a.2.2.2.1 ≤ 1999) ∧ (1 ≤ a.2.2.2.2) ∧ (a.2.2.2.2 ≤ 200)
def post_G_X11_beginOf : Int × Int × Int × Int × Int → Me_t → Int → Me_t → Prop := fun a σ z σ' => (∀ k j : Int, ¬ (k = 86 ∨ (93 ≤ k ∧ k ≤ 96)) → σ' k j = σ k j)
set_option maxHeartbeats 1500000 in
set_option maxRecDepth 100000 in
theorem ct_G_X11_beginOf (l : Launch) : CT_ l yX11_beginOf cX11_beginOf 9 (some .int) 4 92 as_G_X11_beginOf (rmI_) pre_G_X11_beginOf post_G_X11_beginOf := by
  refine ct_of (by decide) (fun _ => Nat.le_of_ble_eq_true rfl) ?_
  intro X G Q ad σ a hl hR E hG R hM hv hp
  obtain ⟨a1, a2, a3, a4, a5⟩ := a
  have r_a1 : -2147483648 ≤ a1 ∧ a1 ≤ 2147483647 := hv (0, a1) (List.mem_of_getElem? (i := 1) rfl)
  have r_a2 : -2147483648 ≤ a2 ∧ a2 ≤ 2147483647 := hv (0, a2) (List.mem_of_getElem? (i := 2) rfl)
  have r_a3 : -2147483648 ≤ a3 ∧ a3 ≤ 2147483647 := hv (0, a3) (List.mem_of_getElem? (i := 3) rfl)
  have r_a4 : -2147483648 ≤ a4 ∧ a4 ≤ 2147483647 := hv (0, a4) (List.mem_of_getElem? (i := 4) rfl)
  have r_a5 : -2147483648 ≤ a5 ∧ a5 ≤ 2147483647 := hv (0, a5) (List.mem_of_getElem? (i := 5) rfl)
  have hp0 : MI σ := hp.1
  have hp1 : 0 ≤ a1 := hp.2.1
  have hp2 : a1 ≤ 2 := hp.2.2.1
  have hp3 : 0 ≤ a2 := hp.2.2.2.1
  have hp4 : a2 ≤ 2 := hp.2.2.2.2.1
  have hp5 : 0 ≤ a3 := hp.2.2.2.2.2.1
  have hp6 : a3 ≤ a4 := hp.2.2.2.2.2.2.1
  have hp7 : a4 ≤ 1999 := hp.2.2.2.2.2.2.2.1
  have hp8 : 1 ≤ a5 := hp.2.2.2.2.2.2.2.2.1
  have hp9 : a5 ≤ 200 := hp.2.2.2.2.2.2.2.2.2
  have B := @bk_ X G Q 0 0 ad SHS_ RX11 cX11_beginOf 9 (some .int) flX11 plX11 knX11 [(538, 1, TR_ as_G_X11_lay (rmV_) pre_G_X11_lay post_G_X11_lay), (830, 5, TR_ as_G_X11_aloneOf (rmI_) pre_G_X11_aloneOf post_G_X11_aloneOf)] _ _ none kX11_beginOf [35, 42, 91] flX11_ok plX11_ok knX11_ok eX11_beginOf oX11_beginOf
    (List.forall_mem_cons.mpr ⟨cok_v (t := 32) (c := 11) (N := 39) (n := 0) (idx := 269) E (ct_G_X11_lay X.2.1) (by rw [hR]; decide) (Nat.zero_le _) (Nat.zero_le _) hG rfl rfl ⟨rfl, by decide, by decide, by decide⟩ (fun _ => ⟨_, _, rfl, rfl⟩) wl_X11_269 wi_X11_lay ws_X11_lay wn_X11 wc_X11_lay, List.forall_mem_cons.mpr ⟨cok_v (t := 32) (c := 11) (N := 39) (n := 4) (idx := 415) E (ct_G_X11_aloneOf X.2.1) (by rw [hR]; decide) (Nat.zero_le _) (Nat.zero_le _) hG rfl rfl ⟨rfl, by decide, by decide, by decide⟩ (fun _ => ⟨_, _, rfl, rfl⟩) wl_X11_415 wi_X11_aloneOf ws_X11_aloneOf wn_X11 wc_X11_aloneOf, fun _ h => absurd h List.not_mem_nil⟩⟩) R sok_no E
  show WP_ X G Q 0 0 ad SHS_ σ 0 [(42, 86), (0, a1), (0, a2), (0, a3), (0, a4), (0, a5), (9, 0), (9, 0), (9, 0)] []
  refine B rfl ?_
  refine Exists.intro () (And.intro rfl (And.intro hp0 ?_))
  intro z1 σ3 h2
  have f4 : ∀ k j : Int, ¬ (93 ≤ k ∧ k ≤ 96) → σ3 k j = σ k j := h2.2
  have h5 : LY σ3 := h2.1
  refine And.intro (by omega) ?_
  refine And.intro (by omega) ?_
  refine Exists.intro (a1, a2, a3, (a3 + a5) - 1) (And.intro rfl (And.intro (And.intro (by show 0 ≤ a1; omega) (And.intro (by show a1 ≤ 2; omega) (And.intro (by show 0 ≤ a2; omega) (And.intro (by show a2 ≤ 2; omega) (And.intro (by show 0 ≤ a3; omega) (by show a3 ≤ 4000; omega)))))) ?_))
  rintro z6 m_ h7
  obtain rfl : σ3 = m_ := h7.2
  have h8 : 0 ≤ z6 ∧ z6 ≤ 2000 := h7.1
  intro σ9 e10
  intro z11 ez11 hz11
  have hz11 : ((-2147483648) : Int) ≤ z11 ∧ z11 ≤ (2147483647 : Int) := rgl_ hz11 (by decide +kernel) (by decide +kernel) (by decide +kernel)
  have t12 : σ9 86 28 = z6 := ups_v e10
  refine And.intro (by omega) ?_
  show WP_ X G Q 0 0 ad SHS_ σ9 35 [(42, 86), (0, a1), (0, a2), (0, a3), (0, a4), (0, a5), (0, a3), (0, z11), (0, a3 + 1)] []
  refine wdrop_ (L' := [(42, 86), (0, a1), (0, a2), (9, 0), (0, a4), (0, a5), (0, a3), (0, z11), (0, a3 + 1)]) ⟨Or.inr rfl, ⟨Or.inr rfl, ⟨Or.inr rfl, ⟨Or.inl rfl, ⟨Or.inr rfl, ⟨Or.inr rfl, ⟨Or.inr rfl, ⟨Or.inr rfl, ⟨Or.inr rfl, trivial⟩⟩⟩⟩⟩⟩⟩⟩⟩ ?_
  have lp_35 : ∀ (nq_ : Nat) (v6 : Int) (v7 : Int) (v8 : Int) (τ35 : Me_t), (∀ k j : Int, ¬ (k = 86 ∨ (93 ≤ k ∧ k ≤ 96)) → τ35 k j = σ k j) → (a3 + 1 ≤ v8) → (v8 ≤ a4 + 1) → (-2000 * v8 ≤ v7) → (v7 ≤ 2000 + 2000 * v8) → (a4 + 1 - v8 : Int).toNat < nq_ → WP_ X G Q 0 0 ad SHS_ τ35 35 [(42, 86), (0, a1), (0, a2), (9, 0), (0, a4), (0, a5), (0, v6), (0, v7), (0, v8)] [] := by
    intro nq_
    induction nq_ with
    | zero => intros; omega
    | succ nq_ ih_35 =>
      intro v6 v7 v8 τ35 hf35 hi35_0 hi35_1 hi35_2 hi35_3 hm35
      refine B rfl ?_
      refine And.intro (fun h13 => ?_) (fun h13 => ?_)
      · skip
        refine B rfl ?_
        refine Exists.intro _ (And.intro rfl ?_)
        exact (fun k j hk => (hf35 _ _ (by omega)))
      · skip
        show WP_ X G Q 0 0 ad SHS_ τ35 42 [(42, 86), (0, a1), (0, a2), (9, 0), (0, a4), (0, a5), (0, v6), (0, v7), (0, v8)] []
        refine B rfl ?_
        refine And.intro (by omega) ?_
        refine And.intro (by omega) ?_
        refine And.intro (by omega) ?_
        refine And.intro (by omega) ?_
        refine Exists.intro (a1, a2, (v8 + a5) - 1, (v8 + a5) - 1) (And.intro rfl (And.intro (And.intro (by show 0 ≤ a1; omega) (And.intro (by show a1 ≤ 2; omega) (And.intro (by show 0 ≤ a2; omega) (And.intro (by show a2 ≤ 2; omega) (And.intro (by show 0 ≤ ((v8 + a5) - 1); omega) (by show ((v8 + a5) - 1) ≤ 4000; omega)))))) ?_))
        rintro z14 m_ h15
        obtain rfl : τ35 = m_ := h15.2
        have h16 : 0 ≤ z14 ∧ z14 ≤ 2000 := h15.1
        refine And.intro (by omega) ?_
        refine And.intro (by omega) ?_
        refine Exists.intro (a1, a2, v8 - 1, v8 - 1) (And.intro rfl (And.intro (And.intro (by show 0 ≤ a1; omega) (And.intro (by show a1 ≤ 2; omega) (And.intro (by show 0 ≤ a2; omega) (And.intro (by show a2 ≤ 2; omega) (And.intro (by show 0 ≤ (v8 - 1); omega) (by show (v8 - 1) ≤ 4000; omega)))))) ?_))
        rintro z17 m_ h18
        obtain rfl : τ35 = m_ := h18.2
        have h19 : 0 ≤ z17 ∧ z17 ≤ 2000 := h18.1
        refine And.intro (by omega) ?_
        refine And.intro (by omega) ?_
        intro z20 ez20 hz20
        have hz20 : ((-2147483648) : Int) ≤ z20 ∧ z20 ≤ (2147483647 : Int) := rgl_ hz20 (by decide +kernel) (by decide +kernel) (by decide +kernel)
        try have t21 : τ35 86 28 = σ 86 28 := (hf35 _ _ (by omega))
        refine And.intro (fun h22 => ?_) (fun h22 => ?_)
        · skip
          refine B rfl ?_
          intro σ23 e24
          refine And.intro (by omega) ?_
          exact ih_35 v8 (v7 + (z14 - z17)) (v8 + 1) σ23 (fun k j hk => ((ups_r e24 (by omega)).trans (hf35 _ _ (by omega)))) (by show a3 + 1 ≤ (v8 + 1); omega) (by show (v8 + 1) ≤ a4 + 1; omega) (by show -2000 * (v8 + 1) ≤ (v7 + (z14 - z17)); omega) (by show (v7 + (z14 - z17)) ≤ 2000 + 2000 * (v8 + 1); omega) (by omega)
        · skip
          show WP_ X G Q 0 0 ad SHS_ τ35 91 [(42, 86), (0, a1), (0, a2), (9, 0), (0, a4), (0, a5), (0, v6), (0, v7 + (z14 - z17)), (0, v8)] []
          refine B rfl ?_
          refine B rfl ?_
          refine And.intro (by omega) ?_
          exact ih_35 v6 (v7 + (z14 - z17)) (v8 + 1) τ35 (fun k j hk => (hf35 _ _ (by omega))) (by show a3 + 1 ≤ (v8 + 1); omega) (by show (v8 + 1) ≤ a4 + 1; omega) (by show -2000 * (v8 + 1) ≤ (v7 + (z14 - z17)); omega) (by show (v7 + (z14 - z17)) ≤ 2000 + 2000 * (v8 + 1); omega) (by omega)
  exact lp_35 ((a4 + 1 - (a3 + 1) : Int).toNat + 1) a3 z11 (a3 + 1) σ9 (fun k j hk => ((ups_r e10 (by omega)).trans (f4 _ _ (by omega)))) (by show a3 + 1 ≤ (a3 + 1); omega) (by show (a3 + 1) ≤ a4 + 1; omega) (by show -2000 * (a3 + 1) ≤ z11; omega) (by show z11 ≤ 2000 + 2000 * (a3 + 1); omega) (by omega)
def as_G_X11_isBegin : Int × Int × Int × Int × Int → List Sv_t := fun a => [(42, 86), (0, a.1), (0, a.2.1), (0, a.2.2.1), (0, a.2.2.2.1), (0, a.2.2.2.2)]
def pre_G_X11_isBegin : Int × Int × Int × Int × Int → Me_t → Prop := fun a σ => (BW σ 87)
def post_G_X11_isBegin : Int × Int × Int × Int × Int → Me_t → Int → Me_t → Prop := fun a σ z σ' => ((z = 1 ∧ 0 ≤ a.1 ∧ a.1 ≤ 2 ∧ 0 ≤ a.2.1 ∧ a.2.1 ≤ 2 ∧ a.1 ≠ a.2.1 ∧ 0 ≤ a.2.2.1 ∧ a.2.2.1 ≤ a.2.2.2.1 ∧ a.2.2.2.1 ≤ 1999 ∧ 1 ≤ a.2.2.2.2 ∧ a.2.2.2.2 ≤ 200) ∨ z = 0) ∧ (σ = σ')
set_option maxHeartbeats 1500000 in
set_option maxRecDepth 100000 in
theorem ct_G_X11_isBegin (l : Launch) : CT_ l yX11_isBegin cX11_isBegin 6 (some .boolean) 3 69 as_G_X11_isBegin (rmI_) pre_G_X11_isBegin post_G_X11_isBegin := by
  refine ct_of (by decide) (fun _ => Nat.le_of_ble_eq_true rfl) ?_
  intro X G Q ad σ a hl hR E hG R hM hv hp
  obtain ⟨a1, a2, a3, a4, a5⟩ := a
  have r_a1 : -2147483648 ≤ a1 ∧ a1 ≤ 2147483647 := hv (0, a1) (List.mem_of_getElem? (i := 1) rfl)
  have r_a2 : -2147483648 ≤ a2 ∧ a2 ≤ 2147483647 := hv (0, a2) (List.mem_of_getElem? (i := 2) rfl)
  have r_a3 : -2147483648 ≤ a3 ∧ a3 ≤ 2147483647 := hv (0, a3) (List.mem_of_getElem? (i := 3) rfl)
  have r_a4 : -2147483648 ≤ a4 ∧ a4 ≤ 2147483647 := hv (0, a4) (List.mem_of_getElem? (i := 4) rfl)
  have r_a5 : -2147483648 ≤ a5 ∧ a5 ≤ 2147483647 := hv (0, a5) (List.mem_of_getElem? (i := 5) rfl)
  have hp0 : BW σ 87 := hp
  have B := @bk_ X G Q 0 0 ad SHS_ RX11 cX11_isBegin 6 (some .boolean) flX11 plX11 knX11 [(630, 3, TR_ as_G_X11_areTwo (rmI_) pre_G_X11_areTwo post_G_X11_areTwo), (593, 2, TR_ as_G_X11_isSpan (rmI_) pre_G_X11_isSpan post_G_X11_isSpan), (159, 3, TR_ as_G_X11_in (rmI_) pre_G_X11_in post_G_X11_in)] _ _ none kX11_isBegin [] flX11_ok plX11_ok knX11_ok eX11_isBegin oX11_isBegin
    (List.forall_mem_cons.mpr ⟨cok_v (t := 32) (c := 11) (N := 39) (n := 2) (idx := 315) E (ct_G_X11_areTwo X.2.1) (by rw [hR]; decide) (Nat.zero_le _) (Nat.zero_le _) hG rfl rfl ⟨rfl, by decide, by decide, by decide⟩ (fun _ => ⟨_, _, rfl, rfl⟩) wl_X11_315 wi_X11_areTwo ws_X11_areTwo wn_X11 wc_X11_areTwo, List.forall_mem_cons.mpr ⟨cok_s (n := 2) (idx := 296) E (ct_G_X11_isSpan X.2.1) (by rw [hR]; decide) (Nat.zero_le _) (Nat.zero_le _) hG ⟨by decide, by decide, by decide⟩ (fun _ => rfl) wl_X11_296 wt_X11_isSpan wn_X11 wc_X11_isSpan, List.forall_mem_cons.mpr ⟨cok_s (n := 3) (idx := 79) E (ct_G_X11_in X.2.1) (by rw [hR]; decide) (Nat.zero_le _) (Nat.zero_le _) hG ⟨by decide, by decide, by decide⟩ (fun _ => rfl) wl_X11_79 wt_X11_in wn_X11 wc_X11_in, fun _ h => absurd h List.not_mem_nil⟩⟩⟩) R sok_no E
  show WP_ X G Q 0 0 ad SHS_ σ 0 [(42, 86), (0, a1), (0, a2), (0, a3), (0, a4), (0, a5)] []
  refine B rfl ?_
  refine Exists.intro (a1, a2) (And.intro rfl (And.intro hp0 ?_))
  rintro z1 m_ h2
  obtain rfl : σ = m_ := h2.2
  have h3 : (z1 = 1 ∧ 0 ≤ a1 ∧ a1 ≤ 2 ∧ a1 < σ 87 1 ∧ 0 ≤ a2 ∧ a2 ≤ 2 ∧ a2 < σ 87 1 ∧ a1 ≠ a2) ∨ z1 = 0 := h2.1
  refine And.intro (fun h4 => ?_) (fun h4 => ?_)
  · skip
    refine B rfl ?_
    refine And.intro (by omega) ?_
    refine Exists.intro _ (And.intro rfl ?_)
    exact (And.intro (by show (0 = 1 ∧ 0 ≤ a1 ∧ a1 ≤ 2 ∧ 0 ≤ a2 ∧ a2 ≤ 2 ∧ a1 ≠ a2 ∧ 0 ≤ a3 ∧ a3 ≤ a4 ∧ a4 ≤ 1999 ∧ 1 ≤ a5 ∧ a5 ≤ 200) ∨ 0 = 0; omega) rfl)
  · skip
    refine Exists.intro (a3, a4) (And.intro rfl (And.intro True.intro ?_))
    rintro z5 m_ h6
    obtain rfl : σ = m_ := h6.2
    have h7 : (z5 = 1 ∧ 0 ≤ a3 ∧ a3 ≤ a4 ∧ a4 ≤ 1999) ∨ z5 = 0 := h6.1
    refine And.intro (fun h8 => ?_) (fun h8 => ?_)
    · skip
      refine B rfl ?_
      refine And.intro (by omega) ?_
      refine Exists.intro _ (And.intro rfl ?_)
      exact (And.intro (by show (0 = 1 ∧ 0 ≤ a1 ∧ a1 ≤ 2 ∧ 0 ≤ a2 ∧ a2 ≤ 2 ∧ a1 ≠ a2 ∧ 0 ≤ a3 ∧ a3 ≤ a4 ∧ a4 ≤ 1999 ∧ 1 ≤ a5 ∧ a5 ≤ 200) ∨ 0 = 0; omega) rfl)
    · skip
      refine Exists.intro (a5, 1, 200) (And.intro rfl (And.intro True.intro ?_))
      rintro z9 m_ h10
      obtain rfl : σ = m_ := h10.2
      have h11 : (z9 = 1 ∧ 1 ≤ a5 ∧ a5 ≤ 200) ∨ (z9 = 0 ∧ ¬ (1 ≤ a5 ∧ a5 ≤ 200)) := h10.1
      refine And.intro (fun h12 => ?_) (fun h12 => ?_)
      · skip
        refine B rfl ?_
        refine And.intro (by omega) ?_
        refine Exists.intro _ (And.intro rfl ?_)
        exact (And.intro (by show (0 = 1 ∧ 0 ≤ a1 ∧ a1 ≤ 2 ∧ 0 ≤ a2 ∧ a2 ≤ 2 ∧ a1 ≠ a2 ∧ 0 ≤ a3 ∧ a3 ≤ a4 ∧ a4 ≤ 1999 ∧ 1 ≤ a5 ∧ a5 ≤ 200) ∨ 0 = 0; omega) rfl)
      · skip
        refine B rfl ?_
        refine And.intro (by omega) ?_
        refine Exists.intro _ (And.intro rfl ?_)
        exact (And.intro (by show (1 = 1 ∧ 0 ≤ a1 ∧ a1 ≤ 2 ∧ 0 ≤ a2 ∧ a2 ≤ 2 ∧ a1 ≠ a2 ∧ 0 ≤ a3 ∧ a3 ≤ a4 ∧ a4 ≤ 1999 ∧ 1 ≤ a5 ∧ a5 ≤ 200) ∨ 1 = 0; omega) rfl)
def as_G_X11_begin : Int × Int × Int × Int × Int → List Sv_t := fun a => [(42, 86), (0, a.1), (0, a.2.1), (0, a.2.2.1), (0, a.2.2.2.1), (0, a.2.2.2.2)]
def pre_G_X11_begin : Int × Int × Int × Int × Int → Me_t → Prop := fun a σ => (MI σ)
def post_G_X11_begin : Int × Int × Int × Int × Int → Me_t → Int → Me_t → Prop := fun a σ z σ' => (∀ k j : Int, ¬ (k = 86 ∨ (93 ≤ k ∧ k ≤ 96)) → σ' k j = σ k j)
set_option maxHeartbeats 1500000 in
set_option maxRecDepth 100000 in
theorem ct_G_X11_begin (l : Launch) : CT_ l yX11_begin cX11_begin 6 (some .int) 5 120 as_G_X11_begin (rmI_) pre_G_X11_begin post_G_X11_begin := by
  refine ct_of (by decide) (fun _ => Nat.le_of_ble_eq_true rfl) ?_
  intro X G Q ad σ a hl hR E hG R hM hv hp
  obtain ⟨a1, a2, a3, a4, a5⟩ := a
  have r_a1 : -2147483648 ≤ a1 ∧ a1 ≤ 2147483647 := hv (0, a1) (List.mem_of_getElem? (i := 1) rfl)
  have r_a2 : -2147483648 ≤ a2 ∧ a2 ≤ 2147483647 := hv (0, a2) (List.mem_of_getElem? (i := 2) rfl)
  have r_a3 : -2147483648 ≤ a3 ∧ a3 ≤ 2147483647 := hv (0, a3) (List.mem_of_getElem? (i := 3) rfl)
  have r_a4 : -2147483648 ≤ a4 ∧ a4 ≤ 2147483647 := hv (0, a4) (List.mem_of_getElem? (i := 4) rfl)
  have r_a5 : -2147483648 ≤ a5 ∧ a5 ≤ 2147483647 := hv (0, a5) (List.mem_of_getElem? (i := 5) rfl)
  have hp0 : MI σ := hp
  have B := @bk_ X G Q 0 0 ad SHS_ RX11 cX11_begin 6 (some .int) flX11 plX11 knX11 [(846, 6, TR_ as_G_X11_isBegin (rmI_) pre_G_X11_isBegin post_G_X11_isBegin), (852, 6, TR_ as_G_X11_beginOf (rmI_) pre_G_X11_beginOf post_G_X11_beginOf)] _ _ none kX11_begin [] flX11_ok plX11_ok knX11_ok eX11_begin oX11_begin
    (List.forall_mem_cons.mpr ⟨cok_v (t := 32) (c := 11) (N := 39) (n := 5) (idx := 423) E (ct_G_X11_isBegin X.2.1) (by rw [hR]; decide) (Nat.zero_le _) (Nat.zero_le _) hG rfl rfl ⟨rfl, by decide, by decide, by decide⟩ (fun _ => ⟨_, _, rfl, rfl⟩) wl_X11_423 wi_X11_isBegin ws_X11_isBegin wn_X11 wc_X11_isBegin, List.forall_mem_cons.mpr ⟨cok_v (t := 32) (c := 11) (N := 39) (n := 5) (idx := 426) E (ct_G_X11_beginOf X.2.1) (by rw [hR]; decide) (Nat.zero_le _) (Nat.zero_le _) hG rfl rfl ⟨rfl, by decide, by decide, by decide⟩ (fun _ => ⟨_, _, rfl, rfl⟩) wl_X11_426 wi_X11_beginOf ws_X11_beginOf wn_X11 wc_X11_beginOf, fun _ h => absurd h List.not_mem_nil⟩⟩) R sok_no E
  show WP_ X G Q 0 0 ad SHS_ σ 0 [(42, 86), (0, a1), (0, a2), (0, a3), (0, a4), (0, a5)] []
  refine B rfl ?_
  have p1 : BW σ 87 := (hp0).1.1
  refine Exists.intro (a1, a2, a3, a4, a5) (And.intro rfl (And.intro p1 ?_))
  rintro z2 m_ h3
  obtain rfl : σ = m_ := h3.2
  have h4 : (z2 = 1 ∧ 0 ≤ a1 ∧ a1 ≤ 2 ∧ 0 ≤ a2 ∧ a2 ≤ 2 ∧ a1 ≠ a2 ∧ 0 ≤ a3 ∧ a3 ≤ a4 ∧ a4 ≤ 1999 ∧ 1 ≤ a5 ∧ a5 ≤ 200) ∨ z2 = 0 := h3.1
  refine And.intro (fun h5 => ?_) (fun h5 => ?_)
  · skip
    refine B rfl ?_
    refine Exists.intro _ (And.intro rfl ?_)
    exact (fun k j hk => rfl)
  · skip
    refine Exists.intro (a1, a2, a3, a4, a5) (And.intro rfl (And.intro (And.intro hp0 (And.intro (by show 0 ≤ a1; omega) (And.intro (by show a1 ≤ 2; omega) (And.intro (by show 0 ≤ a2; omega) (And.intro (by show a2 ≤ 2; omega) (And.intro (by show 0 ≤ a3; omega) (And.intro (by show a3 ≤ a4; omega) (And.intro (by show a4 ≤ 1999; omega) (And.intro (by show 1 ≤ a5; omega) (by show a5 ≤ 200; omega)))))))))) ?_))
    intro z6 σ8 h7
    have f9 : ∀ k j : Int, ¬ (k = 86 ∨ (93 ≤ k ∧ k ≤ 96)) → σ8 k j = σ k j := h7
    refine B rfl ?_
    refine Exists.intro _ (And.intro rfl ?_)
    exact (fun k j hk => (f9 _ _ (by omega)))
def as_G_X11_begins : Int × Int × Int × Int × Int → List Sv_t := fun a => [(42, 86), (0, a.1), (0, a.2.1), (0, a.2.2.1), (0, a.2.2.2.1), (0, a.2.2.2.2)]
def pre_G_X11_begins : Int × Int × Int × Int × Int → Me_t → Prop := fun a σ => (MI σ)
def post_G_X11_begins : Int × Int × Int × Int × Int → Me_t → Int → Me_t → Prop := fun a σ z σ' => (∀ k j : Int, ¬ (k = 86 ∨ (93 ≤ k ∧ k ≤ 96)) → σ' k j = σ k j)
set_option maxHeartbeats 1500000 in
set_option maxRecDepth 100000 in
theorem ct_G_X11_begins (l : Launch) : CT_ l yX11_begins cX11_begins 6 (some .int) 5 120 as_G_X11_begins (rmI_) pre_G_X11_begins post_G_X11_begins := by
  refine ct_of (by decide) (fun _ => Nat.le_of_ble_eq_true rfl) ?_
  intro X G Q ad σ a hl hR E hG R hM hv hp
  obtain ⟨a1, a2, a3, a4, a5⟩ := a
  have r_a1 : -2147483648 ≤ a1 ∧ a1 ≤ 2147483647 := hv (0, a1) (List.mem_of_getElem? (i := 1) rfl)
  have r_a2 : -2147483648 ≤ a2 ∧ a2 ≤ 2147483647 := hv (0, a2) (List.mem_of_getElem? (i := 2) rfl)
  have r_a3 : -2147483648 ≤ a3 ∧ a3 ≤ 2147483647 := hv (0, a3) (List.mem_of_getElem? (i := 3) rfl)
  have r_a4 : -2147483648 ≤ a4 ∧ a4 ≤ 2147483647 := hv (0, a4) (List.mem_of_getElem? (i := 4) rfl)
  have r_a5 : -2147483648 ≤ a5 ∧ a5 ≤ 2147483647 := hv (0, a5) (List.mem_of_getElem? (i := 5) rfl)
  have hp0 : MI σ := hp
  have B := @bk_ X G Q 0 0 ad SHS_ RX11 cX11_begins 6 (some .int) flX11 plX11 knX11 [(846, 6, TR_ as_G_X11_isBegin (rmI_) pre_G_X11_isBegin post_G_X11_isBegin), (852, 6, TR_ as_G_X11_beginOf (rmI_) pre_G_X11_beginOf post_G_X11_beginOf)] _ _ none kX11_begins [] flX11_ok plX11_ok knX11_ok eX11_begins oX11_begins
    (List.forall_mem_cons.mpr ⟨cok_v (t := 32) (c := 11) (N := 39) (n := 5) (idx := 423) E (ct_G_X11_isBegin X.2.1) (by rw [hR]; decide) (Nat.zero_le _) (Nat.zero_le _) hG rfl rfl ⟨rfl, by decide, by decide, by decide⟩ (fun _ => ⟨_, _, rfl, rfl⟩) wl_X11_423 wi_X11_isBegin ws_X11_isBegin wn_X11 wc_X11_isBegin, List.forall_mem_cons.mpr ⟨cok_v (t := 32) (c := 11) (N := 39) (n := 5) (idx := 426) E (ct_G_X11_beginOf X.2.1) (by rw [hR]; decide) (Nat.zero_le _) (Nat.zero_le _) hG rfl rfl ⟨rfl, by decide, by decide, by decide⟩ (fun _ => ⟨_, _, rfl, rfl⟩) wl_X11_426 wi_X11_beginOf ws_X11_beginOf wn_X11 wc_X11_beginOf, fun _ h => absurd h List.not_mem_nil⟩⟩) R sok_no E
  show WP_ X G Q 0 0 ad SHS_ σ 0 [(42, 86), (0, a1), (0, a2), (0, a3), (0, a4), (0, a5)] []
  refine B rfl ?_
  have p1 : BW σ 87 := (hp0).1.1
  refine Exists.intro (a1, a2, a3, a4, a5) (And.intro rfl (And.intro p1 ?_))
  rintro z2 m_ h3
  obtain rfl : σ = m_ := h3.2
  have h4 : (z2 = 1 ∧ 0 ≤ a1 ∧ a1 ≤ 2 ∧ 0 ≤ a2 ∧ a2 ≤ 2 ∧ a1 ≠ a2 ∧ 0 ≤ a3 ∧ a3 ≤ a4 ∧ a4 ≤ 1999 ∧ 1 ≤ a5 ∧ a5 ≤ 200) ∨ z2 = 0 := h3.1
  refine And.intro (fun h5 => ?_) (fun h5 => ?_)
  · skip
    refine B rfl ?_
    refine Exists.intro (a1, a2, a3, a4, a5) (And.intro rfl (And.intro (And.intro hp0 (And.intro (by show 0 ≤ a1; omega) (And.intro (by show a1 ≤ 2; omega) (And.intro (by show 0 ≤ a2; omega) (And.intro (by show a2 ≤ 2; omega) (And.intro (by show 0 ≤ a3; omega) (And.intro (by show a3 ≤ a4; omega) (And.intro (by show a4 ≤ 1999; omega) (And.intro (by show 1 ≤ a5; omega) (by show a5 ≤ 200; omega)))))))))) ?_))
    intro z6 σ8 h7
    have f9 : ∀ k j : Int, ¬ (k = 86 ∨ (93 ≤ k ∧ k ≤ 96)) → σ8 k j = σ k j := h7
    intro z10 ez10 hz10
    have hz10 : ((-2147483648) : Int) ≤ z10 ∧ z10 ≤ (2147483647 : Int) := rgl_ hz10 (by decide +kernel) (by decide +kernel) (by decide +kernel)
    try have t11 : σ8 86 28 = σ 86 28 := (f9 _ _ (by omega))
    refine Exists.intro _ (And.intro rfl ?_)
    exact (fun k j hk => (f9 _ _ (by omega)))
  · skip
    refine Exists.intro _ (And.intro rfl ?_)
    exact (fun k j hk => rfl)
def as_G_X11_rank : Int × Int → List Sv_t := fun a => [(0, a.1), (0, a.2)]
def pre_G_X11_rank : Int × Int → Me_t → Prop := fun a σ => True
def post_G_X11_rank : Int × Int → Me_t → Int → Me_t → Prop := fun a σ z σ' => (0 ≤ z ∧ z ≤ 2) ∧ (σ = σ')
set_option maxHeartbeats 1500000 in
set_option maxRecDepth 100000 in
theorem ct_G_X11_rank (l : Launch) : CT_ l yX11_rank cX11_rank 2 (some .int) 0 0 as_G_X11_rank (rmI_) pre_G_X11_rank post_G_X11_rank := by
  refine ct_of (by decide) (fun _ => Nat.le_of_ble_eq_true rfl) ?_
  intro X G Q ad σ a hl hR E hG R hM hv hp
  obtain ⟨a0, a1⟩ := a
  have r_a0 : -2147483648 ≤ a0 ∧ a0 ≤ 2147483647 := hv (0, a0) (List.mem_of_getElem? (i := 0) rfl)
  have r_a1 : -2147483648 ≤ a1 ∧ a1 ≤ 2147483647 := hv (0, a1) (List.mem_of_getElem? (i := 1) rfl)
  have B := @bk_ X G Q 0 0 ad SHS_ RX11 cX11_rank 2 (some .int) flX11 plX11 knX11 [] _ _ none kX11_rank [] flX11_ok plX11_ok knX11_ok eX11_rank oX11_rank
    (fun _ h => absurd h List.not_mem_nil) R sok_no E
  show WP_ X G Q 0 0 ad SHS_ σ 0 [(0, a0), (0, a1)] []
  refine B rfl ?_
  refine And.intro (fun h1 => ?_) (fun h1 => ?_)
  · skip
    refine B rfl ?_
    refine And.intro (fun h2 => ?_) (fun h2 => ?_)
    · skip
      refine B rfl ?_
      refine Exists.intro _ (And.intro rfl ?_)
      exact (And.intro (by show 0 ≤ 0 ∧ 0 ≤ 2; omega) rfl)
    · skip
      refine B rfl ?_
      refine Exists.intro _ (And.intro rfl ?_)
      exact (And.intro (by show 0 ≤ 1 ∧ 1 ≤ 2; omega) rfl)
  · skip
    refine B rfl ?_
    refine Exists.intro _ (And.intro rfl ?_)
    exact (And.intro (by show 0 ≤ 2 ∧ 2 ≤ 2; omega) rfl)
def as_G_X11_behind_99 : Int × Int × Int → List Sv_t := fun a => [(0, a.1), (0, a.2.1), (0, a.2.2), (55, 99)]
def pre_G_X11_behind_99 : Int × Int × Int → Me_t → Prop := fun a σ => (1 ≤ a.2.2) ∧ (a.2.2 ≤ a.2.1) ∧ (a.2.1 ≤ 40)
def post_G_X11_behind_99 : Int × Int × Int → Me_t → Int → Me_t → Prop := fun a σ z σ' => (σ = σ')
set_option maxHeartbeats 1500000 in
set_option maxRecDepth 100000 in
theorem ct_G_X11_behind_99 (l : Launch) : CT_ l yX11_behind cX11_behind 4 (some .int) 0 0 as_G_X11_behind_99 (rmI_) pre_G_X11_behind_99 post_G_X11_behind_99 := by
  refine ct_of (by decide) (fun _ => Nat.le_of_ble_eq_true rfl) ?_
  intro X G Q ad σ a hl hR E hG R hM hv hp
  obtain ⟨a0, a1, a2⟩ := a
  have r_a0 : -2147483648 ≤ a0 ∧ a0 ≤ 2147483647 := hv (0, a0) (List.mem_of_getElem? (i := 0) rfl)
  have r_a1 : -2147483648 ≤ a1 ∧ a1 ≤ 2147483647 := hv (0, a1) (List.mem_of_getElem? (i := 1) rfl)
  have r_a2 : -2147483648 ≤ a2 ∧ a2 ≤ 2147483647 := hv (0, a2) (List.mem_of_getElem? (i := 2) rfl)
  have hp0 : 1 ≤ a2 := hp.1
  have hp1 : a2 ≤ a1 := hp.2.1
  have hp2 : a1 ≤ 40 := hp.2.2
  have B := @bk_ X G Q 0 0 ad SHS_ RX11 cX11_behind 4 (some .int) flX11 plX11 knX11 [] _ _ none kX11_behind [] flX11_ok plX11_ok knX11_ok eX11_behind oX11_behind
    (fun _ h => absurd h List.not_mem_nil) R sok_no E
  show WP_ X G Q 0 0 ad SHS_ σ 0 [(0, a0), (0, a1), (0, a2), (55, 99)] []
  refine B rfl ?_
  refine And.intro (fun h1 => ?_) (fun h1 => ?_)
  · skip
    refine B rfl ?_
    refine And.intro (by omega) ?_
    refine And.intro (by omega) ?_
    intro z2 ez2 hz2
    have hz2 : ((-2147483648) : Int) ≤ z2 ∧ z2 ≤ (2147483647 : Int) := rgl_ hz2 (by decide +kernel) (by decide +kernel) (by decide +kernel)
    refine Exists.intro _ (And.intro rfl ?_)
    exact rfl
  · skip
    refine B rfl ?_
    refine Exists.intro _ (And.intro rfl ?_)
    exact rfl
def as_G_X11_bestTake_99 : Int × Int → List Sv_t := fun a => [(0, a.1), (0, a.2), (55, 99)]
def pre_G_X11_bestTake_99 : Int × Int → Me_t → Prop := fun a σ => (1 ≤ a.2) ∧ (a.2 ≤ 40)
def post_G_X11_bestTake_99 : Int × Int → Me_t → Int → Me_t → Prop := fun a σ z σ' => (z = 1 ∨ z = 2) ∧ (z ≤ a.2) ∧ (σ = σ')
set_option maxHeartbeats 1500000 in
set_option maxRecDepth 100000 in
theorem ct_G_X11_bestTake_99 (l : Launch) : CT_ l yX11_bestTake cX11_bestTake 3 (some .int) 1 23 as_G_X11_bestTake_99 (rmI_) pre_G_X11_bestTake_99 post_G_X11_bestTake_99 := by
  refine ct_of (by decide) (fun _ => Nat.le_of_ble_eq_true rfl) ?_
  intro X G Q ad σ a hl hR E hG R hM hv hp
  obtain ⟨a0, a1⟩ := a
  have r_a0 : -2147483648 ≤ a0 ∧ a0 ≤ 2147483647 := hv (0, a0) (List.mem_of_getElem? (i := 0) rfl)
  have r_a1 : -2147483648 ≤ a1 ∧ a1 ≤ 2147483647 := hv (0, a1) (List.mem_of_getElem? (i := 1) rfl)
  have hp0 : 1 ≤ a1 := hp.1
  have hp1 : a1 ≤ 40 := hp.2
  have B := @bk_ X G Q 0 0 ad SHS_ RX11 cX11_bestTake 3 (some .int) flX11 plX11 knX11 [(859, 4, TR_ as_G_X11_behind_99 (rmI_) pre_G_X11_behind_99 post_G_X11_behind_99), (867, 2, TR_ as_G_X11_rank (rmI_) pre_G_X11_rank post_G_X11_rank)] _ _ none kX11_bestTake [] flX11_ok plX11_ok knX11_ok eX11_bestTake oX11_bestTake
    (List.forall_mem_cons.mpr ⟨cok_s (n := 4) (idx := 429) E (ct_G_X11_behind_99 X.2.1) (by rw [hR]; decide) (Nat.zero_le _) (Nat.zero_le _) hG ⟨by decide, by decide, by decide⟩ (fun _ => rfl) wl_X11_429 wt_X11_behind wn_X11 wc_X11_behind, List.forall_mem_cons.mpr ⟨cok_s (n := 2) (idx := 433) E (ct_G_X11_rank X.2.1) (by rw [hR]; decide) (Nat.zero_le _) (Nat.zero_le _) hG ⟨by decide, by decide, by decide⟩ (fun _ => rfl) wl_X11_433 wt_X11_rank wn_X11 wc_X11_rank, fun _ h => absurd h List.not_mem_nil⟩⟩) R sok_no E
  show WP_ X G Q 0 0 ad SHS_ σ 0 [(0, a0), (0, a1), (55, 99)] []
  refine B rfl ?_
  refine And.intro (fun h1 => ?_) (fun h1 => ?_)
  · skip
    refine B rfl ?_
    refine Exists.intro (a0, a1, 2) (And.intro rfl (And.intro (And.intro (by show 1 ≤ 2; omega) (And.intro (by show 2 ≤ a1; omega) (by show a1 ≤ 40; omega))) ?_))
    rintro z2 m_ h3
    obtain rfl : σ = m_ := h3
    refine Exists.intro (a0, z2) (And.intro rfl (And.intro True.intro ?_))
    rintro z4 m_ h5
    obtain rfl : σ = m_ := h5.2
    have h6 : 0 ≤ z4 ∧ z4 ≤ 2 := h5.1
    refine Exists.intro (a0, a1, 1) (And.intro rfl (And.intro (And.intro (by show 1 ≤ 1; omega) (And.intro (by show 1 ≤ a1; omega) (by show a1 ≤ 40; omega))) ?_))
    rintro z7 m_ h8
    obtain rfl : σ = m_ := h8
    refine Exists.intro (a0, z7) (And.intro rfl (And.intro True.intro ?_))
    rintro z9 m_ h10
    obtain rfl : σ = m_ := h10.2
    have h11 : 0 ≤ z9 ∧ z9 ≤ 2 := h10.1
    refine And.intro (fun h12 => ?_) (fun h12 => ?_)
    · skip
      refine B rfl ?_
      refine Exists.intro _ (And.intro rfl ?_)
      exact (And.intro (by show 1 = 1 ∨ 1 = 2; omega) (And.intro (by show 1 ≤ a1; omega) rfl))
    · skip
      refine B rfl ?_
      refine Exists.intro _ (And.intro rfl ?_)
      exact (And.intro (by show 2 = 1 ∨ 2 = 2; omega) (And.intro (by show 2 ≤ a1; omega) rfl))
  · skip
    refine Exists.intro _ (And.intro rfl ?_)
    exact (And.intro (by show 1 = 1 ∨ 1 = 2; omega) (And.intro (by show 1 ≤ a1; omega) rfl))
def as_G_X11_behind_100 : Int × Int × Int → List Sv_t := fun a => [(0, a.1), (0, a.2.1), (0, a.2.2), (56, 100)]
def pre_G_X11_behind_100 : Int × Int × Int → Me_t → Prop := fun a σ => (1 ≤ a.2.2) ∧ (a.2.2 ≤ a.2.1) ∧ (a.2.1 ≤ 40)
def post_G_X11_behind_100 : Int × Int × Int → Me_t → Int → Me_t → Prop := fun a σ z σ' => (σ = σ')
set_option maxHeartbeats 1500000 in
set_option maxRecDepth 100000 in
theorem ct_G_X11_behind_100 (l : Launch) : CT_ l yX11_behind cX11_behind 4 (some .int) 0 0 as_G_X11_behind_100 (rmI_) pre_G_X11_behind_100 post_G_X11_behind_100 := by
  refine ct_of (by decide) (fun _ => Nat.le_of_ble_eq_true rfl) ?_
  intro X G Q ad σ a hl hR E hG R hM hv hp
  obtain ⟨a0, a1, a2⟩ := a
  have r_a0 : -2147483648 ≤ a0 ∧ a0 ≤ 2147483647 := hv (0, a0) (List.mem_of_getElem? (i := 0) rfl)
  have r_a1 : -2147483648 ≤ a1 ∧ a1 ≤ 2147483647 := hv (0, a1) (List.mem_of_getElem? (i := 1) rfl)
  have r_a2 : -2147483648 ≤ a2 ∧ a2 ≤ 2147483647 := hv (0, a2) (List.mem_of_getElem? (i := 2) rfl)
  have hp0 : 1 ≤ a2 := hp.1
  have hp1 : a2 ≤ a1 := hp.2.1
  have hp2 : a1 ≤ 40 := hp.2.2
  have B := @bk_ X G Q 0 0 ad SHS_ RX11 cX11_behind 4 (some .int) flX11 plX11 knX11 [] _ _ none kX11_behind [] flX11_ok plX11_ok knX11_ok eX11_behind oX11_behind
    (fun _ h => absurd h List.not_mem_nil) R sok_no E
  show WP_ X G Q 0 0 ad SHS_ σ 0 [(0, a0), (0, a1), (0, a2), (56, 100)] []
  refine B rfl ?_
  refine And.intro (fun h1 => ?_) (fun h1 => ?_)
  · skip
    refine B rfl ?_
    refine And.intro (by omega) ?_
    refine And.intro (by omega) ?_
    intro z2 ez2 hz2
    have hz2 : ((-2147483648) : Int) ≤ z2 ∧ z2 ≤ (2147483647 : Int) := rgl_ hz2 (by decide +kernel) (by decide +kernel) (by decide +kernel)
    refine Exists.intro _ (And.intro rfl ?_)
    exact rfl
  · skip
    refine B rfl ?_
    refine Exists.intro _ (And.intro rfl ?_)
    exact rfl
def as_G_X11_bestTake_100 : Int × Int → List Sv_t := fun a => [(0, a.1), (0, a.2), (56, 100)]
def pre_G_X11_bestTake_100 : Int × Int → Me_t → Prop := fun a σ => (1 ≤ a.2) ∧ (a.2 ≤ 40)
def post_G_X11_bestTake_100 : Int × Int → Me_t → Int → Me_t → Prop := fun a σ z σ' => (z = 1 ∨ z = 2) ∧ (z ≤ a.2) ∧ (σ = σ')
set_option maxHeartbeats 1500000 in
set_option maxRecDepth 100000 in
theorem ct_G_X11_bestTake_100 (l : Launch) : CT_ l yX11_bestTake cX11_bestTake 3 (some .int) 1 23 as_G_X11_bestTake_100 (rmI_) pre_G_X11_bestTake_100 post_G_X11_bestTake_100 := by
  refine ct_of (by decide) (fun _ => Nat.le_of_ble_eq_true rfl) ?_
  intro X G Q ad σ a hl hR E hG R hM hv hp
  obtain ⟨a0, a1⟩ := a
  have r_a0 : -2147483648 ≤ a0 ∧ a0 ≤ 2147483647 := hv (0, a0) (List.mem_of_getElem? (i := 0) rfl)
  have r_a1 : -2147483648 ≤ a1 ∧ a1 ≤ 2147483647 := hv (0, a1) (List.mem_of_getElem? (i := 1) rfl)
  have hp0 : 1 ≤ a1 := hp.1
  have hp1 : a1 ≤ 40 := hp.2
  have B := @bk_ X G Q 0 0 ad SHS_ RX11 cX11_bestTake 3 (some .int) flX11 plX11 knX11 [(859, 4, TR_ as_G_X11_behind_100 (rmI_) pre_G_X11_behind_100 post_G_X11_behind_100), (867, 2, TR_ as_G_X11_rank (rmI_) pre_G_X11_rank post_G_X11_rank)] _ _ none kX11_bestTake [] flX11_ok plX11_ok knX11_ok eX11_bestTake oX11_bestTake
    (List.forall_mem_cons.mpr ⟨cok_s (n := 4) (idx := 429) E (ct_G_X11_behind_100 X.2.1) (by rw [hR]; decide) (Nat.zero_le _) (Nat.zero_le _) hG ⟨by decide, by decide, by decide⟩ (fun _ => rfl) wl_X11_429 wt_X11_behind wn_X11 wc_X11_behind, List.forall_mem_cons.mpr ⟨cok_s (n := 2) (idx := 433) E (ct_G_X11_rank X.2.1) (by rw [hR]; decide) (Nat.zero_le _) (Nat.zero_le _) hG ⟨by decide, by decide, by decide⟩ (fun _ => rfl) wl_X11_433 wt_X11_rank wn_X11 wc_X11_rank, fun _ h => absurd h List.not_mem_nil⟩⟩) R sok_no E
  show WP_ X G Q 0 0 ad SHS_ σ 0 [(0, a0), (0, a1), (56, 100)] []
  refine B rfl ?_
  refine And.intro (fun h1 => ?_) (fun h1 => ?_)
  · skip
    refine B rfl ?_
    refine Exists.intro (a0, a1, 2) (And.intro rfl (And.intro (And.intro (by show 1 ≤ 2; omega) (And.intro (by show 2 ≤ a1; omega) (by show a1 ≤ 40; omega))) ?_))
    rintro z2 m_ h3
    obtain rfl : σ = m_ := h3
    refine Exists.intro (a0, z2) (And.intro rfl (And.intro True.intro ?_))
    rintro z4 m_ h5
    obtain rfl : σ = m_ := h5.2
    have h6 : 0 ≤ z4 ∧ z4 ≤ 2 := h5.1
    refine Exists.intro (a0, a1, 1) (And.intro rfl (And.intro (And.intro (by show 1 ≤ 1; omega) (And.intro (by show 1 ≤ a1; omega) (by show a1 ≤ 40; omega))) ?_))
    rintro z7 m_ h8
    obtain rfl : σ = m_ := h8
    refine Exists.intro (a0, z7) (And.intro rfl (And.intro True.intro ?_))
    rintro z9 m_ h10
    obtain rfl : σ = m_ := h10.2
    have h11 : 0 ≤ z9 ∧ z9 ≤ 2 := h10.1
    refine And.intro (fun h12 => ?_) (fun h12 => ?_)
    · skip
      refine B rfl ?_
      refine Exists.intro _ (And.intro rfl ?_)
      exact (And.intro (by show 1 = 1 ∨ 1 = 2; omega) (And.intro (by show 1 ≤ a1; omega) rfl))
    · skip
      refine B rfl ?_
      refine Exists.intro _ (And.intro rfl ?_)
      exact (And.intro (by show 2 = 1 ∨ 2 = 2; omega) (And.intro (by show 2 ≤ a1; omega) rfl))
  · skip
    refine Exists.intro _ (And.intro rfl ?_)
    exact (And.intro (by show 1 = 1 ∨ 1 = 2; omega) (And.intro (by show 1 ≤ a1; omega) rfl))
def as_G_X11_turn_100 : Int → List Sv_t := fun a => [(0, a), (55, 99), (56, 100)]
def pre_G_X11_turn_100 : Int → Me_t → Prop := fun a σ => True
def post_G_X11_turn_100 : Int → Me_t → Int → Me_t → Prop := fun a σ z σ' => (∀ k j : Int, ¬ (k = 100) → σ' k j = σ k j)
set_option maxHeartbeats 1500000 in
set_option maxRecDepth 100000 in
theorem ct_G_X11_turn_100 (l : Launch) : CT_ l yX11_turn cX11_turn 4 none 2 45 as_G_X11_turn_100 (rmV_) pre_G_X11_turn_100 post_G_X11_turn_100 := by
  refine ct_of (by decide) (fun _ => Nat.le_of_ble_eq_true rfl) ?_
  intro X G Q ad σ a hl hR E hG R hM hv hp
  obtain ⟨a0, rfl⟩ : ∃ q : Int, q = a := ⟨_, rfl⟩
  have r_a0 : -2147483648 ≤ a0 ∧ a0 ≤ 2147483647 := hv (0, a0) (List.mem_of_getElem? (i := 0) rfl)
  have B := @bk_ X G Q 0 0 ad SHS_ RX11 cX11_turn 4 none flX11 plX11 knX11 [(873, 3, TR_ as_G_X11_bestTake_99 (rmI_) pre_G_X11_bestTake_99 post_G_X11_bestTake_99), (859, 4, TR_ as_G_X11_behind_99 (rmI_) pre_G_X11_behind_99 post_G_X11_behind_99)] _ _ none kX11_turn [2] flX11_ok plX11_ok knX11_ok eX11_turn oX11_turn
    (List.forall_mem_cons.mpr ⟨cok_s (n := 3) (idx := 436) E (ct_G_X11_bestTake_99 X.2.1) (by rw [hR]; decide) (Nat.zero_le _) (Nat.zero_le _) hG ⟨by decide, by decide, by decide⟩ (fun _ => rfl) wl_X11_436 wt_X11_bestTake wn_X11 wc_X11_bestTake, List.forall_mem_cons.mpr ⟨cok_s (n := 4) (idx := 429) E (ct_G_X11_behind_99 X.2.1) (by rw [hR]; decide) (Nat.zero_le _) (Nat.zero_le _) hG ⟨by decide, by decide, by decide⟩ (fun _ => rfl) wl_X11_429 wt_X11_behind wn_X11 wc_X11_behind, fun _ h => absurd h List.not_mem_nil⟩⟩) R sok_no E
  show WP_ X G Q 0 0 ad SHS_ σ 0 [(0, a0), (55, 99), (56, 100), (9, 0)] []
  refine B rfl ?_
  have lp_2 : ∀ (nq_ : Nat) (v3 : Int) (τ2 : Me_t), (∀ k j : Int, ¬ (k = 100) → τ2 k j = σ k j) → (1 ≤ v3) → (v3 ≤ 41) → (41 - v3 : Int).toNat < nq_ → WP_ X G Q 0 0 ad SHS_ τ2 2 [(0, a0), (55, 99), (56, 100), (0, v3)] [] := by
    intro nq_
    induction nq_ with
    | zero => intros; omega
    | succ nq_ ih_2 =>
      intro v3 τ2 hf2 hi2_0 hi2_1 hm2
      refine B rfl ?_
      refine And.intro (fun h1 => ?_) (fun h1 => ?_)
      · skip
        refine B rfl ?_
        refine Exists.intro 0 (And.intro rfl ?_)
        exact (fun k j hk => (hf2 _ _ (by omega)))
      · skip
        refine Exists.intro (a0, v3) (And.intro rfl (And.intro (And.intro (by show 1 ≤ v3; omega) (by show v3 ≤ 40; omega)) ?_))
        rintro z2 m_ h3
        obtain rfl : τ2 = m_ := h3.2.2
        have h4 : z2 = 1 ∨ z2 = 2 := h3.1
        have h5 : z2 ≤ v3 := h3.2.1
        refine Exists.intro (a0, v3, z2) (And.intro rfl (And.intro (And.intro (by show 1 ≤ z2; omega) (And.intro (by show z2 ≤ v3; omega) (by show v3 ≤ 40; omega))) ?_))
        rintro z6 m_ h7
        obtain rfl : τ2 = m_ := h7
        refine And.intro (by omega) ?_
        intro σ8 e9
        refine And.intro (by omega) ?_
        exact ih_2 (v3 + 1) σ8 (fun k j hk => ((ups_r e9 (by omega)).trans (hf2 _ _ (by omega)))) (by show 1 ≤ (v3 + 1); omega) (by show (v3 + 1) ≤ 41; omega) (by omega)
  exact lp_2 ((41 - 1 : Int).toNat + 1) 1 σ (fun k j hk => rfl) (by show 1 ≤ 1; omega) (by show 1 ≤ 41; omega) (by omega)
def as_G_X11_turn_101 : Int → List Sv_t := fun a => [(0, a), (56, 100), (57, 101)]
def pre_G_X11_turn_101 : Int → Me_t → Prop := fun a σ => True
def post_G_X11_turn_101 : Int → Me_t → Int → Me_t → Prop := fun a σ z σ' => (∀ k j : Int, ¬ (k = 101) → σ' k j = σ k j)
set_option maxHeartbeats 1500000 in
set_option maxRecDepth 100000 in
theorem ct_G_X11_turn_101 (l : Launch) : CT_ l yX11_turn cX11_turn 4 none 2 45 as_G_X11_turn_101 (rmV_) pre_G_X11_turn_101 post_G_X11_turn_101 := by
  refine ct_of (by decide) (fun _ => Nat.le_of_ble_eq_true rfl) ?_
  intro X G Q ad σ a hl hR E hG R hM hv hp
  obtain ⟨a0, rfl⟩ : ∃ q : Int, q = a := ⟨_, rfl⟩
  have r_a0 : -2147483648 ≤ a0 ∧ a0 ≤ 2147483647 := hv (0, a0) (List.mem_of_getElem? (i := 0) rfl)
  have B := @bk_ X G Q 0 0 ad SHS_ RX11 cX11_turn 4 none flX11 plX11 knX11 [(873, 3, TR_ as_G_X11_bestTake_100 (rmI_) pre_G_X11_bestTake_100 post_G_X11_bestTake_100), (859, 4, TR_ as_G_X11_behind_100 (rmI_) pre_G_X11_behind_100 post_G_X11_behind_100)] _ _ none kX11_turn [2] flX11_ok plX11_ok knX11_ok eX11_turn oX11_turn
    (List.forall_mem_cons.mpr ⟨cok_s (n := 3) (idx := 436) E (ct_G_X11_bestTake_100 X.2.1) (by rw [hR]; decide) (Nat.zero_le _) (Nat.zero_le _) hG ⟨by decide, by decide, by decide⟩ (fun _ => rfl) wl_X11_436 wt_X11_bestTake wn_X11 wc_X11_bestTake, List.forall_mem_cons.mpr ⟨cok_s (n := 4) (idx := 429) E (ct_G_X11_behind_100 X.2.1) (by rw [hR]; decide) (Nat.zero_le _) (Nat.zero_le _) hG ⟨by decide, by decide, by decide⟩ (fun _ => rfl) wl_X11_429 wt_X11_behind wn_X11 wc_X11_behind, fun _ h => absurd h List.not_mem_nil⟩⟩) R sok_no E
  show WP_ X G Q 0 0 ad SHS_ σ 0 [(0, a0), (56, 100), (57, 101), (9, 0)] []
  refine B rfl ?_
  have lp_2 : ∀ (nq_ : Nat) (v3 : Int) (τ2 : Me_t), (∀ k j : Int, ¬ (k = 101) → τ2 k j = σ k j) → (1 ≤ v3) → (v3 ≤ 41) → (41 - v3 : Int).toNat < nq_ → WP_ X G Q 0 0 ad SHS_ τ2 2 [(0, a0), (56, 100), (57, 101), (0, v3)] [] := by
    intro nq_
    induction nq_ with
    | zero => intros; omega
    | succ nq_ ih_2 =>
      intro v3 τ2 hf2 hi2_0 hi2_1 hm2
      refine B rfl ?_
      refine And.intro (fun h1 => ?_) (fun h1 => ?_)
      · skip
        refine B rfl ?_
        refine Exists.intro 0 (And.intro rfl ?_)
        exact (fun k j hk => (hf2 _ _ (by omega)))
      · skip
        refine Exists.intro (a0, v3) (And.intro rfl (And.intro (And.intro (by show 1 ≤ v3; omega) (by show v3 ≤ 40; omega)) ?_))
        rintro z2 m_ h3
        obtain rfl : τ2 = m_ := h3.2.2
        have h4 : z2 = 1 ∨ z2 = 2 := h3.1
        have h5 : z2 ≤ v3 := h3.2.1
        refine Exists.intro (a0, v3, z2) (And.intro rfl (And.intro (And.intro (by show 1 ≤ z2; omega) (And.intro (by show z2 ≤ v3; omega) (by show v3 ≤ 40; omega))) ?_))
        rintro z6 m_ h7
        obtain rfl : τ2 = m_ := h7
        refine And.intro (by omega) ?_
        intro σ8 e9
        refine And.intro (by omega) ?_
        exact ih_2 (v3 + 1) σ8 (fun k j hk => ((ups_r e9 (by omega)).trans (hf2 _ _ (by omega)))) (by show 1 ≤ (v3 + 1); omega) (by show (v3 + 1) ≤ 41; omega) (by omega)
  exact lp_2 ((41 - 1 : Int).toNat + 1) 1 σ (fun k j hk => rfl) (by show 1 ≤ 1; omega) (by show 1 ≤ 41; omega) (by omega)
def as_G_X11_copy_100 : Unit → List Sv_t := fun a => [(42, 86), (55, 99), (56, 100)]
def pre_G_X11_copy_100 : Unit → Me_t → Prop := fun a σ => True
def post_G_X11_copy_100 : Unit → Me_t → Int → Me_t → Prop := fun a σ z σ' => (∀ k j : Int, ¬ (k = 100) → σ' k j = σ k j)
set_option maxHeartbeats 1500000 in
set_option maxRecDepth 100000 in
theorem ct_G_X11_copy_100 (l : Launch) : CT_ l yX11_copy cX11_copy 4 none 0 0 as_G_X11_copy_100 (rmV_) pre_G_X11_copy_100 post_G_X11_copy_100 := by
  refine ct_of (by decide) (fun _ => Nat.le_of_ble_eq_true rfl) ?_
  intro X G Q ad σ a hl hR E hG R hM hv hp
  have B := @bk_ X G Q 0 0 ad SHS_ RX11 cX11_copy 4 none flX11 plX11 knX11 [] _ _ none kX11_copy [2] flX11_ok plX11_ok knX11_ok eX11_copy oX11_copy
    (fun _ h => absurd h List.not_mem_nil) R sok_no E
  show WP_ X G Q 0 0 ad SHS_ σ 0 [(42, 86), (55, 99), (56, 100), (9, 0)] []
  refine B rfl ?_
  show WP_ X G Q 0 0 ad SHS_ σ 2 [(42, 86), (55, 99), (56, 100), (0, 1)] []
  refine wdrop_ (L' := [(9, 0), (55, 99), (56, 100), (0, 1)]) ⟨Or.inl rfl, ⟨Or.inr rfl, ⟨Or.inr rfl, ⟨Or.inr rfl, trivial⟩⟩⟩⟩ ?_
  have lp_2 : ∀ (nq_ : Nat) (v3 : Int) (τ2 : Me_t), (∀ k j : Int, ¬ (k = 100) → τ2 k j = σ k j) → (1 ≤ v3) → (v3 ≤ 41) → (41 - v3 : Int).toNat < nq_ → WP_ X G Q 0 0 ad SHS_ τ2 2 [(9, 0), (55, 99), (56, 100), (0, v3)] [] := by
    intro nq_
    induction nq_ with
    | zero => intros; omega
    | succ nq_ ih_2 =>
      intro v3 τ2 hf2 hi2_0 hi2_1 hm2
      refine B rfl ?_
      refine And.intro (fun h1 => ?_) (fun h1 => ?_)
      · skip
        refine B rfl ?_
        refine Exists.intro 0 (And.intro rfl ?_)
        exact (fun k j hk => (hf2 _ _ (by omega)))
      · skip
        refine And.intro (by omega) ?_
        intro z2 ez2 hz2
        have hz2 : ((-2147483648) : Int) ≤ z2 ∧ z2 ≤ (2147483647 : Int) := rgl_ hz2 (by decide +kernel) (by decide +kernel) (by decide +kernel)
        try have t3 : τ2 99 v3 = σ 99 v3 := (hf2 _ _ (by omega))
        refine And.intro (by omega) ?_
        intro σ4 e5
        refine And.intro (by omega) ?_
        exact ih_2 (v3 + 1) σ4 (fun k j hk => ((ups_r e5 (by omega)).trans (hf2 _ _ (by omega)))) (by show 1 ≤ (v3 + 1); omega) (by show (v3 + 1) ≤ 41; omega) (by omega)
  exact lp_2 ((41 - 1 : Int).toNat + 1) 1 σ (fun k j hk => rfl) (by show 1 ≤ 1; omega) (by show 1 ≤ 41; omega) (by omega)
def as_G_X11_copy_101 : Unit → List Sv_t := fun a => [(42, 86), (56, 100), (57, 101)]
def pre_G_X11_copy_101 : Unit → Me_t → Prop := fun a σ => True
def post_G_X11_copy_101 : Unit → Me_t → Int → Me_t → Prop := fun a σ z σ' => (∀ k j : Int, ¬ (k = 101) → σ' k j = σ k j)
set_option maxHeartbeats 1500000 in
set_option maxRecDepth 100000 in
theorem ct_G_X11_copy_101 (l : Launch) : CT_ l yX11_copy cX11_copy 4 none 0 0 as_G_X11_copy_101 (rmV_) pre_G_X11_copy_101 post_G_X11_copy_101 := by
  refine ct_of (by decide) (fun _ => Nat.le_of_ble_eq_true rfl) ?_
  intro X G Q ad σ a hl hR E hG R hM hv hp
  have B := @bk_ X G Q 0 0 ad SHS_ RX11 cX11_copy 4 none flX11 plX11 knX11 [] _ _ none kX11_copy [2] flX11_ok plX11_ok knX11_ok eX11_copy oX11_copy
    (fun _ h => absurd h List.not_mem_nil) R sok_no E
  show WP_ X G Q 0 0 ad SHS_ σ 0 [(42, 86), (56, 100), (57, 101), (9, 0)] []
  refine B rfl ?_
  show WP_ X G Q 0 0 ad SHS_ σ 2 [(42, 86), (56, 100), (57, 101), (0, 1)] []
  refine wdrop_ (L' := [(9, 0), (56, 100), (57, 101), (0, 1)]) ⟨Or.inl rfl, ⟨Or.inr rfl, ⟨Or.inr rfl, ⟨Or.inr rfl, trivial⟩⟩⟩⟩ ?_
  have lp_2 : ∀ (nq_ : Nat) (v3 : Int) (τ2 : Me_t), (∀ k j : Int, ¬ (k = 101) → τ2 k j = σ k j) → (1 ≤ v3) → (v3 ≤ 41) → (41 - v3 : Int).toNat < nq_ → WP_ X G Q 0 0 ad SHS_ τ2 2 [(9, 0), (56, 100), (57, 101), (0, v3)] [] := by
    intro nq_
    induction nq_ with
    | zero => intros; omega
    | succ nq_ ih_2 =>
      intro v3 τ2 hf2 hi2_0 hi2_1 hm2
      refine B rfl ?_
      refine And.intro (fun h1 => ?_) (fun h1 => ?_)
      · skip
        refine B rfl ?_
        refine Exists.intro 0 (And.intro rfl ?_)
        exact (fun k j hk => (hf2 _ _ (by omega)))
      · skip
        refine And.intro (by omega) ?_
        intro z2 ez2 hz2
        have hz2 : ((-2147483648) : Int) ≤ z2 ∧ z2 ≤ (2147483647 : Int) := rgl_ hz2 (by decide +kernel) (by decide +kernel) (by decide +kernel)
        try have t3 : τ2 100 v3 = σ 100 v3 := (hf2 _ _ (by omega))
        refine And.intro (by omega) ?_
        intro σ4 e5
        refine And.intro (by omega) ?_
        exact ih_2 (v3 + 1) σ4 (fun k j hk => ((ups_r e5 (by omega)).trans (hf2 _ _ (by omega)))) (by show 1 ≤ (v3 + 1); omega) (by show (v3 + 1) ≤ 41; omega) (by omega)
  exact lp_2 ((41 - 1 : Int).toNat + 1) 1 σ (fun k j hk => rfl) (by show 1 ≤ 1; omega) (by show 1 ≤ 41; omega) (by omega)
def as_G_X11_copy_99 : Unit → List Sv_t := fun a => [(42, 86), (57, 101), (55, 99)]
def pre_G_X11_copy_99 : Unit → Me_t → Prop := fun a σ => True
def post_G_X11_copy_99 : Unit → Me_t → Int → Me_t → Prop := fun a σ z σ' => (∀ k j : Int, ¬ (k = 99) → σ' k j = σ k j)
set_option maxHeartbeats 1500000 in
set_option maxRecDepth 100000 in
theorem ct_G_X11_copy_99 (l : Launch) : CT_ l yX11_copy cX11_copy 4 none 0 0 as_G_X11_copy_99 (rmV_) pre_G_X11_copy_99 post_G_X11_copy_99 := by
  refine ct_of (by decide) (fun _ => Nat.le_of_ble_eq_true rfl) ?_
  intro X G Q ad σ a hl hR E hG R hM hv hp
  have B := @bk_ X G Q 0 0 ad SHS_ RX11 cX11_copy 4 none flX11 plX11 knX11 [] _ _ none kX11_copy [2] flX11_ok plX11_ok knX11_ok eX11_copy oX11_copy
    (fun _ h => absurd h List.not_mem_nil) R sok_no E
  show WP_ X G Q 0 0 ad SHS_ σ 0 [(42, 86), (57, 101), (55, 99), (9, 0)] []
  refine B rfl ?_
  show WP_ X G Q 0 0 ad SHS_ σ 2 [(42, 86), (57, 101), (55, 99), (0, 1)] []
  refine wdrop_ (L' := [(9, 0), (57, 101), (55, 99), (0, 1)]) ⟨Or.inl rfl, ⟨Or.inr rfl, ⟨Or.inr rfl, ⟨Or.inr rfl, trivial⟩⟩⟩⟩ ?_
  have lp_2 : ∀ (nq_ : Nat) (v3 : Int) (τ2 : Me_t), (∀ k j : Int, ¬ (k = 99) → τ2 k j = σ k j) → (1 ≤ v3) → (v3 ≤ 41) → (41 - v3 : Int).toNat < nq_ → WP_ X G Q 0 0 ad SHS_ τ2 2 [(9, 0), (57, 101), (55, 99), (0, v3)] [] := by
    intro nq_
    induction nq_ with
    | zero => intros; omega
    | succ nq_ ih_2 =>
      intro v3 τ2 hf2 hi2_0 hi2_1 hm2
      refine B rfl ?_
      refine And.intro (fun h1 => ?_) (fun h1 => ?_)
      · skip
        refine B rfl ?_
        refine Exists.intro 0 (And.intro rfl ?_)
        exact (fun k j hk => (hf2 _ _ (by omega)))
      · skip
        refine And.intro (by omega) ?_
        intro z2 ez2 hz2
        have hz2 : ((-2147483648) : Int) ≤ z2 ∧ z2 ≤ (2147483647 : Int) := rgl_ hz2 (by decide +kernel) (by decide +kernel) (by decide +kernel)
        try have t3 : τ2 101 v3 = σ 101 v3 := (hf2 _ _ (by omega))
        refine And.intro (by omega) ?_
        intro σ4 e5
        refine And.intro (by omega) ?_
        exact ih_2 (v3 + 1) σ4 (fun k j hk => ((ups_r e5 (by omega)).trans (hf2 _ _ (by omega)))) (by show 1 ≤ (v3 + 1); omega) (by show (v3 + 1) ≤ 41; omega) (by omega)
  exact lp_2 ((41 - 1 : Int).toNat + 1) 1 σ (fun k j hk => rfl) (by show 1 ≤ 1; omega) (by show 1 ≤ 41; omega) (by omega)
def as_G_X11_play : Int × Int × Int → List Sv_t := fun a => [(42, 86), (0, a.1), (0, a.2.1), (0, a.2.2)]
def pre_G_X11_play : Int × Int × Int → Me_t → Prop := fun a σ => (0 ≤ a.1) ∧ (a.1 ≤ 2) ∧ (0 ≤ a.2.1) ∧ (a.2.1 ≤ 2) ∧ (0 ≤ a.2.2) ∧ (a.2.2 ≤ 2000)
def post_G_X11_play : Int × Int × Int → Me_t → Int → Me_t → Prop := fun a σ z σ' => (∀ k j : Int, ¬ (99 ≤ k ∧ k ≤ 101) → σ' k j = σ k j)
set_option maxHeartbeats 1500000 in
set_option maxRecDepth 100000 in
theorem ct_G_X11_play (l : Launch) : CT_ l yX11_play cX11_play 7 none 3 68 as_G_X11_play (rmV_) pre_G_X11_play post_G_X11_play := by
  refine ct_of (by decide) (fun _ => Nat.le_of_ble_eq_true rfl) ?_
  intro X G Q ad σ a hl hR E hG R hM hv hp
  obtain ⟨a1, a2, a3⟩ := a
  have r_a1 : -2147483648 ≤ a1 ∧ a1 ≤ 2147483647 := hv (0, a1) (List.mem_of_getElem? (i := 1) rfl)
  have r_a2 : -2147483648 ≤ a2 ∧ a2 ≤ 2147483647 := hv (0, a2) (List.mem_of_getElem? (i := 2) rfl)
  have r_a3 : -2147483648 ≤ a3 ∧ a3 ≤ 2147483647 := hv (0, a3) (List.mem_of_getElem? (i := 3) rfl)
  have hp0 : 0 ≤ a1 := hp.1
  have hp1 : a1 ≤ 2 := hp.2.1
  have hp2 : 0 ≤ a2 := hp.2.2.1
  have hp3 : a2 ≤ 2 := hp.2.2.2.1
  have hp4 : 0 ≤ a3 := hp.2.2.2.2.1
  have hp5 : a3 ≤ 2000 := hp.2.2.2.2.2
  have B := @bk_ X G Q 0 0 ad SHS_ RX11 cX11_play 7 none flX11 plX11 knX11 [(880, 3, TOR_ (TR_ as_G_X11_copy_100 (rmV_) pre_G_X11_copy_100 post_G_X11_copy_100) (TOR_ (TR_ as_G_X11_copy_101 (rmV_) pre_G_X11_copy_101 post_G_X11_copy_101) (TR_ as_G_X11_copy_99 (rmV_) pre_G_X11_copy_99 post_G_X11_copy_99))), (508, 3, TR_ as_G_X11_mayOn (rmI_) pre_G_X11_mayOn post_G_X11_mayOn), (889, 3, TOR_ (TR_ as_G_X11_turn_101 (rmV_) pre_G_X11_turn_101 post_G_X11_turn_101) (TR_ as_G_X11_turn_100 (rmV_) pre_G_X11_turn_100 post_G_X11_turn_100)), (279, 2, TMIN_), (643, 2, TMAX_)] _ _ none kX11_play [17, 24, 43, 49, 72, 108] flX11_ok plX11_ok knX11_ok eX11_play oX11_play
    (List.forall_mem_cons.mpr ⟨cok_or (cok_v (t := 32) (c := 11) (N := 39) (n := 2) (idx := 440) E (ct_G_X11_copy_100 X.2.1) (by rw [hR]; decide) (Nat.zero_le _) (Nat.zero_le _) hG rfl rfl ⟨rfl, by decide, by decide, by decide⟩ (fun _ => ⟨_, _, rfl, rfl⟩) wl_X11_440 wi_X11_copy ws_X11_copy wn_X11 wc_X11_copy) (cok_or (cok_v (t := 32) (c := 11) (N := 39) (n := 2) (idx := 440) E (ct_G_X11_copy_101 X.2.1) (by rw [hR]; decide) (Nat.zero_le _) (Nat.zero_le _) hG rfl rfl ⟨rfl, by decide, by decide, by decide⟩ (fun _ => ⟨_, _, rfl, rfl⟩) wl_X11_440 wi_X11_copy ws_X11_copy wn_X11 wc_X11_copy) (cok_v (t := 32) (c := 11) (N := 39) (n := 2) (idx := 440) E (ct_G_X11_copy_99 X.2.1) (by rw [hR]; decide) (Nat.zero_le _) (Nat.zero_le _) hG rfl rfl ⟨rfl, by decide, by decide, by decide⟩ (fun _ => ⟨_, _, rfl, rfl⟩) wl_X11_440 wi_X11_copy ws_X11_copy wn_X11 wc_X11_copy)), List.forall_mem_cons.mpr ⟨cok_v (t := 32) (c := 11) (N := 39) (n := 2) (idx := 254) E (ct_G_X11_mayOn X.2.1) (by rw [hR]; decide) (Nat.zero_le _) (Nat.zero_le _) hG rfl rfl ⟨rfl, by decide, by decide, by decide⟩ (fun _ => ⟨_, _, rfl, rfl⟩) wl_X11_254 wi_X11_mayOn ws_X11_mayOn wn_X11 wc_X11_mayOn, List.forall_mem_cons.mpr ⟨cok_or (cok_s (n := 3) (idx := 444) E (ct_G_X11_turn_101 X.2.1) (by rw [hR]; decide) (Nat.zero_le _) (Nat.zero_le _) hG ⟨by decide, by decide, by decide⟩ (fun _ => rfl) wl_X11_444 wt_X11_turn wn_X11 wc_X11_turn) (cok_s (n := 3) (idx := 444) E (ct_G_X11_turn_100 X.2.1) (by rw [hR]; decide) (Nat.zero_le _) (Nat.zero_le _) hG ⟨by decide, by decide, by decide⟩ (fun _ => rfl) wl_X11_444 wt_X11_turn wn_X11 wc_X11_turn), List.forall_mem_cons.mpr ⟨cok_min (idx := 139) E (by rw [hR]; decide) (Nat.zero_le _) (Nat.zero_le _) wl_X11_139, List.forall_mem_cons.mpr ⟨cok_max (idx := 321) E (by rw [hR]; decide) (Nat.zero_le _) (Nat.zero_le _) wl_X11_321, fun _ h => absurd h List.not_mem_nil⟩⟩⟩⟩⟩) R sok_no E
  show WP_ X G Q 0 0 ad SHS_ σ 0 [(42, 86), (0, a1), (0, a2), (0, a3), (9, 0), (9, 0), (9, 0)] []
  refine B rfl ?_
  refine Exists.intro a1 (Exists.intro a2 (And.intro rfl ?_))
  intro z1 hz1
  refine Exists.intro a1 (Exists.intro a2 (And.intro rfl ?_))
  intro z2 hz2
  show WP_ X G Q 0 0 ad SHS_ σ 17 [(42, 86), (0, a1), (0, a2), (0, a3), (0, z1), (0, z2), (0, 1)] []
  refine wdrop_ (L' := [(42, 86), (9, 0), (9, 0), (0, a3), (0, z1), (0, z2), (0, 1)]) ⟨Or.inr rfl, ⟨Or.inl rfl, ⟨Or.inl rfl, ⟨Or.inr rfl, ⟨Or.inr rfl, ⟨Or.inr rfl, ⟨Or.inr rfl, trivial⟩⟩⟩⟩⟩⟩⟩ ?_
  have lp_17 : ∀ (nq_ : Nat) (v6 : Int) (τ17 : Me_t), (∀ k j : Int, ¬ (99 ≤ k ∧ k ≤ 101) → τ17 k j = σ k j) → (1 ≤ v6) → (v6 ≤ 41) → (41 - v6 : Int).toNat < nq_ → WP_ X G Q 0 0 ad SHS_ τ17 17 [(42, 86), (9, 0), (9, 0), (0, a3), (0, z1), (0, z2), (0, v6)] [] := by
    intro nq_
    induction nq_ with
    | zero => intros; omega
    | succ nq_ ih_17 =>
      intro v6 τ17 hf17 hi17_0 hi17_1 hm17
      refine B rfl ?_
      refine And.intro (fun h3 => ?_) (fun h3 => ?_)
      · skip
        refine B rfl ?_
        have lp_43 : ∀ (nq_ : Nat) (v6 : Int) (τ43 : Me_t), (∀ k j : Int, ¬ (99 ≤ k ∧ k ≤ 101) → τ43 k j = σ k j) → (-1 ≤ v6) → (v6 ≤ 1999) → (v6 + 1 : Int).toNat < nq_ → WP_ X G Q 0 0 ad SHS_ τ43 43 [(42, 86), (9, 0), (9, 0), (0, a3), (0, z1), (0, z2), (0, v6)] [] := by
          intro nq_
          induction nq_ with
          | zero => intros; omega
          | succ nq_ ih_43 =>
            intro v6 τ43 hf43 hi43_0 hi43_1 hm43
            refine B rfl ?_
            refine And.intro (fun h4 => ?_) (fun h4 => ?_)
            · skip
              refine B rfl ?_
              refine Exists.intro 0 (And.intro rfl ?_)
              exact (fun k j hk => (hf43 _ _ (by omega)))
            · skip
              show WP_ X G Q 0 0 ad SHS_ τ43 49 [(42, 86), (9, 0), (9, 0), (0, a3), (0, z1), (0, z2), (0, v6)] []
              refine B rfl ?_
              refine Or.inl ?_
              refine Exists.intro () (And.intro rfl (And.intro True.intro ?_))
              intro z5 σ7 h6
              have f8 : ∀ k j : Int, ¬ (k = 100) → σ7 k j = τ43 k j := h6
              refine Exists.intro (z2, v6) (And.intro rfl (And.intro (And.intro (by show 0 ≤ z2; omega) (And.intro (by show z2 ≤ 2; omega) (And.intro (by show 0 ≤ v6; omega) (by show v6 ≤ 1999; omega)))) ?_))
              rintro z9 m_ h10
              obtain rfl : σ7 = m_ := h10.2
              have h11 : (z9 = 1 ∧ σ7 96 (2000 * z2 + v6) = 0) ∨ (z9 = 0 ∧ σ7 96 (2000 * z2 + v6) ≠ 0) := h10.1
              try have t12 : σ7 96 (2000 * z2 + v6) = σ 96 (2000 * z2 + v6) := ((f8 _ _ (by omega)).trans (hf43 _ _ (by omega)))
              refine And.intro (fun h13 => ?_) (fun h13 => ?_)
              · skip
                refine B rfl ?_
                refine Or.inr ?_
                refine Or.inl ?_
                refine Exists.intro () (And.intro rfl (And.intro True.intro ?_))
                intro z14 σ16 h15
                have f17 : ∀ k j : Int, ¬ (k = 101) → σ16 k j = σ7 k j := h15
                refine Exists.intro (z1, v6) (And.intro rfl (And.intro (And.intro (by show 0 ≤ z1; omega) (And.intro (by show z1 ≤ 2; omega) (And.intro (by show 0 ≤ v6; omega) (by show v6 ≤ 1999; omega)))) ?_))
                rintro z18 m_ h19
                obtain rfl : σ16 = m_ := h19.2
                have h20 : (z18 = 1 ∧ σ16 96 (2000 * z1 + v6) = 0) ∨ (z18 = 0 ∧ σ16 96 (2000 * z1 + v6) ≠ 0) := h19.1
                try have t21 : σ16 96 (2000 * z1 + v6) = σ 96 (2000 * z1 + v6) := ((f17 _ _ (by omega)).trans ((f8 _ _ (by omega)).trans (hf43 _ _ (by omega))))
                refine And.intro (fun h22 => ?_) (fun h22 => ?_)
                · skip
                  refine B rfl ?_
                  refine Or.inr ?_
                  refine Or.inr ?_
                  refine Exists.intro () (And.intro rfl (And.intro True.intro ?_))
                  intro z23 σ25 h24
                  have f26 : ∀ k j : Int, ¬ (k = 99) → σ25 k j = σ16 k j := h24
                  refine And.intro (by omega) ?_
                  exact ih_43 (v6 + (-1)) σ25 (fun k j hk => ((f26 _ _ (by omega)).trans ((f17 _ _ (by omega)).trans ((f8 _ _ (by omega)).trans (hf43 _ _ (by omega)))))) (by show -1 ≤ (v6 + (-1)); omega) (by show (v6 + (-1)) ≤ 1999; omega) (by omega)
                · skip
                  show WP_ X G Q 0 0 ad SHS_ σ16 108 [(42, 86), (9, 0), (9, 0), (0, a3), (0, z1), (0, z2), (0, v6)] []
                  refine B rfl ?_
                  refine Or.inl ?_
                  refine Exists.intro z1 (And.intro rfl (And.intro True.intro ?_))
                  intro z27 σ29 h28
                  have f30 : ∀ k j : Int, ¬ (k = 101) → σ29 k j = σ16 k j := h28
                  refine Or.inr ?_
                  refine Or.inr ?_
                  refine Exists.intro () (And.intro rfl (And.intro True.intro ?_))
                  intro z31 σ33 h32
                  have f34 : ∀ k j : Int, ¬ (k = 99) → σ33 k j = σ29 k j := h32
                  refine And.intro (by omega) ?_
                  exact ih_43 (v6 + (-1)) σ33 (fun k j hk => ((f34 _ _ (by omega)).trans ((f30 _ _ (by omega)).trans ((f17 _ _ (by omega)).trans ((f8 _ _ (by omega)).trans (hf43 _ _ (by omega))))))) (by show -1 ≤ (v6 + (-1)); omega) (by show (v6 + (-1)) ≤ 1999; omega) (by omega)
              · skip
                show WP_ X G Q 0 0 ad SHS_ σ7 72 [(42, 86), (9, 0), (9, 0), (0, a3), (0, z1), (0, z2), (0, v6)] []
                refine B rfl ?_
                refine Or.inr ?_
                refine Exists.intro z2 (And.intro rfl (And.intro True.intro ?_))
                intro z35 σ37 h36
                have f38 : ∀ k j : Int, ¬ (k = 100) → σ37 k j = σ7 k j := h36
                refine Or.inr ?_
                refine Or.inl ?_
                refine Exists.intro () (And.intro rfl (And.intro True.intro ?_))
                intro z39 σ41 h40
                have f42 : ∀ k j : Int, ¬ (k = 101) → σ41 k j = σ37 k j := h40
                refine Exists.intro (z1, v6) (And.intro rfl (And.intro (And.intro (by show 0 ≤ z1; omega) (And.intro (by show z1 ≤ 2; omega) (And.intro (by show 0 ≤ v6; omega) (by show v6 ≤ 1999; omega)))) ?_))
                rintro z43 m_ h44
                obtain rfl : σ41 = m_ := h44.2
                have h45 : (z43 = 1 ∧ σ41 96 (2000 * z1 + v6) = 0) ∨ (z43 = 0 ∧ σ41 96 (2000 * z1 + v6) ≠ 0) := h44.1
                try have t46 : σ41 96 (2000 * z1 + v6) = σ 96 (2000 * z1 + v6) := ((f42 _ _ (by omega)).trans ((f38 _ _ (by omega)).trans ((f8 _ _ (by omega)).trans (hf43 _ _ (by omega)))))
                refine And.intro (fun h47 => ?_) (fun h47 => ?_)
                · skip
                  refine B rfl ?_
                  refine Or.inr ?_
                  refine Or.inr ?_
                  refine Exists.intro () (And.intro rfl (And.intro True.intro ?_))
                  intro z48 σ50 h49
                  have f51 : ∀ k j : Int, ¬ (k = 99) → σ50 k j = σ41 k j := h49
                  refine And.intro (by omega) ?_
                  exact ih_43 (v6 + (-1)) σ50 (fun k j hk => ((f51 _ _ (by omega)).trans ((f42 _ _ (by omega)).trans ((f38 _ _ (by omega)).trans ((f8 _ _ (by omega)).trans (hf43 _ _ (by omega))))))) (by show -1 ≤ (v6 + (-1)); omega) (by show (v6 + (-1)) ≤ 1999; omega) (by omega)
                · skip
                  show WP_ X G Q 0 0 ad SHS_ σ41 108 [(42, 86), (9, 0), (9, 0), (0, a3), (0, z1), (0, z2), (0, v6)] []
                  refine B rfl ?_
                  refine Or.inl ?_
                  refine Exists.intro z1 (And.intro rfl (And.intro True.intro ?_))
                  intro z52 σ54 h53
                  have f55 : ∀ k j : Int, ¬ (k = 101) → σ54 k j = σ41 k j := h53
                  refine Or.inr ?_
                  refine Or.inr ?_
                  refine Exists.intro () (And.intro rfl (And.intro True.intro ?_))
                  intro z56 σ58 h57
                  have f59 : ∀ k j : Int, ¬ (k = 99) → σ58 k j = σ54 k j := h57
                  refine And.intro (by omega) ?_
                  exact ih_43 (v6 + (-1)) σ58 (fun k j hk => ((f59 _ _ (by omega)).trans ((f55 _ _ (by omega)).trans ((f42 _ _ (by omega)).trans ((f38 _ _ (by omega)).trans ((f8 _ _ (by omega)).trans (hf43 _ _ (by omega)))))))) (by show -1 ≤ (v6 + (-1)); omega) (by show (v6 + (-1)) ≤ 1999; omega) (by omega)
        exact lp_43 ((1999 + 1 : Int).toNat + 1) 1999 τ17 (fun k j hk => (hf17 _ _ (by omega))) (by show -1 ≤ 1999; omega) (by show 1999 ≤ 1999; omega) (by omega)
      · skip
        show WP_ X G Q 0 0 ad SHS_ τ17 24 [(42, 86), (9, 0), (9, 0), (0, a3), (0, z1), (0, z2), (0, v6)] []
        refine B rfl ?_
        refine And.intro (by omega) ?_
        intro σ60 e61
        refine And.intro (by omega) ?_
        exact ih_17 (v6 + 1) σ60 (fun k j hk => ((ups_r e61 (by omega)).trans (hf17 _ _ (by omega)))) (by show 1 ≤ (v6 + 1); omega) (by show (v6 + 1) ≤ 41; omega) (by omega)
  exact lp_17 ((41 - 1 : Int).toNat + 1) 1 σ (fun k j hk => rfl) (by show 1 ≤ 1; omega) (by show 1 ≤ 41; omega) (by omega)
def as_G_X11_isGame : Int × Int × Int × Int → List Sv_t := fun a => [(42, 86), (0, a.1), (0, a.2.1), (0, a.2.2.1), (0, a.2.2.2)]
def pre_G_X11_isGame : Int × Int × Int × Int → Me_t → Prop := fun a σ => (BW σ 87)
def post_G_X11_isGame : Int × Int × Int × Int → Me_t → Int → Me_t → Prop := fun a σ z σ' => ((z = 1 ∧ 0 ≤ a.1 ∧ a.1 ≤ 2 ∧ 0 ≤ a.2.1 ∧ a.2.1 ≤ 2 ∧ a.1 ≠ a.2.1 ∧ 0 ≤ a.2.2.1 ∧ a.2.2.1 ≤ 1999 ∧ 1 ≤ a.2.2.2 ∧ a.2.2.2 ≤ 40) ∨ z = 0) ∧ (σ = σ')
set_option maxHeartbeats 1500000 in
set_option maxRecDepth 100000 in
theorem ct_G_X11_isGame (l : Launch) : CT_ l yX11_isGame cX11_isGame 5 (some .boolean) 3 69 as_G_X11_isGame (rmI_) pre_G_X11_isGame post_G_X11_isGame := by
  refine ct_of (by decide) (fun _ => Nat.le_of_ble_eq_true rfl) ?_
  intro X G Q ad σ a hl hR E hG R hM hv hp
  obtain ⟨a1, a2, a3, a4⟩ := a
  have r_a1 : -2147483648 ≤ a1 ∧ a1 ≤ 2147483647 := hv (0, a1) (List.mem_of_getElem? (i := 1) rfl)
  have r_a2 : -2147483648 ≤ a2 ∧ a2 ≤ 2147483647 := hv (0, a2) (List.mem_of_getElem? (i := 2) rfl)
  have r_a3 : -2147483648 ≤ a3 ∧ a3 ≤ 2147483647 := hv (0, a3) (List.mem_of_getElem? (i := 3) rfl)
  have r_a4 : -2147483648 ≤ a4 ∧ a4 ≤ 2147483647 := hv (0, a4) (List.mem_of_getElem? (i := 4) rfl)
  have hp0 : BW σ 87 := hp
  have B := @bk_ X G Q 0 0 ad SHS_ RX11 cX11_isGame 5 (some .boolean) flX11 plX11 knX11 [(630, 3, TR_ as_G_X11_areTwo (rmI_) pre_G_X11_areTwo post_G_X11_areTwo), (179, 1, TR_ as_G_X11_isDay (rmI_) pre_G_X11_isDay post_G_X11_isDay), (159, 3, TR_ as_G_X11_in (rmI_) pre_G_X11_in post_G_X11_in)] _ _ none kX11_isGame [] flX11_ok plX11_ok knX11_ok eX11_isGame oX11_isGame
    (List.forall_mem_cons.mpr ⟨cok_v (t := 32) (c := 11) (N := 39) (n := 2) (idx := 315) E (ct_G_X11_areTwo X.2.1) (by rw [hR]; decide) (Nat.zero_le _) (Nat.zero_le _) hG rfl rfl ⟨rfl, by decide, by decide, by decide⟩ (fun _ => ⟨_, _, rfl, rfl⟩) wl_X11_315 wi_X11_areTwo ws_X11_areTwo wn_X11 wc_X11_areTwo, List.forall_mem_cons.mpr ⟨cok_s (n := 1) (idx := 89) E (ct_G_X11_isDay X.2.1) (by rw [hR]; decide) (Nat.zero_le _) (Nat.zero_le _) hG ⟨by decide, by decide, by decide⟩ (fun _ => rfl) wl_X11_89 wt_X11_isDay wn_X11 wc_X11_isDay, List.forall_mem_cons.mpr ⟨cok_s (n := 3) (idx := 79) E (ct_G_X11_in X.2.1) (by rw [hR]; decide) (Nat.zero_le _) (Nat.zero_le _) hG ⟨by decide, by decide, by decide⟩ (fun _ => rfl) wl_X11_79 wt_X11_in wn_X11 wc_X11_in, fun _ h => absurd h List.not_mem_nil⟩⟩⟩) R sok_no E
  show WP_ X G Q 0 0 ad SHS_ σ 0 [(42, 86), (0, a1), (0, a2), (0, a3), (0, a4)] []
  refine B rfl ?_
  refine Exists.intro (a1, a2) (And.intro rfl (And.intro hp0 ?_))
  rintro z1 m_ h2
  obtain rfl : σ = m_ := h2.2
  have h3 : (z1 = 1 ∧ 0 ≤ a1 ∧ a1 ≤ 2 ∧ a1 < σ 87 1 ∧ 0 ≤ a2 ∧ a2 ≤ 2 ∧ a2 < σ 87 1 ∧ a1 ≠ a2) ∨ z1 = 0 := h2.1
  refine And.intro (fun h4 => ?_) (fun h4 => ?_)
  · skip
    refine B rfl ?_
    refine And.intro (by omega) ?_
    refine Exists.intro _ (And.intro rfl ?_)
    exact (And.intro (by show (0 = 1 ∧ 0 ≤ a1 ∧ a1 ≤ 2 ∧ 0 ≤ a2 ∧ a2 ≤ 2 ∧ a1 ≠ a2 ∧ 0 ≤ a3 ∧ a3 ≤ 1999 ∧ 1 ≤ a4 ∧ a4 ≤ 40) ∨ 0 = 0; omega) rfl)
  · skip
    refine Exists.intro a3 (And.intro rfl (And.intro True.intro ?_))
    rintro z5 m_ h6
    obtain rfl : σ = m_ := h6.2
    have h7 : (z5 = 1 ∧ 0 ≤ a3 ∧ a3 ≤ 1999) ∨ z5 = 0 := h6.1
    refine And.intro (fun h8 => ?_) (fun h8 => ?_)
    · skip
      refine B rfl ?_
      refine And.intro (by omega) ?_
      refine Exists.intro _ (And.intro rfl ?_)
      exact (And.intro (by show (0 = 1 ∧ 0 ≤ a1 ∧ a1 ≤ 2 ∧ 0 ≤ a2 ∧ a2 ≤ 2 ∧ a1 ≠ a2 ∧ 0 ≤ a3 ∧ a3 ≤ 1999 ∧ 1 ≤ a4 ∧ a4 ≤ 40) ∨ 0 = 0; omega) rfl)
    · skip
      refine Exists.intro (a4, 1, 40) (And.intro rfl (And.intro True.intro ?_))
      rintro z9 m_ h10
      obtain rfl : σ = m_ := h10.2
      have h11 : (z9 = 1 ∧ 1 ≤ a4 ∧ a4 ≤ 40) ∨ (z9 = 0 ∧ ¬ (1 ≤ a4 ∧ a4 ≤ 40)) := h10.1
      refine And.intro (fun h12 => ?_) (fun h12 => ?_)
      · skip
        refine B rfl ?_
        refine And.intro (by omega) ?_
        refine Exists.intro _ (And.intro rfl ?_)
        exact (And.intro (by show (0 = 1 ∧ 0 ≤ a1 ∧ a1 ≤ 2 ∧ 0 ≤ a2 ∧ a2 ≤ 2 ∧ a1 ≠ a2 ∧ 0 ≤ a3 ∧ a3 ≤ 1999 ∧ 1 ≤ a4 ∧ a4 ≤ 40) ∨ 0 = 0; omega) rfl)
      · skip
        refine B rfl ?_
        refine And.intro (by omega) ?_
        refine Exists.intro _ (And.intro rfl ?_)
        exact (And.intro (by show (1 = 1 ∧ 0 ≤ a1 ∧ a1 ≤ 2 ∧ 0 ≤ a2 ∧ a2 ≤ 2 ∧ a1 ≠ a2 ∧ 0 ≤ a3 ∧ a3 ≤ 1999 ∧ 1 ≤ a4 ∧ a4 ≤ 40) ∨ 1 = 0; omega) rfl)
def as_G_X11_game : Int × Int × Int × Int → List Sv_t := fun a => [(42, 86), (0, a.1), (0, a.2.1), (0, a.2.2.1), (0, a.2.2.2)]
def pre_G_X11_game : Int × Int × Int × Int → Me_t → Prop := fun a σ => (MI σ)
def post_G_X11_game : Int × Int × Int × Int → Me_t → Int → Me_t → Prop := fun a σ z σ' => (∀ k j : Int, ¬ ((93 ≤ k ∧ k ≤ 96) ∨ (99 ≤ k ∧ k ≤ 101)) → σ' k j = σ k j)
set_option maxHeartbeats 1500000 in
set_option maxRecDepth 100000 in
theorem ct_G_X11_game (l : Launch) : CT_ l yX11_game cX11_game 5 (some .int) 4 94 as_G_X11_game (rmI_) pre_G_X11_game post_G_X11_game := by
  refine ct_of (by decide) (fun _ => Nat.le_of_ble_eq_true rfl) ?_
  intro X G Q ad σ a hl hR E hG R hM hv hp
  obtain ⟨a1, a2, a3, a4⟩ := a
  have r_a1 : -2147483648 ≤ a1 ∧ a1 ≤ 2147483647 := hv (0, a1) (List.mem_of_getElem? (i := 1) rfl)
  have r_a2 : -2147483648 ≤ a2 ∧ a2 ≤ 2147483647 := hv (0, a2) (List.mem_of_getElem? (i := 2) rfl)
  have r_a3 : -2147483648 ≤ a3 ∧ a3 ≤ 2147483647 := hv (0, a3) (List.mem_of_getElem? (i := 3) rfl)
  have r_a4 : -2147483648 ≤ a4 ∧ a4 ≤ 2147483647 := hv (0, a4) (List.mem_of_getElem? (i := 4) rfl)
  have hp0 : MI σ := hp
  have B := @bk_ X G Q 0 0 ad SHS_ RX11 cX11_game 5 (some .int) flX11 plX11 knX11 [(900, 5, TR_ as_G_X11_isGame (rmI_) pre_G_X11_isGame post_G_X11_isGame), (538, 1, TR_ as_G_X11_lay (rmV_) pre_G_X11_lay post_G_X11_lay), (906, 4, TR_ as_G_X11_play (rmV_) pre_G_X11_play post_G_X11_play)] _ _ none kX11_game [] flX11_ok plX11_ok knX11_ok eX11_game oX11_game
    (List.forall_mem_cons.mpr ⟨cok_v (t := 32) (c := 11) (N := 39) (n := 4) (idx := 450) E (ct_G_X11_isGame X.2.1) (by rw [hR]; decide) (Nat.zero_le _) (Nat.zero_le _) hG rfl rfl ⟨rfl, by decide, by decide, by decide⟩ (fun _ => ⟨_, _, rfl, rfl⟩) wl_X11_450 wi_X11_isGame ws_X11_isGame wn_X11 wc_X11_isGame, List.forall_mem_cons.mpr ⟨cok_v (t := 32) (c := 11) (N := 39) (n := 0) (idx := 269) E (ct_G_X11_lay X.2.1) (by rw [hR]; decide) (Nat.zero_le _) (Nat.zero_le _) hG rfl rfl ⟨rfl, by decide, by decide, by decide⟩ (fun _ => ⟨_, _, rfl, rfl⟩) wl_X11_269 wi_X11_lay ws_X11_lay wn_X11 wc_X11_lay, List.forall_mem_cons.mpr ⟨cok_v (t := 32) (c := 11) (N := 39) (n := 3) (idx := 453) E (ct_G_X11_play X.2.1) (by rw [hR]; decide) (Nat.zero_le _) (Nat.zero_le _) hG rfl rfl ⟨rfl, by decide, by decide, by decide⟩ (fun _ => ⟨_, _, rfl, rfl⟩) wl_X11_453 wi_X11_play ws_X11_play wn_X11 wc_X11_play, fun _ h => absurd h List.not_mem_nil⟩⟩⟩) R sok_no E
  show WP_ X G Q 0 0 ad SHS_ σ 0 [(42, 86), (0, a1), (0, a2), (0, a3), (0, a4)] []
  refine B rfl ?_
  have p1 : BW σ 87 := (hp0).1.1
  refine Exists.intro (a1, a2, a3, a4) (And.intro rfl (And.intro p1 ?_))
  rintro z2 m_ h3
  obtain rfl : σ = m_ := h3.2
  have h4 : (z2 = 1 ∧ 0 ≤ a1 ∧ a1 ≤ 2 ∧ 0 ≤ a2 ∧ a2 ≤ 2 ∧ a1 ≠ a2 ∧ 0 ≤ a3 ∧ a3 ≤ 1999 ∧ 1 ≤ a4 ∧ a4 ≤ 40) ∨ z2 = 0 := h3.1
  refine And.intro (fun h5 => ?_) (fun h5 => ?_)
  · skip
    refine B rfl ?_
    refine Exists.intro () (And.intro rfl (And.intro hp0 ?_))
    intro z6 σ8 h7
    have f9 : ∀ k j : Int, ¬ (93 ≤ k ∧ k ≤ 96) → σ8 k j = σ k j := h7.2
    have h10 : LY σ8 := h7.1
    refine Exists.intro (a1, a2, a3) (And.intro rfl (And.intro (And.intro (by show 0 ≤ a1; omega) (And.intro (by show a1 ≤ 2; omega) (And.intro (by show 0 ≤ a2; omega) (And.intro (by show a2 ≤ 2; omega) (And.intro (by show 0 ≤ a3; omega) (by show a3 ≤ 2000; omega)))))) ?_))
    intro z11 σ13 h12
    have f14 : ∀ k j : Int, ¬ (99 ≤ k ∧ k ≤ 101) → σ13 k j = σ8 k j := h12
    refine And.intro (by omega) ?_
    intro z15 ez15 hz15
    have hz15 : ((-2147483648) : Int) ≤ z15 ∧ z15 ≤ (2147483647 : Int) := rgl_ hz15 (by decide +kernel) (by decide +kernel) (by decide +kernel)
    try have t16 : σ13 99 a4 = σ 99 a4 := ((f14 _ _ (by omega)).trans (f9 _ _ (by omega)))
    refine Exists.intro _ (And.intro rfl ?_)
    exact (fun k j hk => ((f14 _ _ (by omega)).trans (f9 _ _ (by omega))))
  · skip
    refine Exists.intro _ (And.intro rfl ?_)
    exact (fun k j hk => rfl)
def as_G_X11_takes_ : Int × Int × Int × Int → List Sv_t := fun a => [(42, 86), (0, a.1), (0, a.2.1), (0, a.2.2.1), (0, a.2.2.2)]
def pre_G_X11_takes_ : Int × Int × Int × Int → Me_t → Prop := fun a σ => (MI σ)
def post_G_X11_takes_ : Int × Int × Int × Int → Me_t → Int → Me_t → Prop := fun a σ z σ' => (∀ k j : Int, ¬ ((93 ≤ k ∧ k ≤ 96) ∨ (99 ≤ k ∧ k ≤ 101)) → σ' k j = σ k j)
set_option maxHeartbeats 1500000 in
set_option maxRecDepth 100000 in
theorem ct_G_X11_takes_ (l : Launch) : CT_ l yX11_takes_ cX11_takes_ 8 (some .int) 4 94 as_G_X11_takes_ (rmI_) pre_G_X11_takes_ post_G_X11_takes_ := by
  refine ct_of (by decide) (fun _ => Nat.le_of_ble_eq_true rfl) ?_
  intro X G Q ad σ a hl hR E hG R hM hv hp
  obtain ⟨a1, a2, a3, a4⟩ := a
  have r_a1 : -2147483648 ≤ a1 ∧ a1 ≤ 2147483647 := hv (0, a1) (List.mem_of_getElem? (i := 1) rfl)
  have r_a2 : -2147483648 ≤ a2 ∧ a2 ≤ 2147483647 := hv (0, a2) (List.mem_of_getElem? (i := 2) rfl)
  have r_a3 : -2147483648 ≤ a3 ∧ a3 ≤ 2147483647 := hv (0, a3) (List.mem_of_getElem? (i := 3) rfl)
  have r_a4 : -2147483648 ≤ a4 ∧ a4 ≤ 2147483647 := hv (0, a4) (List.mem_of_getElem? (i := 4) rfl)
  have hp0 : MI σ := hp
  have B := @bk_ X G Q 0 0 ad SHS_ RX11 cX11_takes_ 8 (some .int) flX11 plX11 knX11 [(900, 5, TR_ as_G_X11_isGame (rmI_) pre_G_X11_isGame post_G_X11_isGame), (538, 1, TR_ as_G_X11_lay (rmV_) pre_G_X11_lay post_G_X11_lay), (906, 4, TR_ as_G_X11_play (rmV_) pre_G_X11_play post_G_X11_play), (508, 3, TR_ as_G_X11_mayOn (rmI_) pre_G_X11_mayOn post_G_X11_mayOn), (880, 3, TR_ as_G_X11_copy_100 (rmV_) pre_G_X11_copy_100 post_G_X11_copy_100), (873, 3, TOR_ (TR_ as_G_X11_bestTake_100 (rmI_) pre_G_X11_bestTake_100 post_G_X11_bestTake_100) (TR_ as_G_X11_bestTake_99 (rmI_) pre_G_X11_bestTake_99 post_G_X11_bestTake_99)), (889, 3, TR_ as_G_X11_turn_100 (rmV_) pre_G_X11_turn_100 post_G_X11_turn_100), (279, 2, TMIN_), (643, 2, TMAX_)] _ _ none kX11_takes_ [12, 22, 30, 40, 50, 64, 101, 136] flX11_ok plX11_ok knX11_ok eX11_takes_ oX11_takes_
    (List.forall_mem_cons.mpr ⟨cok_v (t := 32) (c := 11) (N := 39) (n := 4) (idx := 450) E (ct_G_X11_isGame X.2.1) (by rw [hR]; decide) (Nat.zero_le _) (Nat.zero_le _) hG rfl rfl ⟨rfl, by decide, by decide, by decide⟩ (fun _ => ⟨_, _, rfl, rfl⟩) wl_X11_450 wi_X11_isGame ws_X11_isGame wn_X11 wc_X11_isGame, List.forall_mem_cons.mpr ⟨cok_v (t := 32) (c := 11) (N := 39) (n := 0) (idx := 269) E (ct_G_X11_lay X.2.1) (by rw [hR]; decide) (Nat.zero_le _) (Nat.zero_le _) hG rfl rfl ⟨rfl, by decide, by decide, by decide⟩ (fun _ => ⟨_, _, rfl, rfl⟩) wl_X11_269 wi_X11_lay ws_X11_lay wn_X11 wc_X11_lay, List.forall_mem_cons.mpr ⟨cok_v (t := 32) (c := 11) (N := 39) (n := 3) (idx := 453) E (ct_G_X11_play X.2.1) (by rw [hR]; decide) (Nat.zero_le _) (Nat.zero_le _) hG rfl rfl ⟨rfl, by decide, by decide, by decide⟩ (fun _ => ⟨_, _, rfl, rfl⟩) wl_X11_453 wi_X11_play ws_X11_play wn_X11 wc_X11_play, List.forall_mem_cons.mpr ⟨cok_v (t := 32) (c := 11) (N := 39) (n := 2) (idx := 254) E (ct_G_X11_mayOn X.2.1) (by rw [hR]; decide) (Nat.zero_le _) (Nat.zero_le _) hG rfl rfl ⟨rfl, by decide, by decide, by decide⟩ (fun _ => ⟨_, _, rfl, rfl⟩) wl_X11_254 wi_X11_mayOn ws_X11_mayOn wn_X11 wc_X11_mayOn, List.forall_mem_cons.mpr ⟨cok_v (t := 32) (c := 11) (N := 39) (n := 2) (idx := 440) E (ct_G_X11_copy_100 X.2.1) (by rw [hR]; decide) (Nat.zero_le _) (Nat.zero_le _) hG rfl rfl ⟨rfl, by decide, by decide, by decide⟩ (fun _ => ⟨_, _, rfl, rfl⟩) wl_X11_440 wi_X11_copy ws_X11_copy wn_X11 wc_X11_copy, List.forall_mem_cons.mpr ⟨cok_or (cok_s (n := 3) (idx := 436) E (ct_G_X11_bestTake_100 X.2.1) (by rw [hR]; decide) (Nat.zero_le _) (Nat.zero_le _) hG ⟨by decide, by decide, by decide⟩ (fun _ => rfl) wl_X11_436 wt_X11_bestTake wn_X11 wc_X11_bestTake) (cok_s (n := 3) (idx := 436) E (ct_G_X11_bestTake_99 X.2.1) (by rw [hR]; decide) (Nat.zero_le _) (Nat.zero_le _) hG ⟨by decide, by decide, by decide⟩ (fun _ => rfl) wl_X11_436 wt_X11_bestTake wn_X11 wc_X11_bestTake), List.forall_mem_cons.mpr ⟨cok_s (n := 3) (idx := 444) E (ct_G_X11_turn_100 X.2.1) (by rw [hR]; decide) (Nat.zero_le _) (Nat.zero_le _) hG ⟨by decide, by decide, by decide⟩ (fun _ => rfl) wl_X11_444 wt_X11_turn wn_X11 wc_X11_turn, List.forall_mem_cons.mpr ⟨cok_min (idx := 139) E (by rw [hR]; decide) (Nat.zero_le _) (Nat.zero_le _) wl_X11_139, List.forall_mem_cons.mpr ⟨cok_max (idx := 321) E (by rw [hR]; decide) (Nat.zero_le _) (Nat.zero_le _) wl_X11_321, fun _ h => absurd h List.not_mem_nil⟩⟩⟩⟩⟩⟩⟩⟩⟩) R sok_no E
  show WP_ X G Q 0 0 ad SHS_ σ 0 [(42, 86), (0, a1), (0, a2), (0, a3), (0, a4), (9, 0), (9, 0), (9, 0)] []
  refine B rfl ?_
  have p1 : BW σ 87 := (hp0).1.1
  refine Exists.intro (a1, a2, a3, a4) (And.intro rfl (And.intro p1 ?_))
  rintro z2 m_ h3
  obtain rfl : σ = m_ := h3.2
  have h4 : (z2 = 1 ∧ 0 ≤ a1 ∧ a1 ≤ 2 ∧ 0 ≤ a2 ∧ a2 ≤ 2 ∧ a1 ≠ a2 ∧ 0 ≤ a3 ∧ a3 ≤ 1999 ∧ 1 ≤ a4 ∧ a4 ≤ 40) ∨ z2 = 0 := h3.1
  refine And.intro (fun h5 => ?_) (fun h5 => ?_)
  · skip
    refine B rfl ?_
    refine Exists.intro () (And.intro rfl (And.intro hp0 ?_))
    intro z6 σ8 h7
    have f9 : ∀ k j : Int, ¬ (93 ≤ k ∧ k ≤ 96) → σ8 k j = σ k j := h7.2
    have h10 : LY σ8 := h7.1
    show WP_ X G Q 0 0 ad SHS_ σ8 22 [(42, 86), (0, a1), (0, a2), (0, a3), (0, a4), (0, a3), (9, 0), (9, 0)] []
    refine wdrop_ (L' := [(42, 86), (0, a1), (0, a2), (9, 0), (0, a4), (0, a3), (9, 0), (9, 0)]) ⟨Or.inr rfl, ⟨Or.inr rfl, ⟨Or.inr rfl, ⟨Or.inl rfl, ⟨Or.inr rfl, ⟨Or.inr rfl, ⟨Or.inl rfl, ⟨Or.inl rfl, trivial⟩⟩⟩⟩⟩⟩⟩⟩ ?_
    have lp_22 : ∀ (nq_ : Nat) (v5 : Int), (a3 ≤ v5) → (v5 ≤ 2000) → (2000 - v5 : Int).toNat < nq_ → WP_ X G Q 0 0 ad SHS_ σ8 22 [(42, 86), (0, a1), (0, a2), (9, 0), (0, a4), (0, v5), (9, 0), (9, 0)] [] := by
      intro nq_
      induction nq_ with
      | zero => intros; omega
      | succ nq_ ih_22 =>
        intro v5 hi22_0 hi22_1 hm22
        refine B rfl ?_
        refine And.intro (fun h11 => ?_) (fun h11 => ?_)
        · skip
          refine B rfl ?_
          refine And.intro (fun h12 => ?_) (fun h12 => ?_)
          · skip
            refine B rfl ?_
            refine And.intro (by omega) ?_
            refine Exists.intro (a1, a2, v5 + 1) (And.intro rfl (And.intro (And.intro (by show 0 ≤ a1; omega) (And.intro (by show a1 ≤ 2; omega) (And.intro (by show 0 ≤ a2; omega) (And.intro (by show a2 ≤ 2; omega) (And.intro (by show 0 ≤ (v5 + 1); omega) (by show (v5 + 1) ≤ 2000; omega)))))) ?_))
            intro z13 σ15 h14
            have f16 : ∀ k j : Int, ¬ (99 ≤ k ∧ k ≤ 101) → σ15 k j = σ8 k j := h14
            refine Exists.intro a1 (Exists.intro a2 (And.intro rfl ?_))
            intro z17 hz17
            refine Exists.intro a1 (Exists.intro a2 (And.intro rfl ?_))
            intro z18 hz18
            refine Exists.intro (z17, v5) (And.intro rfl (And.intro (And.intro (by show 0 ≤ z17; omega) (And.intro (by show z17 ≤ 2; omega) (And.intro (by show 0 ≤ v5; omega) (by show v5 ≤ 1999; omega)))) ?_))
            rintro z19 m_ h20
            obtain rfl : σ15 = m_ := h20.2
            have h21 : (z19 = 1 ∧ σ15 96 (2000 * z17 + v5) = 0) ∨ (z19 = 0 ∧ σ15 96 (2000 * z17 + v5) ≠ 0) := h20.1
            try have t22 : σ15 96 (2000 * z17 + v5) = σ 96 (2000 * z17 + v5) := ((f16 _ _ (by omega)).trans (f9 _ _ (by omega)))
            refine And.intro (fun h23 => ?_) (fun h23 => ?_)
            · skip
              refine B rfl ?_
              refine Exists.intro () (And.intro rfl (And.intro True.intro ?_))
              intro z24 σ26 h25
              have f27 : ∀ k j : Int, ¬ (k = 100) → σ26 k j = σ15 k j := h25
              refine Exists.intro (z18, v5) (And.intro rfl (And.intro (And.intro (by show 0 ≤ z18; omega) (And.intro (by show z18 ≤ 2; omega) (And.intro (by show 0 ≤ v5; omega) (by show v5 ≤ 1999; omega)))) ?_))
              rintro z28 m_ h29
              obtain rfl : σ26 = m_ := h29.2
              have h30 : (z28 = 1 ∧ σ26 96 (2000 * z18 + v5) = 0) ∨ (z28 = 0 ∧ σ26 96 (2000 * z18 + v5) ≠ 0) := h29.1
              try have t31 : σ26 96 (2000 * z18 + v5) = σ 96 (2000 * z18 + v5) := ((f27 _ _ (by omega)).trans ((f16 _ _ (by omega)).trans (f9 _ _ (by omega))))
              refine And.intro (fun h32 => ?_) (fun h32 => ?_)
              · skip
                refine B rfl ?_
                refine Or.inl ?_
                refine Exists.intro (z17, a4) (And.intro rfl (And.intro (And.intro (by show 1 ≤ a4; omega) (by show a4 ≤ 40; omega)) ?_))
                rintro z33 m_ h34
                obtain rfl : σ26 = m_ := h34.2.2
                have h35 : z33 = 1 ∨ z33 = 2 := h34.1
                have h36 : z33 ≤ a4 := h34.2.1
                refine Exists.intro _ (And.intro rfl ?_)
                exact (fun k j hk => ((f27 _ _ (by omega)).trans ((f16 _ _ (by omega)).trans (f9 _ _ (by omega)))))
              · skip
                show WP_ X G Q 0 0 ad SHS_ σ26 136 [(42, 86), (0, a1), (0, a2), (9, 0), (0, a4), (0, v5), (0, z17), (0, z18)] []
                refine B rfl ?_
                refine Exists.intro z18 (And.intro rfl (And.intro True.intro ?_))
                intro z37 σ39 h38
                have f40 : ∀ k j : Int, ¬ (k = 100) → σ39 k j = σ26 k j := h38
                refine Or.inl ?_
                refine Exists.intro (z17, a4) (And.intro rfl (And.intro (And.intro (by show 1 ≤ a4; omega) (by show a4 ≤ 40; omega)) ?_))
                rintro z41 m_ h42
                obtain rfl : σ39 = m_ := h42.2.2
                have h43 : z41 = 1 ∨ z41 = 2 := h42.1
                have h44 : z41 ≤ a4 := h42.2.1
                refine Exists.intro _ (And.intro rfl ?_)
                exact (fun k j hk => ((f40 _ _ (by omega)).trans ((f27 _ _ (by omega)).trans ((f16 _ _ (by omega)).trans (f9 _ _ (by omega))))))
            · skip
              show WP_ X G Q 0 0 ad SHS_ σ15 101 [(42, 86), (0, a1), (0, a2), (9, 0), (0, a4), (0, v5), (0, z17), (0, z18)] []
              refine B rfl ?_
              refine Or.inr ?_
              refine Exists.intro (z18, a4) (And.intro rfl (And.intro (And.intro (by show 1 ≤ a4; omega) (by show a4 ≤ 40; omega)) ?_))
              rintro z45 m_ h46
              obtain rfl : σ15 = m_ := h46.2.2
              have h47 : z45 = 1 ∨ z45 = 2 := h46.1
              have h48 : z45 ≤ a4 := h46.2.1
              refine Exists.intro _ (And.intro rfl ?_)
              exact (fun k j hk => ((f16 _ _ (by omega)).trans (f9 _ _ (by omega))))
          · skip
            show WP_ X G Q 0 0 ad SHS_ σ8 64 [(42, 86), (0, a1), (0, a2), (9, 0), (0, a4), (0, v5), (9, 0), (9, 0)] []
            refine B rfl ?_
            refine Exists.intro _ (And.intro rfl ?_)
            exact (fun k j hk => (f9 _ _ (by omega)))
        · skip
          show WP_ X G Q 0 0 ad SHS_ σ8 30 [(42, 86), (0, a1), (0, a2), (9, 0), (0, a4), (0, v5), (9, 0), (9, 0)] []
          refine B rfl ?_
          refine Exists.intro (a1, v5) (And.intro rfl (And.intro (And.intro (by show 0 ≤ a1; omega) (And.intro (by show a1 ≤ 2; omega) (And.intro (by show 0 ≤ v5; omega) (by show v5 ≤ 1999; omega)))) ?_))
          rintro z49 m_ h50
          obtain rfl : σ8 = m_ := h50.2
          have h51 : (z49 = 1 ∧ σ8 96 (2000 * a1 + v5) = 0) ∨ (z49 = 0 ∧ σ8 96 (2000 * a1 + v5) ≠ 0) := h50.1
          try have t52 : σ8 96 (2000 * a1 + v5) = σ 96 (2000 * a1 + v5) := (f9 _ _ (by omega))
          refine And.intro (fun h53 => ?_) (fun h53 => ?_)
          · skip
            refine B rfl ?_
            refine And.intro (fun h54 => ?_) (fun h54 => ?_)
            · skip
              refine B rfl ?_
              refine And.intro (by omega) ?_
              refine Exists.intro (a1, a2, v5 + 1) (And.intro rfl (And.intro (And.intro (by show 0 ≤ a1; omega) (And.intro (by show a1 ≤ 2; omega) (And.intro (by show 0 ≤ a2; omega) (And.intro (by show a2 ≤ 2; omega) (And.intro (by show 0 ≤ (v5 + 1); omega) (by show (v5 + 1) ≤ 2000; omega)))))) ?_))
              intro z55 σ57 h56
              have f58 : ∀ k j : Int, ¬ (99 ≤ k ∧ k ≤ 101) → σ57 k j = σ8 k j := h56
              refine Exists.intro a1 (Exists.intro a2 (And.intro rfl ?_))
              intro z59 hz59
              refine Exists.intro a1 (Exists.intro a2 (And.intro rfl ?_))
              intro z60 hz60
              refine Exists.intro (z59, v5) (And.intro rfl (And.intro (And.intro (by show 0 ≤ z59; omega) (And.intro (by show z59 ≤ 2; omega) (And.intro (by show 0 ≤ v5; omega) (by show v5 ≤ 1999; omega)))) ?_))
              rintro z61 m_ h62
              obtain rfl : σ57 = m_ := h62.2
              have h63 : (z61 = 1 ∧ σ57 96 (2000 * z59 + v5) = 0) ∨ (z61 = 0 ∧ σ57 96 (2000 * z59 + v5) ≠ 0) := h62.1
              try have t64 : σ57 96 (2000 * z59 + v5) = σ 96 (2000 * z59 + v5) := ((f58 _ _ (by omega)).trans (f9 _ _ (by omega)))
              refine And.intro (fun h65 => ?_) (fun h65 => ?_)
              · skip
                refine B rfl ?_
                refine Exists.intro () (And.intro rfl (And.intro True.intro ?_))
                intro z66 σ68 h67
                have f69 : ∀ k j : Int, ¬ (k = 100) → σ68 k j = σ57 k j := h67
                refine Exists.intro (z60, v5) (And.intro rfl (And.intro (And.intro (by show 0 ≤ z60; omega) (And.intro (by show z60 ≤ 2; omega) (And.intro (by show 0 ≤ v5; omega) (by show v5 ≤ 1999; omega)))) ?_))
                rintro z70 m_ h71
                obtain rfl : σ68 = m_ := h71.2
                have h72 : (z70 = 1 ∧ σ68 96 (2000 * z60 + v5) = 0) ∨ (z70 = 0 ∧ σ68 96 (2000 * z60 + v5) ≠ 0) := h71.1
                try have t73 : σ68 96 (2000 * z60 + v5) = σ 96 (2000 * z60 + v5) := ((f69 _ _ (by omega)).trans ((f58 _ _ (by omega)).trans (f9 _ _ (by omega))))
                refine And.intro (fun h74 => ?_) (fun h74 => ?_)
                · skip
                  refine B rfl ?_
                  refine Or.inl ?_
                  refine Exists.intro (z59, a4) (And.intro rfl (And.intro (And.intro (by show 1 ≤ a4; omega) (by show a4 ≤ 40; omega)) ?_))
                  rintro z75 m_ h76
                  obtain rfl : σ68 = m_ := h76.2.2
                  have h77 : z75 = 1 ∨ z75 = 2 := h76.1
                  have h78 : z75 ≤ a4 := h76.2.1
                  refine Exists.intro _ (And.intro rfl ?_)
                  exact (fun k j hk => ((f69 _ _ (by omega)).trans ((f58 _ _ (by omega)).trans (f9 _ _ (by omega)))))
                · skip
                  show WP_ X G Q 0 0 ad SHS_ σ68 136 [(42, 86), (0, a1), (0, a2), (9, 0), (0, a4), (0, v5), (0, z59), (0, z60)] []
                  refine B rfl ?_
                  refine Exists.intro z60 (And.intro rfl (And.intro True.intro ?_))
                  intro z79 σ81 h80
                  have f82 : ∀ k j : Int, ¬ (k = 100) → σ81 k j = σ68 k j := h80
                  refine Or.inl ?_
                  refine Exists.intro (z59, a4) (And.intro rfl (And.intro (And.intro (by show 1 ≤ a4; omega) (by show a4 ≤ 40; omega)) ?_))
                  rintro z83 m_ h84
                  obtain rfl : σ81 = m_ := h84.2.2
                  have h85 : z83 = 1 ∨ z83 = 2 := h84.1
                  have h86 : z83 ≤ a4 := h84.2.1
                  refine Exists.intro _ (And.intro rfl ?_)
                  exact (fun k j hk => ((f82 _ _ (by omega)).trans ((f69 _ _ (by omega)).trans ((f58 _ _ (by omega)).trans (f9 _ _ (by omega))))))
              · skip
                show WP_ X G Q 0 0 ad SHS_ σ57 101 [(42, 86), (0, a1), (0, a2), (9, 0), (0, a4), (0, v5), (0, z59), (0, z60)] []
                refine B rfl ?_
                refine Or.inr ?_
                refine Exists.intro (z60, a4) (And.intro rfl (And.intro (And.intro (by show 1 ≤ a4; omega) (by show a4 ≤ 40; omega)) ?_))
                rintro z87 m_ h88
                obtain rfl : σ57 = m_ := h88.2.2
                have h89 : z87 = 1 ∨ z87 = 2 := h88.1
                have h90 : z87 ≤ a4 := h88.2.1
                refine Exists.intro _ (And.intro rfl ?_)
                exact (fun k j hk => ((f58 _ _ (by omega)).trans (f9 _ _ (by omega))))
            · skip
              show WP_ X G Q 0 0 ad SHS_ σ8 64 [(42, 86), (0, a1), (0, a2), (9, 0), (0, a4), (0, v5), (9, 0), (9, 0)] []
              refine B rfl ?_
              refine Exists.intro _ (And.intro rfl ?_)
              exact (fun k j hk => (f9 _ _ (by omega)))
          · skip
            show WP_ X G Q 0 0 ad SHS_ σ8 40 [(42, 86), (0, a1), (0, a2), (9, 0), (0, a4), (0, v5), (9, 0), (9, 0)] []
            refine B rfl ?_
            refine Exists.intro (a2, v5) (And.intro rfl (And.intro (And.intro (by show 0 ≤ a2; omega) (And.intro (by show a2 ≤ 2; omega) (And.intro (by show 0 ≤ v5; omega) (by show v5 ≤ 1999; omega)))) ?_))
            rintro z91 m_ h92
            obtain rfl : σ8 = m_ := h92.2
            have h93 : (z91 = 1 ∧ σ8 96 (2000 * a2 + v5) = 0) ∨ (z91 = 0 ∧ σ8 96 (2000 * a2 + v5) ≠ 0) := h92.1
            try have t94 : σ8 96 (2000 * a2 + v5) = σ 96 (2000 * a2 + v5) := (f9 _ _ (by omega))
            refine And.intro (fun h95 => ?_) (fun h95 => ?_)
            · skip
              refine B rfl ?_
              refine And.intro (fun h96 => ?_) (fun h96 => ?_)
              · skip
                refine B rfl ?_
                refine And.intro (by omega) ?_
                refine Exists.intro (a1, a2, v5 + 1) (And.intro rfl (And.intro (And.intro (by show 0 ≤ a1; omega) (And.intro (by show a1 ≤ 2; omega) (And.intro (by show 0 ≤ a2; omega) (And.intro (by show a2 ≤ 2; omega) (And.intro (by show 0 ≤ (v5 + 1); omega) (by show (v5 + 1) ≤ 2000; omega)))))) ?_))
                intro z97 σ99 h98
                have f100 : ∀ k j : Int, ¬ (99 ≤ k ∧ k ≤ 101) → σ99 k j = σ8 k j := h98
                refine Exists.intro a1 (Exists.intro a2 (And.intro rfl ?_))
                intro z101 hz101
                refine Exists.intro a1 (Exists.intro a2 (And.intro rfl ?_))
                intro z102 hz102
                refine Exists.intro (z101, v5) (And.intro rfl (And.intro (And.intro (by show 0 ≤ z101; omega) (And.intro (by show z101 ≤ 2; omega) (And.intro (by show 0 ≤ v5; omega) (by show v5 ≤ 1999; omega)))) ?_))
                rintro z103 m_ h104
                obtain rfl : σ99 = m_ := h104.2
                have h105 : (z103 = 1 ∧ σ99 96 (2000 * z101 + v5) = 0) ∨ (z103 = 0 ∧ σ99 96 (2000 * z101 + v5) ≠ 0) := h104.1
                try have t106 : σ99 96 (2000 * z101 + v5) = σ 96 (2000 * z101 + v5) := ((f100 _ _ (by omega)).trans (f9 _ _ (by omega)))
                refine And.intro (fun h107 => ?_) (fun h107 => ?_)
                · skip
                  refine B rfl ?_
                  refine Exists.intro () (And.intro rfl (And.intro True.intro ?_))
                  intro z108 σ110 h109
                  have f111 : ∀ k j : Int, ¬ (k = 100) → σ110 k j = σ99 k j := h109
                  refine Exists.intro (z102, v5) (And.intro rfl (And.intro (And.intro (by show 0 ≤ z102; omega) (And.intro (by show z102 ≤ 2; omega) (And.intro (by show 0 ≤ v5; omega) (by show v5 ≤ 1999; omega)))) ?_))
                  rintro z112 m_ h113
                  obtain rfl : σ110 = m_ := h113.2
                  have h114 : (z112 = 1 ∧ σ110 96 (2000 * z102 + v5) = 0) ∨ (z112 = 0 ∧ σ110 96 (2000 * z102 + v5) ≠ 0) := h113.1
                  try have t115 : σ110 96 (2000 * z102 + v5) = σ 96 (2000 * z102 + v5) := ((f111 _ _ (by omega)).trans ((f100 _ _ (by omega)).trans (f9 _ _ (by omega))))
                  refine And.intro (fun h116 => ?_) (fun h116 => ?_)
                  · skip
                    refine B rfl ?_
                    refine Or.inl ?_
                    refine Exists.intro (z101, a4) (And.intro rfl (And.intro (And.intro (by show 1 ≤ a4; omega) (by show a4 ≤ 40; omega)) ?_))
                    rintro z117 m_ h118
                    obtain rfl : σ110 = m_ := h118.2.2
                    have h119 : z117 = 1 ∨ z117 = 2 := h118.1
                    have h120 : z117 ≤ a4 := h118.2.1
                    refine Exists.intro _ (And.intro rfl ?_)
                    exact (fun k j hk => ((f111 _ _ (by omega)).trans ((f100 _ _ (by omega)).trans (f9 _ _ (by omega)))))
                  · skip
                    show WP_ X G Q 0 0 ad SHS_ σ110 136 [(42, 86), (0, a1), (0, a2), (9, 0), (0, a4), (0, v5), (0, z101), (0, z102)] []
                    refine B rfl ?_
                    refine Exists.intro z102 (And.intro rfl (And.intro True.intro ?_))
                    intro z121 σ123 h122
                    have f124 : ∀ k j : Int, ¬ (k = 100) → σ123 k j = σ110 k j := h122
                    refine Or.inl ?_
                    refine Exists.intro (z101, a4) (And.intro rfl (And.intro (And.intro (by show 1 ≤ a4; omega) (by show a4 ≤ 40; omega)) ?_))
                    rintro z125 m_ h126
                    obtain rfl : σ123 = m_ := h126.2.2
                    have h127 : z125 = 1 ∨ z125 = 2 := h126.1
                    have h128 : z125 ≤ a4 := h126.2.1
                    refine Exists.intro _ (And.intro rfl ?_)
                    exact (fun k j hk => ((f124 _ _ (by omega)).trans ((f111 _ _ (by omega)).trans ((f100 _ _ (by omega)).trans (f9 _ _ (by omega))))))
                · skip
                  show WP_ X G Q 0 0 ad SHS_ σ99 101 [(42, 86), (0, a1), (0, a2), (9, 0), (0, a4), (0, v5), (0, z101), (0, z102)] []
                  refine B rfl ?_
                  refine Or.inr ?_
                  refine Exists.intro (z102, a4) (And.intro rfl (And.intro (And.intro (by show 1 ≤ a4; omega) (by show a4 ≤ 40; omega)) ?_))
                  rintro z129 m_ h130
                  obtain rfl : σ99 = m_ := h130.2.2
                  have h131 : z129 = 1 ∨ z129 = 2 := h130.1
                  have h132 : z129 ≤ a4 := h130.2.1
                  refine Exists.intro _ (And.intro rfl ?_)
                  exact (fun k j hk => ((f100 _ _ (by omega)).trans (f9 _ _ (by omega))))
              · skip
                show WP_ X G Q 0 0 ad SHS_ σ8 64 [(42, 86), (0, a1), (0, a2), (9, 0), (0, a4), (0, v5), (9, 0), (9, 0)] []
                refine B rfl ?_
                refine Exists.intro _ (And.intro rfl ?_)
                exact (fun k j hk => (f9 _ _ (by omega)))
            · skip
              show WP_ X G Q 0 0 ad SHS_ σ8 50 [(42, 86), (0, a1), (0, a2), (9, 0), (0, a4), (0, v5), (9, 0), (9, 0)] []
              refine B rfl ?_
              refine And.intro (by omega) ?_
              exact ih_22 (v5 + 1) (by show a3 ≤ (v5 + 1); omega) (by show (v5 + 1) ≤ 2000; omega) (by omega)
    exact lp_22 ((2000 - a3 : Int).toNat + 1) a3 (by show a3 ≤ a3; omega) (by show a3 ≤ 2000; omega) (by omega)
  · skip
    show WP_ X G Q 0 0 ad SHS_ σ 12 [(42, 86), (0, a1), (0, a2), (0, a3), (0, a4), (9, 0), (9, 0), (9, 0)] []
    refine B rfl ?_
    refine Exists.intro _ (And.intro rfl ?_)
    exact (fun k j hk => rfl)
def as_G_X11_land : Int × Int → List Sv_t := fun a => [(42, 86), (0, a.1), (0, a.2)]
def pre_G_X11_land : Int × Int → Me_t → Prop := fun a σ => (MI σ)
def post_G_X11_land : Int × Int → Me_t → Int → Me_t → Prop := fun a σ z σ' => (σ = σ')
set_option maxHeartbeats 1500000 in
set_option maxRecDepth 100000 in
theorem ct_G_X11_land (l : Launch) : CT_ l yX11_land cX11_land 3 (some .int) 2 47 as_G_X11_land (rmI_) pre_G_X11_land post_G_X11_land := by
  refine ct_of (by decide) (fun _ => Nat.le_of_ble_eq_true rfl) ?_
  intro X G Q ad σ a hl hR E hG R hM hv hp
  obtain ⟨a1, a2⟩ := a
  have r_a1 : -2147483648 ≤ a1 ∧ a1 ≤ 2147483647 := hv (0, a1) (List.mem_of_getElem? (i := 1) rfl)
  have r_a2 : -2147483648 ≤ a2 ∧ a2 ≤ 2147483647 := hv (0, a2) (List.mem_of_getElem? (i := 2) rfl)
  have hp0 : MI σ := hp
  have B := @bk_ X G Q 0 0 ad SHS_ RX11 cX11_land 3 (some .int) flX11 plX11 knX11 [(166, 2, TR_ as_G_X11_isLand (rmI_) pre_G_X11_isLand post_G_X11_isLand), (159, 3, TR_ as_G_X11_in (rmI_) pre_G_X11_in post_G_X11_in), (200, 3, TR_ as_G_X11_of_x (rmI_) pre_G_X11_of_x post_G_X11_of_x)] _ _ none kX11_land [] flX11_ok plX11_ok knX11_ok eX11_land oX11_land
    (List.forall_mem_cons.mpr ⟨cok_v (t := 32) (c := 11) (N := 39) (n := 1) (idx := 83) E (ct_G_X11_isLand X.2.1) (by rw [hR]; decide) (Nat.zero_le _) (Nat.zero_le _) hG rfl rfl ⟨rfl, by decide, by decide, by decide⟩ (fun _ => ⟨_, _, rfl, rfl⟩) wl_X11_83 wi_X11_isLand ws_X11_isLand wn_X11 wc_X11_isLand, List.forall_mem_cons.mpr ⟨cok_s (n := 3) (idx := 79) E (ct_G_X11_in X.2.1) (by rw [hR]; decide) (Nat.zero_le _) (Nat.zero_le _) hG ⟨by decide, by decide, by decide⟩ (fun _ => rfl) wl_X11_79 wt_X11_in wn_X11 wc_X11_in, List.forall_mem_cons.mpr ⟨cok_v (t := 32) (c := 11) (N := 39) (n := 2) (idx := 100) E (ct_G_X11_of_x X.2.1) (by rw [hR]; decide) (Nat.zero_le _) (Nat.zero_le _) hG rfl rfl ⟨rfl, by decide, by decide, by decide⟩ (fun _ => ⟨_, _, rfl, rfl⟩) wl_X11_100 wi_X11_of ws_X11_of wn_X11 wc_X11_of, fun _ h => absurd h List.not_mem_nil⟩⟩⟩) R sok_no E
  show WP_ X G Q 0 0 ad SHS_ σ 0 [(42, 86), (0, a1), (0, a2)] []
  refine B rfl ?_
  have p1 : BW σ 87 := (hp0).1.1
  refine Exists.intro a1 (And.intro rfl (And.intro p1 ?_))
  rintro z2 m_ h3
  obtain rfl : σ = m_ := h3.2
  have h4 : (z2 = 1 ∧ 0 ≤ a1 ∧ a1 ≤ 2 ∧ a1 < σ 87 1) ∨ z2 = 0 := h3.1
  refine And.intro (fun h5 => ?_) (fun h5 => ?_)
  · skip
    refine B rfl ?_
    refine Exists.intro _ (And.intro rfl ?_)
    exact rfl
  · skip
    refine Exists.intro (a2, 0, 6) (And.intro rfl (And.intro True.intro ?_))
    rintro z6 m_ h7
    obtain rfl : σ = m_ := h7.2
    have h8 : (z6 = 1 ∧ 0 ≤ a2 ∧ a2 ≤ 6) ∨ (z6 = 0 ∧ ¬ (0 ≤ a2 ∧ a2 ≤ 6)) := h7.1
    refine And.intro (fun h9 => ?_) (fun h9 => ?_)
    · skip
      refine B rfl ?_
      refine Exists.intro _ (And.intro rfl ?_)
      exact rfl
    · skip
      refine Exists.intro (a1, a2) (And.intro rfl (And.intro (And.intro p1 (And.intro (by show 0 ≤ a1; omega) (And.intro (by show a1 ≤ 2; omega) (And.intro (by show 0 ≤ a2; omega) (by show a2 ≤ 14; omega))))) ?_))
      rintro z10 m_ h11
      obtain rfl : σ = m_ := h11.2.2.2
      have h12 : z10 = σ 87 (6 + 15 * a1 + a2) := h11.1
      have h13 : -1 ≤ z10 ∧ z10 ≤ 1999 := h11.2.1
      have h14 : 7 ≤ a2 → 0 ≤ z10 ∧ z10 ≤ 60 := h11.2.2.1
      refine B rfl ?_
      refine Exists.intro _ (And.intro rfl ?_)
      exact rfl
def as_G_X11_month : Int × Int × Int → List Sv_t := fun a => [(42, 86), (0, a.1), (0, a.2.1), (0, a.2.2)]
def pre_G_X11_month : Int × Int × Int → Me_t → Prop := fun a σ => (MI σ)
def post_G_X11_month : Int × Int × Int → Me_t → Int → Me_t → Prop := fun a σ z σ' => (σ = σ')
set_option maxHeartbeats 1500000 in
set_option maxRecDepth 100000 in
theorem ct_G_X11_month (l : Launch) : CT_ l yX11_month cX11_month 4 (some .int) 2 48 as_G_X11_month (rmI_) pre_G_X11_month post_G_X11_month := by
  refine ct_of (by decide) (fun _ => Nat.le_of_ble_eq_true rfl) ?_
  intro X G Q ad σ a hl hR E hG R hM hv hp
  obtain ⟨a1, a2, a3⟩ := a
  have r_a1 : -2147483648 ≤ a1 ∧ a1 ≤ 2147483647 := hv (0, a1) (List.mem_of_getElem? (i := 1) rfl)
  have r_a2 : -2147483648 ≤ a2 ∧ a2 ≤ 2147483647 := hv (0, a2) (List.mem_of_getElem? (i := 2) rfl)
  have r_a3 : -2147483648 ≤ a3 ∧ a3 ≤ 2147483647 := hv (0, a3) (List.mem_of_getElem? (i := 3) rfl)
  have hp0 : MI σ := hp
  have B := @bk_ X G Q 0 0 ad SHS_ RX11 cX11_month 4 (some .int) flX11 plX11 knX11 [(166, 2, TR_ as_G_X11_isLand (rmI_) pre_G_X11_isLand post_G_X11_isLand), (520, 3, TR_ as_G_X11_isMonth (rmI_) pre_G_X11_isMonth post_G_X11_isMonth), (529, 1, TR_ as_G_X11_isYear (rmI_) pre_G_X11_isYear post_G_X11_isYear), (208, 4, TR_ as_G_X11_lengthOf (rmI_) pre_G_X11_lengthOf post_G_X11_lengthOf)] _ _ none kX11_month [] flX11_ok plX11_ok knX11_ok eX11_month oX11_month
    (List.forall_mem_cons.mpr ⟨cok_v (t := 32) (c := 11) (N := 39) (n := 1) (idx := 83) E (ct_G_X11_isLand X.2.1) (by rw [hR]; decide) (Nat.zero_le _) (Nat.zero_le _) hG rfl rfl ⟨rfl, by decide, by decide, by decide⟩ (fun _ => ⟨_, _, rfl, rfl⟩) wl_X11_83 wi_X11_isLand ws_X11_isLand wn_X11 wc_X11_isLand, List.forall_mem_cons.mpr ⟨cok_v (t := 32) (c := 11) (N := 39) (n := 2) (idx := 260) E (ct_G_X11_isMonth X.2.1) (by rw [hR]; decide) (Nat.zero_le _) (Nat.zero_le _) hG rfl rfl ⟨rfl, by decide, by decide, by decide⟩ (fun _ => ⟨_, _, rfl, rfl⟩) wl_X11_260 wi_X11_isMonth ws_X11_isMonth wn_X11 wc_X11_isMonth, List.forall_mem_cons.mpr ⟨cok_s (n := 1) (idx := 264) E (ct_G_X11_isYear X.2.1) (by rw [hR]; decide) (Nat.zero_le _) (Nat.zero_le _) hG ⟨by decide, by decide, by decide⟩ (fun _ => rfl) wl_X11_264 wt_X11_isYear wn_X11 wc_X11_isYear, List.forall_mem_cons.mpr ⟨cok_v (t := 32) (c := 11) (N := 39) (n := 3) (idx := 104) E (ct_G_X11_lengthOf X.2.1) (by rw [hR]; decide) (Nat.zero_le _) (Nat.zero_le _) hG rfl rfl ⟨rfl, by decide, by decide, by decide⟩ (fun _ => ⟨_, _, rfl, rfl⟩) wl_X11_104 wi_X11_lengthOf ws_X11_lengthOf wn_X11 wc_X11_lengthOf, fun _ h => absurd h List.not_mem_nil⟩⟩⟩⟩) R sok_no E
  show WP_ X G Q 0 0 ad SHS_ σ 0 [(42, 86), (0, a1), (0, a2), (0, a3)] []
  refine B rfl ?_
  have p1 : BW σ 87 := (hp0).1.1
  refine Exists.intro a1 (And.intro rfl (And.intro p1 ?_))
  rintro z2 m_ h3
  obtain rfl : σ = m_ := h3.2
  have h4 : (z2 = 1 ∧ 0 ≤ a1 ∧ a1 ≤ 2 ∧ a1 < σ 87 1) ∨ z2 = 0 := h3.1
  refine And.intro (fun h5 => ?_) (fun h5 => ?_)
  · skip
    refine B rfl ?_
    refine Exists.intro _ (And.intro rfl ?_)
    exact rfl
  · skip
    refine Exists.intro (a1, a2) (And.intro rfl (And.intro (And.intro p1 (And.intro (by show 0 ≤ a1; omega) (by show a1 ≤ 2; omega))) ?_))
    rintro z6 m_ h7
    obtain rfl : σ = m_ := h7.2
    have h8 : (z6 = 1 ∧ 0 ≤ a2 ∧ a2 ≤ 7 ∧ a2 < σ 87 (6 + 15 * a1 + 3)) ∨ z6 = 0 := h7.1
    refine And.intro (fun h9 => ?_) (fun h9 => ?_)
    · skip
      refine B rfl ?_
      refine Exists.intro _ (And.intro rfl ?_)
      exact rfl
    · skip
      refine Exists.intro a3 (And.intro rfl (And.intro True.intro ?_))
      rintro z10 m_ h11
      obtain rfl : σ = m_ := h11.2
      have h12 : (z10 = 1 ∧ 0 ≤ a3 ∧ a3 ≤ 1999) ∨ z10 = 0 := h11.1
      refine And.intro (fun h13 => ?_) (fun h13 => ?_)
      · skip
        refine B rfl ?_
        refine Exists.intro _ (And.intro rfl ?_)
        exact rfl
      · skip
        refine Exists.intro (a1, a2, a3) (And.intro rfl (And.intro (And.intro p1 (And.intro (by show 0 ≤ a1; omega) (And.intro (by show a1 ≤ 2; omega) (And.intro (by show 0 ≤ a2; omega) (And.intro (by show a2 ≤ 7; omega) (by show 0 ≤ a3; omega)))))) ?_))
        rintro z14 m_ h15
        obtain rfl : σ = m_ := h15.2.2
        have h16 : z14 = lenF_ (σ 87) a1 a2 a3 := h15.1
        have h17 : 0 ≤ z14 ∧ z14 ≤ 69 := h15.2.1
        refine B rfl ?_
        refine Exists.intro _ (And.intro rfl ?_)
        exact rfl
def as_G_X11_feast : Int × Int → List Sv_t := fun a => [(42, 86), (0, a.1), (0, a.2)]
def pre_G_X11_feast : Int × Int → Me_t → Prop := fun a σ => (MI σ)
def post_G_X11_feast : Int × Int → Me_t → Int → Me_t → Prop := fun a σ z σ' => (σ = σ')
set_option maxHeartbeats 1500000 in
set_option maxRecDepth 100000 in
theorem ct_G_X11_feast (l : Launch) : CT_ l yX11_feast cX11_feast 3 (some .int) 1 25 as_G_X11_feast (rmI_) pre_G_X11_feast post_G_X11_feast := by
  refine ct_of (by decide) (fun _ => Nat.le_of_ble_eq_true rfl) ?_
  intro X G Q ad σ a hl hR E hG R hM hv hp
  obtain ⟨a1, a2⟩ := a
  have r_a1 : -2147483648 ≤ a1 ∧ a1 ≤ 2147483647 := hv (0, a1) (List.mem_of_getElem? (i := 1) rfl)
  have r_a2 : -2147483648 ≤ a2 ∧ a2 ≤ 2147483647 := hv (0, a2) (List.mem_of_getElem? (i := 2) rfl)
  have hp0 : MI σ := hp
  have B := @bk_ X G Q 0 0 ad SHS_ RX11 cX11_feast 3 (some .int) flX11 plX11 knX11 [(159, 3, TR_ as_G_X11_in (rmI_) pre_G_X11_in post_G_X11_in), (484, 3, TR_ as_G_X11_ofFeast (rmI_) pre_G_X11_ofFeast post_G_X11_ofFeast)] _ _ none kX11_feast [] flX11_ok plX11_ok knX11_ok eX11_feast oX11_feast
    (List.forall_mem_cons.mpr ⟨cok_s (n := 3) (idx := 79) E (ct_G_X11_in X.2.1) (by rw [hR]; decide) (Nat.zero_le _) (Nat.zero_le _) hG ⟨by decide, by decide, by decide⟩ (fun _ => rfl) wl_X11_79 wt_X11_in wn_X11 wc_X11_in, List.forall_mem_cons.mpr ⟨cok_v (t := 32) (c := 11) (N := 39) (n := 2) (idx := 242) E (ct_G_X11_ofFeast X.2.1) (by rw [hR]; decide) (Nat.zero_le _) (Nat.zero_le _) hG rfl rfl ⟨rfl, by decide, by decide, by decide⟩ (fun _ => ⟨_, _, rfl, rfl⟩) wl_X11_242 wi_X11_ofFeast ws_X11_ofFeast wn_X11 wc_X11_ofFeast, fun _ h => absurd h List.not_mem_nil⟩⟩) R sok_no E
  show WP_ X G Q 0 0 ad SHS_ σ 0 [(42, 86), (0, a1), (0, a2)] []
  refine B rfl ?_
  refine And.intro (by omega) ?_
  intro z1 ez1 hz1
  have hz1 : ((-1) : Int) ≤ z1 ∧ z1 ≤ (1999 : Int) := hz1
  have p2 : BW σ 87 := (hp0).1.1
  have b3 := wrh_ p2 (i := 2) (by omega)
  have b3 : (0 : Int) ≤ σ 87 2 ∧ σ 87 2 ≤ (12 : Int) := b3
  refine And.intro (by omega) ?_
  refine Exists.intro (a1, 0, z1 - 1) (And.intro rfl (And.intro True.intro ?_))
  rintro z4 m_ h5
  obtain rfl : σ = m_ := h5.2
  have h6 : (z4 = 1 ∧ 0 ≤ a1 ∧ a1 ≤ (z1 - 1)) ∨ (z4 = 0 ∧ ¬ (0 ≤ a1 ∧ a1 ≤ (z1 - 1))) := h5.1
  refine And.intro (fun h7 => ?_) (fun h7 => ?_)
  · skip
    refine B rfl ?_
    refine Exists.intro _ (And.intro rfl ?_)
    exact rfl
  · skip
    refine Exists.intro (a2, 0, 3) (And.intro rfl (And.intro True.intro ?_))
    rintro z8 m_ h9
    obtain rfl : σ = m_ := h9.2
    have h10 : (z8 = 1 ∧ 0 ≤ a2 ∧ a2 ≤ 3) ∨ (z8 = 0 ∧ ¬ (0 ≤ a2 ∧ a2 ≤ 3)) := h9.1
    refine And.intro (fun h11 => ?_) (fun h11 => ?_)
    · skip
      refine B rfl ?_
      refine Exists.intro _ (And.intro rfl ?_)
      exact rfl
    · skip
      refine Exists.intro (a1, a2) (And.intro rfl (And.intro (And.intro p2 (And.intro (by show 0 ≤ a1; omega) (And.intro (by show a1 ≤ 11; omega) (And.intro (by show 0 ≤ a2; omega) (by show a2 ≤ 3; omega))))) ?_))
      rintro z12 m_ h13
      obtain rfl : σ = m_ := h13.2.2
      have h14 : 0 ≤ z12 ∧ z12 ≤ 59 := h13.1
      have h15 : z12 ≤ fthi_ a2 := h13.2.1
      refine B rfl ?_
      refine Exists.intro _ (And.intro rfl ?_)
      exact rfl
def as_G_X11_truce : Int × Int → List Sv_t := fun a => [(42, 86), (0, a.1), (0, a.2)]
def pre_G_X11_truce : Int × Int → Me_t → Prop := fun a σ => (MI σ)
def post_G_X11_truce : Int × Int → Me_t → Int → Me_t → Prop := fun a σ z σ' => (σ = σ')
set_option maxHeartbeats 1500000 in
set_option maxRecDepth 100000 in
theorem ct_G_X11_truce (l : Launch) : CT_ l yX11_truce cX11_truce 3 (some .int) 1 25 as_G_X11_truce (rmI_) pre_G_X11_truce post_G_X11_truce := by
  refine ct_of (by decide) (fun _ => Nat.le_of_ble_eq_true rfl) ?_
  intro X G Q ad σ a hl hR E hG R hM hv hp
  obtain ⟨a1, a2⟩ := a
  have r_a1 : -2147483648 ≤ a1 ∧ a1 ≤ 2147483647 := hv (0, a1) (List.mem_of_getElem? (i := 1) rfl)
  have r_a2 : -2147483648 ≤ a2 ∧ a2 ≤ 2147483647 := hv (0, a2) (List.mem_of_getElem? (i := 2) rfl)
  have hp0 : MI σ := hp
  have B := @bk_ X G Q 0 0 ad SHS_ RX11 cX11_truce 3 (some .int) flX11 plX11 knX11 [(159, 3, TR_ as_G_X11_in (rmI_) pre_G_X11_in post_G_X11_in), (490, 3, TR_ as_G_X11_ofTruce (rmI_) pre_G_X11_ofTruce post_G_X11_ofTruce)] _ _ none kX11_truce [] flX11_ok plX11_ok knX11_ok eX11_truce oX11_truce
    (List.forall_mem_cons.mpr ⟨cok_s (n := 3) (idx := 79) E (ct_G_X11_in X.2.1) (by rw [hR]; decide) (Nat.zero_le _) (Nat.zero_le _) hG ⟨by decide, by decide, by decide⟩ (fun _ => rfl) wl_X11_79 wt_X11_in wn_X11 wc_X11_in, List.forall_mem_cons.mpr ⟨cok_v (t := 32) (c := 11) (N := 39) (n := 2) (idx := 245) E (ct_G_X11_ofTruce X.2.1) (by rw [hR]; decide) (Nat.zero_le _) (Nat.zero_le _) hG rfl rfl ⟨rfl, by decide, by decide, by decide⟩ (fun _ => ⟨_, _, rfl, rfl⟩) wl_X11_245 wi_X11_ofTruce ws_X11_ofTruce wn_X11 wc_X11_ofTruce, fun _ h => absurd h List.not_mem_nil⟩⟩) R sok_no E
  show WP_ X G Q 0 0 ad SHS_ σ 0 [(42, 86), (0, a1), (0, a2)] []
  refine B rfl ?_
  refine And.intro (by omega) ?_
  intro z1 ez1 hz1
  have hz1 : ((-1) : Int) ≤ z1 ∧ z1 ≤ (1999 : Int) := hz1
  have p2 : BW σ 87 := (hp0).1.1
  have b3 := wrh_ p2 (i := 3) (by omega)
  have b3 : (0 : Int) ≤ σ 87 3 ∧ σ 87 3 ≤ (12 : Int) := b3
  refine And.intro (by omega) ?_
  refine Exists.intro (a1, 0, z1 - 1) (And.intro rfl (And.intro True.intro ?_))
  rintro z4 m_ h5
  obtain rfl : σ = m_ := h5.2
  have h6 : (z4 = 1 ∧ 0 ≤ a1 ∧ a1 ≤ (z1 - 1)) ∨ (z4 = 0 ∧ ¬ (0 ≤ a1 ∧ a1 ≤ (z1 - 1))) := h5.1
  refine And.intro (fun h7 => ?_) (fun h7 => ?_)
  · skip
    refine B rfl ?_
    refine Exists.intro _ (And.intro rfl ?_)
    exact rfl
  · skip
    refine Exists.intro (a2, 0, 2) (And.intro rfl (And.intro True.intro ?_))
    rintro z8 m_ h9
    obtain rfl : σ = m_ := h9.2
    have h10 : (z8 = 1 ∧ 0 ≤ a2 ∧ a2 ≤ 2) ∨ (z8 = 0 ∧ ¬ (0 ≤ a2 ∧ a2 ≤ 2)) := h9.1
    refine And.intro (fun h11 => ?_) (fun h11 => ?_)
    · skip
      refine B rfl ?_
      refine Exists.intro _ (And.intro rfl ?_)
      exact rfl
    · skip
      refine Exists.intro (a1, a2) (And.intro rfl (And.intro (And.intro p2 (And.intro (by show 0 ≤ a1; omega) (And.intro (by show a1 ≤ 11; omega) (And.intro (by show 0 ≤ a2; omega) (by show a2 ≤ 2; omega))))) ?_))
      rintro z12 m_ h13
      obtain rfl : σ = m_ := h13.2
      have h14 : 0 ≤ z12 ∧ z12 ≤ 1999 := h13.1
      refine B rfl ?_
      refine Exists.intro _ (And.intro rfl ?_)
      exact rfl
def as_G_X11_date : Int × Int × Int → List Sv_t := fun a => [(42, 86), (0, a.1), (0, a.2.1), (0, a.2.2)]
def pre_G_X11_date : Int × Int × Int → Me_t → Prop := fun a σ => (MI σ)
def post_G_X11_date : Int × Int × Int → Me_t → Int → Me_t → Prop := fun a σ z σ' => (∀ k j : Int, ¬ (93 ≤ k ∧ k ≤ 96) → σ' k j = σ k j)
set_option maxHeartbeats 1500000 in
set_option maxRecDepth 100000 in
theorem ct_G_X11_date (l : Launch) : CT_ l yX11_date cX11_date 4 (some .int) 4 92 as_G_X11_date (rmI_) pre_G_X11_date post_G_X11_date := by
  refine ct_of (by decide) (fun _ => Nat.le_of_ble_eq_true rfl) ?_
  intro X G Q ad σ a hl hR E hG R hM hv hp
  obtain ⟨a1, a2, a3⟩ := a
  have r_a1 : -2147483648 ≤ a1 ∧ a1 ≤ 2147483647 := hv (0, a1) (List.mem_of_getElem? (i := 1) rfl)
  have r_a2 : -2147483648 ≤ a2 ∧ a2 ≤ 2147483647 := hv (0, a2) (List.mem_of_getElem? (i := 2) rfl)
  have r_a3 : -2147483648 ≤ a3 ∧ a3 ≤ 2147483647 := hv (0, a3) (List.mem_of_getElem? (i := 3) rfl)
  have hp0 : MI σ := hp
  have B := @bk_ X G Q 0 0 ad SHS_ RX11 cX11_date 4 (some .int) flX11 plX11 knX11 [(166, 2, TR_ as_G_X11_isLand (rmI_) pre_G_X11_isLand post_G_X11_isLand), (179, 1, TR_ as_G_X11_isDay (rmI_) pre_G_X11_isDay post_G_X11_isDay), (159, 3, TR_ as_G_X11_in (rmI_) pre_G_X11_in post_G_X11_in), (538, 1, TR_ as_G_X11_lay (rmV_) pre_G_X11_lay post_G_X11_lay), (544, 4, TR_ as_G_X11_dateOf_x (rmI_) pre_G_X11_dateOf_x post_G_X11_dateOf_x)] _ _ none kX11_date [] flX11_ok plX11_ok knX11_ok eX11_date oX11_date
    (List.forall_mem_cons.mpr ⟨cok_v (t := 32) (c := 11) (N := 39) (n := 1) (idx := 83) E (ct_G_X11_isLand X.2.1) (by rw [hR]; decide) (Nat.zero_le _) (Nat.zero_le _) hG rfl rfl ⟨rfl, by decide, by decide, by decide⟩ (fun _ => ⟨_, _, rfl, rfl⟩) wl_X11_83 wi_X11_isLand ws_X11_isLand wn_X11 wc_X11_isLand, List.forall_mem_cons.mpr ⟨cok_s (n := 1) (idx := 89) E (ct_G_X11_isDay X.2.1) (by rw [hR]; decide) (Nat.zero_le _) (Nat.zero_le _) hG ⟨by decide, by decide, by decide⟩ (fun _ => rfl) wl_X11_89 wt_X11_isDay wn_X11 wc_X11_isDay, List.forall_mem_cons.mpr ⟨cok_s (n := 3) (idx := 79) E (ct_G_X11_in X.2.1) (by rw [hR]; decide) (Nat.zero_le _) (Nat.zero_le _) hG ⟨by decide, by decide, by decide⟩ (fun _ => rfl) wl_X11_79 wt_X11_in wn_X11 wc_X11_in, List.forall_mem_cons.mpr ⟨cok_v (t := 32) (c := 11) (N := 39) (n := 0) (idx := 269) E (ct_G_X11_lay X.2.1) (by rw [hR]; decide) (Nat.zero_le _) (Nat.zero_le _) hG rfl rfl ⟨rfl, by decide, by decide, by decide⟩ (fun _ => ⟨_, _, rfl, rfl⟩) wl_X11_269 wi_X11_lay ws_X11_lay wn_X11 wc_X11_lay, List.forall_mem_cons.mpr ⟨cok_v (t := 32) (c := 11) (N := 39) (n := 3) (idx := 272) E (ct_G_X11_dateOf_x X.2.1) (by rw [hR]; decide) (Nat.zero_le _) (Nat.zero_le _) hG rfl rfl ⟨rfl, by decide, by decide, by decide⟩ (fun _ => ⟨_, _, rfl, rfl⟩) wl_X11_272 wi_X11_dateOf ws_X11_dateOf wn_X11 wc_X11_dateOf, fun _ h => absurd h List.not_mem_nil⟩⟩⟩⟩⟩) R sok_no E
  show WP_ X G Q 0 0 ad SHS_ σ 0 [(42, 86), (0, a1), (0, a2), (0, a3)] []
  refine B rfl ?_
  have p1 : BW σ 87 := (hp0).1.1
  refine Exists.intro a1 (And.intro rfl (And.intro p1 ?_))
  rintro z2 m_ h3
  obtain rfl : σ = m_ := h3.2
  have h4 : (z2 = 1 ∧ 0 ≤ a1 ∧ a1 ≤ 2 ∧ a1 < σ 87 1) ∨ z2 = 0 := h3.1
  refine And.intro (fun h5 => ?_) (fun h5 => ?_)
  · skip
    refine B rfl ?_
    refine Exists.intro _ (And.intro rfl ?_)
    exact (fun k j hk => rfl)
  · skip
    refine Exists.intro a2 (And.intro rfl (And.intro True.intro ?_))
    rintro z6 m_ h7
    obtain rfl : σ = m_ := h7.2
    have h8 : (z6 = 1 ∧ 0 ≤ a2 ∧ a2 ≤ 1999) ∨ z6 = 0 := h7.1
    refine And.intro (fun h9 => ?_) (fun h9 => ?_)
    · skip
      refine B rfl ?_
      refine Exists.intro _ (And.intro rfl ?_)
      exact (fun k j hk => rfl)
    · skip
      refine Exists.intro (a3, 0, 3) (And.intro rfl (And.intro True.intro ?_))
      rintro z10 m_ h11
      obtain rfl : σ = m_ := h11.2
      have h12 : (z10 = 1 ∧ 0 ≤ a3 ∧ a3 ≤ 3) ∨ (z10 = 0 ∧ ¬ (0 ≤ a3 ∧ a3 ≤ 3)) := h11.1
      refine And.intro (fun h13 => ?_) (fun h13 => ?_)
      · skip
        refine B rfl ?_
        refine Exists.intro () (And.intro rfl (And.intro hp0 ?_))
        intro z14 σ16 h15
        have f17 : ∀ k j : Int, ¬ (93 ≤ k ∧ k ≤ 96) → σ16 k j = σ k j := h15.2
        have h18 : LY σ16 := h15.1
        have p19 : MI σ16 := MI_fr hp0 (fun k j hk => (f17 _ _ (by omega)))
        have p20 : SW σ16 87 := (p19).1.2.1
        try have t21 : σ16 87 (6 + 15 * a1 + 1) = σ 87 (6 + 15 * a1 + 1) := (f17 _ _ (by omega))
        try have t22 : σ16 87 (6 + 15 * a1 + 3) = σ 87 (6 + 15 * a1 + 3) := (f17 _ _ (by omega))
        try have t23 : σ16 87 1 = σ 87 1 := (f17 _ _ (by omega))
        have w24 := p20 a1 (by omega) (by omega) (by omega)
        have p25 : BW σ16 87 := (p19).1.1
        refine Exists.intro (a1, a2, a3) (And.intro rfl (And.intro (And.intro p25 (And.intro (by show 0 ≤ a1; omega) (And.intro (by show a1 ≤ 2; omega) (And.intro (by show 0 ≤ a2; omega) (And.intro (by show a2 ≤ 1999; omega) (by show 1 ≤ σ16 87 (6 + 15 * a1 + 1); omega)))))) ?_))
        rintro z26 m_ h27
        obtain rfl : σ16 = m_ := h27.2.2.2
        have h28 : -1 ≤ z26 ∧ z26 ≤ 2000 := h27.1
        have h29 : a3 = 1 → z26 ≤ 7 := h27.2.1
        have h30 : a3 = 3 → z26 ≤ 9 := h27.2.2.1
        refine Exists.intro _ (And.intro rfl ?_)
        exact (fun k j hk => (f17 _ _ (by omega)))
      · skip
        refine Exists.intro _ (And.intro rfl ?_)
        exact (fun k j hk => rfl)
def as_G_X11_day : Int × Int × Int × Int → List Sv_t := fun a => [(42, 86), (0, a.1), (0, a.2.1), (0, a.2.2.1), (0, a.2.2.2)]
def pre_G_X11_day : Int × Int × Int × Int → Me_t → Prop := fun a σ => (MI σ)
def post_G_X11_day : Int × Int × Int × Int → Me_t → Int → Me_t → Prop := fun a σ z σ' => (σ = σ')
set_option maxHeartbeats 1500000 in
set_option maxRecDepth 100000 in
theorem ct_G_X11_day (l : Launch) : CT_ l yX11_day cX11_day 6 (some .int) 4 95 as_G_X11_day (rmI_) pre_G_X11_day post_G_X11_day := by
  refine ct_of (by decide) (fun _ => Nat.le_of_ble_eq_true rfl) ?_
  intro X G Q ad σ a hl hR E hG R hM hv hp
  obtain ⟨a1, a2, a3, a4⟩ := a
  have r_a1 : -2147483648 ≤ a1 ∧ a1 ≤ 2147483647 := hv (0, a1) (List.mem_of_getElem? (i := 1) rfl)
  have r_a2 : -2147483648 ≤ a2 ∧ a2 ≤ 2147483647 := hv (0, a2) (List.mem_of_getElem? (i := 2) rfl)
  have r_a3 : -2147483648 ≤ a3 ∧ a3 ≤ 2147483647 := hv (0, a3) (List.mem_of_getElem? (i := 3) rfl)
  have r_a4 : -2147483648 ≤ a4 ∧ a4 ≤ 2147483647 := hv (0, a4) (List.mem_of_getElem? (i := 4) rfl)
  have hp0 : MI σ := hp
  have B := @bk_ X G Q 0 0 ad SHS_ RX11 cX11_day 6 (some .int) flX11 plX11 knX11 [(166, 2, TR_ as_G_X11_isLand (rmI_) pre_G_X11_isLand post_G_X11_isLand), (556, 5, TR_ as_G_X11_isDate (rmI_) pre_G_X11_isDate post_G_X11_isDate), (564, 5, TR_ as_G_X11_dayBy (rmI_) pre_G_X11_dayBy post_G_X11_dayBy)] _ _ none kX11_day [] flX11_ok plX11_ok knX11_ok eX11_day oX11_day
    (List.forall_mem_cons.mpr ⟨cok_v (t := 32) (c := 11) (N := 39) (n := 1) (idx := 83) E (ct_G_X11_isLand X.2.1) (by rw [hR]; decide) (Nat.zero_le _) (Nat.zero_le _) hG rfl rfl ⟨rfl, by decide, by decide, by decide⟩ (fun _ => ⟨_, _, rfl, rfl⟩) wl_X11_83 wi_X11_isLand ws_X11_isLand wn_X11 wc_X11_isLand, List.forall_mem_cons.mpr ⟨cok_v (t := 32) (c := 11) (N := 39) (n := 4) (idx := 278) E (ct_G_X11_isDate X.2.1) (by rw [hR]; decide) (Nat.zero_le _) (Nat.zero_le _) hG rfl rfl ⟨rfl, by decide, by decide, by decide⟩ (fun _ => ⟨_, _, rfl, rfl⟩) wl_X11_278 wi_X11_isDate ws_X11_isDate wn_X11 wc_X11_isDate, List.forall_mem_cons.mpr ⟨cok_v (t := 32) (c := 11) (N := 39) (n := 4) (idx := 282) E (ct_G_X11_dayBy X.2.1) (by rw [hR]; decide) (Nat.zero_le _) (Nat.zero_le _) hG rfl rfl ⟨rfl, by decide, by decide, by decide⟩ (fun _ => ⟨_, _, rfl, rfl⟩) wl_X11_282 wi_X11_dayBy ws_X11_dayBy wn_X11 wc_X11_dayBy, fun _ h => absurd h List.not_mem_nil⟩⟩⟩) R sok_no E
  show WP_ X G Q 0 0 ad SHS_ σ 0 [(42, 86), (0, a1), (0, a2), (0, a3), (0, a4), (9, 0)] []
  refine B rfl ?_
  have p1 : BW σ 87 := (hp0).1.1
  refine Exists.intro a1 (And.intro rfl (And.intro p1 ?_))
  rintro z2 m_ h3
  obtain rfl : σ = m_ := h3.2
  have h4 : (z2 = 1 ∧ 0 ≤ a1 ∧ a1 ≤ 2 ∧ a1 < σ 87 1) ∨ z2 = 0 := h3.1
  refine And.intro (fun h5 => ?_) (fun h5 => ?_)
  · skip
    refine B rfl ?_
    refine Exists.intro _ (And.intro rfl ?_)
    exact rfl
  · skip
    refine Exists.intro (a1, a2, a3, a4) (And.intro rfl (And.intro (And.intro p1 (And.intro (by show 0 ≤ a1; omega) (by show a1 ≤ 2; omega))) ?_))
    rintro z6 m_ h7
    obtain rfl : σ = m_ := h7.2
    have h8 : (z6 = 1 ∧ 0 ≤ a2 ∧ a2 ≤ 1999 ∧ 0 ≤ a3 ∧ a3 ≤ 7 ∧ 0 ≤ a4 ∧ a4 ≤ 68) ∨ z6 = 0 := h7.1
    refine And.intro (fun h9 => ?_) (fun h9 => ?_)
    · skip
      refine B rfl ?_
      refine Exists.intro (a1, a2, a3, a4) (And.intro rfl (And.intro (And.intro p1 (And.intro (by show 0 ≤ a1; omega) (And.intro (by show a1 ≤ 2; omega) (And.intro (by show 0 ≤ a2; omega) (And.intro (by show a2 ≤ 1999; omega) (And.intro (by show 0 ≤ a3; omega) (And.intro (by show a3 ≤ 7; omega) (And.intro (by show 0 ≤ a4; omega) (by show a4 ≤ 100; omega))))))))) ?_))
      rintro z10 m_ h11
      obtain rfl : σ = m_ := h11.2.2
      have h12 : z10 = dayF_ (σ 87) a1 a2 a3 a4 := h11.1
      have h13 : 0 ≤ z10 ∧ z10 ≤ 4000 := h11.2.1
      refine And.intro (fun h14 => ?_) (fun h14 => ?_)
      · skip
        refine B rfl ?_
        refine Exists.intro _ (And.intro rfl ?_)
        exact rfl
      · skip
        refine B rfl ?_
        refine Exists.intro _ (And.intro rfl ?_)
        exact rfl
    · skip
      refine Exists.intro _ (And.intro rfl ?_)
      exact rfl
def as_G_X11_may : Int × Int → List Sv_t := fun a => [(42, 86), (0, a.1), (0, a.2)]
def pre_G_X11_may : Int × Int → Me_t → Prop := fun a σ => (MI σ)
def post_G_X11_may : Int × Int → Me_t → Int → Me_t → Prop := fun a σ z σ' => (∀ k j : Int, ¬ (93 ≤ k ∧ k ≤ 96) → σ' k j = σ k j)
set_option maxHeartbeats 1500000 in
set_option maxRecDepth 100000 in
theorem ct_G_X11_may (l : Launch) : CT_ l yX11_may cX11_may 3 (some .int) 4 92 as_G_X11_may (rmI_) pre_G_X11_may post_G_X11_may := by
  refine ct_of (by decide) (fun _ => Nat.le_of_ble_eq_true rfl) ?_
  intro X G Q ad σ a hl hR E hG R hM hv hp
  obtain ⟨a1, a2⟩ := a
  have r_a1 : -2147483648 ≤ a1 ∧ a1 ≤ 2147483647 := hv (0, a1) (List.mem_of_getElem? (i := 1) rfl)
  have r_a2 : -2147483648 ≤ a2 ∧ a2 ≤ 2147483647 := hv (0, a2) (List.mem_of_getElem? (i := 2) rfl)
  have hp0 : MI σ := hp
  have B := @bk_ X G Q 0 0 ad SHS_ RX11 cX11_may 3 (some .int) flX11 plX11 knX11 [(166, 2, TR_ as_G_X11_isLand (rmI_) pre_G_X11_isLand post_G_X11_isLand), (179, 1, TR_ as_G_X11_isDay (rmI_) pre_G_X11_isDay post_G_X11_isDay), (538, 1, TR_ as_G_X11_lay (rmV_) pre_G_X11_lay post_G_X11_lay), (508, 3, TR_ as_G_X11_mayOn (rmI_) pre_G_X11_mayOn post_G_X11_mayOn)] _ _ none kX11_may [] flX11_ok plX11_ok knX11_ok eX11_may oX11_may
    (List.forall_mem_cons.mpr ⟨cok_v (t := 32) (c := 11) (N := 39) (n := 1) (idx := 83) E (ct_G_X11_isLand X.2.1) (by rw [hR]; decide) (Nat.zero_le _) (Nat.zero_le _) hG rfl rfl ⟨rfl, by decide, by decide, by decide⟩ (fun _ => ⟨_, _, rfl, rfl⟩) wl_X11_83 wi_X11_isLand ws_X11_isLand wn_X11 wc_X11_isLand, List.forall_mem_cons.mpr ⟨cok_s (n := 1) (idx := 89) E (ct_G_X11_isDay X.2.1) (by rw [hR]; decide) (Nat.zero_le _) (Nat.zero_le _) hG ⟨by decide, by decide, by decide⟩ (fun _ => rfl) wl_X11_89 wt_X11_isDay wn_X11 wc_X11_isDay, List.forall_mem_cons.mpr ⟨cok_v (t := 32) (c := 11) (N := 39) (n := 0) (idx := 269) E (ct_G_X11_lay X.2.1) (by rw [hR]; decide) (Nat.zero_le _) (Nat.zero_le _) hG rfl rfl ⟨rfl, by decide, by decide, by decide⟩ (fun _ => ⟨_, _, rfl, rfl⟩) wl_X11_269 wi_X11_lay ws_X11_lay wn_X11 wc_X11_lay, List.forall_mem_cons.mpr ⟨cok_v (t := 32) (c := 11) (N := 39) (n := 2) (idx := 254) E (ct_G_X11_mayOn X.2.1) (by rw [hR]; decide) (Nat.zero_le _) (Nat.zero_le _) hG rfl rfl ⟨rfl, by decide, by decide, by decide⟩ (fun _ => ⟨_, _, rfl, rfl⟩) wl_X11_254 wi_X11_mayOn ws_X11_mayOn wn_X11 wc_X11_mayOn, fun _ h => absurd h List.not_mem_nil⟩⟩⟩⟩) R sok_no E
  show WP_ X G Q 0 0 ad SHS_ σ 0 [(42, 86), (0, a1), (0, a2)] []
  refine B rfl ?_
  have p1 : BW σ 87 := (hp0).1.1
  refine Exists.intro a1 (And.intro rfl (And.intro p1 ?_))
  rintro z2 m_ h3
  obtain rfl : σ = m_ := h3.2
  have h4 : (z2 = 1 ∧ 0 ≤ a1 ∧ a1 ≤ 2 ∧ a1 < σ 87 1) ∨ z2 = 0 := h3.1
  refine And.intro (fun h5 => ?_) (fun h5 => ?_)
  · skip
    refine B rfl ?_
    refine Exists.intro _ (And.intro rfl ?_)
    exact (fun k j hk => rfl)
  · skip
    refine Exists.intro a2 (And.intro rfl (And.intro True.intro ?_))
    rintro z6 m_ h7
    obtain rfl : σ = m_ := h7.2
    have h8 : (z6 = 1 ∧ 0 ≤ a2 ∧ a2 ≤ 1999) ∨ z6 = 0 := h7.1
    refine And.intro (fun h9 => ?_) (fun h9 => ?_)
    · skip
      refine B rfl ?_
      refine Exists.intro () (And.intro rfl (And.intro hp0 ?_))
      intro z10 σ12 h11
      have f13 : ∀ k j : Int, ¬ (93 ≤ k ∧ k ≤ 96) → σ12 k j = σ k j := h11.2
      have h14 : LY σ12 := h11.1
      refine Exists.intro (a1, a2) (And.intro rfl (And.intro (And.intro (by show 0 ≤ a1; omega) (And.intro (by show a1 ≤ 2; omega) (And.intro (by show 0 ≤ a2; omega) (by show a2 ≤ 1999; omega)))) ?_))
      rintro z15 m_ h16
      obtain rfl : σ12 = m_ := h16.2
      have h17 : (z15 = 1 ∧ σ12 96 (2000 * a1 + a2) = 0) ∨ (z15 = 0 ∧ σ12 96 (2000 * a1 + a2) ≠ 0) := h16.1
      try have t18 : σ12 96 (2000 * a1 + a2) = σ 96 (2000 * a1 + a2) := (f13 _ _ (by omega))
      refine And.intro (fun h19 => ?_) (fun h19 => ?_)
      · skip
        refine B rfl ?_
        refine Exists.intro _ (And.intro rfl ?_)
        exact (fun k j hk => (f13 _ _ (by omega)))
      · skip
        refine B rfl ?_
        refine Exists.intro _ (And.intro rfl ?_)
        exact (fun k j hk => (f13 _ _ (by omega)))
    · skip
      refine Exists.intro _ (And.intro rfl ?_)
      exact (fun k j hk => rfl)
def as_G_X11_why : Int × Int → List Sv_t := fun a => [(42, 86), (0, a.1), (0, a.2)]
def pre_G_X11_why : Int × Int → Me_t → Prop := fun a σ => (MI σ)
def post_G_X11_why : Int × Int → Me_t → Int → Me_t → Prop := fun a σ z σ' => (∀ k j : Int, ¬ (93 ≤ k ∧ k ≤ 96) → σ' k j = σ k j)
set_option maxHeartbeats 1500000 in
set_option maxRecDepth 100000 in
theorem ct_G_X11_why (l : Launch) : CT_ l yX11_why cX11_why 3 (some .int) 4 92 as_G_X11_why (rmI_) pre_G_X11_why post_G_X11_why := by
  refine ct_of (by decide) (fun _ => Nat.le_of_ble_eq_true rfl) ?_
  intro X G Q ad σ a hl hR E hG R hM hv hp
  obtain ⟨a1, a2⟩ := a
  have r_a1 : -2147483648 ≤ a1 ∧ a1 ≤ 2147483647 := hv (0, a1) (List.mem_of_getElem? (i := 1) rfl)
  have r_a2 : -2147483648 ≤ a2 ∧ a2 ≤ 2147483647 := hv (0, a2) (List.mem_of_getElem? (i := 2) rfl)
  have hp0 : MI σ := hp
  have B := @bk_ X G Q 0 0 ad SHS_ RX11 cX11_why 3 (some .int) flX11 plX11 knX11 [(166, 2, TR_ as_G_X11_isLand (rmI_) pre_G_X11_isLand post_G_X11_isLand), (179, 1, TR_ as_G_X11_isDay (rmI_) pre_G_X11_isDay post_G_X11_isDay), (538, 1, TR_ as_G_X11_lay (rmV_) pre_G_X11_lay post_G_X11_lay), (467, 2, TR_ as_G_X11_spot (rmI_) pre_G_X11_spot post_G_X11_spot)] _ _ none kX11_why [] flX11_ok plX11_ok knX11_ok eX11_why oX11_why
    (List.forall_mem_cons.mpr ⟨cok_v (t := 32) (c := 11) (N := 39) (n := 1) (idx := 83) E (ct_G_X11_isLand X.2.1) (by rw [hR]; decide) (Nat.zero_le _) (Nat.zero_le _) hG rfl rfl ⟨rfl, by decide, by decide, by decide⟩ (fun _ => ⟨_, _, rfl, rfl⟩) wl_X11_83 wi_X11_isLand ws_X11_isLand wn_X11 wc_X11_isLand, List.forall_mem_cons.mpr ⟨cok_s (n := 1) (idx := 89) E (ct_G_X11_isDay X.2.1) (by rw [hR]; decide) (Nat.zero_le _) (Nat.zero_le _) hG ⟨by decide, by decide, by decide⟩ (fun _ => rfl) wl_X11_89 wt_X11_isDay wn_X11 wc_X11_isDay, List.forall_mem_cons.mpr ⟨cok_v (t := 32) (c := 11) (N := 39) (n := 0) (idx := 269) E (ct_G_X11_lay X.2.1) (by rw [hR]; decide) (Nat.zero_le _) (Nat.zero_le _) hG rfl rfl ⟨rfl, by decide, by decide, by decide⟩ (fun _ => ⟨_, _, rfl, rfl⟩) wl_X11_269 wi_X11_lay ws_X11_lay wn_X11 wc_X11_lay, List.forall_mem_cons.mpr ⟨cok_s (n := 2) (idx := 233) E (ct_G_X11_spot X.2.1) (by rw [hR]; decide) (Nat.zero_le _) (Nat.zero_le _) hG ⟨by decide, by decide, by decide⟩ (fun _ => rfl) wl_X11_233 wt_X11_spot wn_X11 wc_X11_spot, fun _ h => absurd h List.not_mem_nil⟩⟩⟩⟩) R sok_no E
  show WP_ X G Q 0 0 ad SHS_ σ 0 [(42, 86), (0, a1), (0, a2)] []
  refine B rfl ?_
  have p1 : BW σ 87 := (hp0).1.1
  refine Exists.intro a1 (And.intro rfl (And.intro p1 ?_))
  rintro z2 m_ h3
  obtain rfl : σ = m_ := h3.2
  have h4 : (z2 = 1 ∧ 0 ≤ a1 ∧ a1 ≤ 2 ∧ a1 < σ 87 1) ∨ z2 = 0 := h3.1
  refine And.intro (fun h5 => ?_) (fun h5 => ?_)
  · skip
    refine B rfl ?_
    refine Exists.intro _ (And.intro rfl ?_)
    exact (fun k j hk => rfl)
  · skip
    refine Exists.intro a2 (And.intro rfl (And.intro True.intro ?_))
    rintro z6 m_ h7
    obtain rfl : σ = m_ := h7.2
    have h8 : (z6 = 1 ∧ 0 ≤ a2 ∧ a2 ≤ 1999) ∨ z6 = 0 := h7.1
    refine And.intro (fun h9 => ?_) (fun h9 => ?_)
    · skip
      refine B rfl ?_
      refine Exists.intro () (And.intro rfl (And.intro hp0 ?_))
      intro z10 σ12 h11
      have f13 : ∀ k j : Int, ¬ (93 ≤ k ∧ k ≤ 96) → σ12 k j = σ k j := h11.2
      have h14 : LY σ12 := h11.1
      refine Exists.intro (a1, a2) (And.intro rfl (And.intro (And.intro (by show 0 ≤ a1; omega) (And.intro (by show a1 ≤ 2; omega) (And.intro (by show 0 ≤ a2; omega) (by show a2 ≤ 1999; omega)))) ?_))
      rintro z15 m_ h16
      obtain rfl : σ12 = m_ := h16.2
      have h17 : z15 = 2000 * a1 + a2 := h16.1
      have q18 : z15 = 2000 * a1 + a2 := by omega
      subst q18
      refine And.intro (by omega) ?_
      intro z19 ez19 hz19
      have hz19 : (0 : Int) ≤ z19 ∧ z19 ≤ (4 : Int) := hz19
      try have t20 : σ12 96 (2000 * a1 + a2) = σ 96 (2000 * a1 + a2) := (f13 _ _ (by omega))
      refine Exists.intro _ (And.intro rfl ?_)
      exact (fun k j hk => (f13 _ _ (by omega)))
    · skip
      refine Exists.intro _ (And.intro rfl ?_)
      exact (fun k j hk => rfl)
def as_G_X11_who : Int → List Sv_t := fun a => [(42, 86), (0, a)]
def pre_G_X11_who : Int → Me_t → Prop := fun a σ => (MI σ)
def post_G_X11_who : Int → Me_t → Int → Me_t → Prop := fun a σ z σ' => (∀ k j : Int, ¬ (93 ≤ k ∧ k ≤ 96) → σ' k j = σ k j)
set_option maxHeartbeats 1500000 in
set_option maxRecDepth 100000 in
theorem ct_G_X11_who (l : Launch) : CT_ l yX11_who cX11_who 2 (some .int) 4 92 as_G_X11_who (rmI_) pre_G_X11_who post_G_X11_who := by
  refine ct_of (by decide) (fun _ => Nat.le_of_ble_eq_true rfl) ?_
  intro X G Q ad σ a hl hR E hG R hM hv hp
  obtain ⟨a1, rfl⟩ : ∃ q : Int, q = a := ⟨_, rfl⟩
  have r_a1 : -2147483648 ≤ a1 ∧ a1 ≤ 2147483647 := hv (0, a1) (List.mem_of_getElem? (i := 1) rfl)
  have hp0 : MI σ := hp
  have B := @bk_ X G Q 0 0 ad SHS_ RX11 cX11_who 2 (some .int) flX11 plX11 knX11 [(184, 1, TR_ as_G_X11_isWar (rmI_) pre_G_X11_isWar post_G_X11_isWar), (179, 1, TR_ as_G_X11_isDay (rmI_) pre_G_X11_isDay post_G_X11_isDay), (538, 1, TR_ as_G_X11_lay (rmV_) pre_G_X11_lay post_G_X11_lay), (572, 2, TR_ as_G_X11_whoOn (rmI_) pre_G_X11_whoOn post_G_X11_whoOn)] _ _ none kX11_who [] flX11_ok plX11_ok knX11_ok eX11_who oX11_who
    (List.forall_mem_cons.mpr ⟨cok_v (t := 32) (c := 11) (N := 39) (n := 0) (idx := 92) E (ct_G_X11_isWar X.2.1) (by rw [hR]; decide) (Nat.zero_le _) (Nat.zero_le _) hG rfl rfl ⟨rfl, by decide, by decide, by decide⟩ (fun _ => ⟨_, _, rfl, rfl⟩) wl_X11_92 wi_X11_isWar ws_X11_isWar wn_X11 wc_X11_isWar, List.forall_mem_cons.mpr ⟨cok_s (n := 1) (idx := 89) E (ct_G_X11_isDay X.2.1) (by rw [hR]; decide) (Nat.zero_le _) (Nat.zero_le _) hG ⟨by decide, by decide, by decide⟩ (fun _ => rfl) wl_X11_89 wt_X11_isDay wn_X11 wc_X11_isDay, List.forall_mem_cons.mpr ⟨cok_v (t := 32) (c := 11) (N := 39) (n := 0) (idx := 269) E (ct_G_X11_lay X.2.1) (by rw [hR]; decide) (Nat.zero_le _) (Nat.zero_le _) hG rfl rfl ⟨rfl, by decide, by decide, by decide⟩ (fun _ => ⟨_, _, rfl, rfl⟩) wl_X11_269 wi_X11_lay ws_X11_lay wn_X11 wc_X11_lay, List.forall_mem_cons.mpr ⟨cok_v (t := 32) (c := 11) (N := 39) (n := 1) (idx := 286) E (ct_G_X11_whoOn X.2.1) (by rw [hR]; decide) (Nat.zero_le _) (Nat.zero_le _) hG rfl rfl ⟨rfl, by decide, by decide, by decide⟩ (fun _ => ⟨_, _, rfl, rfl⟩) wl_X11_286 wi_X11_whoOn ws_X11_whoOn wn_X11 wc_X11_whoOn, fun _ h => absurd h List.not_mem_nil⟩⟩⟩⟩) R sok_no E
  show WP_ X G Q 0 0 ad SHS_ σ 0 [(42, 86), (0, a1)] []
  refine B rfl ?_
  refine Exists.intro () (And.intro rfl (And.intro True.intro ?_))
  rintro z1 m_ h2
  obtain rfl : σ = m_ := h2.2
  have h3 : 0 ≤ z1 ∧ z1 ≤ 1 := h2.1
  refine And.intro (fun h4 => ?_) (fun h4 => ?_)
  · skip
    refine B rfl ?_
    refine Exists.intro _ (And.intro rfl ?_)
    exact (fun k j hk => rfl)
  · skip
    refine Exists.intro a1 (And.intro rfl (And.intro True.intro ?_))
    rintro z5 m_ h6
    obtain rfl : σ = m_ := h6.2
    have h7 : (z5 = 1 ∧ 0 ≤ a1 ∧ a1 ≤ 1999) ∨ z5 = 0 := h6.1
    refine And.intro (fun h8 => ?_) (fun h8 => ?_)
    · skip
      refine B rfl ?_
      refine Exists.intro () (And.intro rfl (And.intro hp0 ?_))
      intro z9 σ11 h10
      have f12 : ∀ k j : Int, ¬ (93 ≤ k ∧ k ≤ 96) → σ11 k j = σ k j := h10.2
      have h13 : LY σ11 := h10.1
      have p14 : MI σ11 := MI_fr hp0 (fun k j hk => (f12 _ _ (by omega)))
      have p15 : BW σ11 87 := (p14).1.1
      refine Exists.intro a1 (And.intro rfl (And.intro (And.intro p15 (And.intro (by show 0 ≤ a1; omega) (by show a1 ≤ 1999; omega))) ?_))
      rintro z16 m_ h17
      obtain rfl : σ11 = m_ := h17
      refine Exists.intro _ (And.intro rfl ?_)
      exact (fun k j hk => (f12 _ _ (by omega)))
    · skip
      refine Exists.intro _ (And.intro rfl ?_)
      exact (fun k j hk => rfl)
def as_G_X11_many : Int × Int × Int → List Sv_t := fun a => [(42, 86), (0, a.1), (0, a.2.1), (0, a.2.2)]
def pre_G_X11_many : Int × Int × Int → Me_t → Prop := fun a σ => (MI σ)
def post_G_X11_many : Int × Int × Int → Me_t → Int → Me_t → Prop := fun a σ z σ' => (∀ k j : Int, ¬ (93 ≤ k ∧ k ≤ 96) → σ' k j = σ k j)
set_option maxHeartbeats 1500000 in
set_option maxRecDepth 100000 in
theorem ct_G_X11_many (l : Launch) : CT_ l yX11_many cX11_many 4 (some .int) 5 113 as_G_X11_many (rmI_) pre_G_X11_many post_G_X11_many := by
  refine ct_of (by decide) (fun _ => Nat.le_of_ble_eq_true rfl) ?_
  intro X G Q ad σ a hl hR E hG R hM hv hp
  obtain ⟨a1, a2, a3⟩ := a
  have r_a1 : -2147483648 ≤ a1 ∧ a1 ≤ 2147483647 := hv (0, a1) (List.mem_of_getElem? (i := 1) rfl)
  have r_a2 : -2147483648 ≤ a2 ∧ a2 ≤ 2147483647 := hv (0, a2) (List.mem_of_getElem? (i := 2) rfl)
  have r_a3 : -2147483648 ≤ a3 ∧ a3 ≤ 2147483647 := hv (0, a3) (List.mem_of_getElem? (i := 3) rfl)
  have hp0 : MI σ := hp
  have B := @bk_ X G Q 0 0 ad SHS_ RX11 cX11_many 4 (some .int) flX11 plX11 knX11 [(578, 2, TR_ as_G_X11_isSet (rmI_) pre_G_X11_isSet post_G_X11_isSet), (593, 2, TR_ as_G_X11_isSpan (rmI_) pre_G_X11_isSpan post_G_X11_isSpan), (538, 1, TR_ as_G_X11_lay (rmV_) pre_G_X11_lay post_G_X11_lay), (598, 4, TR_ as_G_X11_manyOf (rmI_) pre_G_X11_manyOf post_G_X11_manyOf)] _ _ none kX11_many [] flX11_ok plX11_ok knX11_ok eX11_many oX11_many
    (List.forall_mem_cons.mpr ⟨cok_v (t := 32) (c := 11) (N := 39) (n := 1) (idx := 289) E (ct_G_X11_isSet X.2.1) (by rw [hR]; decide) (Nat.zero_le _) (Nat.zero_le _) hG rfl rfl ⟨rfl, by decide, by decide, by decide⟩ (fun _ => ⟨_, _, rfl, rfl⟩) wl_X11_289 wi_X11_isSet ws_X11_isSet wn_X11 wc_X11_isSet, List.forall_mem_cons.mpr ⟨cok_s (n := 2) (idx := 296) E (ct_G_X11_isSpan X.2.1) (by rw [hR]; decide) (Nat.zero_le _) (Nat.zero_le _) hG ⟨by decide, by decide, by decide⟩ (fun _ => rfl) wl_X11_296 wt_X11_isSpan wn_X11 wc_X11_isSpan, List.forall_mem_cons.mpr ⟨cok_v (t := 32) (c := 11) (N := 39) (n := 0) (idx := 269) E (ct_G_X11_lay X.2.1) (by rw [hR]; decide) (Nat.zero_le _) (Nat.zero_le _) hG rfl rfl ⟨rfl, by decide, by decide, by decide⟩ (fun _ => ⟨_, _, rfl, rfl⟩) wl_X11_269 wi_X11_lay ws_X11_lay wn_X11 wc_X11_lay, List.forall_mem_cons.mpr ⟨cok_v (t := 32) (c := 11) (N := 39) (n := 3) (idx := 299) E (ct_G_X11_manyOf X.2.1) (by rw [hR]; decide) (Nat.zero_le _) (Nat.zero_le _) hG rfl rfl ⟨rfl, by decide, by decide, by decide⟩ (fun _ => ⟨_, _, rfl, rfl⟩) wl_X11_299 wi_X11_manyOf ws_X11_manyOf wn_X11 wc_X11_manyOf, fun _ h => absurd h List.not_mem_nil⟩⟩⟩⟩) R sok_no E
  show WP_ X G Q 0 0 ad SHS_ σ 0 [(42, 86), (0, a1), (0, a2), (0, a3)] []
  refine B rfl ?_
  have p1 : BW σ 87 := (hp0).1.1
  refine Exists.intro a1 (And.intro rfl (And.intro p1 ?_))
  rintro z2 m_ h3
  obtain rfl : σ = m_ := h3.2
  have h4 : 0 ≤ z2 ∧ z2 ≤ 1 := h3.1
  refine And.intro (fun h5 => ?_) (fun h5 => ?_)
  · skip
    refine B rfl ?_
    refine Exists.intro _ (And.intro rfl ?_)
    exact (fun k j hk => rfl)
  · skip
    refine Exists.intro (a2, a3) (And.intro rfl (And.intro True.intro ?_))
    rintro z6 m_ h7
    obtain rfl : σ = m_ := h7.2
    have h8 : (z6 = 1 ∧ 0 ≤ a2 ∧ a2 ≤ a3 ∧ a3 ≤ 1999) ∨ z6 = 0 := h7.1
    refine And.intro (fun h9 => ?_) (fun h9 => ?_)
    · skip
      refine B rfl ?_
      refine Exists.intro () (And.intro rfl (And.intro hp0 ?_))
      intro z10 σ12 h11
      have f13 : ∀ k j : Int, ¬ (93 ≤ k ∧ k ≤ 96) → σ12 k j = σ k j := h11.2
      have h14 : LY σ12 := h11.1
      have p15 : BW σ12 87 := BW_fr p1 (fun k j hk => (f13 _ _ (by omega)))
      refine Exists.intro (a1, a2, a3) (And.intro rfl (And.intro (And.intro p15 (And.intro (by show 0 ≤ a2; omega) (And.intro (by show a2 ≤ a3 + 1; omega) (by show a3 ≤ 1999; omega)))) ?_))
      rintro z16 m_ h17
      obtain rfl : σ12 = m_ := h17.2
      have h18 : 0 ≤ z16 ∧ z16 ≤ a3 + 1 - a2 := h17.1
      refine Exists.intro _ (And.intro rfl ?_)
      exact (fun k j hk => (f13 _ _ (by omega)))
    · skip
      refine Exists.intro _ (And.intro rfl ?_)
      exact (fun k j hk => rfl)
def as_G_X11_waits : Int × Int × Int → List Sv_t := fun a => [(42, 86), (0, a.1), (0, a.2.1), (0, a.2.2)]
def pre_G_X11_waits : Int × Int × Int → Me_t → Prop := fun a σ => (MI σ)
def post_G_X11_waits : Int × Int × Int → Me_t → Int → Me_t → Prop := fun a σ z σ' => (∀ k j : Int, ¬ (k = 86 ∨ (93 ≤ k ∧ k ≤ 96)) → σ' k j = σ k j)
set_option maxHeartbeats 1500000 in
set_option maxRecDepth 100000 in
theorem ct_G_X11_waits (l : Launch) : CT_ l yX11_waits cX11_waits 4 (some .int) 5 113 as_G_X11_waits (rmI_) pre_G_X11_waits post_G_X11_waits := by
  refine ct_of (by decide) (fun _ => Nat.le_of_ble_eq_true rfl) ?_
  intro X G Q ad σ a hl hR E hG R hM hv hp
  obtain ⟨a1, a2, a3⟩ := a
  have r_a1 : -2147483648 ≤ a1 ∧ a1 ≤ 2147483647 := hv (0, a1) (List.mem_of_getElem? (i := 1) rfl)
  have r_a2 : -2147483648 ≤ a2 ∧ a2 ≤ 2147483647 := hv (0, a2) (List.mem_of_getElem? (i := 2) rfl)
  have r_a3 : -2147483648 ≤ a3 ∧ a3 ≤ 2147483647 := hv (0, a3) (List.mem_of_getElem? (i := 3) rfl)
  have hp0 : MI σ := hp
  have B := @bk_ X G Q 0 0 ad SHS_ RX11 cX11_waits 4 (some .int) flX11 plX11 knX11 [(578, 2, TR_ as_G_X11_isSet (rmI_) pre_G_X11_isSet post_G_X11_isSet), (593, 2, TR_ as_G_X11_isSpan (rmI_) pre_G_X11_isSpan post_G_X11_isSpan), (538, 1, TR_ as_G_X11_lay (rmV_) pre_G_X11_lay post_G_X11_lay), (616, 4, TR_ as_G_X11_findWait (rmV_) pre_G_X11_findWait post_G_X11_findWait)] _ _ none kX11_waits [] flX11_ok plX11_ok knX11_ok eX11_waits oX11_waits
    (List.forall_mem_cons.mpr ⟨cok_v (t := 32) (c := 11) (N := 39) (n := 1) (idx := 289) E (ct_G_X11_isSet X.2.1) (by rw [hR]; decide) (Nat.zero_le _) (Nat.zero_le _) hG rfl rfl ⟨rfl, by decide, by decide, by decide⟩ (fun _ => ⟨_, _, rfl, rfl⟩) wl_X11_289 wi_X11_isSet ws_X11_isSet wn_X11 wc_X11_isSet, List.forall_mem_cons.mpr ⟨cok_s (n := 2) (idx := 296) E (ct_G_X11_isSpan X.2.1) (by rw [hR]; decide) (Nat.zero_le _) (Nat.zero_le _) hG ⟨by decide, by decide, by decide⟩ (fun _ => rfl) wl_X11_296 wt_X11_isSpan wn_X11 wc_X11_isSpan, List.forall_mem_cons.mpr ⟨cok_v (t := 32) (c := 11) (N := 39) (n := 0) (idx := 269) E (ct_G_X11_lay X.2.1) (by rw [hR]; decide) (Nat.zero_le _) (Nat.zero_le _) hG rfl rfl ⟨rfl, by decide, by decide, by decide⟩ (fun _ => ⟨_, _, rfl, rfl⟩) wl_X11_269 wi_X11_lay ws_X11_lay wn_X11 wc_X11_lay, List.forall_mem_cons.mpr ⟨cok_v (t := 32) (c := 11) (N := 39) (n := 3) (idx := 308) E (ct_G_X11_findWait X.2.1) (by rw [hR]; decide) (Nat.zero_le _) (Nat.zero_le _) hG rfl rfl ⟨rfl, by decide, by decide, by decide⟩ (fun _ => ⟨_, _, rfl, rfl⟩) wl_X11_308 wi_X11_findWait ws_X11_findWait wn_X11 wc_X11_findWait, fun _ h => absurd h List.not_mem_nil⟩⟩⟩⟩) R sok_no E
  show WP_ X G Q 0 0 ad SHS_ σ 0 [(42, 86), (0, a1), (0, a2), (0, a3)] []
  refine B rfl ?_
  have p1 : BW σ 87 := (hp0).1.1
  refine Exists.intro a1 (And.intro rfl (And.intro p1 ?_))
  rintro z2 m_ h3
  obtain rfl : σ = m_ := h3.2
  have h4 : 0 ≤ z2 ∧ z2 ≤ 1 := h3.1
  refine And.intro (fun h5 => ?_) (fun h5 => ?_)
  · skip
    refine B rfl ?_
    refine Exists.intro _ (And.intro rfl ?_)
    exact (fun k j hk => rfl)
  · skip
    refine Exists.intro (a2, a3) (And.intro rfl (And.intro True.intro ?_))
    rintro z6 m_ h7
    obtain rfl : σ = m_ := h7.2
    have h8 : (z6 = 1 ∧ 0 ≤ a2 ∧ a2 ≤ a3 ∧ a3 ≤ 1999) ∨ z6 = 0 := h7.1
    refine And.intro (fun h9 => ?_) (fun h9 => ?_)
    · skip
      refine B rfl ?_
      refine Exists.intro () (And.intro rfl (And.intro hp0 ?_))
      intro z10 σ12 h11
      have f13 : ∀ k j : Int, ¬ (93 ≤ k ∧ k ≤ 96) → σ12 k j = σ k j := h11.2
      have h14 : LY σ12 := h11.1
      have p15 : BW σ12 87 := BW_fr p1 (fun k j hk => (f13 _ _ (by omega)))
      refine Exists.intro (a1, a2, a3) (And.intro rfl (And.intro (And.intro p15 (And.intro (by show 0 ≤ a2; omega) (And.intro (by show a2 ≤ a3 + 1; omega) (by show a3 ≤ 1999; omega)))) ?_))
      intro z16 σ18 h17
      have f19 : ∀ k j : Int, ¬ (k = 86) → σ18 k j = σ12 k j := h17
      intro z20 ez20 hz20
      have hz20 : ((-2147483648) : Int) ≤ z20 ∧ z20 ≤ (2147483647 : Int) := rgl_ hz20 (by decide +kernel) (by decide +kernel) (by decide +kernel)
      try have t21 : σ18 86 19 = σ 86 19 := ((f19 _ _ (by omega)).trans (f13 _ _ (by omega)))
      refine Exists.intro _ (And.intro rfl ?_)
      exact (fun k j hk => ((f19 _ _ (by omega)).trans (f13 _ _ (by omega))))
    · skip
      refine Exists.intro _ (And.intro rfl ?_)
      exact (fun k j hk => rfl)
def as_G_X11_waiting : Int × Int × Int → List Sv_t := fun a => [(42, 86), (0, a.1), (0, a.2.1), (0, a.2.2)]
def pre_G_X11_waiting : Int × Int × Int → Me_t → Prop := fun a σ => (MI σ)
def post_G_X11_waiting : Int × Int × Int → Me_t → Int → Me_t → Prop := fun a σ z σ' => (∀ k j : Int, ¬ (k = 86 ∨ (93 ≤ k ∧ k ≤ 96)) → σ' k j = σ k j)
set_option maxHeartbeats 1500000 in
set_option maxRecDepth 100000 in
theorem ct_G_X11_waiting (l : Launch) : CT_ l yX11_waiting cX11_waiting 4 (some .int) 5 113 as_G_X11_waiting (rmI_) pre_G_X11_waiting post_G_X11_waiting := by
  refine ct_of (by decide) (fun _ => Nat.le_of_ble_eq_true rfl) ?_
  intro X G Q ad σ a hl hR E hG R hM hv hp
  obtain ⟨a1, a2, a3⟩ := a
  have r_a1 : -2147483648 ≤ a1 ∧ a1 ≤ 2147483647 := hv (0, a1) (List.mem_of_getElem? (i := 1) rfl)
  have r_a2 : -2147483648 ≤ a2 ∧ a2 ≤ 2147483647 := hv (0, a2) (List.mem_of_getElem? (i := 2) rfl)
  have r_a3 : -2147483648 ≤ a3 ∧ a3 ≤ 2147483647 := hv (0, a3) (List.mem_of_getElem? (i := 3) rfl)
  have hp0 : MI σ := hp
  have B := @bk_ X G Q 0 0 ad SHS_ RX11 cX11_waiting 4 (some .int) flX11 plX11 knX11 [(578, 2, TR_ as_G_X11_isSet (rmI_) pre_G_X11_isSet post_G_X11_isSet), (593, 2, TR_ as_G_X11_isSpan (rmI_) pre_G_X11_isSpan post_G_X11_isSpan), (538, 1, TR_ as_G_X11_lay (rmV_) pre_G_X11_lay post_G_X11_lay), (616, 4, TR_ as_G_X11_findWait (rmV_) pre_G_X11_findWait post_G_X11_findWait)] _ _ none kX11_waiting [] flX11_ok plX11_ok knX11_ok eX11_waiting oX11_waiting
    (List.forall_mem_cons.mpr ⟨cok_v (t := 32) (c := 11) (N := 39) (n := 1) (idx := 289) E (ct_G_X11_isSet X.2.1) (by rw [hR]; decide) (Nat.zero_le _) (Nat.zero_le _) hG rfl rfl ⟨rfl, by decide, by decide, by decide⟩ (fun _ => ⟨_, _, rfl, rfl⟩) wl_X11_289 wi_X11_isSet ws_X11_isSet wn_X11 wc_X11_isSet, List.forall_mem_cons.mpr ⟨cok_s (n := 2) (idx := 296) E (ct_G_X11_isSpan X.2.1) (by rw [hR]; decide) (Nat.zero_le _) (Nat.zero_le _) hG ⟨by decide, by decide, by decide⟩ (fun _ => rfl) wl_X11_296 wt_X11_isSpan wn_X11 wc_X11_isSpan, List.forall_mem_cons.mpr ⟨cok_v (t := 32) (c := 11) (N := 39) (n := 0) (idx := 269) E (ct_G_X11_lay X.2.1) (by rw [hR]; decide) (Nat.zero_le _) (Nat.zero_le _) hG rfl rfl ⟨rfl, by decide, by decide, by decide⟩ (fun _ => ⟨_, _, rfl, rfl⟩) wl_X11_269 wi_X11_lay ws_X11_lay wn_X11 wc_X11_lay, List.forall_mem_cons.mpr ⟨cok_v (t := 32) (c := 11) (N := 39) (n := 3) (idx := 308) E (ct_G_X11_findWait X.2.1) (by rw [hR]; decide) (Nat.zero_le _) (Nat.zero_le _) hG rfl rfl ⟨rfl, by decide, by decide, by decide⟩ (fun _ => ⟨_, _, rfl, rfl⟩) wl_X11_308 wi_X11_findWait ws_X11_findWait wn_X11 wc_X11_findWait, fun _ h => absurd h List.not_mem_nil⟩⟩⟩⟩) R sok_no E
  show WP_ X G Q 0 0 ad SHS_ σ 0 [(42, 86), (0, a1), (0, a2), (0, a3)] []
  refine B rfl ?_
  have p1 : BW σ 87 := (hp0).1.1
  refine Exists.intro a1 (And.intro rfl (And.intro p1 ?_))
  rintro z2 m_ h3
  obtain rfl : σ = m_ := h3.2
  have h4 : 0 ≤ z2 ∧ z2 ≤ 1 := h3.1
  refine And.intro (fun h5 => ?_) (fun h5 => ?_)
  · skip
    refine B rfl ?_
    refine Exists.intro _ (And.intro rfl ?_)
    exact (fun k j hk => rfl)
  · skip
    refine Exists.intro (a2, a3) (And.intro rfl (And.intro True.intro ?_))
    rintro z6 m_ h7
    obtain rfl : σ = m_ := h7.2
    have h8 : (z6 = 1 ∧ 0 ≤ a2 ∧ a2 ≤ a3 ∧ a3 ≤ 1999) ∨ z6 = 0 := h7.1
    refine And.intro (fun h9 => ?_) (fun h9 => ?_)
    · skip
      refine B rfl ?_
      refine Exists.intro () (And.intro rfl (And.intro hp0 ?_))
      intro z10 σ12 h11
      have f13 : ∀ k j : Int, ¬ (93 ≤ k ∧ k ≤ 96) → σ12 k j = σ k j := h11.2
      have h14 : LY σ12 := h11.1
      have p15 : BW σ12 87 := BW_fr p1 (fun k j hk => (f13 _ _ (by omega)))
      refine Exists.intro (a1, a2, a3) (And.intro rfl (And.intro (And.intro p15 (And.intro (by show 0 ≤ a2; omega) (And.intro (by show a2 ≤ a3 + 1; omega) (by show a3 ≤ 1999; omega)))) ?_))
      intro z16 σ18 h17
      have f19 : ∀ k j : Int, ¬ (k = 86) → σ18 k j = σ12 k j := h17
      intro z20 ez20 hz20
      have hz20 : ((-2147483648) : Int) ≤ z20 ∧ z20 ≤ (2147483647 : Int) := rgl_ hz20 (by decide +kernel) (by decide +kernel) (by decide +kernel)
      try have t21 : σ18 86 20 = σ 86 20 := ((f19 _ _ (by omega)).trans (f13 _ _ (by omega)))
      refine Exists.intro _ (And.intro rfl ?_)
      exact (fun k j hk => ((f19 _ _ (by omega)).trans (f13 _ _ (by omega))))
    · skip
      refine Exists.intro _ (And.intro rfl ?_)
      exact (fun k j hk => rfl)
def as_G_X11_next : Int × Int → List Sv_t := fun a => [(42, 86), (0, a.1), (0, a.2)]
def pre_G_X11_next : Int × Int → Me_t → Prop := fun a σ => (MI σ)
def post_G_X11_next : Int × Int → Me_t → Int → Me_t → Prop := fun a σ z σ' => (∀ k j : Int, ¬ (93 ≤ k ∧ k ≤ 96) → σ' k j = σ k j)
set_option maxHeartbeats 1500000 in
set_option maxRecDepth 100000 in
theorem ct_G_X11_next (l : Launch) : CT_ l yX11_next cX11_next 4 (some .int) 4 92 as_G_X11_next (rmI_) pre_G_X11_next post_G_X11_next := by
  refine ct_of (by decide) (fun _ => Nat.le_of_ble_eq_true rfl) ?_
  intro X G Q ad σ a hl hR E hG R hM hv hp
  obtain ⟨a1, a2⟩ := a
  have r_a1 : -2147483648 ≤ a1 ∧ a1 ≤ 2147483647 := hv (0, a1) (List.mem_of_getElem? (i := 1) rfl)
  have r_a2 : -2147483648 ≤ a2 ∧ a2 ≤ 2147483647 := hv (0, a2) (List.mem_of_getElem? (i := 2) rfl)
  have hp0 : MI σ := hp
  have B := @bk_ X G Q 0 0 ad SHS_ RX11 cX11_next 4 (some .int) flX11 plX11 knX11 [(578, 2, TR_ as_G_X11_isSet (rmI_) pre_G_X11_isSet post_G_X11_isSet), (179, 1, TR_ as_G_X11_isDay (rmI_) pre_G_X11_isDay post_G_X11_isDay), (538, 1, TR_ as_G_X11_lay (rmV_) pre_G_X11_lay post_G_X11_lay), (586, 3, TR_ as_G_X11_mayAll (rmI_) pre_G_X11_mayAll post_G_X11_mayAll)] _ _ none kX11_next [25] flX11_ok plX11_ok knX11_ok eX11_next oX11_next
    (List.forall_mem_cons.mpr ⟨cok_v (t := 32) (c := 11) (N := 39) (n := 1) (idx := 289) E (ct_G_X11_isSet X.2.1) (by rw [hR]; decide) (Nat.zero_le _) (Nat.zero_le _) hG rfl rfl ⟨rfl, by decide, by decide, by decide⟩ (fun _ => ⟨_, _, rfl, rfl⟩) wl_X11_289 wi_X11_isSet ws_X11_isSet wn_X11 wc_X11_isSet, List.forall_mem_cons.mpr ⟨cok_s (n := 1) (idx := 89) E (ct_G_X11_isDay X.2.1) (by rw [hR]; decide) (Nat.zero_le _) (Nat.zero_le _) hG ⟨by decide, by decide, by decide⟩ (fun _ => rfl) wl_X11_89 wt_X11_isDay wn_X11 wc_X11_isDay, List.forall_mem_cons.mpr ⟨cok_v (t := 32) (c := 11) (N := 39) (n := 0) (idx := 269) E (ct_G_X11_lay X.2.1) (by rw [hR]; decide) (Nat.zero_le _) (Nat.zero_le _) hG rfl rfl ⟨rfl, by decide, by decide, by decide⟩ (fun _ => ⟨_, _, rfl, rfl⟩) wl_X11_269 wi_X11_lay ws_X11_lay wn_X11 wc_X11_lay, List.forall_mem_cons.mpr ⟨cok_v (t := 32) (c := 11) (N := 39) (n := 2) (idx := 293) E (ct_G_X11_mayAll X.2.1) (by rw [hR]; decide) (Nat.zero_le _) (Nat.zero_le _) hG rfl rfl ⟨rfl, by decide, by decide, by decide⟩ (fun _ => ⟨_, _, rfl, rfl⟩) wl_X11_293 wi_X11_mayAll ws_X11_mayAll wn_X11 wc_X11_mayAll, fun _ h => absurd h List.not_mem_nil⟩⟩⟩⟩) R sok_no E
  show WP_ X G Q 0 0 ad SHS_ σ 0 [(42, 86), (0, a1), (0, a2), (9, 0)] []
  refine B rfl ?_
  have p1 : BW σ 87 := (hp0).1.1
  refine Exists.intro a1 (And.intro rfl (And.intro p1 ?_))
  rintro z2 m_ h3
  obtain rfl : σ = m_ := h3.2
  have h4 : 0 ≤ z2 ∧ z2 ≤ 1 := h3.1
  refine And.intro (fun h5 => ?_) (fun h5 => ?_)
  · skip
    refine B rfl ?_
    refine Exists.intro _ (And.intro rfl ?_)
    exact (fun k j hk => rfl)
  · skip
    refine Exists.intro a2 (And.intro rfl (And.intro True.intro ?_))
    rintro z6 m_ h7
    obtain rfl : σ = m_ := h7.2
    have h8 : (z6 = 1 ∧ 0 ≤ a2 ∧ a2 ≤ 1999) ∨ z6 = 0 := h7.1
    refine And.intro (fun h9 => ?_) (fun h9 => ?_)
    · skip
      refine B rfl ?_
      refine Exists.intro () (And.intro rfl (And.intro hp0 ?_))
      intro z10 σ12 h11
      have f13 : ∀ k j : Int, ¬ (93 ≤ k ∧ k ≤ 96) → σ12 k j = σ k j := h11.2
      have h14 : LY σ12 := h11.1
      show WP_ X G Q 0 0 ad SHS_ σ12 25 [(42, 86), (0, a1), (0, a2), (0, a2)] []
      refine wdrop_ (L' := [(42, 86), (0, a1), (9, 0), (0, a2)]) ⟨Or.inr rfl, ⟨Or.inr rfl, ⟨Or.inl rfl, ⟨Or.inr rfl, trivial⟩⟩⟩⟩ ?_
      have lp_25 : ∀ (nq_ : Nat) (v3 : Int), (a2 ≤ v3) → (v3 ≤ 2000) → (2000 - v3 : Int).toNat < nq_ → WP_ X G Q 0 0 ad SHS_ σ12 25 [(42, 86), (0, a1), (9, 0), (0, v3)] [] := by
        intro nq_
        induction nq_ with
        | zero => intros; omega
        | succ nq_ ih_25 =>
          intro v3 hi25_0 hi25_1 hm25
          refine B rfl ?_
          refine And.intro (fun h15 => ?_) (fun h15 => ?_)
          · skip
            refine B rfl ?_
            refine Exists.intro _ (And.intro rfl ?_)
            exact (fun k j hk => (f13 _ _ (by omega)))
          · skip
            have p16 : BW σ12 87 := BW_fr p1 (fun k j hk => (f13 _ _ (by omega)))
            refine Exists.intro (a1, v3) (And.intro rfl (And.intro (And.intro p16 (And.intro (by show 0 ≤ v3; omega) (by show v3 ≤ 1999; omega))) ?_))
            rintro z17 m_ h18
            obtain rfl : σ12 = m_ := h18.2
            have h19 : 0 ≤ z17 ∧ z17 ≤ 1 := h18.1
            refine And.intro (fun h20 => ?_) (fun h20 => ?_)
            · skip
              refine B rfl ?_
              refine And.intro (by omega) ?_
              exact ih_25 (v3 + 1) (by show a2 ≤ (v3 + 1); omega) (by show (v3 + 1) ≤ 2000; omega) (by omega)
            · skip
              refine Exists.intro _ (And.intro rfl ?_)
              exact (fun k j hk => (f13 _ _ (by omega)))
      exact lp_25 ((2000 - a2 : Int).toNat + 1) a2 (by show a2 ≤ a2; omega) (by show a2 ≤ 2000; omega) (by omega)
    · skip
      refine Exists.intro _ (And.intro rfl ?_)
      exact (fun k j hk => rfl)
def as_G_X11_share : Int × Int × Int × Int → List Sv_t := fun a => [(42, 86), (0, a.1), (0, a.2.1), (0, a.2.2.1), (0, a.2.2.2)]
def pre_G_X11_share : Int × Int × Int × Int → Me_t → Prop := fun a σ => (MI σ)
def post_G_X11_share : Int × Int × Int × Int → Me_t → Int → Me_t → Prop := fun a σ z σ' => (∀ k j : Int, ¬ (93 ≤ k ∧ k ≤ 96) → σ' k j = σ k j)
set_option maxHeartbeats 1500000 in
set_option maxRecDepth 100000 in
theorem ct_G_X11_share (l : Launch) : CT_ l yX11_share cX11_share 7 (some .int) 5 113 as_G_X11_share (rmI_) pre_G_X11_share post_G_X11_share := by
  refine ct_of (by decide) (fun _ => Nat.le_of_ble_eq_true rfl) ?_
  intro X G Q ad σ a hl hR E hG R hM hv hp
  obtain ⟨a1, a2, a3, a4⟩ := a
  have r_a1 : -2147483648 ≤ a1 ∧ a1 ≤ 2147483647 := hv (0, a1) (List.mem_of_getElem? (i := 1) rfl)
  have r_a2 : -2147483648 ≤ a2 ∧ a2 ≤ 2147483647 := hv (0, a2) (List.mem_of_getElem? (i := 2) rfl)
  have r_a3 : -2147483648 ≤ a3 ∧ a3 ≤ 2147483647 := hv (0, a3) (List.mem_of_getElem? (i := 3) rfl)
  have r_a4 : -2147483648 ≤ a4 ∧ a4 ≤ 2147483647 := hv (0, a4) (List.mem_of_getElem? (i := 4) rfl)
  have hp0 : MI σ := hp
  have B := @bk_ X G Q 0 0 ad SHS_ RX11 cX11_share 7 (some .int) flX11 plX11 knX11 [(578, 2, TR_ as_G_X11_isSet (rmI_) pre_G_X11_isSet post_G_X11_isSet), (593, 2, TR_ as_G_X11_isSpan (rmI_) pre_G_X11_isSpan post_G_X11_isSpan), (159, 3, TR_ as_G_X11_in (rmI_) pre_G_X11_in post_G_X11_in), (538, 1, TR_ as_G_X11_lay (rmV_) pre_G_X11_lay post_G_X11_lay), (598, 4, TR_ as_G_X11_manyOf (rmI_) pre_G_X11_manyOf post_G_X11_manyOf), (625, 2, TR_ as_G_X11_divisor (rmI_) pre_G_X11_divisor post_G_X11_divisor)] _ _ none kX11_share [] flX11_ok plX11_ok knX11_ok eX11_share oX11_share
    (List.forall_mem_cons.mpr ⟨cok_v (t := 32) (c := 11) (N := 39) (n := 1) (idx := 289) E (ct_G_X11_isSet X.2.1) (by rw [hR]; decide) (Nat.zero_le _) (Nat.zero_le _) hG rfl rfl ⟨rfl, by decide, by decide, by decide⟩ (fun _ => ⟨_, _, rfl, rfl⟩) wl_X11_289 wi_X11_isSet ws_X11_isSet wn_X11 wc_X11_isSet, List.forall_mem_cons.mpr ⟨cok_s (n := 2) (idx := 296) E (ct_G_X11_isSpan X.2.1) (by rw [hR]; decide) (Nat.zero_le _) (Nat.zero_le _) hG ⟨by decide, by decide, by decide⟩ (fun _ => rfl) wl_X11_296 wt_X11_isSpan wn_X11 wc_X11_isSpan, List.forall_mem_cons.mpr ⟨cok_s (n := 3) (idx := 79) E (ct_G_X11_in X.2.1) (by rw [hR]; decide) (Nat.zero_le _) (Nat.zero_le _) hG ⟨by decide, by decide, by decide⟩ (fun _ => rfl) wl_X11_79 wt_X11_in wn_X11 wc_X11_in, List.forall_mem_cons.mpr ⟨cok_v (t := 32) (c := 11) (N := 39) (n := 0) (idx := 269) E (ct_G_X11_lay X.2.1) (by rw [hR]; decide) (Nat.zero_le _) (Nat.zero_le _) hG rfl rfl ⟨rfl, by decide, by decide, by decide⟩ (fun _ => ⟨_, _, rfl, rfl⟩) wl_X11_269 wi_X11_lay ws_X11_lay wn_X11 wc_X11_lay, List.forall_mem_cons.mpr ⟨cok_v (t := 32) (c := 11) (N := 39) (n := 3) (idx := 299) E (ct_G_X11_manyOf X.2.1) (by rw [hR]; decide) (Nat.zero_le _) (Nat.zero_le _) hG rfl rfl ⟨rfl, by decide, by decide, by decide⟩ (fun _ => ⟨_, _, rfl, rfl⟩) wl_X11_299 wi_X11_manyOf ws_X11_manyOf wn_X11 wc_X11_manyOf, List.forall_mem_cons.mpr ⟨cok_s (n := 2) (idx := 312) E (ct_G_X11_divisor X.2.1) (by rw [hR]; decide) (Nat.zero_le _) (Nat.zero_le _) hG ⟨by decide, by decide, by decide⟩ (fun _ => rfl) wl_X11_312 wt_X11_divisor wn_X11 wc_X11_divisor, fun _ h => absurd h List.not_mem_nil⟩⟩⟩⟩⟩⟩) R sok_no E
  show WP_ X G Q 0 0 ad SHS_ σ 0 [(42, 86), (0, a1), (0, a2), (0, a3), (0, a4), (9, 0), (9, 0)] []
  refine B rfl ?_
  have p1 : BW σ 87 := (hp0).1.1
  refine Exists.intro a1 (And.intro rfl (And.intro p1 ?_))
  rintro z2 m_ h3
  obtain rfl : σ = m_ := h3.2
  have h4 : 0 ≤ z2 ∧ z2 ≤ 1 := h3.1
  refine And.intro (fun h5 => ?_) (fun h5 => ?_)
  · skip
    refine B rfl ?_
    refine Exists.intro _ (And.intro rfl ?_)
    exact (fun k j hk => rfl)
  · skip
    refine Exists.intro (a2, a3) (And.intro rfl (And.intro True.intro ?_))
    rintro z6 m_ h7
    obtain rfl : σ = m_ := h7.2
    have h8 : (z6 = 1 ∧ 0 ≤ a2 ∧ a2 ≤ a3 ∧ a3 ≤ 1999) ∨ z6 = 0 := h7.1
    refine And.intro (fun h9 => ?_) (fun h9 => ?_)
    · skip
      refine B rfl ?_
      refine Exists.intro _ (And.intro rfl ?_)
      exact (fun k j hk => rfl)
    · skip
      refine Exists.intro (a4, 0, 1) (And.intro rfl (And.intro True.intro ?_))
      rintro z10 m_ h11
      obtain rfl : σ = m_ := h11.2
      have h12 : (z10 = 1 ∧ 0 ≤ a4 ∧ a4 ≤ 1) ∨ (z10 = 0 ∧ ¬ (0 ≤ a4 ∧ a4 ≤ 1)) := h11.1
      refine And.intro (fun h13 => ?_) (fun h13 => ?_)
      · skip
        refine B rfl ?_
        refine Exists.intro () (And.intro rfl (And.intro hp0 ?_))
        intro z14 σ16 h15
        have f17 : ∀ k j : Int, ¬ (93 ≤ k ∧ k ≤ 96) → σ16 k j = σ k j := h15.2
        have h18 : LY σ16 := h15.1
        have p19 : BW σ16 87 := BW_fr p1 (fun k j hk => (f17 _ _ (by omega)))
        refine Exists.intro (a1, a2, a3) (And.intro rfl (And.intro (And.intro p19 (And.intro (by show 0 ≤ a2; omega) (And.intro (by show a2 ≤ a3 + 1; omega) (by show a3 ≤ 1999; omega)))) ?_))
        rintro z20 m_ h21
        obtain rfl : σ16 = m_ := h21.2
        have h22 : 0 ≤ z20 ∧ z20 ≤ a3 + 1 - a2 := h21.1
        refine And.intro (by omega) ?_
        refine And.intro (by omega) ?_
        refine And.intro (fun h23 => ?_) (fun h23 => ?_)
        · skip
          refine B rfl ?_
          refine Exists.intro (z20, (a3 - a2) + 1) (And.intro rfl (And.intro (And.intro (by show 0 ≤ z20; omega) (by show 1 ≤ ((a3 - a2) + 1); omega)) ?_))
          rintro z24 m_ h25
          obtain rfl : σ16 = m_ := h25.2
          have h26 : 1 ≤ z24 := h25.1
          have q27 := tdiv_r (x := (a3 - a2) + 1) (y := z24) (by omega) (by omega)
          refine And.intro (by omega) ?_
          refine Exists.intro _ (And.intro rfl ?_)
          exact (fun k j hk => (f17 _ _ (by omega)))
        · skip
          refine B rfl ?_
          refine Exists.intro (z20, (a3 - a2) + 1) (And.intro rfl (And.intro (And.intro (by show 0 ≤ z20; omega) (by show 1 ≤ ((a3 - a2) + 1); omega)) ?_))
          rintro z28 m_ h29
          obtain rfl : σ16 = m_ := h29.2
          have h30 : 1 ≤ z28 := h29.1
          have q31 := tdiv_r (x := z20) (y := z28) (by omega) (by omega)
          refine And.intro (by omega) ?_
          refine Exists.intro _ (And.intro rfl ?_)
          exact (fun k j hk => (f17 _ _ (by omega)))
      · skip
        refine Exists.intro _ (And.intro rfl ?_)
        exact (fun k j hk => rfl)
def as_G_X11_meets : Int × Int × Int × Int × Int → List Sv_t := fun a => [(42, 86), (0, a.1), (0, a.2.1), (0, a.2.2.1), (0, a.2.2.2.1), (0, a.2.2.2.2)]
def pre_G_X11_meets : Int × Int × Int × Int × Int → Me_t → Prop := fun a σ => (MI σ)
def post_G_X11_meets : Int × Int × Int × Int × Int → Me_t → Int → Me_t → Prop := fun a σ z σ' => (σ = σ')
set_option maxHeartbeats 1500000 in
set_option maxRecDepth 100000 in
theorem ct_G_X11_meets (l : Launch) : CT_ l yX11_meets cX11_meets 8 (some .int) 3 69 as_G_X11_meets (rmI_) pre_G_X11_meets post_G_X11_meets := by
  refine ct_of (by decide) (fun _ => Nat.le_of_ble_eq_true rfl) ?_
  intro X G Q ad σ a hl hR E hG R hM hv hp
  obtain ⟨a1, a2, a3, a4, a5⟩ := a
  have r_a1 : -2147483648 ≤ a1 ∧ a1 ≤ 2147483647 := hv (0, a1) (List.mem_of_getElem? (i := 1) rfl)
  have r_a2 : -2147483648 ≤ a2 ∧ a2 ≤ 2147483647 := hv (0, a2) (List.mem_of_getElem? (i := 2) rfl)
  have r_a3 : -2147483648 ≤ a3 ∧ a3 ≤ 2147483647 := hv (0, a3) (List.mem_of_getElem? (i := 3) rfl)
  have r_a4 : -2147483648 ≤ a4 ∧ a4 ≤ 2147483647 := hv (0, a4) (List.mem_of_getElem? (i := 4) rfl)
  have r_a5 : -2147483648 ≤ a5 ∧ a5 ≤ 2147483647 := hv (0, a5) (List.mem_of_getElem? (i := 5) rfl)
  have hp0 : MI σ := hp
  have B := @bk_ X G Q 0 0 ad SHS_ RX11 cX11_meets 8 (some .int) flX11 plX11 knX11 [(630, 3, TR_ as_G_X11_areTwo (rmI_) pre_G_X11_areTwo post_G_X11_areTwo), (636, 3, TR_ as_G_X11_isWeekday (rmI_) pre_G_X11_isWeekday post_G_X11_isWeekday), (179, 1, TR_ as_G_X11_isDay (rmI_) pre_G_X11_isDay post_G_X11_isDay), (200, 3, TOR_ (TR_ as_G_X11_of_0 (rmI_) pre_G_X11_of_0 post_G_X11_of_0) (TR_ as_G_X11_of_1 (rmI_) pre_G_X11_of_1 post_G_X11_of_1)), (472, 3, TR_ as_G_X11_weekday (rmI_) pre_G_X11_weekday post_G_X11_weekday), (643, 2, TMAX_)] _ _ none kX11_meets [9, 18, 28, 37, 66, 87, 98, 110] flX11_ok plX11_ok knX11_ok eX11_meets oX11_meets
    (List.forall_mem_cons.mpr ⟨cok_v (t := 32) (c := 11) (N := 39) (n := 2) (idx := 315) E (ct_G_X11_areTwo X.2.1) (by rw [hR]; decide) (Nat.zero_le _) (Nat.zero_le _) hG rfl rfl ⟨rfl, by decide, by decide, by decide⟩ (fun _ => ⟨_, _, rfl, rfl⟩) wl_X11_315 wi_X11_areTwo ws_X11_areTwo wn_X11 wc_X11_areTwo, List.forall_mem_cons.mpr ⟨cok_v (t := 32) (c := 11) (N := 39) (n := 2) (idx := 318) E (ct_G_X11_isWeekday X.2.1) (by rw [hR]; decide) (Nat.zero_le _) (Nat.zero_le _) hG rfl rfl ⟨rfl, by decide, by decide, by decide⟩ (fun _ => ⟨_, _, rfl, rfl⟩) wl_X11_318 wi_X11_isWeekday ws_X11_isWeekday wn_X11 wc_X11_isWeekday, List.forall_mem_cons.mpr ⟨cok_s (n := 1) (idx := 89) E (ct_G_X11_isDay X.2.1) (by rw [hR]; decide) (Nat.zero_le _) (Nat.zero_le _) hG ⟨by decide, by decide, by decide⟩ (fun _ => rfl) wl_X11_89 wt_X11_isDay wn_X11 wc_X11_isDay, List.forall_mem_cons.mpr ⟨cok_or (cok_v (t := 32) (c := 11) (N := 39) (n := 2) (idx := 100) E (ct_G_X11_of_0 X.2.1) (by rw [hR]; decide) (Nat.zero_le _) (Nat.zero_le _) hG rfl rfl ⟨rfl, by decide, by decide, by decide⟩ (fun _ => ⟨_, _, rfl, rfl⟩) wl_X11_100 wi_X11_of ws_X11_of wn_X11 wc_X11_of) (cok_v (t := 32) (c := 11) (N := 39) (n := 2) (idx := 100) E (ct_G_X11_of_1 X.2.1) (by rw [hR]; decide) (Nat.zero_le _) (Nat.zero_le _) hG rfl rfl ⟨rfl, by decide, by decide, by decide⟩ (fun _ => ⟨_, _, rfl, rfl⟩) wl_X11_100 wi_X11_of ws_X11_of wn_X11 wc_X11_of), List.forall_mem_cons.mpr ⟨cok_v (t := 32) (c := 11) (N := 39) (n := 2) (idx := 236) E (ct_G_X11_weekday X.2.1) (by rw [hR]; decide) (Nat.zero_le _) (Nat.zero_le _) hG rfl rfl ⟨rfl, by decide, by decide, by decide⟩ (fun _ => ⟨_, _, rfl, rfl⟩) wl_X11_236 wi_X11_weekday ws_X11_weekday wn_X11 wc_X11_weekday, List.forall_mem_cons.mpr ⟨cok_max (idx := 321) E (by rw [hR]; decide) (Nat.zero_le _) (Nat.zero_le _) wl_X11_321, fun _ h => absurd h List.not_mem_nil⟩⟩⟩⟩⟩⟩) R sok_no E
  show WP_ X G Q 0 0 ad SHS_ σ 0 [(42, 86), (0, a1), (0, a2), (0, a3), (0, a4), (0, a5), (9, 0), (9, 0)] []
  refine B rfl ?_
  have p1 : BW σ 87 := (hp0).1.1
  refine Exists.intro (a1, a3) (And.intro rfl (And.intro p1 ?_))
  rintro z2 m_ h3
  obtain rfl : σ = m_ := h3.2
  have h4 : (z2 = 1 ∧ 0 ≤ a1 ∧ a1 ≤ 2 ∧ a1 < σ 87 1 ∧ 0 ≤ a3 ∧ a3 ≤ 2 ∧ a3 < σ 87 1 ∧ a1 ≠ a3) ∨ z2 = 0 := h3.1
  refine And.intro (fun h5 => ?_) (fun h5 => ?_)
  · skip
    refine B rfl ?_
    refine Exists.intro _ (And.intro rfl ?_)
    exact rfl
  · skip
    show WP_ X G Q 0 0 ad SHS_ σ 9 [(42, 86), (0, a1), (0, a2), (0, a3), (0, a4), (0, a5), (9, 0), (9, 0)] []
    refine B rfl ?_
    refine Exists.intro (a1, a2) (And.intro rfl (And.intro (And.intro p1 (And.intro (by show 0 ≤ a1; omega) (by show a1 ≤ 2; omega))) ?_))
    rintro z6 m_ h7
    obtain rfl : σ = m_ := h7.2
    have h8 : 0 ≤ z6 ∧ z6 ≤ 1 := h7.1
    refine And.intro (fun h9 => ?_) (fun h9 => ?_)
    · skip
      refine B rfl ?_
      refine Exists.intro _ (And.intro rfl ?_)
      exact rfl
    · skip
      show WP_ X G Q 0 0 ad SHS_ σ 18 [(42, 86), (0, a1), (0, a2), (0, a3), (0, a4), (0, a5), (9, 0), (9, 0)] []
      refine B rfl ?_
      refine Exists.intro (a3, a4) (And.intro rfl (And.intro (And.intro p1 (And.intro (by show 0 ≤ a3; omega) (by show a3 ≤ 2; omega))) ?_))
      rintro z10 m_ h11
      obtain rfl : σ = m_ := h11.2
      have h12 : 0 ≤ z10 ∧ z10 ≤ 1 := h11.1
      refine And.intro (fun h13 => ?_) (fun h13 => ?_)
      · skip
        refine B rfl ?_
        refine Exists.intro _ (And.intro rfl ?_)
        exact rfl
      · skip
        show WP_ X G Q 0 0 ad SHS_ σ 28 [(42, 86), (0, a1), (0, a2), (0, a3), (0, a4), (0, a5), (9, 0), (9, 0)] []
        refine B rfl ?_
        refine Exists.intro a5 (And.intro rfl (And.intro True.intro ?_))
        rintro z14 m_ h15
        obtain rfl : σ = m_ := h15.2
        have h16 : (z14 = 1 ∧ 0 ≤ a5 ∧ a5 ≤ 1999) ∨ z14 = 0 := h15.1
        refine And.intro (fun h17 => ?_) (fun h17 => ?_)
        · skip
          refine B rfl ?_
          refine Or.inl ?_
          refine Exists.intro a1 (And.intro rfl (And.intro (And.intro p1 (And.intro (by show 0 ≤ a1; omega) (by show a1 ≤ 2; omega))) ?_))
          rintro z18 m_ h19
          obtain rfl : σ = m_ := h19.2.2
          have h20 : z18 = σ 87 (6 + 15 * a1 + 0) := h19.1
          have h21 : 0 ≤ z18 ∧ z18 ≤ 999 := h19.2.1
          refine Or.inl ?_
          refine Exists.intro a3 (And.intro rfl (And.intro (And.intro p1 (And.intro (by show 0 ≤ a3; omega) (by show a3 ≤ 2; omega))) ?_))
          rintro z22 m_ h23
          obtain rfl : σ = m_ := h23.2.2
          have h24 : z22 = σ 87 (6 + 15 * a3 + 0) := h23.1
          have h25 : 0 ≤ z22 ∧ z22 ≤ 999 := h23.2.1
          refine Exists.intro z18 (Exists.intro z22 (And.intro rfl ?_))
          intro z26 hz26
          refine Exists.intro a5 (Exists.intro z26 (And.intro rfl ?_))
          intro z27 hz27
          show WP_ X G Q 0 0 ad SHS_ σ 66 [(42, 86), (0, a1), (0, a2), (0, a3), (0, a4), (0, a5), (0, z27), (0, z27)] []
          refine wdrop_ (L' := [(42, 86), (0, a1), (0, a2), (0, a3), (0, a4), (9, 0), (0, z27), (0, z27)]) ⟨Or.inr rfl, ⟨Or.inr rfl, ⟨Or.inr rfl, ⟨Or.inr rfl, ⟨Or.inr rfl, ⟨Or.inl rfl, ⟨Or.inr rfl, ⟨Or.inr rfl, trivial⟩⟩⟩⟩⟩⟩⟩⟩ ?_
          have lp_66 : ∀ (nq_ : Nat) (v7 : Int), (0 ≤ v7) → (v7 ≤ 2200) → (2200 - v7 : Int).toNat < nq_ → WP_ X G Q 0 0 ad SHS_ σ 66 [(42, 86), (0, a1), (0, a2), (0, a3), (0, a4), (9, 0), (0, z27), (0, v7)] [] := by
            intro nq_
            induction nq_ with
            | zero => intros; omega
            | succ nq_ ih_66 =>
              intro v7 hi66_0 hi66_1 hm66
              refine B rfl ?_
              refine Or.inr ?_
              refine Exists.intro a1 (And.intro rfl (And.intro (And.intro p1 (And.intro (by show 0 ≤ a1; omega) (by show a1 ≤ 2; omega))) ?_))
              rintro z28 m_ h29
              obtain rfl : σ = m_ := h29.2.2
              have h30 : z28 = σ 87 (6 + 15 * a1 + 1) := h29.1
              have h31 : 0 ≤ z28 ∧ z28 ≤ 10 := h29.2.1
              refine Or.inr ?_
              refine Exists.intro a3 (And.intro rfl (And.intro (And.intro p1 (And.intro (by show 0 ≤ a3; omega) (by show a3 ≤ 2; omega))) ?_))
              rintro z32 m_ h33
              obtain rfl : σ = m_ := h33.2.2
              have h34 : z32 = σ 87 (6 + 15 * a3 + 1) := h33.1
              have h35 : 0 ≤ z32 ∧ z32 ≤ 10 := h33.2.1
              have q36 : 0 ≤ z28 * z32 ∧ z28 * z32 ≤ 100 := mul_r (A := 10) (B := 10) (by omega) (by omega) (by omega) (by omega)
              refine And.intro (by omega) ?_
              refine And.intro (by omega) ?_
              refine And.intro (fun h37 => ?_) (fun h37 => ?_)
              · skip
                refine B rfl ?_
                refine Exists.intro _ (And.intro rfl ?_)
                exact rfl
              · skip
                show WP_ X G Q 0 0 ad SHS_ σ 87 [(42, 86), (0, a1), (0, a2), (0, a3), (0, a4), (9, 0), (0, z27), (0, v7)] []
                refine B rfl ?_
                have p38 : SW σ 87 := (hp0).1.2.1
                have w39 := p38 a1 (by omega) (by omega) (by omega)
                refine Exists.intro (a1, v7) (And.intro rfl (And.intro (And.intro p1 (And.intro (by show 0 ≤ a1; omega) (And.intro (by show a1 ≤ 2; omega) (And.intro (by show 1 ≤ σ 87 (6 + 15 * a1 + 1); omega) (And.intro (by show 0 ≤ v7; omega) (by show v7 ≤ 10000; omega)))))) ?_))
                rintro z40 m_ h41
                obtain rfl : σ = m_ := h41.2
                have h42 : -1 ≤ z40 ∧ z40 ≤ 9 := h41.1
                refine And.intro (fun h43 => ?_) (fun h43 => ?_)
                · skip
                  refine B rfl ?_
                  refine And.intro (by omega) ?_
                  exact ih_66 (v7 + 1) (by show 0 ≤ (v7 + 1); omega) (by show (v7 + 1) ≤ 2200; omega) (by omega)
                · skip
                  show WP_ X G Q 0 0 ad SHS_ σ 98 [(42, 86), (0, a1), (0, a2), (0, a3), (0, a4), (9, 0), (0, z27), (0, v7)] []
                  refine B rfl ?_
                  have w44 := p38 a3 (by omega) (by omega) (by omega)
                  refine Exists.intro (a3, v7) (And.intro rfl (And.intro (And.intro p1 (And.intro (by show 0 ≤ a3; omega) (And.intro (by show a3 ≤ 2; omega) (And.intro (by show 1 ≤ σ 87 (6 + 15 * a3 + 1); omega) (And.intro (by show 0 ≤ v7; omega) (by show v7 ≤ 10000; omega)))))) ?_))
                  rintro z45 m_ h46
                  obtain rfl : σ = m_ := h46.2
                  have h47 : -1 ≤ z45 ∧ z45 ≤ 9 := h46.1
                  refine And.intro (fun h48 => ?_) (fun h48 => ?_)
                  · skip
                    refine B rfl ?_
                    refine And.intro (by omega) ?_
                    exact ih_66 (v7 + 1) (by show 0 ≤ (v7 + 1); omega) (by show (v7 + 1) ≤ 2200; omega) (by omega)
                  · skip
                    show WP_ X G Q 0 0 ad SHS_ σ 110 [(42, 86), (0, a1), (0, a2), (0, a3), (0, a4), (9, 0), (0, z27), (0, v7)] []
                    refine B rfl ?_
                    refine Exists.intro _ (And.intro rfl ?_)
                    exact rfl
          exact lp_66 ((2200 - z27 : Int).toNat + 1) z27 (by show 0 ≤ z27; omega) (by show z27 ≤ 2200; omega) (by omega)
        · skip
          show WP_ X G Q 0 0 ad SHS_ σ 37 [(42, 86), (0, a1), (0, a2), (0, a3), (0, a4), (0, a5), (9, 0), (9, 0)] []
          refine B rfl ?_
          refine Exists.intro _ (And.intro rfl ?_)
          exact rfl
def as_G_X11_period : Int → List Sv_t := fun a => [(42, 86), (0, a)]
def pre_G_X11_period : Int → Me_t → Prop := fun a σ => (MI σ)
def post_G_X11_period : Int → Me_t → Int → Me_t → Prop := fun a σ z σ' => (σ = σ')
set_option maxHeartbeats 1500000 in
set_option maxRecDepth 100000 in
theorem ct_G_X11_period (l : Launch) : CT_ l yX11_period cX11_period 4 (some .int) 3 69 as_G_X11_period (rmI_) pre_G_X11_period post_G_X11_period := by
  refine ct_of (by decide) (fun _ => Nat.le_of_ble_eq_true rfl) ?_
  intro X G Q ad σ a hl hR E hG R hM hv hp
  obtain ⟨a1, rfl⟩ : ∃ q : Int, q = a := ⟨_, rfl⟩
  have r_a1 : -2147483648 ≤ a1 ∧ a1 ≤ 2147483647 := hv (0, a1) (List.mem_of_getElem? (i := 1) rfl)
  have hp0 : MI σ := hp
  have B := @bk_ X G Q 0 0 ad SHS_ RX11 cX11_period 4 (some .int) flX11 plX11 knX11 [(166, 2, TR_ as_G_X11_isLand (rmI_) pre_G_X11_isLand post_G_X11_isLand), (200, 3, TOR_ (TR_ as_G_X11_of_4 (rmI_) pre_G_X11_of_4 post_G_X11_of_4) (TR_ as_G_X11_of_1 (rmI_) pre_G_X11_of_1 post_G_X11_of_1)), (625, 2, TR_ as_G_X11_divisor (rmI_) pre_G_X11_divisor post_G_X11_divisor), (550, 3, TR_ as_G_X11_yearLength (rmI_) pre_G_X11_yearLength post_G_X11_yearLength), (643, 2, TMAX_)] _ _ none kX11_period [16] flX11_ok plX11_ok knX11_ok eX11_period oX11_period
    (List.forall_mem_cons.mpr ⟨cok_v (t := 32) (c := 11) (N := 39) (n := 1) (idx := 83) E (ct_G_X11_isLand X.2.1) (by rw [hR]; decide) (Nat.zero_le _) (Nat.zero_le _) hG rfl rfl ⟨rfl, by decide, by decide, by decide⟩ (fun _ => ⟨_, _, rfl, rfl⟩) wl_X11_83 wi_X11_isLand ws_X11_isLand wn_X11 wc_X11_isLand, List.forall_mem_cons.mpr ⟨cok_or (cok_v (t := 32) (c := 11) (N := 39) (n := 2) (idx := 100) E (ct_G_X11_of_4 X.2.1) (by rw [hR]; decide) (Nat.zero_le _) (Nat.zero_le _) hG rfl rfl ⟨rfl, by decide, by decide, by decide⟩ (fun _ => ⟨_, _, rfl, rfl⟩) wl_X11_100 wi_X11_of ws_X11_of wn_X11 wc_X11_of) (cok_v (t := 32) (c := 11) (N := 39) (n := 2) (idx := 100) E (ct_G_X11_of_1 X.2.1) (by rw [hR]; decide) (Nat.zero_le _) (Nat.zero_le _) hG rfl rfl ⟨rfl, by decide, by decide, by decide⟩ (fun _ => ⟨_, _, rfl, rfl⟩) wl_X11_100 wi_X11_of ws_X11_of wn_X11 wc_X11_of), List.forall_mem_cons.mpr ⟨cok_s (n := 2) (idx := 312) E (ct_G_X11_divisor X.2.1) (by rw [hR]; decide) (Nat.zero_le _) (Nat.zero_le _) hG ⟨by decide, by decide, by decide⟩ (fun _ => rfl) wl_X11_312 wt_X11_divisor wn_X11 wc_X11_divisor, List.forall_mem_cons.mpr ⟨cok_v (t := 32) (c := 11) (N := 39) (n := 2) (idx := 275) E (ct_G_X11_yearLength X.2.1) (by rw [hR]; decide) (Nat.zero_le _) (Nat.zero_le _) hG rfl rfl ⟨rfl, by decide, by decide, by decide⟩ (fun _ => ⟨_, _, rfl, rfl⟩) wl_X11_275 wi_X11_yearLength ws_X11_yearLength wn_X11 wc_X11_yearLength, List.forall_mem_cons.mpr ⟨cok_max (idx := 321) E (by rw [hR]; decide) (Nat.zero_le _) (Nat.zero_le _) wl_X11_321, fun _ h => absurd h List.not_mem_nil⟩⟩⟩⟩⟩) R sok_no E
  show WP_ X G Q 0 0 ad SHS_ σ 0 [(42, 86), (0, a1), (9, 0), (9, 0)] []
  refine B rfl ?_
  have p1 : BW σ 87 := (hp0).1.1
  refine Exists.intro a1 (And.intro rfl (And.intro p1 ?_))
  rintro z2 m_ h3
  obtain rfl : σ = m_ := h3.2
  have h4 : (z2 = 1 ∧ 0 ≤ a1 ∧ a1 ≤ 2 ∧ a1 < σ 87 1) ∨ z2 = 0 := h3.1
  refine And.intro (fun h5 => ?_) (fun h5 => ?_)
  · skip
    refine B rfl ?_
    have lp_16 : ∀ (nq_ : Nat) (v2 : Int) (v3 : Int), (0 ≤ v3) → (v3 ≤ 9) → (0 ≤ v2) → (v2 ≤ 552 * v3) → (9 - v3 : Int).toNat < nq_ → WP_ X G Q 0 0 ad SHS_ σ 16 [(42, 86), (0, a1), (0, v2), (0, v3)] [] := by
      intro nq_
      induction nq_ with
      | zero => intros; omega
      | succ nq_ ih_16 =>
        intro v2 v3 hi16_0 hi16_1 hi16_2 hi16_3 hm16
        refine B rfl ?_
        refine Or.inl ?_
        refine Exists.intro a1 (And.intro rfl (And.intro (And.intro p1 (And.intro (by show 0 ≤ a1; omega) (by show a1 ≤ 2; omega))) ?_))
        rintro z6 m_ h7
        obtain rfl : σ = m_ := h7.2.2
        have h8 : z6 = σ 87 (6 + 15 * a1 + 4) := h7.1
        have h9 : 0 ≤ z6 ∧ z6 ≤ 9 := h7.2.1
        refine Exists.intro 1 (Exists.intro z6 (And.intro rfl ?_))
        intro z10 hz10
        refine And.intro (fun h11 => ?_) (fun h11 => ?_)
        · skip
          refine B rfl ?_
          refine Or.inr ?_
          refine Exists.intro a1 (And.intro rfl (And.intro (And.intro p1 (And.intro (by show 0 ≤ a1; omega) (by show a1 ≤ 2; omega))) ?_))
          rintro z12 m_ h13
          obtain rfl : σ = m_ := h13.2.2
          have h14 : z12 = σ 87 (6 + 15 * a1 + 1) := h13.1
          have h15 : 0 ≤ z12 ∧ z12 ≤ 10 := h13.2.1
          have p16 : SW σ 87 := (hp0).1.2.1
          have w17 := p16 a1 (by omega) (by omega) (by omega)
          refine Exists.intro (v2, z12) (And.intro rfl (And.intro (And.intro (by show 0 ≤ v2; omega) (by show 1 ≤ z12; omega)) ?_))
          rintro z18 m_ h19
          obtain rfl : σ = m_ := h19.2
          have h20 : 1 ≤ z18 := h19.1
          have q21 := tdiv_r (x := v2) (y := z18) (by omega) (by omega)
          refine And.intro (by omega) ?_
          refine Or.inr ?_
          refine Exists.intro a1 (And.intro rfl (And.intro (And.intro p1 (And.intro (by show 0 ≤ a1; omega) (by show a1 ≤ 2; omega))) ?_))
          rintro z22 m_ h23
          obtain rfl : σ = m_ := h23.2.2
          have h24 : z22 = σ 87 (6 + 15 * a1 + 1) := h23.1
          have h25 : 0 ≤ z22 ∧ z22 ≤ 10 := h23.2.1
          have q26 : 0 ≤ (Int.tdiv v2 z18) * z22 ∧ (Int.tdiv v2 z18) * z22 ≤ 49680 := mul_r (A := 4968) (B := 10) (by omega) (by omega) (by omega) (by omega)
          refine And.intro (by omega) ?_
          refine Exists.intro _ (And.intro rfl ?_)
          exact rfl
        · skip
          refine Exists.intro (a1, v3) (And.intro rfl (And.intro (And.intro p1 (And.intro (by show 0 ≤ a1; omega) (And.intro (by show a1 ≤ 2; omega) (by show 0 ≤ v3; omega)))) ?_))
          rintro z27 m_ h28
          obtain rfl : σ = m_ := h28.2.2
          have h29 : z27 = ylF_ (σ 87) a1 v3 := h28.1
          have h30 : 0 ≤ z27 ∧ z27 ≤ 552 := h28.2.1
          refine And.intro (by omega) ?_
          refine And.intro (by omega) ?_
          exact ih_16 (v2 + z27) (v3 + 1) (by show 0 ≤ (v3 + 1); omega) (by show (v3 + 1) ≤ 9; omega) (by show 0 ≤ (v2 + z27); omega) (by show (v2 + z27) ≤ 552 * (v3 + 1); omega) (by omega)
    exact lp_16 ((9 - 0 : Int).toNat + 1) 0 0 (by show 0 ≤ 0; omega) (by show 0 ≤ 9; omega) (by show 0 ≤ 0; omega) (by show 0 ≤ 552 * 0; omega) (by omega)
  · skip
    refine Exists.intro _ (And.intro rfl ?_)
    exact rfl
def as_G_X11_alike : Int × Int × Int → List Sv_t := fun a => [(42, 86), (0, a.1), (0, a.2.1), (0, a.2.2)]
def pre_G_X11_alike : Int × Int × Int → Me_t → Prop := fun a σ => (MI σ)
def post_G_X11_alike : Int × Int × Int → Me_t → Int → Me_t → Prop := fun a σ z σ' => (∀ k j : Int, ¬ (93 ≤ k ∧ k ≤ 96) → σ' k j = σ k j)
set_option maxHeartbeats 1500000 in
set_option maxRecDepth 100000 in
theorem ct_G_X11_alike (l : Launch) : CT_ l yX11_alike cX11_alike 5 (some .int) 4 92 as_G_X11_alike (rmI_) pre_G_X11_alike post_G_X11_alike := by
  refine ct_of (by decide) (fun _ => Nat.le_of_ble_eq_true rfl) ?_
  intro X G Q ad σ a hl hR E hG R hM hv hp
  obtain ⟨a1, a2, a3⟩ := a
  have r_a1 : -2147483648 ≤ a1 ∧ a1 ≤ 2147483647 := hv (0, a1) (List.mem_of_getElem? (i := 1) rfl)
  have r_a2 : -2147483648 ≤ a2 ∧ a2 ≤ 2147483647 := hv (0, a2) (List.mem_of_getElem? (i := 2) rfl)
  have r_a3 : -2147483648 ≤ a3 ∧ a3 ≤ 2147483647 := hv (0, a3) (List.mem_of_getElem? (i := 3) rfl)
  have hp0 : MI σ := hp
  have B := @bk_ X G Q 0 0 ad SHS_ RX11 cX11_alike 5 (some .int) flX11 plX11 knX11 [(630, 3, TR_ as_G_X11_areTwo (rmI_) pre_G_X11_areTwo post_G_X11_areTwo), (179, 1, TR_ as_G_X11_isDay (rmI_) pre_G_X11_isDay post_G_X11_isDay), (538, 1, TR_ as_G_X11_lay (rmV_) pre_G_X11_lay post_G_X11_lay), (648, 3, TR_ as_G_X11_isCounted (rmI_) pre_G_X11_isCounted post_G_X11_isCounted), (544, 4, TOR_ (TR_ as_G_X11_dateOf_1 (rmI_) pre_G_X11_dateOf_1 post_G_X11_dateOf_1) (TR_ as_G_X11_dateOf_2 (rmI_) pre_G_X11_dateOf_2 post_G_X11_dateOf_2))] _ _ none kX11_alike [9, 17, 27, 35, 45, 55, 74, 93] flX11_ok plX11_ok knX11_ok eX11_alike oX11_alike
    (List.forall_mem_cons.mpr ⟨cok_v (t := 32) (c := 11) (N := 39) (n := 2) (idx := 315) E (ct_G_X11_areTwo X.2.1) (by rw [hR]; decide) (Nat.zero_le _) (Nat.zero_le _) hG rfl rfl ⟨rfl, by decide, by decide, by decide⟩ (fun _ => ⟨_, _, rfl, rfl⟩) wl_X11_315 wi_X11_areTwo ws_X11_areTwo wn_X11 wc_X11_areTwo, List.forall_mem_cons.mpr ⟨cok_s (n := 1) (idx := 89) E (ct_G_X11_isDay X.2.1) (by rw [hR]; decide) (Nat.zero_le _) (Nat.zero_le _) hG ⟨by decide, by decide, by decide⟩ (fun _ => rfl) wl_X11_89 wt_X11_isDay wn_X11 wc_X11_isDay, List.forall_mem_cons.mpr ⟨cok_v (t := 32) (c := 11) (N := 39) (n := 0) (idx := 269) E (ct_G_X11_lay X.2.1) (by rw [hR]; decide) (Nat.zero_le _) (Nat.zero_le _) hG rfl rfl ⟨rfl, by decide, by decide, by decide⟩ (fun _ => ⟨_, _, rfl, rfl⟩) wl_X11_269 wi_X11_lay ws_X11_lay wn_X11 wc_X11_lay, List.forall_mem_cons.mpr ⟨cok_v (t := 32) (c := 11) (N := 39) (n := 2) (idx := 324) E (ct_G_X11_isCounted X.2.1) (by rw [hR]; decide) (Nat.zero_le _) (Nat.zero_le _) hG rfl rfl ⟨rfl, by decide, by decide, by decide⟩ (fun _ => ⟨_, _, rfl, rfl⟩) wl_X11_324 wi_X11_isCounted ws_X11_isCounted wn_X11 wc_X11_isCounted, List.forall_mem_cons.mpr ⟨cok_or (cok_v (t := 32) (c := 11) (N := 39) (n := 3) (idx := 272) E (ct_G_X11_dateOf_1 X.2.1) (by rw [hR]; decide) (Nat.zero_le _) (Nat.zero_le _) hG rfl rfl ⟨rfl, by decide, by decide, by decide⟩ (fun _ => ⟨_, _, rfl, rfl⟩) wl_X11_272 wi_X11_dateOf ws_X11_dateOf wn_X11 wc_X11_dateOf) (cok_v (t := 32) (c := 11) (N := 39) (n := 3) (idx := 272) E (ct_G_X11_dateOf_2 X.2.1) (by rw [hR]; decide) (Nat.zero_le _) (Nat.zero_le _) hG rfl rfl ⟨rfl, by decide, by decide, by decide⟩ (fun _ => ⟨_, _, rfl, rfl⟩) wl_X11_272 wi_X11_dateOf ws_X11_dateOf wn_X11 wc_X11_dateOf), fun _ h => absurd h List.not_mem_nil⟩⟩⟩⟩⟩) R sok_no E
  show WP_ X G Q 0 0 ad SHS_ σ 0 [(42, 86), (0, a1), (0, a2), (0, a3), (9, 0)] []
  refine B rfl ?_
  have p1 : BW σ 87 := (hp0).1.1
  refine Exists.intro (a1, a2) (And.intro rfl (And.intro p1 ?_))
  rintro z2 m_ h3
  obtain rfl : σ = m_ := h3.2
  have h4 : (z2 = 1 ∧ 0 ≤ a1 ∧ a1 ≤ 2 ∧ a1 < σ 87 1 ∧ 0 ≤ a2 ∧ a2 ≤ 2 ∧ a2 < σ 87 1 ∧ a1 ≠ a2) ∨ z2 = 0 := h3.1
  refine And.intro (fun h5 => ?_) (fun h5 => ?_)
  · skip
    refine B rfl ?_
    refine Exists.intro _ (And.intro rfl ?_)
    exact (fun k j hk => rfl)
  · skip
    show WP_ X G Q 0 0 ad SHS_ σ 9 [(42, 86), (0, a1), (0, a2), (0, a3), (9, 0)] []
    refine B rfl ?_
    refine Exists.intro a3 (And.intro rfl (And.intro True.intro ?_))
    rintro z6 m_ h7
    obtain rfl : σ = m_ := h7.2
    have h8 : (z6 = 1 ∧ 0 ≤ a3 ∧ a3 ≤ 1999) ∨ z6 = 0 := h7.1
    refine And.intro (fun h9 => ?_) (fun h9 => ?_)
    · skip
      refine B rfl ?_
      refine Exists.intro () (And.intro rfl (And.intro hp0 ?_))
      intro z10 σ12 h11
      have f13 : ∀ k j : Int, ¬ (93 ≤ k ∧ k ≤ 96) → σ12 k j = σ k j := h11.2
      have h14 : LY σ12 := h11.1
      show WP_ X G Q 0 0 ad SHS_ σ12 27 [(42, 86), (0, a1), (0, a2), (0, a3), (0, a3)] []
      refine wdrop_ (L' := [(42, 86), (0, a1), (0, a2), (9, 0), (0, a3)]) ⟨Or.inr rfl, ⟨Or.inr rfl, ⟨Or.inr rfl, ⟨Or.inl rfl, ⟨Or.inr rfl, trivial⟩⟩⟩⟩⟩ ?_
      have lp_27 : ∀ (nq_ : Nat) (v4 : Int), (a3 ≤ v4) → (v4 ≤ 2000) → (2000 - v4 : Int).toNat < nq_ → WP_ X G Q 0 0 ad SHS_ σ12 27 [(42, 86), (0, a1), (0, a2), (9, 0), (0, v4)] [] := by
        intro nq_
        induction nq_ with
        | zero => intros; omega
        | succ nq_ ih_27 =>
          intro v4 hi27_0 hi27_1 hm27
          refine B rfl ?_
          refine And.intro (fun h15 => ?_) (fun h15 => ?_)
          · skip
            refine B rfl ?_
            refine Exists.intro _ (And.intro rfl ?_)
            exact (fun k j hk => (f13 _ _ (by omega)))
          · skip
            show WP_ X G Q 0 0 ad SHS_ σ12 35 [(42, 86), (0, a1), (0, a2), (9, 0), (0, v4)] []
            refine B rfl ?_
            have p16 : BW σ12 87 := BW_fr p1 (fun k j hk => (f13 _ _ (by omega)))
            refine Exists.intro (a1, v4) (And.intro rfl (And.intro (And.intro p16 (And.intro (by show 0 ≤ a1; omega) (by show a1 ≤ 2; omega))) ?_))
            rintro z17 m_ h18
            obtain rfl : σ12 = m_ := h18.2
            have h19 : (z17 = 1 ∧ σ12 87 (6 + 15 * a1 + 0) ≤ v4) ∨ z17 = 0 := h18.1
            try have t20 : σ12 87 (6 + 15 * a1 + 0) = σ 87 (6 + 15 * a1 + 0) := (f13 _ _ (by omega))
            refine And.intro (fun h21 => ?_) (fun h21 => ?_)
            · skip
              refine B rfl ?_
              refine And.intro (by omega) ?_
              exact ih_27 (v4 + 1) (by show a3 ≤ (v4 + 1); omega) (by show (v4 + 1) ≤ 2000; omega) (by omega)
            · skip
              show WP_ X G Q 0 0 ad SHS_ σ12 45 [(42, 86), (0, a1), (0, a2), (9, 0), (0, v4)] []
              refine B rfl ?_
              refine Exists.intro (a2, v4) (And.intro rfl (And.intro (And.intro p16 (And.intro (by show 0 ≤ a2; omega) (by show a2 ≤ 2; omega))) ?_))
              rintro z22 m_ h23
              obtain rfl : σ12 = m_ := h23.2
              have h24 : (z22 = 1 ∧ σ12 87 (6 + 15 * a2 + 0) ≤ v4) ∨ z22 = 0 := h23.1
              try have t25 : σ12 87 (6 + 15 * a2 + 0) = σ 87 (6 + 15 * a2 + 0) := (f13 _ _ (by omega))
              refine And.intro (fun h26 => ?_) (fun h26 => ?_)
              · skip
                refine B rfl ?_
                refine And.intro (by omega) ?_
                exact ih_27 (v4 + 1) (by show a3 ≤ (v4 + 1); omega) (by show (v4 + 1) ≤ 2000; omega) (by omega)
              · skip
                show WP_ X G Q 0 0 ad SHS_ σ12 55 [(42, 86), (0, a1), (0, a2), (9, 0), (0, v4)] []
                refine B rfl ?_
                refine Or.inl ?_
                refine Exists.intro (a1, v4) (And.intro rfl (And.intro (And.intro (by show 0 ≤ a1; omega) (And.intro (by show a1 ≤ 2; omega) (And.intro (by show 0 ≤ v4; omega) (by show v4 ≤ 1999; omega)))) ?_))
                rintro z27 m_ h28
                obtain rfl : σ12 = m_ := h28.2
                have h29 : (-1) ≤ z27 ∧ z27 ≤ 7 := h28.1
                refine Or.inl ?_
                refine Exists.intro (a2, v4) (And.intro rfl (And.intro (And.intro (by show 0 ≤ a2; omega) (And.intro (by show a2 ≤ 2; omega) (And.intro (by show 0 ≤ v4; omega) (by show v4 ≤ 1999; omega)))) ?_))
                rintro z30 m_ h31
                obtain rfl : σ12 = m_ := h31.2
                have h32 : (-1) ≤ z30 ∧ z30 ≤ 7 := h31.1
                refine And.intro (fun h33 => ?_) (fun h33 => ?_)
                · skip
                  refine B rfl ?_
                  refine And.intro (by omega) ?_
                  exact ih_27 (v4 + 1) (by show a3 ≤ (v4 + 1); omega) (by show (v4 + 1) ≤ 2000; omega) (by omega)
                · skip
                  show WP_ X G Q 0 0 ad SHS_ σ12 74 [(42, 86), (0, a1), (0, a2), (9, 0), (0, v4)] []
                  refine B rfl ?_
                  refine Or.inr ?_
                  refine Exists.intro (a1, v4) (And.intro rfl (And.intro (And.intro (by show 0 ≤ a1; omega) (And.intro (by show a1 ≤ 2; omega) (And.intro (by show 0 ≤ v4; omega) (by show v4 ≤ 1999; omega)))) ?_))
                  rintro z34 m_ h35
                  obtain rfl : σ12 = m_ := h35.2
                  have h36 : (-1) ≤ z34 ∧ z34 ≤ 68 := h35.1
                  refine Or.inr ?_
                  refine Exists.intro (a2, v4) (And.intro rfl (And.intro (And.intro (by show 0 ≤ a2; omega) (And.intro (by show a2 ≤ 2; omega) (And.intro (by show 0 ≤ v4; omega) (by show v4 ≤ 1999; omega)))) ?_))
                  rintro z37 m_ h38
                  obtain rfl : σ12 = m_ := h38.2
                  have h39 : (-1) ≤ z37 ∧ z37 ≤ 68 := h38.1
                  refine And.intro (fun h40 => ?_) (fun h40 => ?_)
                  · skip
                    refine B rfl ?_
                    refine And.intro (by omega) ?_
                    exact ih_27 (v4 + 1) (by show a3 ≤ (v4 + 1); omega) (by show (v4 + 1) ≤ 2000; omega) (by omega)
                  · skip
                    show WP_ X G Q 0 0 ad SHS_ σ12 93 [(42, 86), (0, a1), (0, a2), (9, 0), (0, v4)] []
                    refine B rfl ?_
                    refine Exists.intro _ (And.intro rfl ?_)
                    exact (fun k j hk => (f13 _ _ (by omega)))
      exact lp_27 ((2000 - a3 : Int).toNat + 1) a3 (by show a3 ≤ a3; omega) (by show a3 ≤ 2000; omega) (by omega)
    · skip
      show WP_ X G Q 0 0 ad SHS_ σ 17 [(42, 86), (0, a1), (0, a2), (0, a3), (9, 0)] []
      refine B rfl ?_
      refine Exists.intro _ (And.intro rfl ?_)
      exact (fun k j hk => rfl)
def as_G_X11_years : Int → List Sv_t := fun a => [(42, 86), (0, a)]
def pre_G_X11_years : Int → Me_t → Prop := fun a σ => (MI σ)
def post_G_X11_years : Int → Me_t → Int → Me_t → Prop := fun a σ z σ' => (∀ k j : Int, ¬ (93 ≤ k ∧ k ≤ 96) → σ' k j = σ k j)
set_option maxHeartbeats 1500000 in
set_option maxRecDepth 100000 in
theorem ct_G_X11_years (l : Launch) : CT_ l yX11_years cX11_years 4 (some .int) 4 92 as_G_X11_years (rmI_) pre_G_X11_years post_G_X11_years := by
  refine ct_of (by decide) (fun _ => Nat.le_of_ble_eq_true rfl) ?_
  intro X G Q ad σ a hl hR E hG R hM hv hp
  obtain ⟨a1, rfl⟩ : ∃ q : Int, q = a := ⟨_, rfl⟩
  have r_a1 : -2147483648 ≤ a1 ∧ a1 ≤ 2147483647 := hv (0, a1) (List.mem_of_getElem? (i := 1) rfl)
  have hp0 : MI σ := hp
  have B := @bk_ X G Q 0 0 ad SHS_ RX11 cX11_years 4 (some .int) flX11 plX11 knX11 [(184, 1, TR_ as_G_X11_isWar (rmI_) pre_G_X11_isWar post_G_X11_isWar), (179, 1, TR_ as_G_X11_isDay (rmI_) pre_G_X11_isDay post_G_X11_isDay), (538, 1, TR_ as_G_X11_lay (rmV_) pre_G_X11_lay post_G_X11_lay), (544, 4, TOR_ (TR_ as_G_X11_dateOf_1 (rmI_) pre_G_X11_dateOf_1 post_G_X11_dateOf_1) (TR_ as_G_X11_dateOf_2 (rmI_) pre_G_X11_dateOf_2 post_G_X11_dateOf_2))] _ _ none kX11_years [7, 15, 26, 36, 47, 57] flX11_ok plX11_ok knX11_ok eX11_years oX11_years
    (List.forall_mem_cons.mpr ⟨cok_v (t := 32) (c := 11) (N := 39) (n := 0) (idx := 92) E (ct_G_X11_isWar X.2.1) (by rw [hR]; decide) (Nat.zero_le _) (Nat.zero_le _) hG rfl rfl ⟨rfl, by decide, by decide, by decide⟩ (fun _ => ⟨_, _, rfl, rfl⟩) wl_X11_92 wi_X11_isWar ws_X11_isWar wn_X11 wc_X11_isWar, List.forall_mem_cons.mpr ⟨cok_s (n := 1) (idx := 89) E (ct_G_X11_isDay X.2.1) (by rw [hR]; decide) (Nat.zero_le _) (Nat.zero_le _) hG ⟨by decide, by decide, by decide⟩ (fun _ => rfl) wl_X11_89 wt_X11_isDay wn_X11 wc_X11_isDay, List.forall_mem_cons.mpr ⟨cok_v (t := 32) (c := 11) (N := 39) (n := 0) (idx := 269) E (ct_G_X11_lay X.2.1) (by rw [hR]; decide) (Nat.zero_le _) (Nat.zero_le _) hG rfl rfl ⟨rfl, by decide, by decide, by decide⟩ (fun _ => ⟨_, _, rfl, rfl⟩) wl_X11_269 wi_X11_lay ws_X11_lay wn_X11 wc_X11_lay, List.forall_mem_cons.mpr ⟨cok_or (cok_v (t := 32) (c := 11) (N := 39) (n := 3) (idx := 272) E (ct_G_X11_dateOf_1 X.2.1) (by rw [hR]; decide) (Nat.zero_le _) (Nat.zero_le _) hG rfl rfl ⟨rfl, by decide, by decide, by decide⟩ (fun _ => ⟨_, _, rfl, rfl⟩) wl_X11_272 wi_X11_dateOf ws_X11_dateOf wn_X11 wc_X11_dateOf) (cok_v (t := 32) (c := 11) (N := 39) (n := 3) (idx := 272) E (ct_G_X11_dateOf_2 X.2.1) (by rw [hR]; decide) (Nat.zero_le _) (Nat.zero_le _) hG rfl rfl ⟨rfl, by decide, by decide, by decide⟩ (fun _ => ⟨_, _, rfl, rfl⟩) wl_X11_272 wi_X11_dateOf ws_X11_dateOf wn_X11 wc_X11_dateOf), fun _ h => absurd h List.not_mem_nil⟩⟩⟩⟩) R sok_no E
  show WP_ X G Q 0 0 ad SHS_ σ 0 [(42, 86), (0, a1), (9, 0), (9, 0)] []
  refine B rfl ?_
  refine Exists.intro () (And.intro rfl (And.intro True.intro ?_))
  rintro z1 m_ h2
  obtain rfl : σ = m_ := h2.2
  have h3 : 0 ≤ z1 ∧ z1 ≤ 1 := h2.1
  refine And.intro (fun h4 => ?_) (fun h4 => ?_)
  · skip
    refine B rfl ?_
    refine Exists.intro _ (And.intro rfl ?_)
    exact (fun k j hk => rfl)
  · skip
    show WP_ X G Q 0 0 ad SHS_ σ 7 [(42, 86), (0, a1), (9, 0), (9, 0)] []
    refine B rfl ?_
    refine Exists.intro a1 (And.intro rfl (And.intro True.intro ?_))
    rintro z5 m_ h6
    obtain rfl : σ = m_ := h6.2
    have h7 : (z5 = 1 ∧ 0 ≤ a1 ∧ a1 ≤ 1999) ∨ z5 = 0 := h6.1
    refine And.intro (fun h8 => ?_) (fun h8 => ?_)
    · skip
      refine B rfl ?_
      refine Exists.intro () (And.intro rfl (And.intro hp0 ?_))
      intro z9 σ11 h10
      have f12 : ∀ k j : Int, ¬ (93 ≤ k ∧ k ≤ 96) → σ11 k j = σ k j := h10.2
      have h13 : LY σ11 := h10.1
      have lp_26 : ∀ (nq_ : Nat) (v2 : Int) (v3 : Int), (0 ≤ v3) → (v3 ≤ 3) → (3 - v3 : Int).toNat < nq_ → WP_ X G Q 0 0 ad SHS_ σ11 26 [(42, 86), (0, a1), (0, v2), (0, v3)] [] := by
        intro nq_
        induction nq_ with
        | zero => intros; omega
        | succ nq_ ih_26 =>
          intro v2 v3 hi26_0 hi26_1 hm26
          refine B rfl ?_
          refine And.intro (by omega) ?_
          intro z14 ez14 hz14
          have hz14 : ((-1) : Int) ≤ z14 ∧ z14 ≤ (1999 : Int) := hz14
          try have t15 : σ11 87 1 = σ 87 1 := (f12 _ _ (by omega))
          have p16 : MI σ11 := MI_fr hp0 (fun k j hk => (f12 _ _ (by omega)))
          have p17 : BW σ11 87 := (p16).1.1
          have b18 := wrh_ p17 (i := 1) (by omega)
          have b18 : (0 : Int) ≤ σ11 87 1 ∧ σ11 87 1 ≤ (3 : Int) := b18
          refine And.intro (fun h19 => ?_) (fun h19 => ?_)
          · skip
            refine B rfl ?_
            refine Exists.intro _ (And.intro rfl ?_)
            exact (fun k j hk => (f12 _ _ (by omega)))
          · skip
            show WP_ X G Q 0 0 ad SHS_ σ11 36 [(42, 86), (0, a1), (0, v2), (0, v3)] []
            refine B rfl ?_
            refine Or.inl ?_
            refine Exists.intro (v3, a1) (And.intro rfl (And.intro (And.intro (by show 0 ≤ v3; omega) (And.intro (by show v3 ≤ 2; omega) (And.intro (by show 0 ≤ a1; omega) (by show a1 ≤ 1999; omega)))) ?_))
            rintro z20 m_ h21
            obtain rfl : σ11 = m_ := h21.2
            have h22 : (-1) ≤ z20 ∧ z20 ≤ 7 := h21.1
            refine And.intro (fun h23 => ?_) (fun h23 => ?_)
            · skip
              refine B rfl ?_
              refine And.intro (by omega) ?_
              exact ih_26 (or3_ v2 0) (v3 + 1) (by show 0 ≤ (v3 + 1); omega) (by show (v3 + 1) ≤ 3; omega) (by omega)
            · skip
              show WP_ X G Q 0 0 ad SHS_ σ11 47 [(42, 86), (0, a1), (0, v2), (0, v3)] [(0, v2)]
              refine B rfl ?_
              refine Or.inr ?_
              refine Exists.intro (v3, a1) (And.intro rfl (And.intro (And.intro (by show 0 ≤ v3; omega) (And.intro (by show v3 ≤ 2; omega) (And.intro (by show 0 ≤ a1; omega) (by show a1 ≤ 1999; omega)))) ?_))
              rintro z24 m_ h25
              obtain rfl : σ11 = m_ := h25.2
              have h26 : (-1) ≤ z24 ∧ z24 ≤ 68 := h25.1
              refine And.intro (fun h27 => ?_) (fun h27 => ?_)
              · skip
                refine B rfl ?_
                refine And.intro (by omega) ?_
                exact ih_26 (or3_ v2 0) (v3 + 1) (by show 0 ≤ (v3 + 1); omega) (by show (v3 + 1) ≤ 3; omega) (by omega)
              · skip
                show WP_ X G Q 0 0 ad SHS_ σ11 57 [(42, 86), (0, a1), (0, v2), (0, v3)] [(0, v2)]
                refine B rfl ?_
                try have q28 := shl3_1 (b := v3) (by omega) (by omega)
                try have q29 := shl3_b (b := v3) (by omega) (by omega)
                refine B rfl ?_
                refine And.intro (by omega) ?_
                exact ih_26 (or3_ v2 (shl3_ 1 v3)) (v3 + 1) (by show 0 ≤ (v3 + 1); omega) (by show (v3 + 1) ≤ 3; omega) (by omega)
      exact lp_26 ((3 - 0 : Int).toNat + 1) 0 0 (by show 0 ≤ 0; omega) (by show 0 ≤ 3; omega) (by omega)
    · skip
      show WP_ X G Q 0 0 ad SHS_ σ 15 [(42, 86), (0, a1), (9, 0), (9, 0)] []
      refine B rfl ?_
      refine Exists.intro _ (And.intro rfl ?_)
      exact (fun k j hk => rfl)
def as_G_X11_comes : Int × Int → List Sv_t := fun a => [(42, 86), (0, a.1), (0, a.2)]
def pre_G_X11_comes : Int × Int → Me_t → Prop := fun a σ => (MI σ)
def post_G_X11_comes : Int × Int → Me_t → Int → Me_t → Prop := fun a σ z σ' => (∀ k j : Int, ¬ (93 ≤ k ∧ k ≤ 96) → σ' k j = σ k j)
set_option maxHeartbeats 1500000 in
set_option maxRecDepth 100000 in
theorem ct_G_X11_comes (l : Launch) : CT_ l yX11_comes cX11_comes 4 (some .int) 4 92 as_G_X11_comes (rmI_) pre_G_X11_comes post_G_X11_comes := by
  refine ct_of (by decide) (fun _ => Nat.le_of_ble_eq_true rfl) ?_
  intro X G Q ad σ a hl hR E hG R hM hv hp
  obtain ⟨a1, a2⟩ := a
  have r_a1 : -2147483648 ≤ a1 ∧ a1 ≤ 2147483647 := hv (0, a1) (List.mem_of_getElem? (i := 1) rfl)
  have r_a2 : -2147483648 ≤ a2 ∧ a2 ≤ 2147483647 := hv (0, a2) (List.mem_of_getElem? (i := 2) rfl)
  have hp0 : MI σ := hp
  have B := @bk_ X G Q 0 0 ad SHS_ RX11 cX11_comes 4 (some .int) flX11 plX11 knX11 [(166, 2, TR_ as_G_X11_isLand (rmI_) pre_G_X11_isLand post_G_X11_isLand), (179, 1, TR_ as_G_X11_isDay (rmI_) pre_G_X11_isDay post_G_X11_isDay), (538, 1, TR_ as_G_X11_lay (rmV_) pre_G_X11_lay post_G_X11_lay), (648, 3, TR_ as_G_X11_isCounted (rmI_) pre_G_X11_isCounted post_G_X11_isCounted), (544, 4, TOR_ (TR_ as_G_X11_dateOf_1 (rmI_) pre_G_X11_dateOf_1 post_G_X11_dateOf_1) (TR_ as_G_X11_dateOf_2 (rmI_) pre_G_X11_dateOf_2 post_G_X11_dateOf_2)), (472, 3, TR_ as_G_X11_weekday (rmI_) pre_G_X11_weekday post_G_X11_weekday)] _ _ none kX11_comes [9, 17, 28, 35, 44, 61, 78, 93] flX11_ok plX11_ok knX11_ok eX11_comes oX11_comes
    (List.forall_mem_cons.mpr ⟨cok_v (t := 32) (c := 11) (N := 39) (n := 1) (idx := 83) E (ct_G_X11_isLand X.2.1) (by rw [hR]; decide) (Nat.zero_le _) (Nat.zero_le _) hG rfl rfl ⟨rfl, by decide, by decide, by decide⟩ (fun _ => ⟨_, _, rfl, rfl⟩) wl_X11_83 wi_X11_isLand ws_X11_isLand wn_X11 wc_X11_isLand, List.forall_mem_cons.mpr ⟨cok_s (n := 1) (idx := 89) E (ct_G_X11_isDay X.2.1) (by rw [hR]; decide) (Nat.zero_le _) (Nat.zero_le _) hG ⟨by decide, by decide, by decide⟩ (fun _ => rfl) wl_X11_89 wt_X11_isDay wn_X11 wc_X11_isDay, List.forall_mem_cons.mpr ⟨cok_v (t := 32) (c := 11) (N := 39) (n := 0) (idx := 269) E (ct_G_X11_lay X.2.1) (by rw [hR]; decide) (Nat.zero_le _) (Nat.zero_le _) hG rfl rfl ⟨rfl, by decide, by decide, by decide⟩ (fun _ => ⟨_, _, rfl, rfl⟩) wl_X11_269 wi_X11_lay ws_X11_lay wn_X11 wc_X11_lay, List.forall_mem_cons.mpr ⟨cok_v (t := 32) (c := 11) (N := 39) (n := 2) (idx := 324) E (ct_G_X11_isCounted X.2.1) (by rw [hR]; decide) (Nat.zero_le _) (Nat.zero_le _) hG rfl rfl ⟨rfl, by decide, by decide, by decide⟩ (fun _ => ⟨_, _, rfl, rfl⟩) wl_X11_324 wi_X11_isCounted ws_X11_isCounted wn_X11 wc_X11_isCounted, List.forall_mem_cons.mpr ⟨cok_or (cok_v (t := 32) (c := 11) (N := 39) (n := 3) (idx := 272) E (ct_G_X11_dateOf_1 X.2.1) (by rw [hR]; decide) (Nat.zero_le _) (Nat.zero_le _) hG rfl rfl ⟨rfl, by decide, by decide, by decide⟩ (fun _ => ⟨_, _, rfl, rfl⟩) wl_X11_272 wi_X11_dateOf ws_X11_dateOf wn_X11 wc_X11_dateOf) (cok_v (t := 32) (c := 11) (N := 39) (n := 3) (idx := 272) E (ct_G_X11_dateOf_2 X.2.1) (by rw [hR]; decide) (Nat.zero_le _) (Nat.zero_le _) hG rfl rfl ⟨rfl, by decide, by decide, by decide⟩ (fun _ => ⟨_, _, rfl, rfl⟩) wl_X11_272 wi_X11_dateOf ws_X11_dateOf wn_X11 wc_X11_dateOf), List.forall_mem_cons.mpr ⟨cok_v (t := 32) (c := 11) (N := 39) (n := 2) (idx := 236) E (ct_G_X11_weekday X.2.1) (by rw [hR]; decide) (Nat.zero_le _) (Nat.zero_le _) hG rfl rfl ⟨rfl, by decide, by decide, by decide⟩ (fun _ => ⟨_, _, rfl, rfl⟩) wl_X11_236 wi_X11_weekday ws_X11_weekday wn_X11 wc_X11_weekday, fun _ h => absurd h List.not_mem_nil⟩⟩⟩⟩⟩⟩) R sok_no E
  show WP_ X G Q 0 0 ad SHS_ σ 0 [(42, 86), (0, a1), (0, a2), (9, 0)] []
  refine B rfl ?_
  have p1 : BW σ 87 := (hp0).1.1
  refine Exists.intro a1 (And.intro rfl (And.intro p1 ?_))
  rintro z2 m_ h3
  obtain rfl : σ = m_ := h3.2
  have h4 : (z2 = 1 ∧ 0 ≤ a1 ∧ a1 ≤ 2 ∧ a1 < σ 87 1) ∨ z2 = 0 := h3.1
  refine And.intro (fun h5 => ?_) (fun h5 => ?_)
  · skip
    refine B rfl ?_
    refine Exists.intro _ (And.intro rfl ?_)
    exact (fun k j hk => rfl)
  · skip
    show WP_ X G Q 0 0 ad SHS_ σ 9 [(42, 86), (0, a1), (0, a2), (9, 0)] []
    refine B rfl ?_
    refine Exists.intro a2 (And.intro rfl (And.intro True.intro ?_))
    rintro z6 m_ h7
    obtain rfl : σ = m_ := h7.2
    have h8 : (z6 = 1 ∧ 0 ≤ a2 ∧ a2 ≤ 1999) ∨ z6 = 0 := h7.1
    refine And.intro (fun h9 => ?_) (fun h9 => ?_)
    · skip
      refine B rfl ?_
      refine Exists.intro () (And.intro rfl (And.intro hp0 ?_))
      intro z10 σ12 h11
      have f13 : ∀ k j : Int, ¬ (93 ≤ k ∧ k ≤ 96) → σ12 k j = σ k j := h11.2
      have h14 : LY σ12 := h11.1
      refine And.intro (by omega) ?_
      have lp_28 : ∀ (nq_ : Nat) (v3 : Int), (a2 + 1 ≤ v3) → (v3 ≤ 2000) → (2000 - v3 : Int).toNat < nq_ → WP_ X G Q 0 0 ad SHS_ σ12 28 [(42, 86), (0, a1), (0, a2), (0, v3)] [] := by
        intro nq_
        induction nq_ with
        | zero => intros; omega
        | succ nq_ ih_28 =>
          intro v3 hi28_0 hi28_1 hm28
          refine B rfl ?_
          refine And.intro (fun h15 => ?_) (fun h15 => ?_)
          · skip
            refine B rfl ?_
            refine Exists.intro _ (And.intro rfl ?_)
            exact (fun k j hk => (f13 _ _ (by omega)))
          · skip
            show WP_ X G Q 0 0 ad SHS_ σ12 35 [(42, 86), (0, a1), (0, a2), (0, v3)] []
            refine B rfl ?_
            have p16 : BW σ12 87 := BW_fr p1 (fun k j hk => (f13 _ _ (by omega)))
            refine Exists.intro (a1, a2) (And.intro rfl (And.intro (And.intro p16 (And.intro (by show 0 ≤ a1; omega) (by show a1 ≤ 2; omega))) ?_))
            rintro z17 m_ h18
            obtain rfl : σ12 = m_ := h18.2
            have h19 : (z17 = 1 ∧ σ12 87 (6 + 15 * a1 + 0) ≤ a2) ∨ z17 = 0 := h18.1
            try have t20 : σ12 87 (6 + 15 * a1 + 0) = σ 87 (6 + 15 * a1 + 0) := (f13 _ _ (by omega))
            refine And.intro (fun h21 => ?_) (fun h21 => ?_)
            · skip
              refine B rfl ?_
              refine Exists.intro _ (And.intro rfl ?_)
              exact (fun k j hk => (f13 _ _ (by omega)))
            · skip
              show WP_ X G Q 0 0 ad SHS_ σ12 44 [(42, 86), (0, a1), (0, a2), (0, v3)] []
              refine B rfl ?_
              refine Or.inl ?_
              refine Exists.intro (a1, v3) (And.intro rfl (And.intro (And.intro (by show 0 ≤ a1; omega) (And.intro (by show a1 ≤ 2; omega) (And.intro (by show 0 ≤ v3; omega) (by show v3 ≤ 1999; omega)))) ?_))
              rintro z22 m_ h23
              obtain rfl : σ12 = m_ := h23.2
              have h24 : (-1) ≤ z22 ∧ z22 ≤ 7 := h23.1
              refine Or.inl ?_
              refine Exists.intro (a1, a2) (And.intro rfl (And.intro (And.intro (by show 0 ≤ a1; omega) (And.intro (by show a1 ≤ 2; omega) (And.intro (by show 0 ≤ a2; omega) (by show a2 ≤ 1999; omega)))) ?_))
              rintro z25 m_ h26
              obtain rfl : σ12 = m_ := h26.2
              have h27 : (-1) ≤ z25 ∧ z25 ≤ 7 := h26.1
              refine And.intro (fun h28 => ?_) (fun h28 => ?_)
              · skip
                refine B rfl ?_
                refine And.intro (by omega) ?_
                exact ih_28 (v3 + 1) (by show a2 + 1 ≤ (v3 + 1); omega) (by show (v3 + 1) ≤ 2000; omega) (by omega)
              · skip
                show WP_ X G Q 0 0 ad SHS_ σ12 61 [(42, 86), (0, a1), (0, a2), (0, v3)] []
                refine B rfl ?_
                refine Or.inr ?_
                refine Exists.intro (a1, v3) (And.intro rfl (And.intro (And.intro (by show 0 ≤ a1; omega) (And.intro (by show a1 ≤ 2; omega) (And.intro (by show 0 ≤ v3; omega) (by show v3 ≤ 1999; omega)))) ?_))
                rintro z29 m_ h30
                obtain rfl : σ12 = m_ := h30.2
                have h31 : (-1) ≤ z29 ∧ z29 ≤ 68 := h30.1
                refine Or.inr ?_
                refine Exists.intro (a1, a2) (And.intro rfl (And.intro (And.intro (by show 0 ≤ a1; omega) (And.intro (by show a1 ≤ 2; omega) (And.intro (by show 0 ≤ a2; omega) (by show a2 ≤ 1999; omega)))) ?_))
                rintro z32 m_ h33
                obtain rfl : σ12 = m_ := h33.2
                have h34 : (-1) ≤ z32 ∧ z32 ≤ 68 := h33.1
                refine And.intro (fun h35 => ?_) (fun h35 => ?_)
                · skip
                  refine B rfl ?_
                  refine And.intro (by omega) ?_
                  exact ih_28 (v3 + 1) (by show a2 + 1 ≤ (v3 + 1); omega) (by show (v3 + 1) ≤ 2000; omega) (by omega)
                · skip
                  show WP_ X G Q 0 0 ad SHS_ σ12 78 [(42, 86), (0, a1), (0, a2), (0, v3)] []
                  refine B rfl ?_
                  have p36 : MI σ12 := MI_fr hp0 (fun k j hk => (f13 _ _ (by omega)))
                  have p37 : SW σ12 87 := (p36).1.2.1
                  try have t38 : σ12 87 (6 + 15 * a1 + 1) = σ 87 (6 + 15 * a1 + 1) := (f13 _ _ (by omega))
                  try have t39 : σ12 87 (6 + 15 * a1 + 3) = σ 87 (6 + 15 * a1 + 3) := (f13 _ _ (by omega))
                  try have t40 : σ12 87 1 = σ 87 1 := (f13 _ _ (by omega))
                  have w41 := p37 a1 (by omega) (by omega) (by omega)
                  refine Exists.intro (a1, v3) (And.intro rfl (And.intro (And.intro p16 (And.intro (by show 0 ≤ a1; omega) (And.intro (by show a1 ≤ 2; omega) (And.intro (by show 1 ≤ σ12 87 (6 + 15 * a1 + 1); omega) (And.intro (by show 0 ≤ v3; omega) (by show v3 ≤ 10000; omega)))))) ?_))
                  rintro z42 m_ h43
                  obtain rfl : σ12 = m_ := h43.2
                  have h44 : -1 ≤ z42 ∧ z42 ≤ 9 := h43.1
                  have w45 := p37 a1 (by omega) (by omega) (by omega)
                  refine Exists.intro (a1, a2) (And.intro rfl (And.intro (And.intro p16 (And.intro (by show 0 ≤ a1; omega) (And.intro (by show a1 ≤ 2; omega) (And.intro (by show 1 ≤ σ12 87 (6 + 15 * a1 + 1); omega) (And.intro (by show 0 ≤ a2; omega) (by show a2 ≤ 10000; omega)))))) ?_))
                  rintro z46 m_ h47
                  obtain rfl : σ12 = m_ := h47.2
                  have h48 : -1 ≤ z46 ∧ z46 ≤ 9 := h47.1
                  refine And.intro (fun h49 => ?_) (fun h49 => ?_)
                  · skip
                    refine B rfl ?_
                    refine And.intro (by omega) ?_
                    exact ih_28 (v3 + 1) (by show a2 + 1 ≤ (v3 + 1); omega) (by show (v3 + 1) ≤ 2000; omega) (by omega)
                  · skip
                    show WP_ X G Q 0 0 ad SHS_ σ12 93 [(42, 86), (0, a1), (0, a2), (0, v3)] []
                    refine B rfl ?_
                    refine Exists.intro _ (And.intro rfl ?_)
                    exact (fun k j hk => (f13 _ _ (by omega)))
      exact lp_28 ((2000 - (a2 + 1) : Int).toNat + 1) (a2 + 1) (by show a2 + 1 ≤ (a2 + 1); omega) (by show (a2 + 1) ≤ 2000; omega) (by omega)
    · skip
      show WP_ X G Q 0 0 ad SHS_ σ 17 [(42, 86), (0, a1), (0, a2), (9, 0)] []
      refine B rfl ?_
      refine Exists.intro _ (And.intro rfl ?_)
      exact (fun k j hk => rfl)
def as_G_X11_asksOrders : Int → List Sv_t := fun a => [(42, 86), (0, a)]
def pre_G_X11_asksOrders : Int → Me_t → Prop := fun a σ => (MI σ)
def post_G_X11_asksOrders : Int → Me_t → Int → Me_t → Prop := fun a σ z σ' => (z < 0 ∨ (0 ≤ a ∧ a ≤ 3 ∧ 0 ≤ σ 102 a ∧ σ 102 a ≤ 60 ∧ OD σ a)) ∧ (σ = σ')
set_option maxHeartbeats 1500000 in
set_option maxRecDepth 100000 in
theorem ct_G_X11_asksOrders (l : Launch) : CT_ l yX11_asksOrders cX11_asksOrders 3 (some .int) 5 117 as_G_X11_asksOrders (rmI_) pre_G_X11_asksOrders post_G_X11_asksOrders := by
  refine ct_of (by decide) (fun _ => Nat.le_of_ble_eq_true rfl) ?_
  intro X G Q ad σ a hl hR E hG R hM hv hp
  obtain ⟨a1, rfl⟩ : ∃ q : Int, q = a := ⟨_, rfl⟩
  have r_a1 : -2147483648 ≤ a1 ∧ a1 ≤ 2147483647 := hv (0, a1) (List.mem_of_getElem? (i := 1) rfl)
  have hp0 : MI σ := hp
  have B := @bk_ X G Q 0 0 ad SHS_ RX11 cX11_asksOrders 3 (some .int) flX11 plX11 knX11 [(723, 1, TR_ as_G_X11_isSlot (rmI_) pre_G_X11_isSlot post_G_X11_isSlot), (184, 1, TR_ as_G_X11_isWar (rmI_) pre_G_X11_isWar post_G_X11_isWar), (708, 3, TR_ as_G_X11_numberAt (rmL_) pre_G_X11_numberAt post_G_X11_numberAt), (166, 2, TR_ as_G_X11_isLand (rmI_) pre_G_X11_isLand post_G_X11_isLand), (716, 3, TR_ as_G_X11_intAt (rmI_) pre_G_X11_intAt post_G_X11_intAt), (556, 5, TR_ as_G_X11_isDate (rmI_) pre_G_X11_isDate post_G_X11_isDate), (728, 3, TR_ as_G_X11_dayAt (rmI_) pre_G_X11_dayAt post_G_X11_dayAt)] _ _ none kX11_asksOrders [7, 14, 27, 41, 46, 56, 69, 106, 123] flX11_ok plX11_ok knX11_ok eX11_asksOrders oX11_asksOrders
    (List.forall_mem_cons.mpr ⟨cok_s (n := 1) (idx := 361) E (ct_G_X11_isSlot X.2.1) (by rw [hR]; decide) (Nat.zero_le _) (Nat.zero_le _) hG ⟨by decide, by decide, by decide⟩ (fun _ => rfl) wl_X11_361 wt_X11_isSlot wn_X11 wc_X11_isSlot, List.forall_mem_cons.mpr ⟨cok_v (t := 32) (c := 11) (N := 39) (n := 0) (idx := 92) E (ct_G_X11_isWar X.2.1) (by rw [hR]; decide) (Nat.zero_le _) (Nat.zero_le _) hG rfl rfl ⟨rfl, by decide, by decide, by decide⟩ (fun _ => ⟨_, _, rfl, rfl⟩) wl_X11_92 wi_X11_isWar ws_X11_isWar wn_X11 wc_X11_isWar, List.forall_mem_cons.mpr ⟨cok_v (t := 32) (c := 11) (N := 39) (n := 2) (idx := 354) E (ct_G_X11_numberAt X.2.1) (by rw [hR]; decide) (Nat.zero_le _) (Nat.zero_le _) hG rfl rfl ⟨rfl, by decide, by decide, by decide⟩ (fun _ => ⟨_, _, rfl, rfl⟩) wl_X11_354 wi_X11_numberAt ws_X11_numberAt wn_X11 wc_X11_numberAt, List.forall_mem_cons.mpr ⟨cok_v (t := 32) (c := 11) (N := 39) (n := 1) (idx := 83) E (ct_G_X11_isLand X.2.1) (by rw [hR]; decide) (Nat.zero_le _) (Nat.zero_le _) hG rfl rfl ⟨rfl, by decide, by decide, by decide⟩ (fun _ => ⟨_, _, rfl, rfl⟩) wl_X11_83 wi_X11_isLand ws_X11_isLand wn_X11 wc_X11_isLand, List.forall_mem_cons.mpr ⟨cok_v (t := 32) (c := 11) (N := 39) (n := 2) (idx := 358) E (ct_G_X11_intAt X.2.1) (by rw [hR]; decide) (Nat.zero_le _) (Nat.zero_le _) hG rfl rfl ⟨rfl, by decide, by decide, by decide⟩ (fun _ => ⟨_, _, rfl, rfl⟩) wl_X11_358 wi_X11_intAt ws_X11_intAt wn_X11 wc_X11_intAt, List.forall_mem_cons.mpr ⟨cok_v (t := 32) (c := 11) (N := 39) (n := 4) (idx := 278) E (ct_G_X11_isDate X.2.1) (by rw [hR]; decide) (Nat.zero_le _) (Nat.zero_le _) hG rfl rfl ⟨rfl, by decide, by decide, by decide⟩ (fun _ => ⟨_, _, rfl, rfl⟩) wl_X11_278 wi_X11_isDate ws_X11_isDate wn_X11 wc_X11_isDate, List.forall_mem_cons.mpr ⟨cok_v (t := 32) (c := 11) (N := 39) (n := 2) (idx := 364) E (ct_G_X11_dayAt X.2.1) (by rw [hR]; decide) (Nat.zero_le _) (Nat.zero_le _) hG rfl rfl ⟨rfl, by decide, by decide, by decide⟩ (fun _ => ⟨_, _, rfl, rfl⟩) wl_X11_364 wi_X11_dayAt ws_X11_dayAt wn_X11 wc_X11_dayAt, fun _ h => absurd h List.not_mem_nil⟩⟩⟩⟩⟩⟩⟩) R sok_no E
  show WP_ X G Q 0 0 ad SHS_ σ 0 [(42, 86), (0, a1), (9, 0)] []
  refine B rfl ?_
  refine Exists.intro a1 (And.intro rfl (And.intro True.intro ?_))
  rintro z1 m_ h2
  obtain rfl : σ = m_ := h2.2
  have h3 : (z1 = 1 ∧ 0 ≤ a1 ∧ a1 ≤ 3) ∨ (z1 = 0 ∧ ¬ (0 ≤ a1 ∧ a1 ≤ 3)) := h2.1
  refine And.intro (fun h4 => ?_) (fun h4 => ?_)
  · skip
    refine B rfl ?_
    refine Exists.intro _ (And.intro rfl ?_)
    exact (And.intro (by show (-2) < 0 ∨ (0 ≤ a1 ∧ a1 ≤ 3 ∧ 0 ≤ σ 102 a1 ∧ σ 102 a1 ≤ 60 ∧ OD σ a1); exact Or.inl (by omega)) rfl)
  · skip
    show WP_ X G Q 0 0 ad SHS_ σ 7 [(42, 86), (0, a1), (9, 0)] []
    refine B rfl ?_
    refine Exists.intro () (And.intro rfl (And.intro True.intro ?_))
    rintro z5 m_ h6
    obtain rfl : σ = m_ := h6.2
    have h7 : 0 ≤ z5 ∧ z5 ≤ 1 := h6.1
    refine And.intro (fun h8 => ?_) (fun h8 => ?_)
    · skip
      refine B rfl ?_
      refine And.intro (by omega) ?_
      intro z9 ez9 hz9
      have hz9 : ((-1) : Int) ≤ z9 ∧ z9 ≤ (60 : Int) := hz9
      refine And.intro (fun h10 => ?_) (fun h10 => ?_)
      · skip
        refine B rfl ?_
        refine And.intro (by omega) ?_
        intro z11 ez11 hz11
        have q12 : z9 = z11 := ez9.trans ez11.symm
        subst q12
        have q13 : Int.tmod z9 4 = z9 % 4 := Int.tmod_eq_emod_of_nonneg (by omega)
        refine And.intro (by omega) ?_
        refine And.intro (fun h14 => ?_) (fun h14 => ?_)
        · skip
          refine B rfl ?_
          have lp_46 : ∀ (nq_ : Nat) (v2 : Int), (0 ≤ v2) → (v2 ≤ 60) → (v2 % 4 = 0) → (∀ j : Int, 0 ≤ j → 4 * j < v2 → ODe σ a1 j) → (60 - v2 : Int).toNat < nq_ → WP_ X G Q 0 0 ad SHS_ σ 46 [(42, 86), (0, a1), (0, v2)] [] := by
            intro nq_
            induction nq_ with
            | zero => intros; omega
            | succ nq_ ih_46 =>
              intro v2 hi46_0 hi46_1 hi46_2 hi46_3 hm46
              refine B rfl ?_
              refine And.intro (by omega) ?_
              intro z15 ez15 hz15
              have q16 : z9 = z15 := ez9.trans ez15.symm
              subst q16
              refine And.intro (fun h17 => ?_) (fun h17 => ?_)
              · skip
                refine B rfl ?_
                refine Exists.intro _ (And.intro rfl ?_)
                exact (And.intro (by show 0 < 0 ∨ (0 ≤ a1 ∧ a1 ≤ 3 ∧ 0 ≤ σ 102 a1 ∧ σ 102 a1 ≤ 60 ∧ OD σ a1); exact Or.inr ⟨by omega, by omega, by omega, by omega, fun j h1 h2 => hi46_3 j h1 (by omega)⟩) rfl)
              · skip
                show WP_ X G Q 0 0 ad SHS_ σ 56 [(42, 86), (0, a1), (0, v2)] []
                refine B rfl ?_
                refine Exists.intro (a1, v2) (And.intro rfl (And.intro (And.intro (by show 0 ≤ a1; omega) (And.intro (by show a1 ≤ 3; omega) (And.intro (by show 0 ≤ v2; omega) (by show v2 ≤ 59; omega)))) ?_))
                rintro z18 m_ h19
                obtain rfl : σ = m_ := h19.2
                have h20 : z18 = σ 104 (60 * a1 + v2) := h19.1
                have q21 : z18 = σ 104 (60 * a1 + v2) := by omega
                subst q21
                have p22 : BW σ 87 := (hp0).1.1
                refine Exists.intro (σ 104 (60 * a1 + v2)) (And.intro rfl (And.intro p22 ?_))
                rintro z23 m_ h24
                obtain rfl : σ = m_ := h24.2
                have h25 : (z23 = 1 ∧ 0 ≤ (σ 104 (60 * a1 + v2)) ∧ (σ 104 (60 * a1 + v2)) ≤ 2 ∧ (σ 104 (60 * a1 + v2)) < σ 87 1) ∨ z23 = 0 := h24.1
                refine And.intro (fun h26 => ?_) (fun h26 => ?_)
                · skip
                  refine B rfl ?_
                  refine Exists.intro _ (And.intro rfl ?_)
                  exact (And.intro (by show (-2) < 0 ∨ (0 ≤ a1 ∧ a1 ≤ 3 ∧ 0 ≤ σ 102 a1 ∧ σ 102 a1 ≤ 60 ∧ OD σ a1); exact Or.inl (by omega)) rfl)
                · skip
                  show WP_ X G Q 0 0 ad SHS_ σ 69 [(42, 86), (0, a1), (0, v2)] []
                  refine B rfl ?_
                  refine Exists.intro (a1, v2) (And.intro rfl (And.intro (And.intro (by show 0 ≤ a1; omega) (And.intro (by show a1 ≤ 3; omega) (And.intro (by show 0 ≤ v2; omega) (by show v2 ≤ 59; omega)))) ?_))
                  rintro z27 m_ h28
                  obtain rfl : σ = m_ := h28.2.2.2
                  have h29 : z27 = l2i_ (σ 104 (60 * a1 + v2)) := h28.1
                  have h30 : -2147483648 ≤ z27 ∧ z27 ≤ 2147483647 := h28.2.1
                  have h31 : -2147483648 ≤ σ 104 (60 * a1 + v2) ∧ σ 104 (60 * a1 + v2) ≤ 2147483647 → z27 = σ 104 (60 * a1 + v2) := h28.2.2.1
                  have q32 : z27 = l2i_ (σ 104 (60 * a1 + v2)) := by omega
                  subst q32
                  refine And.intro (by omega) ?_
                  refine Exists.intro (a1, v2 + 1) (And.intro rfl (And.intro (And.intro (by show 0 ≤ a1; omega) (And.intro (by show a1 ≤ 3; omega) (And.intro (by show 0 ≤ (v2 + 1); omega) (by show (v2 + 1) ≤ 59; omega)))) ?_))
                  rintro z33 m_ h34
                  obtain rfl : σ = m_ := h34.2
                  have h35 : z33 = σ 104 (60 * a1 + (v2 + 1)) := h34.1
                  have q36 : z33 = σ 104 (60 * a1 + (v2 + 1)) := by omega
                  subst q36
                  refine And.intro (by omega) ?_
                  refine Exists.intro (a1, v2 + 2) (And.intro rfl (And.intro (And.intro (by show 0 ≤ a1; omega) (And.intro (by show a1 ≤ 3; omega) (And.intro (by show 0 ≤ (v2 + 2); omega) (by show (v2 + 2) ≤ 59; omega)))) ?_))
                  rintro z37 m_ h38
                  obtain rfl : σ = m_ := h38.2
                  have h39 : z37 = σ 104 (60 * a1 + (v2 + 2)) := h38.1
                  have q40 : z37 = σ 104 (60 * a1 + (v2 + 2)) := by omega
                  subst q40
                  refine And.intro (by omega) ?_
                  refine Exists.intro (a1, v2 + 3) (And.intro rfl (And.intro (And.intro (by show 0 ≤ a1; omega) (And.intro (by show a1 ≤ 3; omega) (And.intro (by show 0 ≤ (v2 + 3); omega) (by show (v2 + 3) ≤ 59; omega)))) ?_))
                  rintro z41 m_ h42
                  obtain rfl : σ = m_ := h42.2
                  have h43 : z41 = σ 104 (60 * a1 + (v2 + 3)) := h42.1
                  have q44 : z41 = σ 104 (60 * a1 + (v2 + 3)) := by omega
                  subst q44
                  refine Exists.intro (l2i_ (σ 104 (60 * a1 + v2)), σ 104 (60 * a1 + (v2 + 1)), σ 104 (60 * a1 + (v2 + 2)), σ 104 (60 * a1 + (v2 + 3))) (And.intro rfl (And.intro (And.intro p22 (And.intro (by show 0 ≤ (l2i_ (σ 104 (60 * a1 + v2))); omega) (by show (l2i_ (σ 104 (60 * a1 + v2))) ≤ 2; omega))) ?_))
                  rintro z45 m_ h46
                  obtain rfl : σ = m_ := h46.2
                  have h47 : (z45 = 1 ∧ 0 ≤ (σ 104 (60 * a1 + (v2 + 1))) ∧ (σ 104 (60 * a1 + (v2 + 1))) ≤ 1999 ∧ 0 ≤ (σ 104 (60 * a1 + (v2 + 2))) ∧ (σ 104 (60 * a1 + (v2 + 2))) ≤ 7 ∧ 0 ≤ (σ 104 (60 * a1 + (v2 + 3))) ∧ (σ 104 (60 * a1 + (v2 + 3))) ≤ 68) ∨ z45 = 0 := h46.1
                  refine And.intro (fun h48 => ?_) (fun h48 => ?_)
                  · skip
                    refine B rfl ?_
                    have q49 : Int.tdiv v2 4 = v2 / 4 := Int.tdiv_eq_ediv_of_nonneg (by omega)
                    refine And.intro (by omega) ?_
                    have e5 : 4 * (Int.tdiv v2 4) = v2 := by omega
                    have n0 : l2i_ (σ 104 (60 * a1 + 4 * (Int.tdiv v2 4))) = σ 104 (60 * a1 + v2) := by rw [e5]; exact (l2i_t).1 (by omega)
                    have n1 : l2i_ (σ 104 (60 * a1 + (4 * (Int.tdiv v2 4) + 1))) = σ 104 (60 * a1 + (v2 + 1)) := by rw [e5]; exact (l2i_t).1 (by omega)
                    have n2 : l2i_ (σ 104 (60 * a1 + (4 * (Int.tdiv v2 4) + 2))) = σ 104 (60 * a1 + (v2 + 2)) := by rw [e5]; exact (l2i_t).1 (by omega)
                    have n3 : l2i_ (σ 104 (60 * a1 + (4 * (Int.tdiv v2 4) + 3))) = σ 104 (60 * a1 + (v2 + 3)) := by rw [e5]; exact (l2i_t).1 (by omega)
                    refine Exists.intro (a1, Int.tdiv v2 4) (And.intro rfl (And.intro (And.intro p22 (And.intro (by show 0 ≤ a1; omega) (And.intro (by show a1 ≤ 3; omega) (And.intro (by show 0 ≤ (Int.tdiv v2 4); omega) (And.intro (by show (Int.tdiv v2 4) ≤ 14; omega) (And.intro (by show 0 ≤ l2i_ (σ 104 (60 * a1 + 4 * (Int.tdiv v2 4))); omega) (And.intro (by show l2i_ (σ 104 (60 * a1 + 4 * (Int.tdiv v2 4))) ≤ 2; omega) (And.intro (by show 0 ≤ l2i_ (σ 104 (60 * a1 + (4 * (Int.tdiv v2 4) + 1))); omega) (And.intro (by show l2i_ (σ 104 (60 * a1 + (4 * (Int.tdiv v2 4) + 1))) ≤ 1999; omega) (And.intro (by show 0 ≤ l2i_ (σ 104 (60 * a1 + (4 * (Int.tdiv v2 4) + 2))); omega) (And.intro (by show l2i_ (σ 104 (60 * a1 + (4 * (Int.tdiv v2 4) + 2))) ≤ 7; omega) (And.intro (by show 0 ≤ l2i_ (σ 104 (60 * a1 + (4 * (Int.tdiv v2 4) + 3))); omega) (by show l2i_ (σ 104 (60 * a1 + (4 * (Int.tdiv v2 4) + 3))) ≤ 68; omega))))))))))))) ?_))
                    rintro z50 m_ h51
                    obtain rfl : σ = m_ := h51.2.2
                    have h52 : z50 = dayF_ (σ 87) (l2i_ (σ 104 (60 * a1 + 4 * (Int.tdiv v2 4)))) (l2i_ (σ 104 (60 * a1 + (4 * (Int.tdiv v2 4) + 1)))) (l2i_ (σ 104 (60 * a1 + (4 * (Int.tdiv v2 4) + 2)))) (l2i_ (σ 104 (60 * a1 + (4 * (Int.tdiv v2 4) + 3)))) := h51.1
                    have h53 : 0 ≤ z50 ∧ z50 ≤ 4000 := h51.2.1
                    refine And.intro (fun h54 => ?_) (fun h54 => ?_)
                    · skip
                      refine B rfl ?_
                      refine And.intro (by omega) ?_
                      exact ih_46 (v2 + 4) (by show 0 ≤ (v2 + 4); omega) (by show (v2 + 4) ≤ 60; omega) (by show (v2 + 4) % 4 = 0; omega) (by show ∀ j : Int, 0 ≤ j → 4 * j < (v2 + 4) → ODe σ a1 j; intro j h1 h2; by_cases hj : 4 * j = v2; have hj2 : j = Int.tdiv v2 4 := (by omega); subst hj2; unfold ODe; refine ⟨⟨?_, ?_⟩, ⟨?_, ?_⟩, ⟨?_, ?_⟩, ⟨?_, ?_⟩, ?_⟩ <;> omega; exact hi46_3 j h1 (by omega)) (by omega)
                    · skip
                      show WP_ X G Q 0 0 ad SHS_ σ 123 [(42, 86), (0, a1), (0, v2)] []
                      refine B rfl ?_
                      refine Exists.intro _ (And.intro rfl ?_)
                      exact (And.intro (by show (-2) < 0 ∨ (0 ≤ a1 ∧ a1 ≤ 3 ∧ 0 ≤ σ 102 a1 ∧ σ 102 a1 ≤ 60 ∧ OD σ a1); exact Or.inl (by omega)) rfl)
                  · skip
                    show WP_ X G Q 0 0 ad SHS_ σ 106 [(42, 86), (0, a1), (0, v2)] []
                    refine B rfl ?_
                    refine Exists.intro _ (And.intro rfl ?_)
                    exact (And.intro (by show (-2) < 0 ∨ (0 ≤ a1 ∧ a1 ≤ 3 ∧ 0 ≤ σ 102 a1 ∧ σ 102 a1 ≤ 60 ∧ OD σ a1); exact Or.inl (by omega)) rfl)
          exact lp_46 ((60 - 0 : Int).toNat + 1) 0 (by show 0 ≤ 0; omega) (by show 0 ≤ 60; omega) (by show 0 % 4 = 0; omega) (by show ∀ j : Int, 0 ≤ j → 4 * j < 0 → ODe σ a1 j; intro j h1 h2; omega) (by omega)
        · skip
          show WP_ X G Q 0 0 ad SHS_ σ 41 [(42, 86), (0, a1), (9, 0)] []
          refine B rfl ?_
          refine Exists.intro _ (And.intro rfl ?_)
          exact (And.intro (by show (-2) < 0 ∨ (0 ≤ a1 ∧ a1 ≤ 3 ∧ 0 ≤ σ 102 a1 ∧ σ 102 a1 ≤ 60 ∧ OD σ a1); exact Or.inl (by omega)) rfl)
      · skip
        show WP_ X G Q 0 0 ad SHS_ σ 27 [(42, 86), (0, a1), (9, 0)] []
        refine B rfl ?_
        refine Exists.intro _ (And.intro rfl ?_)
        exact (And.intro (by show (-6) < 0 ∨ (0 ≤ a1 ∧ a1 ≤ 3 ∧ 0 ≤ σ 102 a1 ∧ σ 102 a1 ≤ 60 ∧ OD σ a1); exact Or.inl (by omega)) rfl)
    · skip
      show WP_ X G Q 0 0 ad SHS_ σ 14 [(42, 86), (0, a1), (9, 0)] []
      refine B rfl ?_
      refine Exists.intro _ (And.intro rfl ?_)
      exact (And.intro (by show (-2) < 0 ∨ (0 ≤ a1 ∧ a1 ≤ 3 ∧ 0 ≤ σ 102 a1 ∧ σ 102 a1 ≤ 60 ∧ OD σ a1); exact Or.inl (by omega)) rfl)
def as_G_X11_oldest : Int → List Sv_t := fun a => [(42, 86), (0, a)]
def pre_G_X11_oldest : Int → Me_t → Prop := fun a σ => (MI σ)
def post_G_X11_oldest : Int → Me_t → Int → Me_t → Prop := fun a σ z σ' => (σ = σ')
set_option maxHeartbeats 1500000 in
set_option maxRecDepth 100000 in
theorem ct_G_X11_oldest (l : Launch) : CT_ l yX11_oldest cX11_oldest 5 (some .int) 6 139 as_G_X11_oldest (rmI_) pre_G_X11_oldest post_G_X11_oldest := by
  refine ct_of (by decide) (fun _ => Nat.le_of_ble_eq_true rfl) ?_
  intro X G Q ad σ a hl hR E hG R hM hv hp
  obtain ⟨a1, rfl⟩ : ∃ q : Int, q = a := ⟨_, rfl⟩
  have r_a1 : -2147483648 ≤ a1 ∧ a1 ≤ 2147483647 := hv (0, a1) (List.mem_of_getElem? (i := 1) rfl)
  have hp0 : MI σ := hp
  have B := @bk_ X G Q 0 0 ad SHS_ RX11 cX11_oldest 5 (some .int) flX11 plX11 knX11 [(734, 2, TR_ as_G_X11_asksOrders (rmI_) pre_G_X11_asksOrders post_G_X11_asksOrders), (728, 3, TR_ as_G_X11_dayAt (rmI_) pre_G_X11_dayAt post_G_X11_dayAt)] _ _ none kX11_oldest [17] flX11_ok plX11_ok knX11_ok eX11_oldest oX11_oldest
    (List.forall_mem_cons.mpr ⟨cok_v (t := 32) (c := 11) (N := 39) (n := 1) (idx := 367) E (ct_G_X11_asksOrders X.2.1) (by rw [hR]; decide) (Nat.zero_le _) (Nat.zero_le _) hG rfl rfl ⟨rfl, by decide, by decide, by decide⟩ (fun _ => ⟨_, _, rfl, rfl⟩) wl_X11_367 wi_X11_asksOrders ws_X11_asksOrders wn_X11 wc_X11_asksOrders, List.forall_mem_cons.mpr ⟨cok_v (t := 32) (c := 11) (N := 39) (n := 2) (idx := 364) E (ct_G_X11_dayAt X.2.1) (by rw [hR]; decide) (Nat.zero_le _) (Nat.zero_le _) hG rfl rfl ⟨rfl, by decide, by decide, by decide⟩ (fun _ => ⟨_, _, rfl, rfl⟩) wl_X11_364 wi_X11_dayAt ws_X11_dayAt wn_X11 wc_X11_dayAt, fun _ h => absurd h List.not_mem_nil⟩⟩) R sok_no E
  show WP_ X G Q 0 0 ad SHS_ σ 0 [(42, 86), (0, a1), (9, 0), (9, 0), (9, 0)] []
  refine B rfl ?_
  refine Exists.intro a1 (And.intro rfl (And.intro hp0 ?_))
  rintro z1 m_ h2
  obtain rfl : σ = m_ := h2.2
  have h3 : z1 < 0 ∨ (0 ≤ a1 ∧ a1 ≤ 3 ∧ 0 ≤ σ 102 a1 ∧ σ 102 a1 ≤ 60 ∧ OD σ a1) := h2.1
  have hqo := h2.1
  try dsimp only at hqo
  refine And.intro (fun h4 => ?_) (fun h4 => ?_)
  · skip
    refine B rfl ?_
    have hqq := hqo.resolve_left (by omega)
    have hod0 : OD σ a1 := hqq.2.2.2.2
    show WP_ X G Q 0 0 ad SHS_ σ 17 [(42, 86), (0, a1), (0, z1), (0, (-1)), (0, 0)] []
    refine wdrop_ (L' := [(42, 86), (0, a1), (9, 0), (0, (-1)), (0, 0)]) ⟨Or.inr rfl, ⟨Or.inr rfl, ⟨Or.inl rfl, ⟨Or.inr rfl, ⟨Or.inr rfl, trivial⟩⟩⟩⟩⟩ ?_
    have lp_17 : ∀ (nq_ : Nat) (v3 : Int) (v4 : Int), (0 ≤ v4) → (v4 ≤ 15) → (-1 ≤ v3) → (v3 < v4) → (15 - v4 : Int).toNat < nq_ → WP_ X G Q 0 0 ad SHS_ σ 17 [(42, 86), (0, a1), (9, 0), (0, v3), (0, v4)] [] := by
      intro nq_
      induction nq_ with
      | zero => intros; omega
      | succ nq_ ih_17 =>
        intro v3 v4 hi17_0 hi17_1 hi17_2 hi17_3 hm17
        refine B rfl ?_
        refine And.intro (by omega) ?_
        refine And.intro (by omega) ?_
        intro z5 ez5 hz5
        have hz5 : ((-1) : Int) ≤ z5 ∧ z5 ≤ (60 : Int) := hz5
        refine And.intro (fun h6 => ?_) (fun h6 => ?_)
        · skip
          refine B rfl ?_
          refine Exists.intro _ (And.intro rfl ?_)
          exact rfl
        · skip
          refine And.intro (fun h7 => ?_) (fun h7 => ?_)
          · skip
            refine B rfl ?_
            refine And.intro (by omega) ?_
            exact ih_17 v4 (v4 + 1) (by show 0 ≤ (v4 + 1); omega) (by show (v4 + 1) ≤ 15; omega) (by show -1 ≤ v4; omega) (by show v4 < (v4 + 1); omega) (by omega)
          · skip
            have o8 := hod0 v4 (by omega) (by omega)
            unfold ODe at o8
            have p9 : BW σ 87 := (hp0).1.1
            refine Exists.intro (a1, v4) (And.intro rfl (And.intro (And.intro p9 (And.intro (by show 0 ≤ a1; omega) (And.intro (by show a1 ≤ 3; omega) (And.intro (by show 0 ≤ v4; omega) (And.intro (by show v4 ≤ 14; omega) (And.intro (by show 0 ≤ l2i_ (σ 104 (60 * a1 + 4 * v4)); omega) (And.intro (by show l2i_ (σ 104 (60 * a1 + 4 * v4)) ≤ 2; omega) (And.intro (by show 0 ≤ l2i_ (σ 104 (60 * a1 + (4 * v4 + 1))); omega) (And.intro (by show l2i_ (σ 104 (60 * a1 + (4 * v4 + 1))) ≤ 1999; omega) (And.intro (by show 0 ≤ l2i_ (σ 104 (60 * a1 + (4 * v4 + 2))); omega) (And.intro (by show l2i_ (σ 104 (60 * a1 + (4 * v4 + 2))) ≤ 7; omega) (And.intro (by show 0 ≤ l2i_ (σ 104 (60 * a1 + (4 * v4 + 3))); omega) (by show l2i_ (σ 104 (60 * a1 + (4 * v4 + 3))) ≤ 68; omega))))))))))))) ?_))
            rintro z10 m_ h11
            obtain rfl : σ = m_ := h11.2.2
            have h12 : z10 = dayF_ (σ 87) (l2i_ (σ 104 (60 * a1 + 4 * v4))) (l2i_ (σ 104 (60 * a1 + (4 * v4 + 1)))) (l2i_ (σ 104 (60 * a1 + (4 * v4 + 2)))) (l2i_ (σ 104 (60 * a1 + (4 * v4 + 3)))) := h11.1
            have h13 : 0 ≤ z10 ∧ z10 ≤ 4000 := h11.2.1
            have o14 := hod0 v3 (by omega) (by omega)
            unfold ODe at o14
            refine Exists.intro (a1, v3) (And.intro rfl (And.intro (And.intro p9 (And.intro (by show 0 ≤ a1; omega) (And.intro (by show a1 ≤ 3; omega) (And.intro (by show 0 ≤ v3; omega) (And.intro (by show v3 ≤ 14; omega) (And.intro (by show 0 ≤ l2i_ (σ 104 (60 * a1 + 4 * v3)); omega) (And.intro (by show l2i_ (σ 104 (60 * a1 + 4 * v3)) ≤ 2; omega) (And.intro (by show 0 ≤ l2i_ (σ 104 (60 * a1 + (4 * v3 + 1))); omega) (And.intro (by show l2i_ (σ 104 (60 * a1 + (4 * v3 + 1))) ≤ 1999; omega) (And.intro (by show 0 ≤ l2i_ (σ 104 (60 * a1 + (4 * v3 + 2))); omega) (And.intro (by show l2i_ (σ 104 (60 * a1 + (4 * v3 + 2))) ≤ 7; omega) (And.intro (by show 0 ≤ l2i_ (σ 104 (60 * a1 + (4 * v3 + 3))); omega) (by show l2i_ (σ 104 (60 * a1 + (4 * v3 + 3))) ≤ 68; omega))))))))))))) ?_))
            rintro z15 m_ h16
            obtain rfl : σ = m_ := h16.2.2
            have h17 : z15 = dayF_ (σ 87) (l2i_ (σ 104 (60 * a1 + 4 * v3))) (l2i_ (σ 104 (60 * a1 + (4 * v3 + 1)))) (l2i_ (σ 104 (60 * a1 + (4 * v3 + 2)))) (l2i_ (σ 104 (60 * a1 + (4 * v3 + 3)))) := h16.1
            have h18 : 0 ≤ z15 ∧ z15 ≤ 4000 := h16.2.1
            refine And.intro (fun h19 => ?_) (fun h19 => ?_)
            · skip
              refine B rfl ?_
              refine And.intro (by omega) ?_
              exact ih_17 v3 (v4 + 1) (by show 0 ≤ (v4 + 1); omega) (by show (v4 + 1) ≤ 15; omega) (by show -1 ≤ v3; omega) (by show v3 < (v4 + 1); omega) (by omega)
            · skip
              refine And.intro (by omega) ?_
              exact ih_17 v4 (v4 + 1) (by show 0 ≤ (v4 + 1); omega) (by show (v4 + 1) ≤ 15; omega) (by show -1 ≤ v4; omega) (by show v4 < (v4 + 1); omega) (by omega)
    exact lp_17 ((15 - 0 : Int).toNat + 1) (-1) 0 (by show 0 ≤ 0; omega) (by show 0 ≤ 15; omega) (by show -1 ≤ (-1); omega) (by show (-1) < 0; omega) (by omega)
  · skip
    refine Exists.intro _ (And.intro rfl ?_)
    exact rfl
def as_G_X11_older : Int × Int → List Sv_t := fun a => [(42, 86), (0, a.1), (0, a.2)]
def pre_G_X11_older : Int × Int → Me_t → Prop := fun a σ => (MI σ)
def post_G_X11_older : Int × Int → Me_t → Int → Me_t → Prop := fun a σ z σ' => (σ = σ')
set_option maxHeartbeats 1500000 in
set_option maxRecDepth 100000 in
theorem ct_G_X11_older (l : Launch) : CT_ l yX11_older cX11_older 6 (some .int) 6 139 as_G_X11_older (rmI_) pre_G_X11_older post_G_X11_older := by
  refine ct_of (by decide) (fun _ => Nat.le_of_ble_eq_true rfl) ?_
  intro X G Q ad σ a hl hR E hG R hM hv hp
  obtain ⟨a1, a2⟩ := a
  have r_a1 : -2147483648 ≤ a1 ∧ a1 ≤ 2147483647 := hv (0, a1) (List.mem_of_getElem? (i := 1) rfl)
  have r_a2 : -2147483648 ≤ a2 ∧ a2 ≤ 2147483647 := hv (0, a2) (List.mem_of_getElem? (i := 2) rfl)
  have hp0 : MI σ := hp
  have B := @bk_ X G Q 0 0 ad SHS_ RX11 cX11_older 6 (some .int) flX11 plX11 knX11 [(734, 2, TR_ as_G_X11_asksOrders (rmI_) pre_G_X11_asksOrders post_G_X11_asksOrders), (159, 3, TR_ as_G_X11_in (rmI_) pre_G_X11_in post_G_X11_in), (728, 3, TR_ as_G_X11_dayAt (rmI_) pre_G_X11_dayAt post_G_X11_dayAt)] _ _ none kX11_older [10, 32, 40, 53, 71] flX11_ok plX11_ok knX11_ok eX11_older oX11_older
    (List.forall_mem_cons.mpr ⟨cok_v (t := 32) (c := 11) (N := 39) (n := 1) (idx := 367) E (ct_G_X11_asksOrders X.2.1) (by rw [hR]; decide) (Nat.zero_le _) (Nat.zero_le _) hG rfl rfl ⟨rfl, by decide, by decide, by decide⟩ (fun _ => ⟨_, _, rfl, rfl⟩) wl_X11_367 wi_X11_asksOrders ws_X11_asksOrders wn_X11 wc_X11_asksOrders, List.forall_mem_cons.mpr ⟨cok_s (n := 3) (idx := 79) E (ct_G_X11_in X.2.1) (by rw [hR]; decide) (Nat.zero_le _) (Nat.zero_le _) hG ⟨by decide, by decide, by decide⟩ (fun _ => rfl) wl_X11_79 wt_X11_in wn_X11 wc_X11_in, List.forall_mem_cons.mpr ⟨cok_v (t := 32) (c := 11) (N := 39) (n := 2) (idx := 364) E (ct_G_X11_dayAt X.2.1) (by rw [hR]; decide) (Nat.zero_le _) (Nat.zero_le _) hG rfl rfl ⟨rfl, by decide, by decide, by decide⟩ (fun _ => ⟨_, _, rfl, rfl⟩) wl_X11_364 wi_X11_dayAt ws_X11_dayAt wn_X11 wc_X11_dayAt, fun _ h => absurd h List.not_mem_nil⟩⟩⟩) R sok_no E
  show WP_ X G Q 0 0 ad SHS_ σ 0 [(42, 86), (0, a1), (0, a2), (9, 0), (9, 0), (9, 0)] []
  refine B rfl ?_
  refine Exists.intro a1 (And.intro rfl (And.intro hp0 ?_))
  rintro z1 m_ h2
  obtain rfl : σ = m_ := h2.2
  have h3 : z1 < 0 ∨ (0 ≤ a1 ∧ a1 ≤ 3 ∧ 0 ≤ σ 102 a1 ∧ σ 102 a1 ≤ 60 ∧ OD σ a1) := h2.1
  have hqo := h2.1
  try dsimp only at hqo
  refine And.intro (fun h4 => ?_) (fun h4 => ?_)
  · skip
    refine B rfl ?_
    have hqq := hqo.resolve_left (by omega)
    have hod0 : OD σ a1 := hqq.2.2.2.2
    refine And.intro (by omega) ?_
    intro z5 ez5 hz5
    have hz5 : ((-1) : Int) ≤ z5 ∧ z5 ≤ (60 : Int) := hz5
    have q6 : Int.tdiv z5 4 = z5 / 4 := Int.tdiv_eq_ediv_of_nonneg (by omega)
    refine And.intro (by omega) ?_
    refine And.intro (by omega) ?_
    refine Exists.intro (a2, 0, (Int.tdiv z5 4) - 1) (And.intro rfl (And.intro True.intro ?_))
    rintro z7 m_ h8
    obtain rfl : σ = m_ := h8.2
    have h9 : (z7 = 1 ∧ 0 ≤ a2 ∧ a2 ≤ ((Int.tdiv z5 4) - 1)) ∨ (z7 = 0 ∧ ¬ (0 ≤ a2 ∧ a2 ≤ ((Int.tdiv z5 4) - 1))) := h8.1
    refine And.intro (fun h10 => ?_) (fun h10 => ?_)
    · skip
      refine B rfl ?_
      show WP_ X G Q 0 0 ad SHS_ σ 40 [(42, 86), (0, a1), (0, a2), (0, z1), (0, 0), (0, 0)] []
      refine wdrop_ (L' := [(42, 86), (0, a1), (0, a2), (9, 0), (0, 0), (0, 0)]) ⟨Or.inr rfl, ⟨Or.inr rfl, ⟨Or.inr rfl, ⟨Or.inl rfl, ⟨Or.inr rfl, ⟨Or.inr rfl, trivial⟩⟩⟩⟩⟩⟩ ?_
      have lp_40 : ∀ (nq_ : Nat) (v4 : Int) (v5 : Int), (0 ≤ v5) → (v5 ≤ 15) → (0 ≤ v4) → (v4 ≤ v5) → (15 - v5 : Int).toNat < nq_ → WP_ X G Q 0 0 ad SHS_ σ 40 [(42, 86), (0, a1), (0, a2), (9, 0), (0, v4), (0, v5)] [] := by
        intro nq_
        induction nq_ with
        | zero => intros; omega
        | succ nq_ ih_40 =>
          intro v4 v5 hi40_0 hi40_1 hi40_2 hi40_3 hm40
          refine B rfl ?_
          refine And.intro (by omega) ?_
          refine And.intro (by omega) ?_
          intro z11 ez11 hz11
          have q12 : z5 = z11 := ez5.trans ez11.symm
          subst q12
          refine And.intro (fun h13 => ?_) (fun h13 => ?_)
          · skip
            refine B rfl ?_
            refine Exists.intro _ (And.intro rfl ?_)
            exact rfl
          · skip
            show WP_ X G Q 0 0 ad SHS_ σ 53 [(42, 86), (0, a1), (0, a2), (9, 0), (0, v4), (0, v5)] []
            refine B rfl ?_
            have o14 := hod0 v5 (by omega) (by omega)
            unfold ODe at o14
            have p15 : BW σ 87 := (hp0).1.1
            refine Exists.intro (a1, v5) (And.intro rfl (And.intro (And.intro p15 (And.intro (by show 0 ≤ a1; omega) (And.intro (by show a1 ≤ 3; omega) (And.intro (by show 0 ≤ v5; omega) (And.intro (by show v5 ≤ 14; omega) (And.intro (by show 0 ≤ l2i_ (σ 104 (60 * a1 + 4 * v5)); omega) (And.intro (by show l2i_ (σ 104 (60 * a1 + 4 * v5)) ≤ 2; omega) (And.intro (by show 0 ≤ l2i_ (σ 104 (60 * a1 + (4 * v5 + 1))); omega) (And.intro (by show l2i_ (σ 104 (60 * a1 + (4 * v5 + 1))) ≤ 1999; omega) (And.intro (by show 0 ≤ l2i_ (σ 104 (60 * a1 + (4 * v5 + 2))); omega) (And.intro (by show l2i_ (σ 104 (60 * a1 + (4 * v5 + 2))) ≤ 7; omega) (And.intro (by show 0 ≤ l2i_ (σ 104 (60 * a1 + (4 * v5 + 3))); omega) (by show l2i_ (σ 104 (60 * a1 + (4 * v5 + 3))) ≤ 68; omega))))))))))))) ?_))
            rintro z16 m_ h17
            obtain rfl : σ = m_ := h17.2.2
            have h18 : z16 = dayF_ (σ 87) (l2i_ (σ 104 (60 * a1 + 4 * v5))) (l2i_ (σ 104 (60 * a1 + (4 * v5 + 1)))) (l2i_ (σ 104 (60 * a1 + (4 * v5 + 2)))) (l2i_ (σ 104 (60 * a1 + (4 * v5 + 3)))) := h17.1
            have h19 : 0 ≤ z16 ∧ z16 ≤ 4000 := h17.2.1
            have o20 := hod0 a2 (by omega) (by omega)
            unfold ODe at o20
            refine Exists.intro (a1, a2) (And.intro rfl (And.intro (And.intro p15 (And.intro (by show 0 ≤ a1; omega) (And.intro (by show a1 ≤ 3; omega) (And.intro (by show 0 ≤ a2; omega) (And.intro (by show a2 ≤ 14; omega) (And.intro (by show 0 ≤ l2i_ (σ 104 (60 * a1 + 4 * a2)); omega) (And.intro (by show l2i_ (σ 104 (60 * a1 + 4 * a2)) ≤ 2; omega) (And.intro (by show 0 ≤ l2i_ (σ 104 (60 * a1 + (4 * a2 + 1))); omega) (And.intro (by show l2i_ (σ 104 (60 * a1 + (4 * a2 + 1))) ≤ 1999; omega) (And.intro (by show 0 ≤ l2i_ (σ 104 (60 * a1 + (4 * a2 + 2))); omega) (And.intro (by show l2i_ (σ 104 (60 * a1 + (4 * a2 + 2))) ≤ 7; omega) (And.intro (by show 0 ≤ l2i_ (σ 104 (60 * a1 + (4 * a2 + 3))); omega) (by show l2i_ (σ 104 (60 * a1 + (4 * a2 + 3))) ≤ 68; omega))))))))))))) ?_))
            rintro z21 m_ h22
            obtain rfl : σ = m_ := h22.2.2
            have h23 : z21 = dayF_ (σ 87) (l2i_ (σ 104 (60 * a1 + 4 * a2))) (l2i_ (σ 104 (60 * a1 + (4 * a2 + 1)))) (l2i_ (σ 104 (60 * a1 + (4 * a2 + 2)))) (l2i_ (σ 104 (60 * a1 + (4 * a2 + 3)))) := h22.1
            have h24 : 0 ≤ z21 ∧ z21 ≤ 4000 := h22.2.1
            refine And.intro (fun h25 => ?_) (fun h25 => ?_)
            · skip
              refine B rfl ?_
              refine And.intro (by omega) ?_
              refine And.intro (by omega) ?_
              exact ih_40 (v4 + 0) (v5 + 1) (by show 0 ≤ (v5 + 1); omega) (by show (v5 + 1) ≤ 15; omega) (by show 0 ≤ (v4 + 0); omega) (by show (v4 + 0) ≤ (v5 + 1); omega) (by omega)
            · skip
              show WP_ X G Q 0 0 ad SHS_ σ 71 [(42, 86), (0, a1), (0, a2), (9, 0), (0, v4), (0, v5)] [(0, v4)]
              refine B rfl ?_
              refine B rfl ?_
              refine And.intro (by omega) ?_
              refine And.intro (by omega) ?_
              exact ih_40 (v4 + 1) (v5 + 1) (by show 0 ≤ (v5 + 1); omega) (by show (v5 + 1) ≤ 15; omega) (by show 0 ≤ (v4 + 1); omega) (by show (v4 + 1) ≤ (v5 + 1); omega) (by omega)
      exact lp_40 ((15 - 0 : Int).toNat + 1) 0 0 (by show 0 ≤ 0; omega) (by show 0 ≤ 15; omega) (by show 0 ≤ 0; omega) (by show 0 ≤ 0; omega) (by omega)
    · skip
      show WP_ X G Q 0 0 ad SHS_ σ 32 [(42, 86), (0, a1), (0, a2), (0, z1), (9, 0), (9, 0)] []
      refine B rfl ?_
      refine Exists.intro _ (And.intro rfl ?_)
      exact rfl
  · skip
    show WP_ X G Q 0 0 ad SHS_ σ 10 [(42, 86), (0, a1), (0, a2), (0, z1), (9, 0), (9, 0)] []
    refine B rfl ?_
    refine Exists.intro _ (And.intro rfl ?_)
    exact rfl
def as_G_X11_apart : Int → List Sv_t := fun a => [(42, 86), (0, a)]
def pre_G_X11_apart : Int → Me_t → Prop := fun a σ => (MI σ)
def post_G_X11_apart : Int → Me_t → Int → Me_t → Prop := fun a σ z σ' => (σ = σ')
set_option maxHeartbeats 1500000 in
set_option maxRecDepth 100000 in
theorem ct_G_X11_apart (l : Launch) : CT_ l yX11_apart cX11_apart 6 (some .int) 6 139 as_G_X11_apart (rmI_) pre_G_X11_apart post_G_X11_apart := by
  refine ct_of (by decide) (fun _ => Nat.le_of_ble_eq_true rfl) ?_
  intro X G Q ad σ a hl hR E hG R hM hv hp
  obtain ⟨a1, rfl⟩ : ∃ q : Int, q = a := ⟨_, rfl⟩
  have r_a1 : -2147483648 ≤ a1 ∧ a1 ≤ 2147483647 := hv (0, a1) (List.mem_of_getElem? (i := 1) rfl)
  have hp0 : MI σ := hp
  have B := @bk_ X G Q 0 0 ad SHS_ RX11 cX11_apart 6 (some .int) flX11 plX11 knX11 [(734, 2, TR_ as_G_X11_asksOrders (rmI_) pre_G_X11_asksOrders post_G_X11_asksOrders), (728, 3, TR_ as_G_X11_dayAt (rmI_) pre_G_X11_dayAt post_G_X11_dayAt), (279, 2, TMIN_), (643, 2, TMAX_)] _ _ none kX11_apart [10, 21, 33, 46] flX11_ok plX11_ok knX11_ok eX11_apart oX11_apart
    (List.forall_mem_cons.mpr ⟨cok_v (t := 32) (c := 11) (N := 39) (n := 1) (idx := 367) E (ct_G_X11_asksOrders X.2.1) (by rw [hR]; decide) (Nat.zero_le _) (Nat.zero_le _) hG rfl rfl ⟨rfl, by decide, by decide, by decide⟩ (fun _ => ⟨_, _, rfl, rfl⟩) wl_X11_367 wi_X11_asksOrders ws_X11_asksOrders wn_X11 wc_X11_asksOrders, List.forall_mem_cons.mpr ⟨cok_v (t := 32) (c := 11) (N := 39) (n := 2) (idx := 364) E (ct_G_X11_dayAt X.2.1) (by rw [hR]; decide) (Nat.zero_le _) (Nat.zero_le _) hG rfl rfl ⟨rfl, by decide, by decide, by decide⟩ (fun _ => ⟨_, _, rfl, rfl⟩) wl_X11_364 wi_X11_dayAt ws_X11_dayAt wn_X11 wc_X11_dayAt, List.forall_mem_cons.mpr ⟨cok_min (idx := 139) E (by rw [hR]; decide) (Nat.zero_le _) (Nat.zero_le _) wl_X11_139, List.forall_mem_cons.mpr ⟨cok_max (idx := 321) E (by rw [hR]; decide) (Nat.zero_le _) (Nat.zero_le _) wl_X11_321, fun _ h => absurd h List.not_mem_nil⟩⟩⟩⟩) R sok_no E
  show WP_ X G Q 0 0 ad SHS_ σ 0 [(42, 86), (0, a1), (9, 0), (9, 0), (9, 0), (9, 0)] []
  refine B rfl ?_
  refine Exists.intro a1 (And.intro rfl (And.intro hp0 ?_))
  rintro z1 m_ h2
  obtain rfl : σ = m_ := h2.2
  have h3 : z1 < 0 ∨ (0 ≤ a1 ∧ a1 ≤ 3 ∧ 0 ≤ σ 102 a1 ∧ σ 102 a1 ≤ 60 ∧ OD σ a1) := h2.1
  have hqo := h2.1
  try dsimp only at hqo
  refine And.intro (fun h4 => ?_) (fun h4 => ?_)
  · skip
    refine B rfl ?_
    have hqq := hqo.resolve_left (by omega)
    have hod0 : OD σ a1 := hqq.2.2.2.2
    refine And.intro (by omega) ?_
    intro z5 ez5 hz5
    have hz5 : ((-1) : Int) ≤ z5 ∧ z5 ≤ (60 : Int) := hz5
    refine And.intro (fun h6 => ?_) (fun h6 => ?_)
    · skip
      refine B rfl ?_
      show WP_ X G Q 0 0 ad SHS_ σ 33 [(42, 86), (0, a1), (0, z1), (0, 1000000), (0, 0), (0, 0)] []
      refine wdrop_ (L' := [(42, 86), (0, a1), (9, 0), (0, 1000000), (0, 0), (0, 0)]) ⟨Or.inr rfl, ⟨Or.inr rfl, ⟨Or.inl rfl, ⟨Or.inr rfl, ⟨Or.inr rfl, ⟨Or.inr rfl, trivial⟩⟩⟩⟩⟩⟩ ?_
      have lp_33 : ∀ (nq_ : Nat) (v3 : Int) (v4 : Int) (v5 : Int), (0 ≤ v5) → (v5 ≤ 15) → (0 ≤ v3) → (v3 ≤ 1000000) → (0 ≤ v4) → (v4 ≤ 4000) → (15 - v5 : Int).toNat < nq_ → WP_ X G Q 0 0 ad SHS_ σ 33 [(42, 86), (0, a1), (9, 0), (0, v3), (0, v4), (0, v5)] [] := by
        intro nq_
        induction nq_ with
        | zero => intros; omega
        | succ nq_ ih_33 =>
          intro v3 v4 v5 hi33_0 hi33_1 hi33_2 hi33_3 hi33_4 hi33_5 hm33
          refine B rfl ?_
          refine And.intro (by omega) ?_
          refine And.intro (by omega) ?_
          intro z7 ez7 hz7
          have q8 : z5 = z7 := ez5.trans ez7.symm
          subst q8
          refine And.intro (fun h9 => ?_) (fun h9 => ?_)
          · skip
            refine B rfl ?_
            refine And.intro (by omega) ?_
            refine Exists.intro _ (And.intro rfl ?_)
            exact rfl
          · skip
            show WP_ X G Q 0 0 ad SHS_ σ 46 [(42, 86), (0, a1), (9, 0), (0, v3), (0, v4), (0, v5)] []
            refine B rfl ?_
            have o10 := hod0 v5 (by omega) (by omega)
            unfold ODe at o10
            have p11 : BW σ 87 := (hp0).1.1
            refine Exists.intro (a1, v5) (And.intro rfl (And.intro (And.intro p11 (And.intro (by show 0 ≤ a1; omega) (And.intro (by show a1 ≤ 3; omega) (And.intro (by show 0 ≤ v5; omega) (And.intro (by show v5 ≤ 14; omega) (And.intro (by show 0 ≤ l2i_ (σ 104 (60 * a1 + 4 * v5)); omega) (And.intro (by show l2i_ (σ 104 (60 * a1 + 4 * v5)) ≤ 2; omega) (And.intro (by show 0 ≤ l2i_ (σ 104 (60 * a1 + (4 * v5 + 1))); omega) (And.intro (by show l2i_ (σ 104 (60 * a1 + (4 * v5 + 1))) ≤ 1999; omega) (And.intro (by show 0 ≤ l2i_ (σ 104 (60 * a1 + (4 * v5 + 2))); omega) (And.intro (by show l2i_ (σ 104 (60 * a1 + (4 * v5 + 2))) ≤ 7; omega) (And.intro (by show 0 ≤ l2i_ (σ 104 (60 * a1 + (4 * v5 + 3))); omega) (by show l2i_ (σ 104 (60 * a1 + (4 * v5 + 3))) ≤ 68; omega))))))))))))) ?_))
            rintro z12 m_ h13
            obtain rfl : σ = m_ := h13.2.2
            have h14 : z12 = dayF_ (σ 87) (l2i_ (σ 104 (60 * a1 + 4 * v5))) (l2i_ (σ 104 (60 * a1 + (4 * v5 + 1)))) (l2i_ (σ 104 (60 * a1 + (4 * v5 + 2)))) (l2i_ (σ 104 (60 * a1 + (4 * v5 + 3)))) := h13.1
            have h15 : 0 ≤ z12 ∧ z12 ≤ 4000 := h13.2.1
            refine Exists.intro v3 (Exists.intro z12 (And.intro rfl ?_))
            intro z16 hz16
            have o17 := hod0 v5 (by omega) (by omega)
            unfold ODe at o17
            refine Exists.intro (a1, v5) (And.intro rfl (And.intro (And.intro p11 (And.intro (by show 0 ≤ a1; omega) (And.intro (by show a1 ≤ 3; omega) (And.intro (by show 0 ≤ v5; omega) (And.intro (by show v5 ≤ 14; omega) (And.intro (by show 0 ≤ l2i_ (σ 104 (60 * a1 + 4 * v5)); omega) (And.intro (by show l2i_ (σ 104 (60 * a1 + 4 * v5)) ≤ 2; omega) (And.intro (by show 0 ≤ l2i_ (σ 104 (60 * a1 + (4 * v5 + 1))); omega) (And.intro (by show l2i_ (σ 104 (60 * a1 + (4 * v5 + 1))) ≤ 1999; omega) (And.intro (by show 0 ≤ l2i_ (σ 104 (60 * a1 + (4 * v5 + 2))); omega) (And.intro (by show l2i_ (σ 104 (60 * a1 + (4 * v5 + 2))) ≤ 7; omega) (And.intro (by show 0 ≤ l2i_ (σ 104 (60 * a1 + (4 * v5 + 3))); omega) (by show l2i_ (σ 104 (60 * a1 + (4 * v5 + 3))) ≤ 68; omega))))))))))))) ?_))
            rintro z18 m_ h19
            obtain rfl : σ = m_ := h19.2.2
            have h20 : z18 = dayF_ (σ 87) (l2i_ (σ 104 (60 * a1 + 4 * v5))) (l2i_ (σ 104 (60 * a1 + (4 * v5 + 1)))) (l2i_ (σ 104 (60 * a1 + (4 * v5 + 2)))) (l2i_ (σ 104 (60 * a1 + (4 * v5 + 3)))) := h19.1
            have h21 : 0 ≤ z18 ∧ z18 ≤ 4000 := h19.2.1
            refine Exists.intro v4 (Exists.intro z18 (And.intro rfl ?_))
            intro z22 hz22
            refine And.intro (by omega) ?_
            exact ih_33 z16 z22 (v5 + 1) (by show 0 ≤ (v5 + 1); omega) (by show (v5 + 1) ≤ 15; omega) (by show 0 ≤ z16; omega) (by show z16 ≤ 1000000; omega) (by show 0 ≤ z22; omega) (by show z22 ≤ 4000; omega) (by omega)
      exact lp_33 ((15 - 0 : Int).toNat + 1) 1000000 0 0 (by show 0 ≤ 0; omega) (by show 0 ≤ 15; omega) (by show 0 ≤ 1000000; omega) (by show 1000000 ≤ 1000000; omega) (by show 0 ≤ 0; omega) (by show 0 ≤ 4000; omega) (by omega)
    · skip
      show WP_ X G Q 0 0 ad SHS_ σ 21 [(42, 86), (0, a1), (0, z1), (9, 0), (9, 0), (9, 0)] []
      refine B rfl ?_
      refine Exists.intro _ (And.intro rfl ?_)
      exact rfl
  · skip
    show WP_ X G Q 0 0 ad SHS_ σ 10 [(42, 86), (0, a1), (0, z1), (9, 0), (9, 0), (9, 0)] []
    refine B rfl ?_
    refine Exists.intro _ (And.intro rfl ?_)
    exact rfl
def as_G_X11_idle : Int → List Sv_t := fun a => [(42, 86), (0, a)]
def pre_G_X11_idle : Int → Me_t → Prop := fun a σ => (MI σ)
def post_G_X11_idle : Int → Me_t → Int → Me_t → Prop := fun a σ z σ' => (∀ k j : Int, ¬ (93 ≤ k ∧ k ≤ 96) → σ' k j = σ k j)
set_option maxHeartbeats 1500000 in
set_option maxRecDepth 100000 in
theorem ct_G_X11_idle (l : Launch) : CT_ l yX11_idle cX11_idle 5 (some .int) 6 139 as_G_X11_idle (rmI_) pre_G_X11_idle post_G_X11_idle := by
  refine ct_of (by decide) (fun _ => Nat.le_of_ble_eq_true rfl) ?_
  intro X G Q ad σ a hl hR E hG R hM hv hp
  obtain ⟨a1, rfl⟩ : ∃ q : Int, q = a := ⟨_, rfl⟩
  have r_a1 : -2147483648 ≤ a1 ∧ a1 ≤ 2147483647 := hv (0, a1) (List.mem_of_getElem? (i := 1) rfl)
  have hp0 : MI σ := hp
  have B := @bk_ X G Q 0 0 ad SHS_ RX11 cX11_idle 5 (some .int) flX11 plX11 knX11 [(734, 2, TR_ as_G_X11_asksOrders (rmI_) pre_G_X11_asksOrders post_G_X11_asksOrders), (538, 1, TR_ as_G_X11_lay (rmV_) pre_G_X11_lay post_G_X11_lay), (716, 3, TR_ as_G_X11_intAt (rmI_) pre_G_X11_intAt post_G_X11_intAt), (728, 3, TR_ as_G_X11_dayAt (rmI_) pre_G_X11_dayAt post_G_X11_dayAt), (508, 3, TR_ as_G_X11_mayOn (rmI_) pre_G_X11_mayOn post_G_X11_mayOn)] _ _ none kX11_idle [10, 21, 34, 58] flX11_ok plX11_ok knX11_ok eX11_idle oX11_idle
    (List.forall_mem_cons.mpr ⟨cok_v (t := 32) (c := 11) (N := 39) (n := 1) (idx := 367) E (ct_G_X11_asksOrders X.2.1) (by rw [hR]; decide) (Nat.zero_le _) (Nat.zero_le _) hG rfl rfl ⟨rfl, by decide, by decide, by decide⟩ (fun _ => ⟨_, _, rfl, rfl⟩) wl_X11_367 wi_X11_asksOrders ws_X11_asksOrders wn_X11 wc_X11_asksOrders, List.forall_mem_cons.mpr ⟨cok_v (t := 32) (c := 11) (N := 39) (n := 0) (idx := 269) E (ct_G_X11_lay X.2.1) (by rw [hR]; decide) (Nat.zero_le _) (Nat.zero_le _) hG rfl rfl ⟨rfl, by decide, by decide, by decide⟩ (fun _ => ⟨_, _, rfl, rfl⟩) wl_X11_269 wi_X11_lay ws_X11_lay wn_X11 wc_X11_lay, List.forall_mem_cons.mpr ⟨cok_v (t := 32) (c := 11) (N := 39) (n := 2) (idx := 358) E (ct_G_X11_intAt X.2.1) (by rw [hR]; decide) (Nat.zero_le _) (Nat.zero_le _) hG rfl rfl ⟨rfl, by decide, by decide, by decide⟩ (fun _ => ⟨_, _, rfl, rfl⟩) wl_X11_358 wi_X11_intAt ws_X11_intAt wn_X11 wc_X11_intAt, List.forall_mem_cons.mpr ⟨cok_v (t := 32) (c := 11) (N := 39) (n := 2) (idx := 364) E (ct_G_X11_dayAt X.2.1) (by rw [hR]; decide) (Nat.zero_le _) (Nat.zero_le _) hG rfl rfl ⟨rfl, by decide, by decide, by decide⟩ (fun _ => ⟨_, _, rfl, rfl⟩) wl_X11_364 wi_X11_dayAt ws_X11_dayAt wn_X11 wc_X11_dayAt, List.forall_mem_cons.mpr ⟨cok_v (t := 32) (c := 11) (N := 39) (n := 2) (idx := 254) E (ct_G_X11_mayOn X.2.1) (by rw [hR]; decide) (Nat.zero_le _) (Nat.zero_le _) hG rfl rfl ⟨rfl, by decide, by decide, by decide⟩ (fun _ => ⟨_, _, rfl, rfl⟩) wl_X11_254 wi_X11_mayOn ws_X11_mayOn wn_X11 wc_X11_mayOn, fun _ h => absurd h List.not_mem_nil⟩⟩⟩⟩⟩) R sok_no E
  show WP_ X G Q 0 0 ad SHS_ σ 0 [(42, 86), (0, a1), (9, 0), (9, 0), (9, 0)] []
  refine B rfl ?_
  refine Exists.intro a1 (And.intro rfl (And.intro hp0 ?_))
  rintro z1 m_ h2
  obtain rfl : σ = m_ := h2.2
  have h3 : z1 < 0 ∨ (0 ≤ a1 ∧ a1 ≤ 3 ∧ 0 ≤ σ 102 a1 ∧ σ 102 a1 ≤ 60 ∧ OD σ a1) := h2.1
  have hqo := h2.1
  try dsimp only at hqo
  refine And.intro (fun h4 => ?_) (fun h4 => ?_)
  · skip
    refine B rfl ?_
    have hqq := hqo.resolve_left (by omega)
    have hod0 : OD σ a1 := hqq.2.2.2.2
    refine Exists.intro () (And.intro rfl (And.intro hp0 ?_))
    intro z5 σ7 h6
    have f8 : ∀ k j : Int, ¬ (93 ≤ k ∧ k ≤ 96) → σ7 k j = σ k j := h6.2
    have h9 : LY σ7 := h6.1
    show WP_ X G Q 0 0 ad SHS_ σ7 21 [(42, 86), (0, a1), (0, z1), (0, 0), (0, 0)] []
    refine wdrop_ (L' := [(42, 86), (0, a1), (9, 0), (0, 0), (0, 0)]) ⟨Or.inr rfl, ⟨Or.inr rfl, ⟨Or.inl rfl, ⟨Or.inr rfl, ⟨Or.inr rfl, trivial⟩⟩⟩⟩⟩ ?_
    have lp_21 : ∀ (nq_ : Nat) (v3 : Int) (v4 : Int), (0 ≤ v4) → (v4 ≤ 15) → (0 ≤ v3) → (v3 ≤ v4) → (15 - v4 : Int).toNat < nq_ → WP_ X G Q 0 0 ad SHS_ σ7 21 [(42, 86), (0, a1), (9, 0), (0, v3), (0, v4)] [] := by
      intro nq_
      induction nq_ with
      | zero => intros; omega
      | succ nq_ ih_21 =>
        intro v3 v4 hi21_0 hi21_1 hi21_2 hi21_3 hm21
        refine B rfl ?_
        refine And.intro (by omega) ?_
        refine And.intro (by omega) ?_
        intro z10 ez10 hz10
        have hz10 : ((-1) : Int) ≤ z10 ∧ z10 ≤ (60 : Int) := hz10
        try have t11 : σ7 102 a1 = σ 102 a1 := (f8 _ _ (by omega))
        refine And.intro (fun h12 => ?_) (fun h12 => ?_)
        · skip
          refine B rfl ?_
          refine Exists.intro _ (And.intro rfl ?_)
          exact (fun k j hk => (f8 _ _ (by omega)))
        · skip
          show WP_ X G Q 0 0 ad SHS_ σ7 34 [(42, 86), (0, a1), (9, 0), (0, v3), (0, v4)] []
          refine B rfl ?_
          refine And.intro (by omega) ?_
          have p13 : OD σ7 a1 := OD_fr hod0 (fun k j hk => (f8 _ _ (by omega)))
          have o14 := p13 v4 (by omega) (by omega)
          unfold ODe at o14
          refine Exists.intro (a1, 4 * v4) (And.intro rfl (And.intro (And.intro (by show 0 ≤ a1; omega) (And.intro (by show a1 ≤ 3; omega) (And.intro (by show 0 ≤ (4 * v4); omega) (by show (4 * v4) ≤ 59; omega)))) ?_))
          rintro z15 m_ h16
          obtain rfl : σ7 = m_ := h16.2.2.2
          have h17 : z15 = l2i_ (σ7 104 (60 * a1 + (4 * v4))) := h16.1
          try have t18 : σ7 104 (60 * a1 + (4 * v4)) = σ 104 (60 * a1 + (4 * v4)) := (f8 _ _ (by omega))
          have h19 : -2147483648 ≤ z15 ∧ z15 ≤ 2147483647 := h16.2.1
          have h20 : -2147483648 ≤ σ7 104 (60 * a1 + (4 * v4)) ∧ σ7 104 (60 * a1 + (4 * v4)) ≤ 2147483647 → z15 = σ7 104 (60 * a1 + (4 * v4)) := h16.2.2.1
          have q21 : z15 = l2i_ (σ7 104 (60 * a1 + (4 * v4))) := by omega
          subst q21
          have p22 : MI σ7 := MI_fr hp0 (fun k j hk => (f8 _ _ (by omega)))
          have p23 : BW σ7 87 := (p22).1.1
          try have t24 : σ7 104 (60 * a1 + 4 * v4) = σ 104 (60 * a1 + 4 * v4) := (f8 _ _ (by omega))
          try have t25 : σ7 104 (60 * a1 + (4 * v4 + 1)) = σ 104 (60 * a1 + (4 * v4 + 1)) := (f8 _ _ (by omega))
          try have t26 : σ7 104 (60 * a1 + (4 * v4 + 2)) = σ 104 (60 * a1 + (4 * v4 + 2)) := (f8 _ _ (by omega))
          try have t27 : σ7 104 (60 * a1 + (4 * v4 + 3)) = σ 104 (60 * a1 + (4 * v4 + 3)) := (f8 _ _ (by omega))
          refine Exists.intro (a1, v4) (And.intro rfl (And.intro (And.intro p23 (And.intro (by show 0 ≤ a1; omega) (And.intro (by show a1 ≤ 3; omega) (And.intro (by show 0 ≤ v4; omega) (And.intro (by show v4 ≤ 14; omega) (And.intro (by show 0 ≤ l2i_ (σ7 104 (60 * a1 + 4 * v4)); omega) (And.intro (by show l2i_ (σ7 104 (60 * a1 + 4 * v4)) ≤ 2; omega) (And.intro (by show 0 ≤ l2i_ (σ7 104 (60 * a1 + (4 * v4 + 1))); omega) (And.intro (by show l2i_ (σ7 104 (60 * a1 + (4 * v4 + 1))) ≤ 1999; omega) (And.intro (by show 0 ≤ l2i_ (σ7 104 (60 * a1 + (4 * v4 + 2))); omega) (And.intro (by show l2i_ (σ7 104 (60 * a1 + (4 * v4 + 2))) ≤ 7; omega) (And.intro (by show 0 ≤ l2i_ (σ7 104 (60 * a1 + (4 * v4 + 3))); omega) (by show l2i_ (σ7 104 (60 * a1 + (4 * v4 + 3))) ≤ 68; omega))))))))))))) ?_))
          rintro z28 m_ h29
          obtain rfl : σ7 = m_ := h29.2.2
          have h30 : z28 = dayF_ (σ7 87) (l2i_ (σ7 104 (60 * a1 + 4 * v4))) (l2i_ (σ7 104 (60 * a1 + (4 * v4 + 1)))) (l2i_ (σ7 104 (60 * a1 + (4 * v4 + 2)))) (l2i_ (σ7 104 (60 * a1 + (4 * v4 + 3)))) := h29.1
          have h31 : 0 ≤ z28 ∧ z28 ≤ 4000 := h29.2.1
          refine Exists.intro (l2i_ (σ7 104 (60 * a1 + (4 * v4))), z28) (And.intro rfl (And.intro (And.intro (by show 0 ≤ (l2i_ (σ7 104 (60 * a1 + (4 * v4)))); omega) (And.intro (by show (l2i_ (σ7 104 (60 * a1 + (4 * v4)))) ≤ 2; omega) (And.intro (by show 0 ≤ z28; omega) (by show z28 ≤ 1999; omega)))) ?_))
          rintro z32 m_ h33
          obtain rfl : σ7 = m_ := h33.2
          have h34 : (z32 = 1 ∧ σ7 96 (2000 * (l2i_ (σ7 104 (60 * a1 + (4 * v4)))) + z28) = 0) ∨ (z32 = 0 ∧ σ7 96 (2000 * (l2i_ (σ7 104 (60 * a1 + (4 * v4)))) + z28) ≠ 0) := h33.1
          refine And.intro (fun h35 => ?_) (fun h35 => ?_)
          · skip
            refine B rfl ?_
            refine And.intro (by omega) ?_
            refine And.intro (by omega) ?_
            exact ih_21 (v3 + 1) (v4 + 1) (by show 0 ≤ (v4 + 1); omega) (by show (v4 + 1) ≤ 15; omega) (by show 0 ≤ (v3 + 1); omega) (by show (v3 + 1) ≤ (v4 + 1); omega) (by omega)
          · skip
            show WP_ X G Q 0 0 ad SHS_ σ7 58 [(42, 86), (0, a1), (9, 0), (0, v3), (0, v4)] [(0, v3)]
            refine B rfl ?_
            refine B rfl ?_
            refine And.intro (by omega) ?_
            refine And.intro (by omega) ?_
            exact ih_21 (v3 + 0) (v4 + 1) (by show 0 ≤ (v4 + 1); omega) (by show (v4 + 1) ≤ 15; omega) (by show 0 ≤ (v3 + 0); omega) (by show (v3 + 0) ≤ (v4 + 1); omega) (by omega)
    exact lp_21 ((15 - 0 : Int).toNat + 1) 0 0 (by show 0 ≤ 0; omega) (by show 0 ≤ 15; omega) (by show 0 ≤ 0; omega) (by show 0 ≤ 0; omega) (by omega)
  · skip
    show WP_ X G Q 0 0 ad SHS_ σ 10 [(42, 86), (0, a1), (0, z1), (9, 0), (9, 0)] []
    refine B rfl ?_
    refine Exists.intro _ (And.intro rfl ?_)
    exact (fun k j hk => rfl)
def as_G_X11_asksSeen : Int × Int × Int × Int → List Sv_t := fun a => [(42, 86), (0, a.1), (0, a.2.1), (0, a.2.2.1), (0, a.2.2.2)]
def pre_G_X11_asksSeen : Int × Int × Int × Int → Me_t → Prop := fun a σ => (MI σ)
def post_G_X11_asksSeen : Int × Int × Int × Int → Me_t → Int → Me_t → Prop := fun a σ z σ' => (z < 0 ∨ (0 ≤ a.1 ∧ a.1 ≤ 3 ∧ 0 ≤ a.2.1 ∧ a.2.1 ≤ a.2.2.1 ∧ a.2.2.1 ≤ 1999 ∧ SN σ' a.1)) ∧ (∀ k j : Int, ¬ (93 ≤ k ∧ k ≤ 96) → σ' k j = σ k j)
set_option maxHeartbeats 1500000 in
set_option maxRecDepth 100000 in
theorem ct_G_X11_asksSeen (l : Launch) : CT_ l yX11_asksSeen cX11_asksSeen 6 (some .int) 4 92 as_G_X11_asksSeen (rmI_) pre_G_X11_asksSeen post_G_X11_asksSeen := by
  refine ct_of (by decide) (fun _ => Nat.le_of_ble_eq_true rfl) ?_
  intro X G Q ad σ a hl hR E hG R hM hv hp
  obtain ⟨a1, a2, a3, a4⟩ := a
  have r_a1 : -2147483648 ≤ a1 ∧ a1 ≤ 2147483647 := hv (0, a1) (List.mem_of_getElem? (i := 1) rfl)
  have r_a2 : -2147483648 ≤ a2 ∧ a2 ≤ 2147483647 := hv (0, a2) (List.mem_of_getElem? (i := 2) rfl)
  have r_a3 : -2147483648 ≤ a3 ∧ a3 ≤ 2147483647 := hv (0, a3) (List.mem_of_getElem? (i := 3) rfl)
  have r_a4 : -2147483648 ≤ a4 ∧ a4 ≤ 2147483647 := hv (0, a4) (List.mem_of_getElem? (i := 4) rfl)
  have hp0 : MI σ := hp
  have B := @bk_ X G Q 0 0 ad SHS_ RX11 cX11_asksSeen 6 (some .int) flX11 plX11 knX11 [(723, 1, TR_ as_G_X11_isSlot (rmI_) pre_G_X11_isSlot post_G_X11_isSlot), (593, 2, TR_ as_G_X11_isSpan (rmI_) pre_G_X11_isSpan post_G_X11_isSpan), (184, 1, TR_ as_G_X11_isWar (rmI_) pre_G_X11_isWar post_G_X11_isWar), (538, 1, TR_ as_G_X11_lay (rmV_) pre_G_X11_lay post_G_X11_lay), (708, 3, TR_ as_G_X11_numberAt (rmL_) pre_G_X11_numberAt post_G_X11_numberAt), (166, 2, TR_ as_G_X11_isLand (rmI_) pre_G_X11_isLand post_G_X11_isLand), (159, 3, TR_ as_G_X11_in (rmI_) pre_G_X11_in post_G_X11_in)] _ _ none kX11_asksSeen [7, 15, 22, 27, 40, 54, 60, 71, 85, 104] flX11_ok plX11_ok knX11_ok eX11_asksSeen oX11_asksSeen
    (List.forall_mem_cons.mpr ⟨cok_s (n := 1) (idx := 361) E (ct_G_X11_isSlot X.2.1) (by rw [hR]; decide) (Nat.zero_le _) (Nat.zero_le _) hG ⟨by decide, by decide, by decide⟩ (fun _ => rfl) wl_X11_361 wt_X11_isSlot wn_X11 wc_X11_isSlot, List.forall_mem_cons.mpr ⟨cok_s (n := 2) (idx := 296) E (ct_G_X11_isSpan X.2.1) (by rw [hR]; decide) (Nat.zero_le _) (Nat.zero_le _) hG ⟨by decide, by decide, by decide⟩ (fun _ => rfl) wl_X11_296 wt_X11_isSpan wn_X11 wc_X11_isSpan, List.forall_mem_cons.mpr ⟨cok_v (t := 32) (c := 11) (N := 39) (n := 0) (idx := 92) E (ct_G_X11_isWar X.2.1) (by rw [hR]; decide) (Nat.zero_le _) (Nat.zero_le _) hG rfl rfl ⟨rfl, by decide, by decide, by decide⟩ (fun _ => ⟨_, _, rfl, rfl⟩) wl_X11_92 wi_X11_isWar ws_X11_isWar wn_X11 wc_X11_isWar, List.forall_mem_cons.mpr ⟨cok_v (t := 32) (c := 11) (N := 39) (n := 0) (idx := 269) E (ct_G_X11_lay X.2.1) (by rw [hR]; decide) (Nat.zero_le _) (Nat.zero_le _) hG rfl rfl ⟨rfl, by decide, by decide, by decide⟩ (fun _ => ⟨_, _, rfl, rfl⟩) wl_X11_269 wi_X11_lay ws_X11_lay wn_X11 wc_X11_lay, List.forall_mem_cons.mpr ⟨cok_v (t := 32) (c := 11) (N := 39) (n := 2) (idx := 354) E (ct_G_X11_numberAt X.2.1) (by rw [hR]; decide) (Nat.zero_le _) (Nat.zero_le _) hG rfl rfl ⟨rfl, by decide, by decide, by decide⟩ (fun _ => ⟨_, _, rfl, rfl⟩) wl_X11_354 wi_X11_numberAt ws_X11_numberAt wn_X11 wc_X11_numberAt, List.forall_mem_cons.mpr ⟨cok_v (t := 32) (c := 11) (N := 39) (n := 1) (idx := 83) E (ct_G_X11_isLand X.2.1) (by rw [hR]; decide) (Nat.zero_le _) (Nat.zero_le _) hG rfl rfl ⟨rfl, by decide, by decide, by decide⟩ (fun _ => ⟨_, _, rfl, rfl⟩) wl_X11_83 wi_X11_isLand ws_X11_isLand wn_X11 wc_X11_isLand, List.forall_mem_cons.mpr ⟨cok_s (n := 3) (idx := 79) E (ct_G_X11_in X.2.1) (by rw [hR]; decide) (Nat.zero_le _) (Nat.zero_le _) hG ⟨by decide, by decide, by decide⟩ (fun _ => rfl) wl_X11_79 wt_X11_in wn_X11 wc_X11_in, fun _ h => absurd h List.not_mem_nil⟩⟩⟩⟩⟩⟩⟩) R sok_no E
  show WP_ X G Q 0 0 ad SHS_ σ 0 [(42, 86), (0, a1), (0, a2), (0, a3), (0, a4), (9, 0)] []
  refine B rfl ?_
  refine Exists.intro a1 (And.intro rfl (And.intro True.intro ?_))
  rintro z1 m_ h2
  obtain rfl : σ = m_ := h2.2
  have h3 : (z1 = 1 ∧ 0 ≤ a1 ∧ a1 ≤ 3) ∨ (z1 = 0 ∧ ¬ (0 ≤ a1 ∧ a1 ≤ 3)) := h2.1
  refine And.intro (fun h4 => ?_) (fun h4 => ?_)
  · skip
    refine B rfl ?_
    refine Exists.intro _ (And.intro rfl ?_)
    exact (And.intro (by show (-2) < 0 ∨ (0 ≤ a1 ∧ a1 ≤ 3 ∧ 0 ≤ a2 ∧ a2 ≤ a3 ∧ a3 ≤ 1999 ∧ SN σ a1); exact Or.inl (by omega)) (fun k j hk => rfl))
  · skip
    show WP_ X G Q 0 0 ad SHS_ σ 7 [(42, 86), (0, a1), (0, a2), (0, a3), (0, a4), (9, 0)] []
    refine B rfl ?_
    refine Exists.intro (a2, a3) (And.intro rfl (And.intro True.intro ?_))
    rintro z5 m_ h6
    obtain rfl : σ = m_ := h6.2
    have h7 : (z5 = 1 ∧ 0 ≤ a2 ∧ a2 ≤ a3 ∧ a3 ≤ 1999) ∨ z5 = 0 := h6.1
    refine And.intro (fun h8 => ?_) (fun h8 => ?_)
    · skip
      refine B rfl ?_
      refine Exists.intro _ (And.intro rfl ?_)
      exact (And.intro (by show (-2) < 0 ∨ (0 ≤ a1 ∧ a1 ≤ 3 ∧ 0 ≤ a2 ∧ a2 ≤ a3 ∧ a3 ≤ 1999 ∧ SN σ a1); exact Or.inl (by omega)) (fun k j hk => rfl))
    · skip
      show WP_ X G Q 0 0 ad SHS_ σ 15 [(42, 86), (0, a1), (0, a2), (0, a3), (0, a4), (9, 0)] []
      refine B rfl ?_
      refine Exists.intro () (And.intro rfl (And.intro True.intro ?_))
      rintro z9 m_ h10
      obtain rfl : σ = m_ := h10.2
      have h11 : 0 ≤ z9 ∧ z9 ≤ 1 := h10.1
      refine And.intro (fun h12 => ?_) (fun h12 => ?_)
      · skip
        refine B rfl ?_
        refine Exists.intro _ (And.intro rfl ?_)
        exact (And.intro (by show (-2) < 0 ∨ (0 ≤ a1 ∧ a1 ≤ 3 ∧ 0 ≤ a2 ∧ a2 ≤ a3 ∧ a3 ≤ 1999 ∧ SN σ a1); exact Or.inl (by omega)) (fun k j hk => rfl))
      · skip
        show WP_ X G Q 0 0 ad SHS_ σ 22 [(42, 86), (0, a1), (0, a2), (0, a3), (0, a4), (9, 0)] []
        refine B rfl ?_
        refine And.intro (fun h13 => ?_) (fun h13 => ?_)
        · skip
          refine B rfl ?_
          refine And.intro (by omega) ?_
          intro z14 ez14 hz14
          have hz14 : ((-1) : Int) ≤ z14 ∧ z14 ≤ (60 : Int) := hz14
          refine And.intro (fun h15 => ?_) (fun h15 => ?_)
          · skip
            refine B rfl ?_
            refine And.intro (by omega) ?_
            intro z16 ez16 hz16
            have q17 : z14 = z16 := ez14.trans ez16.symm
            subst q17
            have q18 : Int.tmod z14 3 = z14 % 3 := Int.tmod_eq_emod_of_nonneg (by omega)
            refine And.intro (by omega) ?_
            refine And.intro (fun h19 => ?_) (fun h19 => ?_)
            · skip
              refine B rfl ?_
              show WP_ X G Q 0 0 ad SHS_ σ 60 [(42, 86), (0, a1), (0, a2), (0, a3), (0, a4), (0, 0)] []
              refine wdrop_ (L' := [(42, 86), (0, a1), (9, 0), (9, 0), (9, 0), (0, 0)]) ⟨Or.inr rfl, ⟨Or.inr rfl, ⟨Or.inl rfl, ⟨Or.inl rfl, ⟨Or.inl rfl, ⟨Or.inr rfl, trivial⟩⟩⟩⟩⟩⟩ ?_
              have lp_60 : ∀ (nq_ : Nat) (v5 : Int), (0 ≤ v5) → (v5 ≤ 60) → (v5 % 3 = 0) → (∀ j : Int, 0 ≤ j → j < v5 → j % 3 = 0 → SNe σ a1 j) → (60 - v5 : Int).toNat < nq_ → WP_ X G Q 0 0 ad SHS_ σ 60 [(42, 86), (0, a1), (9, 0), (9, 0), (9, 0), (0, v5)] [] := by
                intro nq_
                induction nq_ with
                | zero => intros; omega
                | succ nq_ ih_60 =>
                  intro v5 hi60_0 hi60_1 hi60_2 hi60_3 hm60
                  refine B rfl ?_
                  refine And.intro (by omega) ?_
                  intro z20 ez20 hz20
                  have q21 : z14 = z20 := ez14.trans ez20.symm
                  subst q21
                  refine And.intro (fun h22 => ?_) (fun h22 => ?_)
                  · skip
                    refine B rfl ?_
                    have hsn0 : SN σ a1 := fun j h1 h2 h3 => hi60_3 j h1 (by omega) h3
                    refine Exists.intro () (And.intro rfl (And.intro hp0 ?_))
                    intro z23 σ25 h24
                    have f26 : ∀ k j : Int, ¬ (93 ≤ k ∧ k ≤ 96) → σ25 k j = σ k j := h24.2
                    have h27 : LY σ25 := h24.1
                    refine Exists.intro _ (And.intro rfl ?_)
                    have p28 : SN σ25 a1 := SN_fr hsn0 (fun k j hk => (f26 _ _ (by omega)))
                    exact (And.intro (by show 0 < 0 ∨ (0 ≤ a1 ∧ a1 ≤ 3 ∧ 0 ≤ a2 ∧ a2 ≤ a3 ∧ a3 ≤ 1999 ∧ SN σ25 a1); exact Or.inr ⟨by omega, by omega, by omega, by omega, by omega, p28⟩) (fun k j hk => (f26 _ _ (by omega))))
                  · skip
                    show WP_ X G Q 0 0 ad SHS_ σ 71 [(42, 86), (0, a1), (9, 0), (9, 0), (9, 0), (0, v5)] []
                    refine B rfl ?_
                    refine Exists.intro (a1, v5) (And.intro rfl (And.intro (And.intro (by show 0 ≤ a1; omega) (And.intro (by show a1 ≤ 3; omega) (And.intro (by show 0 ≤ v5; omega) (by show v5 ≤ 59; omega)))) ?_))
                    rintro z29 m_ h30
                    obtain rfl : σ = m_ := h30.2
                    have h31 : z29 = σ 104 (60 * a1 + v5) := h30.1
                    have q32 : z29 = σ 104 (60 * a1 + v5) := by omega
                    subst q32
                    have p33 : BW σ 87 := (hp0).1.1
                    refine Exists.intro (σ 104 (60 * a1 + v5)) (And.intro rfl (And.intro p33 ?_))
                    rintro z34 m_ h35
                    obtain rfl : σ = m_ := h35.2
                    have h36 : (z34 = 1 ∧ 0 ≤ (σ 104 (60 * a1 + v5)) ∧ (σ 104 (60 * a1 + v5)) ≤ 2 ∧ (σ 104 (60 * a1 + v5)) < σ 87 1) ∨ z34 = 0 := h35.1
                    refine And.intro (fun h37 => ?_) (fun h37 => ?_)
                    · skip
                      refine B rfl ?_
                      refine Exists.intro _ (And.intro rfl ?_)
                      exact (And.intro (by show (-2) < 0 ∨ (0 ≤ a1 ∧ a1 ≤ 3 ∧ 0 ≤ a2 ∧ a2 ≤ a3 ∧ a3 ≤ 1999 ∧ SN σ a1); exact Or.inl (by omega)) (fun k j hk => rfl))
                    · skip
                      show WP_ X G Q 0 0 ad SHS_ σ 85 [(42, 86), (0, a1), (9, 0), (9, 0), (9, 0), (0, v5)] []
                      refine B rfl ?_
                      refine And.intro (by omega) ?_
                      refine Exists.intro (a1, v5 + 1) (And.intro rfl (And.intro (And.intro (by show 0 ≤ a1; omega) (And.intro (by show a1 ≤ 3; omega) (And.intro (by show 0 ≤ (v5 + 1); omega) (by show (v5 + 1) ≤ 59; omega)))) ?_))
                      rintro z38 m_ h39
                      obtain rfl : σ = m_ := h39.2
                      have h40 : z38 = σ 104 (60 * a1 + (v5 + 1)) := h39.1
                      have q41 : z38 = σ 104 (60 * a1 + (v5 + 1)) := by omega
                      subst q41
                      refine Exists.intro (σ 104 (60 * a1 + (v5 + 1)), 0, 4) (And.intro rfl (And.intro True.intro ?_))
                      rintro z42 m_ h43
                      obtain rfl : σ = m_ := h43.2
                      have h44 : (z42 = 1 ∧ 0 ≤ (σ 104 (60 * a1 + (v5 + 1))) ∧ (σ 104 (60 * a1 + (v5 + 1))) ≤ 4) ∨ (z42 = 0 ∧ ¬ (0 ≤ (σ 104 (60 * a1 + (v5 + 1))) ∧ (σ 104 (60 * a1 + (v5 + 1))) ≤ 4)) := h43.1
                      refine And.intro (fun h45 => ?_) (fun h45 => ?_)
                      · skip
                        refine B rfl ?_
                        refine And.intro (by omega) ?_
                        exact ih_60 (v5 + 3) (by show 0 ≤ (v5 + 3); omega) (by show (v5 + 3) ≤ 60; omega) (by show (v5 + 3) % 3 = 0; omega) (by show ∀ j : Int, 0 ≤ j → j < (v5 + 3) → j % 3 = 0 → SNe σ a1 j; intro j h1 h2 h3; by_cases hj : j = v5; subst hj; unfold SNe; rw [(l2i_t (x := σ 104 (60 * a1 + j))).1 (by omega), (l2i_t (x := σ 104 (60 * a1 + (j + 1)))).1 (by omega)]; refine ⟨⟨?_, ?_, ?_⟩, ?_, ?_⟩ <;> omega; exact hi60_3 j h1 (by omega) h3) (by omega)
                      · skip
                        show WP_ X G Q 0 0 ad SHS_ σ 104 [(42, 86), (0, a1), (9, 0), (9, 0), (9, 0), (0, v5)] []
                        refine B rfl ?_
                        refine Exists.intro _ (And.intro rfl ?_)
                        exact (And.intro (by show (-2) < 0 ∨ (0 ≤ a1 ∧ a1 ≤ 3 ∧ 0 ≤ a2 ∧ a2 ≤ a3 ∧ a3 ≤ 1999 ∧ SN σ a1); exact Or.inl (by omega)) (fun k j hk => rfl))
              exact lp_60 ((60 - 0 : Int).toNat + 1) 0 (by show 0 ≤ 0; omega) (by show 0 ≤ 60; omega) (by show 0 % 3 = 0; omega) (by show ∀ j : Int, 0 ≤ j → j < 0 → j % 3 = 0 → SNe σ a1 j; intro j h1 h2; omega) (by omega)
            · skip
              show WP_ X G Q 0 0 ad SHS_ σ 54 [(42, 86), (0, a1), (0, a2), (0, a3), (0, a4), (9, 0)] []
              refine B rfl ?_
              refine Exists.intro _ (And.intro rfl ?_)
              exact (And.intro (by show (-2) < 0 ∨ (0 ≤ a1 ∧ a1 ≤ 3 ∧ 0 ≤ a2 ∧ a2 ≤ a3 ∧ a3 ≤ 1999 ∧ SN σ a1); exact Or.inl (by omega)) (fun k j hk => rfl))
          · skip
            show WP_ X G Q 0 0 ad SHS_ σ 40 [(42, 86), (0, a1), (0, a2), (0, a3), (0, a4), (9, 0)] []
            refine B rfl ?_
            refine Exists.intro _ (And.intro rfl ?_)
            exact (And.intro (by show (-6) < 0 ∨ (0 ≤ a1 ∧ a1 ≤ 3 ∧ 0 ≤ a2 ∧ a2 ≤ a3 ∧ a3 ≤ 1999 ∧ SN σ a1); exact Or.inl (by omega)) (fun k j hk => rfl))
        · skip
          show WP_ X G Q 0 0 ad SHS_ σ 27 [(42, 86), (0, a1), (0, a2), (0, a3), (0, a4), (9, 0)] []
          refine B rfl ?_
          refine Exists.intro _ (And.intro rfl ?_)
          exact (And.intro (by show (-2) < 0 ∨ (0 ≤ a1 ∧ a1 ≤ 3 ∧ 0 ≤ a2 ∧ a2 ≤ a3 ∧ a3 ≤ 1999 ∧ SN σ a1); exact Or.inl (by omega)) (fun k j hk => rfl))
def as_G_X11_seen : Int × Int × Int → List Sv_t := fun a => [(42, 86), (0, a.1), (0, a.2.1), (0, a.2.2)]
def pre_G_X11_seen : Int × Int × Int → Me_t → Prop := fun a σ => (BW σ 87) ∧ (0 ≤ a.1) ∧ (a.1 ≤ 2) ∧ (1 ≤ σ 87 (6 + 15 * a.1 + 1)) ∧ (0 ≤ a.2.1) ∧ (a.2.1 ≤ 4) ∧ (0 ≤ a.2.2) ∧ (a.2.2 ≤ 1999)
def post_G_X11_seen : Int × Int × Int → Me_t → Int → Me_t → Prop := fun a σ z σ' => (-1 ≤ z ∧ z ≤ 2000) ∧ (a.2.1 = 1 → z ≤ 7) ∧ (a.2.1 = 3 → z ≤ 9) ∧ (a.2.1 = 4 → 0 ≤ z ∧ z ≤ 1) ∧ (σ = σ')
set_option maxHeartbeats 1500000 in
set_option maxRecDepth 100000 in
theorem ct_G_X11_seen (l : Launch) : CT_ l yX11_seen cX11_seen 4 (some .int) 3 67 as_G_X11_seen (rmI_) pre_G_X11_seen post_G_X11_seen := by
  refine ct_of (by decide) (fun _ => Nat.le_of_ble_eq_true rfl) ?_
  intro X G Q ad σ a hl hR E hG R hM hv hp
  obtain ⟨a1, a2, a3⟩ := a
  have r_a1 : -2147483648 ≤ a1 ∧ a1 ≤ 2147483647 := hv (0, a1) (List.mem_of_getElem? (i := 1) rfl)
  have r_a2 : -2147483648 ≤ a2 ∧ a2 ≤ 2147483647 := hv (0, a2) (List.mem_of_getElem? (i := 2) rfl)
  have r_a3 : -2147483648 ≤ a3 ∧ a3 ≤ 2147483647 := hv (0, a3) (List.mem_of_getElem? (i := 3) rfl)
  have hp0 : BW σ 87 := hp.1
  have hp1 : 0 ≤ a1 := hp.2.1
  have hp2 : a1 ≤ 2 := hp.2.2.1
  have hp3 : 1 ≤ σ 87 (6 + 15 * a1 + 1) := hp.2.2.2.1
  have hp4 : 0 ≤ a2 := hp.2.2.2.2.1
  have hp5 : a2 ≤ 4 := hp.2.2.2.2.2.1
  have hp6 : 0 ≤ a3 := hp.2.2.2.2.2.2.1
  have hp7 : a3 ≤ 1999 := hp.2.2.2.2.2.2.2
  have B := @bk_ X G Q 0 0 ad SHS_ RX11 cX11_seen 4 (some .int) flX11 plX11 knX11 [(544, 4, TR_ as_G_X11_dateOf_x (rmI_) pre_G_X11_dateOf_x post_G_X11_dateOf_x), (508, 3, TR_ as_G_X11_mayOn (rmI_) pre_G_X11_mayOn post_G_X11_mayOn)] _ _ none kX11_seen [] flX11_ok plX11_ok knX11_ok eX11_seen oX11_seen
    (List.forall_mem_cons.mpr ⟨cok_v (t := 32) (c := 11) (N := 39) (n := 3) (idx := 272) E (ct_G_X11_dateOf_x X.2.1) (by rw [hR]; decide) (Nat.zero_le _) (Nat.zero_le _) hG rfl rfl ⟨rfl, by decide, by decide, by decide⟩ (fun _ => ⟨_, _, rfl, rfl⟩) wl_X11_272 wi_X11_dateOf ws_X11_dateOf wn_X11 wc_X11_dateOf, List.forall_mem_cons.mpr ⟨cok_v (t := 32) (c := 11) (N := 39) (n := 2) (idx := 254) E (ct_G_X11_mayOn X.2.1) (by rw [hR]; decide) (Nat.zero_le _) (Nat.zero_le _) hG rfl rfl ⟨rfl, by decide, by decide, by decide⟩ (fun _ => ⟨_, _, rfl, rfl⟩) wl_X11_254 wi_X11_mayOn ws_X11_mayOn wn_X11 wc_X11_mayOn, fun _ h => absurd h List.not_mem_nil⟩⟩) R sok_no E
  show WP_ X G Q 0 0 ad SHS_ σ 0 [(42, 86), (0, a1), (0, a2), (0, a3)] []
  refine B rfl ?_
  refine And.intro (fun h1 => ?_) (fun h1 => ?_)
  · skip
    refine B rfl ?_
    refine Exists.intro (a1, a3, a2) (And.intro rfl (And.intro (And.intro hp0 (And.intro (by show 0 ≤ a1; omega) (And.intro (by show a1 ≤ 2; omega) (And.intro (by show 0 ≤ a3; omega) (And.intro (by show a3 ≤ 1999; omega) (by show 1 ≤ σ 87 (6 + 15 * a1 + 1); omega)))))) ?_))
    rintro z2 m_ h3
    obtain rfl : σ = m_ := h3.2.2.2
    have h4 : -1 ≤ z2 ∧ z2 ≤ 2000 := h3.1
    have h5 : a2 = 1 → z2 ≤ 7 := h3.2.1
    have h6 : a2 = 3 → z2 ≤ 9 := h3.2.2.1
    refine Exists.intro _ (And.intro rfl ?_)
    exact (And.intro (by show -1 ≤ z2 ∧ z2 ≤ 2000; omega) (And.intro (by show a2 = 1 → z2 ≤ 7; omega) (And.intro (by show a2 = 3 → z2 ≤ 9; omega) (And.intro (by show a2 = 4 → 0 ≤ z2 ∧ z2 ≤ 1; omega) rfl))))
  · skip
    refine Exists.intro (a1, a3) (And.intro rfl (And.intro (And.intro (by show 0 ≤ a1; omega) (And.intro (by show a1 ≤ 2; omega) (And.intro (by show 0 ≤ a3; omega) (by show a3 ≤ 1999; omega)))) ?_))
    rintro z7 m_ h8
    obtain rfl : σ = m_ := h8.2
    have h9 : (z7 = 1 ∧ σ 96 (2000 * a1 + a3) = 0) ∨ (z7 = 0 ∧ σ 96 (2000 * a1 + a3) ≠ 0) := h8.1
    refine And.intro (fun h10 => ?_) (fun h10 => ?_)
    · skip
      refine B rfl ?_
      refine B rfl ?_
      refine Exists.intro _ (And.intro rfl ?_)
      exact (And.intro (by show -1 ≤ 0 ∧ 0 ≤ 2000; omega) (And.intro (by show a2 = 1 → 0 ≤ 7; omega) (And.intro (by show a2 = 3 → 0 ≤ 9; omega) (And.intro (by show a2 = 4 → 0 ≤ 0 ∧ 0 ≤ 1; omega) rfl))))
    · skip
      refine B rfl ?_
      refine Exists.intro _ (And.intro rfl ?_)
      exact (And.intro (by show -1 ≤ 1 ∧ 1 ≤ 2000; omega) (And.intro (by show a2 = 1 → 1 ≤ 7; omega) (And.intro (by show a2 = 3 → 1 ≤ 9; omega) (And.intro (by show a2 = 4 → 0 ≤ 1 ∧ 1 ≤ 1; omega) rfl))))
def as_G_X11_isSeen : Int × Int → List Sv_t := fun a => [(42, 86), (0, a.1), (0, a.2)]
def pre_G_X11_isSeen : Int × Int → Me_t → Prop := fun a σ => (MI σ) ∧ (SN σ a.1) ∧ (0 ≤ a.1) ∧ (a.1 ≤ 3) ∧ (0 ≤ a.2) ∧ (a.2 ≤ 1999)
def post_G_X11_isSeen : Int × Int → Me_t → Int → Me_t → Prop := fun a σ z σ' => (0 ≤ z ∧ z ≤ 1) ∧ (σ = σ')
set_option maxHeartbeats 1500000 in
set_option maxRecDepth 100000 in
theorem ct_G_X11_isSeen (l : Launch) : CT_ l yX11_isSeen cX11_isSeen 5 (some .boolean) 4 90 as_G_X11_isSeen (rmI_) pre_G_X11_isSeen post_G_X11_isSeen := by
  refine ct_of (by decide) (fun _ => Nat.le_of_ble_eq_true rfl) ?_
  intro X G Q ad σ a hl hR E hG R hM hv hp
  obtain ⟨a1, a2⟩ := a
  have r_a1 : -2147483648 ≤ a1 ∧ a1 ≤ 2147483647 := hv (0, a1) (List.mem_of_getElem? (i := 1) rfl)
  have r_a2 : -2147483648 ≤ a2 ∧ a2 ≤ 2147483647 := hv (0, a2) (List.mem_of_getElem? (i := 2) rfl)
  have hp0 : MI σ := hp.1
  have hp1 : SN σ a1 := hp.2.1
  have hp2 : 0 ≤ a1 := hp.2.2.1
  have hp3 : a1 ≤ 3 := hp.2.2.2.1
  have hp4 : 0 ≤ a2 := hp.2.2.2.2.1
  have hp5 : a2 ≤ 1999 := hp.2.2.2.2.2
  have B := @bk_ X G Q 0 0 ad SHS_ RX11 cX11_isSeen 5 (some .boolean) flX11 plX11 knX11 [(716, 3, TR_ as_G_X11_intAt (rmI_) pre_G_X11_intAt post_G_X11_intAt), (746, 4, TR_ as_G_X11_seen (rmI_) pre_G_X11_seen post_G_X11_seen), (708, 3, TR_ as_G_X11_numberAt (rmL_) pre_G_X11_numberAt post_G_X11_numberAt)] _ _ none kX11_isSeen [2] flX11_ok plX11_ok knX11_ok eX11_isSeen oX11_isSeen
    (List.forall_mem_cons.mpr ⟨cok_v (t := 32) (c := 11) (N := 39) (n := 2) (idx := 358) E (ct_G_X11_intAt X.2.1) (by rw [hR]; decide) (Nat.zero_le _) (Nat.zero_le _) hG rfl rfl ⟨rfl, by decide, by decide, by decide⟩ (fun _ => ⟨_, _, rfl, rfl⟩) wl_X11_358 wi_X11_intAt ws_X11_intAt wn_X11 wc_X11_intAt, List.forall_mem_cons.mpr ⟨cok_v (t := 32) (c := 11) (N := 39) (n := 3) (idx := 373) E (ct_G_X11_seen X.2.1) (by rw [hR]; decide) (Nat.zero_le _) (Nat.zero_le _) hG rfl rfl ⟨rfl, by decide, by decide, by decide⟩ (fun _ => ⟨_, _, rfl, rfl⟩) wl_X11_373 wi_X11_seen ws_X11_seen wn_X11 wc_X11_seen, List.forall_mem_cons.mpr ⟨cok_v (t := 32) (c := 11) (N := 39) (n := 2) (idx := 354) E (ct_G_X11_numberAt X.2.1) (by rw [hR]; decide) (Nat.zero_le _) (Nat.zero_le _) hG rfl rfl ⟨rfl, by decide, by decide, by decide⟩ (fun _ => ⟨_, _, rfl, rfl⟩) wl_X11_354 wi_X11_numberAt ws_X11_numberAt wn_X11 wc_X11_numberAt, fun _ h => absurd h List.not_mem_nil⟩⟩⟩) R sok_no E
  show WP_ X G Q 0 0 ad SHS_ σ 0 [(42, 86), (0, a1), (0, a2), (9, 0), (9, 0)] []
  refine B rfl ?_
  have lp_2 : ∀ (nq_ : Nat) (v3 : Int), (0 ≤ v3) → (v3 ≤ 60) → (v3 % 3 = 0) → (60 - v3 : Int).toNat < nq_ → WP_ X G Q 0 0 ad SHS_ σ 2 [(42, 86), (0, a1), (0, a2), (0, v3), (9, 0)] [] := by
    intro nq_
    induction nq_ with
    | zero => intros; omega
    | succ nq_ ih_2 =>
      intro v3 hi2_0 hi2_1 hi2_2 hm2
      refine B rfl ?_
      refine And.intro (by omega) ?_
      intro z1 ez1 hz1
      have hz1 : ((-1) : Int) ≤ z1 ∧ z1 ≤ (60 : Int) := hz1
      refine And.intro (fun h2 => ?_) (fun h2 => ?_)
      · skip
        refine B rfl ?_
        refine And.intro (by omega) ?_
        refine Exists.intro _ (And.intro rfl ?_)
        exact (And.intro (by show 0 ≤ 1 ∧ 1 ≤ 1; omega) rfl)
      · skip
        refine Exists.intro (a1, v3) (And.intro rfl (And.intro (And.intro (by show 0 ≤ a1; omega) (And.intro (by show a1 ≤ 3; omega) (And.intro (by show 0 ≤ v3; omega) (by show v3 ≤ 59; omega)))) ?_))
        rintro z3 m_ h4
        obtain rfl : σ = m_ := h4.2.2.2
        have h5 : z3 = l2i_ (σ 104 (60 * a1 + v3)) := h4.1
        have h6 : -2147483648 ≤ z3 ∧ z3 ≤ 2147483647 := h4.2.1
        have h7 : -2147483648 ≤ σ 104 (60 * a1 + v3) ∧ σ 104 (60 * a1 + v3) ≤ 2147483647 → z3 = σ 104 (60 * a1 + v3) := h4.2.2.1
        have q8 : z3 = l2i_ (σ 104 (60 * a1 + v3)) := by omega
        subst q8
        refine And.intro (by omega) ?_
        refine Exists.intro (a1, v3 + 1) (And.intro rfl (And.intro (And.intro (by show 0 ≤ a1; omega) (And.intro (by show a1 ≤ 3; omega) (And.intro (by show 0 ≤ (v3 + 1); omega) (by show (v3 + 1) ≤ 59; omega)))) ?_))
        rintro z9 m_ h10
        obtain rfl : σ = m_ := h10.2.2.2
        have h11 : z9 = l2i_ (σ 104 (60 * a1 + (v3 + 1))) := h10.1
        have h12 : -2147483648 ≤ z9 ∧ z9 ≤ 2147483647 := h10.2.1
        have h13 : -2147483648 ≤ σ 104 (60 * a1 + (v3 + 1)) ∧ σ 104 (60 * a1 + (v3 + 1)) ≤ 2147483647 → z9 = σ 104 (60 * a1 + (v3 + 1)) := h10.2.2.1
        have q14 : z9 = l2i_ (σ 104 (60 * a1 + (v3 + 1))) := by omega
        subst q14
        have p16 : SW σ 87 := (hp0).1.2.1
        have o15 := hp1 v3 (by omega) (by omega) (by omega)
        unfold SNe at o15
        have w17 := p16 (l2i_ (σ 104 (60 * a1 + v3))) (by omega) (by omega) (by omega)
        have p18 : BW σ 87 := (hp0).1.1
        refine Exists.intro (l2i_ (σ 104 (60 * a1 + v3)), l2i_ (σ 104 (60 * a1 + (v3 + 1))), a2) (And.intro rfl (And.intro (And.intro p18 (And.intro (by show 0 ≤ (l2i_ (σ 104 (60 * a1 + v3))); omega) (And.intro (by show (l2i_ (σ 104 (60 * a1 + v3))) ≤ 2; omega) (And.intro (by show 1 ≤ σ 87 (6 + 15 * (l2i_ (σ 104 (60 * a1 + v3))) + 1); omega) (And.intro (by show 0 ≤ (l2i_ (σ 104 (60 * a1 + (v3 + 1)))); omega) (And.intro (by show (l2i_ (σ 104 (60 * a1 + (v3 + 1)))) ≤ 4; omega) (And.intro (by show 0 ≤ a2; omega) (by show a2 ≤ 1999; omega)))))))) ?_))
        rintro z19 m_ h20
        obtain rfl : σ = m_ := h20.2.2.2.2
        have h21 : -1 ≤ z19 ∧ z19 ≤ 2000 := h20.1
        have h22 : (l2i_ (σ 104 (60 * a1 + (v3 + 1)))) = 1 → z19 ≤ 7 := h20.2.1
        have h23 : (l2i_ (σ 104 (60 * a1 + (v3 + 1)))) = 3 → z19 ≤ 9 := h20.2.2.1
        have h24 : (l2i_ (σ 104 (60 * a1 + (v3 + 1)))) = 4 → 0 ≤ z19 ∧ z19 ≤ 1 := h20.2.2.2.1
        refine And.intro (fun h25 => ?_) (fun h25 => ?_)
        · skip
          refine B rfl ?_
          refine And.intro (by omega) ?_
          refine Exists.intro _ (And.intro rfl ?_)
          exact (And.intro (by show 0 ≤ 0 ∧ 0 ≤ 1; omega) rfl)
        · skip
          refine And.intro (by omega) ?_
          refine Exists.intro (a1, v3 + 2) (And.intro rfl (And.intro (And.intro (by show 0 ≤ a1; omega) (And.intro (by show a1 ≤ 3; omega) (And.intro (by show 0 ≤ (v3 + 2); omega) (by show (v3 + 2) ≤ 59; omega)))) ?_))
          rintro z26 m_ h27
          obtain rfl : σ = m_ := h27.2
          have h28 : z26 = σ 104 (60 * a1 + (v3 + 2)) := h27.1
          have q29 : z26 = σ 104 (60 * a1 + (v3 + 2)) := by omega
          subst q29
          refine And.intro (fun h30 => ?_) (fun h30 => ?_)
          · simp only [lcmp_lt0, lcmp_ge0, lcmp_gt0, lcmp_le0, lcmp_eq0] at h30
            refine B rfl ?_
            refine And.intro (by omega) ?_
            show WP_ X G Q 0 0 ad SHS_ σ 2 [(42, 86), (0, a1), (0, a2), (0, v3 + 3), (0, z19)] []
            refine wdrop_ (L' := [(42, 86), (0, a1), (0, a2), (0, v3 + 3), (9, 0)]) ⟨Or.inr rfl, ⟨Or.inr rfl, ⟨Or.inr rfl, ⟨Or.inr rfl, ⟨Or.inl rfl, trivial⟩⟩⟩⟩⟩ ?_
            exact ih_2 (v3 + 3) (by show 0 ≤ (v3 + 3); omega) (by show (v3 + 3) ≤ 60; omega) (by show (v3 + 3) % 3 = 0; omega) (by omega)
          · simp only [lcmp_lt0, lcmp_ge0, lcmp_gt0, lcmp_le0, lcmp_eq0] at h30
            refine And.intro (by omega) ?_
            refine Exists.intro _ (And.intro rfl ?_)
            exact (And.intro (by show 0 ≤ 0 ∧ 0 ≤ 1; omega) rfl)
  exact lp_2 ((60 - 0 : Int).toNat + 1) 0 (by show 0 ≤ 0; omega) (by show 0 ≤ 60; omega) (by show 0 % 3 = 0; omega) (by omega)
def as_G_X11_fitsOf : Int × Int × Int → List Sv_t := fun a => [(42, 86), (0, a.1), (0, a.2.1), (0, a.2.2)]
def pre_G_X11_fitsOf : Int × Int × Int → Me_t → Prop := fun a σ => (MI σ) ∧ (SN σ a.1) ∧ (0 ≤ a.1) ∧ (a.1 ≤ 3) ∧ (0 ≤ a.2.1) ∧ (a.2.1 ≤ a.2.2) ∧ (a.2.2 ≤ 1999)
def post_G_X11_fitsOf : Int × Int × Int → Me_t → Int → Me_t → Prop := fun a σ z σ' => (0 ≤ z ∧ z ≤ 2000) ∧ (σ = σ')
set_option maxHeartbeats 1500000 in
set_option maxRecDepth 100000 in
theorem ct_G_X11_fitsOf (l : Launch) : CT_ l yX11_fitsOf cX11_fitsOf 6 (some .int) 5 114 as_G_X11_fitsOf (rmI_) pre_G_X11_fitsOf post_G_X11_fitsOf := by
  refine ct_of (by decide) (fun _ => Nat.le_of_ble_eq_true rfl) ?_
  intro X G Q ad σ a hl hR E hG R hM hv hp
  obtain ⟨a1, a2, a3⟩ := a
  have r_a1 : -2147483648 ≤ a1 ∧ a1 ≤ 2147483647 := hv (0, a1) (List.mem_of_getElem? (i := 1) rfl)
  have r_a2 : -2147483648 ≤ a2 ∧ a2 ≤ 2147483647 := hv (0, a2) (List.mem_of_getElem? (i := 2) rfl)
  have r_a3 : -2147483648 ≤ a3 ∧ a3 ≤ 2147483647 := hv (0, a3) (List.mem_of_getElem? (i := 3) rfl)
  have hp0 : MI σ := hp.1
  have hp1 : SN σ a1 := hp.2.1
  have hp2 : 0 ≤ a1 := hp.2.2.1
  have hp3 : a1 ≤ 3 := hp.2.2.2.1
  have hp4 : 0 ≤ a2 := hp.2.2.2.2.1
  have hp5 : a2 ≤ a3 := hp.2.2.2.2.2.1
  have hp6 : a3 ≤ 1999 := hp.2.2.2.2.2.2
  have B := @bk_ X G Q 0 0 ad SHS_ RX11 cX11_fitsOf 6 (some .int) flX11 plX11 knX11 [(752, 3, TR_ as_G_X11_isSeen (rmI_) pre_G_X11_isSeen post_G_X11_isSeen)] _ _ none kX11_fitsOf [6] flX11_ok plX11_ok knX11_ok eX11_fitsOf oX11_fitsOf
    (List.forall_mem_cons.mpr ⟨cok_v (t := 32) (c := 11) (N := 39) (n := 2) (idx := 376) E (ct_G_X11_isSeen X.2.1) (by rw [hR]; decide) (Nat.zero_le _) (Nat.zero_le _) hG rfl rfl ⟨rfl, by decide, by decide, by decide⟩ (fun _ => ⟨_, _, rfl, rfl⟩) wl_X11_376 wi_X11_isSeen ws_X11_isSeen wn_X11 wc_X11_isSeen, fun _ h => absurd h List.not_mem_nil⟩) R sok_no E
  show WP_ X G Q 0 0 ad SHS_ σ 0 [(42, 86), (0, a1), (0, a2), (0, a3), (9, 0), (9, 0)] []
  refine B rfl ?_
  show WP_ X G Q 0 0 ad SHS_ σ 6 [(42, 86), (0, a1), (0, a2), (0, a3), (0, 0), (0, a2)] []
  refine wdrop_ (L' := [(42, 86), (0, a1), (9, 0), (0, a3), (0, 0), (0, a2)]) ⟨Or.inr rfl, ⟨Or.inr rfl, ⟨Or.inl rfl, ⟨Or.inr rfl, ⟨Or.inr rfl, ⟨Or.inr rfl, trivial⟩⟩⟩⟩⟩⟩ ?_
  have lp_6 : ∀ (nq_ : Nat) (v4 : Int) (v5 : Int), (a2 ≤ v5) → (v5 ≤ a3 + 1) → (0 ≤ v4) → (v4 ≤ v5 - a2) → (a3 + 1 - v5 : Int).toNat < nq_ → WP_ X G Q 0 0 ad SHS_ σ 6 [(42, 86), (0, a1), (9, 0), (0, a3), (0, v4), (0, v5)] [] := by
    intro nq_
    induction nq_ with
    | zero => intros; omega
    | succ nq_ ih_6 =>
      intro v4 v5 hi6_0 hi6_1 hi6_2 hi6_3 hm6
      refine B rfl ?_
      refine And.intro (fun h1 => ?_) (fun h1 => ?_)
      · skip
        refine B rfl ?_
        refine Exists.intro _ (And.intro rfl ?_)
        exact (And.intro (by show 0 ≤ v4 ∧ v4 ≤ 2000; omega) rfl)
      · skip
        refine Exists.intro (a1, v5) (And.intro rfl (And.intro (And.intro hp0 (And.intro hp1 (And.intro (by show 0 ≤ a1; omega) (And.intro (by show a1 ≤ 3; omega) (And.intro (by show 0 ≤ v5; omega) (by show v5 ≤ 1999; omega)))))) ?_))
        rintro z2 m_ h3
        obtain rfl : σ = m_ := h3.2
        have h4 : 0 ≤ z2 ∧ z2 ≤ 1 := h3.1
        refine And.intro (fun h5 => ?_) (fun h5 => ?_)
        · skip
          refine B rfl ?_
          refine And.intro (by omega) ?_
          refine And.intro (by omega) ?_
          exact ih_6 (v4 + 0) (v5 + 1) (by show a2 ≤ (v5 + 1); omega) (by show (v5 + 1) ≤ a3 + 1; omega) (by show 0 ≤ (v4 + 0); omega) (by show (v4 + 0) ≤ (v5 + 1) - a2; omega) (by omega)
        · skip
          refine B rfl ?_
          refine And.intro (by omega) ?_
          refine And.intro (by omega) ?_
          exact ih_6 (v4 + 1) (v5 + 1) (by show a2 ≤ (v5 + 1); omega) (by show (v5 + 1) ≤ a3 + 1; omega) (by show 0 ≤ (v4 + 1); omega) (by show (v4 + 1) ≤ (v5 + 1) - a2; omega) (by omega)
  exact lp_6 ((a3 + 1 - a2 : Int).toNat + 1) 0 a2 (by show a2 ≤ a2; omega) (by show a2 ≤ a3 + 1; omega) (by show 0 ≤ 0; omega) (by show 0 ≤ a2 - a2; omega) (by omega)
def as_G_X11_fits : Int × Int × Int → List Sv_t := fun a => [(42, 86), (0, a.1), (0, a.2.1), (0, a.2.2)]
def pre_G_X11_fits : Int × Int × Int → Me_t → Prop := fun a σ => (MI σ)
def post_G_X11_fits : Int × Int × Int → Me_t → Int → Me_t → Prop := fun a σ z σ' => (∀ k j : Int, ¬ (93 ≤ k ∧ k ≤ 96) → σ' k j = σ k j)
set_option maxHeartbeats 1500000 in
set_option maxRecDepth 100000 in
theorem ct_G_X11_fits (l : Launch) : CT_ l yX11_fits cX11_fits 5 (some .int) 6 139 as_G_X11_fits (rmI_) pre_G_X11_fits post_G_X11_fits := by
  refine ct_of (by decide) (fun _ => Nat.le_of_ble_eq_true rfl) ?_
  intro X G Q ad σ a hl hR E hG R hM hv hp
  obtain ⟨a1, a2, a3⟩ := a
  have r_a1 : -2147483648 ≤ a1 ∧ a1 ≤ 2147483647 := hv (0, a1) (List.mem_of_getElem? (i := 1) rfl)
  have r_a2 : -2147483648 ≤ a2 ∧ a2 ≤ 2147483647 := hv (0, a2) (List.mem_of_getElem? (i := 2) rfl)
  have r_a3 : -2147483648 ≤ a3 ∧ a3 ≤ 2147483647 := hv (0, a3) (List.mem_of_getElem? (i := 3) rfl)
  have hp0 : MI σ := hp
  have B := @bk_ X G Q 0 0 ad SHS_ RX11 cX11_fits 5 (some .int) flX11 plX11 knX11 [(758, 5, TR_ as_G_X11_asksSeen (rmI_) pre_G_X11_asksSeen post_G_X11_asksSeen), (766, 4, TR_ as_G_X11_fitsOf (rmI_) pre_G_X11_fitsOf post_G_X11_fitsOf)] _ _ none kX11_fits [] flX11_ok plX11_ok knX11_ok eX11_fits oX11_fits
    (List.forall_mem_cons.mpr ⟨cok_v (t := 32) (c := 11) (N := 39) (n := 4) (idx := 379) E (ct_G_X11_asksSeen X.2.1) (by rw [hR]; decide) (Nat.zero_le _) (Nat.zero_le _) hG rfl rfl ⟨rfl, by decide, by decide, by decide⟩ (fun _ => ⟨_, _, rfl, rfl⟩) wl_X11_379 wi_X11_asksSeen ws_X11_asksSeen wn_X11 wc_X11_asksSeen, List.forall_mem_cons.mpr ⟨cok_v (t := 32) (c := 11) (N := 39) (n := 3) (idx := 383) E (ct_G_X11_fitsOf X.2.1) (by rw [hR]; decide) (Nat.zero_le _) (Nat.zero_le _) hG rfl rfl ⟨rfl, by decide, by decide, by decide⟩ (fun _ => ⟨_, _, rfl, rfl⟩) wl_X11_383 wi_X11_fitsOf ws_X11_fitsOf wn_X11 wc_X11_fitsOf, fun _ h => absurd h List.not_mem_nil⟩⟩) R sok_no E
  show WP_ X G Q 0 0 ad SHS_ σ 0 [(42, 86), (0, a1), (0, a2), (0, a3), (9, 0)] []
  refine B rfl ?_
  refine Exists.intro (a1, a2, a3, 1) (And.intro rfl (And.intro hp0 ?_))
  intro z1 σ3 h2
  have f4 : ∀ k j : Int, ¬ (93 ≤ k ∧ k ≤ 96) → σ3 k j = σ k j := h2.2
  have h5 : z1 < 0 ∨ (0 ≤ a1 ∧ a1 ≤ 3 ∧ 0 ≤ a2 ∧ a2 ≤ a3 ∧ a3 ≤ 1999 ∧ SN σ3 a1) := h2.1
  have hqo := h2.1
  try dsimp only at hqo
  refine And.intro (fun h6 => ?_) (fun h6 => ?_)
  · skip
    refine B rfl ?_
    have hqq := hqo.resolve_left (by omega)
    have hsn0 : SN σ3 a1 := hqq.2.2.2.2.2
    have p7 : MI σ3 := MI_fr hp0 (fun k j hk => (f4 _ _ (by omega)))
    refine Exists.intro (a1, a2, a3) (And.intro rfl (And.intro (And.intro p7 (And.intro hsn0 (And.intro (by show 0 ≤ a1; omega) (And.intro (by show a1 ≤ 3; omega) (And.intro (by show 0 ≤ a2; omega) (And.intro (by show a2 ≤ a3; omega) (by show a3 ≤ 1999; omega))))))) ?_))
    rintro z8 m_ h9
    obtain rfl : σ3 = m_ := h9.2
    have h10 : 0 ≤ z8 ∧ z8 ≤ 2000 := h9.1
    refine Exists.intro _ (And.intro rfl ?_)
    exact (fun k j hk => (f4 _ _ (by omega)))
  · skip
    refine B rfl ?_
    refine Exists.intro _ (And.intro rfl ?_)
    exact (fun k j hk => (f4 _ _ (by omega)))
def as_G_X11_fit : Int × Int × Int × Int → List Sv_t := fun a => [(42, 86), (0, a.1), (0, a.2.1), (0, a.2.2.1), (0, a.2.2.2)]
def pre_G_X11_fit : Int × Int × Int × Int → Me_t → Prop := fun a σ => (MI σ)
def post_G_X11_fit : Int × Int × Int × Int → Me_t → Int → Me_t → Prop := fun a σ z σ' => (∀ k j : Int, ¬ (93 ≤ k ∧ k ≤ 96) → σ' k j = σ k j)
set_option maxHeartbeats 1500000 in
set_option maxRecDepth 100000 in
theorem ct_G_X11_fit (l : Launch) : CT_ l yX11_fit cX11_fit 8 (some .int) 5 117 as_G_X11_fit (rmI_) pre_G_X11_fit post_G_X11_fit := by
  refine ct_of (by decide) (fun _ => Nat.le_of_ble_eq_true rfl) ?_
  intro X G Q ad σ a hl hR E hG R hM hv hp
  obtain ⟨a1, a2, a3, a4⟩ := a
  have r_a1 : -2147483648 ≤ a1 ∧ a1 ≤ 2147483647 := hv (0, a1) (List.mem_of_getElem? (i := 1) rfl)
  have r_a2 : -2147483648 ≤ a2 ∧ a2 ≤ 2147483647 := hv (0, a2) (List.mem_of_getElem? (i := 2) rfl)
  have r_a3 : -2147483648 ≤ a3 ∧ a3 ≤ 2147483647 := hv (0, a3) (List.mem_of_getElem? (i := 3) rfl)
  have r_a4 : -2147483648 ≤ a4 ∧ a4 ≤ 2147483647 := hv (0, a4) (List.mem_of_getElem? (i := 4) rfl)
  have hp0 : MI σ := hp
  have B := @bk_ X G Q 0 0 ad SHS_ RX11 cX11_fit 8 (some .int) flX11 plX11 knX11 [(758, 5, TR_ as_G_X11_asksSeen (rmI_) pre_G_X11_asksSeen post_G_X11_asksSeen), (752, 3, TR_ as_G_X11_isSeen (rmI_) pre_G_X11_isSeen post_G_X11_isSeen)] _ _ none kX11_fit [24] flX11_ok plX11_ok knX11_ok eX11_fit oX11_fit
    (List.forall_mem_cons.mpr ⟨cok_v (t := 32) (c := 11) (N := 39) (n := 4) (idx := 379) E (ct_G_X11_asksSeen X.2.1) (by rw [hR]; decide) (Nat.zero_le _) (Nat.zero_le _) hG rfl rfl ⟨rfl, by decide, by decide, by decide⟩ (fun _ => ⟨_, _, rfl, rfl⟩) wl_X11_379 wi_X11_asksSeen ws_X11_asksSeen wn_X11 wc_X11_asksSeen, List.forall_mem_cons.mpr ⟨cok_v (t := 32) (c := 11) (N := 39) (n := 2) (idx := 376) E (ct_G_X11_isSeen X.2.1) (by rw [hR]; decide) (Nat.zero_le _) (Nat.zero_le _) hG rfl rfl ⟨rfl, by decide, by decide, by decide⟩ (fun _ => ⟨_, _, rfl, rfl⟩) wl_X11_376 wi_X11_isSeen ws_X11_isSeen wn_X11 wc_X11_isSeen, fun _ h => absurd h List.not_mem_nil⟩⟩) R sok_no E
  show WP_ X G Q 0 0 ad SHS_ σ 0 [(42, 86), (0, a1), (0, a2), (0, a3), (0, a4), (9, 0), (9, 0), (9, 0)] []
  refine B rfl ?_
  refine Exists.intro (a1, a2, a3, 1) (And.intro rfl (And.intro hp0 ?_))
  intro z1 σ3 h2
  have f4 : ∀ k j : Int, ¬ (93 ≤ k ∧ k ≤ 96) → σ3 k j = σ k j := h2.2
  have h5 : z1 < 0 ∨ (0 ≤ a1 ∧ a1 ≤ 3 ∧ 0 ≤ a2 ∧ a2 ≤ a3 ∧ a3 ≤ 1999 ∧ SN σ3 a1) := h2.1
  have hqo := h2.1
  try dsimp only at hqo
  refine And.intro (fun h6 => ?_) (fun h6 => ?_)
  · skip
    refine B rfl ?_
    have hqq := hqo.resolve_left (by omega)
    have hsn0 : SN σ3 a1 := hqq.2.2.2.2.2
    show WP_ X G Q 0 0 ad SHS_ σ3 24 [(42, 86), (0, a1), (0, a2), (0, a3), (0, a4), (0, z1), (0, 0), (0, a2)] []
    refine wdrop_ (L' := [(42, 86), (0, a1), (9, 0), (0, a3), (0, a4), (9, 0), (0, 0), (0, a2)]) ⟨Or.inr rfl, ⟨Or.inr rfl, ⟨Or.inl rfl, ⟨Or.inr rfl, ⟨Or.inr rfl, ⟨Or.inl rfl, ⟨Or.inr rfl, ⟨Or.inr rfl, trivial⟩⟩⟩⟩⟩⟩⟩⟩ ?_
    have lp_24 : ∀ (nq_ : Nat) (v6 : Int) (v7 : Int), (a2 ≤ v7) → (v7 ≤ a3 + 1) → (0 ≤ v6) → (v6 ≤ v7 - a2) → (a3 + 1 - v7 : Int).toNat < nq_ → WP_ X G Q 0 0 ad SHS_ σ3 24 [(42, 86), (0, a1), (9, 0), (0, a3), (0, a4), (9, 0), (0, v6), (0, v7)] [] := by
      intro nq_
      induction nq_ with
      | zero => intros; omega
      | succ nq_ ih_24 =>
        intro v6 v7 hi24_0 hi24_1 hi24_2 hi24_3 hm24
        refine B rfl ?_
        refine And.intro (fun h7 => ?_) (fun h7 => ?_)
        · skip
          refine B rfl ?_
          refine Exists.intro _ (And.intro rfl ?_)
          exact (fun k j hk => (f4 _ _ (by omega)))
        · skip
          have p8 : MI σ3 := MI_fr hp0 (fun k j hk => (f4 _ _ (by omega)))
          refine Exists.intro (a1, v7) (And.intro rfl (And.intro (And.intro p8 (And.intro hsn0 (And.intro (by show 0 ≤ a1; omega) (And.intro (by show a1 ≤ 3; omega) (And.intro (by show 0 ≤ v7; omega) (by show v7 ≤ 1999; omega)))))) ?_))
          rintro z9 m_ h10
          obtain rfl : σ3 = m_ := h10.2
          have h11 : 0 ≤ z9 ∧ z9 ≤ 1 := h10.1
          refine And.intro (fun h12 => ?_) (fun h12 => ?_)
          · skip
            refine B rfl ?_
            refine And.intro (fun h13 => ?_) (fun h13 => ?_)
            · skip
              refine B rfl ?_
              refine And.intro (by omega) ?_
              refine And.intro (by omega) ?_
              exact ih_24 (v6 + 1) (v7 + 1) (by show a2 ≤ (v7 + 1); omega) (by show (v7 + 1) ≤ a3 + 1; omega) (by show 0 ≤ (v6 + 1); omega) (by show (v6 + 1) ≤ (v7 + 1) - a2; omega) (by omega)
            · skip
              refine Exists.intro _ (And.intro rfl ?_)
              exact (fun k j hk => (f4 _ _ (by omega)))
          · skip
            refine B rfl ?_
            refine And.intro (by omega) ?_
            exact ih_24 v6 (v7 + 1) (by show a2 ≤ (v7 + 1); omega) (by show (v7 + 1) ≤ a3 + 1; omega) (by show 0 ≤ v6; omega) (by show v6 ≤ (v7 + 1) - a2; omega) (by omega)
    exact lp_24 ((a3 + 1 - a2 : Int).toNat + 1) 0 a2 (by show a2 ≤ a2; omega) (by show a2 ≤ a3 + 1; omega) (by show 0 ≤ 0; omega) (by show 0 ≤ a2 - a2; omega) (by omega)
  · skip
    refine Exists.intro _ (And.intro rfl ?_)
    exact (fun k j hk => (f4 _ _ (by omega)))
def as_G_X11_sure : Int × Int × Int × Int → List Sv_t := fun a => [(42, 86), (0, a.1), (0, a.2.1), (0, a.2.2.1), (0, a.2.2.2)]
def pre_G_X11_sure : Int × Int × Int × Int → Me_t → Prop := fun a σ => (MI σ)
def post_G_X11_sure : Int × Int × Int × Int → Me_t → Int → Me_t → Prop := fun a σ z σ' => (∀ k j : Int, ¬ (93 ≤ k ∧ k ≤ 96) → σ' k j = σ k j)
set_option maxHeartbeats 1500000 in
set_option maxRecDepth 100000 in
theorem ct_G_X11_sure (l : Launch) : CT_ l yX11_sure cX11_sure 10 (some .int) 5 117 as_G_X11_sure (rmI_) pre_G_X11_sure post_G_X11_sure := by
  refine ct_of (by decide) (fun _ => Nat.le_of_ble_eq_true rfl) ?_
  intro X G Q ad σ a hl hR E hG R hM hv hp
  obtain ⟨a1, a2, a3, a4⟩ := a
  have r_a1 : -2147483648 ≤ a1 ∧ a1 ≤ 2147483647 := hv (0, a1) (List.mem_of_getElem? (i := 1) rfl)
  have r_a2 : -2147483648 ≤ a2 ∧ a2 ≤ 2147483647 := hv (0, a2) (List.mem_of_getElem? (i := 2) rfl)
  have r_a3 : -2147483648 ≤ a3 ∧ a3 ≤ 2147483647 := hv (0, a3) (List.mem_of_getElem? (i := 3) rfl)
  have r_a4 : -2147483648 ≤ a4 ∧ a4 ≤ 2147483647 := hv (0, a4) (List.mem_of_getElem? (i := 4) rfl)
  have hp0 : MI σ := hp
  have B := @bk_ X G Q 0 0 ad SHS_ RX11 cX11_sure 10 (some .int) flX11 plX11 knX11 [(159, 3, TR_ as_G_X11_in (rmI_) pre_G_X11_in post_G_X11_in), (758, 5, TR_ as_G_X11_asksSeen (rmI_) pre_G_X11_asksSeen post_G_X11_asksSeen), (192, 1, TR_ as_G_X11_allLands (rmI_) pre_G_X11_allLands post_G_X11_allLands), (752, 3, TR_ as_G_X11_isSeen (rmI_) pre_G_X11_isSeen post_G_X11_isSeen), (572, 2, TR_ as_G_X11_whoOn (rmI_) pre_G_X11_whoOn post_G_X11_whoOn)] _ _ none kX11_sure [22, 40, 46, 56, 95, 104] flX11_ok plX11_ok knX11_ok eX11_sure oX11_sure
    (List.forall_mem_cons.mpr ⟨cok_s (n := 3) (idx := 79) E (ct_G_X11_in X.2.1) (by rw [hR]; decide) (Nat.zero_le _) (Nat.zero_le _) hG ⟨by decide, by decide, by decide⟩ (fun _ => rfl) wl_X11_79 wt_X11_in wn_X11 wc_X11_in, List.forall_mem_cons.mpr ⟨cok_v (t := 32) (c := 11) (N := 39) (n := 4) (idx := 379) E (ct_G_X11_asksSeen X.2.1) (by rw [hR]; decide) (Nat.zero_le _) (Nat.zero_le _) hG rfl rfl ⟨rfl, by decide, by decide, by decide⟩ (fun _ => ⟨_, _, rfl, rfl⟩) wl_X11_379 wi_X11_asksSeen ws_X11_asksSeen wn_X11 wc_X11_asksSeen, List.forall_mem_cons.mpr ⟨cok_v (t := 32) (c := 11) (N := 39) (n := 0) (idx := 96) E (ct_G_X11_allLands X.2.1) (by rw [hR]; decide) (Nat.zero_le _) (Nat.zero_le _) hG rfl rfl ⟨rfl, by decide, by decide, by decide⟩ (fun _ => ⟨_, _, rfl, rfl⟩) wl_X11_96 wi_X11_allLands ws_X11_allLands wn_X11 wc_X11_allLands, List.forall_mem_cons.mpr ⟨cok_v (t := 32) (c := 11) (N := 39) (n := 2) (idx := 376) E (ct_G_X11_isSeen X.2.1) (by rw [hR]; decide) (Nat.zero_le _) (Nat.zero_le _) hG rfl rfl ⟨rfl, by decide, by decide, by decide⟩ (fun _ => ⟨_, _, rfl, rfl⟩) wl_X11_376 wi_X11_isSeen ws_X11_isSeen wn_X11 wc_X11_isSeen, List.forall_mem_cons.mpr ⟨cok_v (t := 32) (c := 11) (N := 39) (n := 1) (idx := 286) E (ct_G_X11_whoOn X.2.1) (by rw [hR]; decide) (Nat.zero_le _) (Nat.zero_le _) hG rfl rfl ⟨rfl, by decide, by decide, by decide⟩ (fun _ => ⟨_, _, rfl, rfl⟩) wl_X11_286 wi_X11_whoOn ws_X11_whoOn wn_X11 wc_X11_whoOn, fun _ h => absurd h List.not_mem_nil⟩⟩⟩⟩⟩) R sok_no E
  show WP_ X G Q 0 0 ad SHS_ σ 0 [(42, 86), (0, a1), (0, a2), (0, a3), (0, a4), (9, 0), (9, 0), (9, 0), (9, 0), (9, 0)] []
  refine B rfl ?_
  refine Exists.intro (a4, 0, 1) (And.intro rfl (And.intro True.intro ?_))
  rintro z1 m_ h2
  obtain rfl : σ = m_ := h2.2
  have h3 : (z1 = 1 ∧ 0 ≤ a4 ∧ a4 ≤ 1) ∨ (z1 = 0 ∧ ¬ (0 ≤ a4 ∧ a4 ≤ 1)) := h2.1
  refine Exists.intro (a1, a2, a3, z1) (And.intro rfl (And.intro hp0 ?_))
  intro z4 σ6 h5
  have f7 : ∀ k j : Int, ¬ (93 ≤ k ∧ k ≤ 96) → σ6 k j = σ k j := h5.2
  have h8 : z4 < 0 ∨ (0 ≤ a1 ∧ a1 ≤ 3 ∧ 0 ≤ a2 ∧ a2 ≤ a3 ∧ a3 ≤ 1999 ∧ SN σ6 a1) := h5.1
  have hqo := h5.1
  try dsimp only at hqo
  refine And.intro (fun h9 => ?_) (fun h9 => ?_)
  · skip
    refine B rfl ?_
    have hqq := hqo.resolve_left (by omega)
    have hsn0 : SN σ6 a1 := hqq.2.2.2.2.2
    have p10 : MI σ6 := MI_fr hp0 (fun k j hk => (f7 _ _ (by omega)))
    have p11 : BW σ6 87 := (p10).1.1
    refine Exists.intro () (And.intro rfl (And.intro p11 ?_))
    rintro z12 m_ h13
    obtain rfl : σ6 = m_ := h13.2
    have h14 : 0 ≤ z12 ∧ z12 ≤ 7 := h13.1
    show WP_ X G Q 0 0 ad SHS_ σ6 40 [(42, 86), (0, a1), (0, a2), (0, a3), (0, a4), (0, z4), (0, z12), (0, 0), (0, 0), (0, a2)] []
    refine wdrop_ (L' := [(42, 86), (0, a1), (9, 0), (0, a3), (0, a4), (9, 0), (0, z12), (0, 0), (0, 0), (0, a2)]) ⟨Or.inr rfl, ⟨Or.inr rfl, ⟨Or.inl rfl, ⟨Or.inr rfl, ⟨Or.inr rfl, ⟨Or.inl rfl, ⟨Or.inr rfl, ⟨Or.inr rfl, ⟨Or.inr rfl, ⟨Or.inr rfl, trivial⟩⟩⟩⟩⟩⟩⟩⟩⟩⟩ ?_
    have lp_40 : ∀ (nq_ : Nat) (v6 : Int) (v7 : Int) (v8 : Int) (v9 : Int), (a2 ≤ v9) → (v9 ≤ a3 + 1) → (0 ≤ v8) → (v8 ≤ 1) → (a3 + 1 - v9 : Int).toNat < nq_ → WP_ X G Q 0 0 ad SHS_ σ6 40 [(42, 86), (0, a1), (9, 0), (0, a3), (0, a4), (9, 0), (0, v6), (0, v7), (0, v8), (0, v9)] [] := by
      intro nq_
      induction nq_ with
      | zero => intros; omega
      | succ nq_ ih_40 =>
        intro v6 v7 v8 v9 hi40_0 hi40_1 hi40_2 hi40_3 hm40
        refine B rfl ?_
        refine And.intro (fun h15 => ?_) (fun h15 => ?_)
        · skip
          refine B rfl ?_
          refine And.intro (fun h16 => ?_) (fun h16 => ?_)
          · skip
            refine B rfl ?_
            refine And.intro (fun h17 => ?_) (fun h17 => ?_)
            · skip
              refine B rfl ?_
              refine Exists.intro _ (And.intro rfl ?_)
              exact (fun k j hk => (f7 _ _ (by omega)))
            · skip
              show WP_ X G Q 0 0 ad SHS_ σ6 104 [(42, 86), (0, a1), (9, 0), (0, a3), (0, a4), (9, 0), (0, v6), (0, v7), (0, v8), (0, v9)] []
              refine B rfl ?_
              refine B rfl ?_
              refine Exists.intro _ (And.intro rfl ?_)
              exact (fun k j hk => (f7 _ _ (by omega)))
          · skip
            show WP_ X G Q 0 0 ad SHS_ σ6 95 [(42, 86), (0, a1), (9, 0), (0, a3), (0, a4), (9, 0), (0, v6), (0, v7), (0, v8), (0, v9)] []
            refine B rfl ?_
            refine B rfl ?_
            refine Exists.intro _ (And.intro rfl ?_)
            exact (fun k j hk => (f7 _ _ (by omega)))
        · skip
          show WP_ X G Q 0 0 ad SHS_ σ6 46 [(42, 86), (0, a1), (9, 0), (0, a3), (0, a4), (9, 0), (0, v6), (0, v7), (0, v8), (0, v9)] []
          refine B rfl ?_
          refine Exists.intro (a1, v9) (And.intro rfl (And.intro (And.intro p10 (And.intro hsn0 (And.intro (by show 0 ≤ a1; omega) (And.intro (by show a1 ≤ 3; omega) (And.intro (by show 0 ≤ v9; omega) (by show v9 ≤ 1999; omega)))))) ?_))
          rintro z18 m_ h19
          obtain rfl : σ6 = m_ := h19.2
          have h20 : 0 ≤ z18 ∧ z18 ≤ 1 := h19.1
          refine And.intro (fun h21 => ?_) (fun h21 => ?_)
          · skip
            refine B rfl ?_
            refine Exists.intro v9 (And.intro rfl (And.intro (And.intro p11 (And.intro (by show 0 ≤ v9; omega) (by show v9 ≤ 1999; omega))) ?_))
            rintro z22 m_ h23
            obtain rfl : σ6 = m_ := h23
            refine Exists.intro v9 (And.intro rfl (And.intro (And.intro p11 (And.intro (by show 0 ≤ v9; omega) (by show v9 ≤ 1999; omega))) ?_))
            rintro z24 m_ h25
            obtain rfl : σ6 = m_ := h25
            refine And.intro (by omega) ?_
            exact ih_40 (and3_ v6 z22) (or3_ v7 z24) 1 (v9 + 1) (by show a2 ≤ (v9 + 1); omega) (by show (v9 + 1) ≤ a3 + 1; omega) (by show 0 ≤ 1; omega) (by show 1 ≤ 1; omega) (by omega)
          · skip
            show WP_ X G Q 0 0 ad SHS_ σ6 56 [(42, 86), (0, a1), (9, 0), (0, a3), (0, a4), (9, 0), (0, v6), (0, v7), (0, v8), (0, v9)] []
            refine B rfl ?_
            refine B rfl ?_
            refine And.intro (by omega) ?_
            exact ih_40 v6 v7 v8 (v9 + 1) (by show a2 ≤ (v9 + 1); omega) (by show (v9 + 1) ≤ a3 + 1; omega) (by show 0 ≤ v8; omega) (by show v8 ≤ 1; omega) (by omega)
    exact lp_40 ((a3 + 1 - a2 : Int).toNat + 1) z12 0 0 a2 (by show a2 ≤ a2; omega) (by show a2 ≤ a3 + 1; omega) (by show 0 ≤ 0; omega) (by show 0 ≤ 1; omega) (by omega)
  · skip
    show WP_ X G Q 0 0 ad SHS_ σ6 22 [(42, 86), (0, a1), (0, a2), (0, a3), (0, a4), (0, z4), (9, 0), (9, 0), (9, 0), (9, 0)] []
    refine B rfl ?_
    refine Exists.intro _ (And.intro rfl ?_)
    exact (fun k j hk => (f7 _ _ (by omega)))
def as_G_X11_worstOf : Int × Int × Int × Int × Int → List Sv_t := fun a => [(42, 86), (0, a.1), (0, a.2.1), (0, a.2.2.1), (0, a.2.2.2.1), (0, a.2.2.2.2)]
def pre_G_X11_worstOf : Int × Int × Int × Int × Int → Me_t → Prop := fun a σ => (MI σ) ∧ (SN σ a.1) ∧ (0 ≤ a.1) ∧ (a.1 ≤ 3) ∧ (0 ≤ a.2.1) ∧ (a.2.1 ≤ a.2.2.1) ∧ (a.2.2.1 ≤ 1999) ∧ (0 ≤ a.2.2.2.1) ∧ (a.2.2.2.1 ≤ 2) ∧ (a.2.2.2.1 < σ 87 1) ∧ (a.2.2.2.2 = 1 ∨ a.2.2.2.2 = 3 ∨ a.2.2.2.2 = 4)
def post_G_X11_worstOf : Int × Int × Int × Int × Int → Me_t → Int → Me_t → Prop := fun a σ z σ' => (0 ≤ z ∧ z ≤ 2000) ∧ (∀ k j : Int, ¬ (k = 98) → σ' k j = σ k j)
set_option maxHeartbeats 1500000 in
set_option maxRecDepth 100000 in
theorem ct_G_X11_worstOf (l : Launch) : CT_ l yX11_worstOf cX11_worstOf 9 (some .int) 5 114 as_G_X11_worstOf (rmI_) pre_G_X11_worstOf post_G_X11_worstOf := by
  refine ct_of (by decide) (fun _ => Nat.le_of_ble_eq_true rfl) ?_
  intro X G Q ad σ a hl hR E hG R hM hv hp
  obtain ⟨a1, a2, a3, a4, a5⟩ := a
  have r_a1 : -2147483648 ≤ a1 ∧ a1 ≤ 2147483647 := hv (0, a1) (List.mem_of_getElem? (i := 1) rfl)
  have r_a2 : -2147483648 ≤ a2 ∧ a2 ≤ 2147483647 := hv (0, a2) (List.mem_of_getElem? (i := 2) rfl)
  have r_a3 : -2147483648 ≤ a3 ∧ a3 ≤ 2147483647 := hv (0, a3) (List.mem_of_getElem? (i := 3) rfl)
  have r_a4 : -2147483648 ≤ a4 ∧ a4 ≤ 2147483647 := hv (0, a4) (List.mem_of_getElem? (i := 4) rfl)
  have r_a5 : -2147483648 ≤ a5 ∧ a5 ≤ 2147483647 := hv (0, a5) (List.mem_of_getElem? (i := 5) rfl)
  have hp0 : MI σ := hp.1
  have hp1 : SN σ a1 := hp.2.1
  have hp2 : 0 ≤ a1 := hp.2.2.1
  have hp3 : a1 ≤ 3 := hp.2.2.2.1
  have hp4 : 0 ≤ a2 := hp.2.2.2.2.1
  have hp5 : a2 ≤ a3 := hp.2.2.2.2.2.1
  have hp6 : a3 ≤ 1999 := hp.2.2.2.2.2.2.1
  have hp7 : 0 ≤ a4 := hp.2.2.2.2.2.2.2.1
  have hp8 : a4 ≤ 2 := hp.2.2.2.2.2.2.2.2.1
  have hp9 : a4 < σ 87 1 := hp.2.2.2.2.2.2.2.2.2.1
  have hp10 : a5 = 1 ∨ a5 = 3 ∨ a5 = 4 := hp.2.2.2.2.2.2.2.2.2.2
  have B := @bk_ X G Q 0 0 ad SHS_ RX11 cX11_worstOf 9 (some .int) flX11 plX11 knX11 [(752, 3, TR_ as_G_X11_isSeen (rmI_) pre_G_X11_isSeen post_G_X11_isSeen), (746, 4, TR_ as_G_X11_seen (rmI_) pre_G_X11_seen post_G_X11_seen), (643, 2, TMAX_)] _ _ none kX11_worstOf [6, 16, 33, 39, 49] flX11_ok plX11_ok knX11_ok eX11_worstOf oX11_worstOf
    (List.forall_mem_cons.mpr ⟨cok_v (t := 32) (c := 11) (N := 39) (n := 2) (idx := 376) E (ct_G_X11_isSeen X.2.1) (by rw [hR]; decide) (Nat.zero_le _) (Nat.zero_le _) hG rfl rfl ⟨rfl, by decide, by decide, by decide⟩ (fun _ => ⟨_, _, rfl, rfl⟩) wl_X11_376 wi_X11_isSeen ws_X11_isSeen wn_X11 wc_X11_isSeen, List.forall_mem_cons.mpr ⟨cok_v (t := 32) (c := 11) (N := 39) (n := 3) (idx := 373) E (ct_G_X11_seen X.2.1) (by rw [hR]; decide) (Nat.zero_le _) (Nat.zero_le _) hG rfl rfl ⟨rfl, by decide, by decide, by decide⟩ (fun _ => ⟨_, _, rfl, rfl⟩) wl_X11_373 wi_X11_seen ws_X11_seen wn_X11 wc_X11_seen, List.forall_mem_cons.mpr ⟨cok_max (idx := 321) E (by rw [hR]; decide) (Nat.zero_le _) (Nat.zero_le _) wl_X11_321, fun _ h => absurd h List.not_mem_nil⟩⟩⟩) R sok_no E
  show WP_ X G Q 0 0 ad SHS_ σ 0 [(42, 86), (0, a1), (0, a2), (0, a3), (0, a4), (0, a5), (9, 0), (9, 0), (9, 0)] []
  refine B rfl ?_
  have lp_6 : ∀ (nq_ : Nat) (v7 : Int) (τ6 : Me_t), (∀ k j : Int, ¬ (k = 98) → τ6 k j = σ k j) → (0 ≤ v7) → (v7 ≤ 12) → (∀ j : Int, 0 ≤ j → j < v7 → τ6 98 j = 0) → (12 - v7 : Int).toNat < nq_ → WP_ X G Q 0 0 ad SHS_ τ6 6 [(42, 86), (0, a1), (0, a2), (0, a3), (0, a4), (0, a5), (0, 0), (0, v7), (9, 0)] [] := by
    intro nq_
    induction nq_ with
    | zero => intros; omega
    | succ nq_ ih_6 =>
      intro v7 τ6 hf6 hi6_0 hi6_1 hi6_2 hm6
      refine B rfl ?_
      refine And.intro (fun h1 => ?_) (fun h1 => ?_)
      · skip
        refine B rfl ?_
        show WP_ X G Q 0 0 ad SHS_ τ6 33 [(42, 86), (0, a1), (0, a2), (0, a3), (0, a4), (0, a5), (0, 0), (0, a2), (9, 0)] []
        refine wdrop_ (L' := [(42, 86), (0, a1), (9, 0), (0, a3), (0, a4), (0, a5), (0, 0), (0, a2), (9, 0)]) ⟨Or.inr rfl, ⟨Or.inr rfl, ⟨Or.inl rfl, ⟨Or.inr rfl, ⟨Or.inr rfl, ⟨Or.inr rfl, ⟨Or.inr rfl, ⟨Or.inr rfl, ⟨Or.inl rfl, trivial⟩⟩⟩⟩⟩⟩⟩⟩⟩ ?_
        have lp_33 : ∀ (nq_ : Nat) (v6 : Int) (v7 : Int) (τ33 : Me_t), (∀ k j : Int, ¬ (k = 98) → τ33 k j = σ k j) → (a2 ≤ v7) → (v7 ≤ a3 + 1) → (0 ≤ v6) → (v6 ≤ 2000) → (∀ j : Int, 0 ≤ j → j < 12 → τ33 98 j ≤ v7 - a2) → (a3 + 1 - v7 : Int).toNat < nq_ → WP_ X G Q 0 0 ad SHS_ τ33 33 [(42, 86), (0, a1), (9, 0), (0, a3), (0, a4), (0, a5), (0, v6), (0, v7), (9, 0)] [] := by
          intro nq_
          induction nq_ with
          | zero => intros; omega
          | succ nq_ ih_33 =>
            intro v6 v7 τ33 hf33 hi33_0 hi33_1 hi33_2 hi33_3 hi33_4 hm33
            refine B rfl ?_
            refine And.intro (fun h2 => ?_) (fun h2 => ?_)
            · skip
              refine B rfl ?_
              refine Exists.intro _ (And.intro rfl ?_)
              exact (And.intro (by show 0 ≤ v6 ∧ v6 ≤ 2000; omega) (fun k j hk => (hf33 _ _ (by omega))))
            · skip
              show WP_ X G Q 0 0 ad SHS_ τ33 39 [(42, 86), (0, a1), (9, 0), (0, a3), (0, a4), (0, a5), (0, v6), (0, v7), (9, 0)] []
              refine B rfl ?_
              have p3 : MI τ33 := MI_fr hp0 (fun k j hk => (hf33 _ _ (by omega)))
              have p4 : SN τ33 a1 := SN_fr hp1 (fun k j hk => (hf33 _ _ (by omega)))
              refine Exists.intro (a1, v7) (And.intro rfl (And.intro (And.intro p3 (And.intro p4 (And.intro (by show 0 ≤ a1; omega) (And.intro (by show a1 ≤ 3; omega) (And.intro (by show 0 ≤ v7; omega) (by show v7 ≤ 1999; omega)))))) ?_))
              rintro z5 m_ h6
              obtain rfl : τ33 = m_ := h6.2
              have h7 : 0 ≤ z5 ∧ z5 ≤ 1 := h6.1
              refine And.intro (fun h8 => ?_) (fun h8 => ?_)
              · skip
                refine B rfl ?_
                have p9 : SW τ33 87 := (p3).1.2.1
                try have t10 : τ33 87 (6 + 15 * a4 + 1) = σ 87 (6 + 15 * a4 + 1) := (hf33 _ _ (by omega))
                try have t11 : τ33 87 (6 + 15 * a4 + 3) = σ 87 (6 + 15 * a4 + 3) := (hf33 _ _ (by omega))
                try have t12 : τ33 87 1 = σ 87 1 := (hf33 _ _ (by omega))
                have w13 := p9 a4 (by omega) (by omega) (by omega)
                have p14 : BW τ33 87 := (p3).1.1
                refine Exists.intro (a4, a5, v7) (And.intro rfl (And.intro (And.intro p14 (And.intro (by show 0 ≤ a4; omega) (And.intro (by show a4 ≤ 2; omega) (And.intro (by show 1 ≤ τ33 87 (6 + 15 * a4 + 1); omega) (And.intro (by show 0 ≤ a5; omega) (And.intro (by show a5 ≤ 4; omega) (And.intro (by show 0 ≤ v7; omega) (by show v7 ≤ 1999; omega)))))))) ?_))
                rintro z15 m_ h16
                obtain rfl : τ33 = m_ := h16.2.2.2.2
                have h17 : -1 ≤ z15 ∧ z15 ≤ 2000 := h16.1
                have h18 : a5 = 1 → z15 ≤ 7 := h16.2.1
                have h19 : a5 = 3 → z15 ≤ 9 := h16.2.2.1
                have h20 : a5 = 4 → 0 ≤ z15 ∧ z15 ≤ 1 := h16.2.2.2.1
                refine And.intro (by omega) ?_
                refine And.intro (by omega) ?_
                intro z21 ez21 hz21
                have hz21 : (0 : Int) ≤ z21 ∧ z21 ≤ (2000 : Int) := hz21
                try have t22 : τ33 98 (z15 + 1) = σ 98 (z15 + 1) := (hf33 _ _ (by omega))
                have hak := hi33_4 (z15 + 1) (by omega) (by omega)
                refine And.intro (by omega) ?_
                refine And.intro (by omega) ?_
                refine And.intro (by show (0 : Int) ≤ _ ∧ _ ≤ (2000 : Int); omega) ?_
                intro σ23 e24
                refine And.intro (by omega) ?_
                intro z25 ez25 hz25
                have hz25 : (0 : Int) ≤ z25 ∧ z25 ≤ (2000 : Int) := hz25
                have t26 : σ23 98 (z15 + 1) = z21 + 1 := ups_v e24
                refine Exists.intro v6 (Exists.intro z25 (And.intro rfl ?_))
                intro z27 hz27
                refine And.intro (by omega) ?_
                show WP_ X G Q 0 0 ad SHS_ σ23 33 [(42, 86), (0, a1), (9, 0), (0, a3), (0, a4), (0, a5), (0, z27), (0, v7 + 1), (0, z15 + 1)] []
                refine wdrop_ (L' := [(42, 86), (0, a1), (9, 0), (0, a3), (0, a4), (0, a5), (0, z27), (0, v7 + 1), (9, 0)]) ⟨Or.inr rfl, ⟨Or.inr rfl, ⟨Or.inl rfl, ⟨Or.inr rfl, ⟨Or.inr rfl, ⟨Or.inr rfl, ⟨Or.inr rfl, ⟨Or.inr rfl, ⟨Or.inl rfl, trivial⟩⟩⟩⟩⟩⟩⟩⟩⟩ ?_
                exact ih_33 z27 (v7 + 1) σ23 (fun k j hk => ((ups_r e24 (by omega)).trans (hf33 _ _ (by omega)))) (by show a2 ≤ (v7 + 1); omega) (by show (v7 + 1) ≤ a3 + 1; omega) (by show 0 ≤ z27; omega) (by show z27 ≤ 2000; omega) (by show ∀ j : Int, 0 ≤ j → j < 12 → σ23 98 j ≤ (v7 + 1) - a2; intro j h1 h2; have h3 := hi33_4 j h1 h2; by_cases hj : j = (z15 + 1); subst hj; omega; rw [show σ23 98 j = τ33 98 j from (ups_r e24 (by omega))]; omega) (by omega)
              · skip
                show WP_ X G Q 0 0 ad SHS_ τ33 49 [(42, 86), (0, a1), (9, 0), (0, a3), (0, a4), (0, a5), (0, v6), (0, v7), (9, 0)] []
                refine B rfl ?_
                refine B rfl ?_
                refine And.intro (by omega) ?_
                exact ih_33 v6 (v7 + 1) τ33 (fun k j hk => (hf33 _ _ (by omega))) (by show a2 ≤ (v7 + 1); omega) (by show (v7 + 1) ≤ a3 + 1; omega) (by show 0 ≤ v6; omega) (by show v6 ≤ 2000; omega) (by show ∀ j : Int, 0 ≤ j → j < 12 → τ33 98 j ≤ (v7 + 1) - a2; intro j h1 h2; have h3 := hi33_4 j h1 h2; omega) (by omega)
        exact lp_33 ((a3 + 1 - a2 : Int).toNat + 1) 0 a2 τ6 (fun k j hk => (hf6 _ _ (by omega))) (by show a2 ≤ a2; omega) (by show a2 ≤ a3 + 1; omega) (by show 0 ≤ 0; omega) (by show 0 ≤ 2000; omega) (by show ∀ j : Int, 0 ≤ j → j < 12 → τ6 98 j ≤ a2 - a2; intro j h1 h2; have h3 := hi6_2 j h1 (by omega); omega) (by omega)
      · skip
        show WP_ X G Q 0 0 ad SHS_ τ6 16 [(42, 86), (0, a1), (0, a2), (0, a3), (0, a4), (0, a5), (0, 0), (0, v7), (9, 0)] []
        refine B rfl ?_
        refine And.intro (by omega) ?_
        refine And.intro (by show (0 : Int) ≤ _ ∧ _ ≤ (2000 : Int); omega) ?_
        intro σ28 e29
        refine And.intro (by omega) ?_
        exact ih_6 (v7 + 1) σ28 (fun k j hk => ((ups_r e29 (by omega)).trans (hf6 _ _ (by omega)))) (by show 0 ≤ (v7 + 1); omega) (by show (v7 + 1) ≤ 12; omega) (by show ∀ j : Int, 0 ≤ j → j < (v7 + 1) → σ28 98 j = 0; intro j h1 h2; by_cases hj : j = v7; subst hj; exact ups_v e29; exact (ups_r e29 (by omega)).trans (hi6_2 j h1 (by omega))) (by omega)
  exact lp_6 ((12 - 0 : Int).toNat + 1) 0 σ (fun k j hk => rfl) (by show 0 ≤ 0; omega) (by show 0 ≤ 12; omega) (by show ∀ j : Int, 0 ≤ j → j < 0 → σ 98 j = 0; intro j h1 h2; omega) (by omega)
def as_G_X11_askOf : Int × Int × Int → List Sv_t := fun a => [(42, 86), (0, a.1), (0, a.2.1), (0, a.2.2)]
def pre_G_X11_askOf : Int × Int × Int → Me_t → Prop := fun a σ => (MI σ) ∧ (SN σ a.1) ∧ (0 ≤ a.1) ∧ (a.1 ≤ 3) ∧ (0 ≤ a.2.1) ∧ (a.2.1 ≤ a.2.2) ∧ (a.2.2 ≤ 1999)
def post_G_X11_askOf : Int × Int × Int → Me_t → Int → Me_t → Prop := fun a σ z σ' => (∀ k j : Int, ¬ (k = 86 ∨ k = 98) → σ' k j = σ k j)
set_option maxHeartbeats 1500000 in
set_option maxRecDepth 100000 in
theorem ct_G_X11_askOf (l : Launch) : CT_ l yX11_askOf cX11_askOf 8 (some .int) 6 142 as_G_X11_askOf (rmI_) pre_G_X11_askOf post_G_X11_askOf := by
  refine ct_of (by decide) (fun _ => Nat.le_of_ble_eq_true rfl) ?_
  intro X G Q ad σ a hl hR E hG R hM hv hp
  obtain ⟨a1, a2, a3⟩ := a
  have r_a1 : -2147483648 ≤ a1 ∧ a1 ≤ 2147483647 := hv (0, a1) (List.mem_of_getElem? (i := 1) rfl)
  have r_a2 : -2147483648 ≤ a2 ∧ a2 ≤ 2147483647 := hv (0, a2) (List.mem_of_getElem? (i := 2) rfl)
  have r_a3 : -2147483648 ≤ a3 ∧ a3 ≤ 2147483647 := hv (0, a3) (List.mem_of_getElem? (i := 3) rfl)
  have hp0 : MI σ := hp.1
  have hp1 : SN σ a1 := hp.2.1
  have hp2 : 0 ≤ a1 := hp.2.2.1
  have hp3 : a1 ≤ 3 := hp.2.2.2.1
  have hp4 : 0 ≤ a2 := hp.2.2.2.2.1
  have hp5 : a2 ≤ a3 := hp.2.2.2.2.2.1
  have hp6 : a3 ≤ 1999 := hp.2.2.2.2.2.2
  have B := @bk_ X G Q 0 0 ad SHS_ RX11 cX11_askOf 8 (some .int) flX11 plX11 knX11 [(766, 4, TR_ as_G_X11_fitsOf (rmI_) pre_G_X11_fitsOf post_G_X11_fitsOf), (778, 6, TR_ as_G_X11_worstOf (rmI_) pre_G_X11_worstOf post_G_X11_worstOf)] _ _ none kX11_askOf [17, 28, 31, 37, 43, 71] flX11_ok plX11_ok knX11_ok eX11_askOf oX11_askOf
    (List.forall_mem_cons.mpr ⟨cok_v (t := 32) (c := 11) (N := 39) (n := 3) (idx := 383) E (ct_G_X11_fitsOf X.2.1) (by rw [hR]; decide) (Nat.zero_le _) (Nat.zero_le _) hG rfl rfl ⟨rfl, by decide, by decide, by decide⟩ (fun _ => ⟨_, _, rfl, rfl⟩) wl_X11_383 wi_X11_fitsOf ws_X11_fitsOf wn_X11 wc_X11_fitsOf, List.forall_mem_cons.mpr ⟨cok_v (t := 32) (c := 11) (N := 39) (n := 5) (idx := 389) E (ct_G_X11_worstOf X.2.1) (by rw [hR]; decide) (Nat.zero_le _) (Nat.zero_le _) hG rfl rfl ⟨rfl, by decide, by decide, by decide⟩ (fun _ => ⟨_, _, rfl, rfl⟩) wl_X11_389 wi_X11_worstOf ws_X11_worstOf wn_X11 wc_X11_worstOf, fun _ h => absurd h List.not_mem_nil⟩⟩) R sok_no E
  show WP_ X G Q 0 0 ad SHS_ σ 0 [(42, 86), (0, a1), (0, a2), (0, a3), (9, 0), (9, 0), (9, 0), (9, 0)] []
  refine B rfl ?_
  refine Exists.intro (a1, a2, a3) (And.intro rfl (And.intro (And.intro hp0 (And.intro hp1 (And.intro (by show 0 ≤ a1; omega) (And.intro (by show a1 ≤ 3; omega) (And.intro (by show 0 ≤ a2; omega) (And.intro (by show a2 ≤ a3; omega) (by show a3 ≤ 1999; omega))))))) ?_))
  rintro z1 m_ h2
  obtain rfl : σ = m_ := h2.2
  have h3 : 0 ≤ z1 ∧ z1 ≤ 2000 := h2.1
  intro σ4 e5
  have lp_17 : ∀ (nq_ : Nat) (v4 : Int) (v5 : Int) (τ17 : Me_t), (∀ k j : Int, ¬ (k = 86 ∨ k = 98) → τ17 k j = σ k j) → (0 ≤ v5) → (v5 ≤ 3) → (3 - v5 : Int).toNat < nq_ → WP_ X G Q 0 0 ad SHS_ τ17 17 [(42, 86), (0, a1), (0, a2), (0, a3), (0, v4), (0, v5), (9, 0), (9, 0)] [] := by
    intro nq_
    induction nq_ with
    | zero => intros; omega
    | succ nq_ ih_17 =>
      intro v4 v5 τ17 hf17 hi17_0 hi17_1 hm17
      refine B rfl ?_
      refine And.intro (by omega) ?_
      intro z6 ez6 hz6
      have hz6 : ((-1) : Int) ≤ z6 ∧ z6 ≤ (1999 : Int) := hz6
      try have t7 : τ17 87 1 = σ 87 1 := (hf17 _ _ (by omega))
      have p8 : MI τ17 := MI_fr hp0 (fun k j hk => (hf17 _ _ (by omega)))
      have p9 : BW τ17 87 := (p8).1.1
      have b10 := wrh_ p9 (i := 1) (by omega)
      have b10 : (0 : Int) ≤ τ17 87 1 ∧ τ17 87 1 ≤ (3 : Int) := b10
      refine And.intro (fun h11 => ?_) (fun h11 => ?_)
      · skip
        refine B rfl ?_
        refine Exists.intro _ (And.intro rfl ?_)
        exact (fun k j hk => (hf17 _ _ (by omega)))
      · skip
        show WP_ X G Q 0 0 ad SHS_ τ17 28 [(42, 86), (0, a1), (0, a2), (0, a3), (0, v4), (0, v5), (9, 0), (9, 0)] []
        refine B rfl ?_
        have lp_31 : ∀ (nq_ : Nat) (v4 : Int) (v6 : Int) (τ31 : Me_t), (∀ k j : Int, ¬ (k = 86 ∨ k = 98) → τ31 k j = σ k j) → (1 ≤ v6) → (v6 ≤ 5) → (5 - v6 : Int).toNat < nq_ → WP_ X G Q 0 0 ad SHS_ τ31 31 [(42, 86), (0, a1), (0, a2), (0, a3), (0, v4), (0, v5), (0, v6), (9, 0)] [] := by
          intro nq_
          induction nq_ with
          | zero => intros; omega
          | succ nq_ ih_31 =>
            intro v4 v6 τ31 hf31 hi31_0 hi31_1 hm31
            refine B rfl ?_
            refine And.intro (fun h12 => ?_) (fun h12 => ?_)
            · skip
              refine B rfl ?_
              refine And.intro (by omega) ?_
              show WP_ X G Q 0 0 ad SHS_ τ31 17 [(42, 86), (0, a1), (0, a2), (0, a3), (0, v4), (0, v5 + 1), (0, v6), (9, 0)] []
              refine wdrop_ (L' := [(42, 86), (0, a1), (0, a2), (0, a3), (0, v4), (0, v5 + 1), (9, 0), (9, 0)]) ⟨Or.inr rfl, ⟨Or.inr rfl, ⟨Or.inr rfl, ⟨Or.inr rfl, ⟨Or.inr rfl, ⟨Or.inr rfl, ⟨Or.inl rfl, ⟨Or.inl rfl, trivial⟩⟩⟩⟩⟩⟩⟩⟩ ?_
              exact ih_17 v4 (v5 + 1) τ31 (fun k j hk => (hf31 _ _ (by omega))) (by show 0 ≤ (v5 + 1); omega) (by show (v5 + 1) ≤ 3; omega) (by omega)
            · skip
              show WP_ X G Q 0 0 ad SHS_ τ31 37 [(42, 86), (0, a1), (0, a2), (0, a3), (0, v4), (0, v5), (0, v6), (9, 0)] []
              refine B rfl ?_
              refine And.intro (fun h13 => ?_) (fun h13 => ?_)
              · skip
                refine B rfl ?_
                have p14 : MI τ31 := MI_fr hp0 (fun k j hk => (hf31 _ _ (by omega)))
                have p15 : SN τ31 a1 := SN_fr hp1 (fun k j hk => (hf31 _ _ (by omega)))
                try have t16 : τ31 87 1 = σ 87 1 := (hf31 _ _ (by omega))
                refine Exists.intro (a1, a2, a3, v5, v6) (And.intro rfl (And.intro (And.intro p14 (And.intro p15 (And.intro (by show 0 ≤ a1; omega) (And.intro (by show a1 ≤ 3; omega) (And.intro (by show 0 ≤ a2; omega) (And.intro (by show a2 ≤ a3; omega) (And.intro (by show a3 ≤ 1999; omega) (And.intro (by show 0 ≤ v5; omega) (And.intro (by show v5 ≤ 2; omega) (And.intro (by show v5 < τ31 87 1; omega) (by show v6 = 1 ∨ v6 = 3 ∨ v6 = 4; omega))))))))))) ?_))
                intro z17 σ19 h18
                have f20 : ∀ k j : Int, ¬ (k = 98) → σ19 k j = τ31 k j := h18.2
                have h21 : 0 ≤ z17 ∧ z17 ≤ 2000 := h18.1
                intro z22 ez22 hz22
                have hz22 : ((-2147483648) : Int) ≤ z22 ∧ z22 ≤ (2147483647 : Int) := rgl_ hz22 (by decide +kernel) (by decide +kernel) (by decide +kernel)
                try have t23 : σ19 86 25 = σ 86 25 := ((f20 _ _ (by omega)).trans (hf31 _ _ (by omega)))
                refine And.intro (fun h24 => ?_) (fun h24 => ?_)
                · skip
                  refine B rfl ?_
                  intro σ25 e26
                  refine And.intro (by omega) ?_
                  refine And.intro (by omega) ?_
                  refine And.intro (by omega) ?_
                  show WP_ X G Q 0 0 ad SHS_ σ25 31 [(42, 86), (0, a1), (0, a2), (0, a3), (0, (10 * v5) + v6), (0, v5), (0, v6 + 1), (0, z17)] []
                  refine wdrop_ (L' := [(42, 86), (0, a1), (0, a2), (0, a3), (0, (10 * v5) + v6), (0, v5), (0, v6 + 1), (9, 0)]) ⟨Or.inr rfl, ⟨Or.inr rfl, ⟨Or.inr rfl, ⟨Or.inr rfl, ⟨Or.inr rfl, ⟨Or.inr rfl, ⟨Or.inr rfl, ⟨Or.inl rfl, trivial⟩⟩⟩⟩⟩⟩⟩⟩ ?_
                  exact ih_31 ((10 * v5) + v6) (v6 + 1) σ25 (fun k j hk => ((ups_r e26 (by omega)).trans ((f20 _ _ (by omega)).trans (hf31 _ _ (by omega))))) (by show 1 ≤ (v6 + 1); omega) (by show (v6 + 1) ≤ 5; omega) (by omega)
                · skip
                  show WP_ X G Q 0 0 ad SHS_ σ19 71 [(42, 86), (0, a1), (0, a2), (0, a3), (0, v4), (0, v5), (0, v6), (0, z17)] []
                  refine B rfl ?_
                  refine B rfl ?_
                  refine And.intro (by omega) ?_
                  show WP_ X G Q 0 0 ad SHS_ σ19 31 [(42, 86), (0, a1), (0, a2), (0, a3), (0, v4), (0, v5), (0, v6 + 1), (0, z17)] []
                  refine wdrop_ (L' := [(42, 86), (0, a1), (0, a2), (0, a3), (0, v4), (0, v5), (0, v6 + 1), (9, 0)]) ⟨Or.inr rfl, ⟨Or.inr rfl, ⟨Or.inr rfl, ⟨Or.inr rfl, ⟨Or.inr rfl, ⟨Or.inr rfl, ⟨Or.inr rfl, ⟨Or.inl rfl, trivial⟩⟩⟩⟩⟩⟩⟩⟩ ?_
                  exact ih_31 v4 (v6 + 1) σ19 (fun k j hk => ((f20 _ _ (by omega)).trans (hf31 _ _ (by omega)))) (by show 1 ≤ (v6 + 1); omega) (by show (v6 + 1) ≤ 5; omega) (by omega)
              · skip
                show WP_ X G Q 0 0 ad SHS_ τ31 43 [(42, 86), (0, a1), (0, a2), (0, a3), (0, v4), (0, v5), (0, v6), (9, 0)] []
                refine B rfl ?_
                refine B rfl ?_
                intro z27 ez27 hz27
                have hz27 : ((-2147483648) : Int) ≤ z27 ∧ z27 ≤ (2147483647 : Int) := rgl_ hz27 (by decide +kernel) (by decide +kernel) (by decide +kernel)
                try have t28 : τ31 86 25 = σ 86 25 := (hf31 _ _ (by omega))
                refine And.intro (fun h29 => ?_) (fun h29 => ?_)
                · skip
                  refine B rfl ?_
                  intro σ30 e31
                  refine And.intro (by omega) ?_
                  refine And.intro (by omega) ?_
                  refine And.intro (by omega) ?_
                  show WP_ X G Q 0 0 ad SHS_ σ30 31 [(42, 86), (0, a1), (0, a2), (0, a3), (0, (10 * v5) + v6), (0, v5), (0, v6 + 1), (0, 1000000)] []
                  refine wdrop_ (L' := [(42, 86), (0, a1), (0, a2), (0, a3), (0, (10 * v5) + v6), (0, v5), (0, v6 + 1), (9, 0)]) ⟨Or.inr rfl, ⟨Or.inr rfl, ⟨Or.inr rfl, ⟨Or.inr rfl, ⟨Or.inr rfl, ⟨Or.inr rfl, ⟨Or.inr rfl, ⟨Or.inl rfl, trivial⟩⟩⟩⟩⟩⟩⟩⟩ ?_
                  exact ih_31 ((10 * v5) + v6) (v6 + 1) σ30 (fun k j hk => ((ups_r e31 (by omega)).trans (hf31 _ _ (by omega)))) (by show 1 ≤ (v6 + 1); omega) (by show (v6 + 1) ≤ 5; omega) (by omega)
                · skip
                  show WP_ X G Q 0 0 ad SHS_ τ31 71 [(42, 86), (0, a1), (0, a2), (0, a3), (0, v4), (0, v5), (0, v6), (0, 1000000)] []
                  refine B rfl ?_
                  refine B rfl ?_
                  refine And.intro (by omega) ?_
                  show WP_ X G Q 0 0 ad SHS_ τ31 31 [(42, 86), (0, a1), (0, a2), (0, a3), (0, v4), (0, v5), (0, v6 + 1), (0, 1000000)] []
                  refine wdrop_ (L' := [(42, 86), (0, a1), (0, a2), (0, a3), (0, v4), (0, v5), (0, v6 + 1), (9, 0)]) ⟨Or.inr rfl, ⟨Or.inr rfl, ⟨Or.inr rfl, ⟨Or.inr rfl, ⟨Or.inr rfl, ⟨Or.inr rfl, ⟨Or.inr rfl, ⟨Or.inl rfl, trivial⟩⟩⟩⟩⟩⟩⟩⟩ ?_
                  exact ih_31 v4 (v6 + 1) τ31 (fun k j hk => (hf31 _ _ (by omega))) (by show 1 ≤ (v6 + 1); omega) (by show (v6 + 1) ≤ 5; omega) (by omega)
        exact lp_31 ((5 - 1 : Int).toNat + 1) v4 1 τ17 (fun k j hk => (hf17 _ _ (by omega))) (by show 1 ≤ 1; omega) (by show 1 ≤ 5; omega) (by omega)
  exact lp_17 ((3 - 0 : Int).toNat + 1) (-1) 0 σ4 (fun k j hk => (ups_r e5 (by omega))) (by show 0 ≤ 0; omega) (by show 0 ≤ 3; omega) (by omega)
def as_G_X11_ask : Int × Int × Int → List Sv_t := fun a => [(42, 86), (0, a.1), (0, a.2.1), (0, a.2.2)]
def pre_G_X11_ask : Int × Int × Int → Me_t → Prop := fun a σ => (MI σ)
def post_G_X11_ask : Int × Int × Int → Me_t → Int → Me_t → Prop := fun a σ z σ' => (∀ k j : Int, ¬ (k = 86 ∨ k = 98 ∨ (93 ≤ k ∧ k ≤ 96)) → σ' k j = σ k j)
set_option maxHeartbeats 1500000 in
set_option maxRecDepth 100000 in
theorem ct_G_X11_ask (l : Launch) : CT_ l yX11_ask cX11_ask 5 (some .int) 7 169 as_G_X11_ask (rmI_) pre_G_X11_ask post_G_X11_ask := by
  refine ct_of (by decide) (fun _ => Nat.le_of_ble_eq_true rfl) ?_
  intro X G Q ad σ a hl hR E hG R hM hv hp
  obtain ⟨a1, a2, a3⟩ := a
  have r_a1 : -2147483648 ≤ a1 ∧ a1 ≤ 2147483647 := hv (0, a1) (List.mem_of_getElem? (i := 1) rfl)
  have r_a2 : -2147483648 ≤ a2 ∧ a2 ≤ 2147483647 := hv (0, a2) (List.mem_of_getElem? (i := 2) rfl)
  have r_a3 : -2147483648 ≤ a3 ∧ a3 ≤ 2147483647 := hv (0, a3) (List.mem_of_getElem? (i := 3) rfl)
  have hp0 : MI σ := hp
  have B := @bk_ X G Q 0 0 ad SHS_ RX11 cX11_ask 5 (some .int) flX11 plX11 knX11 [(758, 5, TR_ as_G_X11_asksSeen (rmI_) pre_G_X11_asksSeen post_G_X11_asksSeen), (786, 4, TR_ as_G_X11_askOf (rmI_) pre_G_X11_askOf post_G_X11_askOf)] _ _ none kX11_ask [] flX11_ok plX11_ok knX11_ok eX11_ask oX11_ask
    (List.forall_mem_cons.mpr ⟨cok_v (t := 32) (c := 11) (N := 39) (n := 4) (idx := 379) E (ct_G_X11_asksSeen X.2.1) (by rw [hR]; decide) (Nat.zero_le _) (Nat.zero_le _) hG rfl rfl ⟨rfl, by decide, by decide, by decide⟩ (fun _ => ⟨_, _, rfl, rfl⟩) wl_X11_379 wi_X11_asksSeen ws_X11_asksSeen wn_X11 wc_X11_asksSeen, List.forall_mem_cons.mpr ⟨cok_v (t := 32) (c := 11) (N := 39) (n := 3) (idx := 393) E (ct_G_X11_askOf X.2.1) (by rw [hR]; decide) (Nat.zero_le _) (Nat.zero_le _) hG rfl rfl ⟨rfl, by decide, by decide, by decide⟩ (fun _ => ⟨_, _, rfl, rfl⟩) wl_X11_393 wi_X11_askOf ws_X11_askOf wn_X11 wc_X11_askOf, fun _ h => absurd h List.not_mem_nil⟩⟩) R sok_no E
  show WP_ X G Q 0 0 ad SHS_ σ 0 [(42, 86), (0, a1), (0, a2), (0, a3), (9, 0)] []
  refine B rfl ?_
  refine Exists.intro (a1, a2, a3, 1) (And.intro rfl (And.intro hp0 ?_))
  intro z1 σ3 h2
  have f4 : ∀ k j : Int, ¬ (93 ≤ k ∧ k ≤ 96) → σ3 k j = σ k j := h2.2
  have h5 : z1 < 0 ∨ (0 ≤ a1 ∧ a1 ≤ 3 ∧ 0 ≤ a2 ∧ a2 ≤ a3 ∧ a3 ≤ 1999 ∧ SN σ3 a1) := h2.1
  have hqo := h2.1
  try dsimp only at hqo
  refine And.intro (fun h6 => ?_) (fun h6 => ?_)
  · skip
    refine B rfl ?_
    have hqq := hqo.resolve_left (by omega)
    have hsn0 : SN σ3 a1 := hqq.2.2.2.2.2
    have p7 : MI σ3 := MI_fr hp0 (fun k j hk => (f4 _ _ (by omega)))
    refine Exists.intro (a1, a2, a3) (And.intro rfl (And.intro (And.intro p7 (And.intro hsn0 (And.intro (by show 0 ≤ a1; omega) (And.intro (by show a1 ≤ 3; omega) (And.intro (by show 0 ≤ a2; omega) (And.intro (by show a2 ≤ a3; omega) (by show a3 ≤ 1999; omega))))))) ?_))
    intro z8 σ10 h9
    have f11 : ∀ k j : Int, ¬ (k = 86 ∨ k = 98) → σ10 k j = σ3 k j := h9
    refine Exists.intro _ (And.intro rfl ?_)
    exact (fun k j hk => ((f11 _ _ (by omega)).trans (f4 _ _ (by omega))))
  · skip
    refine B rfl ?_
    refine Exists.intro _ (And.intro rfl ?_)
    exact (fun k j hk => (f4 _ _ (by omega)))
def as_G_X11_leaves : Int × Int × Int → List Sv_t := fun a => [(42, 86), (0, a.1), (0, a.2.1), (0, a.2.2)]
def pre_G_X11_leaves : Int × Int × Int → Me_t → Prop := fun a σ => (MI σ)
def post_G_X11_leaves : Int × Int × Int → Me_t → Int → Me_t → Prop := fun a σ z σ' => (∀ k j : Int, ¬ (k = 86 ∨ k = 98 ∨ (93 ≤ k ∧ k ≤ 96)) → σ' k j = σ k j)
set_option maxHeartbeats 1500000 in
set_option maxRecDepth 100000 in
theorem ct_G_X11_leaves (l : Launch) : CT_ l yX11_leaves cX11_leaves 5 (some .int) 7 169 as_G_X11_leaves (rmI_) pre_G_X11_leaves post_G_X11_leaves := by
  refine ct_of (by decide) (fun _ => Nat.le_of_ble_eq_true rfl) ?_
  intro X G Q ad σ a hl hR E hG R hM hv hp
  obtain ⟨a1, a2, a3⟩ := a
  have r_a1 : -2147483648 ≤ a1 ∧ a1 ≤ 2147483647 := hv (0, a1) (List.mem_of_getElem? (i := 1) rfl)
  have r_a2 : -2147483648 ≤ a2 ∧ a2 ≤ 2147483647 := hv (0, a2) (List.mem_of_getElem? (i := 2) rfl)
  have r_a3 : -2147483648 ≤ a3 ∧ a3 ≤ 2147483647 := hv (0, a3) (List.mem_of_getElem? (i := 3) rfl)
  have hp0 : MI σ := hp
  have B := @bk_ X G Q 0 0 ad SHS_ RX11 cX11_leaves 5 (some .int) flX11 plX11 knX11 [(758, 5, TR_ as_G_X11_asksSeen (rmI_) pre_G_X11_asksSeen post_G_X11_asksSeen), (786, 4, TR_ as_G_X11_askOf (rmI_) pre_G_X11_askOf post_G_X11_askOf)] _ _ none kX11_leaves [] flX11_ok plX11_ok knX11_ok eX11_leaves oX11_leaves
    (List.forall_mem_cons.mpr ⟨cok_v (t := 32) (c := 11) (N := 39) (n := 4) (idx := 379) E (ct_G_X11_asksSeen X.2.1) (by rw [hR]; decide) (Nat.zero_le _) (Nat.zero_le _) hG rfl rfl ⟨rfl, by decide, by decide, by decide⟩ (fun _ => ⟨_, _, rfl, rfl⟩) wl_X11_379 wi_X11_asksSeen ws_X11_asksSeen wn_X11 wc_X11_asksSeen, List.forall_mem_cons.mpr ⟨cok_v (t := 32) (c := 11) (N := 39) (n := 3) (idx := 393) E (ct_G_X11_askOf X.2.1) (by rw [hR]; decide) (Nat.zero_le _) (Nat.zero_le _) hG rfl rfl ⟨rfl, by decide, by decide, by decide⟩ (fun _ => ⟨_, _, rfl, rfl⟩) wl_X11_393 wi_X11_askOf ws_X11_askOf wn_X11 wc_X11_askOf, fun _ h => absurd h List.not_mem_nil⟩⟩) R sok_no E
  show WP_ X G Q 0 0 ad SHS_ σ 0 [(42, 86), (0, a1), (0, a2), (0, a3), (9, 0)] []
  refine B rfl ?_
  refine Exists.intro (a1, a2, a3, 1) (And.intro rfl (And.intro hp0 ?_))
  intro z1 σ3 h2
  have f4 : ∀ k j : Int, ¬ (93 ≤ k ∧ k ≤ 96) → σ3 k j = σ k j := h2.2
  have h5 : z1 < 0 ∨ (0 ≤ a1 ∧ a1 ≤ 3 ∧ 0 ≤ a2 ∧ a2 ≤ a3 ∧ a3 ≤ 1999 ∧ SN σ3 a1) := h2.1
  have hqo := h2.1
  try dsimp only at hqo
  refine And.intro (fun h6 => ?_) (fun h6 => ?_)
  · skip
    refine B rfl ?_
    have hqq := hqo.resolve_left (by omega)
    have hsn0 : SN σ3 a1 := hqq.2.2.2.2.2
    have p7 : MI σ3 := MI_fr hp0 (fun k j hk => (f4 _ _ (by omega)))
    refine Exists.intro (a1, a2, a3) (And.intro rfl (And.intro (And.intro p7 (And.intro hsn0 (And.intro (by show 0 ≤ a1; omega) (And.intro (by show a1 ≤ 3; omega) (And.intro (by show 0 ≤ a2; omega) (And.intro (by show a2 ≤ a3; omega) (by show a3 ≤ 1999; omega))))))) ?_))
    intro z8 σ10 h9
    have f11 : ∀ k j : Int, ¬ (k = 86 ∨ k = 98) → σ10 k j = σ3 k j := h9
    intro z12 ez12 hz12
    have hz12 : ((-2147483648) : Int) ≤ z12 ∧ z12 ≤ (2147483647 : Int) := rgl_ hz12 (by decide +kernel) (by decide +kernel) (by decide +kernel)
    try have t13 : σ10 86 25 = σ 86 25 := ((f11 _ _ (by omega)).trans (f4 _ _ (by omega)))
    refine Exists.intro _ (And.intro rfl ?_)
    exact (fun k j hk => ((f11 _ _ (by omega)).trans (f4 _ _ (by omega))))
  · skip
    refine Exists.intro _ (And.intro rfl ?_)
    exact (fun k j hk => (f4 _ _ (by omega)))
def as_G_X11_feed : Int × Int × Int × Int × Int → List Sv_t := fun a => [(42, 86), (0, a.1), (0, a.2.1), (0, a.2.2.1), (0, a.2.2.2.1), (0, a.2.2.2.2)]
def pre_G_X11_feed : Int × Int × Int × Int × Int → Me_t → Prop := fun a σ => True
def post_G_X11_feed : Int × Int × Int × Int × Int → Me_t → Int → Me_t → Prop := fun a σ z σ' => (∀ k j : Int, ¬ (k = 86 ∨ k = 90 ∨ k = 91) → σ' k j = σ k j)
set_option maxHeartbeats 1500000 in
set_option maxRecDepth 100000 in
theorem ct_G_X11_feed (l : Launch) : CT_ l yX11_feed cX11_feed 7 (some .int) 0 0 as_G_X11_feed (rmI_) pre_G_X11_feed post_G_X11_feed := by
  refine ct_of (by decide) (fun _ => Nat.le_of_ble_eq_true rfl) ?_
  intro X G Q ad σ a hl hR E hG R hM hv hp
  obtain ⟨a1, a2, a3, a4, a5⟩ := a
  have r_a1 : -2147483648 ≤ a1 ∧ a1 ≤ 2147483647 := hv (0, a1) (List.mem_of_getElem? (i := 1) rfl)
  have r_a2 : -2147483648 ≤ a2 ∧ a2 ≤ 2147483647 := hv (0, a2) (List.mem_of_getElem? (i := 2) rfl)
  have r_a3 : -2147483648 ≤ a3 ∧ a3 ≤ 2147483647 := hv (0, a3) (List.mem_of_getElem? (i := 3) rfl)
  have r_a4 : -2147483648 ≤ a4 ∧ a4 ≤ 2147483647 := hv (0, a4) (List.mem_of_getElem? (i := 4) rfl)
  have r_a5 : -2147483648 ≤ a5 ∧ a5 ≤ 2147483647 := hv (0, a5) (List.mem_of_getElem? (i := 5) rfl)
  have B := @bk_ X G Q 0 0 ad SHS_ RX11 cX11_feed 7 (some .int) flX11 plX11 knX11 [] _ _ none kX11_feed [13, 55, 62] flX11_ok plX11_ok knX11_ok eX11_feed oX11_feed
    (fun _ h => absurd h List.not_mem_nil) R sok_no E
  show WP_ X G Q 0 0 ad SHS_ σ 0 [(42, 86), (0, a1), (0, a2), (0, a3), (0, a4), (0, a5), (9, 0)] []
  refine B rfl ?_
  intro z1 ez1 hz1
  have hz1 : (0 : Int) ≤ z1 ∧ z1 ≤ (1200 : Int) := hz1
  refine And.intro (by omega) ?_
  refine And.intro (fun h2 => ?_) (fun h2 => ?_)
  · skip
    refine B rfl ?_
    refine And.intro (by omega) ?_
    intro σ3 e4
    refine And.intro (by omega) ?_
    intro σ5 e6
    refine And.intro (by omega) ?_
    intro σ7 e8
    refine And.intro (by omega) ?_
    intro σ9 e10
    refine And.intro (by omega) ?_
    intro σ11 e12
    show WP_ X G Q 0 0 ad SHS_ σ11 55 [(42, 86), (0, a1), (0, a2), (0, a3), (0, a4), (0, a5), (0, 0)] []
    refine wdrop_ (L' := [(42, 86), (9, 0), (9, 0), (9, 0), (9, 0), (9, 0), (0, 0)]) ⟨Or.inr rfl, ⟨Or.inl rfl, ⟨Or.inl rfl, ⟨Or.inl rfl, ⟨Or.inl rfl, ⟨Or.inl rfl, ⟨Or.inr rfl, trivial⟩⟩⟩⟩⟩⟩⟩ ?_
    have lp_55 : ∀ (nq_ : Nat) (v6 : Int) (τ55 : Me_t), (∀ k j : Int, ¬ (k = 86 ∨ k = 90 ∨ k = 91) → τ55 k j = σ k j) → (0 ≤ v6) → (v6 ≤ 20) → (0 ≤ τ55 86 5) → (τ55 86 5 + 20 ≤ 1200) → (20 - v6 : Int).toNat < nq_ → WP_ X G Q 0 0 ad SHS_ τ55 55 [(42, 86), (9, 0), (9, 0), (9, 0), (9, 0), (9, 0), (0, v6)] [] := by
      intro nq_
      induction nq_ with
      | zero => intros; omega
      | succ nq_ ih_55 =>
        intro v6 τ55 hf55 hi55_0 hi55_1 hi55_2 hi55_3 hm55
        refine B rfl ?_
        refine And.intro (fun h13 => ?_) (fun h13 => ?_)
        · skip
          refine B rfl ?_
          intro z14 ez14 hz14
          have hz14 : (0 : Int) ≤ z14 ∧ z14 ≤ (1200 : Int) := hz14
          refine And.intro (by omega) ?_
          refine And.intro (by omega) ?_
          intro σ15 e16
          intro z17 ez17 hz17
          have hz17 : (0 : Int) ≤ z17 ∧ z17 ≤ (1200 : Int) := hz17
          have t18 : σ15 86 5 = z14 + 20 := ups_v e16
          refine Exists.intro _ (And.intro rfl ?_)
          exact (fun k j hk => ((ups_r e16 (by omega)).trans (hf55 _ _ (by omega))))
        · skip
          show WP_ X G Q 0 0 ad SHS_ τ55 62 [(42, 86), (9, 0), (9, 0), (9, 0), (9, 0), (9, 0), (0, v6)] []
          refine B rfl ?_
          intro z19 ez19 hz19
          have hz19 : (0 : Int) ≤ z19 ∧ z19 ≤ (1200 : Int) := hz19
          refine And.intro (by omega) ?_
          have q20 : Int.tdiv v6 4 = v6 / 4 := Int.tdiv_eq_ediv_of_nonneg (by omega)
          refine And.intro (by omega) ?_
          refine And.intro (by omega) ?_
          intro z21 ez21 hz21
          have hz21 : ((-2147483648) : Int) ≤ z21 ∧ z21 ≤ (2147483647 : Int) := rgl_ hz21 (by decide +kernel) (by decide +kernel) (by decide +kernel)
          try have t22 : τ55 91 (Int.tdiv v6 4) = σ 91 (Int.tdiv v6 4) := (hf55 _ _ (by omega))
          have q23 : Int.tmod v6 4 = v6 % 4 := Int.tmod_eq_emod_of_nonneg (by omega)
          refine And.intro (by omega) ?_
          refine And.intro (by omega) ?_
          refine And.intro (by omega) ?_
          refine And.intro (by omega) ?_
          refine And.intro (i2b_r _) ?_
          intro σ24 e25
          refine And.intro (by omega) ?_
          try have t26 : σ24 86 5 = τ55 86 5 := (ups_r e25 (by omega))
          exact ih_55 (v6 + 1) σ24 (fun k j hk => ((ups_r e25 (by omega)).trans (hf55 _ _ (by omega)))) (by show 0 ≤ (v6 + 1); omega) (by show (v6 + 1) ≤ 20; omega) (by show 0 ≤ σ24 86 5; omega) (by show σ24 86 5 + 20 ≤ 1200; omega) (by omega)
    try have t27 : σ11 86 5 = σ 86 5 := ((ups_r e12 (by omega)).trans ((ups_r e10 (by omega)).trans ((ups_r e8 (by omega)).trans ((ups_r e6 (by omega)).trans (ups_r e4 (by omega))))))
    exact lp_55 ((20 - 0 : Int).toNat + 1) 0 σ11 (fun k j hk => ((ups_r e12 (by omega)).trans ((ups_r e10 (by omega)).trans ((ups_r e8 (by omega)).trans ((ups_r e6 (by omega)).trans (ups_r e4 (by omega))))))) (by show 0 ≤ 0; omega) (by show 0 ≤ 20; omega) (by show 0 ≤ σ11 86 5; omega) (by show σ11 86 5 + 20 ≤ 1200; omega) (by omega)
  · skip
    show WP_ X G Q 0 0 ad SHS_ σ 13 [(42, 86), (0, a1), (0, a2), (0, a3), (0, a4), (0, a5), (9, 0)] []
    refine B rfl ?_
    refine Exists.intro _ (And.intro rfl ?_)
    exact (fun k j hk => rfl)
def as_G_X11_end : Int → List Sv_t := fun a => [(42, 86), (0, a)]
def pre_G_X11_end : Int → Me_t → Prop := fun a σ => True
def post_G_X11_end : Int → Me_t → Int → Me_t → Prop := fun a σ z σ' => (∀ k j : Int, ¬ (k = 86) → σ' k j = σ k j)
set_option maxHeartbeats 1500000 in
set_option maxRecDepth 100000 in
theorem ct_G_X11_end (l : Launch) : CT_ l yX11_end cX11_end 2 (some .int) 1 25 as_G_X11_end (rmI_) pre_G_X11_end post_G_X11_end := by
  refine ct_of (by decide) (fun _ => Nat.le_of_ble_eq_true rfl) ?_
  intro X G Q ad σ a hl hR E hG R hM hv hp
  obtain ⟨a1, rfl⟩ : ∃ q : Int, q = a := ⟨_, rfl⟩
  have r_a1 : -2147483648 ≤ a1 ∧ a1 ≤ 2147483647 := hv (0, a1) (List.mem_of_getElem? (i := 1) rfl)
  have B := @bk_ X G Q 0 0 ad SHS_ RX11 cX11_end 2 (some .int) flX11 plX11 knX11 [(159, 3, TR_ as_G_X11_in (rmI_) pre_G_X11_in post_G_X11_in)] _ _ none kX11_end [] flX11_ok plX11_ok knX11_ok eX11_end oX11_end
    (List.forall_mem_cons.mpr ⟨cok_s (n := 3) (idx := 79) E (ct_G_X11_in X.2.1) (by rw [hR]; decide) (Nat.zero_le _) (Nat.zero_le _) hG ⟨by decide, by decide, by decide⟩ (fun _ => rfl) wl_X11_79 wt_X11_in wn_X11 wc_X11_in, fun _ h => absurd h List.not_mem_nil⟩) R sok_no E
  show WP_ X G Q 0 0 ad SHS_ σ 0 [(42, 86), (0, a1)] []
  refine B rfl ?_
  intro z1 ez1 hz1
  have hz1 : (0 : Int) ≤ z1 ∧ z1 ≤ (1200 : Int) := hz1
  refine Exists.intro (a1, 0, z1) (And.intro rfl (And.intro True.intro ?_))
  rintro z2 m_ h3
  obtain rfl : σ = m_ := h3.2
  have h4 : (z2 = 1 ∧ 0 ≤ a1 ∧ a1 ≤ z1) ∨ (z2 = 0 ∧ ¬ (0 ≤ a1 ∧ a1 ≤ z1)) := h3.1
  refine And.intro (fun h5 => ?_) (fun h5 => ?_)
  · skip
    refine B rfl ?_
    refine And.intro (by omega) ?_
    intro σ6 e7
    refine Exists.intro _ (And.intro rfl ?_)
    exact (fun k j hk => (ups_r e7 (by omega)))
  · skip
    refine Exists.intro _ (And.intro rfl ?_)
    exact (fun k j hk => rfl)
def as_G_X11_fault : Int → List Sv_t := fun a => [(42, 86), (0, a)]
def pre_G_X11_fault : Int → Me_t → Prop := fun a σ => True
def post_G_X11_fault : Int → Me_t → Int → Me_t → Prop := fun a σ z σ' => (σ = σ')
set_option maxHeartbeats 1500000 in
set_option maxRecDepth 100000 in
theorem ct_G_X11_fault (l : Launch) : CT_ l yX11_fault cX11_fault 2 (some .int) 0 0 as_G_X11_fault (rmI_) pre_G_X11_fault post_G_X11_fault := by
  refine ct_of (by decide) (fun _ => Nat.le_of_ble_eq_true rfl) ?_
  intro X G Q ad σ a hl hR E hG R hM hv hp
  obtain ⟨a1, rfl⟩ : ∃ q : Int, q = a := ⟨_, rfl⟩
  have r_a1 : -2147483648 ≤ a1 ∧ a1 ≤ 2147483647 := hv (0, a1) (List.mem_of_getElem? (i := 1) rfl)
  have B := @bk_ X G Q 0 0 ad SHS_ RX11 cX11_fault 2 (some .int) flX11 plX11 knX11 [] _ _ none kX11_fault [] flX11_ok plX11_ok knX11_ok eX11_fault oX11_fault
    (fun _ h => absurd h List.not_mem_nil) R sok_no E
  show WP_ X G Q 0 0 ad SHS_ σ 0 [(42, 86), (0, a1)] []
  refine B rfl ?_
  refine And.intro (fun h1 => ?_) (fun h1 => ?_)
  · skip
    refine B rfl ?_
    refine And.intro (fun h2 => ?_) (fun h2 => ?_)
    · skip
      refine B rfl ?_
      refine Exists.intro _ (And.intro rfl ?_)
      exact rfl
    · skip
      intro z3 ez3 hz3
      have hz3 : ((-1) : Int) ≤ z3 ∧ z3 ≤ (1200 : Int) := hz3
      refine B rfl ?_
      refine Exists.intro _ (And.intro rfl ?_)
      exact rfl
  · skip
    intro z4 ez4 hz4
    have hz4 : (0 : Int) ≤ z4 ∧ z4 ≤ (3 : Int) := hz4
    refine B rfl ?_
    refine Exists.intro _ (And.intro rfl ?_)
    exact rfl
def as_G_X11_count : Int → List Sv_t := fun a => [(42, 86), (0, a)]
def pre_G_X11_count : Int → Me_t → Prop := fun a σ => (MI σ)
def post_G_X11_count : Int → Me_t → Int → Me_t → Prop := fun a σ z σ' => (σ = σ')
set_option maxHeartbeats 1500000 in
set_option maxRecDepth 100000 in
theorem ct_G_X11_count (l : Launch) : CT_ l yX11_count cX11_count 4 (some .int) 0 0 as_G_X11_count (rmI_) pre_G_X11_count post_G_X11_count := by
  refine ct_of (by decide) (fun _ => Nat.le_of_ble_eq_true rfl) ?_
  intro X G Q ad σ a hl hR E hG R hM hv hp
  obtain ⟨a1, rfl⟩ : ∃ q : Int, q = a := ⟨_, rfl⟩
  have r_a1 : -2147483648 ≤ a1 ∧ a1 ≤ 2147483647 := hv (0, a1) (List.mem_of_getElem? (i := 1) rfl)
  have hp0 : MI σ := hp
  have B := @bk_ X G Q 0 0 ad SHS_ RX11 cX11_count 4 (some .int) flX11 plX11 knX11 [] _ _ none kX11_count [97, 102, 113] flX11_ok plX11_ok knX11_ok eX11_count oX11_count
    (fun _ h => absurd h List.not_mem_nil) R sok_no E
  show WP_ X G Q 0 0 ad SHS_ σ 0 [(42, 86), (0, a1), (9, 0), (9, 0)] []
  refine B rfl ?_
  refine And.intro (fun h1 => ?_) ?_
  · skip
    refine B rfl ?_
    refine Exists.intro _ (And.intro rfl ?_)
    exact rfl
  refine And.intro (fun h1 => ?_) ?_
  · skip
    refine B rfl ?_
    refine And.intro (by omega) ?_
    intro z2 ez2 hz2
    have hz2 : ((-1) : Int) ≤ z2 ∧ z2 ≤ (1999 : Int) := hz2
    have p3 : BW σ 87 := (hp0).1.1
    have b4 := wrh_ p3 (i := 1) (by omega)
    have b4 : (0 : Int) ≤ σ 87 1 ∧ σ 87 1 ≤ (3 : Int) := b4
    refine Exists.intro _ (And.intro rfl ?_)
    exact rfl
  refine And.intro (fun h1 => ?_) ?_
  · skip
    refine B rfl ?_
    refine And.intro (by omega) ?_
    intro z5 ez5 hz5
    have hz5 : ((-1) : Int) ≤ z5 ∧ z5 ≤ (1999 : Int) := hz5
    have p6 : BW σ 87 := (hp0).1.1
    have b7 := wrh_ p6 (i := 2) (by omega)
    have b7 : (0 : Int) ≤ σ 87 2 ∧ σ 87 2 ≤ (12 : Int) := b7
    refine Exists.intro _ (And.intro rfl ?_)
    exact rfl
  refine And.intro (fun h1 => ?_) ?_
  · skip
    refine B rfl ?_
    refine And.intro (by omega) ?_
    intro z8 ez8 hz8
    have hz8 : ((-1) : Int) ≤ z8 ∧ z8 ≤ (1999 : Int) := hz8
    have p9 : BW σ 87 := (hp0).1.1
    have b10 := wrh_ p9 (i := 3) (by omega)
    have b10 : (0 : Int) ≤ σ 87 3 ∧ σ 87 3 ≤ (12 : Int) := b10
    refine Exists.intro _ (And.intro rfl ?_)
    exact rfl
  refine And.intro (fun h1 => ?_) ?_
  · skip
    refine B rfl ?_
    refine And.intro (by omega) ?_
    intro z11 ez11 hz11
    have hz11 : ((-1) : Int) ≤ z11 ∧ z11 ≤ (1999 : Int) := hz11
    have p12 : BW σ 87 := (hp0).1.1
    have b13 := wrh_ p12 (i := 0) (by omega)
    have b13 : (0 : Int) ≤ σ 87 0 ∧ σ 87 0 ≤ (100 : Int) := b13
    refine Exists.intro _ (And.intro rfl ?_)
    exact rfl
  refine And.intro (fun h1 => ?_) ?_
  · skip
    refine B rfl ?_
    refine And.intro (by omega) ?_
    intro z14 ez14 hz14
    have hz14 : ((-1) : Int) ≤ z14 ∧ z14 ≤ (1999 : Int) := hz14
    have p15 : BW σ 87 := (hp0).1.1
    have b16 := wrh_ p15 (i := 4) (by omega)
    have b16 : (0 : Int) ≤ σ 87 4 ∧ σ 87 4 ≤ (1300 : Int) := b16
    refine Exists.intro _ (And.intro rfl ?_)
    exact rfl
  refine And.intro (fun h1 => ?_) ?_
  · skip
    refine B rfl ?_
    intro z17 ez17 hz17
    have hz17 : (0 : Int) ≤ z17 ∧ z17 ≤ (1200 : Int) := hz17
    refine Exists.intro _ (And.intro rfl ?_)
    exact rfl
  refine And.intro (fun h1 => ?_) ?_
  · skip
    refine B rfl ?_
    refine And.intro (by omega) ?_
    intro z18 ez18 hz18
    have hz18 : ((-1) : Int) ≤ z18 ∧ z18 ≤ (1999 : Int) := hz18
    have p19 : BW σ 87 := (hp0).1.1
    have b20 := wrh_ p19 (i := 5) (by omega)
    have b20 : (0 : Int) ≤ σ 87 5 ∧ σ 87 5 ≤ (60 : Int) := b20
    refine Exists.intro _ (And.intro rfl ?_)
    exact rfl
  refine And.intro (fun h1 => ?_) ?_
  · skip
    refine B rfl ?_
    show WP_ X G Q 0 0 ad SHS_ σ 97 [(42, 86), (0, a1), (0, 0), (0, 0)] []
    refine wdrop_ (L' := [(42, 86), (9, 0), (0, 0), (0, 0)]) ⟨Or.inr rfl, ⟨Or.inl rfl, ⟨Or.inr rfl, ⟨Or.inr rfl, trivial⟩⟩⟩⟩ ?_
    have lp_97 : ∀ (nq_ : Nat) (v2 : Int) (v3 : Int), (0 ≤ v3) → (v3 ≤ 4) → (0 ≤ v2) → (v2 ≤ v3) → (4 - v3 : Int).toNat < nq_ → WP_ X G Q 0 0 ad SHS_ σ 97 [(42, 86), (9, 0), (0, v2), (0, v3)] [] := by
      intro nq_
      induction nq_ with
      | zero => intros; omega
      | succ nq_ ih_97 =>
        intro v2 v3 hi97_0 hi97_1 hi97_2 hi97_3 hm97
        refine B rfl ?_
        refine And.intro (fun h21 => ?_) (fun h21 => ?_)
        · skip
          refine B rfl ?_
          refine Exists.intro _ (And.intro rfl ?_)
          exact rfl
        · skip
          show WP_ X G Q 0 0 ad SHS_ σ 102 [(42, 86), (9, 0), (0, v2), (0, v3)] []
          refine B rfl ?_
          refine And.intro (by omega) ?_
          intro z22 ez22 hz22
          have hz22 : ((-1) : Int) ≤ z22 ∧ z22 ≤ (60 : Int) := hz22
          refine And.intro (fun h23 => ?_) (fun h23 => ?_)
          · skip
            refine B rfl ?_
            refine And.intro (by omega) ?_
            refine And.intro (by omega) ?_
            exact ih_97 (v2 + 1) (v3 + 1) (by show 0 ≤ (v3 + 1); omega) (by show (v3 + 1) ≤ 4; omega) (by show 0 ≤ (v2 + 1); omega) (by show (v2 + 1) ≤ (v3 + 1); omega) (by omega)
          · skip
            show WP_ X G Q 0 0 ad SHS_ σ 113 [(42, 86), (9, 0), (0, v2), (0, v3)] [(0, v2)]
            refine B rfl ?_
            refine B rfl ?_
            refine And.intro (by omega) ?_
            refine And.intro (by omega) ?_
            exact ih_97 (v2 + 0) (v3 + 1) (by show 0 ≤ (v3 + 1); omega) (by show (v3 + 1) ≤ 4; omega) (by show 0 ≤ (v2 + 0); omega) (by show (v2 + 0) ≤ (v3 + 1); omega) (by omega)
    exact lp_97 ((4 - 0 : Int).toNat + 1) 0 0 (by show 0 ≤ 0; omega) (by show 0 ≤ 4; omega) (by show 0 ≤ 0; omega) (by show 0 ≤ 0; omega) (by omega)
  exact True.intro
def as_G_X11_cut : Int × Int → List Sv_t := fun a => [(1, a.1), (0, a.2)]
def pre_G_X11_cut : Int × Int → Me_t → Prop := fun a σ => (0 ≤ a.2) ∧ (a.2 ≤ 3)
def post_G_X11_cut : Int × Int → Me_t → Int → Me_t → Prop := fun a σ z σ' => (σ = σ')
set_option maxHeartbeats 1500000 in
set_option maxRecDepth 100000 in
theorem ct_G_X11_cut (l : Launch) : CT_ l yX11_cut cX11_cut 4 (some .long) 0 0 as_G_X11_cut (rmL_) pre_G_X11_cut post_G_X11_cut := by
  refine ct_of (by decide) (fun _ => Nat.le_of_ble_eq_true rfl) ?_
  intro X G Q ad σ a hl hR E hG R hM hv hp
  obtain ⟨a0, a1⟩ := a
  have r_a0 : -9223372036854775808 ≤ a0 ∧ a0 ≤ 9223372036854775807 := hv (1, a0) (List.mem_of_getElem? (i := 0) rfl)
  have r_a1 : -2147483648 ≤ a1 ∧ a1 ≤ 2147483647 := hv (0, a1) (List.mem_of_getElem? (i := 1) rfl)
  have hp0 : 0 ≤ a1 := hp.1
  have hp1 : a1 ≤ 3 := hp.2
  have B := @bk_ X G Q 0 0 ad SHS_ RX11 cX11_cut 4 (some .long) flX11 plX11 knX11 [] _ _ none kX11_cut [] flX11_ok plX11_ok knX11_ok eX11_cut oX11_cut
    (fun _ h => absurd h List.not_mem_nil) R sok_no E
  show WP_ X G Q 0 0 ad SHS_ σ 0 [(1, a0), (9, 0), (0, a1), (9, 0)] []
  refine B rfl ?_
  have q8 := shl3_8 (b := a1) (by omega) (by omega)
  refine And.intro (by omega) ?_
  refine Exists.intro _ (And.intro rfl ?_)
  exact rfl
def as_G_X11_row : Int × Int × Int → List Sv_t := fun a => [(42, 86), (0, a.1), (0, a.2.1), (0, a.2.2)]
def pre_G_X11_row : Int × Int × Int → Me_t → Prop := fun a σ => True
def post_G_X11_row : Int × Int × Int → Me_t → Int → Me_t → Prop := fun a σ z σ' => ((¬ ((0 ≤ a.1 ∧ a.1 ≤ 3) ∧ (0 ≤ a.2.1 ∧ a.2.1 ≤ 3) ∧ a.2.2 ≤ 60) → z = -2) ∧ ((0 ≤ a.1 ∧ a.1 ≤ 3) ∧ (0 ≤ a.2.1 ∧ a.2.1 ≤ 3) ∧ a.2.2 ≤ 60 ∧ a.2.2 < 0 → z = -3) ∧ ((0 ≤ a.1 ∧ a.1 ≤ 3) ∧ (0 ≤ a.2.1 ∧ a.2.1 ≤ 3) ∧ a.2.2 ≤ 60 ∧ 0 ≤ a.2.2 → z = 0)) ∧ (z = 0 → σ' 102 a.1 = a.2.2 ∧ σ' 103 a.1 = a.2.1) ∧ (∀ j : Int, j ≠ a.1 → σ' 102 j = σ 102 j) ∧ (∀ j : Int, j ≠ a.1 → σ' 103 j = σ 103 j) ∧ (z = 0 ∨ ∀ k j : Int, σ' k j = σ k j) ∧ (∀ k j : Int, ¬ (k = 102 ∨ k = 103 ∨ k = 104) → σ' k j = σ k j)
set_option maxHeartbeats 1500000 in
set_option maxRecDepth 100000 in
theorem ct_G_X11_row (l : Launch) : CT_ l yX11_row cX11_row 5 (some .int) 2 45 as_G_X11_row (rmI_) pre_G_X11_row post_G_X11_row := by
  refine ct_of (by decide) (fun _ => Nat.le_of_ble_eq_true rfl) ?_
  intro X G Q ad σ a hl hR E hG R hM hv hp
  obtain ⟨a1, a2, a3⟩ := a
  have r_a1 : -2147483648 ≤ a1 ∧ a1 ≤ 2147483647 := hv (0, a1) (List.mem_of_getElem? (i := 1) rfl)
  have r_a2 : -2147483648 ≤ a2 ∧ a2 ≤ 2147483647 := hv (0, a2) (List.mem_of_getElem? (i := 2) rfl)
  have r_a3 : -2147483648 ≤ a3 ∧ a3 ≤ 2147483647 := hv (0, a3) (List.mem_of_getElem? (i := 3) rfl)
  have B := @bk_ X G Q 0 0 ad SHS_ RX11 cX11_row 5 (some .int) flX11 plX11 knX11 [(723, 1, TR_ as_G_X11_isSlot (rmI_) pre_G_X11_isSlot post_G_X11_isSlot), (159, 3, TR_ as_G_X11_in (rmI_) pre_G_X11_in post_G_X11_in)] _ _ none kX11_row [7, 19, 25, 32, 52, 59] flX11_ok plX11_ok knX11_ok eX11_row oX11_row
    (List.forall_mem_cons.mpr ⟨cok_s (n := 1) (idx := 361) E (ct_G_X11_isSlot X.2.1) (by rw [hR]; decide) (Nat.zero_le _) (Nat.zero_le _) hG ⟨by decide, by decide, by decide⟩ (fun _ => rfl) wl_X11_361 wt_X11_isSlot wn_X11 wc_X11_isSlot, List.forall_mem_cons.mpr ⟨cok_s (n := 3) (idx := 79) E (ct_G_X11_in X.2.1) (by rw [hR]; decide) (Nat.zero_le _) (Nat.zero_le _) hG ⟨by decide, by decide, by decide⟩ (fun _ => rfl) wl_X11_79 wt_X11_in wn_X11 wc_X11_in, fun _ h => absurd h List.not_mem_nil⟩⟩) R sok_no E
  show WP_ X G Q 0 0 ad SHS_ σ 0 [(42, 86), (0, a1), (0, a2), (0, a3), (9, 0)] []
  refine B rfl ?_
  refine Exists.intro a1 (And.intro rfl (And.intro True.intro ?_))
  rintro z1 m_ h2
  obtain rfl : σ = m_ := h2.2
  have h3 : (z1 = 1 ∧ 0 ≤ a1 ∧ a1 ≤ 3) ∨ (z1 = 0 ∧ ¬ (0 ≤ a1 ∧ a1 ≤ 3)) := h2.1
  refine And.intro (fun h4 => ?_) (fun h4 => ?_)
  · skip
    refine B rfl ?_
    refine Exists.intro _ (And.intro rfl ?_)
    exact (And.intro (by show (¬ ((0 ≤ a1 ∧ a1 ≤ 3) ∧ (0 ≤ a2 ∧ a2 ≤ 3) ∧ a3 ≤ 60) → (-2) = -2) ∧ ((0 ≤ a1 ∧ a1 ≤ 3) ∧ (0 ≤ a2 ∧ a2 ≤ 3) ∧ a3 ≤ 60 ∧ a3 < 0 → (-2) = -3) ∧ ((0 ≤ a1 ∧ a1 ≤ 3) ∧ (0 ≤ a2 ∧ a2 ≤ 3) ∧ a3 ≤ 60 ∧ 0 ≤ a3 → (-2) = 0); omega) (And.intro (by show (-2) = 0 → σ 102 a1 = a3 ∧ σ 103 a1 = a2; omega) (And.intro (by show ∀ j : Int, j ≠ a1 → σ 102 j = σ 102 j; intro j hj0; exact rfl) (And.intro (by show ∀ j : Int, j ≠ a1 → σ 103 j = σ 103 j; intro j hj0; exact rfl) (And.intro (by show (-2) = 0 ∨ ∀ k j : Int, σ k j = σ k j; exact Or.inr (fun _ _ => rfl)) (fun k j hk => rfl))))))
  · skip
    show WP_ X G Q 0 0 ad SHS_ σ 7 [(42, 86), (0, a1), (0, a2), (0, a3), (9, 0)] []
    refine B rfl ?_
    refine Exists.intro (a2, 0, 3) (And.intro rfl (And.intro True.intro ?_))
    rintro z5 m_ h6
    obtain rfl : σ = m_ := h6.2
    have h7 : (z5 = 1 ∧ 0 ≤ a2 ∧ a2 ≤ 3) ∨ (z5 = 0 ∧ ¬ (0 ≤ a2 ∧ a2 ≤ 3)) := h6.1
    refine And.intro (fun h8 => ?_) (fun h8 => ?_)
    · skip
      refine B rfl ?_
      refine Exists.intro _ (And.intro rfl ?_)
      exact (And.intro (by show (¬ ((0 ≤ a1 ∧ a1 ≤ 3) ∧ (0 ≤ a2 ∧ a2 ≤ 3) ∧ a3 ≤ 60) → (-2) = -2) ∧ ((0 ≤ a1 ∧ a1 ≤ 3) ∧ (0 ≤ a2 ∧ a2 ≤ 3) ∧ a3 ≤ 60 ∧ a3 < 0 → (-2) = -3) ∧ ((0 ≤ a1 ∧ a1 ≤ 3) ∧ (0 ≤ a2 ∧ a2 ≤ 3) ∧ a3 ≤ 60 ∧ 0 ≤ a3 → (-2) = 0); omega) (And.intro (by show (-2) = 0 → σ 102 a1 = a3 ∧ σ 103 a1 = a2; omega) (And.intro (by show ∀ j : Int, j ≠ a1 → σ 102 j = σ 102 j; intro j hj0; exact rfl) (And.intro (by show ∀ j : Int, j ≠ a1 → σ 103 j = σ 103 j; intro j hj0; exact rfl) (And.intro (by show (-2) = 0 ∨ ∀ k j : Int, σ k j = σ k j; exact Or.inr (fun _ _ => rfl)) (fun k j hk => rfl))))))
    · skip
      show WP_ X G Q 0 0 ad SHS_ σ 19 [(42, 86), (0, a1), (0, a2), (0, a3), (9, 0)] []
      refine B rfl ?_
      refine And.intro (fun h9 => ?_) (fun h9 => ?_)
      · skip
        refine B rfl ?_
        refine And.intro (fun h10 => ?_) (fun h10 => ?_)
        · skip
          refine B rfl ?_
          refine And.intro (by omega) ?_
          refine And.intro (by show ((-1) : Int) ≤ _ ∧ _ ≤ (60 : Int); omega) ?_
          intro σ11 e12
          refine And.intro (by omega) ?_
          refine And.intro (by show (0 : Int) ≤ _ ∧ _ ≤ (3 : Int); omega) ?_
          intro σ13 e14
          show WP_ X G Q 0 0 ad SHS_ σ13 52 [(42, 86), (0, a1), (0, a2), (0, a3), (0, 0)] []
          refine wdrop_ (L' := [(42, 86), (0, a1), (9, 0), (9, 0), (0, 0)]) ⟨Or.inr rfl, ⟨Or.inr rfl, ⟨Or.inl rfl, ⟨Or.inl rfl, ⟨Or.inr rfl, trivial⟩⟩⟩⟩⟩ ?_
          have lp_52 : ∀ (nq_ : Nat) (v4 : Int) (τ52 : Me_t), (∀ k j : Int, ¬ (k = 102 ∨ k = 103 ∨ k = 104) → τ52 k j = σ k j) → (0 ≤ v4) → (v4 ≤ 60) → (τ52 102 a1 = a3) → (τ52 103 a1 = a2) → (∀ j : Int, j ≠ a1 → τ52 102 j = σ 102 j) → (∀ j : Int, j ≠ a1 → τ52 103 j = σ 103 j) → (60 - v4 : Int).toNat < nq_ → WP_ X G Q 0 0 ad SHS_ τ52 52 [(42, 86), (0, a1), (9, 0), (9, 0), (0, v4)] [] := by
            intro nq_
            induction nq_ with
            | zero => intros; omega
            | succ nq_ ih_52 =>
              intro v4 τ52 hf52 hi52_0 hi52_1 hi52_2 hi52_3 hi52_4 hi52_5 hm52
              refine B rfl ?_
              refine And.intro (fun h15 => ?_) (fun h15 => ?_)
              · skip
                refine B rfl ?_
                refine Exists.intro _ (And.intro rfl ?_)
                exact (And.intro (by show (¬ ((0 ≤ a1 ∧ a1 ≤ 3) ∧ (0 ≤ a2 ∧ a2 ≤ 3) ∧ a3 ≤ 60) → 0 = -2) ∧ ((0 ≤ a1 ∧ a1 ≤ 3) ∧ (0 ≤ a2 ∧ a2 ≤ 3) ∧ a3 ≤ 60 ∧ a3 < 0 → 0 = -3) ∧ ((0 ≤ a1 ∧ a1 ≤ 3) ∧ (0 ≤ a2 ∧ a2 ≤ 3) ∧ a3 ≤ 60 ∧ 0 ≤ a3 → 0 = 0); omega) (And.intro (by show 0 = 0 → τ52 102 a1 = a3 ∧ τ52 103 a1 = a2; omega) (And.intro (by show ∀ j : Int, j ≠ a1 → τ52 102 j = σ 102 j; exact hi52_4) (And.intro (by show ∀ j : Int, j ≠ a1 → τ52 103 j = σ 103 j; exact hi52_5) (And.intro (by show 0 = 0 ∨ ∀ k j : Int, τ52 k j = σ k j; exact Or.inl rfl) (fun k j hk => (hf52 _ _ (by omega))))))))
              · skip
                show WP_ X G Q 0 0 ad SHS_ τ52 59 [(42, 86), (0, a1), (9, 0), (9, 0), (0, v4)] []
                refine B rfl ?_
                refine And.intro (by omega) ?_
                refine And.intro (by omega) ?_
                refine And.intro (by omega) ?_
                intro σ16 e17
                refine And.intro (by omega) ?_
                try have t18 : σ16 102 a1 = τ52 102 a1 := (ups_r e17 (by omega))
                try have t19 : σ16 103 a1 = τ52 103 a1 := (ups_r e17 (by omega))
                exact ih_52 (v4 + 1) σ16 (fun k j hk => ((ups_r e17 (by omega)).trans (hf52 _ _ (by omega)))) (by show 0 ≤ (v4 + 1); omega) (by show (v4 + 1) ≤ 60; omega) (by show σ16 102 a1 = a3; omega) (by show σ16 103 a1 = a2; omega) (by show ∀ j : Int, j ≠ a1 → σ16 102 j = σ 102 j; intro j hj; exact ((ups_r e17 (by omega))).trans (hi52_4 j hj)) (by show ∀ j : Int, j ≠ a1 → σ16 103 j = σ 103 j; intro j hj; exact ((ups_r e17 (by omega))).trans (hi52_5 j hj)) (by omega)
          have t20 : σ13 102 a1 = a3 := ((ups_r e14 (by omega))).trans (ups_v e12)
          have t21 : σ13 103 a1 = a2 := ups_v e14
          exact lp_52 ((60 - 0 : Int).toNat + 1) 0 σ13 (fun k j hk => ((ups_r e14 (by omega)).trans (ups_r e12 (by omega)))) (by show 0 ≤ 0; omega) (by show 0 ≤ 60; omega) (by show σ13 102 a1 = a3; omega) (by show σ13 103 a1 = a2; omega) (by show ∀ j : Int, j ≠ a1 → σ13 102 j = σ 102 j; intro j hj; exact ((ups_r e14 (by omega)).trans (ups_r e12 (by omega)))) (by show ∀ j : Int, j ≠ a1 → σ13 103 j = σ 103 j; intro j hj; exact ((ups_r e14 (by omega)).trans (ups_r e12 (by omega)))) (by omega)
        · skip
          show WP_ X G Q 0 0 ad SHS_ σ 32 [(42, 86), (0, a1), (0, a2), (0, a3), (9, 0)] []
          refine B rfl ?_
          refine Exists.intro _ (And.intro rfl ?_)
          exact (And.intro (by show (¬ ((0 ≤ a1 ∧ a1 ≤ 3) ∧ (0 ≤ a2 ∧ a2 ≤ 3) ∧ a3 ≤ 60) → (-3) = -2) ∧ ((0 ≤ a1 ∧ a1 ≤ 3) ∧ (0 ≤ a2 ∧ a2 ≤ 3) ∧ a3 ≤ 60 ∧ a3 < 0 → (-3) = -3) ∧ ((0 ≤ a1 ∧ a1 ≤ 3) ∧ (0 ≤ a2 ∧ a2 ≤ 3) ∧ a3 ≤ 60 ∧ 0 ≤ a3 → (-3) = 0); omega) (And.intro (by show (-3) = 0 → σ 102 a1 = a3 ∧ σ 103 a1 = a2; omega) (And.intro (by show ∀ j : Int, j ≠ a1 → σ 102 j = σ 102 j; intro j hj0; exact rfl) (And.intro (by show ∀ j : Int, j ≠ a1 → σ 103 j = σ 103 j; intro j hj0; exact rfl) (And.intro (by show (-3) = 0 ∨ ∀ k j : Int, σ k j = σ k j; exact Or.inr (fun _ _ => rfl)) (fun k j hk => rfl))))))
      · skip
        show WP_ X G Q 0 0 ad SHS_ σ 25 [(42, 86), (0, a1), (0, a2), (0, a3), (9, 0)] []
        refine B rfl ?_
        refine Exists.intro _ (And.intro rfl ?_)
        exact (And.intro (by show (¬ ((0 ≤ a1 ∧ a1 ≤ 3) ∧ (0 ≤ a2 ∧ a2 ≤ 3) ∧ a3 ≤ 60) → (-2) = -2) ∧ ((0 ≤ a1 ∧ a1 ≤ 3) ∧ (0 ≤ a2 ∧ a2 ≤ 3) ∧ a3 ≤ 60 ∧ a3 < 0 → (-2) = -3) ∧ ((0 ≤ a1 ∧ a1 ≤ 3) ∧ (0 ≤ a2 ∧ a2 ≤ 3) ∧ a3 ≤ 60 ∧ 0 ≤ a3 → (-2) = 0); omega) (And.intro (by show (-2) = 0 → σ 102 a1 = a3 ∧ σ 103 a1 = a2; omega) (And.intro (by show ∀ j : Int, j ≠ a1 → σ 102 j = σ 102 j; intro j hj0; exact rfl) (And.intro (by show ∀ j : Int, j ≠ a1 → σ 103 j = σ 103 j; intro j hj0; exact rfl) (And.intro (by show (-2) = 0 ∨ ∀ k j : Int, σ k j = σ k j; exact Or.inr (fun _ _ => rfl)) (fun k j hk => rfl))))))
def as_G_X11_write : Int × Int × Int → List Sv_t := fun a => [(42, 86), (0, a.1), (0, a.2.1), (1, a.2.2)]
def pre_G_X11_write : Int × Int × Int → Me_t → Prop := fun a σ => True
def post_G_X11_write : Int × Int × Int → Me_t → Int → Me_t → Prop := fun a σ z σ' => ((¬ (0 ≤ a.1 ∧ a.1 ≤ 3) → z = -2) ∧ ((0 ≤ a.1 ∧ a.1 ≤ 3) ∧ σ 102 a.1 = -1 → z = -6) ∧ ((0 ≤ a.1 ∧ a.1 ≤ 3) ∧ σ 102 a.1 ≠ -1 ∧ ¬ (0 ≤ a.2.1 ∧ a.2.1 < σ 102 a.1) → z = -7) ∧ ((0 ≤ a.1 ∧ a.1 ≤ 3) ∧ σ 102 a.1 ≠ -1 ∧ (0 ≤ a.2.1 ∧ a.2.1 < σ 102 a.1) → z = 0)) ∧ (∀ k j : Int, ¬ (k = 104) → σ' k j = σ k j)
set_option maxHeartbeats 1500000 in
set_option maxRecDepth 100000 in
theorem ct_G_X11_write (l : Launch) : CT_ l yX11_write cX11_write 5 (some .int) 2 45 as_G_X11_write (rmI_) pre_G_X11_write post_G_X11_write := by
  refine ct_of (by decide) (fun _ => Nat.le_of_ble_eq_true rfl) ?_
  intro X G Q ad σ a hl hR E hG R hM hv hp
  obtain ⟨a1, a2, a3⟩ := a
  have r_a1 : -2147483648 ≤ a1 ∧ a1 ≤ 2147483647 := hv (0, a1) (List.mem_of_getElem? (i := 1) rfl)
  have r_a2 : -2147483648 ≤ a2 ∧ a2 ≤ 2147483647 := hv (0, a2) (List.mem_of_getElem? (i := 2) rfl)
  have r_a3 : -9223372036854775808 ≤ a3 ∧ a3 ≤ 9223372036854775807 := hv (1, a3) (List.mem_of_getElem? (i := 3) rfl)
  have B := @bk_ X G Q 0 0 ad SHS_ RX11 cX11_write 5 (some .int) flX11 plX11 knX11 [(723, 1, TR_ as_G_X11_isSlot (rmI_) pre_G_X11_isSlot post_G_X11_isSlot), (159, 3, TR_ as_G_X11_in (rmI_) pre_G_X11_in post_G_X11_in), (977, 2, TR_ as_G_X11_cut (rmL_) pre_G_X11_cut post_G_X11_cut)] _ _ none kX11_write [] flX11_ok plX11_ok knX11_ok eX11_write oX11_write
    (List.forall_mem_cons.mpr ⟨cok_s (n := 1) (idx := 361) E (ct_G_X11_isSlot X.2.1) (by rw [hR]; decide) (Nat.zero_le _) (Nat.zero_le _) hG ⟨by decide, by decide, by decide⟩ (fun _ => rfl) wl_X11_361 wt_X11_isSlot wn_X11 wc_X11_isSlot, List.forall_mem_cons.mpr ⟨cok_s (n := 3) (idx := 79) E (ct_G_X11_in X.2.1) (by rw [hR]; decide) (Nat.zero_le _) (Nat.zero_le _) hG ⟨by decide, by decide, by decide⟩ (fun _ => rfl) wl_X11_79 wt_X11_in wn_X11 wc_X11_in, List.forall_mem_cons.mpr ⟨cok_s (n := 2) (idx := 488) E (ct_G_X11_cut X.2.1) (by rw [hR]; decide) (Nat.zero_le _) (Nat.zero_le _) hG ⟨by decide, by decide, by decide⟩ (fun _ => rfl) wl_X11_488 wt_X11_cut wn_X11 wc_X11_cut, fun _ h => absurd h List.not_mem_nil⟩⟩⟩) R sok_no E
  show WP_ X G Q 0 0 ad SHS_ σ 0 [(42, 86), (0, a1), (0, a2), (1, a3), (9, 0)] []
  refine B rfl ?_
  refine Exists.intro a1 (And.intro rfl (And.intro True.intro ?_))
  rintro z1 m_ h2
  obtain rfl : σ = m_ := h2.2
  have h3 : (z1 = 1 ∧ 0 ≤ a1 ∧ a1 ≤ 3) ∨ (z1 = 0 ∧ ¬ (0 ≤ a1 ∧ a1 ≤ 3)) := h2.1
  refine And.intro (fun h4 => ?_) (fun h4 => ?_)
  · skip
    refine B rfl ?_
    refine And.intro (by omega) ?_
    intro z5 ez5 hz5
    have hz5 : ((-1) : Int) ≤ z5 ∧ z5 ≤ (60 : Int) := hz5
    refine And.intro (fun h6 => ?_) (fun h6 => ?_)
    · skip
      refine B rfl ?_
      refine And.intro (by omega) ?_
      intro z7 ez7 hz7
      have q8 : z5 = z7 := ez5.trans ez7.symm
      subst q8
      refine And.intro (by omega) ?_
      refine Exists.intro (a2, 0, z5 - 1) (And.intro rfl (And.intro True.intro ?_))
      rintro z9 m_ h10
      obtain rfl : σ = m_ := h10.2
      have h11 : (z9 = 1 ∧ 0 ≤ a2 ∧ a2 ≤ (z5 - 1)) ∨ (z9 = 0 ∧ ¬ (0 ≤ a2 ∧ a2 ≤ (z5 - 1))) := h10.1
      refine And.intro (fun h12 => ?_) (fun h12 => ?_)
      · skip
        refine B rfl ?_
        refine And.intro (by omega) ?_
        refine And.intro (by omega) ?_
        refine And.intro (by omega) ?_
        intro z13 ez13 hz13
        have hz13 : (0 : Int) ≤ z13 ∧ z13 ≤ (3 : Int) := hz13
        refine Exists.intro (a3, z13) (And.intro rfl (And.intro (And.intro (by show 0 ≤ z13; omega) (by show z13 ≤ 3; omega)) ?_))
        rintro z14 m_ h15
        obtain rfl : σ = m_ := h15
        refine And.intro (by omega) ?_
        intro σ16 e17
        refine Exists.intro _ (And.intro rfl ?_)
        exact (And.intro (by show (¬ (0 ≤ a1 ∧ a1 ≤ 3) → 0 = -2) ∧ ((0 ≤ a1 ∧ a1 ≤ 3) ∧ σ 102 a1 = -1 → 0 = -6) ∧ ((0 ≤ a1 ∧ a1 ≤ 3) ∧ σ 102 a1 ≠ -1 ∧ ¬ (0 ≤ a2 ∧ a2 < σ 102 a1) → 0 = -7) ∧ ((0 ≤ a1 ∧ a1 ≤ 3) ∧ σ 102 a1 ≠ -1 ∧ (0 ≤ a2 ∧ a2 < σ 102 a1) → 0 = 0); omega) (fun k j hk => (ups_r e17 (by omega))))
      · skip
        refine Exists.intro _ (And.intro rfl ?_)
        exact (And.intro (by show (¬ (0 ≤ a1 ∧ a1 ≤ 3) → (-7) = -2) ∧ ((0 ≤ a1 ∧ a1 ≤ 3) ∧ σ 102 a1 = -1 → (-7) = -6) ∧ ((0 ≤ a1 ∧ a1 ≤ 3) ∧ σ 102 a1 ≠ -1 ∧ ¬ (0 ≤ a2 ∧ a2 < σ 102 a1) → (-7) = -7) ∧ ((0 ≤ a1 ∧ a1 ≤ 3) ∧ σ 102 a1 ≠ -1 ∧ (0 ≤ a2 ∧ a2 < σ 102 a1) → (-7) = 0); omega) (fun k j hk => rfl))
    · skip
      refine Exists.intro _ (And.intro rfl ?_)
      exact (And.intro (by show (¬ (0 ≤ a1 ∧ a1 ≤ 3) → (-6) = -2) ∧ ((0 ≤ a1 ∧ a1 ≤ 3) ∧ σ 102 a1 = -1 → (-6) = -6) ∧ ((0 ≤ a1 ∧ a1 ≤ 3) ∧ σ 102 a1 ≠ -1 ∧ ¬ (0 ≤ a2 ∧ a2 < σ 102 a1) → (-6) = -7) ∧ ((0 ≤ a1 ∧ a1 ≤ 3) ∧ σ 102 a1 ≠ -1 ∧ (0 ≤ a2 ∧ a2 < σ 102 a1) → (-6) = 0); omega) (fun k j hk => rfl))
  · skip
    refine Exists.intro _ (And.intro rfl ?_)
    exact (And.intro (by show (¬ (0 ≤ a1 ∧ a1 ≤ 3) → (-2) = -2) ∧ ((0 ≤ a1 ∧ a1 ≤ 3) ∧ σ 102 a1 = -1 → (-2) = -6) ∧ ((0 ≤ a1 ∧ a1 ≤ 3) ∧ σ 102 a1 ≠ -1 ∧ ¬ (0 ≤ a2 ∧ a2 < σ 102 a1) → (-2) = -7) ∧ ((0 ≤ a1 ∧ a1 ≤ 3) ∧ σ 102 a1 ≠ -1 ∧ (0 ≤ a2 ∧ a2 < σ 102 a1) → (-2) = 0); omega) (fun k j hk => rfl))
def as_G_X11_paste : Int × Int × Int × Int × Int → List Sv_t := fun a => [(42, 86), (0, a.1), (0, a.2.1), (0, a.2.2.1), (0, a.2.2.2.1), (0, a.2.2.2.2)]
def pre_G_X11_paste : Int × Int × Int × Int × Int → Me_t → Prop := fun a σ => True
def post_G_X11_paste : Int × Int × Int × Int × Int → Me_t → Int → Me_t → Prop := fun a σ z σ' => ((¬ ((0 ≤ a.1 ∧ a.1 ≤ 3) ∧ (0 ≤ a.2.2.1 ∧ a.2.2.1 ≤ 3)) → z = -2)) ∧ (((0 ≤ a.1 ∧ a.1 ≤ 3) ∧ (0 ≤ a.2.2.1 ∧ a.2.2.1 ≤ 3)) ∧ ¬ (σ 102 a.1 ≠ -1 ∧ σ 102 a.2.2.1 ≠ -1) → z = -6) ∧ (((0 ≤ a.1 ∧ a.1 ≤ 3) ∧ (0 ≤ a.2.2.1 ∧ a.2.2.1 ≤ 3)) ∧ (σ 102 a.1 ≠ -1 ∧ σ 102 a.2.2.1 ≠ -1) ∧ ¬ (σ 103 a.1 = σ 103 a.2.2.1) → z = -8) ∧ (((0 ≤ a.1 ∧ a.1 ≤ 3) ∧ (0 ≤ a.2.2.1 ∧ a.2.2.1 ≤ 3)) ∧ (σ 102 a.1 ≠ -1 ∧ σ 102 a.2.2.1 ≠ -1) ∧ σ 103 a.1 = σ 103 a.2.2.1 ∧ ¬ ((0 ≤ a.2.1 ∧ 0 ≤ a.2.2.2.2 ∧ a.2.1 + a.2.2.2.2 ≤ σ 102 a.1) ∧ (0 ≤ a.2.2.2.1 ∧ 0 ≤ a.2.2.2.2 ∧ a.2.2.2.1 + a.2.2.2.2 ≤ σ 102 a.2.2.1)) → z = -7) ∧ (((0 ≤ a.1 ∧ a.1 ≤ 3) ∧ (0 ≤ a.2.2.1 ∧ a.2.2.1 ≤ 3)) ∧ (σ 102 a.1 ≠ -1 ∧ σ 102 a.2.2.1 ≠ -1) ∧ σ 103 a.1 = σ 103 a.2.2.1 ∧ ((0 ≤ a.2.1 ∧ 0 ≤ a.2.2.2.2 ∧ a.2.1 + a.2.2.2.2 ≤ σ 102 a.1) ∧ (0 ≤ a.2.2.2.1 ∧ 0 ≤ a.2.2.2.2 ∧ a.2.2.2.1 + a.2.2.2.2 ≤ σ 102 a.2.2.1)) → z = 0) ∧ (∀ k j : Int, ¬ (k = 104 ∨ k = 105) → σ' k j = σ k j)
set_option maxHeartbeats 1500000 in
set_option maxRecDepth 100000 in
theorem ct_G_X11_paste (l : Launch) : CT_ l yX11_paste cX11_paste 7 (some .int) 2 45 as_G_X11_paste (rmI_) pre_G_X11_paste post_G_X11_paste := by
  refine ct_of (by decide) (fun _ => Nat.le_of_ble_eq_true rfl) ?_
  intro X G Q ad σ a hl hR E hG R hM hv hp
  obtain ⟨a1, a2, a3, a4, a5⟩ := a
  have r_a1 : -2147483648 ≤ a1 ∧ a1 ≤ 2147483647 := hv (0, a1) (List.mem_of_getElem? (i := 1) rfl)
  have r_a2 : -2147483648 ≤ a2 ∧ a2 ≤ 2147483647 := hv (0, a2) (List.mem_of_getElem? (i := 2) rfl)
  have r_a3 : -2147483648 ≤ a3 ∧ a3 ≤ 2147483647 := hv (0, a3) (List.mem_of_getElem? (i := 3) rfl)
  have r_a4 : -2147483648 ≤ a4 ∧ a4 ≤ 2147483647 := hv (0, a4) (List.mem_of_getElem? (i := 4) rfl)
  have r_a5 : -2147483648 ≤ a5 ∧ a5 ≤ 2147483647 := hv (0, a5) (List.mem_of_getElem? (i := 5) rfl)
  have B := @bk_ X G Q 0 0 ad SHS_ RX11 cX11_paste 7 (some .int) flX11 plX11 knX11 [(723, 1, TR_ as_G_X11_isSlot (rmI_) pre_G_X11_isSlot post_G_X11_isSlot)] _ _ none kX11_paste [7, 14, 27, 37, 55, 62, 67, 72, 89, 107, 113, 120, 150, 157] flX11_ok plX11_ok knX11_ok eX11_paste oX11_paste
    (List.forall_mem_cons.mpr ⟨cok_s (n := 1) (idx := 361) E (ct_G_X11_isSlot X.2.1) (by rw [hR]; decide) (Nat.zero_le _) (Nat.zero_le _) hG ⟨by decide, by decide, by decide⟩ (fun _ => rfl) wl_X11_361 wt_X11_isSlot wn_X11 wc_X11_isSlot, fun _ h => absurd h List.not_mem_nil⟩) R sok_no E
  show WP_ X G Q 0 0 ad SHS_ σ 0 [(42, 86), (0, a1), (0, a2), (0, a3), (0, a4), (0, a5), (9, 0)] []
  refine B rfl ?_
  refine Exists.intro a1 (And.intro rfl (And.intro True.intro ?_))
  rintro z1 m_ h2
  obtain rfl : σ = m_ := h2.2
  have h3 : (z1 = 1 ∧ 0 ≤ a1 ∧ a1 ≤ 3) ∨ (z1 = 0 ∧ ¬ (0 ≤ a1 ∧ a1 ≤ 3)) := h2.1
  refine And.intro (fun h4 => ?_) (fun h4 => ?_)
  · skip
    refine B rfl ?_
    refine Exists.intro _ (And.intro rfl ?_)
    exact (And.intro (by show (¬ ((0 ≤ a1 ∧ a1 ≤ 3) ∧ (0 ≤ a3 ∧ a3 ≤ 3)) → (-2) = -2); omega) (And.intro (by show ((0 ≤ a1 ∧ a1 ≤ 3) ∧ (0 ≤ a3 ∧ a3 ≤ 3)) ∧ ¬ (σ 102 a1 ≠ -1 ∧ σ 102 a3 ≠ -1) → (-2) = -6; omega) (And.intro (by show ((0 ≤ a1 ∧ a1 ≤ 3) ∧ (0 ≤ a3 ∧ a3 ≤ 3)) ∧ (σ 102 a1 ≠ -1 ∧ σ 102 a3 ≠ -1) ∧ ¬ (σ 103 a1 = σ 103 a3) → (-2) = -8; omega) (And.intro (by show ((0 ≤ a1 ∧ a1 ≤ 3) ∧ (0 ≤ a3 ∧ a3 ≤ 3)) ∧ (σ 102 a1 ≠ -1 ∧ σ 102 a3 ≠ -1) ∧ σ 103 a1 = σ 103 a3 ∧ ¬ ((0 ≤ a2 ∧ 0 ≤ a5 ∧ a2 + a5 ≤ σ 102 a1) ∧ (0 ≤ a4 ∧ 0 ≤ a5 ∧ a4 + a5 ≤ σ 102 a3)) → (-2) = -7; omega) (And.intro (by show ((0 ≤ a1 ∧ a1 ≤ 3) ∧ (0 ≤ a3 ∧ a3 ≤ 3)) ∧ (σ 102 a1 ≠ -1 ∧ σ 102 a3 ≠ -1) ∧ σ 103 a1 = σ 103 a3 ∧ ((0 ≤ a2 ∧ 0 ≤ a5 ∧ a2 + a5 ≤ σ 102 a1) ∧ (0 ≤ a4 ∧ 0 ≤ a5 ∧ a4 + a5 ≤ σ 102 a3)) → (-2) = 0; omega) (fun k j hk => rfl))))))
  · skip
    show WP_ X G Q 0 0 ad SHS_ σ 7 [(42, 86), (0, a1), (0, a2), (0, a3), (0, a4), (0, a5), (9, 0)] []
    refine B rfl ?_
    refine Exists.intro a3 (And.intro rfl (And.intro True.intro ?_))
    rintro z5 m_ h6
    obtain rfl : σ = m_ := h6.2
    have h7 : (z5 = 1 ∧ 0 ≤ a3 ∧ a3 ≤ 3) ∨ (z5 = 0 ∧ ¬ (0 ≤ a3 ∧ a3 ≤ 3)) := h6.1
    refine And.intro (fun h8 => ?_) (fun h8 => ?_)
    · skip
      refine B rfl ?_
      refine And.intro (by omega) ?_
      intro z9 ez9 hz9
      have hz9 : ((-1) : Int) ≤ z9 ∧ z9 ≤ (60 : Int) := hz9
      refine And.intro (fun h10 => ?_) (fun h10 => ?_)
      · skip
        refine B rfl ?_
        refine Exists.intro _ (And.intro rfl ?_)
        exact (And.intro (by show (¬ ((0 ≤ a1 ∧ a1 ≤ 3) ∧ (0 ≤ a3 ∧ a3 ≤ 3)) → (-6) = -2); omega) (And.intro (by show ((0 ≤ a1 ∧ a1 ≤ 3) ∧ (0 ≤ a3 ∧ a3 ≤ 3)) ∧ ¬ (σ 102 a1 ≠ -1 ∧ σ 102 a3 ≠ -1) → (-6) = -6; omega) (And.intro (by show ((0 ≤ a1 ∧ a1 ≤ 3) ∧ (0 ≤ a3 ∧ a3 ≤ 3)) ∧ (σ 102 a1 ≠ -1 ∧ σ 102 a3 ≠ -1) ∧ ¬ (σ 103 a1 = σ 103 a3) → (-6) = -8; omega) (And.intro (by show ((0 ≤ a1 ∧ a1 ≤ 3) ∧ (0 ≤ a3 ∧ a3 ≤ 3)) ∧ (σ 102 a1 ≠ -1 ∧ σ 102 a3 ≠ -1) ∧ σ 103 a1 = σ 103 a3 ∧ ¬ ((0 ≤ a2 ∧ 0 ≤ a5 ∧ a2 + a5 ≤ σ 102 a1) ∧ (0 ≤ a4 ∧ 0 ≤ a5 ∧ a4 + a5 ≤ σ 102 a3)) → (-6) = -7; omega) (And.intro (by show ((0 ≤ a1 ∧ a1 ≤ 3) ∧ (0 ≤ a3 ∧ a3 ≤ 3)) ∧ (σ 102 a1 ≠ -1 ∧ σ 102 a3 ≠ -1) ∧ σ 103 a1 = σ 103 a3 ∧ ((0 ≤ a2 ∧ 0 ≤ a5 ∧ a2 + a5 ≤ σ 102 a1) ∧ (0 ≤ a4 ∧ 0 ≤ a5 ∧ a4 + a5 ≤ σ 102 a3)) → (-6) = 0; omega) (fun k j hk => rfl))))))
      · skip
        show WP_ X G Q 0 0 ad SHS_ σ 27 [(42, 86), (0, a1), (0, a2), (0, a3), (0, a4), (0, a5), (9, 0)] []
        refine B rfl ?_
        refine And.intro (by omega) ?_
        intro z11 ez11 hz11
        have hz11 : ((-1) : Int) ≤ z11 ∧ z11 ≤ (60 : Int) := hz11
        refine And.intro (fun h12 => ?_) (fun h12 => ?_)
        · skip
          refine B rfl ?_
          refine And.intro (by omega) ?_
          intro z13 ez13 hz13
          have hz13 : (0 : Int) ≤ z13 ∧ z13 ≤ (3 : Int) := hz13
          refine And.intro (by omega) ?_
          intro z14 ez14 hz14
          have hz14 : (0 : Int) ≤ z14 ∧ z14 ≤ (3 : Int) := hz14
          refine And.intro (fun h15 => ?_) (fun h15 => ?_)
          · skip
            refine B rfl ?_
            refine And.intro (fun h16 => ?_) (fun h16 => ?_)
            · skip
              refine B rfl ?_
              refine Exists.intro _ (And.intro rfl ?_)
              exact (And.intro (by show (¬ ((0 ≤ a1 ∧ a1 ≤ 3) ∧ (0 ≤ a3 ∧ a3 ≤ 3)) → (-7) = -2); omega) (And.intro (by show ((0 ≤ a1 ∧ a1 ≤ 3) ∧ (0 ≤ a3 ∧ a3 ≤ 3)) ∧ ¬ (σ 102 a1 ≠ -1 ∧ σ 102 a3 ≠ -1) → (-7) = -6; omega) (And.intro (by show ((0 ≤ a1 ∧ a1 ≤ 3) ∧ (0 ≤ a3 ∧ a3 ≤ 3)) ∧ (σ 102 a1 ≠ -1 ∧ σ 102 a3 ≠ -1) ∧ ¬ (σ 103 a1 = σ 103 a3) → (-7) = -8; omega) (And.intro (by show ((0 ≤ a1 ∧ a1 ≤ 3) ∧ (0 ≤ a3 ∧ a3 ≤ 3)) ∧ (σ 102 a1 ≠ -1 ∧ σ 102 a3 ≠ -1) ∧ σ 103 a1 = σ 103 a3 ∧ ¬ ((0 ≤ a2 ∧ 0 ≤ a5 ∧ a2 + a5 ≤ σ 102 a1) ∧ (0 ≤ a4 ∧ 0 ≤ a5 ∧ a4 + a5 ≤ σ 102 a3)) → (-7) = -7; omega) (And.intro (by show ((0 ≤ a1 ∧ a1 ≤ 3) ∧ (0 ≤ a3 ∧ a3 ≤ 3)) ∧ (σ 102 a1 ≠ -1 ∧ σ 102 a3 ≠ -1) ∧ σ 103 a1 = σ 103 a3 ∧ ((0 ≤ a2 ∧ 0 ≤ a5 ∧ a2 + a5 ≤ σ 102 a1) ∧ (0 ≤ a4 ∧ 0 ≤ a5 ∧ a4 + a5 ≤ σ 102 a3)) → (-7) = 0; omega) (fun k j hk => rfl))))))
            · skip
              show WP_ X G Q 0 0 ad SHS_ σ 62 [(42, 86), (0, a1), (0, a2), (0, a3), (0, a4), (0, a5), (9, 0)] []
              refine B rfl ?_
              refine And.intro (fun h17 => ?_) (fun h17 => ?_)
              · skip
                refine B rfl ?_
                refine Exists.intro _ (And.intro rfl ?_)
                exact (And.intro (by show (¬ ((0 ≤ a1 ∧ a1 ≤ 3) ∧ (0 ≤ a3 ∧ a3 ≤ 3)) → (-7) = -2); omega) (And.intro (by show ((0 ≤ a1 ∧ a1 ≤ 3) ∧ (0 ≤ a3 ∧ a3 ≤ 3)) ∧ ¬ (σ 102 a1 ≠ -1 ∧ σ 102 a3 ≠ -1) → (-7) = -6; omega) (And.intro (by show ((0 ≤ a1 ∧ a1 ≤ 3) ∧ (0 ≤ a3 ∧ a3 ≤ 3)) ∧ (σ 102 a1 ≠ -1 ∧ σ 102 a3 ≠ -1) ∧ ¬ (σ 103 a1 = σ 103 a3) → (-7) = -8; omega) (And.intro (by show ((0 ≤ a1 ∧ a1 ≤ 3) ∧ (0 ≤ a3 ∧ a3 ≤ 3)) ∧ (σ 102 a1 ≠ -1 ∧ σ 102 a3 ≠ -1) ∧ σ 103 a1 = σ 103 a3 ∧ ¬ ((0 ≤ a2 ∧ 0 ≤ a5 ∧ a2 + a5 ≤ σ 102 a1) ∧ (0 ≤ a4 ∧ 0 ≤ a5 ∧ a4 + a5 ≤ σ 102 a3)) → (-7) = -7; omega) (And.intro (by show ((0 ≤ a1 ∧ a1 ≤ 3) ∧ (0 ≤ a3 ∧ a3 ≤ 3)) ∧ (σ 102 a1 ≠ -1 ∧ σ 102 a3 ≠ -1) ∧ σ 103 a1 = σ 103 a3 ∧ ((0 ≤ a2 ∧ 0 ≤ a5 ∧ a2 + a5 ≤ σ 102 a1) ∧ (0 ≤ a4 ∧ 0 ≤ a5 ∧ a4 + a5 ≤ σ 102 a3)) → (-7) = 0; omega) (fun k j hk => rfl))))))
              · skip
                show WP_ X G Q 0 0 ad SHS_ σ 67 [(42, 86), (0, a1), (0, a2), (0, a3), (0, a4), (0, a5), (9, 0)] []
                refine B rfl ?_
                refine And.intro (fun h18 => ?_) (fun h18 => ?_)
                · skip
                  refine B rfl ?_
                  refine Exists.intro _ (And.intro rfl ?_)
                  exact (And.intro (by show (¬ ((0 ≤ a1 ∧ a1 ≤ 3) ∧ (0 ≤ a3 ∧ a3 ≤ 3)) → (-7) = -2); omega) (And.intro (by show ((0 ≤ a1 ∧ a1 ≤ 3) ∧ (0 ≤ a3 ∧ a3 ≤ 3)) ∧ ¬ (σ 102 a1 ≠ -1 ∧ σ 102 a3 ≠ -1) → (-7) = -6; omega) (And.intro (by show ((0 ≤ a1 ∧ a1 ≤ 3) ∧ (0 ≤ a3 ∧ a3 ≤ 3)) ∧ (σ 102 a1 ≠ -1 ∧ σ 102 a3 ≠ -1) ∧ ¬ (σ 103 a1 = σ 103 a3) → (-7) = -8; omega) (And.intro (by show ((0 ≤ a1 ∧ a1 ≤ 3) ∧ (0 ≤ a3 ∧ a3 ≤ 3)) ∧ (σ 102 a1 ≠ -1 ∧ σ 102 a3 ≠ -1) ∧ σ 103 a1 = σ 103 a3 ∧ ¬ ((0 ≤ a2 ∧ 0 ≤ a5 ∧ a2 + a5 ≤ σ 102 a1) ∧ (0 ≤ a4 ∧ 0 ≤ a5 ∧ a4 + a5 ≤ σ 102 a3)) → (-7) = -7; omega) (And.intro (by show ((0 ≤ a1 ∧ a1 ≤ 3) ∧ (0 ≤ a3 ∧ a3 ≤ 3)) ∧ (σ 102 a1 ≠ -1 ∧ σ 102 a3 ≠ -1) ∧ σ 103 a1 = σ 103 a3 ∧ ((0 ≤ a2 ∧ 0 ≤ a5 ∧ a2 + a5 ≤ σ 102 a1) ∧ (0 ≤ a4 ∧ 0 ≤ a5 ∧ a4 + a5 ≤ σ 102 a3)) → (-7) = 0; omega) (fun k j hk => rfl))))))
                · skip
                  show WP_ X G Q 0 0 ad SHS_ σ 72 [(42, 86), (0, a1), (0, a2), (0, a3), (0, a4), (0, a5), (9, 0)] []
                  refine B rfl ?_
                  refine And.intro (by omega) ?_
                  refine And.intro (by omega) ?_
                  intro z19 ez19 hz19
                  have q20 : z9 = z19 := ez9.trans ez19.symm
                  subst q20
                  refine And.intro (fun h21 => ?_) (fun h21 => ?_)
                  · simp only [lcmp_lt0, lcmp_ge0, lcmp_gt0, lcmp_le0, lcmp_eq0] at h21
                    refine B rfl ?_
                    refine Exists.intro _ (And.intro rfl ?_)
                    exact (And.intro (by show (¬ ((0 ≤ a1 ∧ a1 ≤ 3) ∧ (0 ≤ a3 ∧ a3 ≤ 3)) → (-7) = -2); omega) (And.intro (by show ((0 ≤ a1 ∧ a1 ≤ 3) ∧ (0 ≤ a3 ∧ a3 ≤ 3)) ∧ ¬ (σ 102 a1 ≠ -1 ∧ σ 102 a3 ≠ -1) → (-7) = -6; omega) (And.intro (by show ((0 ≤ a1 ∧ a1 ≤ 3) ∧ (0 ≤ a3 ∧ a3 ≤ 3)) ∧ (σ 102 a1 ≠ -1 ∧ σ 102 a3 ≠ -1) ∧ ¬ (σ 103 a1 = σ 103 a3) → (-7) = -8; omega) (And.intro (by show ((0 ≤ a1 ∧ a1 ≤ 3) ∧ (0 ≤ a3 ∧ a3 ≤ 3)) ∧ (σ 102 a1 ≠ -1 ∧ σ 102 a3 ≠ -1) ∧ σ 103 a1 = σ 103 a3 ∧ ¬ ((0 ≤ a2 ∧ 0 ≤ a5 ∧ a2 + a5 ≤ σ 102 a1) ∧ (0 ≤ a4 ∧ 0 ≤ a5 ∧ a4 + a5 ≤ σ 102 a3)) → (-7) = -7; omega) (And.intro (by show ((0 ≤ a1 ∧ a1 ≤ 3) ∧ (0 ≤ a3 ∧ a3 ≤ 3)) ∧ (σ 102 a1 ≠ -1 ∧ σ 102 a3 ≠ -1) ∧ σ 103 a1 = σ 103 a3 ∧ ((0 ≤ a2 ∧ 0 ≤ a5 ∧ a2 + a5 ≤ σ 102 a1) ∧ (0 ≤ a4 ∧ 0 ≤ a5 ∧ a4 + a5 ≤ σ 102 a3)) → (-7) = 0; omega) (fun k j hk => rfl))))))
                  · simp only [lcmp_lt0, lcmp_ge0, lcmp_gt0, lcmp_le0, lcmp_eq0] at h21
                    show WP_ X G Q 0 0 ad SHS_ σ 89 [(42, 86), (0, a1), (0, a2), (0, a3), (0, a4), (0, a5), (9, 0)] []
                    refine B rfl ?_
                    refine And.intro (by omega) ?_
                    refine And.intro (by omega) ?_
                    intro z22 ez22 hz22
                    have q23 : z11 = z22 := ez11.trans ez22.symm
                    subst q23
                    refine And.intro (fun h24 => ?_) (fun h24 => ?_)
                    · simp only [lcmp_lt0, lcmp_ge0, lcmp_gt0, lcmp_le0, lcmp_eq0] at h24
                      refine B rfl ?_
                      have lp_113 : ∀ (nq_ : Nat) (v6 : Int) (τ113 : Me_t), (∀ k j : Int, ¬ (k = 104 ∨ k = 105) → τ113 k j = σ k j) → (0 ≤ v6) → (v6 ≤ a5) → (a5 - v6 : Int).toNat < nq_ → WP_ X G Q 0 0 ad SHS_ τ113 113 [(42, 86), (0, a1), (0, a2), (0, a3), (0, a4), (0, a5), (0, v6)] [] := by
                        intro nq_
                        induction nq_ with
                        | zero => intros; omega
                        | succ nq_ ih_113 =>
                          intro v6 τ113 hf113 hi113_0 hi113_1 hm113
                          refine B rfl ?_
                          refine And.intro (fun h25 => ?_) (fun h25 => ?_)
                          · skip
                            refine B rfl ?_
                            show WP_ X G Q 0 0 ad SHS_ τ113 150 [(42, 86), (0, a1), (0, a2), (0, a3), (0, a4), (0, a5), (0, 0)] []
                            refine wdrop_ (L' := [(42, 86), (9, 0), (9, 0), (0, a3), (0, a4), (0, a5), (0, 0)]) ⟨Or.inr rfl, ⟨Or.inl rfl, ⟨Or.inl rfl, ⟨Or.inr rfl, ⟨Or.inr rfl, ⟨Or.inr rfl, ⟨Or.inr rfl, trivial⟩⟩⟩⟩⟩⟩⟩ ?_
                            have lp_150 : ∀ (nq_ : Nat) (v6 : Int) (τ150 : Me_t), (∀ k j : Int, ¬ (k = 104 ∨ k = 105) → τ150 k j = σ k j) → (0 ≤ v6) → (v6 ≤ a5) → (a5 - v6 : Int).toNat < nq_ → WP_ X G Q 0 0 ad SHS_ τ150 150 [(42, 86), (9, 0), (9, 0), (0, a3), (0, a4), (0, a5), (0, v6)] [] := by
                              intro nq_
                              induction nq_ with
                              | zero => intros; omega
                              | succ nq_ ih_150 =>
                                intro v6 τ150 hf150 hi150_0 hi150_1 hm150
                                refine B rfl ?_
                                refine And.intro (fun h26 => ?_) (fun h26 => ?_)
                                · skip
                                  refine B rfl ?_
                                  refine Exists.intro _ (And.intro rfl ?_)
                                  exact (And.intro (by show (¬ ((0 ≤ a1 ∧ a1 ≤ 3) ∧ (0 ≤ a3 ∧ a3 ≤ 3)) → 0 = -2); omega) (And.intro (by show ((0 ≤ a1 ∧ a1 ≤ 3) ∧ (0 ≤ a3 ∧ a3 ≤ 3)) ∧ ¬ (σ 102 a1 ≠ -1 ∧ σ 102 a3 ≠ -1) → 0 = -6; omega) (And.intro (by show ((0 ≤ a1 ∧ a1 ≤ 3) ∧ (0 ≤ a3 ∧ a3 ≤ 3)) ∧ (σ 102 a1 ≠ -1 ∧ σ 102 a3 ≠ -1) ∧ ¬ (σ 103 a1 = σ 103 a3) → 0 = -8; omega) (And.intro (by show ((0 ≤ a1 ∧ a1 ≤ 3) ∧ (0 ≤ a3 ∧ a3 ≤ 3)) ∧ (σ 102 a1 ≠ -1 ∧ σ 102 a3 ≠ -1) ∧ σ 103 a1 = σ 103 a3 ∧ ¬ ((0 ≤ a2 ∧ 0 ≤ a5 ∧ a2 + a5 ≤ σ 102 a1) ∧ (0 ≤ a4 ∧ 0 ≤ a5 ∧ a4 + a5 ≤ σ 102 a3)) → 0 = -7; omega) (And.intro (by show ((0 ≤ a1 ∧ a1 ≤ 3) ∧ (0 ≤ a3 ∧ a3 ≤ 3)) ∧ (σ 102 a1 ≠ -1 ∧ σ 102 a3 ≠ -1) ∧ σ 103 a1 = σ 103 a3 ∧ ((0 ≤ a2 ∧ 0 ≤ a5 ∧ a2 + a5 ≤ σ 102 a1) ∧ (0 ≤ a4 ∧ 0 ≤ a5 ∧ a4 + a5 ≤ σ 102 a3)) → 0 = 0; omega) (fun k j hk => (hf150 _ _ (by omega))))))))
                                · skip
                                  show WP_ X G Q 0 0 ad SHS_ τ150 157 [(42, 86), (9, 0), (9, 0), (0, a3), (0, a4), (0, a5), (0, v6)] []
                                  refine B rfl ?_
                                  refine And.intro (by omega) ?_
                                  refine And.intro (by omega) ?_
                                  refine And.intro (by omega) ?_
                                  refine And.intro (by omega) ?_
                                  refine And.intro (by omega) ?_
                                  intro σ27 e28
                                  refine And.intro (by omega) ?_
                                  exact ih_150 (v6 + 1) σ27 (fun k j hk => ((ups_r e28 (by omega)).trans (hf150 _ _ (by omega)))) (by show 0 ≤ (v6 + 1); omega) (by show (v6 + 1) ≤ a5; omega) (by omega)
                            exact lp_150 ((a5 - 0 : Int).toNat + 1) 0 τ113 (fun k j hk => (hf113 _ _ (by omega))) (by show 0 ≤ 0; omega) (by show 0 ≤ a5; omega) (by omega)
                          · skip
                            show WP_ X G Q 0 0 ad SHS_ τ113 120 [(42, 86), (0, a1), (0, a2), (0, a3), (0, a4), (0, a5), (0, v6)] []
                            refine B rfl ?_
                            refine And.intro (by omega) ?_
                            refine And.intro (by omega) ?_
                            refine And.intro (by omega) ?_
                            refine And.intro (by omega) ?_
                            refine And.intro (by omega) ?_
                            intro σ29 e30
                            refine And.intro (by omega) ?_
                            exact ih_113 (v6 + 1) σ29 (fun k j hk => ((ups_r e30 (by omega)).trans (hf113 _ _ (by omega)))) (by show 0 ≤ (v6 + 1); omega) (by show (v6 + 1) ≤ a5; omega) (by omega)
                      exact lp_113 ((a5 - 0 : Int).toNat + 1) 0 σ (fun k j hk => rfl) (by show 0 ≤ 0; omega) (by show 0 ≤ a5; omega) (by omega)
                    · simp only [lcmp_lt0, lcmp_ge0, lcmp_gt0, lcmp_le0, lcmp_eq0] at h24
                      show WP_ X G Q 0 0 ad SHS_ σ 107 [(42, 86), (0, a1), (0, a2), (0, a3), (0, a4), (0, a5), (9, 0)] []
                      refine B rfl ?_
                      refine Exists.intro _ (And.intro rfl ?_)
                      exact (And.intro (by show (¬ ((0 ≤ a1 ∧ a1 ≤ 3) ∧ (0 ≤ a3 ∧ a3 ≤ 3)) → (-7) = -2); omega) (And.intro (by show ((0 ≤ a1 ∧ a1 ≤ 3) ∧ (0 ≤ a3 ∧ a3 ≤ 3)) ∧ ¬ (σ 102 a1 ≠ -1 ∧ σ 102 a3 ≠ -1) → (-7) = -6; omega) (And.intro (by show ((0 ≤ a1 ∧ a1 ≤ 3) ∧ (0 ≤ a3 ∧ a3 ≤ 3)) ∧ (σ 102 a1 ≠ -1 ∧ σ 102 a3 ≠ -1) ∧ ¬ (σ 103 a1 = σ 103 a3) → (-7) = -8; omega) (And.intro (by show ((0 ≤ a1 ∧ a1 ≤ 3) ∧ (0 ≤ a3 ∧ a3 ≤ 3)) ∧ (σ 102 a1 ≠ -1 ∧ σ 102 a3 ≠ -1) ∧ σ 103 a1 = σ 103 a3 ∧ ¬ ((0 ≤ a2 ∧ 0 ≤ a5 ∧ a2 + a5 ≤ σ 102 a1) ∧ (0 ≤ a4 ∧ 0 ≤ a5 ∧ a4 + a5 ≤ σ 102 a3)) → (-7) = -7; omega) (And.intro (by show ((0 ≤ a1 ∧ a1 ≤ 3) ∧ (0 ≤ a3 ∧ a3 ≤ 3)) ∧ (σ 102 a1 ≠ -1 ∧ σ 102 a3 ≠ -1) ∧ σ 103 a1 = σ 103 a3 ∧ ((0 ≤ a2 ∧ 0 ≤ a5 ∧ a2 + a5 ≤ σ 102 a1) ∧ (0 ≤ a4 ∧ 0 ≤ a5 ∧ a4 + a5 ≤ σ 102 a3)) → (-7) = 0; omega) (fun k j hk => rfl))))))
          · skip
            show WP_ X G Q 0 0 ad SHS_ σ 55 [(42, 86), (0, a1), (0, a2), (0, a3), (0, a4), (0, a5), (9, 0)] []
            refine B rfl ?_
            refine Exists.intro _ (And.intro rfl ?_)
            exact (And.intro (by show (¬ ((0 ≤ a1 ∧ a1 ≤ 3) ∧ (0 ≤ a3 ∧ a3 ≤ 3)) → (-8) = -2); omega) (And.intro (by show ((0 ≤ a1 ∧ a1 ≤ 3) ∧ (0 ≤ a3 ∧ a3 ≤ 3)) ∧ ¬ (σ 102 a1 ≠ -1 ∧ σ 102 a3 ≠ -1) → (-8) = -6; omega) (And.intro (by show ((0 ≤ a1 ∧ a1 ≤ 3) ∧ (0 ≤ a3 ∧ a3 ≤ 3)) ∧ (σ 102 a1 ≠ -1 ∧ σ 102 a3 ≠ -1) ∧ ¬ (σ 103 a1 = σ 103 a3) → (-8) = -8; omega) (And.intro (by show ((0 ≤ a1 ∧ a1 ≤ 3) ∧ (0 ≤ a3 ∧ a3 ≤ 3)) ∧ (σ 102 a1 ≠ -1 ∧ σ 102 a3 ≠ -1) ∧ σ 103 a1 = σ 103 a3 ∧ ¬ ((0 ≤ a2 ∧ 0 ≤ a5 ∧ a2 + a5 ≤ σ 102 a1) ∧ (0 ≤ a4 ∧ 0 ≤ a5 ∧ a4 + a5 ≤ σ 102 a3)) → (-8) = -7; omega) (And.intro (by show ((0 ≤ a1 ∧ a1 ≤ 3) ∧ (0 ≤ a3 ∧ a3 ≤ 3)) ∧ (σ 102 a1 ≠ -1 ∧ σ 102 a3 ≠ -1) ∧ σ 103 a1 = σ 103 a3 ∧ ((0 ≤ a2 ∧ 0 ≤ a5 ∧ a2 + a5 ≤ σ 102 a1) ∧ (0 ≤ a4 ∧ 0 ≤ a5 ∧ a4 + a5 ≤ σ 102 a3)) → (-8) = 0; omega) (fun k j hk => rfl))))))
        · skip
          show WP_ X G Q 0 0 ad SHS_ σ 37 [(42, 86), (0, a1), (0, a2), (0, a3), (0, a4), (0, a5), (9, 0)] []
          refine B rfl ?_
          refine Exists.intro _ (And.intro rfl ?_)
          exact (And.intro (by show (¬ ((0 ≤ a1 ∧ a1 ≤ 3) ∧ (0 ≤ a3 ∧ a3 ≤ 3)) → (-6) = -2); omega) (And.intro (by show ((0 ≤ a1 ∧ a1 ≤ 3) ∧ (0 ≤ a3 ∧ a3 ≤ 3)) ∧ ¬ (σ 102 a1 ≠ -1 ∧ σ 102 a3 ≠ -1) → (-6) = -6; omega) (And.intro (by show ((0 ≤ a1 ∧ a1 ≤ 3) ∧ (0 ≤ a3 ∧ a3 ≤ 3)) ∧ (σ 102 a1 ≠ -1 ∧ σ 102 a3 ≠ -1) ∧ ¬ (σ 103 a1 = σ 103 a3) → (-6) = -8; omega) (And.intro (by show ((0 ≤ a1 ∧ a1 ≤ 3) ∧ (0 ≤ a3 ∧ a3 ≤ 3)) ∧ (σ 102 a1 ≠ -1 ∧ σ 102 a3 ≠ -1) ∧ σ 103 a1 = σ 103 a3 ∧ ¬ ((0 ≤ a2 ∧ 0 ≤ a5 ∧ a2 + a5 ≤ σ 102 a1) ∧ (0 ≤ a4 ∧ 0 ≤ a5 ∧ a4 + a5 ≤ σ 102 a3)) → (-6) = -7; omega) (And.intro (by show ((0 ≤ a1 ∧ a1 ≤ 3) ∧ (0 ≤ a3 ∧ a3 ≤ 3)) ∧ (σ 102 a1 ≠ -1 ∧ σ 102 a3 ≠ -1) ∧ σ 103 a1 = σ 103 a3 ∧ ((0 ≤ a2 ∧ 0 ≤ a5 ∧ a2 + a5 ≤ σ 102 a1) ∧ (0 ≤ a4 ∧ 0 ≤ a5 ∧ a4 + a5 ≤ σ 102 a3)) → (-6) = 0; omega) (fun k j hk => rfl))))))
    · skip
      show WP_ X G Q 0 0 ad SHS_ σ 14 [(42, 86), (0, a1), (0, a2), (0, a3), (0, a4), (0, a5), (9, 0)] []
      refine B rfl ?_
      refine Exists.intro _ (And.intro rfl ?_)
      exact (And.intro (by show (¬ ((0 ≤ a1 ∧ a1 ≤ 3) ∧ (0 ≤ a3 ∧ a3 ≤ 3)) → (-2) = -2); omega) (And.intro (by show ((0 ≤ a1 ∧ a1 ≤ 3) ∧ (0 ≤ a3 ∧ a3 ≤ 3)) ∧ ¬ (σ 102 a1 ≠ -1 ∧ σ 102 a3 ≠ -1) → (-2) = -6; omega) (And.intro (by show ((0 ≤ a1 ∧ a1 ≤ 3) ∧ (0 ≤ a3 ∧ a3 ≤ 3)) ∧ (σ 102 a1 ≠ -1 ∧ σ 102 a3 ≠ -1) ∧ ¬ (σ 103 a1 = σ 103 a3) → (-2) = -8; omega) (And.intro (by show ((0 ≤ a1 ∧ a1 ≤ 3) ∧ (0 ≤ a3 ∧ a3 ≤ 3)) ∧ (σ 102 a1 ≠ -1 ∧ σ 102 a3 ≠ -1) ∧ σ 103 a1 = σ 103 a3 ∧ ¬ ((0 ≤ a2 ∧ 0 ≤ a5 ∧ a2 + a5 ≤ σ 102 a1) ∧ (0 ≤ a4 ∧ 0 ≤ a5 ∧ a4 + a5 ≤ σ 102 a3)) → (-2) = -7; omega) (And.intro (by show ((0 ≤ a1 ∧ a1 ≤ 3) ∧ (0 ≤ a3 ∧ a3 ≤ 3)) ∧ (σ 102 a1 ≠ -1 ∧ σ 102 a3 ≠ -1) ∧ σ 103 a1 = σ 103 a3 ∧ ((0 ≤ a2 ∧ 0 ≤ a5 ∧ a2 + a5 ≤ σ 102 a1) ∧ (0 ≤ a4 ∧ 0 ≤ a5 ∧ a4 + a5 ≤ σ 102 a3)) → (-2) = 0; omega) (fun k j hk => rfl))))))
def as_G_X11_image : Int → List Sv_t := fun a => [(42, 86), (0, a)]
def pre_G_X11_image : Int → Me_t → Prop := fun a σ => (MI σ)
def post_G_X11_image : Int → Me_t → Int → Me_t → Prop := fun a σ z σ' => (MI σ') ∧ ((0 ≤ a ∧ a ≤ 2 → z = 0) ∧ (¬ (0 ≤ a ∧ a ≤ 2) → z = -2)) ∧ (0 ≤ a ∧ a ≤ 2 → σ' 89 a = 1) ∧ (∀ j : Int, j ≠ a → σ' 89 j = σ 89 j) ∧ (∀ k j : Int, ¬ (k = 88 ∨ k = 89) → σ' k j = σ k j)
set_option maxHeartbeats 1500000 in
set_option maxRecDepth 100000 in
theorem ct_G_X11_image (l : Launch) : CT_ l yX11_image cX11_image 3 (some .int) 1 25 as_G_X11_image (rmI_) pre_G_X11_image post_G_X11_image := by
  refine ct_of (by decide) (fun _ => Nat.le_of_ble_eq_true rfl) ?_
  intro X G Q ad σ a hl hR E hG R hM hv hp
  obtain ⟨a1, rfl⟩ : ∃ q : Int, q = a := ⟨_, rfl⟩
  have r_a1 : -2147483648 ≤ a1 ∧ a1 ≤ 2147483647 := hv (0, a1) (List.mem_of_getElem? (i := 1) rfl)
  have hp0 : MI σ := hp
  have B := @bk_ X G Q 0 0 ad SHS_ RX11 cX11_image 3 (some .int) flX11 plX11 knX11 [(159, 3, TR_ as_G_X11_in (rmI_) pre_G_X11_in post_G_X11_in)] _ _ none kX11_image [17] flX11_ok plX11_ok knX11_ok eX11_image oX11_image
    (List.forall_mem_cons.mpr ⟨cok_s (n := 3) (idx := 79) E (ct_G_X11_in X.2.1) (by rw [hR]; decide) (Nat.zero_le _) (Nat.zero_le _) hG ⟨by decide, by decide, by decide⟩ (fun _ => rfl) wl_X11_79 wt_X11_in wn_X11 wc_X11_in, fun _ h => absurd h List.not_mem_nil⟩) R sok_no E
  show WP_ X G Q 0 0 ad SHS_ σ 0 [(42, 86), (0, a1), (9, 0)] []
  refine B rfl ?_
  refine Exists.intro (a1, 0, 2) (And.intro rfl (And.intro True.intro ?_))
  rintro z1 m_ h2
  obtain rfl : σ = m_ := h2.2
  have h3 : (z1 = 1 ∧ 0 ≤ a1 ∧ a1 ≤ 2) ∨ (z1 = 0 ∧ ¬ (0 ≤ a1 ∧ a1 ≤ 2)) := h2.1
  refine And.intro (fun h4 => ?_) (fun h4 => ?_)
  · skip
    refine B rfl ?_
    have lp_17 : ∀ (nq_ : Nat) (v2 : Int) (τ17 : Me_t), (∀ k j : Int, ¬ (k = 88 ∨ k = 89) → τ17 k j = σ k j) → (0 ≤ v2) → (v2 ≤ 495) → (∀ i : Int, 0 ≤ i → i < v2 → τ17 88 (495 * a1 + i) = σ 87 i) → (∀ j : Int, ¬ (495 * a1 ≤ j ∧ j < 495 * a1 + 495) → τ17 88 j = σ 88 j) → (∀ j : Int, τ17 89 j = σ 89 j) → (495 - v2 : Int).toNat < nq_ → WP_ X G Q 0 0 ad SHS_ τ17 17 [(42, 86), (0, a1), (0, v2)] [] := by
      intro nq_
      induction nq_ with
      | zero => intros; omega
      | succ nq_ ih_17 =>
        intro v2 τ17 hf17 hi17_0 hi17_1 hi17_2 hi17_3 hi17_4 hm17
        refine B rfl ?_
        refine And.intro (fun h5 => ?_) (fun h5 => ?_)
        · skip
          refine B rfl ?_
          refine And.intro (by omega) ?_
          refine And.intro (by show (0 : Int) ≤ _ ∧ _ ≤ (1 : Int); omega) ?_
          intro σ6 e7
          refine Exists.intro _ (And.intro rfl ?_)
          have t8 : σ6 89 a1 = 1 := ups_v e7
          exact (And.intro (by show MI σ6; exact MI_fr (MI_img hp0 ⟨by omega, by omega⟩ (fun i h1 h2 => hi17_2 i h1 (by omega)) hi17_3 (fun j => hf17 _ _ (by omega))) (fun k j hk => ups_r e7 (by omega))) (And.intro (by show (0 ≤ a1 ∧ a1 ≤ 2 → 0 = 0) ∧ (¬ (0 ≤ a1 ∧ a1 ≤ 2) → 0 = -2); omega) (And.intro (by show 0 ≤ a1 ∧ a1 ≤ 2 → σ6 89 a1 = 1; omega) (And.intro (by show ∀ j : Int, j ≠ a1 → σ6 89 j = σ 89 j; intro j hj; exact (ups_r e7 (by omega)).trans (hi17_4 j)) (fun k j hk => ((ups_r e7 (by omega)).trans (hf17 _ _ (by omega))))))))
        · skip
          refine And.intro (by omega) ?_
          refine And.intro (by omega) ?_
          refine And.intro (by omega) ?_
          intro z9 ez9 hz9
          have hz9 : ((-1) : Int) ≤ z9 ∧ z9 ≤ (1999 : Int) := hz9
          try have t10 : τ17 87 v2 = σ 87 v2 := (hf17 _ _ (by omega))
          refine And.intro (by omega) ?_
          refine And.intro (by show ((-1) : Int) ≤ _ ∧ _ ≤ (1999 : Int); omega) ?_
          intro σ11 e12
          refine And.intro (by omega) ?_
          try have t13 : σ11 88 (495 * a1 + i) = σ 88 (495 * a1 + i) := ((ups_r e12 (by omega)).trans (hf17 _ _ (by omega)))
          exact ih_17 (v2 + 1) σ11 (fun k j hk => ((ups_r e12 (by omega)).trans (hf17 _ _ (by omega)))) (by show 0 ≤ (v2 + 1); omega) (by show (v2 + 1) ≤ 495; omega) (by show ∀ i : Int, 0 ≤ i → i < (v2 + 1) → σ11 88 (495 * a1 + i) = σ 87 i; intro i h1 h2; by_cases hj : i = v2; subst hj; exact (ups_v e12).trans (hf17 _ _ (by omega)); exact (ups_r e12 (by omega)).trans (hi17_2 i h1 (by omega))) (by show ∀ j : Int, ¬ (495 * a1 ≤ j ∧ j < 495 * a1 + 495) → σ11 88 j = σ 88 j; intro j hj; exact ((ups_r e12 (by omega))).trans (hi17_3 j hj)) (by show ∀ j : Int, σ11 89 j = σ 89 j; intro j; exact ((ups_r e12 (by omega))).trans (hi17_4 j)) (by omega)
    exact lp_17 ((495 - 0 : Int).toNat + 1) 0 σ (fun k j hk => rfl) (by show 0 ≤ 0; omega) (by show 0 ≤ 495; omega) (by show ∀ i : Int, 0 ≤ i → i < 0 → σ 88 (495 * a1 + i) = σ 87 i; intro i h1 h2; omega) (by show ∀ j : Int, ¬ (495 * a1 ≤ j ∧ j < 495 * a1 + 495) → σ 88 j = σ 88 j; intro j hj; exact rfl) (by show ∀ j : Int, σ 89 j = σ 89 j; intro j; rfl) (by omega)
  · skip
    refine Exists.intro _ (And.intro rfl ?_)
    exact (And.intro (by show MI σ; exact hp0) (And.intro (by show (0 ≤ a1 ∧ a1 ≤ 2 → (-2) = 0) ∧ (¬ (0 ≤ a1 ∧ a1 ≤ 2) → (-2) = -2); omega) (And.intro (by show 0 ≤ a1 ∧ a1 ≤ 2 → σ 89 a1 = 1; omega) (And.intro (by show ∀ j : Int, j ≠ a1 → σ 89 j = σ 89 j; intro j hj0; exact rfl) (fun k j hk => rfl)))))
def as_G_X11_back : Int → List Sv_t := fun a => [(42, 86), (0, a)]
def pre_G_X11_back : Int → Me_t → Prop := fun a σ => (MI σ)
def post_G_X11_back : Int → Me_t → Int → Me_t → Prop := fun a σ z σ' => (MI σ') ∧ ((¬ (0 ≤ a ∧ a ≤ 2) → z = -2) ∧ (0 ≤ a ∧ a ≤ 2 ∧ σ 89 a = 0 → z = -6) ∧ (0 ≤ a ∧ a ≤ 2 ∧ σ 89 a ≠ 0 → z = 0)) ∧ (∀ k j : Int, ¬ (k = 87) → σ' k j = σ k j)
set_option maxHeartbeats 1500000 in
set_option maxRecDepth 100000 in
theorem ct_G_X11_back (l : Launch) : CT_ l yX11_back cX11_back 3 (some .int) 1 25 as_G_X11_back (rmI_) pre_G_X11_back post_G_X11_back := by
  refine ct_of (by decide) (fun _ => Nat.le_of_ble_eq_true rfl) ?_
  intro X G Q ad σ a hl hR E hG R hM hv hp
  obtain ⟨a1, rfl⟩ : ∃ q : Int, q = a := ⟨_, rfl⟩
  have r_a1 : -2147483648 ≤ a1 ∧ a1 ≤ 2147483647 := hv (0, a1) (List.mem_of_getElem? (i := 1) rfl)
  have hp0 : MI σ := hp
  have B := @bk_ X G Q 0 0 ad SHS_ RX11 cX11_back 3 (some .int) flX11 plX11 knX11 [(159, 3, TR_ as_G_X11_in (rmI_) pre_G_X11_in post_G_X11_in)] _ _ none kX11_back [29] flX11_ok plX11_ok knX11_ok eX11_back oX11_back
    (List.forall_mem_cons.mpr ⟨cok_s (n := 3) (idx := 79) E (ct_G_X11_in X.2.1) (by rw [hR]; decide) (Nat.zero_le _) (Nat.zero_le _) hG ⟨by decide, by decide, by decide⟩ (fun _ => rfl) wl_X11_79 wt_X11_in wn_X11 wc_X11_in, fun _ h => absurd h List.not_mem_nil⟩) R sok_no E
  show WP_ X G Q 0 0 ad SHS_ σ 0 [(42, 86), (0, a1), (9, 0)] []
  refine B rfl ?_
  refine Exists.intro (a1, 0, 2) (And.intro rfl (And.intro True.intro ?_))
  rintro z1 m_ h2
  obtain rfl : σ = m_ := h2.2
  have h3 : (z1 = 1 ∧ 0 ≤ a1 ∧ a1 ≤ 2) ∨ (z1 = 0 ∧ ¬ (0 ≤ a1 ∧ a1 ≤ 2)) := h2.1
  refine And.intro (fun h4 => ?_) (fun h4 => ?_)
  · skip
    refine B rfl ?_
    refine And.intro (by omega) ?_
    intro z5 ez5 hz5
    have hz5 : (0 : Int) ≤ z5 ∧ z5 ≤ (1 : Int) := hz5
    refine And.intro (fun h6 => ?_) (fun h6 => ?_)
    · skip
      refine B rfl ?_
      have lp_29 : ∀ (nq_ : Nat) (v2 : Int) (τ29 : Me_t), (∀ k j : Int, ¬ (k = 87) → τ29 k j = σ k j) → (0 ≤ v2) → (v2 ≤ 495) → (∀ i : Int, 0 ≤ i → i < v2 → τ29 87 i = σ 88 (495 * a1 + i)) → (495 - v2 : Int).toNat < nq_ → WP_ X G Q 0 0 ad SHS_ τ29 29 [(42, 86), (0, a1), (0, v2)] [] := by
        intro nq_
        induction nq_ with
        | zero => intros; omega
        | succ nq_ ih_29 =>
          intro v2 τ29 hf29 hi29_0 hi29_1 hi29_2 hm29
          refine B rfl ?_
          refine And.intro (fun h7 => ?_) (fun h7 => ?_)
          · skip
            refine B rfl ?_
            refine Exists.intro _ (And.intro rfl ?_)
            exact (And.intro (by show MI τ29; exact MI_back hp0 ⟨by omega, by omega⟩ (fun i h1 h2 => hi29_2 i h1 (by omega)) (fun j => hf29 _ _ (by omega))) (And.intro (by show (¬ (0 ≤ a1 ∧ a1 ≤ 2) → 0 = -2) ∧ (0 ≤ a1 ∧ a1 ≤ 2 ∧ σ 89 a1 = 0 → 0 = -6) ∧ (0 ≤ a1 ∧ a1 ≤ 2 ∧ σ 89 a1 ≠ 0 → 0 = 0); omega) (fun k j hk => (hf29 _ _ (by omega)))))
          · skip
            refine And.intro (by omega) ?_
            refine And.intro (by omega) ?_
            refine And.intro (by omega) ?_
            intro z8 ez8 hz8
            have hz8 : ((-1) : Int) ≤ z8 ∧ z8 ≤ (1999 : Int) := hz8
            try have t9 : τ29 88 ((495 * a1) + v2) = σ 88 ((495 * a1) + v2) := (hf29 _ _ (by omega))
            refine And.intro (by omega) ?_
            refine And.intro (by show ((-1) : Int) ≤ _ ∧ _ ≤ (1999 : Int); omega) ?_
            intro σ10 e11
            refine And.intro (by omega) ?_
            exact ih_29 (v2 + 1) σ10 (fun k j hk => ((ups_r e11 (by omega)).trans (hf29 _ _ (by omega)))) (by show 0 ≤ (v2 + 1); omega) (by show (v2 + 1) ≤ 495; omega) (by show ∀ i : Int, 0 ≤ i → i < (v2 + 1) → σ10 87 i = σ 88 (495 * a1 + i); intro i h1 h2; by_cases hj : i = v2; subst hj; exact (ups_v e11).trans (hf29 _ _ (by omega)); exact (ups_r e11 (by omega)).trans (hi29_2 i h1 (by omega))) (by omega)
      exact lp_29 ((495 - 0 : Int).toNat + 1) 0 σ (fun k j hk => rfl) (by show 0 ≤ 0; omega) (by show 0 ≤ 495; omega) (by show ∀ i : Int, 0 ≤ i → i < 0 → σ 87 i = σ 88 (495 * a1 + i); intro i h1 h2; omega) (by omega)
    · skip
      refine Exists.intro _ (And.intro rfl ?_)
      exact (And.intro (by show MI σ; exact hp0) (And.intro (by show (¬ (0 ≤ a1 ∧ a1 ≤ 2) → (-6) = -2) ∧ (0 ≤ a1 ∧ a1 ≤ 2 ∧ σ 89 a1 = 0 → (-6) = -6) ∧ (0 ≤ a1 ∧ a1 ≤ 2 ∧ σ 89 a1 ≠ 0 → (-6) = 0); omega) (fun k j hk => rfl)))
  · skip
    refine Exists.intro _ (And.intro rfl ?_)
    exact (And.intro (by show MI σ; exact hp0) (And.intro (by show (¬ (0 ≤ a1 ∧ a1 ≤ 2) → (-2) = -2) ∧ (0 ≤ a1 ∧ a1 ≤ 2 ∧ σ 89 a1 = 0 → (-2) = -6) ∧ (0 ≤ a1 ∧ a1 ≤ 2 ∧ σ 89 a1 ≠ 0 → (-2) = 0); omega) (fun k j hk => rfl)))
def as_G_X11_goRain : Int × Int × Int × Int → List Sv_t := fun a => [(42, 86), (1, a.1), (0, a.2.1), (0, a.2.2.1), (0, a.2.2.2)]
def pre_G_X11_goRain : Int × Int × Int × Int → Me_t → Prop := fun a σ => (BW σ 87) ∧ (0 ≤ a.1) ∧ (a.1 ≤ 2147483668) ∧ (-1 ≤ a.2.1) ∧ (a.2.1 ≤ 2) ∧ (0 ≤ a.2.2.1) ∧ (a.2.2.1 ≤ 1999) ∧ (1 ≤ a.2.2.2) ∧ (a.2.2.2 ≤ 100)
def post_G_X11_goRain : Int × Int × Int × Int → Me_t → Int → Me_t → Prop := fun a σ z σ' => (∀ k j : Int, ¬ (k = 86) → σ' k j = σ k j)
set_option maxHeartbeats 1500000 in
set_option maxRecDepth 100000 in
theorem ct_G_X11_goRain (l : Launch) : CT_ l yX11_goRain cX11_goRain 10 none 3 66 as_G_X11_goRain (rmV_) pre_G_X11_goRain post_G_X11_goRain := by
  refine ct_of (by decide) (fun _ => Nat.le_of_ble_eq_true rfl) ?_
  intro X G Q ad σ a hl hR E hG R hM hv hp
  obtain ⟨a1, a2, a3, a4⟩ := a
  have r_a1 : -9223372036854775808 ≤ a1 ∧ a1 ≤ 9223372036854775807 := hv (1, a1) (List.mem_of_getElem? (i := 1) rfl)
  have r_a2 : -2147483648 ≤ a2 ∧ a2 ≤ 2147483647 := hv (0, a2) (List.mem_of_getElem? (i := 2) rfl)
  have r_a3 : -2147483648 ≤ a3 ∧ a3 ≤ 2147483647 := hv (0, a3) (List.mem_of_getElem? (i := 3) rfl)
  have r_a4 : -2147483648 ≤ a4 ∧ a4 ≤ 2147483647 := hv (0, a4) (List.mem_of_getElem? (i := 4) rfl)
  have hp0 : BW σ 87 := hp.1
  have hp1 : 0 ≤ a1 := hp.2.1
  have hp2 : a1 ≤ 2147483668 := hp.2.2.1
  have hp3 : -1 ≤ a2 := hp.2.2.2.1
  have hp4 : a2 ≤ 2 := hp.2.2.2.2.1
  have hp5 : 0 ≤ a3 := hp.2.2.2.2.2.1
  have hp6 : a3 ≤ 1999 := hp.2.2.2.2.2.2.1
  have hp7 : 1 ≤ a4 := hp.2.2.2.2.2.2.2.1
  have hp8 : a4 ≤ 100 := hp.2.2.2.2.2.2.2.2
  have B := @bk_ X G Q 0 0 ad SHS_ RX11 cX11_goRain 10 none flX11 plX11 knX11 [(572, 2, TR_ as_G_X11_whoOn (rmI_) pre_G_X11_whoOn post_G_X11_whoOn), (192, 1, TR_ as_G_X11_allLands (rmI_) pre_G_X11_allLands post_G_X11_allLands), (508, 3, TR_ as_G_X11_mayOn (rmI_) pre_G_X11_mayOn post_G_X11_mayOn)] _ _ none kX11_goRain [22, 32, 40, 77, 94, 113, 126, 145, 150, 160] flX11_ok plX11_ok knX11_ok eX11_goRain oX11_goRain
    (List.forall_mem_cons.mpr ⟨cok_v (t := 32) (c := 11) (N := 39) (n := 1) (idx := 286) E (ct_G_X11_whoOn X.2.1) (by rw [hR]; decide) (Nat.zero_le _) (Nat.zero_le _) hG rfl rfl ⟨rfl, by decide, by decide, by decide⟩ (fun _ => ⟨_, _, rfl, rfl⟩) wl_X11_286 wi_X11_whoOn ws_X11_whoOn wn_X11 wc_X11_whoOn, List.forall_mem_cons.mpr ⟨cok_v (t := 32) (c := 11) (N := 39) (n := 0) (idx := 96) E (ct_G_X11_allLands X.2.1) (by rw [hR]; decide) (Nat.zero_le _) (Nat.zero_le _) hG rfl rfl ⟨rfl, by decide, by decide, by decide⟩ (fun _ => ⟨_, _, rfl, rfl⟩) wl_X11_96 wi_X11_allLands ws_X11_allLands wn_X11 wc_X11_allLands, List.forall_mem_cons.mpr ⟨cok_v (t := 32) (c := 11) (N := 39) (n := 2) (idx := 254) E (ct_G_X11_mayOn X.2.1) (by rw [hR]; decide) (Nat.zero_le _) (Nat.zero_le _) hG rfl rfl ⟨rfl, by decide, by decide, by decide⟩ (fun _ => ⟨_, _, rfl, rfl⟩) wl_X11_254 wi_X11_mayOn ws_X11_mayOn wn_X11 wc_X11_mayOn, fun _ h => absurd h List.not_mem_nil⟩⟩⟩) R sok_no E
  show WP_ X G Q 0 0 ad SHS_ σ 0 [(42, 86), (1, a1), (9, 0), (0, a2), (0, a3), (0, a4), (9, 0), (9, 0), (9, 0), (9, 0)] []
  refine B rfl ?_
  refine And.intro (by omega) ?_
  intro σ1 e2
  refine And.intro (by omega) ?_
  intro σ3 e4
  refine And.intro (by omega) ?_
  intro σ5 e6
  show WP_ X G Q 0 0 ad SHS_ σ5 22 [(42, 86), (1, a1), (9, 0), (0, a2), (0, a3), (0, a4), (1, a1), (9, 0), (0, a3), (9, 0)] []
  refine wdrop_ (L' := [(42, 86), (9, 0), (9, 0), (0, a2), (0, a3), (0, a4), (1, a1), (9, 0), (0, a3), (9, 0)]) ⟨Or.inr rfl, ⟨Or.inl rfl, ⟨Or.inl rfl, ⟨Or.inr rfl, ⟨Or.inr rfl, ⟨Or.inr rfl, ⟨Or.inr rfl, ⟨Or.inl rfl, ⟨Or.inr rfl, ⟨Or.inl rfl, trivial⟩⟩⟩⟩⟩⟩⟩⟩⟩⟩ ?_
  have lp_22 : ∀ (nq_ : Nat) (v6 : Int) (v8 : Int) (τ22 : Me_t), (∀ k j : Int, ¬ (k = 86) → τ22 k j = σ k j) → (0 ≤ v6) → (v6 ≤ 2147483668) → (a3 ≤ v8) → (v8 ≤ 2000) → (v8 ≤ a3 + a4) → (0 ≤ τ22 86 32) → (τ22 86 32 ≤ v8 - a3) → (0 ≤ τ22 86 33) → (τ22 86 33 ≤ v8 - a3) → (0 ≤ τ22 86 34) → (τ22 86 34 ≤ v8 - a3) → (2000 - v8 : Int).toNat < nq_ → WP_ X G Q 0 0 ad SHS_ τ22 22 [(42, 86), (9, 0), (9, 0), (0, a2), (0, a3), (0, a4), (1, v6), (9, 0), (0, v8), (9, 0)] [] := by
    intro nq_
    induction nq_ with
    | zero => intros; omega
    | succ nq_ ih_22 =>
      intro v6 v8 τ22 hf22 hi22_0 hi22_1 hi22_2 hi22_3 hi22_4 hi22_5 hi22_6 hi22_7 hi22_8 hi22_9 hi22_10 hm22
      refine B rfl ?_
      refine And.intro (by omega) ?_
      refine And.intro (fun h7 => ?_) (fun h7 => ?_)
      · skip
        refine B rfl ?_
        refine Exists.intro 0 (And.intro rfl ?_)
        exact (fun k j hk => (hf22 _ _ (by omega)))
      · skip
        show WP_ X G Q 0 0 ad SHS_ τ22 32 [(42, 86), (9, 0), (9, 0), (0, a2), (0, a3), (0, a4), (1, v6), (9, 0), (0, v8), (9, 0)] []
        refine B rfl ?_
        refine And.intro (fun h8 => ?_) (fun h8 => ?_)
        · skip
          refine B rfl ?_
          refine Exists.intro 0 (And.intro rfl ?_)
          exact (fun k j hk => (hf22 _ _ (by omega)))
        · skip
          show WP_ X G Q 0 0 ad SHS_ τ22 40 [(42, 86), (9, 0), (9, 0), (0, a2), (0, a3), (0, a4), (1, v6), (9, 0), (0, v8), (9, 0)] []
          refine B rfl ?_
          refine And.intro (by omega) ?_
          refine And.intro (by omega) ?_
          have q9 : Int.tmod ((1103515245 * v6) + 12345) 2147483648 = ((1103515245 * v6) + 12345) % 2147483648 := Int.tmod_eq_emod_of_nonneg (by omega)
          refine And.intro (by omega) ?_
          have q10 : Int.tdiv (Int.tmod ((1103515245 * v6) + 12345) 2147483648) 65536 = (Int.tmod ((1103515245 * v6) + 12345) 2147483648) / 65536 := Int.tdiv_eq_ediv_of_nonneg (by omega)
          refine And.intro (by omega) ?_
          have q11 : Int.tmod (Int.tdiv (Int.tmod ((1103515245 * v6) + 12345) 2147483648) 65536) 100 = (Int.tdiv (Int.tmod ((1103515245 * v6) + 12345) 2147483648) 65536) % 100 := Int.tmod_eq_emod_of_nonneg (by omega)
          refine And.intro (by omega) ?_
          refine And.intro (by omega) ?_
          intro z12 ez12 hz12
          have hz12 : ((-1) : Int) ≤ z12 ∧ z12 ≤ (1999 : Int) := hz12
          try have t13 : τ22 87 0 = σ 87 0 := (hf22 _ _ (by omega))
          have p14 : BW τ22 87 := BW_fr hp0 (fun k j hk => (hf22 _ _ (by omega)))
          have b15 := wrh_ p14 (i := 0) (by omega)
          have b15 : (0 : Int) ≤ τ22 87 0 ∧ τ22 87 0 ≤ (100 : Int) := b15
          refine And.intro (fun h16 => ?_) (fun h16 => ?_)
          · simp only [lcmp_lt0, lcmp_ge0, lcmp_gt0, lcmp_le0, lcmp_eq0] at h16
            refine B rfl ?_
            intro z17 ez17 hz17
            have hz17 : (0 : Int) ≤ z17 ∧ z17 ≤ (100 : Int) := hz17
            refine And.intro (fun h18 => ?_) (fun h18 => (by exfalso; omega))
            refine B rfl ?_
            refine And.intro (by omega) ?_
            refine And.intro (by omega) ?_
            intro σ19 e20
            intro z21 ez21 hz21
            have hz21 : (0 : Int) ≤ z21 ∧ z21 ≤ (100 : Int) := hz21
            try have t22 : σ19 86 33 = τ22 86 33 := (ups_r e20 (by omega))
            refine And.intro (fun h23 => (by exfalso; omega)) (fun h23 => ?_)
            show WP_ X G Q 0 0 ad SHS_ σ19 113 [(42, 86), (9, 0), (9, 0), (0, a2), (0, a3), (0, a4), (1, Int.tmod ((1103515245 * v6) + 12345) 2147483648), (9, 0), (0, v8), (0, 0)] [(0, z21), (42, 86)]
            refine B rfl ?_
            have p24 : BW σ19 87 := BW_fr p14 (fun k j hk => (ups_r e20 (by omega)))
            refine Exists.intro v8 (And.intro rfl (And.intro (And.intro p24 (And.intro (by show 0 ≤ v8; omega) (by show v8 ≤ 1999; omega))) ?_))
            rintro z25 m_ h26
            obtain rfl : σ19 = m_ := h26
            refine Exists.intro () (And.intro rfl (And.intro p24 ?_))
            rintro z27 m_ h28
            obtain rfl : σ19 = m_ := h28.2
            have h29 : 0 ≤ z27 ∧ z27 ≤ 7 := h28.1
            refine And.intro (fun h30 => ?_) (fun h30 => ?_)
            · skip
              refine B rfl ?_
              refine And.intro (by omega) ?_
              refine And.intro (by omega) ?_
              intro σ31 e32
              intro z33 ez33 hz33
              have hz33 : (0 : Int) ≤ z33 ∧ z33 ≤ (100 : Int) := hz33
              try have t34 : σ31 86 34 = τ22 86 34 := ((ups_r e32 (by omega)).trans (ups_r e20 (by omega)))
              refine And.intro (fun h35 => (by exfalso; omega)) (fun h35 => ?_)
              show WP_ X G Q 0 0 ad SHS_ σ31 145 [(42, 86), (9, 0), (9, 0), (0, a2), (0, a3), (0, a4), (1, Int.tmod ((1103515245 * v6) + 12345) 2147483648), (9, 0), (0, v8), (0, 0)] [(0, z33), (42, 86)]
              refine B rfl ?_
              refine And.intro (fun h36 => ?_) (fun h36 => ?_)
              · skip
                refine B rfl ?_
                refine And.intro (by omega) ?_
                refine And.intro (by omega) ?_
                intro σ37 e38
                refine And.intro (by omega) ?_
                show WP_ X G Q 0 0 ad SHS_ σ37 22 [(42, 86), (9, 0), (9, 0), (0, a2), (0, a3), (0, a4), (1, Int.tmod ((1103515245 * v6) + 12345) 2147483648), (9, 0), (0, v8 + 1), (0, 0)] []
                refine wdrop_ (L' := [(42, 86), (9, 0), (9, 0), (0, a2), (0, a3), (0, a4), (1, Int.tmod ((1103515245 * v6) + 12345) 2147483648), (9, 0), (0, v8 + 1), (9, 0)]) ⟨Or.inr rfl, ⟨Or.inl rfl, ⟨Or.inl rfl, ⟨Or.inr rfl, ⟨Or.inr rfl, ⟨Or.inr rfl, ⟨Or.inr rfl, ⟨Or.inl rfl, ⟨Or.inr rfl, ⟨Or.inl rfl, trivial⟩⟩⟩⟩⟩⟩⟩⟩⟩⟩ ?_
                have t39 : σ37 86 32 = z17 + 0 := (((ups_r e38 (by omega)).trans (ups_r e32 (by omega)))).trans (ups_v e20)
                have t40 : σ37 86 33 = z21 + 0 := ((ups_r e38 (by omega))).trans (ups_v e32)
                have t41 : σ37 86 34 = z33 + 0 := ups_v e38
                exact ih_22 (Int.tmod ((1103515245 * v6) + 12345) 2147483648) (v8 + 1) σ37 (fun k j hk => ((ups_r e38 (by omega)).trans ((ups_r e32 (by omega)).trans ((ups_r e20 (by omega)).trans (hf22 _ _ (by omega)))))) (by show 0 ≤ (Int.tmod ((1103515245 * v6) + 12345) 2147483648); omega) (by show (Int.tmod ((1103515245 * v6) + 12345) 2147483648) ≤ 2147483668; omega) (by show a3 ≤ (v8 + 1); omega) (by show (v8 + 1) ≤ 2000; omega) (by show (v8 + 1) ≤ a3 + a4; omega) (by show 0 ≤ σ37 86 32; omega) (by show σ37 86 32 ≤ (v8 + 1) - a3; omega) (by show 0 ≤ σ37 86 33; omega) (by show σ37 86 33 ≤ (v8 + 1) - a3; omega) (by show 0 ≤ σ37 86 34; omega) (by show σ37 86 34 ≤ (v8 + 1) - a3; omega) (by omega)
              · skip
                show WP_ X G Q 0 0 ad SHS_ σ31 150 [(42, 86), (9, 0), (9, 0), (0, a2), (0, a3), (0, a4), (1, Int.tmod ((1103515245 * v6) + 12345) 2147483648), (9, 0), (0, v8), (0, 0)] [(0, z33), (42, 86)]
                refine B rfl ?_
                refine Exists.intro (a2, v8) (And.intro rfl (And.intro (And.intro (by show 0 ≤ a2; omega) (And.intro (by show a2 ≤ 2; omega) (And.intro (by show 0 ≤ v8; omega) (by show v8 ≤ 1999; omega)))) ?_))
                rintro z42 m_ h43
                obtain rfl : σ31 = m_ := h43.2
                have h44 : (z42 = 1 ∧ σ31 96 (2000 * a2 + v8) = 0) ∨ (z42 = 0 ∧ σ31 96 (2000 * a2 + v8) ≠ 0) := h43.1
                try have t45 : σ31 96 (2000 * a2 + v8) = σ 96 (2000 * a2 + v8) := ((ups_r e32 (by omega)).trans ((ups_r e20 (by omega)).trans (hf22 _ _ (by omega))))
                refine And.intro (fun h46 => ?_) (fun h46 => ?_)
                · skip
                  refine B rfl ?_
                  refine And.intro (by omega) ?_
                  refine And.intro (by omega) ?_
                  intro σ47 e48
                  refine And.intro (by omega) ?_
                  show WP_ X G Q 0 0 ad SHS_ σ47 22 [(42, 86), (9, 0), (9, 0), (0, a2), (0, a3), (0, a4), (1, Int.tmod ((1103515245 * v6) + 12345) 2147483648), (9, 0), (0, v8 + 1), (0, 0)] []
                  refine wdrop_ (L' := [(42, 86), (9, 0), (9, 0), (0, a2), (0, a3), (0, a4), (1, Int.tmod ((1103515245 * v6) + 12345) 2147483648), (9, 0), (0, v8 + 1), (9, 0)]) ⟨Or.inr rfl, ⟨Or.inl rfl, ⟨Or.inl rfl, ⟨Or.inr rfl, ⟨Or.inr rfl, ⟨Or.inr rfl, ⟨Or.inr rfl, ⟨Or.inl rfl, ⟨Or.inr rfl, ⟨Or.inl rfl, trivial⟩⟩⟩⟩⟩⟩⟩⟩⟩⟩ ?_
                  have t49 : σ47 86 32 = z17 + 0 := (((ups_r e48 (by omega)).trans (ups_r e32 (by omega)))).trans (ups_v e20)
                  have t50 : σ47 86 33 = z21 + 0 := ((ups_r e48 (by omega))).trans (ups_v e32)
                  have t51 : σ47 86 34 = z33 + 0 := ups_v e48
                  exact ih_22 (Int.tmod ((1103515245 * v6) + 12345) 2147483648) (v8 + 1) σ47 (fun k j hk => ((ups_r e48 (by omega)).trans ((ups_r e32 (by omega)).trans ((ups_r e20 (by omega)).trans (hf22 _ _ (by omega)))))) (by show 0 ≤ (Int.tmod ((1103515245 * v6) + 12345) 2147483648); omega) (by show (Int.tmod ((1103515245 * v6) + 12345) 2147483648) ≤ 2147483668; omega) (by show a3 ≤ (v8 + 1); omega) (by show (v8 + 1) ≤ 2000; omega) (by show (v8 + 1) ≤ a3 + a4; omega) (by show 0 ≤ σ47 86 32; omega) (by show σ47 86 32 ≤ (v8 + 1) - a3; omega) (by show 0 ≤ σ47 86 33; omega) (by show σ47 86 33 ≤ (v8 + 1) - a3; omega) (by show 0 ≤ σ47 86 34; omega) (by show σ47 86 34 ≤ (v8 + 1) - a3; omega) (by omega)
                · skip
                  show WP_ X G Q 0 0 ad SHS_ σ31 160 [(42, 86), (9, 0), (9, 0), (0, a2), (0, a3), (0, a4), (1, Int.tmod ((1103515245 * v6) + 12345) 2147483648), (9, 0), (0, v8), (0, 0)] [(0, z33), (42, 86)]
                  refine B rfl ?_
                  refine B rfl ?_
                  refine And.intro (by omega) ?_
                  refine And.intro (by omega) ?_
                  intro σ52 e53
                  refine And.intro (by omega) ?_
                  show WP_ X G Q 0 0 ad SHS_ σ52 22 [(42, 86), (9, 0), (9, 0), (0, a2), (0, a3), (0, a4), (1, Int.tmod ((1103515245 * v6) + 12345) 2147483648), (9, 0), (0, v8 + 1), (0, 0)] []
                  refine wdrop_ (L' := [(42, 86), (9, 0), (9, 0), (0, a2), (0, a3), (0, a4), (1, Int.tmod ((1103515245 * v6) + 12345) 2147483648), (9, 0), (0, v8 + 1), (9, 0)]) ⟨Or.inr rfl, ⟨Or.inl rfl, ⟨Or.inl rfl, ⟨Or.inr rfl, ⟨Or.inr rfl, ⟨Or.inr rfl, ⟨Or.inr rfl, ⟨Or.inl rfl, ⟨Or.inr rfl, ⟨Or.inl rfl, trivial⟩⟩⟩⟩⟩⟩⟩⟩⟩⟩ ?_
                  have t54 : σ52 86 32 = z17 + 0 := (((ups_r e53 (by omega)).trans (ups_r e32 (by omega)))).trans (ups_v e20)
                  have t55 : σ52 86 33 = z21 + 0 := ((ups_r e53 (by omega))).trans (ups_v e32)
                  have t56 : σ52 86 34 = z33 + 1 := ups_v e53
                  exact ih_22 (Int.tmod ((1103515245 * v6) + 12345) 2147483648) (v8 + 1) σ52 (fun k j hk => ((ups_r e53 (by omega)).trans ((ups_r e32 (by omega)).trans ((ups_r e20 (by omega)).trans (hf22 _ _ (by omega)))))) (by show 0 ≤ (Int.tmod ((1103515245 * v6) + 12345) 2147483648); omega) (by show (Int.tmod ((1103515245 * v6) + 12345) 2147483648) ≤ 2147483668; omega) (by show a3 ≤ (v8 + 1); omega) (by show (v8 + 1) ≤ 2000; omega) (by show (v8 + 1) ≤ a3 + a4; omega) (by show 0 ≤ σ52 86 32; omega) (by show σ52 86 32 ≤ (v8 + 1) - a3; omega) (by show 0 ≤ σ52 86 33; omega) (by show σ52 86 33 ≤ (v8 + 1) - a3; omega) (by show 0 ≤ σ52 86 34; omega) (by show σ52 86 34 ≤ (v8 + 1) - a3; omega) (by omega)
            · skip
              show WP_ X G Q 0 0 ad SHS_ σ19 126 [(42, 86), (9, 0), (9, 0), (0, a2), (0, a3), (0, a4), (1, Int.tmod ((1103515245 * v6) + 12345) 2147483648), (9, 0), (0, v8), (0, 0)] [(0, z21), (42, 86)]
              refine B rfl ?_
              refine B rfl ?_
              refine And.intro (by omega) ?_
              refine And.intro (by omega) ?_
              intro σ57 e58
              intro z59 ez59 hz59
              have hz59 : (0 : Int) ≤ z59 ∧ z59 ≤ (100 : Int) := hz59
              try have t60 : σ57 86 34 = τ22 86 34 := ((ups_r e58 (by omega)).trans (ups_r e20 (by omega)))
              refine And.intro (fun h61 => (by exfalso; omega)) (fun h61 => ?_)
              show WP_ X G Q 0 0 ad SHS_ σ57 145 [(42, 86), (9, 0), (9, 0), (0, a2), (0, a3), (0, a4), (1, Int.tmod ((1103515245 * v6) + 12345) 2147483648), (9, 0), (0, v8), (0, 0)] [(0, z59), (42, 86)]
              refine B rfl ?_
              refine And.intro (fun h62 => ?_) (fun h62 => ?_)
              · skip
                refine B rfl ?_
                refine And.intro (by omega) ?_
                refine And.intro (by omega) ?_
                intro σ63 e64
                refine And.intro (by omega) ?_
                show WP_ X G Q 0 0 ad SHS_ σ63 22 [(42, 86), (9, 0), (9, 0), (0, a2), (0, a3), (0, a4), (1, Int.tmod ((1103515245 * v6) + 12345) 2147483648), (9, 0), (0, v8 + 1), (0, 0)] []
                refine wdrop_ (L' := [(42, 86), (9, 0), (9, 0), (0, a2), (0, a3), (0, a4), (1, Int.tmod ((1103515245 * v6) + 12345) 2147483648), (9, 0), (0, v8 + 1), (9, 0)]) ⟨Or.inr rfl, ⟨Or.inl rfl, ⟨Or.inl rfl, ⟨Or.inr rfl, ⟨Or.inr rfl, ⟨Or.inr rfl, ⟨Or.inr rfl, ⟨Or.inl rfl, ⟨Or.inr rfl, ⟨Or.inl rfl, trivial⟩⟩⟩⟩⟩⟩⟩⟩⟩⟩ ?_
                have t65 : σ63 86 32 = z17 + 0 := (((ups_r e64 (by omega)).trans (ups_r e58 (by omega)))).trans (ups_v e20)
                have t66 : σ63 86 33 = z21 + 1 := ((ups_r e64 (by omega))).trans (ups_v e58)
                have t67 : σ63 86 34 = z59 + 0 := ups_v e64
                exact ih_22 (Int.tmod ((1103515245 * v6) + 12345) 2147483648) (v8 + 1) σ63 (fun k j hk => ((ups_r e64 (by omega)).trans ((ups_r e58 (by omega)).trans ((ups_r e20 (by omega)).trans (hf22 _ _ (by omega)))))) (by show 0 ≤ (Int.tmod ((1103515245 * v6) + 12345) 2147483648); omega) (by show (Int.tmod ((1103515245 * v6) + 12345) 2147483648) ≤ 2147483668; omega) (by show a3 ≤ (v8 + 1); omega) (by show (v8 + 1) ≤ 2000; omega) (by show (v8 + 1) ≤ a3 + a4; omega) (by show 0 ≤ σ63 86 32; omega) (by show σ63 86 32 ≤ (v8 + 1) - a3; omega) (by show 0 ≤ σ63 86 33; omega) (by show σ63 86 33 ≤ (v8 + 1) - a3; omega) (by show 0 ≤ σ63 86 34; omega) (by show σ63 86 34 ≤ (v8 + 1) - a3; omega) (by omega)
              · skip
                show WP_ X G Q 0 0 ad SHS_ σ57 150 [(42, 86), (9, 0), (9, 0), (0, a2), (0, a3), (0, a4), (1, Int.tmod ((1103515245 * v6) + 12345) 2147483648), (9, 0), (0, v8), (0, 0)] [(0, z59), (42, 86)]
                refine B rfl ?_
                refine Exists.intro (a2, v8) (And.intro rfl (And.intro (And.intro (by show 0 ≤ a2; omega) (And.intro (by show a2 ≤ 2; omega) (And.intro (by show 0 ≤ v8; omega) (by show v8 ≤ 1999; omega)))) ?_))
                rintro z68 m_ h69
                obtain rfl : σ57 = m_ := h69.2
                have h70 : (z68 = 1 ∧ σ57 96 (2000 * a2 + v8) = 0) ∨ (z68 = 0 ∧ σ57 96 (2000 * a2 + v8) ≠ 0) := h69.1
                try have t71 : σ57 96 (2000 * a2 + v8) = σ 96 (2000 * a2 + v8) := ((ups_r e58 (by omega)).trans ((ups_r e20 (by omega)).trans (hf22 _ _ (by omega))))
                refine And.intro (fun h72 => ?_) (fun h72 => ?_)
                · skip
                  refine B rfl ?_
                  refine And.intro (by omega) ?_
                  refine And.intro (by omega) ?_
                  intro σ73 e74
                  refine And.intro (by omega) ?_
                  show WP_ X G Q 0 0 ad SHS_ σ73 22 [(42, 86), (9, 0), (9, 0), (0, a2), (0, a3), (0, a4), (1, Int.tmod ((1103515245 * v6) + 12345) 2147483648), (9, 0), (0, v8 + 1), (0, 0)] []
                  refine wdrop_ (L' := [(42, 86), (9, 0), (9, 0), (0, a2), (0, a3), (0, a4), (1, Int.tmod ((1103515245 * v6) + 12345) 2147483648), (9, 0), (0, v8 + 1), (9, 0)]) ⟨Or.inr rfl, ⟨Or.inl rfl, ⟨Or.inl rfl, ⟨Or.inr rfl, ⟨Or.inr rfl, ⟨Or.inr rfl, ⟨Or.inr rfl, ⟨Or.inl rfl, ⟨Or.inr rfl, ⟨Or.inl rfl, trivial⟩⟩⟩⟩⟩⟩⟩⟩⟩⟩ ?_
                  have t75 : σ73 86 32 = z17 + 0 := (((ups_r e74 (by omega)).trans (ups_r e58 (by omega)))).trans (ups_v e20)
                  have t76 : σ73 86 33 = z21 + 1 := ((ups_r e74 (by omega))).trans (ups_v e58)
                  have t77 : σ73 86 34 = z59 + 0 := ups_v e74
                  exact ih_22 (Int.tmod ((1103515245 * v6) + 12345) 2147483648) (v8 + 1) σ73 (fun k j hk => ((ups_r e74 (by omega)).trans ((ups_r e58 (by omega)).trans ((ups_r e20 (by omega)).trans (hf22 _ _ (by omega)))))) (by show 0 ≤ (Int.tmod ((1103515245 * v6) + 12345) 2147483648); omega) (by show (Int.tmod ((1103515245 * v6) + 12345) 2147483648) ≤ 2147483668; omega) (by show a3 ≤ (v8 + 1); omega) (by show (v8 + 1) ≤ 2000; omega) (by show (v8 + 1) ≤ a3 + a4; omega) (by show 0 ≤ σ73 86 32; omega) (by show σ73 86 32 ≤ (v8 + 1) - a3; omega) (by show 0 ≤ σ73 86 33; omega) (by show σ73 86 33 ≤ (v8 + 1) - a3; omega) (by show 0 ≤ σ73 86 34; omega) (by show σ73 86 34 ≤ (v8 + 1) - a3; omega) (by omega)
                · skip
                  show WP_ X G Q 0 0 ad SHS_ σ57 160 [(42, 86), (9, 0), (9, 0), (0, a2), (0, a3), (0, a4), (1, Int.tmod ((1103515245 * v6) + 12345) 2147483648), (9, 0), (0, v8), (0, 0)] [(0, z59), (42, 86)]
                  refine B rfl ?_
                  refine B rfl ?_
                  refine And.intro (by omega) ?_
                  refine And.intro (by omega) ?_
                  intro σ78 e79
                  refine And.intro (by omega) ?_
                  show WP_ X G Q 0 0 ad SHS_ σ78 22 [(42, 86), (9, 0), (9, 0), (0, a2), (0, a3), (0, a4), (1, Int.tmod ((1103515245 * v6) + 12345) 2147483648), (9, 0), (0, v8 + 1), (0, 0)] []
                  refine wdrop_ (L' := [(42, 86), (9, 0), (9, 0), (0, a2), (0, a3), (0, a4), (1, Int.tmod ((1103515245 * v6) + 12345) 2147483648), (9, 0), (0, v8 + 1), (9, 0)]) ⟨Or.inr rfl, ⟨Or.inl rfl, ⟨Or.inl rfl, ⟨Or.inr rfl, ⟨Or.inr rfl, ⟨Or.inr rfl, ⟨Or.inr rfl, ⟨Or.inl rfl, ⟨Or.inr rfl, ⟨Or.inl rfl, trivial⟩⟩⟩⟩⟩⟩⟩⟩⟩⟩ ?_
                  have t80 : σ78 86 32 = z17 + 0 := (((ups_r e79 (by omega)).trans (ups_r e58 (by omega)))).trans (ups_v e20)
                  have t81 : σ78 86 33 = z21 + 1 := ((ups_r e79 (by omega))).trans (ups_v e58)
                  have t82 : σ78 86 34 = z59 + 1 := ups_v e79
                  exact ih_22 (Int.tmod ((1103515245 * v6) + 12345) 2147483648) (v8 + 1) σ78 (fun k j hk => ((ups_r e79 (by omega)).trans ((ups_r e58 (by omega)).trans ((ups_r e20 (by omega)).trans (hf22 _ _ (by omega)))))) (by show 0 ≤ (Int.tmod ((1103515245 * v6) + 12345) 2147483648); omega) (by show (Int.tmod ((1103515245 * v6) + 12345) 2147483648) ≤ 2147483668; omega) (by show a3 ≤ (v8 + 1); omega) (by show (v8 + 1) ≤ 2000; omega) (by show (v8 + 1) ≤ a3 + a4; omega) (by show 0 ≤ σ78 86 32; omega) (by show σ78 86 32 ≤ (v8 + 1) - a3; omega) (by show 0 ≤ σ78 86 33; omega) (by show σ78 86 33 ≤ (v8 + 1) - a3; omega) (by show 0 ≤ σ78 86 34; omega) (by show σ78 86 34 ≤ (v8 + 1) - a3; omega) (by omega)
          · simp only [lcmp_lt0, lcmp_ge0, lcmp_gt0, lcmp_le0, lcmp_eq0] at h16
            show WP_ X G Q 0 0 ad SHS_ τ22 77 [(42, 86), (9, 0), (9, 0), (0, a2), (0, a3), (0, a4), (1, Int.tmod ((1103515245 * v6) + 12345) 2147483648), (9, 0), (0, v8), (9, 0)] []
            refine B rfl ?_
            refine B rfl ?_
            intro z83 ez83 hz83
            have hz83 : (0 : Int) ≤ z83 ∧ z83 ≤ (100 : Int) := hz83
            refine And.intro (fun h84 => (by exfalso; omega)) (fun h84 => ?_)
            show WP_ X G Q 0 0 ad SHS_ τ22 94 [(42, 86), (9, 0), (9, 0), (0, a2), (0, a3), (0, a4), (1, Int.tmod ((1103515245 * v6) + 12345) 2147483648), (9, 0), (0, v8), (0, 1)] [(0, z83), (42, 86)]
            refine B rfl ?_
            refine B rfl ?_
            refine And.intro (by omega) ?_
            refine And.intro (by omega) ?_
            intro σ85 e86
            intro z87 ez87 hz87
            have hz87 : (0 : Int) ≤ z87 ∧ z87 ≤ (100 : Int) := hz87
            try have t88 : σ85 86 33 = τ22 86 33 := (ups_r e86 (by omega))
            refine And.intro (fun h89 => ?_) (fun h89 => (by exfalso; omega))
            refine B rfl ?_
            refine And.intro (by omega) ?_
            refine And.intro (by omega) ?_
            intro σ90 e91
            intro z92 ez92 hz92
            have hz92 : (0 : Int) ≤ z92 ∧ z92 ≤ (100 : Int) := hz92
            try have t93 : σ90 86 34 = τ22 86 34 := ((ups_r e91 (by omega)).trans (ups_r e86 (by omega)))
            refine And.intro (fun h94 => ?_) (fun h94 => (by exfalso; omega))
            refine B rfl ?_
            refine And.intro (by omega) ?_
            refine And.intro (by omega) ?_
            intro σ95 e96
            refine And.intro (by omega) ?_
            show WP_ X G Q 0 0 ad SHS_ σ95 22 [(42, 86), (9, 0), (9, 0), (0, a2), (0, a3), (0, a4), (1, Int.tmod ((1103515245 * v6) + 12345) 2147483648), (9, 0), (0, v8 + 1), (0, 1)] []
            refine wdrop_ (L' := [(42, 86), (9, 0), (9, 0), (0, a2), (0, a3), (0, a4), (1, Int.tmod ((1103515245 * v6) + 12345) 2147483648), (9, 0), (0, v8 + 1), (9, 0)]) ⟨Or.inr rfl, ⟨Or.inl rfl, ⟨Or.inl rfl, ⟨Or.inr rfl, ⟨Or.inr rfl, ⟨Or.inr rfl, ⟨Or.inr rfl, ⟨Or.inl rfl, ⟨Or.inr rfl, ⟨Or.inl rfl, trivial⟩⟩⟩⟩⟩⟩⟩⟩⟩⟩ ?_
            have t97 : σ95 86 32 = z83 + 1 := (((ups_r e96 (by omega)).trans (ups_r e91 (by omega)))).trans (ups_v e86)
            have t98 : σ95 86 33 = z87 + 0 := ((ups_r e96 (by omega))).trans (ups_v e91)
            have t99 : σ95 86 34 = z92 + 0 := ups_v e96
            exact ih_22 (Int.tmod ((1103515245 * v6) + 12345) 2147483648) (v8 + 1) σ95 (fun k j hk => ((ups_r e96 (by omega)).trans ((ups_r e91 (by omega)).trans ((ups_r e86 (by omega)).trans (hf22 _ _ (by omega)))))) (by show 0 ≤ (Int.tmod ((1103515245 * v6) + 12345) 2147483648); omega) (by show (Int.tmod ((1103515245 * v6) + 12345) 2147483648) ≤ 2147483668; omega) (by show a3 ≤ (v8 + 1); omega) (by show (v8 + 1) ≤ 2000; omega) (by show (v8 + 1) ≤ a3 + a4; omega) (by show 0 ≤ σ95 86 32; omega) (by show σ95 86 32 ≤ (v8 + 1) - a3; omega) (by show 0 ≤ σ95 86 33; omega) (by show σ95 86 33 ≤ (v8 + 1) - a3; omega) (by show 0 ≤ σ95 86 34; omega) (by show σ95 86 34 ≤ (v8 + 1) - a3; omega) (by omega)
  have t100 : σ5 86 32 = 0 := (((ups_r e6 (by omega)).trans (ups_r e4 (by omega)))).trans (ups_v e2)
  have t101 : σ5 86 33 = 0 := ((ups_r e6 (by omega))).trans (ups_v e4)
  have t102 : σ5 86 34 = 0 := ups_v e6
  exact lp_22 ((2000 - a3 : Int).toNat + 1) a1 a3 σ5 (fun k j hk => ((ups_r e6 (by omega)).trans ((ups_r e4 (by omega)).trans (ups_r e2 (by omega))))) (by show 0 ≤ a1; omega) (by show a1 ≤ 2147483668; omega) (by show a3 ≤ a3; omega) (by show a3 ≤ 2000; omega) (by show a3 ≤ a3 + a4; omega) (by show 0 ≤ σ5 86 32; omega) (by show σ5 86 32 ≤ a3 - a3; omega) (by show 0 ≤ σ5 86 33; omega) (by show σ5 86 33 ≤ a3 - a3; omega) (by show 0 ≤ σ5 86 34; omega) (by show σ5 86 34 ≤ a3 - a3; omega) (by omega)
def as_G_X11_drawn : Int × Int × Int × Int → List Sv_t := fun a => [(42, 86), (0, a.1), (0, a.2.1), (0, a.2.2.1), (0, a.2.2.2)]
def pre_G_X11_drawn : Int × Int × Int × Int → Me_t → Prop := fun a σ => (MI σ)
def post_G_X11_drawn : Int × Int × Int × Int → Me_t → Int → Me_t → Prop := fun a σ z σ' => (∀ k j : Int, ¬ (k = 86 ∨ (93 ≤ k ∧ k ≤ 96)) → σ' k j = σ k j)
set_option maxHeartbeats 1500000 in
set_option maxRecDepth 100000 in
theorem ct_G_X11_drawn (l : Launch) : CT_ l yX11_drawn cX11_drawn 5 (some .int) 4 95 as_G_X11_drawn (rmI_) pre_G_X11_drawn post_G_X11_drawn := by
  refine ct_of (by decide) (fun _ => Nat.le_of_ble_eq_true rfl) ?_
  intro X G Q ad σ a hl hR E hG R hM hv hp
  obtain ⟨a1, a2, a3, a4⟩ := a
  have r_a1 : -2147483648 ≤ a1 ∧ a1 ≤ 2147483647 := hv (0, a1) (List.mem_of_getElem? (i := 1) rfl)
  have r_a2 : -2147483648 ≤ a2 ∧ a2 ≤ 2147483647 := hv (0, a2) (List.mem_of_getElem? (i := 2) rfl)
  have r_a3 : -2147483648 ≤ a3 ∧ a3 ≤ 2147483647 := hv (0, a3) (List.mem_of_getElem? (i := 3) rfl)
  have r_a4 : -2147483648 ≤ a4 ∧ a4 ≤ 2147483647 := hv (0, a4) (List.mem_of_getElem? (i := 4) rfl)
  have hp0 : MI σ := hp
  have B := @bk_ X G Q 0 0 ad SHS_ RX11 cX11_drawn 5 (some .int) flX11 plX11 knX11 [(184, 1, TR_ as_G_X11_isWar (rmI_) pre_G_X11_isWar post_G_X11_isWar), (963, 1, TR_ as_G_X11_isSeed (rmI_) pre_G_X11_isSeed post_G_X11_isSeed), (179, 1, TR_ as_G_X11_isDay (rmI_) pre_G_X11_isDay post_G_X11_isDay), (159, 3, TR_ as_G_X11_in (rmI_) pre_G_X11_in post_G_X11_in), (538, 1, TR_ as_G_X11_lay (rmV_) pre_G_X11_lay post_G_X11_lay), (968, 5, TR_ as_G_X11_goRain (rmV_) pre_G_X11_goRain post_G_X11_goRain)] _ _ none kX11_drawn [] flX11_ok plX11_ok knX11_ok eX11_drawn oX11_drawn
    (List.forall_mem_cons.mpr ⟨cok_v (t := 32) (c := 11) (N := 39) (n := 0) (idx := 92) E (ct_G_X11_isWar X.2.1) (by rw [hR]; decide) (Nat.zero_le _) (Nat.zero_le _) hG rfl rfl ⟨rfl, by decide, by decide, by decide⟩ (fun _ => ⟨_, _, rfl, rfl⟩) wl_X11_92 wi_X11_isWar ws_X11_isWar wn_X11 wc_X11_isWar, List.forall_mem_cons.mpr ⟨cok_s (n := 1) (idx := 481) E (ct_G_X11_isSeed X.2.1) (by rw [hR]; decide) (Nat.zero_le _) (Nat.zero_le _) hG ⟨by decide, by decide, by decide⟩ (fun _ => rfl) wl_X11_481 wt_X11_isSeed wn_X11 wc_X11_isSeed, List.forall_mem_cons.mpr ⟨cok_s (n := 1) (idx := 89) E (ct_G_X11_isDay X.2.1) (by rw [hR]; decide) (Nat.zero_le _) (Nat.zero_le _) hG ⟨by decide, by decide, by decide⟩ (fun _ => rfl) wl_X11_89 wt_X11_isDay wn_X11 wc_X11_isDay, List.forall_mem_cons.mpr ⟨cok_s (n := 3) (idx := 79) E (ct_G_X11_in X.2.1) (by rw [hR]; decide) (Nat.zero_le _) (Nat.zero_le _) hG ⟨by decide, by decide, by decide⟩ (fun _ => rfl) wl_X11_79 wt_X11_in wn_X11 wc_X11_in, List.forall_mem_cons.mpr ⟨cok_v (t := 32) (c := 11) (N := 39) (n := 0) (idx := 269) E (ct_G_X11_lay X.2.1) (by rw [hR]; decide) (Nat.zero_le _) (Nat.zero_le _) hG rfl rfl ⟨rfl, by decide, by decide, by decide⟩ (fun _ => ⟨_, _, rfl, rfl⟩) wl_X11_269 wi_X11_lay ws_X11_lay wn_X11 wc_X11_lay, List.forall_mem_cons.mpr ⟨cok_v (t := 32) (c := 11) (N := 39) (n := 4) (idx := 484) E (ct_G_X11_goRain X.2.1) (by rw [hR]; decide) (Nat.zero_le _) (Nat.zero_le _) hG rfl rfl ⟨rfl, by decide, by decide, by decide⟩ (fun _ => ⟨_, _, rfl, rfl⟩) wl_X11_484 wi_X11_goRain ws_X11_goRain wn_X11 wc_X11_goRain, fun _ h => absurd h List.not_mem_nil⟩⟩⟩⟩⟩⟩) R sok_no E
  show WP_ X G Q 0 0 ad SHS_ σ 0 [(42, 86), (0, a1), (0, a2), (0, a3), (0, a4)] []
  refine B rfl ?_
  refine Exists.intro () (And.intro rfl (And.intro True.intro ?_))
  rintro z1 m_ h2
  obtain rfl : σ = m_ := h2.2
  have h3 : 0 ≤ z1 ∧ z1 ≤ 1 := h2.1
  refine And.intro (fun h4 => ?_) (fun h4 => ?_)
  · skip
    refine B rfl ?_
    refine Exists.intro _ (And.intro rfl ?_)
    exact (fun k j hk => rfl)
  · skip
    refine Exists.intro a1 (And.intro rfl (And.intro True.intro ?_))
    rintro z5 m_ h6
    obtain rfl : σ = m_ := h6.2
    have h7 : (z5 = 1 ∧ 0 ≤ a1 ∧ a1 ≤ 2000000000) ∨ z5 = 0 := h6.1
    refine And.intro (fun h8 => ?_) (fun h8 => ?_)
    · skip
      refine B rfl ?_
      refine Exists.intro _ (And.intro rfl ?_)
      exact (fun k j hk => rfl)
    · skip
      refine Exists.intro a2 (And.intro rfl (And.intro True.intro ?_))
      rintro z9 m_ h10
      obtain rfl : σ = m_ := h10.2
      have h11 : (z9 = 1 ∧ 0 ≤ a2 ∧ a2 ≤ 1999) ∨ z9 = 0 := h10.1
      refine And.intro (fun h12 => ?_) (fun h12 => ?_)
      · skip
        refine B rfl ?_
        refine Exists.intro _ (And.intro rfl ?_)
        exact (fun k j hk => rfl)
      · skip
        refine Exists.intro (a3, 1, 100) (And.intro rfl (And.intro True.intro ?_))
        rintro z13 m_ h14
        obtain rfl : σ = m_ := h14.2
        have h15 : (z13 = 1 ∧ 1 ≤ a3 ∧ a3 ≤ 100) ∨ (z13 = 0 ∧ ¬ (1 ≤ a3 ∧ a3 ≤ 100)) := h14.1
        refine And.intro (fun h16 => ?_) (fun h16 => ?_)
        · skip
          refine B rfl ?_
          refine Exists.intro _ (And.intro rfl ?_)
          exact (fun k j hk => rfl)
        · skip
          refine Exists.intro (a4, 0, 1) (And.intro rfl (And.intro True.intro ?_))
          rintro z17 m_ h18
          obtain rfl : σ = m_ := h18.2
          have h19 : (z17 = 1 ∧ 0 ≤ a4 ∧ a4 ≤ 1) ∨ (z17 = 0 ∧ ¬ (0 ≤ a4 ∧ a4 ≤ 1)) := h18.1
          refine And.intro (fun h20 => ?_) (fun h20 => ?_)
          · skip
            refine B rfl ?_
            refine Exists.intro () (And.intro rfl (And.intro hp0 ?_))
            intro z21 σ23 h22
            have f24 : ∀ k j : Int, ¬ (93 ≤ k ∧ k ≤ 96) → σ23 k j = σ k j := h22.2
            have h25 : LY σ23 := h22.1
            have p26 : MI σ23 := MI_fr hp0 (fun k j hk => (f24 _ _ (by omega)))
            have p27 : BW σ23 87 := (p26).1.1
            refine Exists.intro (a1, (-1), a2, a3) (And.intro rfl (And.intro (And.intro p27 (And.intro (by show 0 ≤ a1; omega) (And.intro (by show a1 ≤ 2147483668; omega) (And.intro (by show -1 ≤ (-1); omega) (And.intro (by show (-1) ≤ 2; omega) (And.intro (by show 0 ≤ a2; omega) (And.intro (by show a2 ≤ 1999; omega) (And.intro (by show 1 ≤ a3; omega) (by show a3 ≤ 100; omega))))))))) ?_))
            intro z28 σ30 h29
            have f31 : ∀ k j : Int, ¬ (k = 86) → σ30 k j = σ23 k j := h29
            refine And.intro (fun h32 => ?_) (fun h32 => ?_)
            · skip
              refine B rfl ?_
              intro z33 ez33 hz33
              have hz33 : (0 : Int) ≤ z33 ∧ z33 ≤ (100 : Int) := hz33
              try have t34 : σ30 86 33 = σ 86 33 := ((f31 _ _ (by omega)).trans (f24 _ _ (by omega)))
              refine Exists.intro _ (And.intro rfl ?_)
              exact (fun k j hk => ((f31 _ _ (by omega)).trans (f24 _ _ (by omega))))
            · skip
              intro z35 ez35 hz35
              have hz35 : (0 : Int) ≤ z35 ∧ z35 ≤ (100 : Int) := hz35
              try have t36 : σ30 86 32 = σ 86 32 := ((f31 _ _ (by omega)).trans (f24 _ _ (by omega)))
              refine B rfl ?_
              refine Exists.intro _ (And.intro rfl ?_)
              exact (fun k j hk => ((f31 _ _ (by omega)).trans (f24 _ _ (by omega))))
          · skip
            refine Exists.intro _ (And.intro rfl ?_)
            exact (fun k j hk => rfl)
def as_G_X11_luck : Int × Int × Int × Int × Int → List Sv_t := fun a => [(42, 86), (0, a.1), (0, a.2.1), (0, a.2.2.1), (0, a.2.2.2.1), (0, a.2.2.2.2)]
def pre_G_X11_luck : Int × Int × Int × Int × Int → Me_t → Prop := fun a σ => (MI σ)
def post_G_X11_luck : Int × Int × Int × Int × Int → Me_t → Int → Me_t → Prop := fun a σ z σ' => (∀ k j : Int, ¬ (k = 86 ∨ (93 ≤ k ∧ k ≤ 96)) → σ' k j = σ k j)
set_option maxHeartbeats 1500000 in
set_option maxRecDepth 100000 in
theorem ct_G_X11_luck (l : Launch) : CT_ l yX11_luck cX11_luck 8 (some .int) 4 95 as_G_X11_luck (rmI_) pre_G_X11_luck post_G_X11_luck := by
  refine ct_of (by decide) (fun _ => Nat.le_of_ble_eq_true rfl) ?_
  intro X G Q ad σ a hl hR E hG R hM hv hp
  obtain ⟨a1, a2, a3, a4, a5⟩ := a
  have r_a1 : -2147483648 ≤ a1 ∧ a1 ≤ 2147483647 := hv (0, a1) (List.mem_of_getElem? (i := 1) rfl)
  have r_a2 : -2147483648 ≤ a2 ∧ a2 ≤ 2147483647 := hv (0, a2) (List.mem_of_getElem? (i := 2) rfl)
  have r_a3 : -2147483648 ≤ a3 ∧ a3 ≤ 2147483647 := hv (0, a3) (List.mem_of_getElem? (i := 3) rfl)
  have r_a4 : -2147483648 ≤ a4 ∧ a4 ≤ 2147483647 := hv (0, a4) (List.mem_of_getElem? (i := 4) rfl)
  have r_a5 : -2147483648 ≤ a5 ∧ a5 ≤ 2147483647 := hv (0, a5) (List.mem_of_getElem? (i := 5) rfl)
  have hp0 : MI σ := hp
  have B := @bk_ X G Q 0 0 ad SHS_ RX11 cX11_luck 8 (some .int) flX11 plX11 knX11 [(963, 1, TR_ as_G_X11_isSeed (rmI_) pre_G_X11_isSeed post_G_X11_isSeed), (159, 3, TR_ as_G_X11_in (rmI_) pre_G_X11_in post_G_X11_in), (166, 2, TR_ as_G_X11_isLand (rmI_) pre_G_X11_isLand post_G_X11_isLand), (179, 1, TR_ as_G_X11_isDay (rmI_) pre_G_X11_isDay post_G_X11_isDay), (538, 1, TR_ as_G_X11_lay (rmV_) pre_G_X11_lay post_G_X11_lay), (968, 5, TR_ as_G_X11_goRain (rmV_) pre_G_X11_goRain post_G_X11_goRain)] _ _ none kX11_luck [7, 19, 28, 37, 50, 63, 69, 93] flX11_ok plX11_ok knX11_ok eX11_luck oX11_luck
    (List.forall_mem_cons.mpr ⟨cok_s (n := 1) (idx := 481) E (ct_G_X11_isSeed X.2.1) (by rw [hR]; decide) (Nat.zero_le _) (Nat.zero_le _) hG ⟨by decide, by decide, by decide⟩ (fun _ => rfl) wl_X11_481 wt_X11_isSeed wn_X11 wc_X11_isSeed, List.forall_mem_cons.mpr ⟨cok_s (n := 3) (idx := 79) E (ct_G_X11_in X.2.1) (by rw [hR]; decide) (Nat.zero_le _) (Nat.zero_le _) hG ⟨by decide, by decide, by decide⟩ (fun _ => rfl) wl_X11_79 wt_X11_in wn_X11 wc_X11_in, List.forall_mem_cons.mpr ⟨cok_v (t := 32) (c := 11) (N := 39) (n := 1) (idx := 83) E (ct_G_X11_isLand X.2.1) (by rw [hR]; decide) (Nat.zero_le _) (Nat.zero_le _) hG rfl rfl ⟨rfl, by decide, by decide, by decide⟩ (fun _ => ⟨_, _, rfl, rfl⟩) wl_X11_83 wi_X11_isLand ws_X11_isLand wn_X11 wc_X11_isLand, List.forall_mem_cons.mpr ⟨cok_s (n := 1) (idx := 89) E (ct_G_X11_isDay X.2.1) (by rw [hR]; decide) (Nat.zero_le _) (Nat.zero_le _) hG ⟨by decide, by decide, by decide⟩ (fun _ => rfl) wl_X11_89 wt_X11_isDay wn_X11 wc_X11_isDay, List.forall_mem_cons.mpr ⟨cok_v (t := 32) (c := 11) (N := 39) (n := 0) (idx := 269) E (ct_G_X11_lay X.2.1) (by rw [hR]; decide) (Nat.zero_le _) (Nat.zero_le _) hG rfl rfl ⟨rfl, by decide, by decide, by decide⟩ (fun _ => ⟨_, _, rfl, rfl⟩) wl_X11_269 wi_X11_lay ws_X11_lay wn_X11 wc_X11_lay, List.forall_mem_cons.mpr ⟨cok_v (t := 32) (c := 11) (N := 39) (n := 4) (idx := 484) E (ct_G_X11_goRain X.2.1) (by rw [hR]; decide) (Nat.zero_le _) (Nat.zero_le _) hG rfl rfl ⟨rfl, by decide, by decide, by decide⟩ (fun _ => ⟨_, _, rfl, rfl⟩) wl_X11_484 wi_X11_goRain ws_X11_goRain wn_X11 wc_X11_goRain, fun _ h => absurd h List.not_mem_nil⟩⟩⟩⟩⟩⟩) R sok_no E
  show WP_ X G Q 0 0 ad SHS_ σ 0 [(42, 86), (0, a1), (0, a2), (0, a3), (0, a4), (0, a5), (9, 0), (9, 0)] []
  refine B rfl ?_
  refine Exists.intro a1 (And.intro rfl (And.intro True.intro ?_))
  rintro z1 m_ h2
  obtain rfl : σ = m_ := h2.2
  have h3 : (z1 = 1 ∧ 0 ≤ a1 ∧ a1 ≤ 2000000000) ∨ z1 = 0 := h2.1
  refine And.intro (fun h4 => ?_) (fun h4 => ?_)
  · skip
    refine B rfl ?_
    refine Exists.intro _ (And.intro rfl ?_)
    exact (fun k j hk => rfl)
  · skip
    show WP_ X G Q 0 0 ad SHS_ σ 7 [(42, 86), (0, a1), (0, a2), (0, a3), (0, a4), (0, a5), (9, 0), (9, 0)] []
    refine B rfl ?_
    refine Exists.intro (a2, 1, 20) (And.intro rfl (And.intro True.intro ?_))
    rintro z5 m_ h6
    obtain rfl : σ = m_ := h6.2
    have h7 : (z5 = 1 ∧ 1 ≤ a2 ∧ a2 ≤ 20) ∨ (z5 = 0 ∧ ¬ (1 ≤ a2 ∧ a2 ≤ 20)) := h6.1
    refine And.intro (fun h8 => ?_) (fun h8 => ?_)
    · skip
      refine B rfl ?_
      refine Exists.intro _ (And.intro rfl ?_)
      exact (fun k j hk => rfl)
    · skip
      show WP_ X G Q 0 0 ad SHS_ σ 19 [(42, 86), (0, a1), (0, a2), (0, a3), (0, a4), (0, a5), (9, 0), (9, 0)] []
      refine B rfl ?_
      have p9 : BW σ 87 := (hp0).1.1
      refine Exists.intro a3 (And.intro rfl (And.intro p9 ?_))
      rintro z10 m_ h11
      obtain rfl : σ = m_ := h11.2
      have h12 : (z10 = 1 ∧ 0 ≤ a3 ∧ a3 ≤ 2 ∧ a3 < σ 87 1) ∨ z10 = 0 := h11.1
      refine And.intro (fun h13 => ?_) (fun h13 => ?_)
      · skip
        refine B rfl ?_
        refine Exists.intro _ (And.intro rfl ?_)
        exact (fun k j hk => rfl)
      · skip
        show WP_ X G Q 0 0 ad SHS_ σ 28 [(42, 86), (0, a1), (0, a2), (0, a3), (0, a4), (0, a5), (9, 0), (9, 0)] []
        refine B rfl ?_
        refine Exists.intro a4 (And.intro rfl (And.intro True.intro ?_))
        rintro z14 m_ h15
        obtain rfl : σ = m_ := h15.2
        have h16 : (z14 = 1 ∧ 0 ≤ a4 ∧ a4 ≤ 1999) ∨ z14 = 0 := h15.1
        refine And.intro (fun h17 => ?_) (fun h17 => ?_)
        · skip
          refine B rfl ?_
          refine Exists.intro _ (And.intro rfl ?_)
          exact (fun k j hk => rfl)
        · skip
          show WP_ X G Q 0 0 ad SHS_ σ 37 [(42, 86), (0, a1), (0, a2), (0, a3), (0, a4), (0, a5), (9, 0), (9, 0)] []
          refine B rfl ?_
          refine Exists.intro (a5, 1, 100) (And.intro rfl (And.intro True.intro ?_))
          rintro z18 m_ h19
          obtain rfl : σ = m_ := h19.2
          have h20 : (z18 = 1 ∧ 1 ≤ a5 ∧ a5 ≤ 100) ∨ (z18 = 0 ∧ ¬ (1 ≤ a5 ∧ a5 ≤ 100)) := h19.1
          refine And.intro (fun h21 => ?_) (fun h21 => ?_)
          · skip
            refine B rfl ?_
            refine Exists.intro () (And.intro rfl (And.intro hp0 ?_))
            intro z22 σ24 h23
            have f25 : ∀ k j : Int, ¬ (93 ≤ k ∧ k ≤ 96) → σ24 k j = σ k j := h23.2
            have h26 : LY σ24 := h23.1
            have lp_63 : ∀ (nq_ : Nat) (v6 : Int) (v7 : Int) (τ63 : Me_t), (∀ k j : Int, ¬ (k = 86 ∨ (93 ≤ k ∧ k ≤ 96)) → τ63 k j = σ k j) → (0 ≤ v7) → (v7 ≤ a2) → (0 ≤ v6) → (v6 ≤ v7) → (a2 - v7 : Int).toNat < nq_ → WP_ X G Q 0 0 ad SHS_ τ63 63 [(42, 86), (0, a1), (0, a2), (0, a3), (0, a4), (0, a5), (0, v6), (0, v7)] [] := by
              intro nq_
              induction nq_ with
              | zero => intros; omega
              | succ nq_ ih_63 =>
                intro v6 v7 τ63 hf63 hi63_0 hi63_1 hi63_2 hi63_3 hm63
                refine B rfl ?_
                refine And.intro (fun h27 => ?_) (fun h27 => ?_)
                · skip
                  refine B rfl ?_
                  refine Exists.intro _ (And.intro rfl ?_)
                  exact (fun k j hk => (hf63 _ _ (by omega)))
                · skip
                  show WP_ X G Q 0 0 ad SHS_ τ63 69 [(42, 86), (0, a1), (0, a2), (0, a3), (0, a4), (0, a5), (0, v6), (0, v7)] []
                  refine B rfl ?_
                  refine And.intro (by omega) ?_
                  have p28 : MI τ63 := MI_fr hp0 (fun k j hk => (hf63 _ _ (by omega)))
                  have p29 : BW τ63 87 := (p28).1.1
                  refine Exists.intro (a1 + v7, a3, a4, a5) (And.intro rfl (And.intro (And.intro p29 (And.intro (by show 0 ≤ (a1 + v7); omega) (And.intro (by show (a1 + v7) ≤ 2147483668; omega) (And.intro (by show -1 ≤ a3; omega) (And.intro (by show a3 ≤ 2; omega) (And.intro (by show 0 ≤ a4; omega) (And.intro (by show a4 ≤ 1999; omega) (And.intro (by show 1 ≤ a5; omega) (by show a5 ≤ 100; omega))))))))) ?_))
                  intro z30 σ32 h31
                  have f33 : ∀ k j : Int, ¬ (k = 86) → σ32 k j = τ63 k j := h31
                  intro z34 ez34 hz34
                  have hz34 : (0 : Int) ≤ z34 ∧ z34 ≤ (100 : Int) := hz34
                  try have t35 : σ32 86 34 = σ 86 34 := ((f33 _ _ (by omega)).trans (hf63 _ _ (by omega)))
                  refine And.intro (fun h36 => ?_) (fun h36 => ?_)
                  · skip
                    refine B rfl ?_
                    refine And.intro (by omega) ?_
                    refine And.intro (by omega) ?_
                    exact ih_63 (v6 + 0) (v7 + 1) σ32 (fun k j hk => ((f33 _ _ (by omega)).trans (hf63 _ _ (by omega)))) (by show 0 ≤ (v7 + 1); omega) (by show (v7 + 1) ≤ a2; omega) (by show 0 ≤ (v6 + 0); omega) (by show (v6 + 0) ≤ (v7 + 1); omega) (by omega)
                  · skip
                    show WP_ X G Q 0 0 ad SHS_ σ32 93 [(42, 86), (0, a1), (0, a2), (0, a3), (0, a4), (0, a5), (0, v6), (0, v7)] [(0, v6)]
                    refine B rfl ?_
                    refine B rfl ?_
                    refine And.intro (by omega) ?_
                    refine And.intro (by omega) ?_
                    exact ih_63 (v6 + 1) (v7 + 1) σ32 (fun k j hk => ((f33 _ _ (by omega)).trans (hf63 _ _ (by omega)))) (by show 0 ≤ (v7 + 1); omega) (by show (v7 + 1) ≤ a2; omega) (by show 0 ≤ (v6 + 1); omega) (by show (v6 + 1) ≤ (v7 + 1); omega) (by omega)
            exact lp_63 ((a2 - 0 : Int).toNat + 1) 0 0 σ24 (fun k j hk => (f25 _ _ (by omega))) (by show 0 ≤ 0; omega) (by show 0 ≤ a2; omega) (by show 0 ≤ 0; omega) (by show 0 ≤ 0; omega) (by omega)
          · skip
            show WP_ X G Q 0 0 ad SHS_ σ 50 [(42, 86), (0, a1), (0, a2), (0, a3), (0, a4), (0, a5), (9, 0), (9, 0)] []
            refine B rfl ?_
            refine Exists.intro _ (And.intro rfl ?_)
            exact (fun k j hk => rfl)
def as_G_X11_areSaints : Int × Int × Int × Int × Int → List Sv_t := fun a => [(42, 86), (0, a.1), (0, a.2.1), (0, a.2.2.1), (0, a.2.2.2.1), (0, a.2.2.2.2)]
def pre_G_X11_areSaints : Int × Int × Int × Int × Int → Me_t → Prop := fun a σ => (BW σ 87)
def post_G_X11_areSaints : Int × Int × Int × Int × Int → Me_t → Int → Me_t → Prop := fun a σ z σ' => ((z = 1 ∧ 0 ≤ a.1 ∧ a.1 ≤ 2 ∧ a.1 < σ 87 1 ∧ 0 ≤ a.2.1 ∧ a.2.1 ≤ 7 ∧ 0 ≤ a.2.2.1 ∧ a.2.2.1 ≤ 1999 ∧ 1 ≤ a.2.2.2.1 ∧ a.2.2.2.1 ≤ 20 ∧ 1 ≤ a.2.2.2.2 ∧ a.2.2.2.2 ≤ 9) ∨ z = 0) ∧ (σ = σ')
set_option maxHeartbeats 1500000 in
set_option maxRecDepth 100000 in
theorem ct_G_X11_areSaints (l : Launch) : CT_ l yX11_areSaints cX11_areSaints 6 (some .boolean) 2 48 as_G_X11_areSaints (rmI_) pre_G_X11_areSaints post_G_X11_areSaints := by
  refine ct_of (by decide) (fun _ => Nat.le_of_ble_eq_true rfl) ?_
  intro X G Q ad σ a hl hR E hG R hM hv hp
  obtain ⟨a1, a2, a3, a4, a5⟩ := a
  have r_a1 : -2147483648 ≤ a1 ∧ a1 ≤ 2147483647 := hv (0, a1) (List.mem_of_getElem? (i := 1) rfl)
  have r_a2 : -2147483648 ≤ a2 ∧ a2 ≤ 2147483647 := hv (0, a2) (List.mem_of_getElem? (i := 2) rfl)
  have r_a3 : -2147483648 ≤ a3 ∧ a3 ≤ 2147483647 := hv (0, a3) (List.mem_of_getElem? (i := 3) rfl)
  have r_a4 : -2147483648 ≤ a4 ∧ a4 ≤ 2147483647 := hv (0, a4) (List.mem_of_getElem? (i := 4) rfl)
  have r_a5 : -2147483648 ≤ a5 ∧ a5 ≤ 2147483647 := hv (0, a5) (List.mem_of_getElem? (i := 5) rfl)
  have hp0 : BW σ 87 := hp
  have B := @bk_ X G Q 0 0 ad SHS_ RX11 cX11_areSaints 6 (some .boolean) flX11 plX11 knX11 [(166, 2, TR_ as_G_X11_isLand (rmI_) pre_G_X11_isLand post_G_X11_isLand), (520, 3, TR_ as_G_X11_isMonth (rmI_) pre_G_X11_isMonth post_G_X11_isMonth), (529, 1, TR_ as_G_X11_isYear (rmI_) pre_G_X11_isYear post_G_X11_isYear), (159, 3, TR_ as_G_X11_in (rmI_) pre_G_X11_in post_G_X11_in)] _ _ none kX11_areSaints [] flX11_ok plX11_ok knX11_ok eX11_areSaints oX11_areSaints
    (List.forall_mem_cons.mpr ⟨cok_v (t := 32) (c := 11) (N := 39) (n := 1) (idx := 83) E (ct_G_X11_isLand X.2.1) (by rw [hR]; decide) (Nat.zero_le _) (Nat.zero_le _) hG rfl rfl ⟨rfl, by decide, by decide, by decide⟩ (fun _ => ⟨_, _, rfl, rfl⟩) wl_X11_83 wi_X11_isLand ws_X11_isLand wn_X11 wc_X11_isLand, List.forall_mem_cons.mpr ⟨cok_v (t := 32) (c := 11) (N := 39) (n := 2) (idx := 260) E (ct_G_X11_isMonth X.2.1) (by rw [hR]; decide) (Nat.zero_le _) (Nat.zero_le _) hG rfl rfl ⟨rfl, by decide, by decide, by decide⟩ (fun _ => ⟨_, _, rfl, rfl⟩) wl_X11_260 wi_X11_isMonth ws_X11_isMonth wn_X11 wc_X11_isMonth, List.forall_mem_cons.mpr ⟨cok_s (n := 1) (idx := 264) E (ct_G_X11_isYear X.2.1) (by rw [hR]; decide) (Nat.zero_le _) (Nat.zero_le _) hG ⟨by decide, by decide, by decide⟩ (fun _ => rfl) wl_X11_264 wt_X11_isYear wn_X11 wc_X11_isYear, List.forall_mem_cons.mpr ⟨cok_s (n := 3) (idx := 79) E (ct_G_X11_in X.2.1) (by rw [hR]; decide) (Nat.zero_le _) (Nat.zero_le _) hG ⟨by decide, by decide, by decide⟩ (fun _ => rfl) wl_X11_79 wt_X11_in wn_X11 wc_X11_in, fun _ h => absurd h List.not_mem_nil⟩⟩⟩⟩) R sok_no E
  show WP_ X G Q 0 0 ad SHS_ σ 0 [(42, 86), (0, a1), (0, a2), (0, a3), (0, a4), (0, a5)] []
  refine B rfl ?_
  refine Exists.intro a1 (And.intro rfl (And.intro hp0 ?_))
  rintro z1 m_ h2
  obtain rfl : σ = m_ := h2.2
  have h3 : (z1 = 1 ∧ 0 ≤ a1 ∧ a1 ≤ 2 ∧ a1 < σ 87 1) ∨ z1 = 0 := h2.1
  refine And.intro (fun h4 => ?_) (fun h4 => ?_)
  · skip
    refine B rfl ?_
    refine And.intro (by omega) ?_
    refine Exists.intro _ (And.intro rfl ?_)
    exact (And.intro (by show (0 = 1 ∧ 0 ≤ a1 ∧ a1 ≤ 2 ∧ a1 < σ 87 1 ∧ 0 ≤ a2 ∧ a2 ≤ 7 ∧ 0 ≤ a3 ∧ a3 ≤ 1999 ∧ 1 ≤ a4 ∧ a4 ≤ 20 ∧ 1 ≤ a5 ∧ a5 ≤ 9) ∨ 0 = 0; omega) rfl)
  · skip
    refine Exists.intro (a1, a2) (And.intro rfl (And.intro (And.intro hp0 (And.intro (by show 0 ≤ a1; omega) (by show a1 ≤ 2; omega))) ?_))
    rintro z5 m_ h6
    obtain rfl : σ = m_ := h6.2
    have h7 : (z5 = 1 ∧ 0 ≤ a2 ∧ a2 ≤ 7 ∧ a2 < σ 87 (6 + 15 * a1 + 3)) ∨ z5 = 0 := h6.1
    refine And.intro (fun h8 => ?_) (fun h8 => ?_)
    · skip
      refine B rfl ?_
      refine And.intro (by omega) ?_
      refine Exists.intro _ (And.intro rfl ?_)
      exact (And.intro (by show (0 = 1 ∧ 0 ≤ a1 ∧ a1 ≤ 2 ∧ a1 < σ 87 1 ∧ 0 ≤ a2 ∧ a2 ≤ 7 ∧ 0 ≤ a3 ∧ a3 ≤ 1999 ∧ 1 ≤ a4 ∧ a4 ≤ 20 ∧ 1 ≤ a5 ∧ a5 ≤ 9) ∨ 0 = 0; omega) rfl)
    · skip
      refine Exists.intro a3 (And.intro rfl (And.intro True.intro ?_))
      rintro z9 m_ h10
      obtain rfl : σ = m_ := h10.2
      have h11 : (z9 = 1 ∧ 0 ≤ a3 ∧ a3 ≤ 1999) ∨ z9 = 0 := h10.1
      refine And.intro (fun h12 => ?_) (fun h12 => ?_)
      · skip
        refine B rfl ?_
        refine And.intro (by omega) ?_
        refine Exists.intro _ (And.intro rfl ?_)
        exact (And.intro (by show (0 = 1 ∧ 0 ≤ a1 ∧ a1 ≤ 2 ∧ a1 < σ 87 1 ∧ 0 ≤ a2 ∧ a2 ≤ 7 ∧ 0 ≤ a3 ∧ a3 ≤ 1999 ∧ 1 ≤ a4 ∧ a4 ≤ 20 ∧ 1 ≤ a5 ∧ a5 ≤ 9) ∨ 0 = 0; omega) rfl)
      · skip
        refine Exists.intro (a4, 1, 20) (And.intro rfl (And.intro True.intro ?_))
        rintro z13 m_ h14
        obtain rfl : σ = m_ := h14.2
        have h15 : (z13 = 1 ∧ 1 ≤ a4 ∧ a4 ≤ 20) ∨ (z13 = 0 ∧ ¬ (1 ≤ a4 ∧ a4 ≤ 20)) := h14.1
        refine And.intro (fun h16 => ?_) (fun h16 => ?_)
        · skip
          refine B rfl ?_
          refine And.intro (by omega) ?_
          refine Exists.intro _ (And.intro rfl ?_)
          exact (And.intro (by show (0 = 1 ∧ 0 ≤ a1 ∧ a1 ≤ 2 ∧ a1 < σ 87 1 ∧ 0 ≤ a2 ∧ a2 ≤ 7 ∧ 0 ≤ a3 ∧ a3 ≤ 1999 ∧ 1 ≤ a4 ∧ a4 ≤ 20 ∧ 1 ≤ a5 ∧ a5 ≤ 9) ∨ 0 = 0; omega) rfl)
        · skip
          refine Exists.intro (a5, 1, 9) (And.intro rfl (And.intro True.intro ?_))
          rintro z17 m_ h18
          obtain rfl : σ = m_ := h18.2
          have h19 : (z17 = 1 ∧ 1 ≤ a5 ∧ a5 ≤ 9) ∨ (z17 = 0 ∧ ¬ (1 ≤ a5 ∧ a5 ≤ 9)) := h18.1
          refine And.intro (fun h20 => ?_) (fun h20 => ?_)
          · skip
            refine B rfl ?_
            refine And.intro (by omega) ?_
            refine Exists.intro _ (And.intro rfl ?_)
            exact (And.intro (by show (0 = 1 ∧ 0 ≤ a1 ∧ a1 ≤ 2 ∧ a1 < σ 87 1 ∧ 0 ≤ a2 ∧ a2 ≤ 7 ∧ 0 ≤ a3 ∧ a3 ≤ 1999 ∧ 1 ≤ a4 ∧ a4 ≤ 20 ∧ 1 ≤ a5 ∧ a5 ≤ 9) ∨ 0 = 0; omega) rfl)
          · skip
            refine B rfl ?_
            refine And.intro (by omega) ?_
            refine Exists.intro _ (And.intro rfl ?_)
            exact (And.intro (by show (1 = 1 ∧ 0 ≤ a1 ∧ a1 ≤ 2 ∧ a1 < σ 87 1 ∧ 0 ≤ a2 ∧ a2 ≤ 7 ∧ 0 ≤ a3 ∧ a3 ≤ 1999 ∧ 1 ≤ a4 ∧ a4 ≤ 20 ∧ 1 ≤ a5 ∧ a5 ≤ 9) ∨ 1 = 0; omega) rfl)
def as_G_X11_findSaints : Int × Int × Int × Int × Int → List Sv_t := fun a => [(42, 86), (0, a.1), (0, a.2.1), (0, a.2.2.1), (0, a.2.2.2.1), (0, a.2.2.2.2)]
def pre_G_X11_findSaints : Int × Int × Int × Int × Int → Me_t → Prop := fun a σ => (MI σ) ∧ (0 ≤ a.1) ∧ (a.1 ≤ 2) ∧ (a.1 < σ 87 1) ∧ (0 ≤ a.2.1) ∧ (a.2.1 ≤ 7) ∧ (0 ≤ a.2.2.1) ∧ (a.2.2.1 ≤ 1999) ∧ (1 ≤ a.2.2.2.1) ∧ (a.2.2.2.1 ≤ 20) ∧ (1 ≤ a.2.2.2.2) ∧ (a.2.2.2.2 ≤ 9)
def post_G_X11_findSaints : Int × Int × Int × Int × Int → Me_t → Int → Me_t → Prop := fun a σ z σ' => (∀ k j : Int, ¬ (k = 86 ∨ (93 ≤ k ∧ k ≤ 97)) → σ' k j = σ k j)
set_option maxHeartbeats 1500000 in
set_option maxRecDepth 100000 in
theorem ct_G_X11_findSaints (l : Launch) : CT_ l yX11_findSaints cX11_findSaints 9 none 4 92 as_G_X11_findSaints (rmV_) pre_G_X11_findSaints post_G_X11_findSaints := by
  refine ct_of (by decide) (fun _ => Nat.le_of_ble_eq_true rfl) ?_
  intro X G Q ad σ a hl hR E hG R hM hv hp
  obtain ⟨a1, a2, a3, a4, a5⟩ := a
  have r_a1 : -2147483648 ≤ a1 ∧ a1 ≤ 2147483647 := hv (0, a1) (List.mem_of_getElem? (i := 1) rfl)
  have r_a2 : -2147483648 ≤ a2 ∧ a2 ≤ 2147483647 := hv (0, a2) (List.mem_of_getElem? (i := 2) rfl)
  have r_a3 : -2147483648 ≤ a3 ∧ a3 ≤ 2147483647 := hv (0, a3) (List.mem_of_getElem? (i := 3) rfl)
  have r_a4 : -2147483648 ≤ a4 ∧ a4 ≤ 2147483647 := hv (0, a4) (List.mem_of_getElem? (i := 4) rfl)
  have r_a5 : -2147483648 ≤ a5 ∧ a5 ≤ 2147483647 := hv (0, a5) (List.mem_of_getElem? (i := 5) rfl)
  have hp0 : MI σ := hp.1
  have hp1 : 0 ≤ a1 := hp.2.1
  have hp2 : a1 ≤ 2 := hp.2.2.1
  have hp3 : a1 < σ 87 1 := hp.2.2.2.1
  have hp4 : 0 ≤ a2 := hp.2.2.2.2.1
  have hp5 : a2 ≤ 7 := hp.2.2.2.2.2.1
  have hp6 : 0 ≤ a3 := hp.2.2.2.2.2.2.1
  have hp7 : a3 ≤ 1999 := hp.2.2.2.2.2.2.2.1
  have hp8 : 1 ≤ a4 := hp.2.2.2.2.2.2.2.2.1
  have hp9 : a4 ≤ 20 := hp.2.2.2.2.2.2.2.2.2.1
  have hp10 : 1 ≤ a5 := hp.2.2.2.2.2.2.2.2.2.2.1
  have hp11 : a5 ≤ 9 := hp.2.2.2.2.2.2.2.2.2.2.2
  have B := @bk_ X G Q 0 0 ad SHS_ RX11 cX11_findSaints 9 none flX11 plX11 knX11 [(538, 1, TR_ as_G_X11_lay (rmV_) pre_G_X11_lay post_G_X11_lay), (200, 3, TOR_ (TR_ as_G_X11_of_0 (rmI_) pre_G_X11_of_0 post_G_X11_of_0) (TR_ as_G_X11_of_x (rmI_) pre_G_X11_of_x post_G_X11_of_x)), (467, 2, TR_ as_G_X11_spot (rmI_) pre_G_X11_spot post_G_X11_spot), (159, 3, TR_ as_G_X11_in (rmI_) pre_G_X11_in post_G_X11_in), (508, 3, TR_ as_G_X11_mayOn (rmI_) pre_G_X11_mayOn post_G_X11_mayOn), (279, 2, TMIN_)] _ _ none kX11_findSaints [7, 17, 39, 47, 62, 89, 99, 148, 158, 168, 195] flX11_ok plX11_ok knX11_ok eX11_findSaints oX11_findSaints
    (List.forall_mem_cons.mpr ⟨cok_v (t := 32) (c := 11) (N := 39) (n := 0) (idx := 269) E (ct_G_X11_lay X.2.1) (by rw [hR]; decide) (Nat.zero_le _) (Nat.zero_le _) hG rfl rfl ⟨rfl, by decide, by decide, by decide⟩ (fun _ => ⟨_, _, rfl, rfl⟩) wl_X11_269 wi_X11_lay ws_X11_lay wn_X11 wc_X11_lay, List.forall_mem_cons.mpr ⟨cok_or (cok_v (t := 32) (c := 11) (N := 39) (n := 2) (idx := 100) E (ct_G_X11_of_0 X.2.1) (by rw [hR]; decide) (Nat.zero_le _) (Nat.zero_le _) hG rfl rfl ⟨rfl, by decide, by decide, by decide⟩ (fun _ => ⟨_, _, rfl, rfl⟩) wl_X11_100 wi_X11_of ws_X11_of wn_X11 wc_X11_of) (cok_v (t := 32) (c := 11) (N := 39) (n := 2) (idx := 100) E (ct_G_X11_of_x X.2.1) (by rw [hR]; decide) (Nat.zero_le _) (Nat.zero_le _) hG rfl rfl ⟨rfl, by decide, by decide, by decide⟩ (fun _ => ⟨_, _, rfl, rfl⟩) wl_X11_100 wi_X11_of ws_X11_of wn_X11 wc_X11_of), List.forall_mem_cons.mpr ⟨cok_s (n := 2) (idx := 233) E (ct_G_X11_spot X.2.1) (by rw [hR]; decide) (Nat.zero_le _) (Nat.zero_le _) hG ⟨by decide, by decide, by decide⟩ (fun _ => rfl) wl_X11_233 wt_X11_spot wn_X11 wc_X11_spot, List.forall_mem_cons.mpr ⟨cok_s (n := 3) (idx := 79) E (ct_G_X11_in X.2.1) (by rw [hR]; decide) (Nat.zero_le _) (Nat.zero_le _) hG ⟨by decide, by decide, by decide⟩ (fun _ => rfl) wl_X11_79 wt_X11_in wn_X11 wc_X11_in, List.forall_mem_cons.mpr ⟨cok_v (t := 32) (c := 11) (N := 39) (n := 2) (idx := 254) E (ct_G_X11_mayOn X.2.1) (by rw [hR]; decide) (Nat.zero_le _) (Nat.zero_le _) hG rfl rfl ⟨rfl, by decide, by decide, by decide⟩ (fun _ => ⟨_, _, rfl, rfl⟩) wl_X11_254 wi_X11_mayOn ws_X11_mayOn wn_X11 wc_X11_mayOn, List.forall_mem_cons.mpr ⟨cok_min (idx := 139) E (by rw [hR]; decide) (Nat.zero_le _) (Nat.zero_le _) wl_X11_139, fun _ h => absurd h List.not_mem_nil⟩⟩⟩⟩⟩⟩) R sok_no E
  show WP_ X G Q 0 0 ad SHS_ σ 0 [(42, 86), (0, a1), (0, a2), (0, a3), (0, a4), (0, a5), (9, 0), (9, 0), (9, 0)] []
  refine B rfl ?_
  refine Exists.intro () (And.intro rfl (And.intro hp0 ?_))
  intro z1 σ3 h2
  have f4 : ∀ k j : Int, ¬ (93 ≤ k ∧ k ≤ 96) → σ3 k j = σ k j := h2.2
  have h5 : LY σ3 := h2.1
  have lp_7 : ∀ (nq_ : Nat) (v6 : Int) (τ7 : Me_t), (∀ k j : Int, ¬ (k = 86 ∨ (93 ≤ k ∧ k ≤ 97)) → τ7 k j = σ k j) → (0 ≤ v6) → (v6 ≤ 70) → (LY τ7) → (70 - v6 : Int).toNat < nq_ → WP_ X G Q 0 0 ad SHS_ τ7 7 [(42, 86), (0, a1), (0, a2), (0, a3), (0, a4), (0, a5), (0, v6), (9, 0), (9, 0)] [] := by
    intro nq_
    induction nq_ with
    | zero => intros; omega
    | succ nq_ ih_7 =>
      intro v6 τ7 hf7 hi7_0 hi7_1 hi7_2 hm7
      refine B rfl ?_
      refine And.intro (fun h6 => ?_) (fun h6 => ?_)
      · skip
        refine B rfl ?_
        have p7 : MI τ7 := MI_fr hp0 (fun k j hk => (hf7 _ _ (by omega)))
        have p8 : BW τ7 87 := (p7).1.1
        refine Or.inl ?_
        refine Exists.intro a1 (And.intro rfl (And.intro (And.intro p8 (And.intro (by show 0 ≤ a1; omega) (by show a1 ≤ 2; omega))) ?_))
        rintro z9 m_ h10
        obtain rfl : τ7 = m_ := h10.2.2
        have h11 : z9 = τ7 87 (6 + 15 * a1 + 0) := h10.1
        try have t12 : τ7 87 (6 + 15 * a1 + 0) = σ 87 (6 + 15 * a1 + 0) := (hf7 _ _ (by omega))
        have h13 : 0 ≤ z9 ∧ z9 ≤ 999 := h10.2.1
        have lp_39 : ∀ (nq_ : Nat) (v6 : Int) (τ39 : Me_t), (∀ k j : Int, ¬ (k = 86 ∨ (93 ≤ k ∧ k ≤ 97)) → τ39 k j = σ k j) → (σ 87 (6 + 15 * a1 + 0) ≤ v6) → (0 ≤ v6) → (v6 ≤ 2000) → (LY τ39) → (2000 - v6 : Int).toNat < nq_ → WP_ X G Q 0 0 ad SHS_ τ39 39 [(42, 86), (0, a1), (0, a2), (0, a3), (0, a4), (0, a5), (0, v6), (9, 0), (9, 0)] [] := by
          intro nq_
          induction nq_ with
          | zero => intros; omega
          | succ nq_ ih_39 =>
            intro v6 τ39 hf39 hi39_0 hi39_1 hi39_2 hi39_3 hm39
            refine B rfl ?_
            refine And.intro (fun h14 => ?_) (fun h14 => ?_)
            · skip
              refine B rfl ?_
              refine And.intro (by omega) ?_
              intro σ15 e16
              intro σ17 e18
              refine And.intro (by omega) ?_
              have p19 : MI σ17 := MI_fr hp0 (fun k j hk => ((ups_r e18 (by omega)).trans ((ups_r e16 (by omega)).trans (hf39 _ _ (by omega)))))
              have p20 : BW σ17 87 := (p19).1.1
              refine Or.inr ?_
              refine Exists.intro (a1, 7 + a2) (And.intro rfl (And.intro (And.intro p20 (And.intro (by show 0 ≤ a1; omega) (And.intro (by show a1 ≤ 2; omega) (And.intro (by show 0 ≤ (7 + a2); omega) (by show (7 + a2) ≤ 14; omega))))) ?_))
              rintro z21 m_ h22
              obtain rfl : σ17 = m_ := h22.2.2.2
              have h23 : z21 = σ17 87 (6 + 15 * a1 + (7 + a2)) := h22.1
              try have t24 : σ17 87 (6 + 15 * a1 + (7 + a2)) = σ 87 (6 + 15 * a1 + (7 + a2)) := ((ups_r e18 (by omega)).trans ((ups_r e16 (by omega)).trans (hf39 _ _ (by omega))))
              have h25 : -1 ≤ z21 ∧ z21 ≤ 1999 := h22.2.1
              have h26 : 7 ≤ (7 + a2) → 0 ≤ z21 ∧ z21 ≤ 60 := h22.2.2.1
              refine And.intro (by omega) ?_
              show WP_ X G Q 0 0 ad SHS_ σ17 148 [(42, 86), (0, a1), (0, a2), (0, a3), (0, a4), (0, a5), (0, z21 - 1), (0, 0), (9, 0)] []
              refine wdrop_ (L' := [(42, 86), (9, 0), (9, 0), (9, 0), (9, 0), (0, a5), (0, z21 - 1), (0, 0), (9, 0)]) ⟨Or.inr rfl, ⟨Or.inl rfl, ⟨Or.inl rfl, ⟨Or.inl rfl, ⟨Or.inl rfl, ⟨Or.inr rfl, ⟨Or.inr rfl, ⟨Or.inr rfl, ⟨Or.inl rfl, trivial⟩⟩⟩⟩⟩⟩⟩⟩⟩ ?_
              have lp_148 : ∀ (nq_ : Nat) (v7 : Int) (τ148 : Me_t), (∀ k j : Int, ¬ (k = 86 ∨ (93 ≤ k ∧ k ≤ 97)) → τ148 k j = σ k j) → (0 ≤ v7) → (v7 ≤ 80) → (0 ≤ τ148 86 22) → (τ148 86 22 ≤ v7) → (80 - v7 : Int).toNat < nq_ → WP_ X G Q 0 0 ad SHS_ τ148 148 [(42, 86), (9, 0), (9, 0), (9, 0), (9, 0), (0, a5), (0, z21 - 1), (0, v7), (9, 0)] [] := by
                intro nq_
                induction nq_ with
                | zero => intros; omega
                | succ nq_ ih_148 =>
                  intro v7 τ148 hf148 hi148_0 hi148_1 hi148_2 hi148_3 hm148
                  refine B rfl ?_
                  refine And.intro (fun h27 => ?_) (fun h27 => ?_)
                  · skip
                    refine B rfl ?_
                    refine Exists.intro 0 (And.intro rfl ?_)
                    exact (fun k j hk => (hf148 _ _ (by omega)))
                  · skip
                    show WP_ X G Q 0 0 ad SHS_ τ148 158 [(42, 86), (9, 0), (9, 0), (9, 0), (9, 0), (0, a5), (0, z21 - 1), (0, v7), (9, 0)] []
                    refine B rfl ?_
                    refine And.intro (by omega) ?_
                    intro z28 ez28 hz28
                    have hz28 : (0 : Int) ≤ z28 ∧ z28 ≤ (1 : Int) := hz28
                    try have t29 : τ148 97 v7 = σ 97 v7 := (hf148 _ _ (by omega))
                    refine And.intro (fun h30 => ?_) (fun h30 => ?_)
                    · skip
                      refine B rfl ?_
                      refine Exists.intro v7 (Exists.intro (z21 - 1) (And.intro rfl ?_))
                      intro z31 hz31
                      refine And.intro (by omega) ?_
                      refine And.intro (by omega) ?_
                      refine And.intro (fun h32 => ?_) (fun h32 => ?_)
                      · skip
                        refine B rfl ?_
                        intro z33 ez33 hz33
                        have hz33 : ((-1) : Int) ≤ z33 ∧ z33 ≤ (70 : Int) := hz33
                        refine And.intro (by omega) ?_
                        refine And.intro (by omega) ?_
                        intro σ34 e35
                        intro z36 ez36 _
                        try have t37 : σ34 86 23 = σ 86 23 := ((ups_r e35 (by omega)).trans (hf148 _ _ (by omega)))
                        intro σ38 e39
                        refine And.intro (by omega) ?_
                        show WP_ X G Q 0 0 ad SHS_ σ38 148 [(42, 86), (9, 0), (9, 0), (9, 0), (9, 0), (0, a5), (0, z21 - 1), (0, z31 + a5), (0, z31)] []
                        refine wdrop_ (L' := [(42, 86), (9, 0), (9, 0), (9, 0), (9, 0), (0, a5), (0, z21 - 1), (0, z31 + a5), (9, 0)]) ⟨Or.inr rfl, ⟨Or.inl rfl, ⟨Or.inl rfl, ⟨Or.inl rfl, ⟨Or.inl rfl, ⟨Or.inr rfl, ⟨Or.inr rfl, ⟨Or.inr rfl, ⟨Or.inl rfl, trivial⟩⟩⟩⟩⟩⟩⟩⟩⟩ ?_
                        have t40 : σ38 86 22 = z33 + 1 := ((ups_r e39 (by omega))).trans (ups_v e35)
                        exact ih_148 (z31 + a5) σ38 (fun k j hk => ((ups_r e39 (by omega)).trans ((ups_r e35 (by omega)).trans (hf148 _ _ (by omega))))) (by show 0 ≤ (z31 + a5); omega) (by show (z31 + a5) ≤ 80; omega) (by show 0 ≤ σ38 86 22; omega) (by show σ38 86 22 ≤ (z31 + a5); omega) (by omega)
                      · skip
                        show WP_ X G Q 0 0 ad SHS_ τ148 195 [(42, 86), (9, 0), (9, 0), (9, 0), (9, 0), (0, a5), (0, z21 - 1), (0, v7), (0, z31)] []
                        refine B rfl ?_
                        refine And.intro (by omega) ?_
                        intro σ41 e42
                        intro σ43 e44
                        refine Exists.intro 0 (And.intro rfl ?_)
                        exact (fun k j hk => ((ups_r e44 (by omega)).trans ((ups_r e42 (by omega)).trans (hf148 _ _ (by omega)))))
                    · skip
                      show WP_ X G Q 0 0 ad SHS_ τ148 168 [(42, 86), (9, 0), (9, 0), (9, 0), (9, 0), (0, a5), (0, z21 - 1), (0, v7), (9, 0)] []
                      refine B rfl ?_
                      refine And.intro (by omega) ?_
                      exact ih_148 (v7 + 1) τ148 (fun k j hk => (hf148 _ _ (by omega))) (by show 0 ≤ (v7 + 1); omega) (by show (v7 + 1) ≤ 80; omega) (by show 0 ≤ τ148 86 22; omega) (by show τ148 86 22 ≤ (v7 + 1); omega) (by omega)
              have t45 : σ17 86 22 = 0 := ((ups_r e18 (by omega))).trans (ups_v e16)
              exact lp_148 ((80 - 0 : Int).toNat + 1) 0 σ17 (fun k j hk => ((ups_r e18 (by omega)).trans ((ups_r e16 (by omega)).trans (hf39 _ _ (by omega))))) (by show 0 ≤ 0; omega) (by show 0 ≤ 80; omega) (by show 0 ≤ σ17 86 22; omega) (by show σ17 86 22 ≤ 0; omega) (by omega)
            · skip
              show WP_ X G Q 0 0 ad SHS_ τ39 47 [(42, 86), (0, a1), (0, a2), (0, a3), (0, a4), (0, a5), (0, v6), (9, 0), (9, 0)] []
              refine B rfl ?_
              refine Exists.intro (a1, v6) (And.intro rfl (And.intro (And.intro (by show 0 ≤ a1; omega) (And.intro (by show a1 ≤ 2; omega) (And.intro (by show 0 ≤ v6; omega) (by show v6 ≤ 1999; omega)))) ?_))
              rintro z46 m_ h47
              obtain rfl : τ39 = m_ := h47.2
              have h48 : z46 = 2000 * a1 + v6 := h47.1
              have q49 : z46 = 2000 * a1 + v6 := by omega
              subst q49
              refine And.intro (by omega) ?_
              intro z50 ez50 hz50
              have hz50 : ((-1) : Int) ≤ z50 ∧ z50 ≤ (7 : Int) := hz50
              try have t51 : τ39 94 (2000 * a1 + v6) = σ 94 (2000 * a1 + v6) := (hf39 _ _ (by omega))
              refine And.intro (fun h52 => ?_) (fun h52 => ?_)
              · skip
                refine B rfl ?_
                refine And.intro (by omega) ?_
                exact ih_39 (v6 + 1) τ39 (fun k j hk => (hf39 _ _ (by omega))) (by show σ 87 (6 + 15 * a1 + 0) ≤ (v6 + 1); omega) (by show 0 ≤ (v6 + 1); omega) (by show (v6 + 1) ≤ 2000; omega) hi39_3 (by omega)
              · skip
                show WP_ X G Q 0 0 ad SHS_ τ39 62 [(42, 86), (0, a1), (0, a2), (0, a3), (0, a4), (0, a5), (0, v6), (9, 0), (9, 0)] []
                refine B rfl ?_
                refine Exists.intro (a1, v6) (And.intro rfl (And.intro (And.intro (by show 0 ≤ a1; omega) (And.intro (by show a1 ≤ 2; omega) (And.intro (by show 0 ≤ v6; omega) (by show v6 ≤ 1999; omega)))) ?_))
                rintro z53 m_ h54
                obtain rfl : τ39 = m_ := h54.2
                have h55 : z53 = 2000 * a1 + v6 := h54.1
                have q56 : z53 = 2000 * a1 + v6 := by omega
                subst q56
                refine And.intro (by omega) ?_
                intro z57 ez57 hz57
                have hz57 : ((-1) : Int) ≤ z57 ∧ z57 ≤ (2000 : Int) := hz57
                try have t58 : τ39 93 (2000 * a1 + v6) = σ 93 (2000 * a1 + v6) := (hf39 _ _ (by omega))
                refine And.intro (by omega) ?_
                refine And.intro (by omega) ?_
                refine Exists.intro (z57, a3, (a3 + a4) - 1) (And.intro rfl (And.intro True.intro ?_))
                rintro z59 m_ h60
                obtain rfl : τ39 = m_ := h60.2
                have h61 : (z59 = 1 ∧ a3 ≤ z57 ∧ z57 ≤ ((a3 + a4) - 1)) ∨ (z59 = 0 ∧ ¬ (a3 ≤ z57 ∧ z57 ≤ ((a3 + a4) - 1))) := h60.1
                refine And.intro (fun h62 => ?_) (fun h62 => ?_)
                · skip
                  refine B rfl ?_
                  refine And.intro (by omega) ?_
                  exact ih_39 (v6 + 1) τ39 (fun k j hk => (hf39 _ _ (by omega))) (by show σ 87 (6 + 15 * a1 + 0) ≤ (v6 + 1); omega) (by show 0 ≤ (v6 + 1); omega) (by show (v6 + 1) ≤ 2000; omega) hi39_3 (by omega)
                · skip
                  show WP_ X G Q 0 0 ad SHS_ τ39 89 [(42, 86), (0, a1), (0, a2), (0, a3), (0, a4), (0, a5), (0, v6), (9, 0), (9, 0)] []
                  refine B rfl ?_
                  refine Exists.intro (a1, v6) (And.intro rfl (And.intro (And.intro (by show 0 ≤ a1; omega) (And.intro (by show a1 ≤ 2; omega) (And.intro (by show 0 ≤ v6; omega) (by show v6 ≤ 1999; omega)))) ?_))
                  rintro z63 m_ h64
                  obtain rfl : τ39 = m_ := h64.2
                  have h65 : (z63 = 1 ∧ τ39 96 (2000 * a1 + v6) = 0) ∨ (z63 = 0 ∧ τ39 96 (2000 * a1 + v6) ≠ 0) := h64.1
                  try have t66 : τ39 96 (2000 * a1 + v6) = σ 96 (2000 * a1 + v6) := (hf39 _ _ (by omega))
                  refine And.intro (fun h67 => ?_) (fun h67 => ?_)
                  · skip
                    refine B rfl ?_
                    refine And.intro (by omega) ?_
                    exact ih_39 (v6 + 1) τ39 (fun k j hk => (hf39 _ _ (by omega))) (by show σ 87 (6 + 15 * a1 + 0) ≤ (v6 + 1); omega) (by show 0 ≤ (v6 + 1); omega) (by show (v6 + 1) ≤ 2000; omega) hi39_3 (by omega)
                  · skip
                    show WP_ X G Q 0 0 ad SHS_ τ39 99 [(42, 86), (0, a1), (0, a2), (0, a3), (0, a4), (0, a5), (0, v6), (9, 0), (9, 0)] []
                    refine B rfl ?_
                    refine Exists.intro (a1, v6) (And.intro rfl (And.intro (And.intro (by show 0 ≤ a1; omega) (And.intro (by show a1 ≤ 2; omega) (And.intro (by show 0 ≤ v6; omega) (by show v6 ≤ 1999; omega)))) ?_))
                    rintro z68 m_ h69
                    obtain rfl : τ39 = m_ := h69.2
                    have h70 : z68 = 2000 * a1 + v6 := h69.1
                    have q71 : z68 = 2000 * a1 + v6 := by omega
                    subst q71
                    try have t72 : τ39 87 1 = σ 87 1 := (hf39 _ _ (by omega))
                    try have t73 : τ39 87 (6 + 15 * a1 + 0) = σ 87 (6 + 15 * a1 + 0) := (hf39 _ _ (by omega))
                    have hly := hi39_3 a1 v6 (by omega) (by omega) (by omega) (by omega) (by omega)
                    refine And.intro (by omega) ?_
                    intro z74 ez74 hz74
                    have hz74 : ((-1) : Int) ≤ z74 ∧ z74 ≤ (68 : Int) := hz74
                    try have t75 : τ39 95 (2000 * a1 + v6) = σ 95 (2000 * a1 + v6) := (hf39 _ _ (by omega))
                    refine And.intro (by omega) ?_
                    refine And.intro (by show (0 : Int) ≤ _ ∧ _ ≤ (1 : Int); omega) ?_
                    intro σ76 e77
                    refine And.intro (by omega) ?_
                    have p78 : LY σ76 := LY_fr hi39_3 (fun k j hk => (ups_r e77 (by omega)))
                    exact ih_39 (v6 + 1) σ76 (fun k j hk => ((ups_r e77 (by omega)).trans (hf39 _ _ (by omega)))) (by show σ 87 (6 + 15 * a1 + 0) ≤ (v6 + 1); omega) (by show 0 ≤ (v6 + 1); omega) (by show (v6 + 1) ≤ 2000; omega) p78 (by omega)
        exact lp_39 ((2000 - z9 : Int).toNat + 1) z9 τ7 (fun k j hk => (hf7 _ _ (by omega))) (by show σ 87 (6 + 15 * a1 + 0) ≤ z9; omega) (by show 0 ≤ z9; omega) (by show z9 ≤ 2000; omega) hi7_2 (by omega)
      · skip
        show WP_ X G Q 0 0 ad SHS_ τ7 17 [(42, 86), (0, a1), (0, a2), (0, a3), (0, a4), (0, a5), (0, v6), (9, 0), (9, 0)] []
        refine B rfl ?_
        refine And.intro (by omega) ?_
        refine And.intro (by show (0 : Int) ≤ _ ∧ _ ≤ (1 : Int); omega) ?_
        intro σ79 e80
        refine And.intro (by omega) ?_
        have p81 : LY σ79 := LY_fr hi7_2 (fun k j hk => (ups_r e80 (by omega)))
        exact ih_7 (v6 + 1) σ79 (fun k j hk => ((ups_r e80 (by omega)).trans (hf7 _ _ (by omega)))) (by show 0 ≤ (v6 + 1); omega) (by show (v6 + 1) ≤ 70; omega) p81 (by omega)
  exact lp_7 ((70 - 0 : Int).toNat + 1) 0 σ3 (fun k j hk => (f4 _ _ (by omega))) (by show 0 ≤ 0; omega) (by show 0 ≤ 70; omega) h5 (by omega)
def as_G_X11_saints : Int × Int × Int × Int × Int → List Sv_t := fun a => [(42, 86), (0, a.1), (0, a.2.1), (0, a.2.2.1), (0, a.2.2.2.1), (0, a.2.2.2.2)]
def pre_G_X11_saints : Int × Int × Int × Int × Int → Me_t → Prop := fun a σ => (MI σ)
def post_G_X11_saints : Int × Int × Int × Int × Int → Me_t → Int → Me_t → Prop := fun a σ z σ' => (∀ k j : Int, ¬ (k = 86 ∨ (93 ≤ k ∧ k ≤ 97)) → σ' k j = σ k j)
set_option maxHeartbeats 1500000 in
set_option maxRecDepth 100000 in
theorem ct_G_X11_saints (l : Launch) : CT_ l yX11_saints cX11_saints 6 (some .int) 5 120 as_G_X11_saints (rmI_) pre_G_X11_saints post_G_X11_saints := by
  refine ct_of (by decide) (fun _ => Nat.le_of_ble_eq_true rfl) ?_
  intro X G Q ad σ a hl hR E hG R hM hv hp
  obtain ⟨a1, a2, a3, a4, a5⟩ := a
  have r_a1 : -2147483648 ≤ a1 ∧ a1 ≤ 2147483647 := hv (0, a1) (List.mem_of_getElem? (i := 1) rfl)
  have r_a2 : -2147483648 ≤ a2 ∧ a2 ≤ 2147483647 := hv (0, a2) (List.mem_of_getElem? (i := 2) rfl)
  have r_a3 : -2147483648 ≤ a3 ∧ a3 ≤ 2147483647 := hv (0, a3) (List.mem_of_getElem? (i := 3) rfl)
  have r_a4 : -2147483648 ≤ a4 ∧ a4 ≤ 2147483647 := hv (0, a4) (List.mem_of_getElem? (i := 4) rfl)
  have r_a5 : -2147483648 ≤ a5 ∧ a5 ≤ 2147483647 := hv (0, a5) (List.mem_of_getElem? (i := 5) rfl)
  have hp0 : MI σ := hp
  have B := @bk_ X G Q 0 0 ad SHS_ RX11 cX11_saints 6 (some .int) flX11 plX11 knX11 [(680, 6, TR_ as_G_X11_areSaints (rmI_) pre_G_X11_areSaints post_G_X11_areSaints), (688, 6, TR_ as_G_X11_findSaints (rmV_) pre_G_X11_findSaints post_G_X11_findSaints)] _ _ none kX11_saints [] flX11_ok plX11_ok knX11_ok eX11_saints oX11_saints
    (List.forall_mem_cons.mpr ⟨cok_v (t := 32) (c := 11) (N := 39) (n := 5) (idx := 340) E (ct_G_X11_areSaints X.2.1) (by rw [hR]; decide) (Nat.zero_le _) (Nat.zero_le _) hG rfl rfl ⟨rfl, by decide, by decide, by decide⟩ (fun _ => ⟨_, _, rfl, rfl⟩) wl_X11_340 wi_X11_areSaints ws_X11_areSaints wn_X11 wc_X11_areSaints, List.forall_mem_cons.mpr ⟨cok_v (t := 32) (c := 11) (N := 39) (n := 5) (idx := 344) E (ct_G_X11_findSaints X.2.1) (by rw [hR]; decide) (Nat.zero_le _) (Nat.zero_le _) hG rfl rfl ⟨rfl, by decide, by decide, by decide⟩ (fun _ => ⟨_, _, rfl, rfl⟩) wl_X11_344 wi_X11_findSaints ws_X11_findSaints wn_X11 wc_X11_findSaints, fun _ h => absurd h List.not_mem_nil⟩⟩) R sok_no E
  show WP_ X G Q 0 0 ad SHS_ σ 0 [(42, 86), (0, a1), (0, a2), (0, a3), (0, a4), (0, a5)] []
  refine B rfl ?_
  have p1 : BW σ 87 := (hp0).1.1
  refine Exists.intro (a1, a2, a3, a4, a5) (And.intro rfl (And.intro p1 ?_))
  rintro z2 m_ h3
  obtain rfl : σ = m_ := h3.2
  have h4 : (z2 = 1 ∧ 0 ≤ a1 ∧ a1 ≤ 2 ∧ a1 < σ 87 1 ∧ 0 ≤ a2 ∧ a2 ≤ 7 ∧ 0 ≤ a3 ∧ a3 ≤ 1999 ∧ 1 ≤ a4 ∧ a4 ≤ 20 ∧ 1 ≤ a5 ∧ a5 ≤ 9) ∨ z2 = 0 := h3.1
  refine And.intro (fun h5 => ?_) (fun h5 => ?_)
  · skip
    refine B rfl ?_
    refine Exists.intro (a1, a2, a3, a4, a5) (And.intro rfl (And.intro (And.intro hp0 (And.intro (by show 0 ≤ a1; omega) (And.intro (by show a1 ≤ 2; omega) (And.intro (by show a1 < σ 87 1; omega) (And.intro (by show 0 ≤ a2; omega) (And.intro (by show a2 ≤ 7; omega) (And.intro (by show 0 ≤ a3; omega) (And.intro (by show a3 ≤ 1999; omega) (And.intro (by show 1 ≤ a4; omega) (And.intro (by show a4 ≤ 20; omega) (And.intro (by show 1 ≤ a5; omega) (by show a5 ≤ 9; omega)))))))))))) ?_))
    intro z6 σ8 h7
    have f9 : ∀ k j : Int, ¬ (k = 86 ∨ (93 ≤ k ∧ k ≤ 97)) → σ8 k j = σ k j := h7
    intro z10 ez10 hz10
    have hz10 : ((-1) : Int) ≤ z10 ∧ z10 ≤ (70 : Int) := hz10
    try have t11 : σ8 86 22 = σ 86 22 := (f9 _ _ (by omega))
    refine Exists.intro _ (And.intro rfl ?_)
    exact (fun k j hk => (f9 _ _ (by omega)))
  · skip
    refine Exists.intro _ (And.intro rfl ?_)
    exact (fun k j hk => rfl)
def as_G_X11_founded : Int × Int × Int × Int × Int → List Sv_t := fun a => [(42, 86), (0, a.1), (0, a.2.1), (0, a.2.2.1), (0, a.2.2.2.1), (0, a.2.2.2.2)]
def pre_G_X11_founded : Int × Int × Int × Int × Int → Me_t → Prop := fun a σ => (MI σ)
def post_G_X11_founded : Int × Int × Int × Int × Int → Me_t → Int → Me_t → Prop := fun a σ z σ' => (∀ k j : Int, ¬ (k = 86 ∨ (93 ≤ k ∧ k ≤ 97)) → σ' k j = σ k j)
set_option maxHeartbeats 1500000 in
set_option maxRecDepth 100000 in
theorem ct_G_X11_founded (l : Launch) : CT_ l yX11_founded cX11_founded 6 (some .long) 5 120 as_G_X11_founded (rmL_) pre_G_X11_founded post_G_X11_founded := by
  refine ct_of (by decide) (fun _ => Nat.le_of_ble_eq_true rfl) ?_
  intro X G Q ad σ a hl hR E hG R hM hv hp
  obtain ⟨a1, a2, a3, a4, a5⟩ := a
  have r_a1 : -2147483648 ≤ a1 ∧ a1 ≤ 2147483647 := hv (0, a1) (List.mem_of_getElem? (i := 1) rfl)
  have r_a2 : -2147483648 ≤ a2 ∧ a2 ≤ 2147483647 := hv (0, a2) (List.mem_of_getElem? (i := 2) rfl)
  have r_a3 : -2147483648 ≤ a3 ∧ a3 ≤ 2147483647 := hv (0, a3) (List.mem_of_getElem? (i := 3) rfl)
  have r_a4 : -2147483648 ≤ a4 ∧ a4 ≤ 2147483647 := hv (0, a4) (List.mem_of_getElem? (i := 4) rfl)
  have r_a5 : -2147483648 ≤ a5 ∧ a5 ≤ 2147483647 := hv (0, a5) (List.mem_of_getElem? (i := 5) rfl)
  have hp0 : MI σ := hp
  have B := @bk_ X G Q 0 0 ad SHS_ RX11 cX11_founded 6 (some .long) flX11 plX11 knX11 [(680, 6, TR_ as_G_X11_areSaints (rmI_) pre_G_X11_areSaints post_G_X11_areSaints), (688, 6, TR_ as_G_X11_findSaints (rmV_) pre_G_X11_findSaints post_G_X11_findSaints)] _ _ none kX11_founded [] flX11_ok plX11_ok knX11_ok eX11_founded oX11_founded
    (List.forall_mem_cons.mpr ⟨cok_v (t := 32) (c := 11) (N := 39) (n := 5) (idx := 340) E (ct_G_X11_areSaints X.2.1) (by rw [hR]; decide) (Nat.zero_le _) (Nat.zero_le _) hG rfl rfl ⟨rfl, by decide, by decide, by decide⟩ (fun _ => ⟨_, _, rfl, rfl⟩) wl_X11_340 wi_X11_areSaints ws_X11_areSaints wn_X11 wc_X11_areSaints, List.forall_mem_cons.mpr ⟨cok_v (t := 32) (c := 11) (N := 39) (n := 5) (idx := 344) E (ct_G_X11_findSaints X.2.1) (by rw [hR]; decide) (Nat.zero_le _) (Nat.zero_le _) hG rfl rfl ⟨rfl, by decide, by decide, by decide⟩ (fun _ => ⟨_, _, rfl, rfl⟩) wl_X11_344 wi_X11_findSaints ws_X11_findSaints wn_X11 wc_X11_findSaints, fun _ h => absurd h List.not_mem_nil⟩⟩) R sok_no E
  show WP_ X G Q 0 0 ad SHS_ σ 0 [(42, 86), (0, a1), (0, a2), (0, a3), (0, a4), (0, a5)] []
  refine B rfl ?_
  have p1 : BW σ 87 := (hp0).1.1
  refine Exists.intro (a1, a2, a3, a4, a5) (And.intro rfl (And.intro p1 ?_))
  rintro z2 m_ h3
  obtain rfl : σ = m_ := h3.2
  have h4 : (z2 = 1 ∧ 0 ≤ a1 ∧ a1 ≤ 2 ∧ a1 < σ 87 1 ∧ 0 ≤ a2 ∧ a2 ≤ 7 ∧ 0 ≤ a3 ∧ a3 ≤ 1999 ∧ 1 ≤ a4 ∧ a4 ≤ 20 ∧ 1 ≤ a5 ∧ a5 ≤ 9) ∨ z2 = 0 := h3.1
  refine And.intro (fun h5 => ?_) (fun h5 => ?_)
  · skip
    refine B rfl ?_
    refine Exists.intro (a1, a2, a3, a4, a5) (And.intro rfl (And.intro (And.intro hp0 (And.intro (by show 0 ≤ a1; omega) (And.intro (by show a1 ≤ 2; omega) (And.intro (by show a1 < σ 87 1; omega) (And.intro (by show 0 ≤ a2; omega) (And.intro (by show a2 ≤ 7; omega) (And.intro (by show 0 ≤ a3; omega) (And.intro (by show a3 ≤ 1999; omega) (And.intro (by show 1 ≤ a4; omega) (And.intro (by show a4 ≤ 20; omega) (And.intro (by show 1 ≤ a5; omega) (by show a5 ≤ 9; omega)))))))))))) ?_))
    intro z6 σ8 h7
    have f9 : ∀ k j : Int, ¬ (k = 86 ∨ (93 ≤ k ∧ k ≤ 97)) → σ8 k j = σ k j := h7
    intro z10 ez10 _
    try have t11 : σ8 86 23 = σ 86 23 := (f9 _ _ (by omega))
    refine Exists.intro _ (And.intro rfl ?_)
    exact (fun k j hk => (f9 _ _ (by omega)))
  · skip
    refine Exists.intro _ (And.intro rfl ?_)
    exact (fun k j hk => rfl)
def as_G_X11_findBridge : Int × Int × Int × Int → List Sv_t := fun a => [(42, 86), (0, a.1), (0, a.2.1), (0, a.2.2.1), (0, a.2.2.2)]
def pre_G_X11_findBridge : Int × Int × Int × Int → Me_t → Prop := fun a σ => (0 ≤ a.1) ∧ (a.1 ≤ 2) ∧ (0 ≤ a.2.1) ∧ (a.2.1 ≤ a.2.2.1) ∧ (a.2.2.1 ≤ 1999) ∧ (0 ≤ a.2.2.2) ∧ (a.2.2.2 ≤ 9)
def post_G_X11_findBridge : Int × Int × Int × Int → Me_t → Int → Me_t → Prop := fun a σ z σ' => (∀ k j : Int, ¬ (k = 86) → σ' k j = σ k j)
set_option maxHeartbeats 1500000 in
set_option maxRecDepth 100000 in
theorem ct_G_X11_findBridge (l : Launch) : CT_ l yX11_findBridge cX11_findBridge 8 none 2 43 as_G_X11_findBridge (rmV_) pre_G_X11_findBridge post_G_X11_findBridge := by
  refine ct_of (by decide) (fun _ => Nat.le_of_ble_eq_true rfl) ?_
  intro X G Q ad σ a hl hR E hG R hM hv hp
  obtain ⟨a1, a2, a3, a4⟩ := a
  have r_a1 : -2147483648 ≤ a1 ∧ a1 ≤ 2147483647 := hv (0, a1) (List.mem_of_getElem? (i := 1) rfl)
  have r_a2 : -2147483648 ≤ a2 ∧ a2 ≤ 2147483647 := hv (0, a2) (List.mem_of_getElem? (i := 2) rfl)
  have r_a3 : -2147483648 ≤ a3 ∧ a3 ≤ 2147483647 := hv (0, a3) (List.mem_of_getElem? (i := 3) rfl)
  have r_a4 : -2147483648 ≤ a4 ∧ a4 ≤ 2147483647 := hv (0, a4) (List.mem_of_getElem? (i := 4) rfl)
  have hp0 : 0 ≤ a1 := hp.1
  have hp1 : a1 ≤ 2 := hp.2.1
  have hp2 : 0 ≤ a2 := hp.2.2.1
  have hp3 : a2 ≤ a3 := hp.2.2.2.1
  have hp4 : a3 ≤ 1999 := hp.2.2.2.2.1
  have hp5 : 0 ≤ a4 := hp.2.2.2.2.2.1
  have hp6 : a4 ≤ 9 := hp.2.2.2.2.2.2
  have B := @bk_ X G Q 0 0 ad SHS_ RX11 cX11_findBridge 8 none flX11 plX11 knX11 [(508, 3, TR_ as_G_X11_mayOn (rmI_) pre_G_X11_mayOn post_G_X11_mayOn)] _ _ none kX11_findBridge [19, 25, 37, 45, 52, 64, 92] flX11_ok plX11_ok knX11_ok eX11_findBridge oX11_findBridge
    (List.forall_mem_cons.mpr ⟨cok_v (t := 32) (c := 11) (N := 39) (n := 2) (idx := 254) E (ct_G_X11_mayOn X.2.1) (by rw [hR]; decide) (Nat.zero_le _) (Nat.zero_le _) hG rfl rfl ⟨rfl, by decide, by decide, by decide⟩ (fun _ => ⟨_, _, rfl, rfl⟩) wl_X11_254 wi_X11_mayOn ws_X11_mayOn wn_X11 wc_X11_mayOn, fun _ h => absurd h List.not_mem_nil⟩) R sok_no E
  show WP_ X G Q 0 0 ad SHS_ σ 0 [(42, 86), (0, a1), (0, a2), (0, a3), (0, a4), (9, 0), (9, 0), (9, 0)] []
  refine B rfl ?_
  intro σ1 e2
  intro σ3 e4
  show WP_ X G Q 0 0 ad SHS_ σ3 19 [(42, 86), (0, a1), (0, a2), (0, a3), (0, a4), (0, a2), (0, 0), (0, a2)] []
  refine wdrop_ (L' := [(42, 86), (0, a1), (9, 0), (0, a3), (0, a4), (0, a2), (0, 0), (0, a2)]) ⟨Or.inr rfl, ⟨Or.inr rfl, ⟨Or.inl rfl, ⟨Or.inr rfl, ⟨Or.inr rfl, ⟨Or.inr rfl, ⟨Or.inr rfl, ⟨Or.inr rfl, trivial⟩⟩⟩⟩⟩⟩⟩⟩ ?_
  have lp_19 : ∀ (nq_ : Nat) (v5 : Int) (v6 : Int) (v7 : Int) (τ19 : Me_t), (∀ k j : Int, ¬ (k = 86) → τ19 k j = σ k j) → (a2 ≤ v7) → (v7 ≤ a3 + 1) → (a2 ≤ v5) → (v5 ≤ v7) → (0 ≤ v6) → (v6 ≤ v7 - a2) → (v6 = pcn_ (σ 96) (2000 * a1) (v7).toNat - pcn_ (σ 96) (2000 * a1) (v5).toNat) → (a3 + 1 - v7 : Int).toNat < nq_ → WP_ X G Q 0 0 ad SHS_ τ19 19 [(42, 86), (0, a1), (9, 0), (0, a3), (0, a4), (0, v5), (0, v6), (0, v7)] [] := by
    intro nq_
    induction nq_ with
    | zero => intros; omega
    | succ nq_ ih_19 =>
      intro v5 v6 v7 τ19 hf19 hi19_0 hi19_1 hi19_2 hi19_3 hi19_4 hi19_5 hi19_6 hm19
      refine B rfl ?_
      refine And.intro (fun h5 => ?_) (fun h5 => ?_)
      · skip
        refine B rfl ?_
        refine Exists.intro 0 (And.intro rfl ?_)
        exact (fun k j hk => (hf19 _ _ (by omega)))
      · skip
        show WP_ X G Q 0 0 ad SHS_ τ19 25 [(42, 86), (0, a1), (9, 0), (0, a3), (0, a4), (0, v5), (0, v6), (0, v7)] []
        refine B rfl ?_
        refine Exists.intro (a1, v7) (And.intro rfl (And.intro (And.intro (by show 0 ≤ a1; omega) (And.intro (by show a1 ≤ 2; omega) (And.intro (by show 0 ≤ v7; omega) (by show v7 ≤ 1999; omega)))) ?_))
        rintro z6 m_ h7
        obtain rfl : τ19 = m_ := h7.2
        have h8 : (z6 = 1 ∧ τ19 96 (2000 * a1 + v7) = 0) ∨ (z6 = 0 ∧ τ19 96 (2000 * a1 + v7) ≠ 0) := h7.1
        try have t9 : τ19 96 (2000 * a1 + v7) = σ 96 (2000 * a1 + v7) := (hf19 _ _ (by omega))
        refine And.intro (fun h10 => ?_) (fun h10 => ?_)
        · skip
          refine B rfl ?_
          refine And.intro (by omega) ?_
          have lp_45 : ∀ (nq_ : Nat) (v5 : Int) (v6 : Int), (a2 ≤ v5) → (v5 ≤ v7 + 1) → (0 ≤ v6) → (v6 ≤ v7 - a2 + 1) → (v6 = pcn_ (σ 96) (2000 * a1) (v7 + 1).toNat - pcn_ (σ 96) (2000 * a1) (v5).toNat) → (v7 + 1 - v5 : Int).toNat < nq_ → WP_ X G Q 0 0 ad SHS_ τ19 45 [(42, 86), (0, a1), (9, 0), (0, a3), (0, a4), (0, v5), (0, v6), (0, v7)] [] := by
            intro nq_
            induction nq_ with
            | zero => intros; omega
            | succ nq_ ih_45 =>
              intro v5 v6 hi45_0 hi45_1 hi45_2 hi45_3 hi45_4 hm45
              refine B rfl ?_
              refine And.intro (fun h11 => ?_) (fun h11 => ?_)
              · skip
                refine B rfl ?_
                refine And.intro (by omega) ?_
                refine And.intro (by omega) ?_
                intro z12 ez12 hz12
                have hz12 : ((-2147483648) : Int) ≤ z12 ∧ z12 ≤ (2147483647 : Int) := rgl_ hz12 (by decide +kernel) (by decide +kernel) (by decide +kernel)
                try have t13 : τ19 86 19 = σ 86 19 := (hf19 _ _ (by omega))
                refine And.intro (fun h14 => ?_) (fun h14 => ?_)
                · skip
                  refine B rfl ?_
                  refine And.intro (by omega) ?_
                  refine And.intro (by omega) ?_
                  intro σ15 e16
                  intro σ17 e18
                  refine And.intro (by omega) ?_
                  exact ih_19 v5 v6 (v7 + 1) σ17 (fun k j hk => ((ups_r e18 (by omega)).trans ((ups_r e16 (by omega)).trans (hf19 _ _ (by omega))))) (by show a2 ≤ (v7 + 1); omega) (by show (v7 + 1) ≤ a3 + 1; omega) (by show a2 ≤ v5; omega) (by show v5 ≤ (v7 + 1); omega) (by show 0 ≤ v6; omega) (by show v6 ≤ (v7 + 1) - a2; omega) (by show v6 = pcn_ (σ 96) (2000 * a1) ((v7 + 1)).toNat - pcn_ (σ 96) (2000 * a1) (v5).toNat; omega) (by omega)
                · skip
                  show WP_ X G Q 0 0 ad SHS_ τ19 92 [(42, 86), (0, a1), (9, 0), (0, a3), (0, a4), (0, v5), (0, v6), (0, v7)] []
                  refine B rfl ?_
                  refine B rfl ?_
                  refine And.intro (by omega) ?_
                  exact ih_19 v5 v6 (v7 + 1) τ19 (fun k j hk => (hf19 _ _ (by omega))) (by show a2 ≤ (v7 + 1); omega) (by show (v7 + 1) ≤ a3 + 1; omega) (by show a2 ≤ v5; omega) (by show v5 ≤ (v7 + 1); omega) (by show 0 ≤ v6; omega) (by show v6 ≤ (v7 + 1) - a2; omega) (by show v6 = pcn_ (σ 96) (2000 * a1) ((v7 + 1)).toNat - pcn_ (σ 96) (2000 * a1) (v5).toNat; omega) (by omega)
              · skip
                show WP_ X G Q 0 0 ad SHS_ τ19 52 [(42, 86), (0, a1), (9, 0), (0, a3), (0, a4), (0, v5), (0, v6), (0, v7)] []
                refine B rfl ?_
                have hfd : v5 ≤ v7 := by
                  by_cases hq : v5 = v7 + 1
                  · rw [hq] at hi45_4; omega
                  · omega
                refine Exists.intro (a1, v5) (And.intro rfl (And.intro (And.intro (by show 0 ≤ a1; omega) (And.intro (by show a1 ≤ 2; omega) (And.intro (by show 0 ≤ v5; omega) (by show v5 ≤ 1999; omega)))) ?_))
                rintro z19 m_ h20
                obtain rfl : τ19 = m_ := h20.2
                have h21 : (z19 = 1 ∧ τ19 96 (2000 * a1 + v5) = 0) ∨ (z19 = 0 ∧ τ19 96 (2000 * a1 + v5) ≠ 0) := h20.1
                try have t22 : τ19 96 (2000 * a1 + v5) = σ 96 (2000 * a1 + v5) := (hf19 _ _ (by omega))
                refine And.intro (fun h23 => ?_) (fun h23 => ?_)
                · skip
                  refine B rfl ?_
                  refine And.intro (by omega) ?_
                  refine And.intro (by omega) ?_
                  exact ih_45 (v5 + 1) (v6 - 0) (by show a2 ≤ (v5 + 1); omega) (by show (v5 + 1) ≤ v7 + 1; omega) (by show 0 ≤ (v6 - 0); omega) (by show (v6 - 0) ≤ v7 - a2 + 1; omega) (by show (v6 - 0) = pcn_ (σ 96) (2000 * a1) (v7 + 1).toNat - pcn_ (σ 96) (2000 * a1) ((v5 + 1)).toNat; rw [pcn_s (by omega)]; split <;> omega) (by omega)
                · skip
                  show WP_ X G Q 0 0 ad SHS_ τ19 64 [(42, 86), (0, a1), (9, 0), (0, a3), (0, a4), (0, v5), (0, v6), (0, v7)] [(0, v6)]
                  refine B rfl ?_
                  refine B rfl ?_
                  refine And.intro (by omega) ?_
                  refine And.intro (by omega) ?_
                  exact ih_45 (v5 + 1) (v6 - 1) (by show a2 ≤ (v5 + 1); omega) (by show (v5 + 1) ≤ v7 + 1; omega) (by show 0 ≤ (v6 - 1); omega) (by show (v6 - 1) ≤ v7 - a2 + 1; omega) (by show (v6 - 1) = pcn_ (σ 96) (2000 * a1) (v7 + 1).toNat - pcn_ (σ 96) (2000 * a1) ((v5 + 1)).toNat; rw [pcn_s (by omega)]; split <;> omega) (by omega)
          exact lp_45 ((v7 + 1 - v5 : Int).toNat + 1) v5 (v6 + 0) (by show a2 ≤ v5; omega) (by show v5 ≤ v7 + 1; omega) (by show 0 ≤ (v6 + 0); omega) (by show (v6 + 0) ≤ v7 - a2 + 1; omega) (by show (v6 + 0) = pcn_ (σ 96) (2000 * a1) (v7 + 1).toNat - pcn_ (σ 96) (2000 * a1) (v5).toNat; rw [pcn_s (by omega)]; split <;> omega) (by omega)
        · skip
          show WP_ X G Q 0 0 ad SHS_ τ19 37 [(42, 86), (0, a1), (9, 0), (0, a3), (0, a4), (0, v5), (0, v6), (0, v7)] [(0, v6)]
          refine B rfl ?_
          refine B rfl ?_
          refine And.intro (by omega) ?_
          have lp_45 : ∀ (nq_ : Nat) (v5_1 : Int) (v6_1 : Int), (a2 ≤ v5_1) → (v5_1 ≤ v7 + 1) → (0 ≤ v6_1) → (v6_1 ≤ v7 - a2 + 1) → (v6_1 = pcn_ (σ 96) (2000 * a1) (v7 + 1).toNat - pcn_ (σ 96) (2000 * a1) (v5_1).toNat) → (v7 + 1 - v5_1 : Int).toNat < nq_ → WP_ X G Q 0 0 ad SHS_ τ19 45 [(42, 86), (0, a1), (9, 0), (0, a3), (0, a4), (0, v5_1), (0, v6_1), (0, v7)] [] := by
            intro nq_
            induction nq_ with
            | zero => intros; omega
            | succ nq_ ih_45 =>
              intro v5_1 v6_1 hi45_0 hi45_1 hi45_2 hi45_3 hi45_4 hm45
              refine B rfl ?_
              refine And.intro (fun h24 => ?_) (fun h24 => ?_)
              · skip
                refine B rfl ?_
                refine And.intro (by omega) ?_
                refine And.intro (by omega) ?_
                intro z25 ez25 hz25
                have hz25 : ((-2147483648) : Int) ≤ z25 ∧ z25 ≤ (2147483647 : Int) := rgl_ hz25 (by decide +kernel) (by decide +kernel) (by decide +kernel)
                try have t26 : τ19 86 19 = σ 86 19 := (hf19 _ _ (by omega))
                refine And.intro (fun h27 => ?_) (fun h27 => ?_)
                · skip
                  refine B rfl ?_
                  refine And.intro (by omega) ?_
                  refine And.intro (by omega) ?_
                  intro σ28 e29
                  intro σ30 e31
                  refine And.intro (by omega) ?_
                  exact ih_19 v5_1 v6_1 (v7 + 1) σ30 (fun k j hk => ((ups_r e31 (by omega)).trans ((ups_r e29 (by omega)).trans (hf19 _ _ (by omega))))) (by show a2 ≤ (v7 + 1); omega) (by show (v7 + 1) ≤ a3 + 1; omega) (by show a2 ≤ v5_1; omega) (by show v5_1 ≤ (v7 + 1); omega) (by show 0 ≤ v6_1; omega) (by show v6_1 ≤ (v7 + 1) - a2; omega) (by show v6_1 = pcn_ (σ 96) (2000 * a1) ((v7 + 1)).toNat - pcn_ (σ 96) (2000 * a1) (v5_1).toNat; omega) (by omega)
                · skip
                  show WP_ X G Q 0 0 ad SHS_ τ19 92 [(42, 86), (0, a1), (9, 0), (0, a3), (0, a4), (0, v5_1), (0, v6_1), (0, v7)] []
                  refine B rfl ?_
                  refine B rfl ?_
                  refine And.intro (by omega) ?_
                  exact ih_19 v5_1 v6_1 (v7 + 1) τ19 (fun k j hk => (hf19 _ _ (by omega))) (by show a2 ≤ (v7 + 1); omega) (by show (v7 + 1) ≤ a3 + 1; omega) (by show a2 ≤ v5_1; omega) (by show v5_1 ≤ (v7 + 1); omega) (by show 0 ≤ v6_1; omega) (by show v6_1 ≤ (v7 + 1) - a2; omega) (by show v6_1 = pcn_ (σ 96) (2000 * a1) ((v7 + 1)).toNat - pcn_ (σ 96) (2000 * a1) (v5_1).toNat; omega) (by omega)
              · skip
                show WP_ X G Q 0 0 ad SHS_ τ19 52 [(42, 86), (0, a1), (9, 0), (0, a3), (0, a4), (0, v5_1), (0, v6_1), (0, v7)] []
                refine B rfl ?_
                have hfd : v5_1 ≤ v7 := by
                  by_cases hq : v5_1 = v7 + 1
                  · rw [hq] at hi45_4; omega
                  · omega
                refine Exists.intro (a1, v5_1) (And.intro rfl (And.intro (And.intro (by show 0 ≤ a1; omega) (And.intro (by show a1 ≤ 2; omega) (And.intro (by show 0 ≤ v5_1; omega) (by show v5_1 ≤ 1999; omega)))) ?_))
                rintro z32 m_ h33
                obtain rfl : τ19 = m_ := h33.2
                have h34 : (z32 = 1 ∧ τ19 96 (2000 * a1 + v5_1) = 0) ∨ (z32 = 0 ∧ τ19 96 (2000 * a1 + v5_1) ≠ 0) := h33.1
                try have t35 : τ19 96 (2000 * a1 + v5_1) = σ 96 (2000 * a1 + v5_1) := (hf19 _ _ (by omega))
                refine And.intro (fun h36 => ?_) (fun h36 => ?_)
                · skip
                  refine B rfl ?_
                  refine And.intro (by omega) ?_
                  refine And.intro (by omega) ?_
                  exact ih_45 (v5_1 + 1) (v6_1 - 0) (by show a2 ≤ (v5_1 + 1); omega) (by show (v5_1 + 1) ≤ v7 + 1; omega) (by show 0 ≤ (v6_1 - 0); omega) (by show (v6_1 - 0) ≤ v7 - a2 + 1; omega) (by show (v6_1 - 0) = pcn_ (σ 96) (2000 * a1) (v7 + 1).toNat - pcn_ (σ 96) (2000 * a1) ((v5_1 + 1)).toNat; rw [pcn_s (by omega)]; split <;> omega) (by omega)
                · skip
                  show WP_ X G Q 0 0 ad SHS_ τ19 64 [(42, 86), (0, a1), (9, 0), (0, a3), (0, a4), (0, v5_1), (0, v6_1), (0, v7)] [(0, v6_1)]
                  refine B rfl ?_
                  refine B rfl ?_
                  refine And.intro (by omega) ?_
                  refine And.intro (by omega) ?_
                  exact ih_45 (v5_1 + 1) (v6_1 - 1) (by show a2 ≤ (v5_1 + 1); omega) (by show (v5_1 + 1) ≤ v7 + 1; omega) (by show 0 ≤ (v6_1 - 1); omega) (by show (v6_1 - 1) ≤ v7 - a2 + 1; omega) (by show (v6_1 - 1) = pcn_ (σ 96) (2000 * a1) (v7 + 1).toNat - pcn_ (σ 96) (2000 * a1) ((v5_1 + 1)).toNat; rw [pcn_s (by omega)]; split <;> omega) (by omega)
          exact lp_45 ((v7 + 1 - v5 : Int).toNat + 1) v5 (v6 + 1) (by show a2 ≤ v5; omega) (by show v5 ≤ v7 + 1; omega) (by show 0 ≤ (v6 + 1); omega) (by show (v6 + 1) ≤ v7 - a2 + 1; omega) (by show (v6 + 1) = pcn_ (σ 96) (2000 * a1) (v7 + 1).toNat - pcn_ (σ 96) (2000 * a1) (v5).toNat; rw [pcn_s (by omega)]; split <;> omega) (by omega)
  exact lp_19 ((a3 + 1 - a2 : Int).toNat + 1) a2 0 a2 σ3 (fun k j hk => ((ups_r e4 (by omega)).trans (ups_r e2 (by omega)))) (by show a2 ≤ a2; omega) (by show a2 ≤ a3 + 1; omega) (by show a2 ≤ a2; omega) (by show a2 ≤ a2; omega) (by show 0 ≤ 0; omega) (by show 0 ≤ a2 - a2; omega) (by show 0 = pcn_ (σ 96) (2000 * a1) (a2).toNat - pcn_ (σ 96) (2000 * a1) (a2).toNat; omega) (by omega)
def as_G_X11_bridge : Int × Int × Int × Int → List Sv_t := fun a => [(42, 86), (0, a.1), (0, a.2.1), (0, a.2.2.1), (0, a.2.2.2)]
def pre_G_X11_bridge : Int × Int × Int × Int → Me_t → Prop := fun a σ => (MI σ)
def post_G_X11_bridge : Int × Int × Int × Int → Me_t → Int → Me_t → Prop := fun a σ z σ' => (∀ k j : Int, ¬ (k = 86 ∨ (93 ≤ k ∧ k ≤ 96)) → σ' k j = σ k j)
set_option maxHeartbeats 1500000 in
set_option maxRecDepth 100000 in
theorem ct_G_X11_bridge (l : Launch) : CT_ l yX11_bridge cX11_bridge 5 (some .int) 4 92 as_G_X11_bridge (rmI_) pre_G_X11_bridge post_G_X11_bridge := by
  refine ct_of (by decide) (fun _ => Nat.le_of_ble_eq_true rfl) ?_
  intro X G Q ad σ a hl hR E hG R hM hv hp
  obtain ⟨a1, a2, a3, a4⟩ := a
  have r_a1 : -2147483648 ≤ a1 ∧ a1 ≤ 2147483647 := hv (0, a1) (List.mem_of_getElem? (i := 1) rfl)
  have r_a2 : -2147483648 ≤ a2 ∧ a2 ≤ 2147483647 := hv (0, a2) (List.mem_of_getElem? (i := 2) rfl)
  have r_a3 : -2147483648 ≤ a3 ∧ a3 ≤ 2147483647 := hv (0, a3) (List.mem_of_getElem? (i := 3) rfl)
  have r_a4 : -2147483648 ≤ a4 ∧ a4 ≤ 2147483647 := hv (0, a4) (List.mem_of_getElem? (i := 4) rfl)
  have hp0 : MI σ := hp
  have B := @bk_ X G Q 0 0 ad SHS_ RX11 cX11_bridge 5 (some .int) flX11 plX11 knX11 [(166, 2, TR_ as_G_X11_isLand (rmI_) pre_G_X11_isLand post_G_X11_isLand), (593, 2, TR_ as_G_X11_isSpan (rmI_) pre_G_X11_isSpan post_G_X11_isSpan), (159, 3, TR_ as_G_X11_in (rmI_) pre_G_X11_in post_G_X11_in), (538, 1, TR_ as_G_X11_lay (rmV_) pre_G_X11_lay post_G_X11_lay), (700, 5, TR_ as_G_X11_findBridge (rmV_) pre_G_X11_findBridge post_G_X11_findBridge)] _ _ none kX11_bridge [] flX11_ok plX11_ok knX11_ok eX11_bridge oX11_bridge
    (List.forall_mem_cons.mpr ⟨cok_v (t := 32) (c := 11) (N := 39) (n := 1) (idx := 83) E (ct_G_X11_isLand X.2.1) (by rw [hR]; decide) (Nat.zero_le _) (Nat.zero_le _) hG rfl rfl ⟨rfl, by decide, by decide, by decide⟩ (fun _ => ⟨_, _, rfl, rfl⟩) wl_X11_83 wi_X11_isLand ws_X11_isLand wn_X11 wc_X11_isLand, List.forall_mem_cons.mpr ⟨cok_s (n := 2) (idx := 296) E (ct_G_X11_isSpan X.2.1) (by rw [hR]; decide) (Nat.zero_le _) (Nat.zero_le _) hG ⟨by decide, by decide, by decide⟩ (fun _ => rfl) wl_X11_296 wt_X11_isSpan wn_X11 wc_X11_isSpan, List.forall_mem_cons.mpr ⟨cok_s (n := 3) (idx := 79) E (ct_G_X11_in X.2.1) (by rw [hR]; decide) (Nat.zero_le _) (Nat.zero_le _) hG ⟨by decide, by decide, by decide⟩ (fun _ => rfl) wl_X11_79 wt_X11_in wn_X11 wc_X11_in, List.forall_mem_cons.mpr ⟨cok_v (t := 32) (c := 11) (N := 39) (n := 0) (idx := 269) E (ct_G_X11_lay X.2.1) (by rw [hR]; decide) (Nat.zero_le _) (Nat.zero_le _) hG rfl rfl ⟨rfl, by decide, by decide, by decide⟩ (fun _ => ⟨_, _, rfl, rfl⟩) wl_X11_269 wi_X11_lay ws_X11_lay wn_X11 wc_X11_lay, List.forall_mem_cons.mpr ⟨cok_v (t := 32) (c := 11) (N := 39) (n := 4) (idx := 350) E (ct_G_X11_findBridge X.2.1) (by rw [hR]; decide) (Nat.zero_le _) (Nat.zero_le _) hG rfl rfl ⟨rfl, by decide, by decide, by decide⟩ (fun _ => ⟨_, _, rfl, rfl⟩) wl_X11_350 wi_X11_findBridge ws_X11_findBridge wn_X11 wc_X11_findBridge, fun _ h => absurd h List.not_mem_nil⟩⟩⟩⟩⟩) R sok_no E
  show WP_ X G Q 0 0 ad SHS_ σ 0 [(42, 86), (0, a1), (0, a2), (0, a3), (0, a4)] []
  refine B rfl ?_
  have p1 : BW σ 87 := (hp0).1.1
  refine Exists.intro a1 (And.intro rfl (And.intro p1 ?_))
  rintro z2 m_ h3
  obtain rfl : σ = m_ := h3.2
  have h4 : (z2 = 1 ∧ 0 ≤ a1 ∧ a1 ≤ 2 ∧ a1 < σ 87 1) ∨ z2 = 0 := h3.1
  refine And.intro (fun h5 => ?_) (fun h5 => ?_)
  · skip
    refine B rfl ?_
    refine Exists.intro _ (And.intro rfl ?_)
    exact (fun k j hk => rfl)
  · skip
    refine Exists.intro (a2, a3) (And.intro rfl (And.intro True.intro ?_))
    rintro z6 m_ h7
    obtain rfl : σ = m_ := h7.2
    have h8 : (z6 = 1 ∧ 0 ≤ a2 ∧ a2 ≤ a3 ∧ a3 ≤ 1999) ∨ z6 = 0 := h7.1
    refine And.intro (fun h9 => ?_) (fun h9 => ?_)
    · skip
      refine B rfl ?_
      refine Exists.intro _ (And.intro rfl ?_)
      exact (fun k j hk => rfl)
    · skip
      refine Exists.intro (a4, 0, 9) (And.intro rfl (And.intro True.intro ?_))
      rintro z10 m_ h11
      obtain rfl : σ = m_ := h11.2
      have h12 : (z10 = 1 ∧ 0 ≤ a4 ∧ a4 ≤ 9) ∨ (z10 = 0 ∧ ¬ (0 ≤ a4 ∧ a4 ≤ 9)) := h11.1
      refine And.intro (fun h13 => ?_) (fun h13 => ?_)
      · skip
        refine B rfl ?_
        refine Exists.intro () (And.intro rfl (And.intro hp0 ?_))
        intro z14 σ16 h15
        have f17 : ∀ k j : Int, ¬ (93 ≤ k ∧ k ≤ 96) → σ16 k j = σ k j := h15.2
        have h18 : LY σ16 := h15.1
        refine Exists.intro (a1, a2, a3, a4) (And.intro rfl (And.intro (And.intro (by show 0 ≤ a1; omega) (And.intro (by show a1 ≤ 2; omega) (And.intro (by show 0 ≤ a2; omega) (And.intro (by show a2 ≤ a3; omega) (And.intro (by show a3 ≤ 1999; omega) (And.intro (by show 0 ≤ a4; omega) (by show a4 ≤ 9; omega))))))) ?_))
        intro z19 σ21 h20
        have f22 : ∀ k j : Int, ¬ (k = 86) → σ21 k j = σ16 k j := h20
        intro z23 ez23 hz23
        have hz23 : ((-2147483648) : Int) ≤ z23 ∧ z23 ≤ (2147483647 : Int) := rgl_ hz23 (by decide +kernel) (by decide +kernel) (by decide +kernel)
        try have t24 : σ21 86 19 = σ 86 19 := ((f22 _ _ (by omega)).trans (f17 _ _ (by omega)))
        refine Exists.intro _ (And.intro rfl ?_)
        exact (fun k j hk => ((f22 _ _ (by omega)).trans (f17 _ _ (by omega))))
      · skip
        refine Exists.intro _ (And.intro rfl ?_)
        exact (fun k j hk => rfl)
def as_G_X11_bridged : Int × Int × Int × Int → List Sv_t := fun a => [(42, 86), (0, a.1), (0, a.2.1), (0, a.2.2.1), (0, a.2.2.2)]
def pre_G_X11_bridged : Int × Int × Int × Int → Me_t → Prop := fun a σ => (MI σ)
def post_G_X11_bridged : Int × Int × Int × Int → Me_t → Int → Me_t → Prop := fun a σ z σ' => (∀ k j : Int, ¬ (k = 86 ∨ (93 ≤ k ∧ k ≤ 96)) → σ' k j = σ k j)
set_option maxHeartbeats 1500000 in
set_option maxRecDepth 100000 in
theorem ct_G_X11_bridged (l : Launch) : CT_ l yX11_bridged cX11_bridged 5 (some .int) 4 92 as_G_X11_bridged (rmI_) pre_G_X11_bridged post_G_X11_bridged := by
  refine ct_of (by decide) (fun _ => Nat.le_of_ble_eq_true rfl) ?_
  intro X G Q ad σ a hl hR E hG R hM hv hp
  obtain ⟨a1, a2, a3, a4⟩ := a
  have r_a1 : -2147483648 ≤ a1 ∧ a1 ≤ 2147483647 := hv (0, a1) (List.mem_of_getElem? (i := 1) rfl)
  have r_a2 : -2147483648 ≤ a2 ∧ a2 ≤ 2147483647 := hv (0, a2) (List.mem_of_getElem? (i := 2) rfl)
  have r_a3 : -2147483648 ≤ a3 ∧ a3 ≤ 2147483647 := hv (0, a3) (List.mem_of_getElem? (i := 3) rfl)
  have r_a4 : -2147483648 ≤ a4 ∧ a4 ≤ 2147483647 := hv (0, a4) (List.mem_of_getElem? (i := 4) rfl)
  have hp0 : MI σ := hp
  have B := @bk_ X G Q 0 0 ad SHS_ RX11 cX11_bridged 5 (some .int) flX11 plX11 knX11 [(166, 2, TR_ as_G_X11_isLand (rmI_) pre_G_X11_isLand post_G_X11_isLand), (593, 2, TR_ as_G_X11_isSpan (rmI_) pre_G_X11_isSpan post_G_X11_isSpan), (159, 3, TR_ as_G_X11_in (rmI_) pre_G_X11_in post_G_X11_in), (538, 1, TR_ as_G_X11_lay (rmV_) pre_G_X11_lay post_G_X11_lay), (700, 5, TR_ as_G_X11_findBridge (rmV_) pre_G_X11_findBridge post_G_X11_findBridge)] _ _ none kX11_bridged [] flX11_ok plX11_ok knX11_ok eX11_bridged oX11_bridged
    (List.forall_mem_cons.mpr ⟨cok_v (t := 32) (c := 11) (N := 39) (n := 1) (idx := 83) E (ct_G_X11_isLand X.2.1) (by rw [hR]; decide) (Nat.zero_le _) (Nat.zero_le _) hG rfl rfl ⟨rfl, by decide, by decide, by decide⟩ (fun _ => ⟨_, _, rfl, rfl⟩) wl_X11_83 wi_X11_isLand ws_X11_isLand wn_X11 wc_X11_isLand, List.forall_mem_cons.mpr ⟨cok_s (n := 2) (idx := 296) E (ct_G_X11_isSpan X.2.1) (by rw [hR]; decide) (Nat.zero_le _) (Nat.zero_le _) hG ⟨by decide, by decide, by decide⟩ (fun _ => rfl) wl_X11_296 wt_X11_isSpan wn_X11 wc_X11_isSpan, List.forall_mem_cons.mpr ⟨cok_s (n := 3) (idx := 79) E (ct_G_X11_in X.2.1) (by rw [hR]; decide) (Nat.zero_le _) (Nat.zero_le _) hG ⟨by decide, by decide, by decide⟩ (fun _ => rfl) wl_X11_79 wt_X11_in wn_X11 wc_X11_in, List.forall_mem_cons.mpr ⟨cok_v (t := 32) (c := 11) (N := 39) (n := 0) (idx := 269) E (ct_G_X11_lay X.2.1) (by rw [hR]; decide) (Nat.zero_le _) (Nat.zero_le _) hG rfl rfl ⟨rfl, by decide, by decide, by decide⟩ (fun _ => ⟨_, _, rfl, rfl⟩) wl_X11_269 wi_X11_lay ws_X11_lay wn_X11 wc_X11_lay, List.forall_mem_cons.mpr ⟨cok_v (t := 32) (c := 11) (N := 39) (n := 4) (idx := 350) E (ct_G_X11_findBridge X.2.1) (by rw [hR]; decide) (Nat.zero_le _) (Nat.zero_le _) hG rfl rfl ⟨rfl, by decide, by decide, by decide⟩ (fun _ => ⟨_, _, rfl, rfl⟩) wl_X11_350 wi_X11_findBridge ws_X11_findBridge wn_X11 wc_X11_findBridge, fun _ h => absurd h List.not_mem_nil⟩⟩⟩⟩⟩) R sok_no E
  show WP_ X G Q 0 0 ad SHS_ σ 0 [(42, 86), (0, a1), (0, a2), (0, a3), (0, a4)] []
  refine B rfl ?_
  have p1 : BW σ 87 := (hp0).1.1
  refine Exists.intro a1 (And.intro rfl (And.intro p1 ?_))
  rintro z2 m_ h3
  obtain rfl : σ = m_ := h3.2
  have h4 : (z2 = 1 ∧ 0 ≤ a1 ∧ a1 ≤ 2 ∧ a1 < σ 87 1) ∨ z2 = 0 := h3.1
  refine And.intro (fun h5 => ?_) (fun h5 => ?_)
  · skip
    refine B rfl ?_
    refine Exists.intro _ (And.intro rfl ?_)
    exact (fun k j hk => rfl)
  · skip
    refine Exists.intro (a2, a3) (And.intro rfl (And.intro True.intro ?_))
    rintro z6 m_ h7
    obtain rfl : σ = m_ := h7.2
    have h8 : (z6 = 1 ∧ 0 ≤ a2 ∧ a2 ≤ a3 ∧ a3 ≤ 1999) ∨ z6 = 0 := h7.1
    refine And.intro (fun h9 => ?_) (fun h9 => ?_)
    · skip
      refine B rfl ?_
      refine Exists.intro _ (And.intro rfl ?_)
      exact (fun k j hk => rfl)
    · skip
      refine Exists.intro (a4, 0, 9) (And.intro rfl (And.intro True.intro ?_))
      rintro z10 m_ h11
      obtain rfl : σ = m_ := h11.2
      have h12 : (z10 = 1 ∧ 0 ≤ a4 ∧ a4 ≤ 9) ∨ (z10 = 0 ∧ ¬ (0 ≤ a4 ∧ a4 ≤ 9)) := h11.1
      refine And.intro (fun h13 => ?_) (fun h13 => ?_)
      · skip
        refine B rfl ?_
        refine Exists.intro () (And.intro rfl (And.intro hp0 ?_))
        intro z14 σ16 h15
        have f17 : ∀ k j : Int, ¬ (93 ≤ k ∧ k ≤ 96) → σ16 k j = σ k j := h15.2
        have h18 : LY σ16 := h15.1
        refine Exists.intro (a1, a2, a3, a4) (And.intro rfl (And.intro (And.intro (by show 0 ≤ a1; omega) (And.intro (by show a1 ≤ 2; omega) (And.intro (by show 0 ≤ a2; omega) (And.intro (by show a2 ≤ a3; omega) (And.intro (by show a3 ≤ 1999; omega) (And.intro (by show 0 ≤ a4; omega) (by show a4 ≤ 9; omega))))))) ?_))
        intro z19 σ21 h20
        have f22 : ∀ k j : Int, ¬ (k = 86) → σ21 k j = σ16 k j := h20
        intro z23 ez23 hz23
        have hz23 : ((-2147483648) : Int) ≤ z23 ∧ z23 ≤ (2147483647 : Int) := rgl_ hz23 (by decide +kernel) (by decide +kernel) (by decide +kernel)
        try have t24 : σ21 86 20 = σ 86 20 := ((f22 _ _ (by omega)).trans (f17 _ _ (by omega)))
        refine Exists.intro _ (And.intro rfl ?_)
        exact (fun k j hk => ((f22 _ _ (by omega)).trans (f17 _ _ (by omega))))
      · skip
        refine Exists.intro _ (And.intro rfl ?_)
        exact (fun k j hk => rfl)
def as_G_X11_keepChange : Int × Int → List Sv_t := fun a => [(42, 86), (0, a.1), (0, a.2)]
def pre_G_X11_keepChange : Int × Int → Me_t → Prop := fun a σ => (BW σ 87) ∧ (σ 87 5 ≤ 59) ∧ (0 ≤ a.1) ∧ (a.1 ≤ 2) ∧ (0 ≤ a.2) ∧ (a.2 ≤ 11)
def post_G_X11_keepChange : Int × Int → Me_t → Int → Me_t → Prop := fun a σ z σ' => (BW σ' 87) ∧ (σ' 87 5 = σ 87 5 + 1) ∧ (σ' 87 (135 + 6 * σ 87 5) = a.1) ∧ (σ' 87 (135 + 6 * σ 87 5 + 1) = a.2) ∧ (∀ j : Int, j ≠ 5 → j < 135 + 6 * σ 87 5 → σ' 87 j = σ 87 j) ∧ (∀ k j : Int, ¬ (k = 87) → σ' k j = σ k j)
set_option maxHeartbeats 1500000 in
set_option maxRecDepth 100000 in
theorem ct_G_X11_keepChange (l : Launch) : CT_ l yX11_keepChange cX11_keepChange 5 none 1 22 as_G_X11_keepChange (rmV_) pre_G_X11_keepChange post_G_X11_keepChange := by
  refine ct_of (by decide) (fun _ => Nat.le_of_ble_eq_true rfl) ?_
  intro X G Q ad σ a hl hR E hG R hM hv hp
  obtain ⟨a1, a2⟩ := a
  have r_a1 : -2147483648 ≤ a1 ∧ a1 ≤ 2147483647 := hv (0, a1) (List.mem_of_getElem? (i := 1) rfl)
  have r_a2 : -2147483648 ≤ a2 ∧ a2 ≤ 2147483647 := hv (0, a2) (List.mem_of_getElem? (i := 2) rfl)
  have hp0 : BW σ 87 := hp.1
  have hp1 : σ 87 5 ≤ 59 := hp.2.1
  have hp2 : 0 ≤ a1 := hp.2.2.1
  have hp3 : a1 ≤ 2 := hp.2.2.2.1
  have hp4 : 0 ≤ a2 := hp.2.2.2.2.1
  have hp5 : a2 ≤ 11 := hp.2.2.2.2.2
  have B := @bk_ X G Q 0 0 ad SHS_ RX11 cX11_keepChange 5 none flX11 plX11 knX11 [(484, 3, TR_ as_G_X11_ofFeast (rmI_) pre_G_X11_ofFeast post_G_X11_ofFeast)] _ _ none kX11_keepChange [33, 39, 54] flX11_ok plX11_ok knX11_ok eX11_keepChange oX11_keepChange
    (List.forall_mem_cons.mpr ⟨cok_v (t := 32) (c := 11) (N := 39) (n := 2) (idx := 242) E (ct_G_X11_ofFeast X.2.1) (by rw [hR]; decide) (Nat.zero_le _) (Nat.zero_le _) hG rfl rfl ⟨rfl, by decide, by decide, by decide⟩ (fun _ => ⟨_, _, rfl, rfl⟩) wl_X11_242 wi_X11_ofFeast ws_X11_ofFeast wn_X11 wc_X11_ofFeast, fun _ h => absurd h List.not_mem_nil⟩) R sok_no E
  show WP_ X G Q 0 0 ad SHS_ σ 0 [(42, 86), (0, a1), (0, a2), (9, 0), (9, 0)] []
  refine B rfl ?_
  refine And.intro (by omega) ?_
  intro z1 ez1 hz1
  have hz1 : ((-1) : Int) ≤ z1 ∧ z1 ≤ (1999 : Int) := hz1
  have b2 := wrh_ hp0 (i := 5) (by omega)
  have b2 : (0 : Int) ≤ σ 87 5 ∧ σ 87 5 ≤ (60 : Int) := b2
  refine And.intro (by omega) ?_
  refine And.intro (by omega) ?_
  refine And.intro (by omega) ?_
  refine And.intro (by show ((-1) : Int) ≤ _ ∧ _ ≤ (1999 : Int); omega) ?_
  intro σ3 e4
  have p5 : BW σ3 87 := wstc_ (c := σ 87 5) (w := 0) hp0 e4 (by omega) (by omega) (by omega) (by have e5 : cghi_ 0 = 2 := rfl; omega)
  refine And.intro (by omega) ?_
  refine And.intro (by omega) ?_
  refine And.intro (by show ((-1) : Int) ≤ _ ∧ _ ≤ (1999 : Int); omega) ?_
  intro σ6 e7
  have p8 : BW σ6 87 := wstc_ (c := σ 87 5) (w := 1) p5 e7 (by omega) (by omega) (by omega) (by have e5 : cghi_ 1 = 11 := rfl; omega)
  have lp_33 : ∀ (nq_ : Nat) (v4 : Int) (τ33 : Me_t), (∀ k j : Int, ¬ (k = 87) → τ33 k j = σ k j) → (0 ≤ v4) → (v4 ≤ 4) → (BW τ33 87) → (τ33 87 5 = σ 87 5) → (τ33 87 (135 + 6 * σ 87 5) = a1) → (τ33 87 (135 + 6 * σ 87 5 + 1) = a2) → (∀ j : Int, j < 135 + 6 * σ 87 5 → τ33 87 j = σ 87 j) → (4 - v4 : Int).toNat < nq_ → WP_ X G Q 0 0 ad SHS_ τ33 33 [(42, 86), (0, a1), (0, a2), (0, 135 + (6 * z1)), (0, v4)] [] := by
    intro nq_
    induction nq_ with
    | zero => intros; omega
    | succ nq_ ih_33 =>
      intro v4 τ33 hf33 hi33_0 hi33_1 hi33_2 hi33_3 hi33_4 hi33_5 hi33_6 hm33
      refine B rfl ?_
      refine And.intro (fun h9 => ?_) (fun h9 => ?_)
      · skip
        refine B rfl ?_
        refine And.intro (by omega) ?_
        intro z10 ez10 hz10
        have hz10 : ((-1) : Int) ≤ z10 ∧ z10 ≤ (1999 : Int) := hz10
        have b11 := wrh_ hi33_2 (i := 5) (by omega)
        have b11 : (0 : Int) ≤ τ33 87 5 ∧ τ33 87 5 ≤ (60 : Int) := b11
        refine And.intro (by omega) ?_
        refine And.intro (by omega) ?_
        refine And.intro (by show ((-1) : Int) ≤ _ ∧ _ ≤ (1999 : Int); omega) ?_
        intro σ12 e13
        have p14 : BW σ12 87 := wsth_ hi33_2 e13 (by omega) (by have e5 : hdhi_ 5 = 60 := rfl; omega)
        refine Exists.intro 0 (And.intro rfl ?_)
        have t15 : σ12 87 5 = z10 + 1 := ups_v e13
        try have t16 : σ12 87 (135 + 6 * σ 87 5) = τ33 87 (135 + 6 * σ 87 5) := (ups_r e13 (by omega))
        try have t17 : σ12 87 (135 + 6 * σ 87 5 + 1) = τ33 87 (135 + 6 * σ 87 5 + 1) := (ups_r e13 (by omega))
        exact (And.intro p14 (And.intro (by show σ12 87 5 = σ 87 5 + 1; omega) (And.intro (by show σ12 87 (135 + 6 * σ 87 5) = a1; omega) (And.intro (by show σ12 87 (135 + 6 * σ 87 5 + 1) = a2; omega) (And.intro (by show ∀ j : Int, j ≠ 5 → j < 135 + 6 * σ 87 5 → σ12 87 j = σ 87 j; intro j h1 h2; exact (ups_r e13 (by omega)).trans (hi33_6 j h2)) (fun k j hk => ((ups_r e13 (by omega)).trans (hf33 _ _ (by omega)))))))))
      · skip
        show WP_ X G Q 0 0 ad SHS_ τ33 39 [(42, 86), (0, a1), (0, a2), (0, 135 + (6 * z1)), (0, v4)] []
        refine B rfl ?_
        refine And.intro (by omega) ?_
        refine And.intro (by omega) ?_
        refine And.intro (fun h18 => ?_) (fun h18 => ?_)
        · skip
          refine B rfl ?_
          refine And.intro (by omega) ?_
          refine And.intro (by show ((-1) : Int) ≤ _ ∧ _ ≤ (1999 : Int); omega) ?_
          intro σ19 e20
          have p21 : BW σ19 87 := wstc_ (c := σ 87 5) (w := 2 + v4) hi33_2 e20 (by omega) (by omega) (by omega) (by rw [cg_ft ⟨by omega, by omega⟩]; have e5 := ft_0 (w := v4); omega)
          refine And.intro (by omega) ?_
          try have t22 : σ19 87 5 = τ33 87 5 := (ups_r e20 (by omega))
          try have t23 : σ19 87 (135 + 6 * σ 87 5) = τ33 87 (135 + 6 * σ 87 5) := (ups_r e20 (by omega))
          try have t24 : σ19 87 (135 + 6 * σ 87 5 + 1) = τ33 87 (135 + 6 * σ 87 5 + 1) := (ups_r e20 (by omega))
          exact ih_33 (v4 + 1) σ19 (fun k j hk => ((ups_r e20 (by omega)).trans (hf33 _ _ (by omega)))) (by show 0 ≤ (v4 + 1); omega) (by show (v4 + 1) ≤ 4; omega) p21 (by show σ19 87 5 = σ 87 5; omega) (by show σ19 87 (135 + 6 * σ 87 5) = a1; omega) (by show σ19 87 (135 + 6 * σ 87 5 + 1) = a2; omega) (by show ∀ j : Int, j < 135 + 6 * σ 87 5 → σ19 87 j = σ 87 j; intro j hj; exact ((ups_r e20 (by omega))).trans (hi33_6 j hj)) (by omega)
        · skip
          show WP_ X G Q 0 0 ad SHS_ τ33 54 [(42, 86), (0, a1), (0, a2), (0, 135 + (6 * z1)), (0, v4)] [(0, ((135 + (6 * z1)) + 2) + v4), (43, 87)]
          refine B rfl ?_
          refine Exists.intro (a2, v4) (And.intro rfl (And.intro (And.intro hi33_2 (And.intro (by show 0 ≤ a2; omega) (And.intro (by show a2 ≤ 11; omega) (And.intro (by show 0 ≤ v4; omega) (by show v4 ≤ 3; omega))))) ?_))
          rintro z25 m_ h26
          obtain rfl : τ33 = m_ := h26.2.2
          have h27 : 0 ≤ z25 ∧ z25 ≤ 59 := h26.1
          have h28 : z25 ≤ fthi_ v4 := h26.2.1
          refine B rfl ?_
          refine And.intro (by omega) ?_
          refine And.intro (by show ((-1) : Int) ≤ _ ∧ _ ≤ (1999 : Int); omega) ?_
          intro σ29 e30
          have p31 : BW σ29 87 := wstc_ (c := σ 87 5) (w := 2 + v4) hi33_2 e30 (by omega) (by omega) (by omega) (by rw [cg_ft ⟨by omega, by omega⟩]; have e5 := ft_0 (w := v4); omega)
          refine And.intro (by omega) ?_
          try have t32 : σ29 87 5 = τ33 87 5 := (ups_r e30 (by omega))
          try have t33 : σ29 87 (135 + 6 * σ 87 5) = τ33 87 (135 + 6 * σ 87 5) := (ups_r e30 (by omega))
          try have t34 : σ29 87 (135 + 6 * σ 87 5 + 1) = τ33 87 (135 + 6 * σ 87 5 + 1) := (ups_r e30 (by omega))
          exact ih_33 (v4 + 1) σ29 (fun k j hk => ((ups_r e30 (by omega)).trans (hf33 _ _ (by omega)))) (by show 0 ≤ (v4 + 1); omega) (by show (v4 + 1) ≤ 4; omega) p31 (by show σ29 87 5 = σ 87 5; omega) (by show σ29 87 (135 + 6 * σ 87 5) = a1; omega) (by show σ29 87 (135 + 6 * σ 87 5 + 1) = a2; omega) (by show ∀ j : Int, j < 135 + 6 * σ 87 5 → σ29 87 j = σ 87 j; intro j hj; exact ((ups_r e30 (by omega))).trans (hi33_6 j hj)) (by omega)
  try have t35 : σ6 87 5 = σ 87 5 := ((ups_r e7 (by omega)).trans (ups_r e4 (by omega)))
  try have t36 : σ6 87 (135 + 6 * σ 87 5) = σ 87 (135 + 6 * σ 87 5) := ((ups_r e7 (by omega)).trans (ups_r e4 (by omega)))
  try have t37 : σ6 87 (135 + 6 * σ 87 5 + 1) = σ 87 (135 + 6 * σ 87 5 + 1) := ((ups_r e7 (by omega)).trans (ups_r e4 (by omega)))
  exact lp_33 ((4 - 0 : Int).toNat + 1) 0 σ6 (fun k j hk => ((ups_r e7 (by omega)).trans (ups_r e4 (by omega)))) (by show 0 ≤ 0; omega) (by show 0 ≤ 4; omega) p8 (by show σ6 87 5 = σ 87 5; omega) (by show σ6 87 (135 + 6 * σ 87 5) = a1; rw [show 135 + 6 * σ 87 5 = (135 + (6 * z1)) by omega]; exact ((ups_r e7 (by omega))).trans (ups_v e4)) (by show σ6 87 (135 + 6 * σ 87 5 + 1) = a2; rw [show 135 + 6 * σ 87 5 + 1 = ((135 + (6 * z1)) + 1) by omega]; exact ups_v e7) (by show ∀ j : Int, j < 135 + 6 * σ 87 5 → σ6 87 j = σ 87 j; intro j hj; exact ((ups_r e7 (by omega)).trans (ups_r e4 (by omega)))) (by omega)
def as_G_X11_found : Int × Int × Int × Int → List Sv_t := fun a => [(42, 86), (0, a.1), (0, a.2.1), (0, a.2.2.1), (0, a.2.2.2)]
def pre_G_X11_found : Int × Int × Int × Int → Me_t → Prop := fun a σ => (MI σ)
def post_G_X11_found : Int × Int × Int × Int → Me_t → Int → Me_t → Prop := fun a σ z σ' => (MI σ') ∧ (∀ k j : Int, ¬ (k = 87) → σ' k j = σ k j)
set_option maxHeartbeats 1500000 in
set_option maxRecDepth 100000 in
theorem ct_G_X11_found (l : Launch) : CT_ l yX11_found cX11_found 6 (some .int) 2 48 as_G_X11_found (rmI_) pre_G_X11_found post_G_X11_found := by
  refine ct_of (by decide) (fun _ => Nat.le_of_ble_eq_true rfl) ?_
  intro X G Q ad σ a hl hR E hG R hM hv hp
  obtain ⟨a1, a2, a3, a4⟩ := a
  have r_a1 : -2147483648 ≤ a1 ∧ a1 ≤ 2147483647 := hv (0, a1) (List.mem_of_getElem? (i := 1) rfl)
  have r_a2 : -2147483648 ≤ a2 ∧ a2 ≤ 2147483647 := hv (0, a2) (List.mem_of_getElem? (i := 2) rfl)
  have r_a3 : -2147483648 ≤ a3 ∧ a3 ≤ 2147483647 := hv (0, a3) (List.mem_of_getElem? (i := 3) rfl)
  have r_a4 : -2147483648 ≤ a4 ∧ a4 ≤ 2147483647 := hv (0, a4) (List.mem_of_getElem? (i := 4) rfl)
  have hp0 : MI σ := hp
  have B := @bk_ X G Q 0 0 ad SHS_ RX11 cX11_found 6 (some .int) flX11 plX11 knX11 [(166, 2, TR_ as_G_X11_isLand (rmI_) pre_G_X11_isLand post_G_X11_isLand), (520, 3, TR_ as_G_X11_isMonth (rmI_) pre_G_X11_isMonth post_G_X11_isMonth), (200, 3, TR_ as_G_X11_of_x (rmI_) pre_G_X11_of_x post_G_X11_of_x), (159, 3, TR_ as_G_X11_in (rmI_) pre_G_X11_in post_G_X11_in), (912, 3, TR_ as_G_X11_keepChange (rmV_) pre_G_X11_keepChange post_G_X11_keepChange)] _ _ none kX11_found [9, 19, 40, 53, 67, 78] flX11_ok plX11_ok knX11_ok eX11_found oX11_found
    (List.forall_mem_cons.mpr ⟨cok_v (t := 32) (c := 11) (N := 39) (n := 1) (idx := 83) E (ct_G_X11_isLand X.2.1) (by rw [hR]; decide) (Nat.zero_le _) (Nat.zero_le _) hG rfl rfl ⟨rfl, by decide, by decide, by decide⟩ (fun _ => ⟨_, _, rfl, rfl⟩) wl_X11_83 wi_X11_isLand ws_X11_isLand wn_X11 wc_X11_isLand, List.forall_mem_cons.mpr ⟨cok_v (t := 32) (c := 11) (N := 39) (n := 2) (idx := 260) E (ct_G_X11_isMonth X.2.1) (by rw [hR]; decide) (Nat.zero_le _) (Nat.zero_le _) hG rfl rfl ⟨rfl, by decide, by decide, by decide⟩ (fun _ => ⟨_, _, rfl, rfl⟩) wl_X11_260 wi_X11_isMonth ws_X11_isMonth wn_X11 wc_X11_isMonth, List.forall_mem_cons.mpr ⟨cok_v (t := 32) (c := 11) (N := 39) (n := 2) (idx := 100) E (ct_G_X11_of_x X.2.1) (by rw [hR]; decide) (Nat.zero_le _) (Nat.zero_le _) hG rfl rfl ⟨rfl, by decide, by decide, by decide⟩ (fun _ => ⟨_, _, rfl, rfl⟩) wl_X11_100 wi_X11_of ws_X11_of wn_X11 wc_X11_of, List.forall_mem_cons.mpr ⟨cok_s (n := 3) (idx := 79) E (ct_G_X11_in X.2.1) (by rw [hR]; decide) (Nat.zero_le _) (Nat.zero_le _) hG ⟨by decide, by decide, by decide⟩ (fun _ => rfl) wl_X11_79 wt_X11_in wn_X11 wc_X11_in, List.forall_mem_cons.mpr ⟨cok_v (t := 32) (c := 11) (N := 39) (n := 2) (idx := 456) E (ct_G_X11_keepChange X.2.1) (by rw [hR]; decide) (Nat.zero_le _) (Nat.zero_le _) hG rfl rfl ⟨rfl, by decide, by decide, by decide⟩ (fun _ => ⟨_, _, rfl, rfl⟩) wl_X11_456 wi_X11_keepChange ws_X11_keepChange wn_X11 wc_X11_keepChange, fun _ h => absurd h List.not_mem_nil⟩⟩⟩⟩⟩) R sok_no E
  show WP_ X G Q 0 0 ad SHS_ σ 0 [(42, 86), (0, a1), (0, a2), (0, a3), (0, a4), (9, 0)] []
  refine B rfl ?_
  have p1 : BW σ 87 := (hp0).1.1
  refine Exists.intro a1 (And.intro rfl (And.intro p1 ?_))
  rintro z2 m_ h3
  obtain rfl : σ = m_ := h3.2
  have h4 : (z2 = 1 ∧ 0 ≤ a1 ∧ a1 ≤ 2 ∧ a1 < σ 87 1) ∨ z2 = 0 := h3.1
  refine And.intro (fun h5 => ?_) (fun h5 => ?_)
  · skip
    refine B rfl ?_
    refine Exists.intro _ (And.intro rfl ?_)
    exact (And.intro (by show MI σ; exact hp0) (fun k j hk => rfl))
  · skip
    show WP_ X G Q 0 0 ad SHS_ σ 9 [(42, 86), (0, a1), (0, a2), (0, a3), (0, a4), (9, 0)] []
    refine B rfl ?_
    refine Exists.intro (a1, a2) (And.intro rfl (And.intro (And.intro p1 (And.intro (by show 0 ≤ a1; omega) (by show a1 ≤ 2; omega))) ?_))
    rintro z6 m_ h7
    obtain rfl : σ = m_ := h7.2
    have h8 : (z6 = 1 ∧ 0 ≤ a2 ∧ a2 ≤ 7 ∧ a2 < σ 87 (6 + 15 * a1 + 3)) ∨ z6 = 0 := h7.1
    refine And.intro (fun h9 => ?_) (fun h9 => ?_)
    · skip
      refine B rfl ?_
      refine Exists.intro _ (And.intro rfl ?_)
      exact (And.intro (by show MI σ; exact hp0) (fun k j hk => rfl))
    · skip
      show WP_ X G Q 0 0 ad SHS_ σ 19 [(42, 86), (0, a1), (0, a2), (0, a3), (0, a4), (9, 0)] []
      refine B rfl ?_
      refine And.intro (by omega) ?_
      refine Exists.intro (a1, 7 + a2) (And.intro rfl (And.intro (And.intro p1 (And.intro (by show 0 ≤ a1; omega) (And.intro (by show a1 ≤ 2; omega) (And.intro (by show 0 ≤ (7 + a2); omega) (by show (7 + a2) ≤ 14; omega))))) ?_))
      rintro z10 m_ h11
      obtain rfl : σ = m_ := h11.2.2.2
      have h12 : z10 = σ 87 (6 + 15 * a1 + (7 + a2)) := h11.1
      have h13 : -1 ≤ z10 ∧ z10 ≤ 1999 := h11.2.1
      have h14 : 7 ≤ (7 + a2) → 0 ≤ z10 ∧ z10 ≤ 60 := h11.2.2.1
      refine And.intro (by omega) ?_
      refine Exists.intro (a3, 0, z10 - 1) (And.intro rfl (And.intro True.intro ?_))
      rintro z15 m_ h16
      obtain rfl : σ = m_ := h16.2
      have h17 : (z15 = 1 ∧ 0 ≤ a3 ∧ a3 ≤ (z10 - 1)) ∨ (z15 = 0 ∧ ¬ (0 ≤ a3 ∧ a3 ≤ (z10 - 1))) := h16.1
      refine And.intro (fun h18 => ?_) (fun h18 => ?_)
      · skip
        refine B rfl ?_
        refine Exists.intro _ (And.intro rfl ?_)
        exact (And.intro (by show MI σ; exact hp0) (fun k j hk => rfl))
      · skip
        show WP_ X G Q 0 0 ad SHS_ σ 40 [(42, 86), (0, a1), (0, a2), (0, a3), (0, a4), (9, 0)] []
        refine B rfl ?_
        refine Exists.intro (a4, 1, 9) (And.intro rfl (And.intro True.intro ?_))
        rintro z19 m_ h20
        obtain rfl : σ = m_ := h20.2
        have h21 : (z19 = 1 ∧ 1 ≤ a4 ∧ a4 ≤ 9) ∨ (z19 = 0 ∧ ¬ (1 ≤ a4 ∧ a4 ≤ 9)) := h20.1
        refine And.intro (fun h22 => ?_) (fun h22 => ?_)
        · skip
          refine B rfl ?_
          refine And.intro (by omega) ?_
          intro z23 ez23 hz23
          have hz23 : ((-1) : Int) ≤ z23 ∧ z23 ≤ (1999 : Int) := hz23
          have b24 := wrh_ p1 (i := 2) (by omega)
          have b24 : (0 : Int) ≤ σ 87 2 ∧ σ 87 2 ≤ (12 : Int) := b24
          refine And.intro (fun h25 => ?_) (fun h25 => ?_)
          · skip
            refine B rfl ?_
            refine Exists.intro _ (And.intro rfl ?_)
            exact (And.intro (by show MI σ; exact hp0) (fun k j hk => rfl))
          · skip
            show WP_ X G Q 0 0 ad SHS_ σ 67 [(42, 86), (0, a1), (0, a2), (0, a3), (0, a4), (9, 0)] []
            refine B rfl ?_
            refine And.intro (by omega) ?_
            intro z26 ez26 hz26
            have hz26 : ((-1) : Int) ≤ z26 ∧ z26 ≤ (1999 : Int) := hz26
            have b27 := wrh_ p1 (i := 5) (by omega)
            have b27 : (0 : Int) ≤ σ 87 5 ∧ σ 87 5 ≤ (60 : Int) := b27
            refine And.intro (fun h28 => ?_) (fun h28 => ?_)
            · skip
              refine B rfl ?_
              refine And.intro (by omega) ?_
              intro z29 ez29 hz29
              have q30 : z23 = z29 := ez23.trans ez29.symm
              subst q30
              have b31 := wrh_ p1 (i := 2) (by omega)
              have b31 : (0 : Int) ≤ σ 87 2 ∧ σ 87 2 ≤ (12 : Int) := b31
              refine And.intro (by omega) ?_
              refine And.intro (by omega) ?_
              refine And.intro (by omega) ?_
              intro z32 ez32 hz32
              have q33 : z23 = z32 := ez23.trans ez32.symm
              subst q33
              have b34 := wrh_ p1 (i := 2) (by omega)
              have b34 : (0 : Int) ≤ σ 87 2 ∧ σ 87 2 ≤ (12 : Int) := b34
              refine Exists.intro (0, z23) (And.intro rfl (And.intro (And.intro p1 (And.intro (by show σ 87 5 ≤ 59; omega) (And.intro (by show 0 ≤ 0; omega) (And.intro (by show 0 ≤ 2; omega) (And.intro (by show 0 ≤ z23; omega) (by show z23 ≤ 11; omega)))))) ?_))
              intro z35 σ37 h36
              have f38 : ∀ k j : Int, ¬ (k = 87) → σ37 k j = σ k j := h36.2.2.2.2.2
              have h39 : BW σ37 87 := h36.1
              have h40 : σ37 87 5 = σ 87 5 + 1 := h36.2.1
              have h41 : σ37 87 (135 + 6 * σ 87 5) = 0 := h36.2.2.1
              have h42 : σ37 87 (135 + 6 * σ 87 5 + 1) = z23 := h36.2.2.2.1
              have h43 : ∀ j : Int, j ≠ 5 → j < 135 + 6 * σ 87 5 → σ37 87 j = σ 87 j := h36.2.2.2.2.1
              have k1 : σ37 87 (135 + 6 * σ 87 5) = _ := h36.2.2.1
              have k2 : σ37 87 (135 + 6 * σ 87 5 + 1) = _ := h36.2.2.2.1
              have k3 : ∀ j : Int, j ≠ 5 → j < 135 + 6 * σ 87 5 → σ37 87 j = σ 87 j := h36.2.2.2.2.1
              have j1 : σ37 87 1 = σ 87 1 := k3 1 (by omega) (by omega)
              have j2 : σ37 87 2 = σ 87 2 := k3 2 (by omega) (by omega)
              have j3 : σ37 87 3 = σ 87 3 := k3 3 (by omega) (by omega)
              refine And.intro (by omega) ?_
              refine And.intro (by show ((-1) : Int) ≤ _ ∧ _ ≤ (1999 : Int); omega) ?_
              intro σ44 e45
              have p46 : BW σ44 87 := wstf_ (c := σ 87 2) (w := 0) h39 e45 (by omega) (by omega) (by omega) (by have e5 : fthi_ 0 = 2 := rfl; omega)
              refine And.intro (by omega) ?_
              refine And.intro (by omega) ?_
              refine And.intro (by show ((-1) : Int) ≤ _ ∧ _ ≤ (1999 : Int); omega) ?_
              intro σ47 e48
              have p49 : BW σ47 87 := wstf_ (c := σ 87 2) (w := 1) p46 e48 (by omega) (by omega) (by omega) (by have e5 : fthi_ 1 = 7 := rfl; omega)
              refine And.intro (by omega) ?_
              refine And.intro (by omega) ?_
              refine And.intro (by show ((-1) : Int) ≤ _ ∧ _ ≤ (1999 : Int); omega) ?_
              intro σ50 e51
              have p52 : BW σ50 87 := wstf_ (c := σ 87 2) (w := 2) p49 e51 (by omega) (by omega) (by omega) (by have e5 : fthi_ 2 = 59 := rfl; omega)
              refine And.intro (by omega) ?_
              refine And.intro (by omega) ?_
              refine And.intro (by show ((-1) : Int) ≤ _ ∧ _ ≤ (1999 : Int); omega) ?_
              intro σ53 e54
              have p55 : BW σ53 87 := wstf_ (c := σ 87 2) (w := 3) p52 e54 (by omega) (by omega) (by omega) (by have e5 : fthi_ 3 = 9 := rfl; omega)
              refine And.intro (by omega) ?_
              intro z56 ez56 hz56
              have hz56 : ((-1) : Int) ≤ z56 ∧ z56 ≤ (1999 : Int) := hz56
              try have t57 : σ53 87 2 = σ 87 2 := ((ups_r e54 (by omega)).trans ((ups_r e51 (by omega)).trans ((ups_r e48 (by omega)).trans ((ups_r e45 (by omega)).trans (show σ37 87 2 = σ 87 2 from by first | exact f38 _ _ (by omega) | exact h43 _ (by omega) (by omega))))))
              have b58 := wrh_ p55 (i := 2) (by omega)
              have b58 : (0 : Int) ≤ σ53 87 2 ∧ σ53 87 2 ≤ (12 : Int) := b58
              refine And.intro (by omega) ?_
              refine And.intro (by omega) ?_
              refine And.intro (by show ((-1) : Int) ≤ _ ∧ _ ≤ (1999 : Int); omega) ?_
              intro σ59 e60
              have p61 : BW σ59 87 := wsth_ p55 e60 (by omega) (by have e5 : hdhi_ 2 = 12 := rfl; omega)
              refine And.intro (by omega) ?_
              intro z62 ez62 hz62
              have hz62 : ((-1) : Int) ≤ z62 ∧ z62 ≤ (1999 : Int) := hz62
              have t63 : σ59 87 2 = z56 + 1 := ups_v e60
              have b64 := wrh_ p61 (i := 2) (by omega)
              have b64 : (0 : Int) ≤ σ59 87 2 ∧ σ59 87 2 ≤ (12 : Int) := b64
              refine And.intro (by omega) ?_
              refine Exists.intro _ (And.intro rfl ?_)
              try have t65 : σ59 87 1 = σ 87 1 := ((ups_r e60 (by omega)).trans ((ups_r e54 (by omega)).trans ((ups_r e51 (by omega)).trans ((ups_r e48 (by omega)).trans ((ups_r e45 (by omega)).trans (show σ37 87 1 = σ 87 1 from by first | exact f38 _ _ (by omega) | exact h43 _ (by omega) (by omega)))))))
              try have t66 : σ59 87 3 = σ 87 3 := ((ups_r e60 (by omega)).trans ((ups_r e54 (by omega)).trans ((ups_r e51 (by omega)).trans ((ups_r e48 (by omega)).trans ((ups_r e45 (by omega)).trans (show σ37 87 3 = σ 87 3 from by first | exact f38 _ _ (by omega) | exact h43 _ (by omega) (by omega)))))))
              try have t67 : σ59 87 5 = σ37 87 5 := ((ups_r e60 (by omega)).trans ((ups_r e54 (by omega)).trans ((ups_r e51 (by omega)).trans ((ups_r e48 (by omega)).trans (ups_r e45 (by omega))))))
              have t0 : σ59 87 (135 + 6 * σ 87 5) = _ := (((ups_r e60 (by omega)).trans ((ups_r e54 (by omega)).trans ((ups_r e51 (by omega)).trans ((ups_r e48 (by omega)).trans (ups_r e45 (by omega))))))).trans k1
              have t1 : σ59 87 (135 + 6 * σ 87 5 + 1) = _ := (((ups_r e60 (by omega)).trans ((ups_r e54 (by omega)).trans ((ups_r e51 (by omega)).trans ((ups_r e48 (by omega)).trans (ups_r e45 (by omega))))))).trans k2
              have tj : ∀ j : Int, 135 ≤ j → j < 135 + 6 * σ 87 5 → σ59 87 j = σ 87 j := fun j h1 h2 => (((ups_r e60 (by omega)).trans ((ups_r e54 (by omega)).trans ((ups_r e51 (by omega)).trans ((ups_r e48 (by omega)).trans (ups_r e45 (by omega))))))).trans (k3 j (by omega) (by omega))
              have tl : ∀ j : Int, 6 ≤ j → j < 51 → σ59 87 j = σ 87 j := fun j h1 h2 => (((ups_r e60 (by omega)).trans ((ups_r e54 (by omega)).trans ((ups_r e51 (by omega)).trans ((ups_r e48 (by omega)).trans (ups_r e45 (by omega))))))).trans (k3 j (by omega) (by omega))
              exact (And.intro (by show MI σ59; exact ⟨⟨p61, SW_eq hp0.1.2.1 (by omega) tl, UM_n hp0.1.2.2 (by omega) (by omega) tj ⟨by omega, by omega, by omega, by omega⟩ (by omega)⟩, fun k k0 k1 => WB_cg (fun i _ _ => ((ups_r e60 (by omega)).trans ((ups_r e54 (by omega)).trans ((ups_r e51 (by omega)).trans ((ups_r e48 (by omega)).trans ((ups_r e45 (by omega)).trans (show σ37 88 (495 * k + i) = σ 88 (495 * k + i) from by first | exact f38 _ _ (by omega) | exact h43 _ (by omega) (by omega)))))))) (hp0.2 k k0 k1)⟩) (fun k j hk => ((ups_r e60 (by omega)).trans ((ups_r e54 (by omega)).trans ((ups_r e51 (by omega)).trans ((ups_r e48 (by omega)).trans ((ups_r e45 (by omega)).trans (show σ37 k j = σ k j from by first | exact f38 _ _ (by omega) | exact h43 _ (by omega) (by omega) | (by_cases hka : k = 87; (rw [hka]; exact h43 _ (by omega) (by omega)); exact f38 _ _ (by omega))))))))))
            · skip
              show WP_ X G Q 0 0 ad SHS_ σ 78 [(42, 86), (0, a1), (0, a2), (0, a3), (0, a4), (9, 0)] []
              refine B rfl ?_
              refine Exists.intro _ (And.intro rfl ?_)
              exact (And.intro (by show MI σ; exact hp0) (fun k j hk => rfl))
        · skip
          show WP_ X G Q 0 0 ad SHS_ σ 53 [(42, 86), (0, a1), (0, a2), (0, a3), (0, a4), (9, 0)] []
          refine B rfl ?_
          refine Exists.intro _ (And.intro rfl ?_)
          exact (And.intro (by show MI σ; exact hp0) (fun k j hk => rfl))
def as_G_X11_grant : Int × Int × Int → List Sv_t := fun a => [(42, 86), (0, a.1), (0, a.2.1), (0, a.2.2)]
def pre_G_X11_grant : Int × Int × Int → Me_t → Prop := fun a σ => (MI σ)
def post_G_X11_grant : Int × Int × Int → Me_t → Int → Me_t → Prop := fun a σ z σ' => (MI σ') ∧ (∀ k j : Int, ¬ (k = 87) → σ' k j = σ k j)
set_option maxHeartbeats 1500000 in
set_option maxRecDepth 100000 in
theorem ct_G_X11_grant (l : Launch) : CT_ l yX11_grant cX11_grant 5 (some .int) 3 67 as_G_X11_grant (rmI_) pre_G_X11_grant post_G_X11_grant := by
  refine ct_of (by decide) (fun _ => Nat.le_of_ble_eq_true rfl) ?_
  intro X G Q ad σ a hl hR E hG R hM hv hp
  obtain ⟨a1, a2, a3⟩ := a
  have r_a1 : -2147483648 ≤ a1 ∧ a1 ≤ 2147483647 := hv (0, a1) (List.mem_of_getElem? (i := 1) rfl)
  have r_a2 : -2147483648 ≤ a2 ∧ a2 ≤ 2147483647 := hv (0, a2) (List.mem_of_getElem? (i := 2) rfl)
  have r_a3 : -2147483648 ≤ a3 ∧ a3 ≤ 2147483647 := hv (0, a3) (List.mem_of_getElem? (i := 3) rfl)
  have hp0 : MI σ := hp
  have B := @bk_ X G Q 0 0 ad SHS_ RX11 cX11_grant 5 (some .int) flX11 plX11 knX11 [(166, 2, TR_ as_G_X11_isLand (rmI_) pre_G_X11_isLand post_G_X11_isLand), (593, 2, TR_ as_G_X11_isSpan (rmI_) pre_G_X11_isSpan post_G_X11_isSpan), (912, 3, TR_ as_G_X11_keepChange (rmV_) pre_G_X11_keepChange post_G_X11_keepChange)] _ _ none kX11_grant [9, 17, 31, 42] flX11_ok plX11_ok knX11_ok eX11_grant oX11_grant
    (List.forall_mem_cons.mpr ⟨cok_v (t := 32) (c := 11) (N := 39) (n := 1) (idx := 83) E (ct_G_X11_isLand X.2.1) (by rw [hR]; decide) (Nat.zero_le _) (Nat.zero_le _) hG rfl rfl ⟨rfl, by decide, by decide, by decide⟩ (fun _ => ⟨_, _, rfl, rfl⟩) wl_X11_83 wi_X11_isLand ws_X11_isLand wn_X11 wc_X11_isLand, List.forall_mem_cons.mpr ⟨cok_s (n := 2) (idx := 296) E (ct_G_X11_isSpan X.2.1) (by rw [hR]; decide) (Nat.zero_le _) (Nat.zero_le _) hG ⟨by decide, by decide, by decide⟩ (fun _ => rfl) wl_X11_296 wt_X11_isSpan wn_X11 wc_X11_isSpan, List.forall_mem_cons.mpr ⟨cok_v (t := 32) (c := 11) (N := 39) (n := 2) (idx := 456) E (ct_G_X11_keepChange X.2.1) (by rw [hR]; decide) (Nat.zero_le _) (Nat.zero_le _) hG rfl rfl ⟨rfl, by decide, by decide, by decide⟩ (fun _ => ⟨_, _, rfl, rfl⟩) wl_X11_456 wi_X11_keepChange ws_X11_keepChange wn_X11 wc_X11_keepChange, fun _ h => absurd h List.not_mem_nil⟩⟩⟩) R sok_no E
  show WP_ X G Q 0 0 ad SHS_ σ 0 [(42, 86), (0, a1), (0, a2), (0, a3), (9, 0)] []
  refine B rfl ?_
  have p1 : BW σ 87 := (hp0).1.1
  refine Exists.intro a1 (And.intro rfl (And.intro p1 ?_))
  rintro z2 m_ h3
  obtain rfl : σ = m_ := h3.2
  have h4 : (z2 = 1 ∧ 0 ≤ a1 ∧ a1 ≤ 2 ∧ a1 < σ 87 1) ∨ z2 = 0 := h3.1
  refine And.intro (fun h5 => ?_) (fun h5 => ?_)
  · skip
    refine B rfl ?_
    refine Exists.intro _ (And.intro rfl ?_)
    exact (And.intro (by show MI σ; exact hp0) (fun k j hk => rfl))
  · skip
    show WP_ X G Q 0 0 ad SHS_ σ 9 [(42, 86), (0, a1), (0, a2), (0, a3), (9, 0)] []
    refine B rfl ?_
    refine Exists.intro (a2, a3) (And.intro rfl (And.intro True.intro ?_))
    rintro z6 m_ h7
    obtain rfl : σ = m_ := h7.2
    have h8 : (z6 = 1 ∧ 0 ≤ a2 ∧ a2 ≤ a3 ∧ a3 ≤ 1999) ∨ z6 = 0 := h7.1
    refine And.intro (fun h9 => ?_) (fun h9 => ?_)
    · skip
      refine B rfl ?_
      refine And.intro (by omega) ?_
      intro z10 ez10 hz10
      have hz10 : ((-1) : Int) ≤ z10 ∧ z10 ≤ (1999 : Int) := hz10
      have b11 := wrh_ p1 (i := 3) (by omega)
      have b11 : (0 : Int) ≤ σ 87 3 ∧ σ 87 3 ≤ (12 : Int) := b11
      refine And.intro (fun h12 => ?_) (fun h12 => ?_)
      · skip
        refine B rfl ?_
        refine Exists.intro _ (And.intro rfl ?_)
        exact (And.intro (by show MI σ; exact hp0) (fun k j hk => rfl))
      · skip
        show WP_ X G Q 0 0 ad SHS_ σ 31 [(42, 86), (0, a1), (0, a2), (0, a3), (9, 0)] []
        refine B rfl ?_
        refine And.intro (by omega) ?_
        intro z13 ez13 hz13
        have hz13 : ((-1) : Int) ≤ z13 ∧ z13 ≤ (1999 : Int) := hz13
        have b14 := wrh_ p1 (i := 5) (by omega)
        have b14 : (0 : Int) ≤ σ 87 5 ∧ σ 87 5 ≤ (60 : Int) := b14
        refine And.intro (fun h15 => ?_) (fun h15 => ?_)
        · skip
          refine B rfl ?_
          refine And.intro (by omega) ?_
          intro z16 ez16 hz16
          have q17 : z10 = z16 := ez10.trans ez16.symm
          subst q17
          have b18 := wrh_ p1 (i := 3) (by omega)
          have b18 : (0 : Int) ≤ σ 87 3 ∧ σ 87 3 ≤ (12 : Int) := b18
          refine And.intro (by omega) ?_
          refine And.intro (by omega) ?_
          refine And.intro (by omega) ?_
          intro z19 ez19 hz19
          have q20 : z10 = z19 := ez10.trans ez19.symm
          subst q20
          have b21 := wrh_ p1 (i := 3) (by omega)
          have b21 : (0 : Int) ≤ σ 87 3 ∧ σ 87 3 ≤ (12 : Int) := b21
          refine Exists.intro (1, z10) (And.intro rfl (And.intro (And.intro p1 (And.intro (by show σ 87 5 ≤ 59; omega) (And.intro (by show 0 ≤ 1; omega) (And.intro (by show 1 ≤ 2; omega) (And.intro (by show 0 ≤ z10; omega) (by show z10 ≤ 11; omega)))))) ?_))
          intro z22 σ24 h23
          have f25 : ∀ k j : Int, ¬ (k = 87) → σ24 k j = σ k j := h23.2.2.2.2.2
          have h26 : BW σ24 87 := h23.1
          have h27 : σ24 87 5 = σ 87 5 + 1 := h23.2.1
          have h28 : σ24 87 (135 + 6 * σ 87 5) = 1 := h23.2.2.1
          have h29 : σ24 87 (135 + 6 * σ 87 5 + 1) = z10 := h23.2.2.2.1
          have h30 : ∀ j : Int, j ≠ 5 → j < 135 + 6 * σ 87 5 → σ24 87 j = σ 87 j := h23.2.2.2.2.1
          have k1 : σ24 87 (135 + 6 * σ 87 5) = _ := h23.2.2.1
          have k2 : σ24 87 (135 + 6 * σ 87 5 + 1) = _ := h23.2.2.2.1
          have k3 : ∀ j : Int, j ≠ 5 → j < 135 + 6 * σ 87 5 → σ24 87 j = σ 87 j := h23.2.2.2.2.1
          have j1 : σ24 87 1 = σ 87 1 := k3 1 (by omega) (by omega)
          have j2 : σ24 87 2 = σ 87 2 := k3 2 (by omega) (by omega)
          have j3 : σ24 87 3 = σ 87 3 := k3 3 (by omega) (by omega)
          refine And.intro (by omega) ?_
          refine And.intro (by show ((-1) : Int) ≤ _ ∧ _ ≤ (1999 : Int); omega) ?_
          intro σ31 e32
          have p33 : BW σ31 87 := wstt_ (c := σ 87 3) (w := 0) h26 e32 (by omega) (by omega) (by omega) (by have e5 : tchi_ 0 = 2 := rfl; omega)
          refine And.intro (by omega) ?_
          refine And.intro (by omega) ?_
          refine And.intro (by show ((-1) : Int) ≤ _ ∧ _ ≤ (1999 : Int); omega) ?_
          intro σ34 e35
          have p36 : BW σ34 87 := wstt_ (c := σ 87 3) (w := 1) p33 e35 (by omega) (by omega) (by omega) (by have e5 : tchi_ 1 = 1999 := rfl; omega)
          refine And.intro (by omega) ?_
          refine And.intro (by omega) ?_
          refine And.intro (by show ((-1) : Int) ≤ _ ∧ _ ≤ (1999 : Int); omega) ?_
          intro σ37 e38
          have p39 : BW σ37 87 := wstt_ (c := σ 87 3) (w := 2) p36 e38 (by omega) (by omega) (by omega) (by have e5 : tchi_ 2 = 1999 := rfl; omega)
          refine And.intro (by omega) ?_
          intro z40 ez40 hz40
          have hz40 : ((-1) : Int) ≤ z40 ∧ z40 ≤ (1999 : Int) := hz40
          try have t41 : σ37 87 3 = σ 87 3 := ((ups_r e38 (by omega)).trans ((ups_r e35 (by omega)).trans ((ups_r e32 (by omega)).trans (show σ24 87 3 = σ 87 3 from by first | exact f25 _ _ (by omega) | exact h30 _ (by omega) (by omega)))))
          have b42 := wrh_ p39 (i := 3) (by omega)
          have b42 : (0 : Int) ≤ σ37 87 3 ∧ σ37 87 3 ≤ (12 : Int) := b42
          refine And.intro (by omega) ?_
          refine And.intro (by omega) ?_
          refine And.intro (by show ((-1) : Int) ≤ _ ∧ _ ≤ (1999 : Int); omega) ?_
          intro σ43 e44
          have p45 : BW σ43 87 := wsth_ p39 e44 (by omega) (by have e5 : hdhi_ 3 = 12 := rfl; omega)
          refine And.intro (by omega) ?_
          intro z46 ez46 hz46
          have hz46 : ((-1) : Int) ≤ z46 ∧ z46 ≤ (1999 : Int) := hz46
          have t47 : σ43 87 3 = z40 + 1 := ups_v e44
          have b48 := wrh_ p45 (i := 3) (by omega)
          have b48 : (0 : Int) ≤ σ43 87 3 ∧ σ43 87 3 ≤ (12 : Int) := b48
          refine And.intro (by omega) ?_
          refine Exists.intro _ (And.intro rfl ?_)
          try have t49 : σ43 87 1 = σ 87 1 := ((ups_r e44 (by omega)).trans ((ups_r e38 (by omega)).trans ((ups_r e35 (by omega)).trans ((ups_r e32 (by omega)).trans (show σ24 87 1 = σ 87 1 from by first | exact f25 _ _ (by omega) | exact h30 _ (by omega) (by omega))))))
          try have t50 : σ43 87 2 = σ 87 2 := ((ups_r e44 (by omega)).trans ((ups_r e38 (by omega)).trans ((ups_r e35 (by omega)).trans ((ups_r e32 (by omega)).trans (show σ24 87 2 = σ 87 2 from by first | exact f25 _ _ (by omega) | exact h30 _ (by omega) (by omega))))))
          try have t51 : σ43 87 5 = σ24 87 5 := ((ups_r e44 (by omega)).trans ((ups_r e38 (by omega)).trans ((ups_r e35 (by omega)).trans (ups_r e32 (by omega)))))
          have t0 : σ43 87 (135 + 6 * σ 87 5) = _ := (((ups_r e44 (by omega)).trans ((ups_r e38 (by omega)).trans ((ups_r e35 (by omega)).trans (ups_r e32 (by omega)))))).trans k1
          have t1 : σ43 87 (135 + 6 * σ 87 5 + 1) = _ := (((ups_r e44 (by omega)).trans ((ups_r e38 (by omega)).trans ((ups_r e35 (by omega)).trans (ups_r e32 (by omega)))))).trans k2
          have tj : ∀ j : Int, 135 ≤ j → j < 135 + 6 * σ 87 5 → σ43 87 j = σ 87 j := fun j h1 h2 => (((ups_r e44 (by omega)).trans ((ups_r e38 (by omega)).trans ((ups_r e35 (by omega)).trans (ups_r e32 (by omega)))))).trans (k3 j (by omega) (by omega))
          have tl : ∀ j : Int, 6 ≤ j → j < 51 → σ43 87 j = σ 87 j := fun j h1 h2 => (((ups_r e44 (by omega)).trans ((ups_r e38 (by omega)).trans ((ups_r e35 (by omega)).trans (ups_r e32 (by omega)))))).trans (k3 j (by omega) (by omega))
          exact (And.intro (by show MI σ43; exact ⟨⟨p45, SW_eq hp0.1.2.1 (by omega) tl, UM_n hp0.1.2.2 (by omega) (by omega) tj ⟨by omega, by omega, by omega, by omega⟩ (by omega)⟩, fun k k0 k1 => WB_cg (fun i _ _ => ((ups_r e44 (by omega)).trans ((ups_r e38 (by omega)).trans ((ups_r e35 (by omega)).trans ((ups_r e32 (by omega)).trans (show σ24 88 (495 * k + i) = σ 88 (495 * k + i) from by first | exact f25 _ _ (by omega) | exact h30 _ (by omega) (by omega))))))) (hp0.2 k k0 k1)⟩) (fun k j hk => ((ups_r e44 (by omega)).trans ((ups_r e38 (by omega)).trans ((ups_r e35 (by omega)).trans ((ups_r e32 (by omega)).trans (show σ24 k j = σ k j from by first | exact f25 _ _ (by omega) | exact h30 _ (by omega) (by omega) | (by_cases hka : k = 87; (rw [hka]; exact h30 _ (by omega) (by omega)); exact f25 _ _ (by omega)))))))))
        · skip
          show WP_ X G Q 0 0 ad SHS_ σ 42 [(42, 86), (0, a1), (0, a2), (0, a3), (9, 0)] []
          refine B rfl ?_
          refine Exists.intro _ (And.intro rfl ?_)
          exact (And.intro (by show MI σ; exact hp0) (fun k j hk => rfl))
    · skip
      show WP_ X G Q 0 0 ad SHS_ σ 17 [(42, 86), (0, a1), (0, a2), (0, a3), (9, 0)] []
      refine B rfl ?_
      refine Exists.intro _ (And.intro rfl ?_)
      exact (And.intro (by show MI σ; exact hp0) (fun k j hk => rfl))
def as_G_X11_ends : Int → List Sv_t := fun a => [(42, 86), (0, a)]
def pre_G_X11_ends : Int → Me_t → Prop := fun a σ => (MI σ)
def post_G_X11_ends : Int → Me_t → Int → Me_t → Prop := fun a σ z σ' => (MI σ') ∧ (∀ k j : Int, ¬ (k = 87) → σ' k j = σ k j)
set_option maxHeartbeats 1500000 in
set_option maxRecDepth 100000 in
theorem ct_G_X11_ends (l : Launch) : CT_ l yX11_ends cX11_ends 4 (some .int) 2 47 as_G_X11_ends (rmI_) pre_G_X11_ends post_G_X11_ends := by
  refine ct_of (by decide) (fun _ => Nat.le_of_ble_eq_true rfl) ?_
  intro X G Q ad σ a hl hR E hG R hM hv hp
  obtain ⟨a1, rfl⟩ : ∃ q : Int, q = a := ⟨_, rfl⟩
  have r_a1 : -2147483648 ≤ a1 ∧ a1 ≤ 2147483647 := hv (0, a1) (List.mem_of_getElem? (i := 1) rfl)
  have hp0 : MI σ := hp
  have B := @bk_ X G Q 0 0 ad SHS_ RX11 cX11_ends 4 (some .int) flX11 plX11 knX11 [(166, 2, TR_ as_G_X11_isLand (rmI_) pre_G_X11_isLand post_G_X11_isLand), (912, 3, TR_ as_G_X11_keepChange (rmV_) pre_G_X11_keepChange post_G_X11_keepChange), (484, 3, TR_ as_G_X11_ofFeast (rmI_) pre_G_X11_ofFeast post_G_X11_ofFeast)] _ _ none kX11_ends [9, 21, 25, 35, 45, 59, 82, 94] flX11_ok plX11_ok knX11_ok eX11_ends oX11_ends
    (List.forall_mem_cons.mpr ⟨cok_v (t := 32) (c := 11) (N := 39) (n := 1) (idx := 83) E (ct_G_X11_isLand X.2.1) (by rw [hR]; decide) (Nat.zero_le _) (Nat.zero_le _) hG rfl rfl ⟨rfl, by decide, by decide, by decide⟩ (fun _ => ⟨_, _, rfl, rfl⟩) wl_X11_83 wi_X11_isLand ws_X11_isLand wn_X11 wc_X11_isLand, List.forall_mem_cons.mpr ⟨cok_v (t := 32) (c := 11) (N := 39) (n := 2) (idx := 456) E (ct_G_X11_keepChange X.2.1) (by rw [hR]; decide) (Nat.zero_le _) (Nat.zero_le _) hG rfl rfl ⟨rfl, by decide, by decide, by decide⟩ (fun _ => ⟨_, _, rfl, rfl⟩) wl_X11_456 wi_X11_keepChange ws_X11_keepChange wn_X11 wc_X11_keepChange, List.forall_mem_cons.mpr ⟨cok_v (t := 32) (c := 11) (N := 39) (n := 2) (idx := 242) E (ct_G_X11_ofFeast X.2.1) (by rw [hR]; decide) (Nat.zero_le _) (Nat.zero_le _) hG rfl rfl ⟨rfl, by decide, by decide, by decide⟩ (fun _ => ⟨_, _, rfl, rfl⟩) wl_X11_242 wi_X11_ofFeast ws_X11_ofFeast wn_X11 wc_X11_ofFeast, fun _ h => absurd h List.not_mem_nil⟩⟩⟩) R sok_no E
  show WP_ X G Q 0 0 ad SHS_ σ 0 [(42, 86), (0, a1), (9, 0), (9, 0)] []
  refine B rfl ?_
  have p1 : BW σ 87 := (hp0).1.1
  refine Exists.intro a1 (And.intro rfl (And.intro p1 ?_))
  rintro z2 m_ h3
  obtain rfl : σ = m_ := h3.2
  have h4 : (z2 = 1 ∧ 0 ≤ a1 ∧ a1 ≤ 2 ∧ a1 < σ 87 1) ∨ z2 = 0 := h3.1
  refine And.intro (fun h5 => ?_) (fun h5 => ?_)
  · skip
    refine B rfl ?_
    refine And.intro (by omega) ?_
    intro z6 ez6 hz6
    have hz6 : ((-1) : Int) ≤ z6 ∧ z6 ≤ (1999 : Int) := hz6
    have b7 := wrh_ p1 (i := 2) (by omega)
    have b7 : (0 : Int) ≤ σ 87 2 ∧ σ 87 2 ≤ (12 : Int) := b7
    refine And.intro (by omega) ?_
    have lp_21 : ∀ (nq_ : Nat) (v2 : Int), (-1 ≤ v2) → (v2 ≤ 11) → (v2 < σ 87 2) → (v2 + 1 : Int).toNat < nq_ → WP_ X G Q 0 0 ad SHS_ σ 21 [(42, 86), (0, a1), (0, v2), (9, 0)] [] := by
      intro nq_
      induction nq_ with
      | zero => intros; omega
      | succ nq_ ih_21 =>
        intro v2 hi21_0 hi21_1 hi21_2 hm21
        refine B rfl ?_
        refine And.intro (fun h8 => ?_) (fun h8 => ?_)
        · skip
          refine B rfl ?_
          refine And.intro (fun h9 => ?_) (fun h9 => ?_)
          · skip
            refine B rfl ?_
            refine And.intro (by omega) ?_
            intro z10 ez10 hz10
            have hz10 : ((-1) : Int) ≤ z10 ∧ z10 ≤ (1999 : Int) := hz10
            have b11 := wrh_ p1 (i := 5) (by omega)
            have b11 : (0 : Int) ≤ σ 87 5 ∧ σ 87 5 ≤ (60 : Int) := b11
            refine And.intro (fun h12 => ?_) (fun h12 => ?_)
            · skip
              refine B rfl ?_
              refine Exists.intro (2, v2) (And.intro rfl (And.intro (And.intro p1 (And.intro (by show σ 87 5 ≤ 59; omega) (And.intro (by show 0 ≤ 2; omega) (And.intro (by show 2 ≤ 2; omega) (And.intro (by show 0 ≤ v2; omega) (by show v2 ≤ 11; omega)))))) ?_))
              intro z13 σ15 h14
              have f16 : ∀ k j : Int, ¬ (k = 87) → σ15 k j = σ k j := h14.2.2.2.2.2
              have h17 : BW σ15 87 := h14.1
              have h18 : σ15 87 5 = σ 87 5 + 1 := h14.2.1
              have h19 : σ15 87 (135 + 6 * σ 87 5) = 2 := h14.2.2.1
              have h20 : σ15 87 (135 + 6 * σ 87 5 + 1) = v2 := h14.2.2.2.1
              have h21 : ∀ j : Int, j ≠ 5 → j < 135 + 6 * σ 87 5 → σ15 87 j = σ 87 j := h14.2.2.2.2.1
              have k1 : σ15 87 (135 + 6 * σ 87 5) = _ := h14.2.2.1
              have k2 : σ15 87 (135 + 6 * σ 87 5 + 1) = _ := h14.2.2.2.1
              have k3 : ∀ j : Int, j ≠ 5 → j < 135 + 6 * σ 87 5 → σ15 87 j = σ 87 j := h14.2.2.2.2.1
              have j1 : σ15 87 1 = σ 87 1 := k3 1 (by omega) (by omega)
              have j2 : σ15 87 2 = σ 87 2 := k3 2 (by omega) (by omega)
              have j3 : σ15 87 3 = σ 87 3 := k3 3 (by omega) (by omega)
              refine And.intro (by omega) ?_
              intro z22 ez22 hz22
              have hz22 : ((-1) : Int) ≤ z22 ∧ z22 ≤ (1999 : Int) := hz22
              try have t23 : σ15 87 2 = σ 87 2 := (show σ15 87 2 = σ 87 2 from by first | exact f16 _ _ (by omega) | exact h21 _ (by omega) (by omega))
              have b24 := wrh_ h17 (i := 2) (by omega)
              have b24 : (0 : Int) ≤ σ15 87 2 ∧ σ15 87 2 ≤ (12 : Int) := b24
              refine And.intro (by omega) ?_
              refine And.intro (by omega) ?_
              refine And.intro (by show ((-1) : Int) ≤ _ ∧ _ ≤ (1999 : Int); omega) ?_
              intro σ25 e26
              have p27 : BW σ25 87 := wsth_ h17 e26 (by omega) (by have e5 : hdhi_ 2 = 12 := rfl; omega)
              refine And.intro (by omega) ?_
              show WP_ X G Q 0 0 ad SHS_ σ25 82 [(42, 86), (0, a1), (0, v2), (0, 4 * v2)] []
              refine wdrop_ (L' := [(42, 86), (9, 0), (0, v2), (0, 4 * v2)]) ⟨Or.inr rfl, ⟨Or.inl rfl, ⟨Or.inr rfl, ⟨Or.inr rfl, trivial⟩⟩⟩⟩ ?_
              have lp_82 : ∀ (nq_ : Nat) (v3 : Int) (τ82 : Me_t), (∀ k j : Int, ¬ (k = 87) → τ82 k j = σ k j) → (0 ≤ v3) → (v3 ≤ 48) → (BW τ82 87) → (τ82 87 2 = σ 87 2 - 1) → (τ82 87 3 = σ 87 3) → (τ82 87 1 = σ 87 1) → (τ82 87 5 = σ 87 5 + 1) → (τ82 87 (135 + 6 * σ 87 5) = 2) → (τ82 87 (135 + 6 * σ 87 5 + 1) = v2) → (∀ j : Int, 135 ≤ j ∧ j < 135 + 6 * σ 87 5 → τ82 87 j = σ 87 j) → (∀ j : Int, 6 ≤ j ∧ j < 51 → τ82 87 j = σ 87 j) → (48 - v3 : Int).toNat < nq_ → WP_ X G Q 0 0 ad SHS_ τ82 82 [(42, 86), (9, 0), (0, v2), (0, v3)] [] := by
                intro nq_
                induction nq_ with
                | zero => intros; omega
                | succ nq_ ih_82 =>
                  intro v3 τ82 hf82 hi82_0 hi82_1 hi82_2 hi82_3 hi82_4 hi82_5 hi82_6 hi82_7 hi82_8 hi82_9 hi82_10 hm82
                  refine B rfl ?_
                  refine And.intro (by omega) ?_
                  intro z28 ez28 hz28
                  have hz28 : ((-1) : Int) ≤ z28 ∧ z28 ≤ (1999 : Int) := hz28
                  have b29 := wrh_ hi82_2 (i := 2) (by omega)
                  have b29 : (0 : Int) ≤ τ82 87 2 ∧ τ82 87 2 ≤ (12 : Int) := b29
                  refine And.intro (by omega) ?_
                  refine And.intro (fun h30 => ?_) (fun h30 => ?_)
                  · skip
                    refine B rfl ?_
                    refine Exists.intro _ (And.intro rfl ?_)
                    exact (And.intro (by show MI τ82; exact ⟨⟨hi82_2, SW_eq hp0.1.2.1 hi82_5 (fun j h1 h2 => hi82_10 j ⟨h1, h2⟩), UM_n hp0.1.2.2 (by omega) (by omega) (fun j h1 h2 => hi82_9 j ⟨h1, h2⟩) ⟨by omega, by omega, by omega, by omega⟩ (by omega)⟩, fun k k0 k1 => WB_cg (fun i _ _ => (hf82 _ _ (by omega))) (hp0.2 k k0 k1)⟩) (fun k j hk => (hf82 _ _ (by omega))))
                  · skip
                    show WP_ X G Q 0 0 ad SHS_ τ82 94 [(42, 86), (9, 0), (0, v2), (0, v3)] []
                    refine B rfl ?_
                    refine And.intro (by omega) ?_
                    refine And.intro (by omega) ?_
                    refine And.intro (by omega) ?_
                    refine And.intro (by omega) ?_
                    intro z31 ez31 hz31
                    have hz31 : ((-1) : Int) ≤ z31 ∧ z31 ≤ (1999 : Int) := hz31
                    try have t32 : τ82 87 ((51 + v3) + 4) = σ 87 ((51 + v3) + 4) := (hf82 _ _ (by omega))
                    refine And.intro (by omega) ?_
                    refine And.intro (by show ((-1) : Int) ≤ _ ∧ _ ≤ (1999 : Int); omega) ?_
                    intro σ33 e34
                    have hw4 := w4_ (x := 51 + v3) (by omega)
                    have hw5 := hi82_2 (51 + v3 + 4) (by omega) (by omega)
                    have p35 : BW σ33 87 := wst_ hi82_2 e34 (by omega)
                    refine And.intro (by omega) ?_
                    try have t36 : σ33 87 2 = τ82 87 2 := (ups_r e34 (by omega))
                    try have t37 : σ33 87 3 = τ82 87 3 := (ups_r e34 (by omega))
                    try have t38 : σ33 87 1 = τ82 87 1 := (ups_r e34 (by omega))
                    try have t39 : σ33 87 5 = τ82 87 5 := (ups_r e34 (by omega))
                    try have t40 : σ33 87 (135 + 6 * σ 87 5) = τ82 87 (135 + 6 * σ 87 5) := (ups_r e34 (by omega))
                    try have t41 : σ33 87 (135 + 6 * σ 87 5 + 1) = τ82 87 (135 + 6 * σ 87 5 + 1) := (ups_r e34 (by omega))
                    exact ih_82 (v3 + 1) σ33 (fun k j hk => ((ups_r e34 (by omega)).trans (hf82 _ _ (by omega)))) (by show 0 ≤ (v3 + 1); omega) (by show (v3 + 1) ≤ 48; omega) p35 (by show σ33 87 2 = σ 87 2 - 1; omega) (by show σ33 87 3 = σ 87 3; omega) (by show σ33 87 1 = σ 87 1; omega) (by show σ33 87 5 = σ 87 5 + 1; omega) (by show σ33 87 (135 + 6 * σ 87 5) = 2; omega) (by show σ33 87 (135 + 6 * σ 87 5 + 1) = v2; omega) (by show ∀ j : Int, 135 ≤ j ∧ j < 135 + 6 * σ 87 5 → σ33 87 j = σ 87 j; intro j hj; exact ((ups_r e34 (by omega))).trans (hi82_9 j hj)) (by show ∀ j : Int, 6 ≤ j ∧ j < 51 → σ33 87 j = σ 87 j; intro j hj; exact ((ups_r e34 (by omega))).trans (hi82_10 j hj)) (by omega)
              have t42 : σ25 87 2 = z22 - 1 := ups_v e26
              try have t43 : σ25 87 3 = σ 87 3 := ((ups_r e26 (by omega)).trans (show σ15 87 3 = σ 87 3 from by first | exact f16 _ _ (by omega) | exact h21 _ (by omega) (by omega)))
              try have t44 : σ25 87 1 = σ 87 1 := ((ups_r e26 (by omega)).trans (show σ15 87 1 = σ 87 1 from by first | exact f16 _ _ (by omega) | exact h21 _ (by omega) (by omega)))
              try have t45 : σ25 87 5 = σ15 87 5 := (ups_r e26 (by omega))
              try have t46 : σ25 87 (135 + 6 * σ 87 5) = σ15 87 (135 + 6 * σ 87 5) := (ups_r e26 (by omega))
              try have t47 : σ25 87 (135 + 6 * σ 87 5 + 1) = σ15 87 (135 + 6 * σ 87 5 + 1) := (ups_r e26 (by omega))
              exact lp_82 ((48 - (4 * v2) : Int).toNat + 1) (4 * v2) σ25 (fun k j hk => ((ups_r e26 (by omega)).trans (show σ15 k j = σ k j from by first | exact f16 _ _ (by omega) | exact h21 _ (by omega) (by omega) | (by_cases hka : k = 87; (rw [hka]; exact h21 _ (by omega) (by omega)); exact f16 _ _ (by omega))))) (by show 0 ≤ (4 * v2); omega) (by show (4 * v2) ≤ 48; omega) p27 (by show σ25 87 2 = σ 87 2 - 1; omega) (by show σ25 87 3 = σ 87 3; omega) (by show σ25 87 1 = σ 87 1; omega) (by show σ25 87 5 = σ 87 5 + 1; omega) (by show σ25 87 (135 + 6 * σ 87 5) = 2; omega) (by show σ25 87 (135 + 6 * σ 87 5 + 1) = v2; omega) (by show ∀ j : Int, 135 ≤ j ∧ j < 135 + 6 * σ 87 5 → σ25 87 j = σ 87 j; intro j hj; exact ((ups_r e26 (by omega))).trans (k3 j (by omega) (by omega))) (by show ∀ j : Int, 6 ≤ j ∧ j < 51 → σ25 87 j = σ 87 j; intro j hj; exact ((ups_r e26 (by omega))).trans (k3 j (by omega) (by omega))) (by omega)
            · skip
              show WP_ X G Q 0 0 ad SHS_ σ 59 [(42, 86), (0, a1), (0, v2), (9, 0)] []
              refine B rfl ?_
              refine Exists.intro _ (And.intro rfl ?_)
              exact (And.intro (by show MI σ; exact hp0) (fun k j hk => rfl))
          · skip
            show WP_ X G Q 0 0 ad SHS_ σ 45 [(42, 86), (0, a1), (0, v2), (9, 0)] []
            refine B rfl ?_
            refine Exists.intro _ (And.intro rfl ?_)
            exact (And.intro (by show MI σ; exact hp0) (fun k j hk => rfl))
        · skip
          show WP_ X G Q 0 0 ad SHS_ σ 25 [(42, 86), (0, a1), (0, v2), (9, 0)] []
          refine B rfl ?_
          refine Exists.intro (v2, 0) (And.intro rfl (And.intro (And.intro p1 (And.intro (by show 0 ≤ v2; omega) (And.intro (by show v2 ≤ 11; omega) (And.intro (by show 0 ≤ 0; omega) (by show 0 ≤ 3; omega))))) ?_))
          rintro z48 m_ h49
          obtain rfl : σ = m_ := h49.2.2
          have h50 : 0 ≤ z48 ∧ z48 ≤ 59 := h49.1
          have h51 : z48 ≤ fthi_ 0 := h49.2.1
          refine And.intro (fun h52 => ?_) (fun h52 => ?_)
          · skip
            refine B rfl ?_
            refine And.intro (fun h53 => ?_) (fun h53 => ?_)
            · skip
              refine B rfl ?_
              refine And.intro (by omega) ?_
              intro z54 ez54 hz54
              have hz54 : ((-1) : Int) ≤ z54 ∧ z54 ≤ (1999 : Int) := hz54
              have b55 := wrh_ p1 (i := 5) (by omega)
              have b55 : (0 : Int) ≤ σ 87 5 ∧ σ 87 5 ≤ (60 : Int) := b55
              refine And.intro (fun h56 => ?_) (fun h56 => ?_)
              · skip
                refine B rfl ?_
                refine Exists.intro (2, v2) (And.intro rfl (And.intro (And.intro p1 (And.intro (by show σ 87 5 ≤ 59; omega) (And.intro (by show 0 ≤ 2; omega) (And.intro (by show 2 ≤ 2; omega) (And.intro (by show 0 ≤ v2; omega) (by show v2 ≤ 11; omega)))))) ?_))
                intro z57 σ59 h58
                have f60 : ∀ k j : Int, ¬ (k = 87) → σ59 k j = σ k j := h58.2.2.2.2.2
                have h61 : BW σ59 87 := h58.1
                have h62 : σ59 87 5 = σ 87 5 + 1 := h58.2.1
                have h63 : σ59 87 (135 + 6 * σ 87 5) = 2 := h58.2.2.1
                have h64 : σ59 87 (135 + 6 * σ 87 5 + 1) = v2 := h58.2.2.2.1
                have h65 : ∀ j : Int, j ≠ 5 → j < 135 + 6 * σ 87 5 → σ59 87 j = σ 87 j := h58.2.2.2.2.1
                have k1 : σ59 87 (135 + 6 * σ 87 5) = _ := h58.2.2.1
                have k2 : σ59 87 (135 + 6 * σ 87 5 + 1) = _ := h58.2.2.2.1
                have k3 : ∀ j : Int, j ≠ 5 → j < 135 + 6 * σ 87 5 → σ59 87 j = σ 87 j := h58.2.2.2.2.1
                have j1 : σ59 87 1 = σ 87 1 := k3 1 (by omega) (by omega)
                have j2 : σ59 87 2 = σ 87 2 := k3 2 (by omega) (by omega)
                have j3 : σ59 87 3 = σ 87 3 := k3 3 (by omega) (by omega)
                refine And.intro (by omega) ?_
                intro z66 ez66 hz66
                have hz66 : ((-1) : Int) ≤ z66 ∧ z66 ≤ (1999 : Int) := hz66
                try have t67 : σ59 87 2 = σ 87 2 := (show σ59 87 2 = σ 87 2 from by first | exact f60 _ _ (by omega) | exact h65 _ (by omega) (by omega))
                have b68 := wrh_ h61 (i := 2) (by omega)
                have b68 : (0 : Int) ≤ σ59 87 2 ∧ σ59 87 2 ≤ (12 : Int) := b68
                refine And.intro (by omega) ?_
                refine And.intro (by omega) ?_
                refine And.intro (by show ((-1) : Int) ≤ _ ∧ _ ≤ (1999 : Int); omega) ?_
                intro σ69 e70
                have p71 : BW σ69 87 := wsth_ h61 e70 (by omega) (by have e5 : hdhi_ 2 = 12 := rfl; omega)
                refine And.intro (by omega) ?_
                show WP_ X G Q 0 0 ad SHS_ σ69 82 [(42, 86), (0, a1), (0, v2), (0, 4 * v2)] []
                refine wdrop_ (L' := [(42, 86), (9, 0), (0, v2), (0, 4 * v2)]) ⟨Or.inr rfl, ⟨Or.inl rfl, ⟨Or.inr rfl, ⟨Or.inr rfl, trivial⟩⟩⟩⟩ ?_
                have lp_82 : ∀ (nq_ : Nat) (v3_1 : Int) (τ82_2 : Me_t), (∀ k j : Int, ¬ (k = 87) → τ82_2 k j = σ k j) → (0 ≤ v3_1) → (v3_1 ≤ 48) → (BW τ82_2 87) → (τ82_2 87 2 = σ 87 2 - 1) → (τ82_2 87 3 = σ 87 3) → (τ82_2 87 1 = σ 87 1) → (τ82_2 87 5 = σ 87 5 + 1) → (τ82_2 87 (135 + 6 * σ 87 5) = 2) → (τ82_2 87 (135 + 6 * σ 87 5 + 1) = v2) → (∀ j : Int, 135 ≤ j ∧ j < 135 + 6 * σ 87 5 → τ82_2 87 j = σ 87 j) → (∀ j : Int, 6 ≤ j ∧ j < 51 → τ82_2 87 j = σ 87 j) → (48 - v3_1 : Int).toNat < nq_ → WP_ X G Q 0 0 ad SHS_ τ82_2 82 [(42, 86), (9, 0), (0, v2), (0, v3_1)] [] := by
                  intro nq_
                  induction nq_ with
                  | zero => intros; omega
                  | succ nq_ ih_82 =>
                    intro v3_1 τ82_2 hf82 hi82_0 hi82_1 hi82_2 hi82_3 hi82_4 hi82_5 hi82_6 hi82_7 hi82_8 hi82_9 hi82_10 hm82
                    refine B rfl ?_
                    refine And.intro (by omega) ?_
                    intro z72 ez72 hz72
                    have hz72 : ((-1) : Int) ≤ z72 ∧ z72 ≤ (1999 : Int) := hz72
                    have b73 := wrh_ hi82_2 (i := 2) (by omega)
                    have b73 : (0 : Int) ≤ τ82_2 87 2 ∧ τ82_2 87 2 ≤ (12 : Int) := b73
                    refine And.intro (by omega) ?_
                    refine And.intro (fun h74 => ?_) (fun h74 => ?_)
                    · skip
                      refine B rfl ?_
                      refine Exists.intro _ (And.intro rfl ?_)
                      exact (And.intro (by show MI τ82_2; exact ⟨⟨hi82_2, SW_eq hp0.1.2.1 hi82_5 (fun j h1 h2 => hi82_10 j ⟨h1, h2⟩), UM_n hp0.1.2.2 (by omega) (by omega) (fun j h1 h2 => hi82_9 j ⟨h1, h2⟩) ⟨by omega, by omega, by omega, by omega⟩ (by omega)⟩, fun k k0 k1 => WB_cg (fun i _ _ => (hf82 _ _ (by omega))) (hp0.2 k k0 k1)⟩) (fun k j hk => (hf82 _ _ (by omega))))
                    · skip
                      show WP_ X G Q 0 0 ad SHS_ τ82_2 94 [(42, 86), (9, 0), (0, v2), (0, v3_1)] []
                      refine B rfl ?_
                      refine And.intro (by omega) ?_
                      refine And.intro (by omega) ?_
                      refine And.intro (by omega) ?_
                      refine And.intro (by omega) ?_
                      intro z75 ez75 hz75
                      have hz75 : ((-1) : Int) ≤ z75 ∧ z75 ≤ (1999 : Int) := hz75
                      try have t76 : τ82_2 87 ((51 + v3_1) + 4) = σ 87 ((51 + v3_1) + 4) := (hf82 _ _ (by omega))
                      refine And.intro (by omega) ?_
                      refine And.intro (by show ((-1) : Int) ≤ _ ∧ _ ≤ (1999 : Int); omega) ?_
                      intro σ77 e78
                      have hw4 := w4_ (x := 51 + v3_1) (by omega)
                      have hw5 := hi82_2 (51 + v3_1 + 4) (by omega) (by omega)
                      have p79 : BW σ77 87 := wst_ hi82_2 e78 (by omega)
                      refine And.intro (by omega) ?_
                      try have t80 : σ77 87 2 = τ82_2 87 2 := (ups_r e78 (by omega))
                      try have t81 : σ77 87 3 = τ82_2 87 3 := (ups_r e78 (by omega))
                      try have t82 : σ77 87 1 = τ82_2 87 1 := (ups_r e78 (by omega))
                      try have t83 : σ77 87 5 = τ82_2 87 5 := (ups_r e78 (by omega))
                      try have t84 : σ77 87 (135 + 6 * σ 87 5) = τ82_2 87 (135 + 6 * σ 87 5) := (ups_r e78 (by omega))
                      try have t85 : σ77 87 (135 + 6 * σ 87 5 + 1) = τ82_2 87 (135 + 6 * σ 87 5 + 1) := (ups_r e78 (by omega))
                      exact ih_82 (v3_1 + 1) σ77 (fun k j hk => ((ups_r e78 (by omega)).trans (hf82 _ _ (by omega)))) (by show 0 ≤ (v3_1 + 1); omega) (by show (v3_1 + 1) ≤ 48; omega) p79 (by show σ77 87 2 = σ 87 2 - 1; omega) (by show σ77 87 3 = σ 87 3; omega) (by show σ77 87 1 = σ 87 1; omega) (by show σ77 87 5 = σ 87 5 + 1; omega) (by show σ77 87 (135 + 6 * σ 87 5) = 2; omega) (by show σ77 87 (135 + 6 * σ 87 5 + 1) = v2; omega) (by show ∀ j : Int, 135 ≤ j ∧ j < 135 + 6 * σ 87 5 → σ77 87 j = σ 87 j; intro j hj; exact ((ups_r e78 (by omega))).trans (hi82_9 j hj)) (by show ∀ j : Int, 6 ≤ j ∧ j < 51 → σ77 87 j = σ 87 j; intro j hj; exact ((ups_r e78 (by omega))).trans (hi82_10 j hj)) (by omega)
                have t86 : σ69 87 2 = z66 - 1 := ups_v e70
                try have t87 : σ69 87 3 = σ 87 3 := ((ups_r e70 (by omega)).trans (show σ59 87 3 = σ 87 3 from by first | exact f60 _ _ (by omega) | exact h65 _ (by omega) (by omega)))
                try have t88 : σ69 87 1 = σ 87 1 := ((ups_r e70 (by omega)).trans (show σ59 87 1 = σ 87 1 from by first | exact f60 _ _ (by omega) | exact h65 _ (by omega) (by omega)))
                try have t89 : σ69 87 5 = σ59 87 5 := (ups_r e70 (by omega))
                try have t90 : σ69 87 (135 + 6 * σ 87 5) = σ59 87 (135 + 6 * σ 87 5) := (ups_r e70 (by omega))
                try have t91 : σ69 87 (135 + 6 * σ 87 5 + 1) = σ59 87 (135 + 6 * σ 87 5 + 1) := (ups_r e70 (by omega))
                exact lp_82 ((48 - (4 * v2) : Int).toNat + 1) (4 * v2) σ69 (fun k j hk => ((ups_r e70 (by omega)).trans (show σ59 k j = σ k j from by first | exact f60 _ _ (by omega) | exact h65 _ (by omega) (by omega) | (by_cases hka : k = 87; (rw [hka]; exact h65 _ (by omega) (by omega)); exact f60 _ _ (by omega))))) (by show 0 ≤ (4 * v2); omega) (by show (4 * v2) ≤ 48; omega) p71 (by show σ69 87 2 = σ 87 2 - 1; omega) (by show σ69 87 3 = σ 87 3; omega) (by show σ69 87 1 = σ 87 1; omega) (by show σ69 87 5 = σ 87 5 + 1; omega) (by show σ69 87 (135 + 6 * σ 87 5) = 2; omega) (by show σ69 87 (135 + 6 * σ 87 5 + 1) = v2; omega) (by show ∀ j : Int, 135 ≤ j ∧ j < 135 + 6 * σ 87 5 → σ69 87 j = σ 87 j; intro j hj; exact ((ups_r e70 (by omega))).trans (k3 j (by omega) (by omega))) (by show ∀ j : Int, 6 ≤ j ∧ j < 51 → σ69 87 j = σ 87 j; intro j hj; exact ((ups_r e70 (by omega))).trans (k3 j (by omega) (by omega))) (by omega)
              · skip
                show WP_ X G Q 0 0 ad SHS_ σ 59 [(42, 86), (0, a1), (0, v2), (9, 0)] []
                refine B rfl ?_
                refine Exists.intro _ (And.intro rfl ?_)
                exact (And.intro (by show MI σ; exact hp0) (fun k j hk => rfl))
            · skip
              show WP_ X G Q 0 0 ad SHS_ σ 45 [(42, 86), (0, a1), (0, v2), (9, 0)] []
              refine B rfl ?_
              refine Exists.intro _ (And.intro rfl ?_)
              exact (And.intro (by show MI σ; exact hp0) (fun k j hk => rfl))
          · skip
            show WP_ X G Q 0 0 ad SHS_ σ 35 [(42, 86), (0, a1), (0, v2), (9, 0)] []
            refine B rfl ?_
            refine And.intro (by omega) ?_
            exact ih_21 (v2 + (-1)) (by show -1 ≤ (v2 + (-1)); omega) (by show (v2 + (-1)) ≤ 11; omega) (by show (v2 + (-1)) < σ 87 2; omega) (by omega)
    exact lp_21 (((z6 - 1) + 1 : Int).toNat + 1) (z6 - 1) (by show -1 ≤ (z6 - 1); omega) (by show (z6 - 1) ≤ 11; omega) (by show (z6 - 1) < σ 87 2; omega) (by omega)
  · skip
    show WP_ X G Q 0 0 ad SHS_ σ 9 [(42, 86), (0, a1), (9, 0), (9, 0)] []
    refine B rfl ?_
    refine Exists.intro _ (And.intro rfl ?_)
    exact (And.intro (by show MI σ; exact hp0) (fun k j hk => rfl))
def as_G_X11_undo : Unit → List Sv_t := fun a => [(42, 86)]
def pre_G_X11_undo : Unit → Me_t → Prop := fun a σ => (MI σ)
def post_G_X11_undo : Unit → Me_t → Int → Me_t → Prop := fun a σ z σ' => (MI σ') ∧ (∀ k j : Int, ¬ (k = 87) → σ' k j = σ k j)
set_option maxHeartbeats 1500000 in
set_option maxRecDepth 100000 in
theorem ct_G_X11_undo (l : Launch) : CT_ l yX11_undo cX11_undo 4 (some .int) 1 20 as_G_X11_undo (rmI_) pre_G_X11_undo post_G_X11_undo := by
  refine ct_of (by decide) (fun _ => Nat.le_of_ble_eq_true rfl) ?_
  intro X G Q ad σ a hl hR E hG R hM hv hp
  have hp0 : MI σ := hp
  have B := @bk_ X G Q 0 0 ad SHS_ RX11 cX11_undo 4 (some .int) flX11 plX11 knX11 [(184, 1, TR_ as_G_X11_isWar (rmI_) pre_G_X11_isWar post_G_X11_isWar)] _ _ none kX11_undo [7, 19, 55, 78, 111, 118, 146, 151] flX11_ok plX11_ok knX11_ok eX11_undo oX11_undo
    (List.forall_mem_cons.mpr ⟨cok_v (t := 32) (c := 11) (N := 39) (n := 0) (idx := 92) E (ct_G_X11_isWar X.2.1) (by rw [hR]; decide) (Nat.zero_le _) (Nat.zero_le _) hG rfl rfl ⟨rfl, by decide, by decide, by decide⟩ (fun _ => ⟨_, _, rfl, rfl⟩) wl_X11_92 wi_X11_isWar ws_X11_isWar wn_X11 wc_X11_isWar, fun _ h => absurd h List.not_mem_nil⟩) R sok_no E
  show WP_ X G Q 0 0 ad SHS_ σ 0 [(42, 86), (9, 0), (9, 0), (9, 0)] []
  refine B rfl ?_
  refine Exists.intro () (And.intro rfl (And.intro True.intro ?_))
  rintro z1 m_ h2
  obtain rfl : σ = m_ := h2.2
  have h3 : 0 ≤ z1 ∧ z1 ≤ 1 := h2.1
  refine And.intro (fun h4 => ?_) (fun h4 => ?_)
  · skip
    refine B rfl ?_
    refine And.intro (by omega) ?_
    intro z5 ez5 hz5
    have hz5 : ((-1) : Int) ≤ z5 ∧ z5 ≤ (1999 : Int) := hz5
    have p6 : BW σ 87 := (hp0).1.1
    have b7 := wrh_ p6 (i := 5) (by omega)
    have b7 : (0 : Int) ≤ σ 87 5 ∧ σ 87 5 ≤ (60 : Int) := b7
    refine And.intro (fun h8 => ?_) (fun h8 => ?_)
    · skip
      refine B rfl ?_
      have hu := UM_t hp0.1.2.2 (by omega)
      refine And.intro (by omega) ?_
      intro z9 ez9 hz9
      have q10 : z5 = z9 := ez5.trans ez9.symm
      subst q10
      have b11 := wrh_ p6 (i := 5) (by omega)
      have b11 : (0 : Int) ≤ σ 87 5 ∧ σ 87 5 ≤ (60 : Int) := b11
      refine And.intro (by omega) ?_
      refine And.intro (by omega) ?_
      refine And.intro (by show ((-1) : Int) ≤ _ ∧ _ ≤ (1999 : Int); omega) ?_
      intro σ12 e13
      have p14 : BW σ12 87 := wsth_ p6 e13 (by omega) (by have e5 : hdhi_ 5 = 60 := rfl; omega)
      refine And.intro (by omega) ?_
      intro z15 ez15 hz15
      have hz15 : ((-1) : Int) ≤ z15 ∧ z15 ≤ (1999 : Int) := hz15
      have t16 : σ12 87 5 = z5 - 1 := ups_v e13
      have b17 := wrh_ p14 (i := 5) (by omega)
      have b17 : (0 : Int) ≤ σ12 87 5 ∧ σ12 87 5 ≤ (60 : Int) := b17
      refine And.intro (by omega) ?_
      refine And.intro (by omega) ?_
      refine And.intro (by omega) ?_
      intro z18 ez18 hz18
      have hz18 : ((-1) : Int) ≤ z18 ∧ z18 ≤ (1999 : Int) := hz18
      try have t19 : σ12 87 (135 + (6 * z15)) = σ 87 (135 + (6 * z15)) := (ups_r e13 (by omega))
      refine And.intro (fun h20 => ?_) (fun h20 => ?_)
      · skip
        refine B rfl ?_
        refine And.intro (by omega) ?_
        intro z21 ez21 hz21
        have q22 : z18 = z21 := ez18.trans ez21.symm
        subst q22
        refine And.intro (fun h23 => ?_) (fun h23 => ?_)
        · skip
          refine B rfl ?_
          refine And.intro (by omega) ?_
          refine And.intro (by omega) ?_
          intro z24 ez24 hz24
          have hz24 : ((-1) : Int) ≤ z24 ∧ z24 ≤ (1999 : Int) := hz24
          try have t25 : σ12 87 ((135 + (6 * z15)) + 1) = σ 87 ((135 + (6 * z15)) + 1) := (ups_r e13 (by omega))
          refine And.intro (by omega) ?_
          intro z26 ez26 hz26
          have hz26 : ((-1) : Int) ≤ z26 ∧ z26 ≤ (1999 : Int) := hz26
          try have t27 : σ12 87 2 = σ 87 2 := (ups_r e13 (by omega))
          have b28 := wrh_ p14 (i := 2) (by omega)
          have b28 : (0 : Int) ≤ σ12 87 2 ∧ σ12 87 2 ≤ (12 : Int) := b28
          refine And.intro (by omega) ?_
          refine And.intro (by omega) ?_
          have lp_111 : ∀ (nq_ : Nat) (v3 : Int) (τ111 : Me_t), (∀ k j : Int, ¬ (k = 87) → τ111 k j = σ k j) → (4 * z24 - 1 ≤ v3) → (v3 ≤ 43) → (BW τ111 87) → (τ111 87 1 = σ 87 1) → (τ111 87 2 = σ 87 2) → (τ111 87 3 = σ 87 3) → (τ111 87 5 = σ 87 5 - 1) → (∀ j : Int, 6 ≤ j ∧ j < 51 ∨ 135 ≤ j ∧ j < 495 → τ111 87 j = σ 87 j) → (v3 + 1 : Int).toNat < nq_ → WP_ X G Q 0 0 ad SHS_ τ111 111 [(42, 86), (0, 135 + (6 * z15)), (0, z24), (0, v3)] [] := by
            intro nq_
            induction nq_ with
            | zero => intros; omega
            | succ nq_ ih_111 =>
              intro v3 τ111 hf111 hi111_0 hi111_1 hi111_2 hi111_3 hi111_4 hi111_5 hi111_6 hi111_7 hm111
              refine B rfl ?_
              refine And.intro (by omega) ?_
              refine And.intro (fun h29 => ?_) (fun h29 => ?_)
              · skip
                refine B rfl ?_
                have lp_146 : ∀ (nq_ : Nat) (v3 : Int) (τ146 : Me_t), (∀ k j : Int, ¬ (k = 87) → τ146 k j = σ k j) → (0 ≤ v3) → (v3 ≤ 4) → (BW τ146 87) → (τ146 87 1 = σ 87 1) → (τ146 87 2 = σ 87 2) → (τ146 87 3 = σ 87 3) → (τ146 87 5 = σ 87 5 - 1) → (∀ j : Int, 6 ≤ j ∧ j < 51 ∨ 135 ≤ j ∧ j < 495 → τ146 87 j = σ 87 j) → (4 - v3 : Int).toNat < nq_ → WP_ X G Q 0 0 ad SHS_ τ146 146 [(42, 86), (0, 135 + (6 * z15)), (0, z24), (0, v3)] [] := by
                  intro nq_
                  induction nq_ with
                  | zero => intros; omega
                  | succ nq_ ih_146 =>
                    intro v3 τ146 hf146 hi146_0 hi146_1 hi146_2 hi146_3 hi146_4 hi146_5 hi146_6 hi146_7 hm146
                    refine B rfl ?_
                    refine And.intro (fun h30 => ?_) (fun h30 => ?_)
                    · skip
                      refine B rfl ?_
                      refine And.intro (by omega) ?_
                      intro z31 ez31 hz31
                      have hz31 : ((-1) : Int) ≤ z31 ∧ z31 ≤ (1999 : Int) := hz31
                      have b32 := wrh_ hi146_2 (i := 2) (by omega)
                      have b32 : (0 : Int) ≤ τ146 87 2 ∧ τ146 87 2 ≤ (12 : Int) := b32
                      refine And.intro (by omega) ?_
                      refine And.intro (by omega) ?_
                      refine And.intro (by show ((-1) : Int) ≤ _ ∧ _ ≤ (1999 : Int); omega) ?_
                      intro σ33 e34
                      have p35 : BW σ33 87 := wsth_ hi146_2 e34 (by omega) (by have e5 : hdhi_ 2 = 12 := rfl; omega)
                      refine And.intro (by omega) ?_
                      intro z36 ez36 hz36
                      have hz36 : ((-1) : Int) ≤ z36 ∧ z36 ≤ (1999 : Int) := hz36
                      try have t37 : σ33 87 5 = τ146 87 5 := (ups_r e34 (by omega))
                      have b38 := wrh_ p35 (i := 5) (by omega)
                      have b38 : (0 : Int) ≤ σ33 87 5 ∧ σ33 87 5 ≤ (60 : Int) := b38
                      refine Exists.intro _ (And.intro rfl ?_)
                      try have t39 : σ33 87 1 = τ146 87 1 := (ups_r e34 (by omega))
                      have t40 : σ33 87 2 = z31 + 1 := ups_v e34
                      try have t41 : σ33 87 3 = τ146 87 3 := (ups_r e34 (by omega))
                      have tj : ∀ j : Int, 6 ≤ j ∧ j < 51 ∨ 135 ≤ j ∧ j < 495 → σ33 87 j = σ 87 j := fun j hj => ((ups_r e34 (by omega))).trans (hi146_7 j hj)
                      exact (And.intro (by show MI σ33; exact ⟨⟨p35, SW_eq hp0.1.2.1 (by omega) (fun j h1 h2 => tj j (Or.inl ⟨h1, h2⟩)), UM_c hp0.1.2.2 (by omega) (by omega) (fun j h1 h2 => tj j (Or.inr ⟨h1, h2⟩)) (by omega) (by omega)⟩, fun k k0 k1 => WB_cg (fun i _ _ => ((ups_r e34 (by omega)).trans (hf146 _ _ (by omega)))) (hp0.2 k k0 k1)⟩) (fun k j hk => ((ups_r e34 (by omega)).trans (hf146 _ _ (by omega)))))
                    · skip
                      show WP_ X G Q 0 0 ad SHS_ τ146 151 [(42, 86), (0, 135 + (6 * z15)), (0, z24), (0, v3)] []
                      refine B rfl ?_
                      refine And.intro (by omega) ?_
                      refine And.intro (by omega) ?_
                      refine And.intro (by omega) ?_
                      refine And.intro (by omega) ?_
                      refine And.intro (by omega) ?_
                      refine And.intro (by omega) ?_
                      intro z42 ez42 hz42
                      have hz42 : ((-1) : Int) ≤ z42 ∧ z42 ≤ (1999 : Int) := hz42
                      try have t43 : τ146 87 (((135 + (6 * z15)) + 2) + v3) = σ 87 (((135 + (6 * z15)) + 2) + v3) := (hf146 _ _ (by omega))
                      refine And.intro (by omega) ?_
                      refine And.intro (by show ((-1) : Int) ≤ _ ∧ _ ≤ (1999 : Int); omega) ?_
                      intro σ44 e45
                      have hwc := wrc_ hi146_2 (x := 135 + 6 * (σ 87 5 - 1) + (2 + v3)) (c := σ 87 5 - 1) (w := 2 + v3) rfl (by omega) (by omega)
                      rw [cg_ft ⟨by omega, by omega⟩, show 135 + 6 * (σ 87 5 - 1) + (2 + v3) = (135 + (6 * z15)) + 2 + v3 by omega] at hwc
                      have p46 : BW σ44 87 := wstf_ (c := z24) (w := v3) hi146_2 e45 (by omega) (by omega) (by omega) (by omega)
                      refine And.intro (by omega) ?_
                      try have t47 : σ44 87 1 = τ146 87 1 := (ups_r e45 (by omega))
                      try have t48 : σ44 87 2 = τ146 87 2 := (ups_r e45 (by omega))
                      try have t49 : σ44 87 3 = τ146 87 3 := (ups_r e45 (by omega))
                      try have t50 : σ44 87 5 = τ146 87 5 := (ups_r e45 (by omega))
                      exact ih_146 (v3 + 1) σ44 (fun k j hk => ((ups_r e45 (by omega)).trans (hf146 _ _ (by omega)))) (by show 0 ≤ (v3 + 1); omega) (by show (v3 + 1) ≤ 4; omega) p46 (by show σ44 87 1 = σ 87 1; omega) (by show σ44 87 2 = σ 87 2; omega) (by show σ44 87 3 = σ 87 3; omega) (by show σ44 87 5 = σ 87 5 - 1; omega) (by show ∀ j : Int, 6 ≤ j ∧ j < 51 ∨ 135 ≤ j ∧ j < 495 → σ44 87 j = σ 87 j; intro j hj; exact ((ups_r e45 (by omega))).trans (hi146_7 j hj)) (by omega)
                exact lp_146 ((4 - 0 : Int).toNat + 1) 0 τ111 (fun k j hk => (hf111 _ _ (by omega))) (by show 0 ≤ 0; omega) (by show 0 ≤ 4; omega) hi111_2 (by show τ111 87 1 = σ 87 1; omega) (by show τ111 87 2 = σ 87 2; omega) (by show τ111 87 3 = σ 87 3; omega) (by show τ111 87 5 = σ 87 5 - 1; omega) (by show ∀ j : Int, 6 ≤ j ∧ j < 51 ∨ 135 ≤ j ∧ j < 495 → τ111 87 j = σ 87 j; intro j hj; exact (rfl).trans (hi111_7 j hj)) (by omega)
              · skip
                show WP_ X G Q 0 0 ad SHS_ τ111 118 [(42, 86), (0, 135 + (6 * z15)), (0, z24), (0, v3)] []
                refine B rfl ?_
                refine And.intro (by omega) ?_
                refine And.intro (by omega) ?_
                refine And.intro (by omega) ?_
                refine And.intro (by omega) ?_
                intro z51 ez51 hz51
                have hz51 : ((-1) : Int) ≤ z51 ∧ z51 ≤ (1999 : Int) := hz51
                try have t52 : τ111 87 (51 + v3) = σ 87 (51 + v3) := (hf111 _ _ (by omega))
                refine And.intro (by omega) ?_
                refine And.intro (by show ((-1) : Int) ≤ _ ∧ _ ≤ (1999 : Int); omega) ?_
                intro σ53 e54
                have hw4 := w4_ (x := 51 + v3) (by omega)
                have hw5 := hi111_2 (51 + v3) (by omega) (by omega)
                have p55 : BW σ53 87 := wst_ hi111_2 e54 (by omega)
                refine And.intro (by omega) ?_
                try have t56 : σ53 87 1 = τ111 87 1 := (ups_r e54 (by omega))
                try have t57 : σ53 87 2 = τ111 87 2 := (ups_r e54 (by omega))
                try have t58 : σ53 87 3 = τ111 87 3 := (ups_r e54 (by omega))
                try have t59 : σ53 87 5 = τ111 87 5 := (ups_r e54 (by omega))
                exact ih_111 (v3 + (-1)) σ53 (fun k j hk => ((ups_r e54 (by omega)).trans (hf111 _ _ (by omega)))) (by show 4 * z24 - 1 ≤ (v3 + (-1)); omega) (by show (v3 + (-1)) ≤ 43; omega) p55 (by show σ53 87 1 = σ 87 1; omega) (by show σ53 87 2 = σ 87 2; omega) (by show σ53 87 3 = σ 87 3; omega) (by show σ53 87 5 = σ 87 5 - 1; omega) (by show ∀ j : Int, 6 ≤ j ∧ j < 51 ∨ 135 ≤ j ∧ j < 495 → σ53 87 j = σ 87 j; intro j hj; exact ((ups_r e54 (by omega))).trans (hi111_7 j hj)) (by omega)
          try have t60 : σ12 87 1 = σ 87 1 := (ups_r e13 (by omega))
          try have t61 : σ12 87 3 = σ 87 3 := (ups_r e13 (by omega))
          exact lp_111 ((((4 * z26) - 1) + 1 : Int).toNat + 1) ((4 * z26) - 1) σ12 (fun k j hk => (ups_r e13 (by omega))) (by show 4 * z24 - 1 ≤ ((4 * z26) - 1); omega) (by show ((4 * z26) - 1) ≤ 43; omega) p14 (by show σ12 87 1 = σ 87 1; omega) (by show σ12 87 2 = σ 87 2; omega) (by show σ12 87 3 = σ 87 3; omega) (by show σ12 87 5 = σ 87 5 - 1; omega) (by show ∀ j : Int, 6 ≤ j ∧ j < 51 ∨ 135 ≤ j ∧ j < 495 → σ12 87 j = σ 87 j; intro j hj; exact (ups_r e13 (by omega))) (by omega)
        · skip
          show WP_ X G Q 0 0 ad SHS_ σ12 78 [(42, 86), (0, 135 + (6 * z15)), (9, 0), (9, 0)] []
          refine B rfl ?_
          refine And.intro (by omega) ?_
          intro z62 ez62 hz62
          have hz62 : ((-1) : Int) ≤ z62 ∧ z62 ≤ (1999 : Int) := hz62
          try have t63 : σ12 87 3 = σ 87 3 := (ups_r e13 (by omega))
          have b64 := wrh_ p14 (i := 3) (by omega)
          have b64 : (0 : Int) ≤ σ12 87 3 ∧ σ12 87 3 ≤ (12 : Int) := b64
          refine And.intro (by omega) ?_
          refine And.intro (by omega) ?_
          refine And.intro (by show ((-1) : Int) ≤ _ ∧ _ ≤ (1999 : Int); omega) ?_
          intro σ65 e66
          have p67 : BW σ65 87 := wsth_ p14 e66 (by omega) (by have e5 : hdhi_ 3 = 12 := rfl; omega)
          refine B rfl ?_
          refine And.intro (by omega) ?_
          intro z68 ez68 hz68
          have hz68 : ((-1) : Int) ≤ z68 ∧ z68 ≤ (1999 : Int) := hz68
          try have t69 : σ65 87 5 = σ12 87 5 := (ups_r e66 (by omega))
          have b70 := wrh_ p67 (i := 5) (by omega)
          have b70 : (0 : Int) ≤ σ65 87 5 ∧ σ65 87 5 ≤ (60 : Int) := b70
          refine Exists.intro _ (And.intro rfl ?_)
          try have t71 : σ65 87 1 = σ 87 1 := ((ups_r e66 (by omega)).trans (ups_r e13 (by omega)))
          try have t72 : σ65 87 2 = σ 87 2 := ((ups_r e66 (by omega)).trans (ups_r e13 (by omega)))
          have t73 : σ65 87 3 = z62 - 1 := ups_v e66
          have tj : ∀ j : Int, 6 ≤ j ∧ j < 51 ∨ 135 ≤ j ∧ j < 495 → σ65 87 j = σ 87 j := fun j hj => ((ups_r e66 (by omega)).trans (ups_r e13 (by omega)))
          exact (And.intro (by show MI σ65; exact ⟨⟨p67, SW_eq hp0.1.2.1 (by omega) (fun j h1 h2 => tj j (Or.inl ⟨h1, h2⟩)), UM_c hp0.1.2.2 (by omega) (by omega) (fun j h1 h2 => tj j (Or.inr ⟨h1, h2⟩)) (by omega) (by omega)⟩, fun k k0 k1 => WB_cg (fun i _ _ => ((ups_r e66 (by omega)).trans (ups_r e13 (by omega)))) (hp0.2 k k0 k1)⟩) (fun k j hk => ((ups_r e66 (by omega)).trans (ups_r e13 (by omega)))))
      · skip
        show WP_ X G Q 0 0 ad SHS_ σ12 55 [(42, 86), (0, 135 + (6 * z15)), (9, 0), (9, 0)] []
        refine B rfl ?_
        refine And.intro (by omega) ?_
        intro z74 ez74 hz74
        have hz74 : ((-1) : Int) ≤ z74 ∧ z74 ≤ (1999 : Int) := hz74
        try have t75 : σ12 87 2 = σ 87 2 := (ups_r e13 (by omega))
        have b76 := wrh_ p14 (i := 2) (by omega)
        have b76 : (0 : Int) ≤ σ12 87 2 ∧ σ12 87 2 ≤ (12 : Int) := b76
        refine And.intro (by omega) ?_
        refine And.intro (by omega) ?_
        refine And.intro (by show ((-1) : Int) ≤ _ ∧ _ ≤ (1999 : Int); omega) ?_
        intro σ77 e78
        have p79 : BW σ77 87 := wsth_ p14 e78 (by omega) (by have e5 : hdhi_ 2 = 12 := rfl; omega)
        refine B rfl ?_
        refine And.intro (by omega) ?_
        intro z80 ez80 hz80
        have hz80 : ((-1) : Int) ≤ z80 ∧ z80 ≤ (1999 : Int) := hz80
        try have t81 : σ77 87 5 = σ12 87 5 := (ups_r e78 (by omega))
        have b82 := wrh_ p79 (i := 5) (by omega)
        have b82 : (0 : Int) ≤ σ77 87 5 ∧ σ77 87 5 ≤ (60 : Int) := b82
        refine Exists.intro _ (And.intro rfl ?_)
        try have t83 : σ77 87 1 = σ 87 1 := ((ups_r e78 (by omega)).trans (ups_r e13 (by omega)))
        have t84 : σ77 87 2 = z74 - 1 := ups_v e78
        try have t85 : σ77 87 3 = σ 87 3 := ((ups_r e78 (by omega)).trans (ups_r e13 (by omega)))
        have tj : ∀ j : Int, 6 ≤ j ∧ j < 51 ∨ 135 ≤ j ∧ j < 495 → σ77 87 j = σ 87 j := fun j hj => ((ups_r e78 (by omega)).trans (ups_r e13 (by omega)))
        exact (And.intro (by show MI σ77; exact ⟨⟨p79, SW_eq hp0.1.2.1 (by omega) (fun j h1 h2 => tj j (Or.inl ⟨h1, h2⟩)), UM_c hp0.1.2.2 (by omega) (by omega) (fun j h1 h2 => tj j (Or.inr ⟨h1, h2⟩)) (by omega) (by omega)⟩, fun k k0 k1 => WB_cg (fun i _ _ => ((ups_r e78 (by omega)).trans (ups_r e13 (by omega)))) (hp0.2 k k0 k1)⟩) (fun k j hk => ((ups_r e78 (by omega)).trans (ups_r e13 (by omega)))))
    · skip
      show WP_ X G Q 0 0 ad SHS_ σ 19 [(42, 86), (9, 0), (9, 0), (9, 0)] []
      refine B rfl ?_
      refine Exists.intro _ (And.intro rfl ?_)
      exact (And.intro (by show MI σ; exact hp0) (fun k j hk => rfl))
  · skip
    show WP_ X G Q 0 0 ad SHS_ σ 7 [(42, 86), (9, 0), (9, 0), (9, 0)] []
    refine B rfl ?_
    refine Exists.intro _ (And.intro rfl ?_)
    exact (And.intro (by show MI σ; exact hp0) (fun k j hk => rfl))
