def as_G_X11_isDate : Int × Int × Int × Int → List Sv_t := fun a => [(42, 86), (0, a.1), (1, a.2.1), (1, a.2.2.1), (1, a.2.2.2)]
def pre_G_X11_isDate : Int × Int × Int × Int → Me_t → Prop := fun a σ => (BW σ 87) ∧ (0 ≤ a.1) ∧ (a.1 ≤ 2)
def post_G_X11_isDate : Int × Int × Int × Int → Me_t → Int → Me_t → Prop := fun a σ z σ' => ((z = 1 ∧ 0 ≤ a.2.1 ∧ a.2.1 ≤ 1999 ∧ 0 ≤ a.2.2.1 ∧ a.2.2.1 ≤ 7 ∧ 0 ≤ a.2.2.2 ∧ a.2.2.2 ≤ 68) ∨ z = 0) ∧ (σ = σ')
set_option maxHeartbeats 1500000 in
set_option maxRecDepth 100000 in
theorem ct_G_X11_isDate (l : Launch) : CT_ l yX11_isDate cX11_isDate 8 (some .boolean) 2 48 as_G_X11_isDate (rmI_) pre_G_X11_isDate post_G_X11_isDate := by
  refine ct_of (by decide) (fun _ => Nat.le_of_ble_eq_true rfl) ?_
  intro X G Q ad σ a hl hR E hG R hM hv hp
  obtain ⟨a1, a2, a3, a4⟩ := a
  have r_a1 : -2147483648 ≤ a1 ∧ a1 ≤ 2147483647 := hv (0, a1) (List.mem_of_getElem? (i := 1) rfl)
  have r_a2 : -9223372036854775808 ≤ a2 ∧ a2 ≤ 9223372036854775807 := hv (1, a2) (List.mem_of_getElem? (i := 2) rfl)
  have r_a3 : -9223372036854775808 ≤ a3 ∧ a3 ≤ 9223372036854775807 := hv (1, a3) (List.mem_of_getElem? (i := 3) rfl)
  have r_a4 : -9223372036854775808 ≤ a4 ∧ a4 ≤ 9223372036854775807 := hv (1, a4) (List.mem_of_getElem? (i := 4) rfl)
  have hp0 : BW σ 87 := hp.1
  have hp1 : 0 ≤ a1 := hp.2.1
  have hp2 : a1 ≤ 2 := hp.2.2
  have B := @bk_ X G Q 0 0 ad SHS_ RX11 cX11_isDate 8 (some .boolean) flX11 plX11 knX11 [(529, 1, TR_ as_G_X11_isYear (rmI_) pre_G_X11_isYear post_G_X11_isYear), (520, 3, TR_ as_G_X11_isMonth (rmI_) pre_G_X11_isMonth post_G_X11_isMonth), (208, 4, TR_ as_G_X11_lengthOf (rmI_) pre_G_X11_lengthOf post_G_X11_lengthOf), (159, 3, TR_ as_G_X11_in (rmI_) pre_G_X11_in post_G_X11_in)] _ _ none kX11_isDate [] flX11_ok plX11_ok knX11_ok eX11_isDate oX11_isDate
    (List.forall_mem_cons.mpr ⟨cok_s (n := 1) (idx := 264) E (ct_G_X11_isYear X.2.1) (by rw [hR]; decide) (Nat.zero_le _) (Nat.zero_le _) hG ⟨by decide, by decide, by decide⟩ (fun _ => rfl) wl_X11_264 wt_X11_isYear wn_X11 wc_X11_isYear, List.forall_mem_cons.mpr ⟨cok_v (t := 32) (c := 11) (N := 39) (n := 2) (idx := 260) E (ct_G_X11_isMonth X.2.1) (by rw [hR]; decide) (Nat.zero_le _) (Nat.zero_le _) hG rfl rfl ⟨rfl, by decide, by decide, by decide⟩ (fun _ => ⟨_, _, rfl, rfl⟩) wl_X11_260 wi_X11_isMonth ws_X11_isMonth wn_X11 wc_X11_isMonth, List.forall_mem_cons.mpr ⟨cok_v (t := 32) (c := 11) (N := 39) (n := 3) (idx := 104) E (ct_G_X11_lengthOf X.2.1) (by rw [hR]; decide) (Nat.zero_le _) (Nat.zero_le _) hG rfl rfl ⟨rfl, by decide, by decide, by decide⟩ (fun _ => ⟨_, _, rfl, rfl⟩) wl_X11_104 wi_X11_lengthOf ws_X11_lengthOf wn_X11 wc_X11_lengthOf, List.forall_mem_cons.mpr ⟨cok_s (n := 3) (idx := 79) E (ct_G_X11_in X.2.1) (by rw [hR]; decide) (Nat.zero_le _) (Nat.zero_le _) hG ⟨by decide, by decide, by decide⟩ (fun _ => rfl) wl_X11_79 wt_X11_in wn_X11 wc_X11_in, fun _ h => absurd h List.not_mem_nil⟩⟩⟩⟩) R sok_no E
  show WP_ X G Q 0 0 ad SHS_ σ 0 [(42, 86), (0, a1), (1, a2), (9, 0), (1, a3), (9, 0), (1, a4), (9, 0)] []
  refine B rfl ?_
  refine Exists.intro a2 (And.intro rfl (And.intro True.intro ?_))
  rintro z1 m_ h2
  obtain rfl : σ = m_ := h2.2
  have h3 : (z1 = 1 ∧ 0 ≤ a2 ∧ a2 ≤ 1999) ∨ z1 = 0 := h2.1
  refine And.intro (fun h4 => ?_) (fun h4 => ?_)
  · skip
    refine B rfl ?_
    refine And.intro (by omega) ?_
    refine Exists.intro _ (And.intro rfl ?_)
    exact (And.intro (by show (0 = 1 ∧ 0 ≤ a2 ∧ a2 ≤ 1999 ∧ 0 ≤ a3 ∧ a3 ≤ 7 ∧ 0 ≤ a4 ∧ a4 ≤ 68) ∨ 0 = 0; omega) rfl)
  · skip
    refine Exists.intro (a1, a3) (And.intro rfl (And.intro (And.intro hp0 (And.intro (by show 0 ≤ a1; omega) (by show a1 ≤ 2; omega))) ?_))
    rintro z5 m_ h6
    obtain rfl : σ = m_ := h6.2
    have h7 : (z5 = 1 ∧ 0 ≤ a3 ∧ a3 ≤ 7 ∧ a3 < σ 87 (6 + 15 * a1 + 3)) ∨ z5 = 0 := h6.1
    refine And.intro (fun h8 => ?_) (fun h8 => ?_)
    · skip
      refine B rfl ?_
      refine And.intro (by omega) ?_
      refine Exists.intro _ (And.intro rfl ?_)
      exact (And.intro (by show (0 = 1 ∧ 0 ≤ a2 ∧ a2 ≤ 1999 ∧ 0 ≤ a3 ∧ a3 ≤ 7 ∧ 0 ≤ a4 ∧ a4 ≤ 68) ∨ 0 = 0; omega) rfl)
    · skip
      have q9 := l2i_t (x := a3)
      have q10 := l2i_t (x := a2)
      refine Exists.intro (a1, l2i_ a3, l2i_ a2) (And.intro rfl (And.intro (And.intro hp0 (And.intro (by show 0 ≤ a1; omega) (And.intro (by show a1 ≤ 2; omega) (And.intro (by show 0 ≤ (l2i_ a3); omega) (And.intro (by show (l2i_ a3) ≤ 7; omega) (by show 0 ≤ (l2i_ a2); omega)))))) ?_))
      rintro z11 m_ h12
      obtain rfl : σ = m_ := h12.2.2
      have h13 : z11 = lenF_ (σ 87) a1 (l2i_ a3) (l2i_ a2) := h12.1
      have h14 : 0 ≤ z11 ∧ z11 ≤ 69 := h12.2.1
      refine And.intro (by omega) ?_
      refine Exists.intro (a4, 0, z11 - 1) (And.intro rfl (And.intro True.intro ?_))
      rintro z15 m_ h16
      obtain rfl : σ = m_ := h16.2
      have h17 : (z15 = 1 ∧ 0 ≤ a4 ∧ a4 ≤ (z11 - 1)) ∨ (z15 = 0 ∧ ¬ (0 ≤ a4 ∧ a4 ≤ (z11 - 1))) := h16.1
      refine And.intro (fun h18 => ?_) (fun h18 => ?_)
      · skip
        refine B rfl ?_
        refine And.intro (by omega) ?_
        refine Exists.intro _ (And.intro rfl ?_)
        exact (And.intro (by show (0 = 1 ∧ 0 ≤ a2 ∧ a2 ≤ 1999 ∧ 0 ≤ a3 ∧ a3 ≤ 7 ∧ 0 ≤ a4 ∧ a4 ≤ 68) ∨ 0 = 0; omega) rfl)
      · skip
        refine B rfl ?_
        refine And.intro (by omega) ?_
        refine Exists.intro _ (And.intro rfl ?_)
        exact (And.intro (by show (1 = 1 ∧ 0 ≤ a2 ∧ a2 ≤ 1999 ∧ 0 ≤ a3 ∧ a3 ≤ 7 ∧ 0 ≤ a4 ∧ a4 ≤ 68) ∨ 1 = 0; omega) rfl)
def as_G_X11_dayBy : Int × Int × Int × Int → List Sv_t := fun a => [(42, 86), (0, a.1), (0, a.2.1), (0, a.2.2.1), (0, a.2.2.2)]
def pre_G_X11_dayBy : Int × Int × Int × Int → Me_t → Prop := fun a σ => (BW σ 87) ∧ (0 ≤ a.1) ∧ (a.1 ≤ 2) ∧ (0 ≤ a.2.1) ∧ (a.2.1 ≤ 1999) ∧ (0 ≤ a.2.2.1) ∧ (a.2.2.1 ≤ 7) ∧ (0 ≤ a.2.2.2) ∧ (a.2.2.2 ≤ 100)
def post_G_X11_dayBy : Int × Int × Int × Int → Me_t → Int → Me_t → Prop := fun a σ z σ' => (z = dayF_ (σ 87) a.1 a.2.1 a.2.2.1 a.2.2.2) ∧ (0 ≤ z ∧ z ≤ 4000) ∧ (σ = σ')
set_option maxHeartbeats 1500000 in
set_option maxRecDepth 100000 in
theorem ct_G_X11_dayBy (l : Launch) : CT_ l yX11_dayBy cX11_dayBy 7 (some .int) 3 69 as_G_X11_dayBy (rmI_) pre_G_X11_dayBy post_G_X11_dayBy := by
  refine ct_of (by decide) (fun _ => Nat.le_of_ble_eq_true rfl) ?_
  intro X G Q ad σ a hl hR E hG R hM hv hp
  obtain ⟨a1, a2, a3, a4⟩ := a
  have r_a1 : -2147483648 ≤ a1 ∧ a1 ≤ 2147483647 := hv (0, a1) (List.mem_of_getElem? (i := 1) rfl)
  have r_a2 : -2147483648 ≤ a2 ∧ a2 ≤ 2147483647 := hv (0, a2) (List.mem_of_getElem? (i := 2) rfl)
  have r_a3 : -2147483648 ≤ a3 ∧ a3 ≤ 2147483647 := hv (0, a3) (List.mem_of_getElem? (i := 3) rfl)
  have r_a4 : -2147483648 ≤ a4 ∧ a4 ≤ 2147483647 := hv (0, a4) (List.mem_of_getElem? (i := 4) rfl)
  have hp0 : BW σ 87 := hp.1
  have hp1 : 0 ≤ a1 := hp.2.1
  have hp2 : a1 ≤ 2 := hp.2.2.1
  have hp3 : 0 ≤ a2 := hp.2.2.2.1
  have hp4 : a2 ≤ 1999 := hp.2.2.2.2.1
  have hp5 : 0 ≤ a3 := hp.2.2.2.2.2.1
  have hp6 : a3 ≤ 7 := hp.2.2.2.2.2.2.1
  have hp7 : 0 ≤ a4 := hp.2.2.2.2.2.2.2.1
  have hp8 : a4 ≤ 100 := hp.2.2.2.2.2.2.2.2
  have B := @bk_ X G Q 0 0 ad SHS_ RX11 cX11_dayBy 7 (some .int) flX11 plX11 knX11 [(200, 3, TR_ as_G_X11_of_0 (rmI_) pre_G_X11_of_0 post_G_X11_of_0), (208, 4, TR_ as_G_X11_lengthOf (rmI_) pre_G_X11_lengthOf post_G_X11_lengthOf), (550, 3, TR_ as_G_X11_yearLength (rmI_) pre_G_X11_yearLength post_G_X11_yearLength)] _ _ none kX11_dayBy [14, 49] flX11_ok plX11_ok knX11_ok eX11_dayBy oX11_dayBy
    (List.forall_mem_cons.mpr ⟨cok_v (t := 32) (c := 11) (N := 39) (n := 2) (idx := 100) E (ct_G_X11_of_0 X.2.1) (by rw [hR]; decide) (Nat.zero_le _) (Nat.zero_le _) hG rfl rfl ⟨rfl, by decide, by decide, by decide⟩ (fun _ => ⟨_, _, rfl, rfl⟩) wl_X11_100 wi_X11_of ws_X11_of wn_X11 wc_X11_of, List.forall_mem_cons.mpr ⟨cok_v (t := 32) (c := 11) (N := 39) (n := 3) (idx := 104) E (ct_G_X11_lengthOf X.2.1) (by rw [hR]; decide) (Nat.zero_le _) (Nat.zero_le _) hG rfl rfl ⟨rfl, by decide, by decide, by decide⟩ (fun _ => ⟨_, _, rfl, rfl⟩) wl_X11_104 wi_X11_lengthOf ws_X11_lengthOf wn_X11 wc_X11_lengthOf, List.forall_mem_cons.mpr ⟨cok_v (t := 32) (c := 11) (N := 39) (n := 2) (idx := 275) E (ct_G_X11_yearLength X.2.1) (by rw [hR]; decide) (Nat.zero_le _) (Nat.zero_le _) hG rfl rfl ⟨rfl, by decide, by decide, by decide⟩ (fun _ => ⟨_, _, rfl, rfl⟩) wl_X11_275 wi_X11_yearLength ws_X11_yearLength wn_X11 wc_X11_yearLength, fun _ h => absurd h List.not_mem_nil⟩⟩⟩) R sok_no E
  show WP_ X G Q 0 0 ad SHS_ σ 0 [(42, 86), (0, a1), (0, a2), (0, a3), (0, a4), (9, 0), (9, 0)] []
  refine B rfl ?_
  refine Exists.intro a1 (And.intro rfl (And.intro (And.intro hp0 (And.intro (by show 0 ≤ a1; omega) (by show a1 ≤ 2; omega))) ?_))
  rintro z1 m_ h2
  obtain rfl : σ = m_ := h2.2.2
  have h3 : z1 = σ 87 (6 + 15 * a1 + 0) := h2.1
  have h4 : 0 ≤ z1 ∧ z1 ≤ 999 := h2.2.1
  refine And.intro (by omega) ?_
  show WP_ X G Q 0 0 ad SHS_ σ 14 [(42, 86), (0, a1), (0, a2), (0, a3), (0, a4), (0, z1 + a4), (0, 0)] []
  refine wdrop_ (L' := [(42, 86), (0, a1), (0, a2), (0, a3), (9, 0), (0, z1 + a4), (0, 0)]) ⟨Or.inr rfl, ⟨Or.inr rfl, ⟨Or.inr rfl, ⟨Or.inr rfl, ⟨Or.inl rfl, ⟨Or.inr rfl, ⟨Or.inr rfl, trivial⟩⟩⟩⟩⟩⟩⟩ ?_
  have lp_14 : ∀ (nq_ : Nat) (v5 : Int) (v6 : Int), (0 ≤ v6) → (v6 ≤ a2) → (0 ≤ v5) → (v5 ≤ 2552) → (dl_ (σ 87) a1 a2 (a2 - v6).toNat v6 v5 = dl_ (σ 87) a1 a2 (a2).toNat 0 (σ 87 (6 + 15 * a1 + 0) + a4)) → (a2 - v6 : Int).toNat < nq_ → WP_ X G Q 0 0 ad SHS_ σ 14 [(42, 86), (0, a1), (0, a2), (0, a3), (9, 0), (0, v5), (0, v6)] [] := by
    intro nq_
    induction nq_ with
    | zero => intros; omega
    | succ nq_ ih_14 =>
      intro v5 v6 hi14_0 hi14_1 hi14_2 hi14_3 hi14_4 hm14
      refine B rfl ?_
      refine And.intro (fun h5 => ?_) (fun h5 => ?_)
      · skip
        refine B rfl ?_
        have lp_49 : ∀ (nq_ : Nat) (v5 : Int) (v6 : Int), (0 ≤ v6) → (v6 ≤ a3) → (0 ≤ v5) → (v5 ≤ 2552 + 69 * v6) → (v5 = dl_ (σ 87) a1 a2 (a2).toNat 0 (σ 87 (6 + 15 * a1 + 0) + a4) + ylN_ (σ 87) a1 a2 (v6 : Int).toNat) → (a3 - v6 : Int).toNat < nq_ → WP_ X G Q 0 0 ad SHS_ σ 49 [(42, 86), (0, a1), (0, a2), (0, a3), (9, 0), (0, v5), (0, v6)] [] := by
          intro nq_
          induction nq_ with
          | zero => intros; omega
          | succ nq_ ih_49 =>
            intro v5 v6 hi49_0 hi49_1 hi49_2 hi49_3 hi49_4 hm49
            refine B rfl ?_
            refine And.intro (fun h6 => ?_) (fun h6 => ?_)
            · skip
              refine B rfl ?_
              refine Exists.intro _ (And.intro rfl ?_)
              exact (And.intro (by show v5 = dayF_ (σ 87) a1 a2 a3 a4; unfold dayF_; first | (rw [show a3 = v6 by omega]; exact hi49_4) | (rw [show a3 = v6_1 by omega]; exact hi49_4)) (And.intro (by show 0 ≤ v5 ∧ v5 ≤ 4000; omega) rfl))
            · skip
              refine Exists.intro (a1, v6, a2) (And.intro rfl (And.intro (And.intro hp0 (And.intro (by show 0 ≤ a1; omega) (And.intro (by show a1 ≤ 2; omega) (And.intro (by show 0 ≤ v6; omega) (And.intro (by show v6 ≤ 7; omega) (by show 0 ≤ a2; omega)))))) ?_))
              rintro z7 m_ h8
              obtain rfl : σ = m_ := h8.2.2
              have h9 : z7 = lenF_ (σ 87) a1 v6 a2 := h8.1
              have h10 : 0 ≤ z7 ∧ z7 ≤ 69 := h8.2.1
              refine And.intro (by omega) ?_
              refine And.intro (by omega) ?_
              exact ih_49 (v5 + z7) (v6 + 1) (by show 0 ≤ (v6 + 1); omega) (by show (v6 + 1) ≤ a3; omega) (by show 0 ≤ (v5 + z7); omega) (by show (v5 + z7) ≤ 2552 + 69 * (v6 + 1); omega) (by show (v5 + z7) = dl_ (σ 87) a1 a2 (a2).toNat 0 (σ 87 (6 + 15 * a1 + 0) + a4) + ylN_ (σ 87) a1 a2 ((v6 + 1) : Int).toNat; rw [ylN_s (by omega)]; omega) (by omega)
        exact lp_49 ((a3 - 0 : Int).toNat + 1) v5 0 (by show 0 ≤ 0; omega) (by show 0 ≤ a3; omega) (by show 0 ≤ v5; omega) (by show v5 ≤ 2552 + 69 * 0; omega) (by show v5 = dl_ (σ 87) a1 a2 (a2).toNat 0 (σ 87 (6 + 15 * a1 + 0) + a4) + ylN_ (σ 87) a1 a2 (0 : Int).toNat; rw [← hi14_4, dl_e (by omega)]; exact (Int.add_zero _).symm) (by omega)
      · skip
        refine And.intro (fun h11 => ?_) (fun h11 => ?_)
        · skip
          refine B rfl ?_
          have lp_49 : ∀ (nq_ : Nat) (v5_1 : Int) (v6_1 : Int), (0 ≤ v6_1) → (v6_1 ≤ a3) → (0 ≤ v5_1) → (v5_1 ≤ 2552 + 69 * v6_1) → (v5_1 = dl_ (σ 87) a1 a2 (a2).toNat 0 (σ 87 (6 + 15 * a1 + 0) + a4) + ylN_ (σ 87) a1 a2 (v6_1 : Int).toNat) → (a3 - v6_1 : Int).toNat < nq_ → WP_ X G Q 0 0 ad SHS_ σ 49 [(42, 86), (0, a1), (0, a2), (0, a3), (9, 0), (0, v5_1), (0, v6_1)] [] := by
            intro nq_
            induction nq_ with
            | zero => intros; omega
            | succ nq_ ih_49 =>
              intro v5_1 v6_1 hi49_0 hi49_1 hi49_2 hi49_3 hi49_4 hm49
              refine B rfl ?_
              refine And.intro (fun h12 => ?_) (fun h12 => ?_)
              · skip
                refine B rfl ?_
                refine Exists.intro _ (And.intro rfl ?_)
                exact (And.intro (by show v5_1 = dayF_ (σ 87) a1 a2 a3 a4; unfold dayF_; first | (rw [show a3 = v6 by omega]; exact hi49_4) | (rw [show a3 = v6_1 by omega]; exact hi49_4)) (And.intro (by show 0 ≤ v5_1 ∧ v5_1 ≤ 4000; omega) rfl))
              · skip
                refine Exists.intro (a1, v6_1, a2) (And.intro rfl (And.intro (And.intro hp0 (And.intro (by show 0 ≤ a1; omega) (And.intro (by show a1 ≤ 2; omega) (And.intro (by show 0 ≤ v6_1; omega) (And.intro (by show v6_1 ≤ 7; omega) (by show 0 ≤ a2; omega)))))) ?_))
                rintro z13 m_ h14
                obtain rfl : σ = m_ := h14.2.2
                have h15 : z13 = lenF_ (σ 87) a1 v6_1 a2 := h14.1
                have h16 : 0 ≤ z13 ∧ z13 ≤ 69 := h14.2.1
                refine And.intro (by omega) ?_
                refine And.intro (by omega) ?_
                exact ih_49 (v5_1 + z13) (v6_1 + 1) (by show 0 ≤ (v6_1 + 1); omega) (by show (v6_1 + 1) ≤ a3; omega) (by show 0 ≤ (v5_1 + z13); omega) (by show (v5_1 + z13) ≤ 2552 + 69 * (v6_1 + 1); omega) (by show (v5_1 + z13) = dl_ (σ 87) a1 a2 (a2).toNat 0 (σ 87 (6 + 15 * a1 + 0) + a4) + ylN_ (σ 87) a1 a2 ((v6_1 + 1) : Int).toNat; rw [ylN_s (by omega)]; omega) (by omega)
          exact lp_49 ((a3 - 0 : Int).toNat + 1) v5 0 (by show 0 ≤ 0; omega) (by show 0 ≤ a3; omega) (by show 0 ≤ v5; omega) (by show v5 ≤ 2552 + 69 * 0; omega) (by show v5 = dl_ (σ 87) a1 a2 (a2).toNat 0 (σ 87 (6 + 15 * a1 + 0) + a4) + ylN_ (σ 87) a1 a2 (0 : Int).toNat; rw [← hi14_4, dl_e (by omega)]; exact (Int.add_zero _).symm) (by omega)
        · skip
          refine Exists.intro (a1, v6) (And.intro rfl (And.intro (And.intro hp0 (And.intro (by show 0 ≤ a1; omega) (And.intro (by show a1 ≤ 2; omega) (by show 0 ≤ v6; omega)))) ?_))
          rintro z17 m_ h18
          obtain rfl : σ = m_ := h18.2.2
          have h19 : z17 = ylF_ (σ 87) a1 v6 := h18.1
          have h20 : 0 ≤ z17 ∧ z17 ≤ 552 := h18.2.1
          refine And.intro (by omega) ?_
          refine And.intro (by omega) ?_
          exact ih_14 (v5 + z17) (v6 + 1) (by show 0 ≤ (v6 + 1); omega) (by show (v6 + 1) ≤ a2; omega) (by show 0 ≤ (v5 + z17); omega) (by show (v5 + z17) ≤ 2552; omega) (by show dl_ (σ 87) a1 a2 (a2 - (v6 + 1)).toNat (v6 + 1) (v5 + z17) = dl_ (σ 87) a1 a2 (a2).toNat 0 (σ 87 (6 + 15 * a1 + 0) + a4); subst_vars; rw [← dl_s (by omega) (by omega)]; exact hi14_4) (by omega)
  exact lp_14 ((a2 - 0 : Int).toNat + 1) (z1 + a4) 0 (by show 0 ≤ 0; omega) (by show 0 ≤ a2; omega) (by show 0 ≤ (z1 + a4); omega) (by show (z1 + a4) ≤ 2552; omega) (by show dl_ (σ 87) a1 a2 (a2 - 0).toNat 0 (z1 + a4) = dl_ (σ 87) a1 a2 (a2).toNat 0 (σ 87 (6 + 15 * a1 + 0) + a4); subst_vars; rw [Int.sub_zero]) (by omega)
def as_G_X11_numberAt : Int × Int → List Sv_t := fun a => [(42, 86), (0, a.1), (0, a.2)]
def pre_G_X11_numberAt : Int × Int → Me_t → Prop := fun a σ => (0 ≤ a.1) ∧ (a.1 ≤ 3) ∧ (0 ≤ a.2) ∧ (a.2 ≤ 59)
def post_G_X11_numberAt : Int × Int → Me_t → Int → Me_t → Prop := fun a σ z σ' => (z = σ 104 (60 * a.1 + a.2)) ∧ (σ = σ')
set_option maxHeartbeats 1500000 in
set_option maxRecDepth 100000 in
theorem ct_G_X11_numberAt (l : Launch) : CT_ l yX11_numberAt cX11_numberAt 3 (some .long) 0 0 as_G_X11_numberAt (rmL_) pre_G_X11_numberAt post_G_X11_numberAt := by
  refine ct_of (by decide) (fun _ => Nat.le_of_ble_eq_true rfl) ?_
  intro X G Q ad σ a hl hR E hG R hM hv hp
  obtain ⟨a1, a2⟩ := a
  have r_a1 : -2147483648 ≤ a1 ∧ a1 ≤ 2147483647 := hv (0, a1) (List.mem_of_getElem? (i := 1) rfl)
  have r_a2 : -2147483648 ≤ a2 ∧ a2 ≤ 2147483647 := hv (0, a2) (List.mem_of_getElem? (i := 2) rfl)
  have hp0 : 0 ≤ a1 := hp.1
  have hp1 : a1 ≤ 3 := hp.2.1
  have hp2 : 0 ≤ a2 := hp.2.2.1
  have hp3 : a2 ≤ 59 := hp.2.2.2
  have B := @bk_ X G Q 0 0 ad SHS_ RX11 cX11_numberAt 3 (some .long) flX11 plX11 knX11 [] _ _ none kX11_numberAt [] flX11_ok plX11_ok knX11_ok eX11_numberAt oX11_numberAt
    (fun _ h => absurd h List.not_mem_nil) R sok_no E
  show WP_ X G Q 0 0 ad SHS_ σ 0 [(42, 86), (0, a1), (0, a2)] []
  refine B rfl ?_
  refine And.intro (by omega) ?_
  refine And.intro (by omega) ?_
  refine And.intro (by omega) ?_
  refine Exists.intro _ (And.intro rfl ?_)
  exact (And.intro (by show (σ 104 ((60 * a1) + a2)) = σ 104 (60 * a1 + a2); omega) rfl)
def as_G_X11_intAt : Int × Int → List Sv_t := fun a => [(42, 86), (0, a.1), (0, a.2)]
def pre_G_X11_intAt : Int × Int → Me_t → Prop := fun a σ => (0 ≤ a.1) ∧ (a.1 ≤ 3) ∧ (0 ≤ a.2) ∧ (a.2 ≤ 59)
def post_G_X11_intAt : Int × Int → Me_t → Int → Me_t → Prop := fun a σ z σ' => (z = l2i_ (σ 104 (60 * a.1 + a.2))) ∧ (-2147483648 ≤ z ∧ z ≤ 2147483647) ∧ (-2147483648 ≤ σ 104 (60 * a.1 + a.2) ∧ σ 104 (60 * a.1 + a.2) ≤ 2147483647 → z = σ 104 (60 * a.1 + a.2)) ∧ (σ = σ')
set_option maxHeartbeats 1500000 in
set_option maxRecDepth 100000 in
theorem ct_G_X11_intAt (l : Launch) : CT_ l yX11_intAt cX11_intAt 3 (some .int) 1 22 as_G_X11_intAt (rmI_) pre_G_X11_intAt post_G_X11_intAt := by
  refine ct_of (by decide) (fun _ => Nat.le_of_ble_eq_true rfl) ?_
  intro X G Q ad σ a hl hR E hG R hM hv hp
  obtain ⟨a1, a2⟩ := a
  have r_a1 : -2147483648 ≤ a1 ∧ a1 ≤ 2147483647 := hv (0, a1) (List.mem_of_getElem? (i := 1) rfl)
  have r_a2 : -2147483648 ≤ a2 ∧ a2 ≤ 2147483647 := hv (0, a2) (List.mem_of_getElem? (i := 2) rfl)
  have hp0 : 0 ≤ a1 := hp.1
  have hp1 : a1 ≤ 3 := hp.2.1
  have hp2 : 0 ≤ a2 := hp.2.2.1
  have hp3 : a2 ≤ 59 := hp.2.2.2
  have B := @bk_ X G Q 0 0 ad SHS_ RX11 cX11_intAt 3 (some .int) flX11 plX11 knX11 [(708, 3, TR_ as_G_X11_numberAt (rmL_) pre_G_X11_numberAt post_G_X11_numberAt)] _ _ none kX11_intAt [] flX11_ok plX11_ok knX11_ok eX11_intAt oX11_intAt
    (List.forall_mem_cons.mpr ⟨cok_v (t := 32) (c := 11) (N := 39) (n := 2) (idx := 354) E (ct_G_X11_numberAt X.2.1) (by rw [hR]; decide) (Nat.zero_le _) (Nat.zero_le _) hG rfl rfl ⟨rfl, by decide, by decide, by decide⟩ (fun _ => ⟨_, _, rfl, rfl⟩) wl_X11_354 wi_X11_numberAt ws_X11_numberAt wn_X11 wc_X11_numberAt, fun _ h => absurd h List.not_mem_nil⟩) R sok_no E
  show WP_ X G Q 0 0 ad SHS_ σ 0 [(42, 86), (0, a1), (0, a2)] []
  refine B rfl ?_
  refine Exists.intro (a1, a2) (And.intro rfl (And.intro (And.intro (by show 0 ≤ a1; omega) (And.intro (by show a1 ≤ 3; omega) (And.intro (by show 0 ≤ a2; omega) (by show a2 ≤ 59; omega)))) ?_))
  rintro z1 m_ h2
  obtain rfl : σ = m_ := h2.2
  have h3 : z1 = σ 104 (60 * a1 + a2) := h2.1
  have q4 : z1 = σ 104 (60 * a1 + a2) := by omega
  subst q4
  have q5 := l2i_t (x := σ 104 (60 * a1 + a2))
  refine Exists.intro _ (And.intro rfl ?_)
  exact (And.intro (by show (l2i_ (σ 104 (60 * a1 + a2))) = l2i_ (σ 104 (60 * a1 + a2)); omega) (And.intro (by show -2147483648 ≤ (l2i_ (σ 104 (60 * a1 + a2))) ∧ (l2i_ (σ 104 (60 * a1 + a2))) ≤ 2147483647; omega) (And.intro (by show -2147483648 ≤ σ 104 (60 * a1 + a2) ∧ σ 104 (60 * a1 + a2) ≤ 2147483647 → (l2i_ (σ 104 (60 * a1 + a2))) = σ 104 (60 * a1 + a2); omega) rfl)))
def as_G_X11_dayAt : Int × Int → List Sv_t := fun a => [(42, 86), (0, a.1), (0, a.2)]
def pre_G_X11_dayAt : Int × Int → Me_t → Prop := fun a σ => (BW σ 87) ∧ (0 ≤ a.1) ∧ (a.1 ≤ 3) ∧ (0 ≤ a.2) ∧ (a.2 ≤ 14) ∧ (0 ≤ l2i_ (σ 104 (60 * a.1 + 4 * a.2))) ∧ (l2i_ (σ 104 (60 * a.1 + 4 * a.2)) ≤ 2) ∧ (0 ≤ l2i_ (σ 104 (60 * a.1 + (4 * a.2 + 1)))) ∧ (l2i_ (σ 104 (60 * a.1 + (4 * a.2 + 1))) ≤ 1999) ∧ (0 ≤ l2i_ (σ 104 (60 * a.1 + (4 * a.2 + 2)))) ∧ (l2i_ (σ 104 (60 * a.1 + (4 * a.2 + 2))) ≤ 7) ∧ (0 ≤ l2i_ (σ 104 (60 * a.1 + (4 * a.2 + 3)))) ∧ (l2i_ (σ 104 (60 * a.1 + (4 * a.2 + 3))) ≤ 68)
def post_G_X11_dayAt : Int × Int → Me_t → Int → Me_t → Prop := fun a σ z σ' => (z = dayF_ (σ 87) (l2i_ (σ 104 (60 * a.1 + 4 * a.2))) (l2i_ (σ 104 (60 * a.1 + (4 * a.2 + 1)))) (l2i_ (σ 104 (60 * a.1 + (4 * a.2 + 2)))) (l2i_ (σ 104 (60 * a.1 + (4 * a.2 + 3))))) ∧ (0 ≤ z ∧ z ≤ 4000) ∧ (σ = σ')
set_option maxHeartbeats 1500000 in
set_option maxRecDepth 100000 in
theorem ct_G_X11_dayAt (l : Launch) : CT_ l yX11_dayAt cX11_dayAt 3 (some .int) 4 95 as_G_X11_dayAt (rmI_) pre_G_X11_dayAt post_G_X11_dayAt := by
  refine ct_of (by decide) (fun _ => Nat.le_of_ble_eq_true rfl) ?_
  intro X G Q ad σ a hl hR E hG R hM hv hp
  obtain ⟨a1, a2⟩ := a
  have r_a1 : -2147483648 ≤ a1 ∧ a1 ≤ 2147483647 := hv (0, a1) (List.mem_of_getElem? (i := 1) rfl)
  have r_a2 : -2147483648 ≤ a2 ∧ a2 ≤ 2147483647 := hv (0, a2) (List.mem_of_getElem? (i := 2) rfl)
  have hp0 : BW σ 87 := hp.1
  have hp1 : 0 ≤ a1 := hp.2.1
  have hp2 : a1 ≤ 3 := hp.2.2.1
  have hp3 : 0 ≤ a2 := hp.2.2.2.1
  have hp4 : a2 ≤ 14 := hp.2.2.2.2.1
  have hp5 : 0 ≤ l2i_ (σ 104 (60 * a1 + 4 * a2)) := hp.2.2.2.2.2.1
  have hp6 : l2i_ (σ 104 (60 * a1 + 4 * a2)) ≤ 2 := hp.2.2.2.2.2.2.1
  have hp7 : 0 ≤ l2i_ (σ 104 (60 * a1 + (4 * a2 + 1))) := hp.2.2.2.2.2.2.2.1
  have hp8 : l2i_ (σ 104 (60 * a1 + (4 * a2 + 1))) ≤ 1999 := hp.2.2.2.2.2.2.2.2.1
  have hp9 : 0 ≤ l2i_ (σ 104 (60 * a1 + (4 * a2 + 2))) := hp.2.2.2.2.2.2.2.2.2.1
  have hp10 : l2i_ (σ 104 (60 * a1 + (4 * a2 + 2))) ≤ 7 := hp.2.2.2.2.2.2.2.2.2.2.1
  have hp11 : 0 ≤ l2i_ (σ 104 (60 * a1 + (4 * a2 + 3))) := hp.2.2.2.2.2.2.2.2.2.2.2.1
  have hp12 : l2i_ (σ 104 (60 * a1 + (4 * a2 + 3))) ≤ 68 := hp.2.2.2.2.2.2.2.2.2.2.2.2
  have B := @bk_ X G Q 0 0 ad SHS_ RX11 cX11_dayAt 3 (some .int) flX11 plX11 knX11 [(716, 3, TR_ as_G_X11_intAt (rmI_) pre_G_X11_intAt post_G_X11_intAt), (564, 5, TR_ as_G_X11_dayBy (rmI_) pre_G_X11_dayBy post_G_X11_dayBy)] _ _ none kX11_dayAt [] flX11_ok plX11_ok knX11_ok eX11_dayAt oX11_dayAt
    (List.forall_mem_cons.mpr ⟨cok_v (t := 32) (c := 11) (N := 39) (n := 2) (idx := 358) E (ct_G_X11_intAt X.2.1) (by rw [hR]; decide) (Nat.zero_le _) (Nat.zero_le _) hG rfl rfl ⟨rfl, by decide, by decide, by decide⟩ (fun _ => ⟨_, _, rfl, rfl⟩) wl_X11_358 wi_X11_intAt ws_X11_intAt wn_X11 wc_X11_intAt, List.forall_mem_cons.mpr ⟨cok_v (t := 32) (c := 11) (N := 39) (n := 4) (idx := 282) E (ct_G_X11_dayBy X.2.1) (by rw [hR]; decide) (Nat.zero_le _) (Nat.zero_le _) hG rfl rfl ⟨rfl, by decide, by decide, by decide⟩ (fun _ => ⟨_, _, rfl, rfl⟩) wl_X11_282 wi_X11_dayBy ws_X11_dayBy wn_X11 wc_X11_dayBy, fun _ h => absurd h List.not_mem_nil⟩⟩) R sok_no E
  show WP_ X G Q 0 0 ad SHS_ σ 0 [(42, 86), (0, a1), (0, a2)] []
  refine B rfl ?_
  refine And.intro (by omega) ?_
  refine Exists.intro (a1, 4 * a2) (And.intro rfl (And.intro (And.intro (by show 0 ≤ a1; omega) (And.intro (by show a1 ≤ 3; omega) (And.intro (by show 0 ≤ (4 * a2); omega) (by show (4 * a2) ≤ 59; omega)))) ?_))
  rintro z1 m_ h2
  obtain rfl : σ = m_ := h2.2.2.2
  have h3 : z1 = l2i_ (σ 104 (60 * a1 + (4 * a2))) := h2.1
  have h4 : -2147483648 ≤ z1 ∧ z1 ≤ 2147483647 := h2.2.1
  have h5 : -2147483648 ≤ σ 104 (60 * a1 + (4 * a2)) ∧ σ 104 (60 * a1 + (4 * a2)) ≤ 2147483647 → z1 = σ 104 (60 * a1 + (4 * a2)) := h2.2.2.1
  have q6 : z1 = l2i_ (σ 104 (60 * a1 + (4 * a2))) := by omega
  subst q6
  refine And.intro (by omega) ?_
  refine And.intro (by omega) ?_
  refine Exists.intro (a1, (4 * a2) + 1) (And.intro rfl (And.intro (And.intro (by show 0 ≤ a1; omega) (And.intro (by show a1 ≤ 3; omega) (And.intro (by show 0 ≤ ((4 * a2) + 1); omega) (by show ((4 * a2) + 1) ≤ 59; omega)))) ?_))
  rintro z7 m_ h8
  obtain rfl : σ = m_ := h8.2.2.2
  have h9 : z7 = l2i_ (σ 104 (60 * a1 + ((4 * a2) + 1))) := h8.1
  have h10 : -2147483648 ≤ z7 ∧ z7 ≤ 2147483647 := h8.2.1
  have h11 : -2147483648 ≤ σ 104 (60 * a1 + ((4 * a2) + 1)) ∧ σ 104 (60 * a1 + ((4 * a2) + 1)) ≤ 2147483647 → z7 = σ 104 (60 * a1 + ((4 * a2) + 1)) := h8.2.2.1
  have q12 : z7 = l2i_ (σ 104 (60 * a1 + ((4 * a2) + 1))) := by omega
  subst q12
  refine And.intro (by omega) ?_
  refine And.intro (by omega) ?_
  refine Exists.intro (a1, (4 * a2) + 2) (And.intro rfl (And.intro (And.intro (by show 0 ≤ a1; omega) (And.intro (by show a1 ≤ 3; omega) (And.intro (by show 0 ≤ ((4 * a2) + 2); omega) (by show ((4 * a2) + 2) ≤ 59; omega)))) ?_))
  rintro z13 m_ h14
  obtain rfl : σ = m_ := h14.2.2.2
  have h15 : z13 = l2i_ (σ 104 (60 * a1 + ((4 * a2) + 2))) := h14.1
  have h16 : -2147483648 ≤ z13 ∧ z13 ≤ 2147483647 := h14.2.1
  have h17 : -2147483648 ≤ σ 104 (60 * a1 + ((4 * a2) + 2)) ∧ σ 104 (60 * a1 + ((4 * a2) + 2)) ≤ 2147483647 → z13 = σ 104 (60 * a1 + ((4 * a2) + 2)) := h14.2.2.1
  have q18 : z13 = l2i_ (σ 104 (60 * a1 + ((4 * a2) + 2))) := by omega
  subst q18
  refine And.intro (by omega) ?_
  refine And.intro (by omega) ?_
  refine Exists.intro (a1, (4 * a2) + 3) (And.intro rfl (And.intro (And.intro (by show 0 ≤ a1; omega) (And.intro (by show a1 ≤ 3; omega) (And.intro (by show 0 ≤ ((4 * a2) + 3); omega) (by show ((4 * a2) + 3) ≤ 59; omega)))) ?_))
  rintro z19 m_ h20
  obtain rfl : σ = m_ := h20.2.2.2
  have h21 : z19 = l2i_ (σ 104 (60 * a1 + ((4 * a2) + 3))) := h20.1
  have h22 : -2147483648 ≤ z19 ∧ z19 ≤ 2147483647 := h20.2.1
  have h23 : -2147483648 ≤ σ 104 (60 * a1 + ((4 * a2) + 3)) ∧ σ 104 (60 * a1 + ((4 * a2) + 3)) ≤ 2147483647 → z19 = σ 104 (60 * a1 + ((4 * a2) + 3)) := h20.2.2.1
  have q24 : z19 = l2i_ (σ 104 (60 * a1 + ((4 * a2) + 3))) := by omega
  subst q24
  refine Exists.intro (l2i_ (σ 104 (60 * a1 + (4 * a2))), l2i_ (σ 104 (60 * a1 + ((4 * a2) + 1))), l2i_ (σ 104 (60 * a1 + ((4 * a2) + 2))), l2i_ (σ 104 (60 * a1 + ((4 * a2) + 3)))) (And.intro rfl (And.intro (And.intro hp0 (And.intro (by show 0 ≤ (l2i_ (σ 104 (60 * a1 + (4 * a2)))); omega) (And.intro (by show (l2i_ (σ 104 (60 * a1 + (4 * a2)))) ≤ 2; omega) (And.intro (by show 0 ≤ (l2i_ (σ 104 (60 * a1 + ((4 * a2) + 1)))); omega) (And.intro (by show (l2i_ (σ 104 (60 * a1 + ((4 * a2) + 1)))) ≤ 1999; omega) (And.intro (by show 0 ≤ (l2i_ (σ 104 (60 * a1 + ((4 * a2) + 2)))); omega) (And.intro (by show (l2i_ (σ 104 (60 * a1 + ((4 * a2) + 2)))) ≤ 7; omega) (And.intro (by show 0 ≤ (l2i_ (σ 104 (60 * a1 + ((4 * a2) + 3)))); omega) (by show (l2i_ (σ 104 (60 * a1 + ((4 * a2) + 3)))) ≤ 100; omega))))))))) ?_))
  rintro z25 m_ h26
  obtain rfl : σ = m_ := h26.2.2
  have h27 : z25 = dayF_ (σ 87) (l2i_ (σ 104 (60 * a1 + (4 * a2)))) (l2i_ (σ 104 (60 * a1 + ((4 * a2) + 1)))) (l2i_ (σ 104 (60 * a1 + ((4 * a2) + 2)))) (l2i_ (σ 104 (60 * a1 + ((4 * a2) + 3)))) := h26.1
  have h28 : 0 ≤ z25 ∧ z25 ≤ 4000 := h26.2.1
  refine Exists.intro _ (And.intro rfl ?_)
  exact (And.intro (by show z25 = dayF_ (σ 87) (l2i_ (σ 104 (60 * a1 + 4 * a2))) (l2i_ (σ 104 (60 * a1 + (4 * a2 + 1)))) (l2i_ (σ 104 (60 * a1 + (4 * a2 + 2)))) (l2i_ (σ 104 (60 * a1 + (4 * a2 + 3)))); omega) (And.intro (by show 0 ≤ z25 ∧ z25 ≤ 4000; omega) rfl))
