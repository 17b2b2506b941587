def as_G_X4_renew : Int × Int × Int → List Sv_t := fun a => [(40, a.1), (0, a.2.1), (0, a.2.2)]
def pre_G_X4_renew : Int × Int × Int → Me_t → Prop := fun a σ => (0 ≤ a.2.1) ∧ (a.2.1 ≤ 3) ∧ (0 ≤ a.2.2) ∧ (a.2.2 ≤ 60)
def post_G_X4_renew : Int × Int × Int → Me_t → Int → Me_t → Prop := fun a σ z σ' => (σ' a.1 1 = 1) ∧ (σ' a.1 2 = a.2.1) ∧ (σ' a.1 3 = a.2.2) ∧ (∀ k j : Int, ¬ (k = a.1 ∨ k = a.1 + 1) → σ' k j = σ k j)
set_option maxHeartbeats 1500000 in
set_option maxRecDepth 100000 in
theorem ct_G_X4_renew (l : Launch) : CT_ l yX4_renew cX4_renew 3 none 1 24 as_G_X4_renew (rmV_) pre_G_X4_renew post_G_X4_renew := by
  refine ct_of (by decide) (fun _ => Nat.le_of_ble_eq_true rfl) ?_
  intro X G Q ad σ a hl hR E hG R hM hv hp
  obtain ⟨a0, a1, a2⟩ := a
  have k_a0 : isRow_ a0 := tvRow_ (hv (40, a0) (List.mem_of_getElem? (i := 0) rfl))
  have r_a0 : 78 ≤ a0 ∧ a0 ≤ 84 := by unfold isRow_ at k_a0; omega
  have r_a1 : -2147483648 ≤ a1 ∧ a1 ≤ 2147483647 := hv (0, a1) (List.mem_of_getElem? (i := 1) rfl)
  have r_a2 : -2147483648 ≤ a2 ∧ a2 ≤ 2147483647 := hv (0, a2) (List.mem_of_getElem? (i := 2) rfl)
  have hp0 : 0 ≤ a1 := hp.1
  have hp1 : a1 ≤ 3 := hp.2.1
  have hp2 : 0 ≤ a2 := hp.2.2.1
  have hp3 : a2 ≤ 60 := hp.2.2.2
  have B := @bk_ X G Q 0 0 ad SHS_ RX4 cX4_renew 3 none flX4 plX4 knX4 [(53, 2, TR_ as_G_J7_fill_d0a16 (rmV_) pre_G_J7_fill_d0a16 post_G_J7_fill_d0a16)] _ _ none kX4_renew [] flX4_ok plX4_ok knX4_ok eX4_renew oX4_renew
    (List.forall_mem_cons.mpr ⟨cok_s (n := 2) (idx := 26) E (ct_G_J7_fill_d0a16 X.2.1) (by rw [hR]; decide) (Nat.zero_le _) (Nat.zero_le _) hG ⟨by decide, by decide, by decide⟩ (fun _ => rfl) wl_X4_26 wt_J7_fill_d0a16 wn_J7 wc_J7_fill_d0a16, fun _ h => absurd h List.not_mem_nil⟩) R sok_no E
  show WP_ X G Q 0 0 ad SHS_ σ 0 [(40, a0), (0, a1), (0, a2)] []
  refine B rfl ?_
  refine And.intro (by omega) ?_
  intro σ1 e2
  refine And.intro (by omega) ?_
  intro σ3 e4
  refine And.intro (by omega) ?_
  intro σ5 e6
  refine Exists.intro (a0 + 1, 0) (And.intro rfl (And.intro True.intro ?_))
  intro z7 σ9 h8
  have f10 : ∀ k j : Int, ¬ (k = (a0 + 1)) → σ9 k j = σ5 k j := h8
  refine Exists.intro 0 (And.intro rfl ?_)
  have t11 : σ9 a0 1 = 1 := (((f10 _ _ (by omega)).trans ((ups_r e6 (by omega)).trans (ups_r e4 (by omega))))).trans (ups_v e2)
  have t12 : σ9 a0 2 = a1 := (((f10 _ _ (by omega)).trans (ups_r e6 (by omega)))).trans (ups_v e4)
  have t13 : σ9 a0 3 = a2 := ((f10 _ _ (by omega))).trans (ups_v e6)
  exact (And.intro (by show σ9 a0 1 = 1; omega) (And.intro (by show σ9 a0 2 = a1; omega) (And.intro (by show σ9 a0 3 = a2; omega) (fun k j hk => ((f10 _ _ (by omega)).trans ((ups_r e6 (by omega)).trans ((ups_r e4 (by omega)).trans (ups_r e2 (by omega)))))))))
def as_G_X4_cut : Int × Int → List Sv_t := fun a => [(40, a.1), (1, a.2)]
def pre_G_X4_cut : Int × Int → Me_t → Prop := fun a σ => True
def post_G_X4_cut : Int × Int → Me_t → Int → Me_t → Prop := fun a σ z σ' => (σ = σ')
set_option maxHeartbeats 1500000 in
set_option maxRecDepth 100000 in
theorem ct_G_X4_cut (l : Launch) : CT_ l yX4_cut cX4_cut 3 (some .long) 0 0 as_G_X4_cut (rmL_) pre_G_X4_cut post_G_X4_cut := by
  refine ct_of (by decide) (fun _ => Nat.le_of_ble_eq_true rfl) ?_
  intro X G Q ad σ a hl hR E hG R hM hv hp
  obtain ⟨a0, a1⟩ := a
  have k_a0 : isRow_ a0 := tvRow_ (hv (40, a0) (List.mem_of_getElem? (i := 0) rfl))
  have r_a0 : 78 ≤ a0 ∧ a0 ≤ 84 := by unfold isRow_ at k_a0; omega
  have r_a1 : -9223372036854775808 ≤ a1 ∧ a1 ≤ 9223372036854775807 := hv (1, a1) (List.mem_of_getElem? (i := 1) rfl)
  have B := @bk_ X G Q 0 0 ad SHS_ RX4 cX4_cut 3 (some .long) flX4 plX4 knX4 [] _ _ none kX4_cut [] flX4_ok plX4_ok knX4_ok eX4_cut oX4_cut
    (fun _ h => absurd h List.not_mem_nil) R sok_no E
  show WP_ X G Q 0 0 ad SHS_ σ 0 [(40, a0), (1, a1), (9, 0)] []
  refine B rfl ?_
  intro z1 ez1 hz1
  have hz1 : (0 : Int) ≤ z1 ∧ z1 ≤ (3 : Int) := hz1
  refine And.intro (fun h2 => ?_) ?_
  · skip
    refine B rfl ?_
    refine Exists.intro _ (And.intro rfl ?_)
    exact rfl
  refine And.intro (fun h2 => ?_) ?_
  · skip
    refine B rfl ?_
    have q3 := l2i_t (x := a1)
    refine Exists.intro _ (And.intro rfl ?_)
    exact rfl
  refine And.intro (fun h2 => ?_) ?_
  · skip
    refine B rfl ?_
    have q4 := l2i_t (x := a1)
    refine Exists.intro _ (And.intro rfl ?_)
    exact rfl
  refine And.intro (fun h2 => ?_) ?_
  · skip
    refine B rfl ?_
    have q5 := l2i_t (x := a1)
    refine Exists.intro _ (And.intro rfl ?_)
    exact rfl
  exact True.intro
def as_G_X4_hasStretch : Int × Int × Int → List Sv_t := fun a => [(40, a.1), (0, a.2.1), (0, a.2.2)]
def pre_G_X4_hasStretch : Int × Int × Int → Me_t → Prop := fun a σ => True
def post_G_X4_hasStretch : Int × Int × Int → Me_t → Int → Me_t → Prop := fun a σ z σ' => ((z = 1 ∧ 0 ≤ a.2.1 ∧ 0 ≤ a.2.2 ∧ a.2.1 + a.2.2 ≤ σ a.1 3) ∨ (z = 0 ∧ ¬ (0 ≤ a.2.1 ∧ 0 ≤ a.2.2 ∧ a.2.1 + a.2.2 ≤ σ a.1 3))) ∧ (σ = σ')
set_option maxHeartbeats 1500000 in
set_option maxRecDepth 100000 in
theorem ct_G_X4_hasStretch (l : Launch) : CT_ l yX4_hasStretch cX4_hasStretch 3 (some .boolean) 0 0 as_G_X4_hasStretch (rmI_) pre_G_X4_hasStretch post_G_X4_hasStretch := by
  refine ct_of (by decide) (fun _ => Nat.le_of_ble_eq_true rfl) ?_
  intro X G Q ad σ a hl hR E hG R hM hv hp
  obtain ⟨a0, a1, a2⟩ := a
  have k_a0 : isRow_ a0 := tvRow_ (hv (40, a0) (List.mem_of_getElem? (i := 0) rfl))
  have r_a0 : 78 ≤ a0 ∧ a0 ≤ 84 := by unfold isRow_ at k_a0; omega
  have r_a1 : -2147483648 ≤ a1 ∧ a1 ≤ 2147483647 := hv (0, a1) (List.mem_of_getElem? (i := 1) rfl)
  have r_a2 : -2147483648 ≤ a2 ∧ a2 ≤ 2147483647 := hv (0, a2) (List.mem_of_getElem? (i := 2) rfl)
  have B := @bk_ X G Q 0 0 ad SHS_ RX4 cX4_hasStretch 3 (some .boolean) flX4 plX4 knX4 [] _ _ none kX4_hasStretch [] flX4_ok plX4_ok knX4_ok eX4_hasStretch oX4_hasStretch
    (fun _ h => absurd h List.not_mem_nil) R sok_no E
  show WP_ X G Q 0 0 ad SHS_ σ 0 [(40, a0), (0, a1), (0, a2)] []
  refine B rfl ?_
  refine And.intro (fun h1 => ?_) (fun h1 => ?_)
  · skip
    refine B rfl ?_
    refine And.intro (by omega) ?_
    refine Exists.intro _ (And.intro rfl ?_)
    exact (And.intro (by show (0 = 1 ∧ 0 ≤ a1 ∧ 0 ≤ a2 ∧ a1 + a2 ≤ σ a0 3) ∨ (0 = 0 ∧ ¬ (0 ≤ a1 ∧ 0 ≤ a2 ∧ a1 + a2 ≤ σ a0 3)); omega) rfl)
  · skip
    refine And.intro (fun h2 => ?_) (fun h2 => ?_)
    · skip
      refine B rfl ?_
      refine And.intro (by omega) ?_
      refine Exists.intro _ (And.intro rfl ?_)
      exact (And.intro (by show (0 = 1 ∧ 0 ≤ a1 ∧ 0 ≤ a2 ∧ a1 + a2 ≤ σ a0 3) ∨ (0 = 0 ∧ ¬ (0 ≤ a1 ∧ 0 ≤ a2 ∧ a1 + a2 ≤ σ a0 3)); omega) rfl)
    · skip
      intro z3 ez3 hz3
      have hz3 : (0 : Int) ≤ z3 ∧ z3 ≤ (60 : Int) := hz3
      refine And.intro (fun h4 => ?_) (fun h4 => ?_)
      · skip
        refine B rfl ?_
        refine And.intro (by omega) ?_
        refine Exists.intro _ (And.intro rfl ?_)
        exact (And.intro (by show (0 = 1 ∧ 0 ≤ a1 ∧ 0 ≤ a2 ∧ a1 + a2 ≤ σ a0 3) ∨ (0 = 0 ∧ ¬ (0 ≤ a1 ∧ 0 ≤ a2 ∧ a1 + a2 ≤ σ a0 3)); omega) rfl)
      · skip
        intro z5 ez5 hz5
        have q6 : z3 = z5 := ez3.trans ez5.symm
        subst q6
        refine And.intro (by omega) ?_
        refine And.intro (fun h7 => ?_) (fun h7 => ?_)
        · skip
          refine B rfl ?_
          refine And.intro (by omega) ?_
          refine Exists.intro _ (And.intro rfl ?_)
          exact (And.intro (by show (0 = 1 ∧ 0 ≤ a1 ∧ 0 ≤ a2 ∧ a1 + a2 ≤ σ a0 3) ∨ (0 = 0 ∧ ¬ (0 ≤ a1 ∧ 0 ≤ a2 ∧ a1 + a2 ≤ σ a0 3)); omega) rfl)
        · skip
          refine B rfl ?_
          refine And.intro (by omega) ?_
          refine Exists.intro _ (And.intro rfl ?_)
          exact (And.intro (by show (1 = 1 ∧ 0 ≤ a1 ∧ 0 ≤ a2 ∧ a1 + a2 ≤ σ a0 3) ∨ (1 = 0 ∧ ¬ (0 ≤ a1 ∧ 0 ≤ a2 ∧ a1 + a2 ≤ σ a0 3)); omega) rfl)
def as_G_X4_areSmall : Int × Int × Int → List Sv_t := fun a => [(40, a.1), (0, a.2.1), (0, a.2.2)]
def pre_G_X4_areSmall : Int × Int × Int → Me_t → Prop := fun a σ => (0 ≤ a.2.1) ∧ (a.2.1 ≤ 100) ∧ (0 ≤ a.2.2) ∧ (a.2.2 ≤ 100)
def post_G_X4_areSmall : Int × Int × Int → Me_t → Int → Me_t → Prop := fun a σ z σ' => (z = 0 ∨ ∀ j : Int, a.2.1 ≤ j → j < a.2.1 + a.2.2 → j < σ a.1 3 → 0 ≤ σ (a.1 + 1) j ∧ σ (a.1 + 1) j ≤ 1999) ∧ (σ = σ')
set_option maxHeartbeats 1500000 in
set_option maxRecDepth 100000 in
theorem ct_G_X4_areSmall (l : Launch) : CT_ l yX4_areSmall cX4_areSmall 4 (some .boolean) 0 0 as_G_X4_areSmall (rmI_) pre_G_X4_areSmall post_G_X4_areSmall := by
  refine ct_of (by decide) (fun _ => Nat.le_of_ble_eq_true rfl) ?_
  intro X G Q ad σ a hl hR E hG R hM hv hp
  obtain ⟨a0, a1, a2⟩ := a
  have k_a0 : isRow_ a0 := tvRow_ (hv (40, a0) (List.mem_of_getElem? (i := 0) rfl))
  have r_a0 : 78 ≤ a0 ∧ a0 ≤ 84 := by unfold isRow_ at k_a0; omega
  have r_a1 : -2147483648 ≤ a1 ∧ a1 ≤ 2147483647 := hv (0, a1) (List.mem_of_getElem? (i := 1) rfl)
  have r_a2 : -2147483648 ≤ a2 ∧ a2 ≤ 2147483647 := hv (0, a2) (List.mem_of_getElem? (i := 2) rfl)
  have hp0 : 0 ≤ a1 := hp.1
  have hp1 : a1 ≤ 100 := hp.2.1
  have hp2 : 0 ≤ a2 := hp.2.2.1
  have hp3 : a2 ≤ 100 := hp.2.2.2
  have B := @bk_ X G Q 0 0 ad SHS_ RX4 cX4_areSmall 4 (some .boolean) flX4 plX4 knX4 [] _ _ none kX4_areSmall [2] flX4_ok plX4_ok knX4_ok eX4_areSmall oX4_areSmall
    (fun _ h => absurd h List.not_mem_nil) R sok_no E
  show WP_ X G Q 0 0 ad SHS_ σ 0 [(40, a0), (0, a1), (0, a2), (9, 0)] []
  refine B rfl ?_
  have lp_2 : ∀ (nq_ : Nat) (v3 : Int), (a1 ≤ v3) → (v3 ≤ a1 + a2) → (∀ j : Int, a1 ≤ j → j < v3 → 0 ≤ σ (a0 + 1) j ∧ σ (a0 + 1) j ≤ 1999) → (a1 + a2 - v3 : Int).toNat < nq_ → WP_ X G Q 0 0 ad SHS_ σ 2 [(40, a0), (0, a1), (0, a2), (0, v3)] [] := by
    intro nq_
    induction nq_ with
    | zero => intros; omega
    | succ nq_ ih_2 =>
      intro v3 hi2_0 hi2_1 hi2_2 hm2
      refine B rfl ?_
      refine And.intro (by omega) ?_
      refine And.intro (fun h1 => ?_) (fun h1 => ?_)
      · skip
        refine B rfl ?_
        refine And.intro (by omega) ?_
        refine Exists.intro _ (And.intro rfl ?_)
        exact (And.intro (by show 1 = 0 ∨ ∀ j : Int, a1 ≤ j → j < a1 + a2 → j < σ a0 3 → 0 ≤ σ (a0 + 1) j ∧ σ (a0 + 1) j ≤ 1999; exact Or.inr (fun j h1 h2 h3 => hi2_2 j h1 (by omega))) rfl)
      · skip
        intro z2 ez2 hz2
        have hz2 : (0 : Int) ≤ z2 ∧ z2 ≤ (60 : Int) := hz2
        refine And.intro (fun h3 => ?_) (fun h3 => ?_)
        · skip
          refine B rfl ?_
          refine And.intro (by omega) ?_
          refine Exists.intro _ (And.intro rfl ?_)
          exact (And.intro (by show 1 = 0 ∨ ∀ j : Int, a1 ≤ j → j < a1 + a2 → j < σ a0 3 → 0 ≤ σ (a0 + 1) j ∧ σ (a0 + 1) j ≤ 1999; exact Or.inr (fun j h1 h2 h3 => hi2_2 j h1 (by omega))) rfl)
        · skip
          refine And.intro (by omega) ?_
          refine And.intro (fun h4 => ?_) (fun h4 => ?_)
          · simp only [lcmp_lt0, lcmp_ge0, lcmp_gt0, lcmp_le0, lcmp_eq0] at h4
            refine B rfl ?_
            refine And.intro (by omega) ?_
            refine Exists.intro _ (And.intro rfl ?_)
            exact (And.intro (by show 0 = 0 ∨ ∀ j : Int, a1 ≤ j → j < a1 + a2 → j < σ a0 3 → 0 ≤ σ (a0 + 1) j ∧ σ (a0 + 1) j ≤ 1999; exact Or.inl rfl) rfl)
          · simp only [lcmp_lt0, lcmp_ge0, lcmp_gt0, lcmp_le0, lcmp_eq0] at h4
            refine And.intro (by omega) ?_
            refine And.intro (fun h5 => ?_) (fun h5 => ?_)
            · simp only [lcmp_lt0, lcmp_ge0, lcmp_gt0, lcmp_le0, lcmp_eq0] at h5
              refine B rfl ?_
              refine And.intro (by omega) ?_
              exact ih_2 (v3 + 1) (by show a1 ≤ (v3 + 1); omega) (by show (v3 + 1) ≤ a1 + a2; omega) (by show ∀ j : Int, a1 ≤ j → j < (v3 + 1) → 0 ≤ σ (a0 + 1) j ∧ σ (a0 + 1) j ≤ 1999; intro j h1 h2; by_cases hj : j = v3; subst hj; omega; exact hi2_2 j h1 (by omega)) (by omega)
            · simp only [lcmp_lt0, lcmp_ge0, lcmp_gt0, lcmp_le0, lcmp_eq0] at h5
              refine And.intro (by omega) ?_
              refine Exists.intro _ (And.intro rfl ?_)
              exact (And.intro (by show 0 = 0 ∨ ∀ j : Int, a1 ≤ j → j < a1 + a2 → j < σ a0 3 → 0 ≤ σ (a0 + 1) j ∧ σ (a0 + 1) j ≤ 1999; exact Or.inl rfl) rfl)
  exact lp_2 ((a1 + a2 - a1 : Int).toNat + 1) a1 (by show a1 ≤ a1; omega) (by show a1 ≤ a1 + a2; omega) (by show ∀ j : Int, a1 ≤ j → j < a1 → 0 ≤ σ (a0 + 1) j ∧ σ (a0 + 1) j ≤ 1999; intro j h1 h2; omega) (by omega)
def as_G_X2_read : Int × Int → List Sv_t := fun a => [(31, 36), (40, a.1), (15, a.2)]
def pre_G_X2_read : Int × Int → Me_t → Prop := fun a σ => True
def post_G_X2_read : Int × Int → Me_t → Int → Me_t → Prop := fun a σ z σ' => (z = 0 ∨ ∀ j : Int, 0 ≤ j → j < σ' 36 2 → 0 ≤ σ' 38 j) ∧ (∀ k j : Int, ¬ (36 ≤ k ∧ k ≤ 38) → σ' k j = σ k j)
set_option maxHeartbeats 1500000 in
set_option maxRecDepth 100000 in
theorem ct_G_X2_read (l : Launch) : CT_ l yX2_read cX2_read 5 (some .boolean) 3 72 as_G_X2_read (rmI_) pre_G_X2_read post_G_X2_read := by
  refine ct_of (by decide) (fun _ => Nat.le_of_ble_eq_true rfl) ?_
  intro X G Q ad σ a hl hR E hG R hM hv hp
  obtain ⟨a1, a2⟩ := a
  have k_a1 : isRow_ a1 := tvRow_ (hv (40, a1) (List.mem_of_getElem? (i := 1) rfl))
  have r_a1 : 78 ≤ a1 ∧ a1 ≤ 84 := by unfold isRow_ at k_a1; omega
  have k_a2 : isWar_ a2 := tvWar_ (hv (15, a2) (List.mem_of_getElem? (i := 2) rfl))
  have r_a2 : 5 ≤ a2 ∧ a2 ≤ 67 := by unfold isWar_ at k_a2; omega
  have B := @bk_ X G Q 0 0 ad SHS_ RX2 cX2_read 5 (some .boolean) flX2 plX2 knX2 [(50, 3, TR_ as_G_X4_areSmall (rmI_) pre_G_X4_areSmall post_G_X4_areSmall), (66, 5, TR_ as_G_X9_dayOfDate (rmI_) pre_G_X9_dayOfDate post_G_X9_dayOfDate)] _ _ none kX2_read [9, 23, 31, 46, 117] flX2_ok plX2_ok knX2_ok eX2_read oX2_read
    (List.forall_mem_cons.mpr ⟨cok_v (t := 30) (c := 4) (N := 4) (n := 2) (idx := 25) E (ct_G_X4_areSmall X.2.1) (by rw [hR]; decide) (Nat.zero_le _) (Nat.zero_le _) hG rfl rfl ⟨rfl, by decide, by decide, by decide⟩ (fun _ => ⟨_, _, rfl, rfl⟩) wl_X2_25 wi_X4_areSmall ws_X4_areSmall wn_X4 wc_X4_areSmall, List.forall_mem_cons.mpr ⟨cok_v (t := 5) (c := 9) (N := 10) (n := 4) (idx := 33) E (ct_G_X9_dayOfDate X.2.1) (by rw [hR]; decide) (Nat.zero_le _) (Nat.zero_le _) hG rfl rfl ⟨rfl, by decide, by decide, by decide⟩ (fun _ => ⟨_, _, rfl, rfl⟩) wl_X2_33 wi_X9_dayOfDate ws_X9_dayOfDate wn_X9 wc_X9_dayOfDate, fun _ h => absurd h List.not_mem_nil⟩⟩) R sok_no E
  show WP_ X G Q 0 0 ad SHS_ σ 0 [(31, 36), (40, a1), (15, a2), (9, 0), (9, 0)] []
  refine B rfl ?_
  intro z1 ez1 hz1
  have hz1 : (0 : Int) ≤ z1 ∧ z1 ≤ (60 : Int) := hz1
  have q2 : Int.tmod z1 4 = z1 % 4 := Int.tmod_eq_emod_of_nonneg (by omega)
  refine And.intro (by omega) ?_
  refine And.intro (fun h3 => ?_) (fun h3 => ?_)
  · skip
    refine B rfl ?_
    intro z4 ez4 hz4
    have q5 : z1 = z4 := ez1.trans ez4.symm
    subst q5
    have q6 : Int.tdiv z1 4 = z1 / 4 := Int.tdiv_eq_ediv_of_nonneg (by omega)
    refine And.intro (by omega) ?_
    refine And.intro (by omega) ?_
    intro σ7 e8
    have lp_23 : ∀ (nq_ : Nat) (v3 : Int) (τ23 : Me_t), (∀ k j : Int, ¬ (36 ≤ k ∧ k ≤ 38) → τ23 k j = σ k j) → (0 ≤ v3) → (v3 ≤ 15) → (τ23 36 2 * 4 ≤ σ a1 3) → (∀ j : Int, 0 ≤ j → j < v3 → 0 ≤ τ23 38 j) → (15 - v3 : Int).toNat < nq_ → WP_ X G Q 0 0 ad SHS_ τ23 23 [(31, 36), (40, a1), (15, a2), (0, v3), (9, 0)] [] := by
      intro nq_
      induction nq_ with
      | zero => intros; omega
      | succ nq_ ih_23 =>
        intro v3 τ23 hf23 hi23_0 hi23_1 hi23_2 hi23_3 hm23
        refine B rfl ?_
        intro z9 ez9 hz9
        have hz9 : (0 : Int) ≤ z9 ∧ z9 ≤ (15 : Int) := hz9
        refine And.intro (fun h10 => ?_) (fun h10 => ?_)
        · skip
          refine B rfl ?_
          refine And.intro (by omega) ?_
          refine Exists.intro _ (And.intro rfl ?_)
          exact (And.intro (by show 1 = 0 ∨ ∀ j : Int, 0 ≤ j → j < τ23 36 2 → 0 ≤ τ23 38 j; exact Or.inr (fun j h1 h2 => hi23_3 j h1 (by omega))) (fun k j hk => (hf23 _ _ (by omega))))
        · skip
          show WP_ X G Q 0 0 ad SHS_ τ23 31 [(31, 36), (40, a1), (15, a2), (0, v3), (9, 0)] []
          refine B rfl ?_
          refine And.intro (by omega) ?_
          refine Exists.intro (a1, v3 * 4, 4) (And.intro rfl (And.intro (And.intro (by show 0 ≤ (v3 * 4); omega) (And.intro (by show (v3 * 4) ≤ 100; omega) (And.intro (by show 0 ≤ 4; omega) (by show 4 ≤ 100; omega)))) ?_))
          rintro z11 m_ h12
          obtain rfl : τ23 = m_ := h12.2
          have h13 : z11 = 0 ∨ ∀ j : Int, (v3 * 4) ≤ j → j < (v3 * 4) + 4 → j < τ23 a1 3 → 0 ≤ τ23 (a1 + 1) j ∧ τ23 (a1 + 1) j ≤ 1999 := h12.1
          have hsm0 := h12.1
          try dsimp only at hsm0
          refine And.intro (fun h14 => ?_) (fun h14 => ?_)
          · skip
            refine B rfl ?_
            try have t15 : τ23 a1 3 = σ a1 3 := (hf23 _ _ (by omega))
            have hsm : 0 ≤ τ23 (a1 + 1) (v3 * 4) ∧ τ23 (a1 + 1) (v3 * 4) ≤ 1999 := by
              rcases hsm0 with h | h
              · omega
              · exact h (v3 * 4) (by omega) (by omega) (by omega)
            refine And.intro (by omega) ?_
            have q16 := l2i_t (x := τ23 (a1 + 1) (v3 * 4))
            refine And.intro (by omega) ?_
            refine And.intro (by show (0 : Int) ≤ _ ∧ _ ≤ (1999 : Int); omega) ?_
            intro σ17 e18
            refine And.intro (by omega) ?_
            intro z19 ez19 hz19
            have hz19 : (0 : Int) ≤ z19 ∧ z19 ≤ (1999 : Int) := hz19
            have t20 : σ17 37 v3 = l2i_ (τ23 (a1 + 1) (v3 * 4)) := ups_v e18
            refine And.intro (by omega) ?_
            refine And.intro (by omega) ?_
            have q21 := l2i_t (x := σ17 (a1 + 1) ((v3 * 4) + 1))
            refine And.intro (by omega) ?_
            refine And.intro (by omega) ?_
            have q22 := l2i_t (x := σ17 (a1 + 1) ((v3 * 4) + 2))
            refine And.intro (by omega) ?_
            refine And.intro (by omega) ?_
            have q23 := l2i_t (x := σ17 (a1 + 1) ((v3 * 4) + 3))
            refine Exists.intro (a2, z19, l2i_ (σ17 (a1 + 1) ((v3 * 4) + 1)), l2i_ (σ17 (a1 + 1) ((v3 * 4) + 2)), l2i_ (σ17 (a1 + 1) ((v3 * 4) + 3))) (And.intro rfl (And.intro True.intro ?_))
            rintro z24 m_ h25
            obtain rfl : σ17 = m_ := h25.2
            have h26 : -2 ≤ z24 ∧ z24 ≤ 1999 := h25.1
            refine And.intro (by omega) ?_
            refine And.intro (by show ((-2) : Int) ≤ _ ∧ _ ≤ (1999 : Int); omega) ?_
            intro σ27 e28
            refine And.intro (by omega) ?_
            intro z29 ez29 hz29
            have hz29 : ((-2) : Int) ≤ z29 ∧ z29 ≤ (1999 : Int) := hz29
            have t30 : σ27 38 v3 = z24 := ups_v e28
            refine And.intro (fun h31 => ?_) (fun h31 => ?_)
            · skip
              refine B rfl ?_
              refine And.intro (by omega) ?_
              show WP_ X G Q 0 0 ad SHS_ σ27 23 [(31, 36), (40, a1), (15, a2), (0, v3 + 1), (0, v3 * 4)] []
              refine wdrop_ (L' := [(31, 36), (40, a1), (15, a2), (0, v3 + 1), (9, 0)]) ⟨Or.inr rfl, ⟨Or.inr rfl, ⟨Or.inr rfl, ⟨Or.inr rfl, ⟨Or.inl rfl, trivial⟩⟩⟩⟩⟩ ?_
              try have t32 : σ27 36 2 = τ23 36 2 := ((ups_r e28 (by omega)).trans (ups_r e18 (by omega)))
              exact ih_23 (v3 + 1) σ27 (fun k j hk => ((ups_r e28 (by omega)).trans ((ups_r e18 (by omega)).trans (hf23 _ _ (by omega))))) (by show 0 ≤ (v3 + 1); omega) (by show (v3 + 1) ≤ 15; omega) (by show σ27 36 2 * 4 ≤ σ a1 3; omega) (by show ∀ j : Int, 0 ≤ j → j < (v3 + 1) → 0 ≤ σ27 38 j; intro j h1 h2; by_cases hj : j = v3; subst hj; omega; rw [show σ27 38 j = τ23 38 j from ((ups_r e28 (by omega)).trans (ups_r e18 (by omega)))]; exact hi23_3 j h1 (by omega)) (by omega)
            · skip
              show WP_ X G Q 0 0 ad SHS_ σ27 117 [(31, 36), (40, a1), (15, a2), (0, v3), (0, v3 * 4)] []
              refine B rfl ?_
              refine And.intro (by omega) ?_
              refine Exists.intro _ (And.intro rfl ?_)
              try have t33 : σ27 36 2 = τ23 36 2 := ((ups_r e28 (by omega)).trans (ups_r e18 (by omega)))
              exact (And.intro (by show 0 = 0 ∨ ∀ j : Int, 0 ≤ j → j < σ27 36 2 → 0 ≤ σ27 38 j; exact Or.inl rfl) (fun k j hk => ((ups_r e28 (by omega)).trans ((ups_r e18 (by omega)).trans (hf23 _ _ (by omega))))))
          · skip
            show WP_ X G Q 0 0 ad SHS_ τ23 46 [(31, 36), (40, a1), (15, a2), (0, v3), (0, v3 * 4)] []
            refine B rfl ?_
            refine And.intro (by omega) ?_
            refine Exists.intro _ (And.intro rfl ?_)
            exact (And.intro (by show 0 = 0 ∨ ∀ j : Int, 0 ≤ j → j < τ23 36 2 → 0 ≤ τ23 38 j; exact Or.inl rfl) (fun k j hk => (hf23 _ _ (by omega))))
    have t34 : σ7 36 2 = Int.tdiv z1 4 := ups_v e8
    exact lp_23 ((15 - 0 : Int).toNat + 1) 0 σ7 (fun k j hk => (ups_r e8 (by omega))) (by show 0 ≤ 0; omega) (by show 0 ≤ 15; omega) (by show σ7 36 2 * 4 ≤ σ a1 3; omega) (by show ∀ j : Int, 0 ≤ j → j < 0 → 0 ≤ σ7 38 j; intro j h1 h2; omega) (by omega)
  · skip
    show WP_ X G Q 0 0 ad SHS_ σ 9 [(31, 36), (40, a1), (15, a2), (9, 0), (9, 0)] []
    refine B rfl ?_
    refine And.intro (by omega) ?_
    refine Exists.intro _ (And.intro rfl ?_)
    exact (And.intro (by show 0 = 0 ∨ ∀ j : Int, 0 ≤ j → j < σ 36 2 → 0 ≤ σ 38 j; exact Or.inl rfl) (fun k j hk => rfl))
def as_G_X2_placeOfOldest : Unit → List Sv_t := fun a => [(31, 36)]
def pre_G_X2_placeOfOldest : Unit → Me_t → Prop := fun a σ => True
def post_G_X2_placeOfOldest : Unit → Me_t → Int → Me_t → Prop := fun a σ z σ' => (σ = σ')
set_option maxHeartbeats 1500000 in
set_option maxRecDepth 100000 in
theorem ct_G_X2_placeOfOldest (l : Launch) : CT_ l yX2_placeOfOldest cX2_placeOfOldest 3 (some .int) 0 0 as_G_X2_placeOfOldest (rmI_) pre_G_X2_placeOfOldest post_G_X2_placeOfOldest := by
  refine ct_of (by decide) (fun _ => Nat.le_of_ble_eq_true rfl) ?_
  intro X G Q ad σ a hl hR E hG R hM hv hp
  have B := @bk_ X G Q 0 0 ad SHS_ RX2 cX2_placeOfOldest 3 (some .int) flX2 plX2 knX2 [] _ _ none kX2_placeOfOldest [15] flX2_ok plX2_ok knX2_ok eX2_placeOfOldest oX2_placeOfOldest
    (fun _ h => absurd h List.not_mem_nil) R sok_no E
  show WP_ X G Q 0 0 ad SHS_ σ 0 [(31, 36), (9, 0), (9, 0)] []
  refine B rfl ?_
  intro z1 ez1 hz1
  have hz1 : (0 : Int) ≤ z1 ∧ z1 ≤ (15 : Int) := hz1
  refine And.intro (fun h2 => ?_) (fun h2 => ?_)
  · skip
    refine B rfl ?_
    have lp_15 : ∀ (nq_ : Nat) (v1 : Int) (v2 : Int), (1 ≤ v2) → (v2 ≤ 16) → (-1 ≤ v1) → (v1 < v2) → (v1 ≤ 14) → (σ 36 2 = 0 ∨ 0 ≤ v1) → (16 - v2 : Int).toNat < nq_ → WP_ X G Q 0 0 ad SHS_ σ 15 [(31, 36), (0, v1), (0, v2)] [] := by
      intro nq_
      induction nq_ with
      | zero => intros; omega
      | succ nq_ ih_15 =>
        intro v1 v2 hi15_0 hi15_1 hi15_2 hi15_3 hi15_4 hi15_5 hm15
        refine B rfl ?_
        intro z3 ez3 hz3
        have q4 : z1 = z3 := ez1.trans ez3.symm
        subst q4
        refine And.intro (fun h5 => ?_) (fun h5 => ?_)
        · skip
          refine B rfl ?_
          refine Exists.intro _ (And.intro rfl ?_)
          exact rfl
        · skip
          refine And.intro (by omega) ?_
          intro z6 ez6 hz6
          have hz6 : ((-2) : Int) ≤ z6 ∧ z6 ≤ (1999 : Int) := hz6
          refine And.intro (by omega) ?_
          intro z7 ez7 hz7
          have hz7 : ((-2) : Int) ≤ z7 ∧ z7 ≤ (1999 : Int) := hz7
          refine And.intro (fun h8 => ?_) (fun h8 => ?_)
          · skip
            refine B rfl ?_
            refine And.intro (by omega) ?_
            exact ih_15 v1 (v2 + 1) (by show 1 ≤ (v2 + 1); omega) (by show (v2 + 1) ≤ 16; omega) (by show -1 ≤ v1; omega) (by show v1 < (v2 + 1); omega) (by show v1 ≤ 14; omega) (by show σ 36 2 = 0 ∨ 0 ≤ v1; omega) (by omega)
          · skip
            refine And.intro (by omega) ?_
            exact ih_15 v2 (v2 + 1) (by show 1 ≤ (v2 + 1); omega) (by show (v2 + 1) ≤ 16; omega) (by show -1 ≤ v2; omega) (by show v2 < (v2 + 1); omega) (by show v2 ≤ 14; omega) (by show σ 36 2 = 0 ∨ 0 ≤ v2; omega) (by omega)
    exact lp_15 ((16 - 1 : Int).toNat + 1) 0 1 (by show 1 ≤ 1; omega) (by show 1 ≤ 16; omega) (by show -1 ≤ 0; omega) (by show 0 < 1; omega) (by show 0 ≤ 14; omega) (by show σ 36 2 = 0 ∨ 0 ≤ 0; omega) (by omega)
  · skip
    refine B rfl ?_
    have lp_15 : ∀ (nq_ : Nat) (v1_1 : Int) (v2_1 : Int), (1 ≤ v2_1) → (v2_1 ≤ 16) → (-1 ≤ v1_1) → (v1_1 < v2_1) → (v1_1 ≤ 14) → (σ 36 2 = 0 ∨ 0 ≤ v1_1) → (16 - v2_1 : Int).toNat < nq_ → WP_ X G Q 0 0 ad SHS_ σ 15 [(31, 36), (0, v1_1), (0, v2_1)] [] := by
      intro nq_
      induction nq_ with
      | zero => intros; omega
      | succ nq_ ih_15 =>
        intro v1_1 v2_1 hi15_0 hi15_1 hi15_2 hi15_3 hi15_4 hi15_5 hm15
        refine B rfl ?_
        intro z9 ez9 hz9
        have q10 : z1 = z9 := ez1.trans ez9.symm
        subst q10
        refine And.intro (fun h11 => ?_) (fun h11 => ?_)
        · skip
          refine B rfl ?_
          refine Exists.intro _ (And.intro rfl ?_)
          exact rfl
        · skip
          refine And.intro (by omega) ?_
          intro z12 ez12 hz12
          have hz12 : ((-2) : Int) ≤ z12 ∧ z12 ≤ (1999 : Int) := hz12
          refine And.intro (by omega) ?_
          intro z13 ez13 hz13
          have hz13 : ((-2) : Int) ≤ z13 ∧ z13 ≤ (1999 : Int) := hz13
          refine And.intro (fun h14 => ?_) (fun h14 => ?_)
          · skip
            refine B rfl ?_
            refine And.intro (by omega) ?_
            exact ih_15 v1_1 (v2_1 + 1) (by show 1 ≤ (v2_1 + 1); omega) (by show (v2_1 + 1) ≤ 16; omega) (by show -1 ≤ v1_1; omega) (by show v1_1 < (v2_1 + 1); omega) (by show v1_1 ≤ 14; omega) (by show σ 36 2 = 0 ∨ 0 ≤ v1_1; omega) (by omega)
          · skip
            refine And.intro (by omega) ?_
            exact ih_15 v2_1 (v2_1 + 1) (by show 1 ≤ (v2_1 + 1); omega) (by show (v2_1 + 1) ≤ 16; omega) (by show -1 ≤ v2_1; omega) (by show v2_1 < (v2_1 + 1); omega) (by show v2_1 ≤ 14; omega) (by show σ 36 2 = 0 ∨ 0 ≤ v2_1; omega) (by omega)
    exact lp_15 ((16 - 1 : Int).toNat + 1) (-1) 1 (by show 1 ≤ 1; omega) (by show 1 ≤ 16; omega) (by show -1 ≤ (-1); omega) (by show (-1) < 1; omega) (by show (-1) ≤ 14; omega) (by show σ 36 2 = 0 ∨ 0 ≤ (-1); omega) (by omega)
def as_G_X2_earlierThan : Int → List Sv_t := fun a => [(31, 36), (0, a)]
def pre_G_X2_earlierThan : Int → Me_t → Prop := fun a σ => (0 ≤ a) ∧ (a < 15)
def post_G_X2_earlierThan : Int → Me_t → Int → Me_t → Prop := fun a σ z σ' => (σ = σ')
set_option maxHeartbeats 1500000 in
set_option maxRecDepth 100000 in
theorem ct_G_X2_earlierThan (l : Launch) : CT_ l yX2_earlierThan cX2_earlierThan 4 (some .int) 0 0 as_G_X2_earlierThan (rmI_) pre_G_X2_earlierThan post_G_X2_earlierThan := by
  refine ct_of (by decide) (fun _ => Nat.le_of_ble_eq_true rfl) ?_
  intro X G Q ad σ a hl hR E hG R hM hv hp
  obtain ⟨a1, rfl⟩ : ∃ q : Int, q = a := ⟨_, rfl⟩
  have r_a1 : -2147483648 ≤ a1 ∧ a1 ≤ 2147483647 := hv (0, a1) (List.mem_of_getElem? (i := 1) rfl)
  have hp0 : 0 ≤ a1 := hp.1
  have hp1 : a1 < 15 := hp.2
  have B := @bk_ X G Q 0 0 ad SHS_ RX2 cX2_earlierThan 4 (some .int) flX2 plX2 knX2 [] _ _ none kX2_earlierThan [4] flX2_ok plX2_ok knX2_ok eX2_earlierThan oX2_earlierThan
    (fun _ h => absurd h List.not_mem_nil) R sok_no E
  show WP_ X G Q 0 0 ad SHS_ σ 0 [(31, 36), (0, a1), (9, 0), (9, 0)] []
  refine B rfl ?_
  have lp_4 : ∀ (nq_ : Nat) (v2 : Int) (v3 : Int), (0 ≤ v3) → (v3 ≤ 15) → (0 ≤ v2) → (v2 ≤ v3) → (15 - v3 : Int).toNat < nq_ → WP_ X G Q 0 0 ad SHS_ σ 4 [(31, 36), (0, a1), (0, v2), (0, v3)] [] := by
    intro nq_
    induction nq_ with
    | zero => intros; omega
    | succ nq_ ih_4 =>
      intro v2 v3 hi4_0 hi4_1 hi4_2 hi4_3 hm4
      refine B rfl ?_
      intro z1 ez1 hz1
      have hz1 : (0 : Int) ≤ z1 ∧ z1 ≤ (15 : Int) := hz1
      refine And.intro (fun h2 => ?_) (fun h2 => ?_)
      · skip
        refine B rfl ?_
        refine Exists.intro _ (And.intro rfl ?_)
        exact rfl
      · skip
        refine And.intro (by omega) ?_
        intro z3 ez3 hz3
        have hz3 : ((-2) : Int) ≤ z3 ∧ z3 ≤ (1999 : Int) := hz3
        refine And.intro (by omega) ?_
        intro z4 ez4 hz4
        have hz4 : ((-2) : Int) ≤ z4 ∧ z4 ≤ (1999 : Int) := hz4
        refine And.intro (fun h5 => ?_) (fun h5 => ?_)
        · skip
          refine B rfl ?_
          refine And.intro (by omega) ?_
          exact ih_4 v2 (v3 + 1) (by show 0 ≤ (v3 + 1); omega) (by show (v3 + 1) ≤ 15; omega) (by show 0 ≤ v2; omega) (by show v2 ≤ (v3 + 1); omega) (by omega)
        · skip
          refine And.intro (by omega) ?_
          refine And.intro (by omega) ?_
          exact ih_4 (v2 + 1) (v3 + 1) (by show 0 ≤ (v3 + 1); omega) (by show (v3 + 1) ≤ 15; omega) (by show 0 ≤ (v2 + 1); omega) (by show (v2 + 1) ≤ (v3 + 1); omega) (by omega)
  exact lp_4 ((15 - 0 : Int).toNat + 1) 0 0 (by show 0 ≤ 0; omega) (by show 0 ≤ 15; omega) (by show 0 ≤ 0; omega) (by show 0 ≤ 0; omega) (by omega)
def as_G_X2_daysApart : Unit → List Sv_t := fun a => [(31, 36)]
def pre_G_X2_daysApart : Unit → Me_t → Prop := fun a σ => True
def post_G_X2_daysApart : Unit → Me_t → Int → Me_t → Prop := fun a σ z σ' => (σ = σ')
set_option maxHeartbeats 1500000 in
set_option maxRecDepth 100000 in
theorem ct_G_X2_daysApart (l : Launch) : CT_ l yX2_daysApart cX2_daysApart 4 (some .int) 1 21 as_G_X2_daysApart (rmI_) pre_G_X2_daysApart post_G_X2_daysApart := by
  refine ct_of (by decide) (fun _ => Nat.le_of_ble_eq_true rfl) ?_
  intro X G Q ad σ a hl hR E hG R hM hv hp
  have B := @bk_ X G Q 0 0 ad SHS_ RX2 cX2_daysApart 4 (some .int) flX2 plX2 knX2 [(79, 2, TMIN_), (91, 2, TMAX_)] _ _ none kX2_daysApart [25] flX2_ok plX2_ok knX2_ok eX2_daysApart oX2_daysApart
    (List.forall_mem_cons.mpr ⟨cok_min (idx := 39) E (by rw [hR]; decide) (Nat.zero_le _) (Nat.zero_le _) wl_X2_39, List.forall_mem_cons.mpr ⟨cok_max (idx := 45) E (by rw [hR]; decide) (Nat.zero_le _) (Nat.zero_le _) wl_X2_45, fun _ h => absurd h List.not_mem_nil⟩⟩) R sok_no E
  show WP_ X G Q 0 0 ad SHS_ σ 0 [(31, 36), (9, 0), (9, 0), (9, 0)] []
  refine B rfl ?_
  intro z1 ez1 hz1
  have hz1 : (0 : Int) ≤ z1 ∧ z1 ≤ (15 : Int) := hz1
  refine And.intro (fun h2 => ?_) (fun h2 => ?_)
  · skip
    refine B rfl ?_
    refine And.intro (by omega) ?_
    intro z3 ez3 hz3
    have hz3 : ((-2) : Int) ≤ z3 ∧ z3 ≤ (1999 : Int) := hz3
    refine And.intro (by omega) ?_
    intro z4 ez4 hz4
    have q5 : z3 = z4 := ez3.trans ez4.symm
    subst q5
    have lp_25 : ∀ (nq_ : Nat) (v1 : Int) (v2 : Int) (v3 : Int), (-2 ≤ v1) → (v1 ≤ 1999) → (-2 ≤ v2) → (v2 ≤ 1999) → (1 ≤ v3) → (v3 ≤ 15) → (15 - v3 : Int).toNat < nq_ → WP_ X G Q 0 0 ad SHS_ σ 25 [(31, 36), (0, v1), (0, v2), (0, v3)] [] := by
      intro nq_
      induction nq_ with
      | zero => intros; omega
      | succ nq_ ih_25 =>
        intro v1 v2 v3 hi25_0 hi25_1 hi25_2 hi25_3 hi25_4 hi25_5 hm25
        refine B rfl ?_
        intro z6 ez6 hz6
        have q7 : z1 = z6 := ez1.trans ez6.symm
        subst q7
        refine And.intro (fun h8 => ?_) (fun h8 => ?_)
        · skip
          refine B rfl ?_
          refine And.intro (by omega) ?_
          refine Exists.intro _ (And.intro rfl ?_)
          exact rfl
        · skip
          refine And.intro (by omega) ?_
          intro z9 ez9 hz9
          have hz9 : ((-2) : Int) ≤ z9 ∧ z9 ≤ (1999 : Int) := hz9
          refine Exists.intro v1 (Exists.intro z9 (And.intro rfl ?_))
          intro z10 hz10
          refine And.intro (by omega) ?_
          intro z11 ez11 hz11
          have q12 : z9 = z11 := ez9.trans ez11.symm
          subst q12
          refine Exists.intro v2 (Exists.intro z9 (And.intro rfl ?_))
          intro z13 hz13
          refine And.intro (by omega) ?_
          exact ih_25 z10 z13 (v3 + 1) (by show -2 ≤ z10; omega) (by show z10 ≤ 1999; omega) (by show -2 ≤ z13; omega) (by show z13 ≤ 1999; omega) (by show 1 ≤ (v3 + 1); omega) (by show (v3 + 1) ≤ 15; omega) (by omega)
    exact lp_25 ((15 - 1 : Int).toNat + 1) z3 z3 1 (by show -2 ≤ z3; omega) (by show z3 ≤ 1999; omega) (by show -2 ≤ z3; omega) (by show z3 ≤ 1999; omega) (by show 1 ≤ 1; omega) (by show 1 ≤ 15; omega) (by omega)
  · skip
    refine Exists.intro _ (And.intro rfl ?_)
    exact rfl
def as_G_X2_datedAtRest : Unit → List Sv_t := fun a => [(31, 36), (25, 30)]
def pre_G_X2_datedAtRest : Unit → Me_t → Prop := fun a σ => (DT σ) ∧ (∀ j : Int, 0 ≤ j → j < σ 36 2 → 0 ≤ σ 38 j)
def post_G_X2_datedAtRest : Unit → Me_t → Int → Me_t → Prop := fun a σ z σ' => (σ = σ')
set_option maxHeartbeats 1500000 in
set_option maxRecDepth 100000 in
theorem ct_G_X2_datedAtRest (l : Launch) : CT_ l yX2_datedAtRest cX2_datedAtRest 4 (some .int) 1 24 as_G_X2_datedAtRest (rmI_) pre_G_X2_datedAtRest post_G_X2_datedAtRest := by
  refine ct_of (by decide) (fun _ => Nat.le_of_ble_eq_true rfl) ?_
  intro X G Q ad σ a hl hR E hG R hM hv hp
  have hp0 : DT σ := hp.1
  have hp1 : ∀ j : Int, 0 ≤ j → j < σ 36 2 → 0 ≤ σ 38 j := hp.2
  have B := @bk_ X G Q 0 0 ad SHS_ RX2 cX2_datedAtRest 4 (some .int) flX2 plX2 knX2 [(96, 4, TR_ as_G_X0_part (rmI_) pre_G_X0_part post_G_X0_part)] _ _ none kX2_datedAtRest [4] flX2_ok plX2_ok knX2_ok eX2_datedAtRest oX2_datedAtRest
    (List.forall_mem_cons.mpr ⟨cok_v (t := 15) (c := 0) (N := 9) (n := 3) (idx := 48) E (ct_G_X0_part X.2.1) (by rw [hR]; decide) (Nat.zero_le _) (Nat.zero_le _) hG rfl rfl ⟨rfl, by decide, by decide, by decide⟩ (fun _ => ⟨_, _, rfl, rfl⟩) wl_X2_48 wi_X0_part ws_X0_part wn_X0 wc_X0_part, fun _ h => absurd h List.not_mem_nil⟩) R sok_no E
  show WP_ X G Q 0 0 ad SHS_ σ 0 [(31, 36), (25, 30), (9, 0), (9, 0)] []
  refine B rfl ?_
  have lp_4 : ∀ (nq_ : Nat) (v2 : Int) (v3 : Int), (0 ≤ v3) → (v3 ≤ 15) → (0 ≤ v2) → (v2 ≤ v3) → (15 - v3 : Int).toNat < nq_ → WP_ X G Q 0 0 ad SHS_ σ 4 [(31, 36), (25, 30), (0, v2), (0, v3)] [] := by
    intro nq_
    induction nq_ with
    | zero => intros; omega
    | succ nq_ ih_4 =>
      intro v2 v3 hi4_0 hi4_1 hi4_2 hi4_3 hm4
      refine B rfl ?_
      intro z1 ez1 hz1
      have hz1 : (0 : Int) ≤ z1 ∧ z1 ≤ (15 : Int) := hz1
      refine And.intro (fun h2 => ?_) (fun h2 => ?_)
      · skip
        refine B rfl ?_
        refine Exists.intro _ (And.intro rfl ?_)
        exact rfl
      · skip
        refine And.intro (by omega) ?_
        intro z3 ez3 hz3
        have hz3 : (0 : Int) ≤ z3 ∧ z3 ≤ (1999 : Int) := hz3
        refine And.intro (by omega) ?_
        intro z4 ez4 hz4
        have hz4 : ((-2) : Int) ≤ z4 ∧ z4 ≤ (1999 : Int) := hz4
        have hod := hp1 v3 (by omega) (by omega)
        refine Exists.intro (z3, z4, 4) (And.intro rfl (And.intro (And.intro hp0 (And.intro (by show 0 ≤ z4; omega) (And.intro (by show z4 ≤ 1999; omega) (by show 4 = 4 ∨ (0 ≤ z3 ∧ z3 ≤ 2); omega)))) ?_))
        rintro z5 m_ h6
        obtain rfl : σ = m_ := h6.2.2.2.2
        have h7 : -1 ≤ z5 ∧ z5 ≤ 200000 := h6.1
        have h8 : (4 : Int) = 4 → 0 ≤ z5 ∧ z5 ≤ 1 := h6.2.1
        have h9 : (4 : Int) = 1 → z5 ≤ 7 := h6.2.2.1
        have h10 : (4 : Int) = 3 → z5 ≤ 10 := h6.2.2.2.1
        refine And.intro (by omega) ?_
        refine And.intro (by omega) ?_
        refine And.intro (by omega) ?_
        exact ih_4 (v2 + (1 - z5)) (v3 + 1) (by show 0 ≤ (v3 + 1); omega) (by show (v3 + 1) ≤ 15; omega) (by show 0 ≤ (v2 + (1 - z5)); omega) (by show (v2 + (1 - z5)) ≤ (v3 + 1); omega) (by omega)
  exact lp_4 ((15 - 0 : Int).toNat + 1) 0 0 (by show 0 ≤ 0; omega) (by show 0 ≤ 15; omega) (by show 0 ≤ 0; omega) (by show 0 ≤ 0; omega) (by omega)
def as_G_X5_openDays : Int × Int × Int → List Sv_t := fun a => [(29, 34), (0, a.1), (0, a.2.1), (25, 30), (0, a.2.2)]
def pre_G_X5_openDays : Int × Int × Int → Me_t → Prop := fun a σ => (DT σ) ∧ (0 ≤ a.1) ∧ (a.1 ≤ 2000000) ∧ (0 ≤ a.2.1) ∧ (a.2.1 ≤ 69)
def post_G_X5_openDays : Int × Int × Int → Me_t → Int → Me_t → Prop := fun a σ z σ' => (∀ k j : Int, ¬ (k = 35) → σ' k j = σ k j)
set_option maxHeartbeats 1500000 in
set_option maxRecDepth 100000 in
theorem ct_G_X5_openDays (l : Launch) : CT_ l yX5_openDays cX5_openDays 6 none 1 24 as_G_X5_openDays (rmV_) pre_G_X5_openDays post_G_X5_openDays := by
  refine ct_of (by decide) (fun _ => Nat.le_of_ble_eq_true rfl) ?_
  intro X G Q ad σ a hl hR E hG R hM hv hp
  obtain ⟨a1, a2, a4⟩ := a
  have r_a1 : -2147483648 ≤ a1 ∧ a1 ≤ 2147483647 := hv (0, a1) (List.mem_of_getElem? (i := 1) rfl)
  have r_a2 : -2147483648 ≤ a2 ∧ a2 ≤ 2147483647 := hv (0, a2) (List.mem_of_getElem? (i := 2) rfl)
  have r_a4 : -2147483648 ≤ a4 ∧ a4 ≤ 2147483647 := hv (0, a4) (List.mem_of_getElem? (i := 4) rfl)
  have hp0 : DT σ := hp.1
  have hp1 : 0 ≤ a1 := hp.2.1
  have hp2 : a1 ≤ 2000000 := hp.2.2.1
  have hp3 : 0 ≤ a2 := hp.2.2.2.1
  have hp4 : a2 ≤ 69 := hp.2.2.2.2
  have B := @bk_ X G Q 0 0 ad SHS_ RX5 cX5_openDays 6 none flX5 plX5 knX5 [(90, 4, TR_ as_G_X0_part (rmI_) pre_G_X0_part post_G_X0_part)] _ _ none kX5_openDays [3] flX5_ok plX5_ok knX5_ok eX5_openDays oX5_openDays
    (List.forall_mem_cons.mpr ⟨cok_v (t := 15) (c := 0) (N := 9) (n := 3) (idx := 45) E (ct_G_X0_part X.2.1) (by rw [hR]; decide) (Nat.zero_le _) (Nat.zero_le _) hG rfl rfl ⟨rfl, by decide, by decide, by decide⟩ (fun _ => ⟨_, _, rfl, rfl⟩) wl_X5_45 wi_X0_part ws_X0_part wn_X0 wc_X0_part, fun _ h => absurd h List.not_mem_nil⟩) R sok_no E
  show WP_ X G Q 0 0 ad SHS_ σ 0 [(29, 34), (0, a1), (0, a2), (25, 30), (0, a4), (9, 0)] []
  refine B rfl ?_
  have lp_3 : ∀ (nq_ : Nat) (v5 : Int) (τ3 : Me_t), (∀ k j : Int, ¬ (k = 35) → τ3 k j = σ k j) → (0 ≤ v5) → (v5 ≤ 69) → (69 - v5 : Int).toNat < nq_ → WP_ X G Q 0 0 ad SHS_ τ3 3 [(29, 34), (0, a1), (0, a2), (25, 30), (0, a4), (0, v5)] [] := by
    intro nq_
    induction nq_ with
    | zero => intros; omega
    | succ nq_ ih_3 =>
      intro v5 τ3 hf3 hi3_0 hi3_1 hm3
      refine B rfl ?_
      refine And.intro (fun h1 => ?_) (fun h1 => ?_)
      · skip
        refine B rfl ?_
        refine Exists.intro 0 (And.intro rfl ?_)
        exact (fun k j hk => (hf3 _ _ (by omega)))
      · skip
        refine And.intro (by omega) ?_
        refine And.intro (fun h2 => ?_) (fun h2 => ?_)
        · skip
          refine B rfl ?_
          refine Exists.intro 0 (And.intro rfl ?_)
          exact (fun k j hk => (hf3 _ _ (by omega)))
        · skip
          refine And.intro (by omega) ?_
          have p3 : DT τ3 := DT_fr hp0 (fun k j hk => (hf3 _ _ (by omega)))
          refine Exists.intro (a4, a1 + v5, 4) (And.intro rfl (And.intro (And.intro p3 (And.intro (by show 0 ≤ (a1 + v5); omega) (And.intro (by show (a1 + v5) ≤ 1999; omega) (by show 4 = 4 ∨ (0 ≤ a4 ∧ a4 ≤ 2); omega)))) ?_))
          rintro z4 m_ h5
          obtain rfl : τ3 = m_ := h5.2.2.2.2
          have h6 : -1 ≤ z4 ∧ z4 ≤ 200000 := h5.1
          have h7 : (4 : Int) = 4 → 0 ≤ z4 ∧ z4 ≤ 1 := h5.2.1
          have h8 : (4 : Int) = 1 → z4 ≤ 7 := h5.2.2.1
          have h9 : (4 : Int) = 3 → z4 ≤ 10 := h5.2.2.2.1
          refine And.intro (fun h10 => ?_) (fun h10 => ?_)
          · skip
            refine B rfl ?_
            refine And.intro (by omega) ?_
            exact ih_3 (v5 + 1) τ3 (fun k j hk => (hf3 _ _ (by omega))) (by show 0 ≤ (v5 + 1); omega) (by show (v5 + 1) ≤ 69; omega) (by omega)
          · skip
            refine And.intro (by omega) ?_
            refine And.intro (by show (0 : Int) ≤ _ ∧ _ ≤ (1 : Int); omega) ?_
            intro σ11 e12
            refine And.intro (by omega) ?_
            exact ih_3 (v5 + 1) σ11 (fun k j hk => ((ups_r e12 (by omega)).trans (hf3 _ _ (by omega)))) (by show 0 ≤ (v5 + 1); omega) (by show (v5 + 1) ≤ 69; omega) (by omega)
  exact lp_3 ((69 - 0 : Int).toNat + 1) 0 σ (fun k j hk => rfl) (by show 0 ≤ 0; omega) (by show 0 ≤ 69; omega) (by omega)
def as_G_X5_cover : Int × Int → List Sv_t := fun a => [(29, 34), (0, a.1), (0, a.2)]
def pre_G_X5_cover : Int × Int → Me_t → Prop := fun a σ => (-1 ≤ a.1) ∧ (a.1 ≤ 59) ∧ (1 ≤ a.2) ∧ (a.2 ≤ 9)
def post_G_X5_cover : Int × Int → Me_t → Int → Me_t → Prop := fun a σ z σ' => (∀ k j : Int, ¬ (k = 34) → σ' k j = σ k j)
set_option maxHeartbeats 1500000 in
set_option maxRecDepth 100000 in
theorem ct_G_X5_cover (l : Launch) : CT_ l yX5_cover cX5_cover 6 none 1 21 as_G_X5_cover (rmV_) pre_G_X5_cover post_G_X5_cover := by
  refine ct_of (by decide) (fun _ => Nat.le_of_ble_eq_true rfl) ?_
  intro X G Q ad σ a hl hR E hG R hM hv hp
  obtain ⟨a1, a2⟩ := a
  have r_a1 : -2147483648 ≤ a1 ∧ a1 ≤ 2147483647 := hv (0, a1) (List.mem_of_getElem? (i := 1) rfl)
  have r_a2 : -2147483648 ≤ a2 ∧ a2 ≤ 2147483647 := hv (0, a2) (List.mem_of_getElem? (i := 2) rfl)
  have hp0 : -1 ≤ a1 := hp.1
  have hp1 : a1 ≤ 59 := hp.2.1
  have hp2 : 1 ≤ a2 := hp.2.2.1
  have hp3 : a2 ≤ 9 := hp.2.2.2
  have B := @bk_ X G Q 0 0 ad SHS_ RX5 cX5_cover 6 none flX5 plX5 knX5 [(101, 2, TMIN_)] _ _ none kX5_cover [15, 25, 35, 41, 60] flX5_ok plX5_ok knX5_ok eX5_cover oX5_cover
    (List.forall_mem_cons.mpr ⟨cok_min (idx := 50) E (by rw [hR]; decide) (Nat.zero_le _) (Nat.zero_le _) wl_X5_50, fun _ h => absurd h List.not_mem_nil⟩) R sok_no E
  show WP_ X G Q 0 0 ad SHS_ σ 0 [(29, 34), (0, a1), (0, a2), (9, 0), (9, 0), (9, 0)] []
  refine B rfl ?_
  refine And.intro (by omega) ?_
  intro σ1 e2
  intro σ3 e4
  have lp_15 : ∀ (nq_ : Nat) (v3 : Int) (v4 : Int) (τ15 : Me_t), (∀ k j : Int, ¬ (k = 34) → τ15 k j = σ k j) → (0 ≤ v4) → (v4 ≤ 69) → (-10 ≤ v3) → (v3 ≤ 100) → (0 ≤ τ15 34 1) → (τ15 34 1 ≤ v4) → (69 - v4 : Int).toNat < nq_ → WP_ X G Q 0 0 ad SHS_ τ15 15 [(29, 34), (0, a1), (0, a2), (0, v3), (0, v4), (9, 0)] [] := by
    intro nq_
    induction nq_ with
    | zero => intros; omega
    | succ nq_ ih_15 =>
      intro v3 v4 τ15 hf15 hi15_0 hi15_1 hi15_2 hi15_3 hi15_4 hi15_5 hm15
      refine B rfl ?_
      refine And.intro (fun h5 => ?_) (fun h5 => ?_)
      · skip
        refine B rfl ?_
        refine Exists.intro 0 (And.intro rfl ?_)
        exact (fun k j hk => (hf15 _ _ (by omega)))
      · skip
        show WP_ X G Q 0 0 ad SHS_ τ15 25 [(29, 34), (0, a1), (0, a2), (0, v3), (0, v4), (9, 0)] []
        refine B rfl ?_
        refine And.intro (by omega) ?_
        intro z6 ez6 hz6
        have hz6 : (0 : Int) ≤ z6 ∧ z6 ≤ (1 : Int) := hz6
        try have t7 : τ15 35 v4 = σ 35 v4 := (hf15 _ _ (by omega))
        refine And.intro (fun h8 => ?_) (fun h8 => ?_)
        · skip
          refine B rfl ?_
          refine And.intro (by omega) ?_
          exact ih_15 v3 (v4 + 1) τ15 (fun k j hk => (hf15 _ _ (by omega))) (by show 0 ≤ (v4 + 1); omega) (by show (v4 + 1) ≤ 69; omega) (by show -10 ≤ v3; omega) (by show v3 ≤ 100; omega) (by show 0 ≤ τ15 34 1; omega) (by show τ15 34 1 ≤ (v4 + 1); omega) (by omega)
        · skip
          show WP_ X G Q 0 0 ad SHS_ τ15 35 [(29, 34), (0, a1), (0, a2), (0, v3), (0, v4), (9, 0)] []
          refine B rfl ?_
          refine And.intro (fun h9 => ?_) (fun h9 => ?_)
          · skip
            refine B rfl ?_
            refine And.intro (by omega) ?_
            exact ih_15 v3 (v4 + 1) τ15 (fun k j hk => (hf15 _ _ (by omega))) (by show 0 ≤ (v4 + 1); omega) (by show (v4 + 1) ≤ 69; omega) (by show -10 ≤ v3; omega) (by show v3 ≤ 100; omega) (by show 0 ≤ τ15 34 1; omega) (by show τ15 34 1 ≤ (v4 + 1); omega) (by omega)
          · skip
            show WP_ X G Q 0 0 ad SHS_ τ15 41 [(29, 34), (0, a1), (0, a2), (0, v3), (0, v4), (9, 0)] []
            refine B rfl ?_
            refine Exists.intro v4 (Exists.intro a1 (And.intro rfl ?_))
            intro z10 hz10
            refine And.intro (by omega) ?_
            refine And.intro (fun h11 => ?_) (fun h11 => ?_)
            · skip
              refine B rfl ?_
              intro z12 ez12 hz12
              have hz12 : ((-1) : Int) ≤ z12 ∧ z12 ≤ (69 : Int) := hz12
              refine And.intro (by omega) ?_
              refine And.intro (by omega) ?_
              intro σ13 e14
              intro z15 ez15 _
              try have t16 : σ13 34 2 = σ 34 2 := ((ups_r e14 (by omega)).trans (hf15 _ _ (by omega)))
              intro σ17 e18
              refine And.intro (by omega) ?_
              show WP_ X G Q 0 0 ad SHS_ σ17 15 [(29, 34), (0, a1), (0, a2), (0, z10 + a2), (0, v4 + 1), (0, z10)] []
              refine wdrop_ (L' := [(29, 34), (0, a1), (0, a2), (0, z10 + a2), (0, v4 + 1), (9, 0)]) ⟨Or.inr rfl, ⟨Or.inr rfl, ⟨Or.inr rfl, ⟨Or.inr rfl, ⟨Or.inr rfl, ⟨Or.inl rfl, trivial⟩⟩⟩⟩⟩⟩ ?_
              have t19 : σ17 34 1 = z12 + 1 := ((ups_r e18 (by omega))).trans (ups_v e14)
              exact ih_15 (z10 + a2) (v4 + 1) σ17 (fun k j hk => ((ups_r e18 (by omega)).trans ((ups_r e14 (by omega)).trans (hf15 _ _ (by omega))))) (by show 0 ≤ (v4 + 1); omega) (by show (v4 + 1) ≤ 69; omega) (by show -10 ≤ (z10 + a2); omega) (by show (z10 + a2) ≤ 100; omega) (by show 0 ≤ σ17 34 1; omega) (by show σ17 34 1 ≤ (v4 + 1); omega) (by omega)
            · skip
              show WP_ X G Q 0 0 ad SHS_ τ15 60 [(29, 34), (0, a1), (0, a2), (0, z10 + a2), (0, v4), (0, z10)] []
              refine B rfl ?_
              refine And.intro (by omega) ?_
              intro σ20 e21
              intro σ22 e23
              refine Exists.intro 0 (And.intro rfl ?_)
              exact (fun k j hk => ((ups_r e23 (by omega)).trans ((ups_r e21 (by omega)).trans (hf15 _ _ (by omega)))))
  have t24 : σ3 34 1 = 0 := ((ups_r e4 (by omega))).trans (ups_v e2)
  exact lp_15 ((69 - 0 : Int).toNat + 1) 0 0 σ3 (fun k j hk => ((ups_r e4 (by omega)).trans (ups_r e2 (by omega)))) (by show 0 ≤ 0; omega) (by show 0 ≤ 69; omega) (by show -10 ≤ 0; omega) (by show 0 ≤ 100; omega) (by show 0 ≤ σ3 34 1; omega) (by show σ3 34 1 ≤ 0; omega) (by omega)
def as_G_X5_seek : Int × Int × Int × Int × Int × Int → List Sv_t := fun a => [(29, 34), (20, a.1), (25, 30), (0, a.2.1), (0, a.2.2.1), (0, a.2.2.2.1), (0, a.2.2.2.2.1), (0, a.2.2.2.2.2)]
def pre_G_X5_seek : Int × Int × Int × Int × Int × Int → Me_t → Prop := fun a σ => (DT σ) ∧ (0 ≤ a.2.1) ∧ (a.2.1 ≤ 2) ∧ (0 ≤ a.2.2.1) ∧ (a.2.2.1 ≤ 7) ∧ (0 ≤ a.2.2.2.1) ∧ (a.2.2.2.1 ≤ 1999) ∧ (1 ≤ a.2.2.2.2.1) ∧ (a.2.2.2.2.1 ≤ 20) ∧ (1 ≤ a.2.2.2.2.2) ∧ (a.2.2.2.2.2 ≤ 9)
def post_G_X5_seek : Int × Int × Int × Int × Int × Int → Me_t → Int → Me_t → Prop := fun a σ z σ' => (∀ k j : Int, ¬ (k = 34 ∨ k = 35) → σ' k j = σ k j)
set_option maxHeartbeats 1500000 in
set_option maxRecDepth 100000 in
theorem ct_G_X5_seek (l : Launch) : CT_ l yX5_seek cX5_seek 9 none 2 49 as_G_X5_seek (rmV_) pre_G_X5_seek post_G_X5_seek := by
  refine ct_of (by decide) (fun _ => Nat.le_of_ble_eq_true rfl) ?_
  intro X G Q ad σ a hl hR E hG R hM hv hp
  obtain ⟨a1, a3, a4, a5, a6, a7⟩ := a
  have k_a1 : isLand_ a1 := tvLand_ (hv (20, a1) (List.mem_of_getElem? (i := 1) rfl))
  have r_a1 : 10 ≤ a1 ∧ a1 ≤ 76 := by unfold isLand_ at k_a1; omega
  have r_a3 : -2147483648 ≤ a3 ∧ a3 ≤ 2147483647 := hv (0, a3) (List.mem_of_getElem? (i := 3) rfl)
  have r_a4 : -2147483648 ≤ a4 ∧ a4 ≤ 2147483647 := hv (0, a4) (List.mem_of_getElem? (i := 4) rfl)
  have r_a5 : -2147483648 ≤ a5 ∧ a5 ≤ 2147483647 := hv (0, a5) (List.mem_of_getElem? (i := 5) rfl)
  have r_a6 : -2147483648 ≤ a6 ∧ a6 ≤ 2147483647 := hv (0, a6) (List.mem_of_getElem? (i := 6) rfl)
  have r_a7 : -2147483648 ≤ a7 ∧ a7 ≤ 2147483647 := hv (0, a7) (List.mem_of_getElem? (i := 7) rfl)
  have hp0 : DT σ := hp.1
  have hp1 : 0 ≤ a3 := hp.2.1
  have hp2 : a3 ≤ 2 := hp.2.2.1
  have hp3 : 0 ≤ a4 := hp.2.2.2.1
  have hp4 : a4 ≤ 7 := hp.2.2.2.2.1
  have hp5 : 0 ≤ a5 := hp.2.2.2.2.2.1
  have hp6 : a5 ≤ 1999 := hp.2.2.2.2.2.2.1
  have hp7 : 1 ≤ a6 := hp.2.2.2.2.2.2.2.1
  have hp8 : a6 ≤ 20 := hp.2.2.2.2.2.2.2.2.1
  have hp9 : 1 ≤ a7 := hp.2.2.2.2.2.2.2.2.2.1
  have hp10 : a7 ≤ 9 := hp.2.2.2.2.2.2.2.2.2.2
  have B := @bk_ X G Q 0 0 ad SHS_ RX5 cX5_seek 9 none flX5 plX5 knX5 [(82, 3, TR_ as_G_X5_cover (rmV_) pre_G_X5_cover post_G_X5_cover), (46, 4, TR_ as_G_X1_dayOn (rmI_) pre_G_X1_dayOn post_G_X1_dayOn), (58, 3, TR_ as_G_X1_lengthIn (rmI_) pre_G_X1_lengthIn post_G_X1_lengthIn), (66, 5, TR_ as_G_X5_openDays (rmV_) pre_G_X5_openDays post_G_X5_openDays)] _ _ none kX5_seek [3, 13, 31, 41] flX5_ok plX5_ok knX5_ok eX5_seek oX5_seek
    (List.forall_mem_cons.mpr ⟨cok_v (t := 19) (c := 5) (N := 3) (n := 2) (idx := 41) E (ct_G_X5_cover X.2.1) (by rw [hR]; decide) (Nat.zero_le _) (Nat.zero_le _) hG rfl rfl ⟨rfl, by decide, by decide, by decide⟩ (fun _ => ⟨_, _, rfl, rfl⟩) wl_X5_41 wi_X5_cover ws_X5_cover wn_X5 wc_X5_cover, List.forall_mem_cons.mpr ⟨cok_v (t := 10) (c := 1) (N := 9) (n := 3) (idx := 23) E (ct_G_X1_dayOn X.2.1) (by rw [hR]; decide) (Nat.zero_le _) (Nat.zero_le _) hG rfl rfl ⟨rfl, by decide, by decide, by decide⟩ (fun _ => ⟨_, _, rfl, rfl⟩) wl_X5_23 wi_X1_dayOn ws_X1_dayOn wn_X1 wc_X1_dayOn, List.forall_mem_cons.mpr ⟨cok_v (t := 10) (c := 1) (N := 9) (n := 2) (idx := 29) E (ct_G_X1_lengthIn X.2.1) (by rw [hR]; decide) (Nat.zero_le _) (Nat.zero_le _) hG rfl rfl ⟨rfl, by decide, by decide, by decide⟩ (fun _ => ⟨_, _, rfl, rfl⟩) wl_X5_29 wi_X1_lengthIn ws_X1_lengthIn wn_X1 wc_X1_lengthIn, List.forall_mem_cons.mpr ⟨cok_v (t := 19) (c := 5) (N := 3) (n := 4) (idx := 33) E (ct_G_X5_openDays X.2.1) (by rw [hR]; decide) (Nat.zero_le _) (Nat.zero_le _) hG rfl rfl ⟨rfl, by decide, by decide, by decide⟩ (fun _ => ⟨_, _, rfl, rfl⟩) wl_X5_33 wi_X5_openDays ws_X5_openDays wn_X5 wc_X5_openDays, fun _ h => absurd h List.not_mem_nil⟩⟩⟩⟩) R sok_no E
  show WP_ X G Q 0 0 ad SHS_ σ 0 [(29, 34), (20, a1), (25, 30), (0, a3), (0, a4), (0, a5), (0, a6), (0, a7), (9, 0)] []
  refine B rfl ?_
  have lp_3 : ∀ (nq_ : Nat) (v8 : Int) (τ3 : Me_t), (∀ k j : Int, ¬ (k = 34 ∨ k = 35) → τ3 k j = σ k j) → (0 ≤ v8) → (v8 ≤ 69) → (69 - v8 : Int).toNat < nq_ → WP_ X G Q 0 0 ad SHS_ τ3 3 [(29, 34), (20, a1), (25, 30), (0, a3), (0, a4), (0, a5), (0, a6), (0, a7), (0, v8)] [] := by
    intro nq_
    induction nq_ with
    | zero => intros; omega
    | succ nq_ ih_3 =>
      intro v8 τ3 hf3 hi3_0 hi3_1 hm3
      refine B rfl ?_
      refine And.intro (fun h1 => ?_) (fun h1 => ?_)
      · skip
        refine B rfl ?_
        have lp_31 : ∀ (nq_ : Nat) (v8 : Int) (τ31 : Me_t), (∀ k j : Int, ¬ (k = 34 ∨ k = 35) → τ31 k j = σ k j) → (a5 ≤ v8) → (v8 ≤ a5 + a6) → (a5 + a6 - v8 : Int).toNat < nq_ → WP_ X G Q 0 0 ad SHS_ τ31 31 [(29, 34), (20, a1), (25, 30), (0, a3), (0, a4), (0, a5), (0, a6), (0, a7), (0, v8)] [] := by
          intro nq_
          induction nq_ with
          | zero => intros; omega
          | succ nq_ ih_31 =>
            intro v8 τ31 hf31 hi31_0 hi31_1 hm31
            refine B rfl ?_
            refine And.intro (by omega) ?_
            refine And.intro (fun h2 => ?_) (fun h2 => ?_)
            · skip
              refine B rfl ?_
              refine And.intro (by omega) ?_
              intro z3 ez3 hz3
              have hz3 : (0 : Int) ≤ z3 ∧ z3 ≤ (60 : Int) := hz3
              try have t4 : τ31 (a1 + 1) a4 = σ (a1 + 1) a4 := (hf31 _ _ (by omega))
              refine And.intro (by omega) ?_
              refine Exists.intro (z3 - 1, a7) (And.intro rfl (And.intro (And.intro (by show -1 ≤ (z3 - 1); omega) (And.intro (by show (z3 - 1) ≤ 59; omega) (And.intro (by show 1 ≤ a7; omega) (by show a7 ≤ 9; omega)))) ?_))
              intro z5 σ7 h6
              have f8 : ∀ k j : Int, ¬ (k = 34) → σ7 k j = τ31 k j := h6
              refine Exists.intro 0 (And.intro rfl ?_)
              exact (fun k j hk => ((f8 _ _ (by omega)).trans (hf31 _ _ (by omega))))
            · skip
              show WP_ X G Q 0 0 ad SHS_ τ31 41 [(29, 34), (20, a1), (25, 30), (0, a3), (0, a4), (0, a5), (0, a6), (0, a7), (0, v8)] []
              refine B rfl ?_
              refine Exists.intro (a1, v8, a4, 0) (And.intro rfl (And.intro (And.intro (by show 0 ≤ v8; omega) (And.intro (by show v8 ≤ 2100; omega) (And.intro (by show 0 ≤ a4; omega) (And.intro (by show a4 ≤ 100; omega) (And.intro (by show 0 ≤ 0; omega) (by show 0 ≤ 100; omega)))))) ?_))
              rintro z9 m_ h10
              obtain rfl : τ31 = m_ := h10.2
              have h11 : 0 ≤ z9 ∧ z9 ≤ 2000000 := h10.1
              refine Exists.intro (a1, a4, v8) (And.intro rfl (And.intro (And.intro (by show 0 ≤ a4; omega) (And.intro (by show a4 ≤ 7; omega) (by show 0 ≤ v8; omega))) ?_))
              rintro z12 m_ h13
              obtain rfl : τ31 = m_ := h13.2
              have h14 : 0 ≤ z12 ∧ z12 ≤ 69 := h13.1
              have p15 : DT τ31 := DT_fr hp0 (fun k j hk => (hf31 _ _ (by omega)))
              refine Exists.intro (z9, z12, a3) (And.intro rfl (And.intro (And.intro p15 (And.intro (by show 0 ≤ z9; omega) (And.intro (by show z9 ≤ 2000000; omega) (And.intro (by show 0 ≤ z12; omega) (by show z12 ≤ 69; omega))))) ?_))
              intro z16 σ18 h17
              have f19 : ∀ k j : Int, ¬ (k = 35) → σ18 k j = τ31 k j := h17
              refine And.intro (by omega) ?_
              exact ih_31 (v8 + 1) σ18 (fun k j hk => ((f19 _ _ (by omega)).trans (hf31 _ _ (by omega)))) (by show a5 ≤ (v8 + 1); omega) (by show (v8 + 1) ≤ a5 + a6; omega) (by omega)
        exact lp_31 ((a5 + a6 - a5 : Int).toNat + 1) a5 τ3 (fun k j hk => (hf3 _ _ (by omega))) (by show a5 ≤ a5; omega) (by show a5 ≤ a5 + a6; omega) (by omega)
      · skip
        show WP_ X G Q 0 0 ad SHS_ τ3 13 [(29, 34), (20, a1), (25, 30), (0, a3), (0, a4), (0, a5), (0, a6), (0, a7), (0, v8)] []
        refine B rfl ?_
        refine And.intro (by omega) ?_
        refine And.intro (by show (0 : Int) ≤ _ ∧ _ ≤ (1 : Int); omega) ?_
        intro σ20 e21
        refine And.intro (by omega) ?_
        exact ih_3 (v8 + 1) σ20 (fun k j hk => ((ups_r e21 (by omega)).trans (hf3 _ _ (by omega)))) (by show 0 ≤ (v8 + 1); omega) (by show (v8 + 1) ≤ 69; omega) (by omega)
  exact lp_3 ((69 - 0 : Int).toNat + 1) 0 σ (fun k j hk => rfl) (by show 0 ≤ 0; omega) (by show 0 ≤ 69; omega) (by omega)
def as_G_X6_isTold : Int × Int → List Sv_t := fun a => [(34, 39), (40, a.1), (0, a.2)]
def pre_G_X6_isTold : Int × Int → Me_t → Prop := fun a σ => (0 ≤ a.2) ∧ (a.2 ≤ 3)
def post_G_X6_isTold : Int × Int → Me_t → Int → Me_t → Prop := fun a σ z σ' => (z = 0 ∨ TD σ a.1) ∧ (σ = σ')
set_option maxHeartbeats 1500000 in
set_option maxRecDepth 100000 in
theorem ct_G_X6_isTold (l : Launch) : CT_ l yX6_isTold cX6_isTold 8 (some .boolean) 0 0 as_G_X6_isTold (rmI_) pre_G_X6_isTold post_G_X6_isTold := by
  refine ct_of (by decide) (fun _ => Nat.le_of_ble_eq_true rfl) ?_
  intro X G Q ad σ a hl hR E hG R hM hv hp
  obtain ⟨a1, a2⟩ := a
  have k_a1 : isRow_ a1 := tvRow_ (hv (40, a1) (List.mem_of_getElem? (i := 1) rfl))
  have r_a1 : 78 ≤ a1 ∧ a1 ≤ 84 := by unfold isRow_ at k_a1; omega
  have r_a2 : -2147483648 ≤ a2 ∧ a2 ≤ 2147483647 := hv (0, a2) (List.mem_of_getElem? (i := 2) rfl)
  have hp0 : 0 ≤ a2 := hp.1
  have hp1 : a2 ≤ 3 := hp.2
  have B := @bk_ X G Q 0 0 ad SHS_ RX6 cX6_isTold 8 (some .boolean) flX6 plX6 knX6 [] _ _ none kX6_isTold [9, 13, 23, 48, 56, 63, 72] flX6_ok plX6_ok knX6_ok eX6_isTold oX6_isTold
    (fun _ h => absurd h List.not_mem_nil) R sok_no E
  show WP_ X G Q 0 0 ad SHS_ σ 0 [(34, 39), (40, a1), (0, a2), (9, 0), (9, 0), (9, 0), (9, 0), (9, 0)] []
  refine B rfl ?_
  intro z1 ez1 hz1
  have hz1 : (0 : Int) ≤ z1 ∧ z1 ≤ (60 : Int) := hz1
  have q2 : Int.tmod z1 3 = z1 % 3 := Int.tmod_eq_emod_of_nonneg (by omega)
  refine And.intro (by omega) ?_
  refine And.intro (fun h3 => ?_) (fun h3 => ?_)
  · skip
    refine B rfl ?_
    show WP_ X G Q 0 0 ad SHS_ σ 13 [(34, 39), (40, a1), (0, a2), (0, 0), (9, 0), (9, 0), (9, 0), (9, 0)] []
    refine wdrop_ (L' := [(9, 0), (40, a1), (0, a2), (0, 0), (9, 0), (9, 0), (9, 0), (9, 0)]) ⟨Or.inl rfl, ⟨Or.inr rfl, ⟨Or.inr rfl, ⟨Or.inr rfl, ⟨Or.inl rfl, ⟨Or.inl rfl, ⟨Or.inl rfl, ⟨Or.inl rfl, trivial⟩⟩⟩⟩⟩⟩⟩⟩ ?_
    have lp_13 : ∀ (nq_ : Nat) (v3 : Int), (0 ≤ v3) → (v3 ≤ 60) → (v3 % 3 = 0) → (∀ j : Int, 0 ≤ j → j < v3 → j % 3 = 0 → (0 ≤ σ (a1 + 1) j ∧ σ (a1 + 1) j ≤ 2) ∧ 0 ≤ σ (a1 + 1) (j + 1) ∧ σ (a1 + 1) (j + 1) ≤ 4) → (60 - v3 : Int).toNat < nq_ → WP_ X G Q 0 0 ad SHS_ σ 13 [(9, 0), (40, a1), (0, a2), (0, v3), (9, 0), (9, 0), (9, 0), (9, 0)] [] := by
      intro nq_
      induction nq_ with
      | zero => intros; omega
      | succ nq_ ih_13 =>
        intro v3 hi13_0 hi13_1 hi13_2 hi13_3 hm13
        refine B rfl ?_
        refine And.intro (by omega) ?_
        intro z4 ez4 hz4
        have q5 : z1 = z4 := ez1.trans ez4.symm
        subst q5
        refine And.intro (fun h6 => ?_) (fun h6 => ?_)
        · skip
          refine B rfl ?_
          refine And.intro (by omega) ?_
          refine Exists.intro _ (And.intro rfl ?_)
          exact (And.intro (by show 1 = 0 ∨ TD σ a1; exact Or.inr (fun j h1 h2 h3 => hi13_3 j h1 (by omega) h3)) rfl)
        · skip
          show WP_ X G Q 0 0 ad SHS_ σ 23 [(9, 0), (40, a1), (0, a2), (0, v3), (9, 0), (9, 0), (9, 0), (9, 0)] []
          refine B rfl ?_
          refine And.intro (by omega) ?_
          refine And.intro (by omega) ?_
          refine And.intro (by omega) ?_
          refine And.intro (fun h7 => ?_) (fun h7 => ?_)
          · simp only [lcmp_lt0, lcmp_ge0, lcmp_gt0, lcmp_le0, lcmp_eq0] at h7
            refine B rfl ?_
            refine And.intro (by omega) ?_
            refine Exists.intro _ (And.intro rfl ?_)
            exact (And.intro (by show 0 = 0 ∨ TD σ a1; exact Or.inl rfl) rfl)
          · simp only [lcmp_lt0, lcmp_ge0, lcmp_gt0, lcmp_le0, lcmp_eq0] at h7
            show WP_ X G Q 0 0 ad SHS_ σ 48 [(9, 0), (40, a1), (0, a2), (0, v3), (1, σ (a1 + 1) v3), (9, 0), (1, σ (a1 + 1) (v3 + 1)), (9, 0)] []
            refine B rfl ?_
            refine And.intro (fun h8 => ?_) (fun h8 => ?_)
            · simp only [lcmp_lt0, lcmp_ge0, lcmp_gt0, lcmp_le0, lcmp_eq0] at h8
              refine B rfl ?_
              refine And.intro (by omega) ?_
              refine Exists.intro _ (And.intro rfl ?_)
              exact (And.intro (by show 0 = 0 ∨ TD σ a1; exact Or.inl rfl) rfl)
            · simp only [lcmp_lt0, lcmp_ge0, lcmp_gt0, lcmp_le0, lcmp_eq0] at h8
              show WP_ X G Q 0 0 ad SHS_ σ 56 [(9, 0), (40, a1), (0, a2), (0, v3), (1, σ (a1 + 1) v3), (9, 0), (1, σ (a1 + 1) (v3 + 1)), (9, 0)] []
              refine B rfl ?_
              refine And.intro (fun h9 => ?_) (fun h9 => ?_)
              · simp only [lcmp_lt0, lcmp_ge0, lcmp_gt0, lcmp_le0, lcmp_eq0] at h9
                refine B rfl ?_
                refine And.intro (by omega) ?_
                refine Exists.intro _ (And.intro rfl ?_)
                exact (And.intro (by show 0 = 0 ∨ TD σ a1; exact Or.inl rfl) rfl)
              · simp only [lcmp_lt0, lcmp_ge0, lcmp_gt0, lcmp_le0, lcmp_eq0] at h9
                show WP_ X G Q 0 0 ad SHS_ σ 63 [(9, 0), (40, a1), (0, a2), (0, v3), (1, σ (a1 + 1) v3), (9, 0), (1, σ (a1 + 1) (v3 + 1)), (9, 0)] []
                refine B rfl ?_
                refine And.intro (fun h10 => ?_) (fun h10 => ?_)
                · simp only [lcmp_lt0, lcmp_ge0, lcmp_gt0, lcmp_le0, lcmp_eq0] at h10
                  refine B rfl ?_
                  refine And.intro (by omega) ?_
                  show WP_ X G Q 0 0 ad SHS_ σ 13 [(9, 0), (40, a1), (0, a2), (0, v3 + 3), (1, σ (a1 + 1) v3), (9, 0), (1, σ (a1 + 1) (v3 + 1)), (9, 0)] []
                  refine wdrop_ (L' := [(9, 0), (40, a1), (0, a2), (0, v3 + 3), (9, 0), (9, 0), (9, 0), (9, 0)]) ⟨Or.inl rfl, ⟨Or.inr rfl, ⟨Or.inr rfl, ⟨Or.inr rfl, ⟨Or.inl rfl, ⟨Or.inl rfl, ⟨Or.inl rfl, ⟨Or.inl rfl, trivial⟩⟩⟩⟩⟩⟩⟩⟩ ?_
                  exact ih_13 (v3 + 3) (by show 0 ≤ (v3 + 3); omega) (by show (v3 + 3) ≤ 60; omega) (by show (v3 + 3) % 3 = 0; omega) (by show ∀ j : Int, 0 ≤ j → j < (v3 + 3) → j % 3 = 0 → (0 ≤ σ (a1 + 1) j ∧ σ (a1 + 1) j ≤ 2) ∧ 0 ≤ σ (a1 + 1) (j + 1) ∧ σ (a1 + 1) (j + 1) ≤ 4; intro j h1 h2 h3; by_cases hj : j = v3; subst hj; omega; exact hi13_3 j h1 (by omega) h3) (by omega)
                · simp only [lcmp_lt0, lcmp_ge0, lcmp_gt0, lcmp_le0, lcmp_eq0] at h10
                  show WP_ X G Q 0 0 ad SHS_ σ 72 [(9, 0), (40, a1), (0, a2), (0, v3), (1, σ (a1 + 1) v3), (9, 0), (1, σ (a1 + 1) (v3 + 1)), (9, 0)] []
                  refine B rfl ?_
                  refine And.intro (by omega) ?_
                  refine Exists.intro _ (And.intro rfl ?_)
                  exact (And.intro (by show 0 = 0 ∨ TD σ a1; exact Or.inl rfl) rfl)
    exact lp_13 ((60 - 0 : Int).toNat + 1) 0 (by show 0 ≤ 0; omega) (by show 0 ≤ 60; omega) (by show 0 % 3 = 0; omega) (by show ∀ j : Int, 0 ≤ j → j < 0 → j % 3 = 0 → (0 ≤ σ (a1 + 1) j ∧ σ (a1 + 1) j ≤ 2) ∧ 0 ≤ σ (a1 + 1) (j + 1) ∧ σ (a1 + 1) (j + 1) ≤ 4; intro j h1 h2; omega) (by omega)
  · skip
    show WP_ X G Q 0 0 ad SHS_ σ 9 [(34, 39), (40, a1), (0, a2), (9, 0), (9, 0), (9, 0), (9, 0), (9, 0)] []
    refine B rfl ?_
    refine And.intro (by omega) ?_
    refine Exists.intro _ (And.intro rfl ?_)
    exact (And.intro (by show 0 = 0 ∨ TD σ a1; exact Or.inl rfl) rfl)
def as_G_X6_fitsAll : Int × Int → List Sv_t := fun a => [(34, 39), (40, a.1), (25, 30), (0, a.2)]
def pre_G_X6_fitsAll : Int × Int → Me_t → Prop := fun a σ => (DT σ) ∧ (TD σ a.1) ∧ (0 ≤ a.2) ∧ (a.2 ≤ 1999)
def post_G_X6_fitsAll : Int × Int → Me_t → Int → Me_t → Prop := fun a σ z σ' => (0 ≤ z ∧ z ≤ 1) ∧ (σ = σ')
set_option maxHeartbeats 1500000 in
set_option maxRecDepth 100000 in
theorem ct_G_X6_fitsAll (l : Launch) : CT_ l yX6_fitsAll cX6_fitsAll 6 (some .boolean) 1 24 as_G_X6_fitsAll (rmI_) pre_G_X6_fitsAll post_G_X6_fitsAll := by
  refine ct_of (by decide) (fun _ => Nat.le_of_ble_eq_true rfl) ?_
  intro X G Q ad σ a hl hR E hG R hM hv hp
  obtain ⟨a1, a3⟩ := a
  have k_a1 : isRow_ a1 := tvRow_ (hv (40, a1) (List.mem_of_getElem? (i := 1) rfl))
  have r_a1 : 78 ≤ a1 ∧ a1 ≤ 84 := by unfold isRow_ at k_a1; omega
  have r_a3 : -2147483648 ≤ a3 ∧ a3 ≤ 2147483647 := hv (0, a3) (List.mem_of_getElem? (i := 3) rfl)
  have hp0 : DT σ := hp.1
  have hp1 : TD σ a1 := hp.2.1
  have hp2 : 0 ≤ a3 := hp.2.2.1
  have hp3 : a3 ≤ 1999 := hp.2.2.2
  have B := @bk_ X G Q 0 0 ad SHS_ RX6 cX6_fitsAll 6 (some .boolean) flX6 plX6 knX6 [(82, 4, TR_ as_G_X0_part (rmI_) pre_G_X0_part post_G_X0_part)] _ _ none kX6_fitsAll [3] flX6_ok plX6_ok knX6_ok eX6_fitsAll oX6_fitsAll
    (List.forall_mem_cons.mpr ⟨cok_v (t := 15) (c := 0) (N := 9) (n := 3) (idx := 41) E (ct_G_X0_part X.2.1) (by rw [hR]; decide) (Nat.zero_le _) (Nat.zero_le _) hG rfl rfl ⟨rfl, by decide, by decide, by decide⟩ (fun _ => ⟨_, _, rfl, rfl⟩) wl_X6_41 wi_X0_part ws_X0_part wn_X0 wc_X0_part, fun _ h => absurd h List.not_mem_nil⟩) R sok_no E
  show WP_ X G Q 0 0 ad SHS_ σ 0 [(34, 39), (40, a1), (25, 30), (0, a3), (9, 0), (9, 0)] []
  refine B rfl ?_
  show WP_ X G Q 0 0 ad SHS_ σ 3 [(34, 39), (40, a1), (25, 30), (0, a3), (0, 0), (9, 0)] []
  refine wdrop_ (L' := [(9, 0), (40, a1), (25, 30), (0, a3), (0, 0), (9, 0)]) ⟨Or.inl rfl, ⟨Or.inr rfl, ⟨Or.inr rfl, ⟨Or.inr rfl, ⟨Or.inr rfl, ⟨Or.inl rfl, trivial⟩⟩⟩⟩⟩⟩ ?_
  have lp_3 : ∀ (nq_ : Nat) (v4 : Int), (0 ≤ v4) → (v4 ≤ 60) → (v4 % 3 = 0) → (60 - v4 : Int).toNat < nq_ → WP_ X G Q 0 0 ad SHS_ σ 3 [(9, 0), (40, a1), (25, 30), (0, a3), (0, v4), (9, 0)] [] := by
    intro nq_
    induction nq_ with
    | zero => intros; omega
    | succ nq_ ih_3 =>
      intro v4 hi3_0 hi3_1 hi3_2 hm3
      refine B rfl ?_
      refine And.intro (by omega) ?_
      intro z1 ez1 hz1
      have hz1 : (0 : Int) ≤ z1 ∧ z1 ≤ (60 : Int) := hz1
      refine And.intro (fun h2 => ?_) (fun h2 => ?_)
      · skip
        refine B rfl ?_
        refine And.intro (by omega) ?_
        refine Exists.intro _ (And.intro rfl ?_)
        exact (And.intro (by show 0 ≤ 1 ∧ 1 ≤ 1; omega) rfl)
      · skip
        refine And.intro (by omega) ?_
        have q3 := l2i_t (x := σ (a1 + 1) v4)
        refine And.intro (by omega) ?_
        refine And.intro (by omega) ?_
        have q4 := l2i_t (x := σ (a1 + 1) (v4 + 1))
        have htd := hp1 v4 (by omega) (by omega) (by omega)
        refine Exists.intro (l2i_ (σ (a1 + 1) v4), a3, l2i_ (σ (a1 + 1) (v4 + 1))) (And.intro rfl (And.intro (And.intro hp0 (And.intro (by show 0 ≤ a3; omega) (And.intro (by show a3 ≤ 1999; omega) (by show (l2i_ (σ (a1 + 1) (v4 + 1))) = 4 ∨ (0 ≤ (l2i_ (σ (a1 + 1) v4)) ∧ (l2i_ (σ (a1 + 1) v4)) ≤ 2); omega)))) ?_))
        rintro z5 m_ h6
        obtain rfl : σ = m_ := h6.2.2.2.2
        have h7 : -1 ≤ z5 ∧ z5 ≤ 200000 := h6.1
        have h8 : (l2i_ (σ (a1 + 1) (v4 + 1))) = 4 → 0 ≤ z5 ∧ z5 ≤ 1 := h6.2.1
        have h9 : (l2i_ (σ (a1 + 1) (v4 + 1))) = 1 → z5 ≤ 7 := h6.2.2.1
        have h10 : (l2i_ (σ (a1 + 1) (v4 + 1))) = 3 → z5 ≤ 10 := h6.2.2.2.1
        refine And.intro (fun h11 => ?_) (fun h11 => ?_)
        · skip
          refine B rfl ?_
          refine And.intro (by omega) ?_
          refine Exists.intro _ (And.intro rfl ?_)
          exact (And.intro (by show 0 ≤ 0 ∧ 0 ≤ 1; omega) rfl)
        · skip
          refine And.intro (by omega) ?_
          refine And.intro (by omega) ?_
          refine And.intro (fun h12 => ?_) (fun h12 => ?_)
          · simp only [lcmp_lt0, lcmp_ge0, lcmp_gt0, lcmp_le0, lcmp_eq0] at h12
            refine B rfl ?_
            refine And.intro (by omega) ?_
            show WP_ X G Q 0 0 ad SHS_ σ 3 [(9, 0), (40, a1), (25, 30), (0, a3), (0, v4 + 3), (0, z5)] []
            refine wdrop_ (L' := [(9, 0), (40, a1), (25, 30), (0, a3), (0, v4 + 3), (9, 0)]) ⟨Or.inl rfl, ⟨Or.inr rfl, ⟨Or.inr rfl, ⟨Or.inr rfl, ⟨Or.inr rfl, ⟨Or.inl rfl, trivial⟩⟩⟩⟩⟩⟩ ?_
            exact ih_3 (v4 + 3) (by show 0 ≤ (v4 + 3); omega) (by show (v4 + 3) ≤ 60; omega) (by show (v4 + 3) % 3 = 0; omega) (by omega)
          · simp only [lcmp_lt0, lcmp_ge0, lcmp_gt0, lcmp_le0, lcmp_eq0] at h12
            refine And.intro (by omega) ?_
            refine Exists.intro _ (And.intro rfl ?_)
            exact (And.intro (by show 0 ≤ 0 ∧ 0 ≤ 1; omega) rfl)
  exact lp_3 ((60 - 0 : Int).toNat + 1) 0 (by show 0 ≤ 0; omega) (by show 0 ≤ 60; omega) (by show 0 % 3 = 0; omega) (by omega)
def as_G_X6_gather : Int × Int × Int → List Sv_t := fun a => [(34, 39), (40, a.1), (25, 30), (0, a.2.1), (0, a.2.2)]
def pre_G_X6_gather : Int × Int × Int → Me_t → Prop := fun a σ => (DT σ) ∧ (TD σ a.1) ∧ (0 ≤ a.2.1) ∧ (a.2.1 ≤ a.2.2 + 1) ∧ (a.2.2 ≤ 1999)
def post_G_X6_gather : Int × Int × Int → Me_t → Int → Me_t → Prop := fun a σ z σ' => (∀ k j : Int, ¬ (k = 39 ∨ k = 40) → σ' k j = σ k j)
set_option maxHeartbeats 1500000 in
set_option maxRecDepth 100000 in
theorem ct_G_X6_gather (l : Launch) : CT_ l yX6_gather cX6_gather 6 none 2 49 as_G_X6_gather (rmV_) pre_G_X6_gather post_G_X6_gather := by
  refine ct_of (by decide) (fun _ => Nat.le_of_ble_eq_true rfl) ?_
  intro X G Q ad σ a hl hR E hG R hM hv hp
  obtain ⟨a1, a3, a4⟩ := a
  have k_a1 : isRow_ a1 := tvRow_ (hv (40, a1) (List.mem_of_getElem? (i := 1) rfl))
  have r_a1 : 78 ≤ a1 ∧ a1 ≤ 84 := by unfold isRow_ at k_a1; omega
  have r_a3 : -2147483648 ≤ a3 ∧ a3 ≤ 2147483647 := hv (0, a3) (List.mem_of_getElem? (i := 3) rfl)
  have r_a4 : -2147483648 ≤ a4 ∧ a4 ≤ 2147483647 := hv (0, a4) (List.mem_of_getElem? (i := 4) rfl)
  have hp0 : DT σ := hp.1
  have hp1 : TD σ a1 := hp.2.1
  have hp2 : 0 ≤ a3 := hp.2.2.1
  have hp3 : a3 ≤ a4 + 1 := hp.2.2.2.1
  have hp4 : a4 ≤ 1999 := hp.2.2.2.2
  have B := @bk_ X G Q 0 0 ad SHS_ RX6 cX6_gather 6 none flX6 plX6 knX6 [(74, 4, TR_ as_G_X6_fitsAll (rmI_) pre_G_X6_fitsAll post_G_X6_fitsAll)] _ _ none kX6_gather [8] flX6_ok plX6_ok knX6_ok eX6_gather oX6_gather
    (List.forall_mem_cons.mpr ⟨cok_v (t := 24) (c := 6) (N := 5) (n := 3) (idx := 37) E (ct_G_X6_fitsAll X.2.1) (by rw [hR]; decide) (Nat.zero_le _) (Nat.zero_le _) hG rfl rfl ⟨rfl, by decide, by decide, by decide⟩ (fun _ => ⟨_, _, rfl, rfl⟩) wl_X6_37 wi_X6_fitsAll ws_X6_fitsAll wn_X6 wc_X6_fitsAll, fun _ h => absurd h List.not_mem_nil⟩) R sok_no E
  show WP_ X G Q 0 0 ad SHS_ σ 0 [(34, 39), (40, a1), (25, 30), (0, a3), (0, a4), (9, 0)] []
  refine B rfl ?_
  refine And.intro (by omega) ?_
  intro σ1 e2
  show WP_ X G Q 0 0 ad SHS_ σ1 8 [(34, 39), (40, a1), (25, 30), (0, a3), (0, a4), (0, a3)] []
  refine wdrop_ (L' := [(34, 39), (40, a1), (25, 30), (9, 0), (0, a4), (0, a3)]) ⟨Or.inr rfl, ⟨Or.inr rfl, ⟨Or.inr rfl, ⟨Or.inl rfl, ⟨Or.inr rfl, ⟨Or.inr rfl, trivial⟩⟩⟩⟩⟩⟩ ?_
  have lp_8 : ∀ (nq_ : Nat) (v5 : Int) (τ8 : Me_t), (∀ k j : Int, ¬ (k = 39 ∨ k = 40) → τ8 k j = σ k j) → (a3 ≤ v5) → (v5 ≤ a4 + 1) → (0 ≤ τ8 39 1) → (τ8 39 1 ≤ v5 - a3) → (a4 + 1 - v5 : Int).toNat < nq_ → WP_ X G Q 0 0 ad SHS_ τ8 8 [(34, 39), (40, a1), (25, 30), (9, 0), (0, a4), (0, v5)] [] := by
    intro nq_
    induction nq_ with
    | zero => intros; omega
    | succ nq_ ih_8 =>
      intro v5 τ8 hf8 hi8_0 hi8_1 hi8_2 hi8_3 hm8
      refine B rfl ?_
      refine And.intro (fun h3 => ?_) (fun h3 => ?_)
      · skip
        refine B rfl ?_
        refine Exists.intro 0 (And.intro rfl ?_)
        exact (fun k j hk => (hf8 _ _ (by omega)))
      · skip
        have p4 : DT τ8 := DT_fr hp0 (fun k j hk => (hf8 _ _ (by omega)))
        have p5 : TD τ8 a1 := TD_fr hp1 (fun k j hk => (hf8 _ _ (by omega)))
        refine Exists.intro (a1, v5) (And.intro rfl (And.intro (And.intro p4 (And.intro p5 (And.intro (by show 0 ≤ v5; omega) (by show v5 ≤ 1999; omega)))) ?_))
        rintro z6 m_ h7
        obtain rfl : τ8 = m_ := h7.2
        have h8 : 0 ≤ z6 ∧ z6 ≤ 1 := h7.1
        refine And.intro (fun h9 => ?_) (fun h9 => ?_)
        · skip
          refine B rfl ?_
          refine And.intro (by omega) ?_
          exact ih_8 (v5 + 1) τ8 (fun k j hk => (hf8 _ _ (by omega))) (by show a3 ≤ (v5 + 1); omega) (by show (v5 + 1) ≤ a4 + 1; omega) (by show 0 ≤ τ8 39 1; omega) (by show τ8 39 1 ≤ (v5 + 1) - a3; omega) (by omega)
        · skip
          intro z10 ez10 hz10
          have hz10 : (0 : Int) ≤ z10 ∧ z10 ≤ (2000 : Int) := hz10
          refine And.intro (by omega) ?_
          refine And.intro (by show (0 : Int) ≤ _ ∧ _ ≤ (1999 : Int); omega) ?_
          intro σ11 e12
          intro z13 ez13 hz13
          have hz13 : (0 : Int) ≤ z13 ∧ z13 ≤ (2000 : Int) := hz13
          try have t14 : σ11 39 1 = τ8 39 1 := (ups_r e12 (by omega))
          refine And.intro (by omega) ?_
          refine And.intro (by omega) ?_
          intro σ15 e16
          refine And.intro (by omega) ?_
          have t17 : σ15 39 1 = z13 + 1 := ups_v e16
          exact ih_8 (v5 + 1) σ15 (fun k j hk => ((ups_r e16 (by omega)).trans ((ups_r e12 (by omega)).trans (hf8 _ _ (by omega))))) (by show a3 ≤ (v5 + 1); omega) (by show (v5 + 1) ≤ a4 + 1; omega) (by show 0 ≤ σ15 39 1; omega) (by show σ15 39 1 ≤ (v5 + 1) - a3; omega) (by omega)
  have t18 : σ1 39 1 = 0 := ups_v e2
  exact lp_8 ((a4 + 1 - a3 : Int).toNat + 1) a3 σ1 (fun k j hk => (ups_r e2 (by omega))) (by show a3 ≤ a3; omega) (by show a3 ≤ a4 + 1; omega) (by show 0 ≤ σ1 39 1; omega) (by show σ1 39 1 ≤ a3 - a3; omega) (by omega)
def as_G_X6_fightersOnAll : Unit → List Sv_t := fun a => [(34, 39), (25, 30)]
def pre_G_X6_fightersOnAll : Unit → Me_t → Prop := fun a σ => True
def post_G_X6_fightersOnAll : Unit → Me_t → Int → Me_t → Prop := fun a σ z σ' => (σ = σ')
set_option maxHeartbeats 1500000 in
set_option maxRecDepth 100000 in
theorem ct_G_X6_fightersOnAll (l : Launch) : CT_ l yX6_fightersOnAll cX6_fightersOnAll 4 (some .int) 0 0 as_G_X6_fightersOnAll (rmI_) pre_G_X6_fightersOnAll post_G_X6_fightersOnAll := by
  refine ct_of (by decide) (fun _ => Nat.le_of_ble_eq_true rfl) ?_
  intro X G Q ad σ a hl hR E hG R hM hv hp
  have B := @bk_ X G Q 0 0 ad SHS_ RX6 cX6_fightersOnAll 4 (some .int) flX6 plX6 knX6 [] _ _ none kX6_fightersOnAll [25] flX6_ok plX6_ok knX6_ok eX6_fightersOnAll oX6_fightersOnAll
    (fun _ h => absurd h List.not_mem_nil) R sok_no E
  show WP_ X G Q 0 0 ad SHS_ σ 0 [(34, 39), (25, 30), (9, 0), (9, 0)] []
  refine B rfl ?_
  intro z1 ez1 hz1
  have hz1 : (0 : Int) ≤ z1 ∧ z1 ≤ (2000 : Int) := hz1
  refine And.intro (fun h2 => ?_) (fun h2 => ?_)
  · skip
    refine B rfl ?_
    refine And.intro (by omega) ?_
    intro z3 ez3 hz3
    have hz3 : (0 : Int) ≤ z3 ∧ z3 ≤ (1999 : Int) := hz3
    refine And.intro (by omega) ?_
    intro z4 ez4 hz4
    have hz4 : ((-128) : Int) ≤ z4 ∧ z4 ≤ (127 : Int) := hz4
    have lp_25 : ∀ (nq_ : Nat) (v2 : Int) (v3 : Int), (1 ≤ v3) → (v3 ≤ 2000) → (2000 - v3 : Int).toNat < nq_ → WP_ X G Q 0 0 ad SHS_ σ 25 [(34, 39), (25, 30), (0, v2), (0, v3)] [] := by
      intro nq_
      induction nq_ with
      | zero => intros; omega
      | succ nq_ ih_25 =>
        intro v2 v3 hi25_0 hi25_1 hm25
        refine B rfl ?_
        intro z5 ez5 hz5
        have q6 : z1 = z5 := ez1.trans ez5.symm
        subst q6
        refine And.intro (fun h7 => ?_) (fun h7 => ?_)
        · skip
          refine B rfl ?_
          refine Exists.intro _ (And.intro rfl ?_)
          exact rfl
        · skip
          refine And.intro (by omega) ?_
          intro z8 ez8 hz8
          have hz8 : (0 : Int) ≤ z8 ∧ z8 ≤ (1999 : Int) := hz8
          refine And.intro (by omega) ?_
          intro z9 ez9 hz9
          have hz9 : ((-128) : Int) ≤ z9 ∧ z9 ≤ (127 : Int) := hz9
          refine And.intro (by omega) ?_
          exact ih_25 (and3_ v2 z9) (v3 + 1) (by show 1 ≤ (v3 + 1); omega) (by show (v3 + 1) ≤ 2000; omega) (by omega)
    exact lp_25 ((2000 - 1 : Int).toNat + 1) z4 1 (by show 1 ≤ 1; omega) (by show 1 ≤ 2000; omega) (by omega)
  · skip
    refine B rfl ?_
    have lp_25 : ∀ (nq_ : Nat) (v2_1 : Int) (v3_1 : Int), (1 ≤ v3_1) → (v3_1 ≤ 2000) → (2000 - v3_1 : Int).toNat < nq_ → WP_ X G Q 0 0 ad SHS_ σ 25 [(34, 39), (25, 30), (0, v2_1), (0, v3_1)] [] := by
      intro nq_
      induction nq_ with
      | zero => intros; omega
      | succ nq_ ih_25 =>
        intro v2_1 v3_1 hi25_0 hi25_1 hm25
        refine B rfl ?_
        intro z10 ez10 hz10
        have q11 : z1 = z10 := ez1.trans ez10.symm
        subst q11
        refine And.intro (fun h12 => ?_) (fun h12 => ?_)
        · skip
          refine B rfl ?_
          refine Exists.intro _ (And.intro rfl ?_)
          exact rfl
        · skip
          refine And.intro (by omega) ?_
          intro z13 ez13 hz13
          have hz13 : (0 : Int) ≤ z13 ∧ z13 ≤ (1999 : Int) := hz13
          refine And.intro (by omega) ?_
          intro z14 ez14 hz14
          have hz14 : ((-128) : Int) ≤ z14 ∧ z14 ≤ (127 : Int) := hz14
          refine And.intro (by omega) ?_
          exact ih_25 (and3_ v2_1 z14) (v3_1 + 1) (by show 1 ≤ (v3_1 + 1); omega) (by show (v3_1 + 1) ≤ 2000; omega) (by omega)
    exact lp_25 ((2000 - 1 : Int).toNat + 1) 0 1 (by show 1 ≤ 1; omega) (by show 1 ≤ 2000; omega) (by omega)
def as_G_X6_fightersOnSome : Unit → List Sv_t := fun a => [(34, 39), (25, 30)]
def pre_G_X6_fightersOnSome : Unit → Me_t → Prop := fun a σ => True
def post_G_X6_fightersOnSome : Unit → Me_t → Int → Me_t → Prop := fun a σ z σ' => (σ = σ')
set_option maxHeartbeats 1500000 in
set_option maxRecDepth 100000 in
theorem ct_G_X6_fightersOnSome (l : Launch) : CT_ l yX6_fightersOnSome cX6_fightersOnSome 4 (some .int) 0 0 as_G_X6_fightersOnSome (rmI_) pre_G_X6_fightersOnSome post_G_X6_fightersOnSome := by
  refine ct_of (by decide) (fun _ => Nat.le_of_ble_eq_true rfl) ?_
  intro X G Q ad σ a hl hR E hG R hM hv hp
  have B := @bk_ X G Q 0 0 ad SHS_ RX6 cX6_fightersOnSome 4 (some .int) flX6 plX6 knX6 [] _ _ none kX6_fightersOnSome [4] flX6_ok plX6_ok knX6_ok eX6_fightersOnSome oX6_fightersOnSome
    (fun _ h => absurd h List.not_mem_nil) R sok_no E
  show WP_ X G Q 0 0 ad SHS_ σ 0 [(34, 39), (25, 30), (9, 0), (9, 0)] []
  refine B rfl ?_
  have lp_4 : ∀ (nq_ : Nat) (v2 : Int) (v3 : Int), (0 ≤ v3) → (v3 ≤ 2000) → (2000 - v3 : Int).toNat < nq_ → WP_ X G Q 0 0 ad SHS_ σ 4 [(34, 39), (25, 30), (0, v2), (0, v3)] [] := by
    intro nq_
    induction nq_ with
    | zero => intros; omega
    | succ nq_ ih_4 =>
      intro v2 v3 hi4_0 hi4_1 hm4
      refine B rfl ?_
      intro z1 ez1 hz1
      have hz1 : (0 : Int) ≤ z1 ∧ z1 ≤ (2000 : Int) := hz1
      refine And.intro (fun h2 => ?_) (fun h2 => ?_)
      · skip
        refine B rfl ?_
        refine Exists.intro _ (And.intro rfl ?_)
        exact rfl
      · skip
        refine And.intro (by omega) ?_
        intro z3 ez3 hz3
        have hz3 : (0 : Int) ≤ z3 ∧ z3 ≤ (1999 : Int) := hz3
        refine And.intro (by omega) ?_
        intro z4 ez4 hz4
        have hz4 : ((-128) : Int) ≤ z4 ∧ z4 ≤ (127 : Int) := hz4
        refine And.intro (by omega) ?_
        exact ih_4 (or3_ v2 z4) (v3 + 1) (by show 0 ≤ (v3 + 1); omega) (by show (v3 + 1) ≤ 2000; omega) (by omega)
  exact lp_4 ((2000 - 0 : Int).toNat + 1) 0 0 (by show 0 ≤ 0; omega) (by show 0 ≤ 2000; omega) (by omega)
def as_G_X6_tryQuestion : Int × Int → List Sv_t := fun a => [(34, 39), (25, 30), (0, a.1), (0, a.2)]
def pre_G_X6_tryQuestion : Int × Int → Me_t → Prop := fun a σ => (DT σ) ∧ (0 ≤ a.1) ∧ (a.1 ≤ 2) ∧ (a.2 = 1 ∨ a.2 = 3 ∨ a.2 = 4)
def post_G_X6_tryQuestion : Int × Int → Me_t → Int → Me_t → Prop := fun a σ z σ' => (∀ k j : Int, ¬ (k = 39 ∨ k = 41) → σ' k j = σ k j)
set_option maxHeartbeats 1500000 in
set_option maxRecDepth 100000 in
theorem ct_G_X6_tryQuestion (l : Launch) : CT_ l yX6_tryQuestion cX6_tryQuestion 7 none 1 24 as_G_X6_tryQuestion (rmV_) pre_G_X6_tryQuestion post_G_X6_tryQuestion := by
  refine ct_of (by decide) (fun _ => Nat.le_of_ble_eq_true rfl) ?_
  intro X G Q ad σ a hl hR E hG R hM hv hp
  obtain ⟨a2, a3⟩ := a
  have r_a2 : -2147483648 ≤ a2 ∧ a2 ≤ 2147483647 := hv (0, a2) (List.mem_of_getElem? (i := 2) rfl)
  have r_a3 : -2147483648 ≤ a3 ∧ a3 ≤ 2147483647 := hv (0, a3) (List.mem_of_getElem? (i := 3) rfl)
  have hp0 : DT σ := hp.1
  have hp1 : 0 ≤ a2 := hp.2.1
  have hp2 : a2 ≤ 2 := hp.2.2.1
  have hp3 : a3 = 1 ∨ a3 = 3 ∨ a3 = 4 := hp.2.2.2
  have B := @bk_ X G Q 0 0 ad SHS_ RX6 cX6_tryQuestion 7 none flX6 plX6 knX6 [(111, 2, TR_ as_G_J7_fill_53178 (rmV_) pre_G_J7_fill_53178 post_G_J7_fill_53178), (82, 4, TR_ as_G_X0_part (rmI_) pre_G_X0_part post_G_X0_part), (123, 2, TMAX_)] _ _ none kX6_tryQuestion [14, 23, 80] flX6_ok plX6_ok knX6_ok eX6_tryQuestion oX6_tryQuestion
    (List.forall_mem_cons.mpr ⟨cok_s (n := 2) (idx := 55) E (ct_G_J7_fill_53178 X.2.1) (by rw [hR]; decide) (Nat.zero_le _) (Nat.zero_le _) hG ⟨by decide, by decide, by decide⟩ (fun _ => rfl) wl_X6_55 wt_J7_fill_53178 wn_J7 wc_J7_fill_53178, List.forall_mem_cons.mpr ⟨cok_v (t := 15) (c := 0) (N := 9) (n := 3) (idx := 41) E (ct_G_X0_part X.2.1) (by rw [hR]; decide) (Nat.zero_le _) (Nat.zero_le _) hG rfl rfl ⟨rfl, by decide, by decide, by decide⟩ (fun _ => ⟨_, _, rfl, rfl⟩) wl_X6_41 wi_X0_part ws_X0_part wn_X0 wc_X0_part, List.forall_mem_cons.mpr ⟨cok_max (idx := 61) E (by rw [hR]; decide) (Nat.zero_le _) (Nat.zero_le _) wl_X6_61, fun _ h => absurd h List.not_mem_nil⟩⟩⟩) R sok_no E
  show WP_ X G Q 0 0 ad SHS_ σ 0 [(34, 39), (25, 30), (0, a2), (0, a3), (9, 0), (9, 0), (9, 0)] []
  refine B rfl ?_
  refine Exists.intro 0 (And.intro rfl (And.intro (And.intro (by show 0 ≤ 0; omega) (by show 0 ≤ 2000; omega)) ?_))
  intro z1 σ3 h2
  have f4 : ∀ k j : Int, ¬ (k = 41) → σ3 k j = σ k j := h2.2
  have h5 : ∀ j : Int, 0 ≤ j → j < 12 → σ3 41 j = 0 := h2.1
  have hfill := h2.1
  try dsimp only at hfill
  have lp_14 : ∀ (nq_ : Nat) (v4 : Int) (v5 : Int) (τ14 : Me_t), (∀ k j : Int, ¬ (k = 39 ∨ k = 41) → τ14 k j = σ k j) → (0 ≤ v4) → (v4 ≤ 2000) → (0 ≤ v5) → (v5 ≤ 2000) → (∀ j : Int, 0 ≤ j → j < 12 → τ14 41 j ≤ v5) → (2000 - v5 : Int).toNat < nq_ → WP_ X G Q 0 0 ad SHS_ τ14 14 [(34, 39), (25, 30), (0, a2), (0, a3), (0, v4), (0, v5), (9, 0)] [] := by
    intro nq_
    induction nq_ with
    | zero => intros; omega
    | succ nq_ ih_14 =>
      intro v4 v5 τ14 hf14 hi14_0 hi14_1 hi14_2 hi14_3 hi14_4 hm14
      refine B rfl ?_
      intro z6 ez6 hz6
      have hz6 : (0 : Int) ≤ z6 ∧ z6 ≤ (2000 : Int) := hz6
      try have t7 : τ14 39 1 = σ 39 1 := (hf14 _ _ (by omega))
      refine And.intro (fun h8 => ?_) (fun h8 => ?_)
      · skip
        refine B rfl ?_
        intro z9 ez9 hz9
        have hz9 : ((-2147483648) : Int) ≤ z9 ∧ z9 ≤ (2147483647 : Int) := rgl_ hz9 (by decide +kernel) (by decide +kernel) (by decide +kernel)
        try have t10 : τ14 39 4 = σ 39 4 := (hf14 _ _ (by omega))
        refine And.intro (fun h11 => ?_) (fun h11 => ?_)
        · skip
          refine B rfl ?_
          refine Exists.intro 0 (And.intro rfl ?_)
          exact (fun k j hk => (hf14 _ _ (by omega)))
        · skip
          show WP_ X G Q 0 0 ad SHS_ τ14 80 [(34, 39), (25, 30), (0, a2), (0, a3), (0, v4), (0, v5), (9, 0)] []
          refine B rfl ?_
          intro σ12 e13
          refine And.intro (by omega) ?_
          refine And.intro (by omega) ?_
          intro σ14 e15
          refine Exists.intro 0 (And.intro rfl ?_)
          exact (fun k j hk => ((ups_r e15 (by omega)).trans ((ups_r e13 (by omega)).trans (hf14 _ _ (by omega)))))
      · skip
        show WP_ X G Q 0 0 ad SHS_ τ14 23 [(34, 39), (25, 30), (0, a2), (0, a3), (0, v4), (0, v5), (9, 0)] []
        refine B rfl ?_
        refine And.intro (by omega) ?_
        intro z16 ez16 hz16
        have hz16 : (0 : Int) ≤ z16 ∧ z16 ≤ (1999 : Int) := hz16
        try have t17 : τ14 40 v5 = σ 40 v5 := (hf14 _ _ (by omega))
        have p18 : DT τ14 := DT_fr hp0 (fun k j hk => (hf14 _ _ (by omega)))
        refine Exists.intro (a2, z16, a3) (And.intro rfl (And.intro (And.intro p18 (And.intro (by show 0 ≤ z16; omega) (And.intro (by show z16 ≤ 1999; omega) (by show a3 = 4 ∨ (0 ≤ a2 ∧ a2 ≤ 2); omega)))) ?_))
        rintro z19 m_ h20
        obtain rfl : τ14 = m_ := h20.2.2.2.2
        have h21 : -1 ≤ z19 ∧ z19 ≤ 200000 := h20.1
        have h22 : a3 = 4 → 0 ≤ z19 ∧ z19 ≤ 1 := h20.2.1
        have h23 : a3 = 1 → z19 ≤ 7 := h20.2.2.1
        have h24 : a3 = 3 → z19 ≤ 10 := h20.2.2.2.1
        refine And.intro (by omega) ?_
        refine And.intro (by omega) ?_
        intro z25 ez25 hz25
        have hz25 : (0 : Int) ≤ z25 ∧ z25 ≤ (2000 : Int) := hz25
        try have t26 : τ14 41 (z19 + 1) = σ 41 (z19 + 1) := (hf14 _ _ (by omega))
        have hak := hi14_4 (z19 + 1) (by omega) (by omega)
        refine And.intro (by omega) ?_
        refine And.intro (by omega) ?_
        refine And.intro (by show (0 : Int) ≤ _ ∧ _ ≤ (2000 : Int); omega) ?_
        intro σ27 e28
        refine And.intro (by omega) ?_
        intro z29 ez29 hz29
        have hz29 : (0 : Int) ≤ z29 ∧ z29 ≤ (2000 : Int) := hz29
        have t30 : σ27 41 (z19 + 1) = z25 + 1 := ups_v e28
        refine Exists.intro v4 (Exists.intro z29 (And.intro rfl ?_))
        intro z31 hz31
        refine And.intro (by omega) ?_
        show WP_ X G Q 0 0 ad SHS_ σ27 14 [(34, 39), (25, 30), (0, a2), (0, a3), (0, z31), (0, v5 + 1), (0, z19 + 1)] []
        refine wdrop_ (L' := [(34, 39), (25, 30), (0, a2), (0, a3), (0, z31), (0, v5 + 1), (9, 0)]) ⟨Or.inr rfl, ⟨Or.inr rfl, ⟨Or.inr rfl, ⟨Or.inr rfl, ⟨Or.inr rfl, ⟨Or.inr rfl, ⟨Or.inl rfl, trivial⟩⟩⟩⟩⟩⟩⟩ ?_
        exact ih_14 z31 (v5 + 1) σ27 (fun k j hk => ((ups_r e28 (by omega)).trans (hf14 _ _ (by omega)))) (by show 0 ≤ z31; omega) (by show z31 ≤ 2000; omega) (by show 0 ≤ (v5 + 1); omega) (by show (v5 + 1) ≤ 2000; omega) (by show ∀ j : Int, 0 ≤ j → j < 12 → σ27 41 j ≤ (v5 + 1); intro j h1 h2; have h3 := hi14_4 j h1 h2; by_cases hj : j = (z19 + 1); subst hj; omega; rw [show σ27 41 j = τ14 41 j from (ups_r e28 (by omega))]; omega) (by omega)
  exact lp_14 ((2000 - 0 : Int).toNat + 1) 0 0 σ3 (fun k j hk => (f4 _ _ (by omega))) (by show 0 ≤ 0; omega) (by show 0 ≤ 2000; omega) (by show 0 ≤ 0; omega) (by show 0 ≤ 2000; omega) (by show ∀ j : Int, 0 ≤ j → j < 12 → σ3 41 j ≤ 0; intro j h1 h2; have h3 := hfill j h1 h2; omega) (by omega)
def as_G_X6_seekQuestion : Int → List Sv_t := fun a => [(34, 39), (25, 30), (0, a)]
def pre_G_X6_seekQuestion : Int → Me_t → Prop := fun a σ => (DT σ) ∧ (0 ≤ a) ∧ (a ≤ 3)
def post_G_X6_seekQuestion : Int → Me_t → Int → Me_t → Prop := fun a σ z σ' => (∀ k j : Int, ¬ (k = 39 ∨ k = 41) → σ' k j = σ k j)
set_option maxHeartbeats 1500000 in
set_option maxRecDepth 100000 in
theorem ct_G_X6_seekQuestion (l : Launch) : CT_ l yX6_seekQuestion cX6_seekQuestion 4 none 2 50 as_G_X6_seekQuestion (rmV_) pre_G_X6_seekQuestion post_G_X6_seekQuestion := by
  refine ct_of (by decide) (fun _ => Nat.le_of_ble_eq_true rfl) ?_
  intro X G Q ad σ a hl hR E hG R hM hv hp
  obtain ⟨a2, rfl⟩ : ∃ q : Int, q = a := ⟨_, rfl⟩
  have r_a2 : -2147483648 ≤ a2 ∧ a2 ≤ 2147483647 := hv (0, a2) (List.mem_of_getElem? (i := 2) rfl)
  have hp0 : DT σ := hp.1
  have hp1 : 0 ≤ a2 := hp.2.1
  have hp2 : a2 ≤ 3 := hp.2.2
  have B := @bk_ X G Q 0 0 ad SHS_ RX6 cX6_seekQuestion 4 none flX6 plX6 knX6 [(102, 4, TR_ as_G_X6_tryQuestion (rmV_) pre_G_X6_tryQuestion post_G_X6_tryQuestion)] _ _ none kX6_seekQuestion [15] flX6_ok plX6_ok knX6_ok eX6_seekQuestion oX6_seekQuestion
    (List.forall_mem_cons.mpr ⟨cok_v (t := 24) (c := 6) (N := 5) (n := 3) (idx := 51) E (ct_G_X6_tryQuestion X.2.1) (by rw [hR]; decide) (Nat.zero_le _) (Nat.zero_le _) hG rfl rfl ⟨rfl, by decide, by decide, by decide⟩ (fun _ => ⟨_, _, rfl, rfl⟩) wl_X6_51 wi_X6_tryQuestion ws_X6_tryQuestion wn_X6 wc_X6_tryQuestion, fun _ h => absurd h List.not_mem_nil⟩) R sok_no E
  show WP_ X G Q 0 0 ad SHS_ σ 0 [(34, 39), (25, 30), (0, a2), (9, 0)] []
  refine B rfl ?_
  intro σ1 e2
  intro z3 ez3 hz3
  have hz3 : (0 : Int) ≤ z3 ∧ z3 ≤ (2000 : Int) := hz3
  try have t4 : σ1 39 1 = σ 39 1 := (ups_r e2 (by omega))
  intro σ5 e6
  have lp_15 : ∀ (nq_ : Nat) (v3 : Int) (τ15 : Me_t), (∀ k j : Int, ¬ (k = 39 ∨ k = 41) → τ15 k j = σ k j) → (0 ≤ v3) → (v3 ≤ 3) → (3 - v3 : Int).toNat < nq_ → WP_ X G Q 0 0 ad SHS_ τ15 15 [(34, 39), (25, 30), (0, a2), (0, v3)] [] := by
    intro nq_
    induction nq_ with
    | zero => intros; omega
    | succ nq_ ih_15 =>
      intro v3 τ15 hf15 hi15_0 hi15_1 hm15
      refine B rfl ?_
      refine And.intro (fun h7 => ?_) (fun h7 => ?_)
      · skip
        refine B rfl ?_
        refine Exists.intro 0 (And.intro rfl ?_)
        exact (fun k j hk => (hf15 _ _ (by omega)))
      · skip
        have p8 : DT τ15 := DT_fr hp0 (fun k j hk => (hf15 _ _ (by omega)))
        refine Exists.intro (v3, 1) (And.intro rfl (And.intro (And.intro p8 (And.intro (by show 0 ≤ v3; omega) (And.intro (by show v3 ≤ 2; omega) (by show 1 = 1 ∨ 1 = 3 ∨ 1 = 4; omega)))) ?_))
        intro z9 σ11 h10
        have f12 : ∀ k j : Int, ¬ (k = 39 ∨ k = 41) → σ11 k j = τ15 k j := h10
        have p13 : DT σ11 := DT_fr p8 (fun k j hk => (f12 _ _ (by omega)))
        refine Exists.intro (v3, 3) (And.intro rfl (And.intro (And.intro p13 (And.intro (by show 0 ≤ v3; omega) (And.intro (by show v3 ≤ 2; omega) (by show 3 = 1 ∨ 3 = 3 ∨ 3 = 4; omega)))) ?_))
        intro z14 σ16 h15
        have f17 : ∀ k j : Int, ¬ (k = 39 ∨ k = 41) → σ16 k j = σ11 k j := h15
        have p18 : DT σ16 := DT_fr p13 (fun k j hk => (f17 _ _ (by omega)))
        refine Exists.intro (v3, 4) (And.intro rfl (And.intro (And.intro p18 (And.intro (by show 0 ≤ v3; omega) (And.intro (by show v3 ≤ 2; omega) (by show 4 = 1 ∨ 4 = 3 ∨ 4 = 4; omega)))) ?_))
        intro z19 σ21 h20
        have f22 : ∀ k j : Int, ¬ (k = 39 ∨ k = 41) → σ21 k j = σ16 k j := h20
        refine And.intro (by omega) ?_
        exact ih_15 (v3 + 1) σ21 (fun k j hk => ((f22 _ _ (by omega)).trans ((f17 _ _ (by omega)).trans ((f12 _ _ (by omega)).trans (hf15 _ _ (by omega)))))) (by show 0 ≤ (v3 + 1); omega) (by show (v3 + 1) ≤ 3; omega) (by omega)
  exact lp_15 ((3 - 0 : Int).toNat + 1) 0 σ5 (fun k j hk => ((ups_r e6 (by omega)).trans (ups_r e2 (by omega)))) (by show 0 ≤ 0; omega) (by show 0 ≤ 3; omega) (by omega)
def as_G_X7_winnerOf : Int × Int × Int → List Sv_t := fun a => [(37, 42), (0, a.1), (0, a.2.1), (0, a.2.2)]
def pre_G_X7_winnerOf : Int × Int × Int → Me_t → Prop := fun a σ => (a.2.2 ≤ a.2.1) ∧ (a.2.1 ≤ 40) ∧ (1 ≤ a.2.2)
def post_G_X7_winnerOf : Int × Int × Int → Me_t → Int → Me_t → Prop := fun a σ z σ' => (σ = σ')
set_option maxHeartbeats 1500000 in
set_option maxRecDepth 100000 in
theorem ct_G_X7_winnerOf (l : Launch) : CT_ l yX7_winnerOf cX7_winnerOf 4 (some .int) 0 0 as_G_X7_winnerOf (rmI_) pre_G_X7_winnerOf post_G_X7_winnerOf := by
  refine ct_of (by decide) (fun _ => Nat.le_of_ble_eq_true rfl) ?_
  intro X G Q ad σ a hl hR E hG R hM hv hp
  obtain ⟨a1, a2, a3⟩ := a
  have r_a1 : -2147483648 ≤ a1 ∧ a1 ≤ 2147483647 := hv (0, a1) (List.mem_of_getElem? (i := 1) rfl)
  have r_a2 : -2147483648 ≤ a2 ∧ a2 ≤ 2147483647 := hv (0, a2) (List.mem_of_getElem? (i := 2) rfl)
  have r_a3 : -2147483648 ≤ a3 ∧ a3 ≤ 2147483647 := hv (0, a3) (List.mem_of_getElem? (i := 3) rfl)
  have hp0 : a3 ≤ a2 := hp.1
  have hp1 : a2 ≤ 40 := hp.2.1
  have hp2 : 1 ≤ a3 := hp.2.2
  have B := @bk_ X G Q 0 0 ad SHS_ RX7 cX7_winnerOf 4 (some .int) flX7 plX7 knX7 [] _ _ none kX7_winnerOf [] flX7_ok plX7_ok knX7_ok eX7_winnerOf oX7_winnerOf
    (fun _ h => absurd h List.not_mem_nil) R sok_no E
  show WP_ X G Q 0 0 ad SHS_ σ 0 [(37, 42), (0, a1), (0, a2), (0, a3)] []
  refine B rfl ?_
  refine And.intro (fun h1 => ?_) (fun h1 => ?_)
  · skip
    refine B rfl ?_
    refine And.intro (by omega) ?_
    refine And.intro (by omega) ?_
    intro z2 ez2 hz2
    have hz2 : ((-2147483648) : Int) ≤ z2 ∧ z2 ≤ (2147483647 : Int) := rgl_ hz2 (by decide +kernel) (by decide +kernel) (by decide +kernel)
    refine Exists.intro _ (And.intro rfl ?_)
    exact rfl
  · skip
    refine B rfl ?_
    refine Exists.intro _ (And.intro rfl ?_)
    exact rfl
def as_G_X7_worth : Int × Int × Int → List Sv_t := fun a => [(37, 42), (0, a.1), (0, a.2.1), (0, a.2.2)]
def pre_G_X7_worth : Int × Int × Int → Me_t → Prop := fun a σ => (a.2.2 ≤ a.2.1) ∧ (a.2.1 ≤ 40) ∧ (1 ≤ a.2.2)
def post_G_X7_worth : Int × Int × Int → Me_t → Int → Me_t → Prop := fun a σ z σ' => (0 ≤ z ∧ z ≤ 2) ∧ (σ = σ')
set_option maxHeartbeats 1500000 in
set_option maxRecDepth 100000 in
theorem ct_G_X7_worth (l : Launch) : CT_ l yX7_worth cX7_worth 5 (some .int) 1 23 as_G_X7_worth (rmI_) pre_G_X7_worth post_G_X7_worth := by
  refine ct_of (by decide) (fun _ => Nat.le_of_ble_eq_true rfl) ?_
  intro X G Q ad σ a hl hR E hG R hM hv hp
  obtain ⟨a1, a2, a3⟩ := a
  have r_a1 : -2147483648 ≤ a1 ∧ a1 ≤ 2147483647 := hv (0, a1) (List.mem_of_getElem? (i := 1) rfl)
  have r_a2 : -2147483648 ≤ a2 ∧ a2 ≤ 2147483647 := hv (0, a2) (List.mem_of_getElem? (i := 2) rfl)
  have r_a3 : -2147483648 ≤ a3 ∧ a3 ≤ 2147483647 := hv (0, a3) (List.mem_of_getElem? (i := 3) rfl)
  have hp0 : a3 ≤ a2 := hp.1
  have hp1 : a2 ≤ 40 := hp.2.1
  have hp2 : 1 ≤ a3 := hp.2.2
  have B := @bk_ X G Q 0 0 ad SHS_ RX7 cX7_worth 5 (some .int) flX7 plX7 knX7 [(72, 4, TR_ as_G_X7_winnerOf (rmI_) pre_G_X7_winnerOf post_G_X7_winnerOf)] _ _ none kX7_worth [] flX7_ok plX7_ok knX7_ok eX7_worth oX7_worth
    (List.forall_mem_cons.mpr ⟨cok_v (t := 27) (c := 7) (N := 5) (n := 3) (idx := 36) E (ct_G_X7_winnerOf X.2.1) (by rw [hR]; decide) (Nat.zero_le _) (Nat.zero_le _) hG rfl rfl ⟨rfl, by decide, by decide, by decide⟩ (fun _ => ⟨_, _, rfl, rfl⟩) wl_X7_36 wi_X7_winnerOf ws_X7_winnerOf wn_X7 wc_X7_winnerOf, fun _ h => absurd h List.not_mem_nil⟩) R sok_no E
  show WP_ X G Q 0 0 ad SHS_ σ 0 [(37, 42), (0, a1), (0, a2), (0, a3), (9, 0)] []
  refine B rfl ?_
  refine Exists.intro (a1, a2, a3) (And.intro rfl (And.intro (And.intro (by show a3 ≤ a2; omega) (And.intro (by show a2 ≤ 40; omega) (by show 1 ≤ a3; omega))) ?_))
  rintro z1 m_ h2
  obtain rfl : σ = m_ := h2
  refine And.intro (fun h3 => ?_) (fun h3 => ?_)
  · skip
    refine B rfl ?_
    refine And.intro (fun h4 => ?_) (fun h4 => ?_)
    · skip
      refine B rfl ?_
      refine Exists.intro _ (And.intro rfl ?_)
      exact (And.intro (by show 0 ≤ 0 ∧ 0 ≤ 2; omega) rfl)
    · skip
      refine B rfl ?_
      refine Exists.intro _ (And.intro rfl ?_)
      exact (And.intro (by show 0 ≤ 1 ∧ 1 ≤ 2; omega) rfl)
  · skip
    refine B rfl ?_
    refine Exists.intro _ (And.intro rfl ?_)
    exact (And.intro (by show 0 ≤ 2 ∧ 2 ≤ 2; omega) rfl)
def as_G_X7_bestTake : Int × Int → List Sv_t := fun a => [(37, 42), (0, a.1), (0, a.2)]
def pre_G_X7_bestTake : Int × Int → Me_t → Prop := fun a σ => (1 ≤ a.2) ∧ (a.2 ≤ 40)
def post_G_X7_bestTake : Int × Int → Me_t → Int → Me_t → Prop := fun a σ z σ' => (z = 1 ∨ z = 2) ∧ (z ≤ a.2) ∧ (σ = σ')
set_option maxHeartbeats 1500000 in
set_option maxRecDepth 100000 in
theorem ct_G_X7_bestTake (l : Launch) : CT_ l yX7_bestTake cX7_bestTake 3 (some .int) 2 47 as_G_X7_bestTake (rmI_) pre_G_X7_bestTake post_G_X7_bestTake := by
  refine ct_of (by decide) (fun _ => Nat.le_of_ble_eq_true rfl) ?_
  intro X G Q ad σ a hl hR E hG R hM hv hp
  obtain ⟨a1, a2⟩ := a
  have r_a1 : -2147483648 ≤ a1 ∧ a1 ≤ 2147483647 := hv (0, a1) (List.mem_of_getElem? (i := 1) rfl)
  have r_a2 : -2147483648 ≤ a2 ∧ a2 ≤ 2147483647 := hv (0, a2) (List.mem_of_getElem? (i := 2) rfl)
  have hp0 : 1 ≤ a2 := hp.1
  have hp1 : a2 ≤ 40 := hp.2
  have B := @bk_ X G Q 0 0 ad SHS_ RX7 cX7_bestTake 3 (some .int) flX7 plX7 knX7 [(90, 4, TR_ as_G_X7_worth (rmI_) pre_G_X7_worth post_G_X7_worth)] _ _ none kX7_bestTake [] flX7_ok plX7_ok knX7_ok eX7_bestTake oX7_bestTake
    (List.forall_mem_cons.mpr ⟨cok_v (t := 27) (c := 7) (N := 5) (n := 3) (idx := 45) E (ct_G_X7_worth X.2.1) (by rw [hR]; decide) (Nat.zero_le _) (Nat.zero_le _) hG rfl rfl ⟨rfl, by decide, by decide, by decide⟩ (fun _ => ⟨_, _, rfl, rfl⟩) wl_X7_45 wi_X7_worth ws_X7_worth wn_X7 wc_X7_worth, fun _ h => absurd h List.not_mem_nil⟩) R sok_no E
  show WP_ X G Q 0 0 ad SHS_ σ 0 [(37, 42), (0, a1), (0, a2)] []
  refine B rfl ?_
  refine And.intro (fun h1 => ?_) (fun h1 => ?_)
  · skip
    refine B rfl ?_
    refine Exists.intro _ (And.intro rfl ?_)
    exact (And.intro (by show 1 = 1 ∨ 1 = 2; omega) (And.intro (by show 1 ≤ a2; omega) rfl))
  · skip
    refine Exists.intro (a1, a2, 1) (And.intro rfl (And.intro (And.intro (by show 1 ≤ a2; omega) (And.intro (by show a2 ≤ 40; omega) (by show 1 ≤ 1; omega))) ?_))
    rintro z2 m_ h3
    obtain rfl : σ = m_ := h3.2
    have h4 : 0 ≤ z2 ∧ z2 ≤ 2 := h3.1
    refine Exists.intro (a1, a2, 2) (And.intro rfl (And.intro (And.intro (by show 2 ≤ a2; omega) (And.intro (by show a2 ≤ 40; omega) (by show 1 ≤ 2; omega))) ?_))
    rintro z5 m_ h6
    obtain rfl : σ = m_ := h6.2
    have h7 : 0 ≤ z5 ∧ z5 ≤ 2 := h6.1
    refine And.intro (fun h8 => ?_) (fun h8 => ?_)
    · skip
      refine B rfl ?_
      refine Exists.intro _ (And.intro rfl ?_)
      exact (And.intro (by show 2 = 1 ∨ 2 = 2; omega) (And.intro (by show 2 ≤ a2; omega) rfl))
    · skip
      refine Exists.intro _ (And.intro rfl ?_)
      exact (And.intro (by show 1 = 1 ∨ 1 = 2; omega) (And.intro (by show 1 ≤ a2; omega) rfl))
def as_G_X7_listTurns : Int × Int × Int × Int → List Sv_t := fun a => [(37, 42), (25, 30), (0, a.1), (0, a.2.1), (0, a.2.2.1), (0, a.2.2.2)]
def pre_G_X7_listTurns : Int × Int × Int × Int → Me_t → Prop := fun a σ => (DT σ) ∧ (0 ≤ a.2.2.1) ∧ (a.2.2.1 ≤ 2000) ∧ (1 ≤ a.2.2.2) ∧ (a.2.2.2 ≤ 40)
def post_G_X7_listTurns : Int × Int × Int × Int → Me_t → Int → Me_t → Prop := fun a σ z σ' => (∀ k j : Int, ¬ (k = 42 ∨ k = 43) → σ' k j = σ k j)
set_option maxHeartbeats 1500000 in
set_option maxRecDepth 100000 in
theorem ct_G_X7_listTurns (l : Launch) : CT_ l yX7_listTurns cX7_listTurns 7 none 1 24 as_G_X7_listTurns (rmV_) pre_G_X7_listTurns post_G_X7_listTurns := by
  refine ct_of (by decide) (fun _ => Nat.le_of_ble_eq_true rfl) ?_
  intro X G Q ad σ a hl hR E hG R hM hv hp
  obtain ⟨a2, a3, a4, a5⟩ := a
  have r_a2 : -2147483648 ≤ a2 ∧ a2 ≤ 2147483647 := hv (0, a2) (List.mem_of_getElem? (i := 2) rfl)
  have r_a3 : -2147483648 ≤ a3 ∧ a3 ≤ 2147483647 := hv (0, a3) (List.mem_of_getElem? (i := 3) rfl)
  have r_a4 : -2147483648 ≤ a4 ∧ a4 ≤ 2147483647 := hv (0, a4) (List.mem_of_getElem? (i := 4) rfl)
  have r_a5 : -2147483648 ≤ a5 ∧ a5 ≤ 2147483647 := hv (0, a5) (List.mem_of_getElem? (i := 5) rfl)
  have hp0 : DT σ := hp.1
  have hp1 : 0 ≤ a4 := hp.2.1
  have hp2 : a4 ≤ 2000 := hp.2.2.1
  have hp3 : 1 ≤ a5 := hp.2.2.2.1
  have hp4 : a5 ≤ 40 := hp.2.2.2.2
  have B := @bk_ X G Q 0 0 ad SHS_ RX7 cX7_listTurns 7 none flX7 plX7 knX7 [(80, 4, TR_ as_G_X0_part (rmI_) pre_G_X0_part post_G_X0_part)] _ _ none kX7_listTurns [9, 17, 26, 38, 67, 79] flX7_ok plX7_ok knX7_ok eX7_listTurns oX7_listTurns
    (List.forall_mem_cons.mpr ⟨cok_v (t := 15) (c := 0) (N := 9) (n := 3) (idx := 40) E (ct_G_X0_part X.2.1) (by rw [hR]; decide) (Nat.zero_le _) (Nat.zero_le _) hG rfl rfl ⟨rfl, by decide, by decide, by decide⟩ (fun _ => ⟨_, _, rfl, rfl⟩) wl_X7_40 wi_X0_part ws_X0_part wn_X0 wc_X0_part, fun _ h => absurd h List.not_mem_nil⟩) R sok_no E
  show WP_ X G Q 0 0 ad SHS_ σ 0 [(37, 42), (25, 30), (0, a2), (0, a3), (0, a4), (0, a5), (9, 0)] []
  refine B rfl ?_
  refine And.intro (by omega) ?_
  intro σ1 e2
  show WP_ X G Q 0 0 ad SHS_ σ1 9 [(37, 42), (25, 30), (0, a2), (0, a3), (0, a4), (0, a5), (0, a4)] []
  refine wdrop_ (L' := [(37, 42), (25, 30), (0, a2), (0, a3), (9, 0), (0, a5), (0, a4)]) ⟨Or.inr rfl, ⟨Or.inr rfl, ⟨Or.inr rfl, ⟨Or.inr rfl, ⟨Or.inl rfl, ⟨Or.inr rfl, ⟨Or.inr rfl, trivial⟩⟩⟩⟩⟩⟩⟩ ?_
  have lp_9 : ∀ (nq_ : Nat) (v6 : Int) (τ9 : Me_t), (∀ k j : Int, ¬ (k = 42 ∨ k = 43) → τ9 k j = σ k j) → (0 ≤ v6) → (v6 ≤ 2000) → (2000 - v6 : Int).toNat < nq_ → WP_ X G Q 0 0 ad SHS_ τ9 9 [(37, 42), (25, 30), (0, a2), (0, a3), (9, 0), (0, a5), (0, v6)] [] := by
    intro nq_
    induction nq_ with
    | zero => intros; omega
    | succ nq_ ih_9 =>
      intro v6 τ9 hf9 hi9_0 hi9_1 hm9
      refine B rfl ?_
      refine And.intro (fun h3 => ?_) (fun h3 => ?_)
      · skip
        refine B rfl ?_
        refine Exists.intro 0 (And.intro rfl ?_)
        exact (fun k j hk => (hf9 _ _ (by omega)))
      · skip
        show WP_ X G Q 0 0 ad SHS_ τ9 17 [(37, 42), (25, 30), (0, a2), (0, a3), (9, 0), (0, a5), (0, v6)] []
        refine B rfl ?_
        intro z4 ez4 hz4
        have hz4 : (0 : Int) ≤ z4 ∧ z4 ≤ (40 : Int) := hz4
        try have t5 : τ9 42 1 = σ 42 1 := (hf9 _ _ (by omega))
        refine And.intro (fun h6 => ?_) (fun h6 => ?_)
        · skip
          refine B rfl ?_
          refine Exists.intro 0 (And.intro rfl ?_)
          exact (fun k j hk => (hf9 _ _ (by omega)))
        · skip
          show WP_ X G Q 0 0 ad SHS_ τ9 26 [(37, 42), (25, 30), (0, a2), (0, a3), (9, 0), (0, a5), (0, v6)] []
          refine B rfl ?_
          have p7 : DT τ9 := DT_fr hp0 (fun k j hk => (hf9 _ _ (by omega)))
          refine Exists.intro (a2, v6, 4) (And.intro rfl (And.intro (And.intro p7 (And.intro (by show 0 ≤ v6; omega) (And.intro (by show v6 ≤ 1999; omega) (by show 4 = 4 ∨ (0 ≤ a2 ∧ a2 ≤ 2); omega)))) ?_))
          rintro z8 m_ h9
          obtain rfl : τ9 = m_ := h9.2.2.2.2
          have h10 : -1 ≤ z8 ∧ z8 ≤ 200000 := h9.1
          have h11 : (4 : Int) = 4 → 0 ≤ z8 ∧ z8 ≤ 1 := h9.2.1
          have h12 : (4 : Int) = 1 → z8 ≤ 7 := h9.2.2.1
          have h13 : (4 : Int) = 3 → z8 ≤ 10 := h9.2.2.2.1
          refine And.intro (fun h14 => ?_) (fun h14 => ?_)
          · skip
            refine B rfl ?_
            intro z15 ez15 hz15
            have q16 : z4 = z15 := ez4.trans ez15.symm
            subst q16
            refine And.intro (fun h17 => ?_) (fun h17 => ?_)
            · skip
              refine B rfl ?_
              refine And.intro (by omega) ?_
              exact ih_9 (v6 + 1) τ9 (fun k j hk => (hf9 _ _ (by omega))) (by show 0 ≤ (v6 + 1); omega) (by show (v6 + 1) ≤ 2000; omega) (by omega)
            · skip
              show WP_ X G Q 0 0 ad SHS_ τ9 67 [(37, 42), (25, 30), (0, a2), (0, a3), (9, 0), (0, a5), (0, v6)] []
              refine B rfl ?_
              refine Exists.intro (a3, v6, 4) (And.intro rfl (And.intro (And.intro p7 (And.intro (by show 0 ≤ v6; omega) (And.intro (by show v6 ≤ 1999; omega) (by show 4 = 4 ∨ (0 ≤ a3 ∧ a3 ≤ 2); omega)))) ?_))
              rintro z18 m_ h19
              obtain rfl : τ9 = m_ := h19.2.2.2.2
              have h20 : -1 ≤ z18 ∧ z18 ≤ 200000 := h19.1
              have h21 : (4 : Int) = 4 → 0 ≤ z18 ∧ z18 ≤ 1 := h19.2.1
              have h22 : (4 : Int) = 1 → z18 ≤ 7 := h19.2.2.1
              have h23 : (4 : Int) = 3 → z18 ≤ 10 := h19.2.2.2.1
              refine And.intro (fun h24 => ?_) (fun h24 => ?_)
              · skip
                refine B rfl ?_
                refine And.intro (by omega) ?_
                exact ih_9 (v6 + 1) τ9 (fun k j hk => (hf9 _ _ (by omega))) (by show 0 ≤ (v6 + 1); omega) (by show (v6 + 1) ≤ 2000; omega) (by omega)
              · skip
                show WP_ X G Q 0 0 ad SHS_ τ9 79 [(37, 42), (25, 30), (0, a2), (0, a3), (9, 0), (0, a5), (0, v6)] []
                refine B rfl ?_
                intro z25 ez25 hz25
                have q26 : z4 = z25 := ez4.trans ez25.symm
                subst q26
                refine And.intro (by omega) ?_
                intro σ27 e28
                intro z29 ez29 hz29
                have hz29 : (0 : Int) ≤ z29 ∧ z29 ≤ (40 : Int) := hz29
                try have t30 : σ27 42 1 = τ9 42 1 := (ups_r e28 (by omega))
                refine And.intro (by omega) ?_
                refine And.intro (by omega) ?_
                intro σ31 e32
                refine And.intro (by omega) ?_
                exact ih_9 (v6 + 1) σ31 (fun k j hk => ((ups_r e32 (by omega)).trans ((ups_r e28 (by omega)).trans (hf9 _ _ (by omega))))) (by show 0 ≤ (v6 + 1); omega) (by show (v6 + 1) ≤ 2000; omega) (by omega)
          · skip
            show WP_ X G Q 0 0 ad SHS_ τ9 38 [(37, 42), (25, 30), (0, a2), (0, a3), (9, 0), (0, a5), (0, v6)] []
            refine B rfl ?_
            intro z33 ez33 hz33
            have q34 : z4 = z33 := ez4.trans ez33.symm
            subst q34
            refine And.intro (by omega) ?_
            intro σ35 e36
            intro z37 ez37 hz37
            have hz37 : (0 : Int) ≤ z37 ∧ z37 ≤ (40 : Int) := hz37
            try have t38 : σ35 42 1 = τ9 42 1 := (ups_r e36 (by omega))
            refine And.intro (by omega) ?_
            refine And.intro (by omega) ?_
            intro σ39 e40
            intro z41 ez41 hz41
            have hz41 : (0 : Int) ≤ z41 ∧ z41 ≤ (40 : Int) := hz41
            have t42 : σ39 42 1 = z37 + 1 := ups_v e40
            refine And.intro (fun h43 => ?_) (fun h43 => ?_)
            · skip
              refine B rfl ?_
              refine And.intro (by omega) ?_
              exact ih_9 (v6 + 1) σ39 (fun k j hk => ((ups_r e40 (by omega)).trans ((ups_r e36 (by omega)).trans (hf9 _ _ (by omega))))) (by show 0 ≤ (v6 + 1); omega) (by show (v6 + 1) ≤ 2000; omega) (by omega)
            · skip
              show WP_ X G Q 0 0 ad SHS_ σ39 67 [(37, 42), (25, 30), (0, a2), (0, a3), (9, 0), (0, a5), (0, v6)] []
              refine B rfl ?_
              have p44 : DT σ39 := DT_fr p7 (fun k j hk => ((ups_r e40 (by omega)).trans (ups_r e36 (by omega))))
              refine Exists.intro (a3, v6, 4) (And.intro rfl (And.intro (And.intro p44 (And.intro (by show 0 ≤ v6; omega) (And.intro (by show v6 ≤ 1999; omega) (by show 4 = 4 ∨ (0 ≤ a3 ∧ a3 ≤ 2); omega)))) ?_))
              rintro z45 m_ h46
              obtain rfl : σ39 = m_ := h46.2.2.2.2
              have h47 : -1 ≤ z45 ∧ z45 ≤ 200000 := h46.1
              have h48 : (4 : Int) = 4 → 0 ≤ z45 ∧ z45 ≤ 1 := h46.2.1
              have h49 : (4 : Int) = 1 → z45 ≤ 7 := h46.2.2.1
              have h50 : (4 : Int) = 3 → z45 ≤ 10 := h46.2.2.2.1
              refine And.intro (fun h51 => ?_) (fun h51 => ?_)
              · skip
                refine B rfl ?_
                refine And.intro (by omega) ?_
                exact ih_9 (v6 + 1) σ39 (fun k j hk => ((ups_r e40 (by omega)).trans ((ups_r e36 (by omega)).trans (hf9 _ _ (by omega))))) (by show 0 ≤ (v6 + 1); omega) (by show (v6 + 1) ≤ 2000; omega) (by omega)
              · skip
                show WP_ X G Q 0 0 ad SHS_ σ39 79 [(37, 42), (25, 30), (0, a2), (0, a3), (9, 0), (0, a5), (0, v6)] []
                refine B rfl ?_
                intro z52 ez52 hz52
                have q53 : z41 = z52 := ez41.trans ez52.symm
                subst q53
                refine And.intro (by omega) ?_
                intro σ54 e55
                intro z56 ez56 hz56
                have hz56 : (0 : Int) ≤ z56 ∧ z56 ≤ (40 : Int) := hz56
                try have t57 : σ54 42 1 = σ39 42 1 := (ups_r e55 (by omega))
                refine And.intro (by omega) ?_
                refine And.intro (by omega) ?_
                intro σ58 e59
                refine And.intro (by omega) ?_
                exact ih_9 (v6 + 1) σ58 (fun k j hk => ((ups_r e59 (by omega)).trans ((ups_r e55 (by omega)).trans ((ups_r e40 (by omega)).trans ((ups_r e36 (by omega)).trans (hf9 _ _ (by omega))))))) (by show 0 ≤ (v6 + 1); omega) (by show (v6 + 1) ≤ 2000; omega) (by omega)
  exact lp_9 ((2000 - a4 : Int).toNat + 1) a4 σ1 (fun k j hk => (ups_r e2 (by omega))) (by show 0 ≤ a4; omega) (by show a4 ≤ 2000; omega) (by omega)
def as_G_X7_play : Int × Int × Int × Int → List Sv_t := fun a => [(37, 42), (25, 30), (0, a.1), (0, a.2.1), (0, a.2.2.1), (0, a.2.2.2)]
def pre_G_X7_play : Int × Int × Int × Int → Me_t → Prop := fun a σ => (DT σ) ∧ (0 ≤ a.2.2.1) ∧ (a.2.2.1 ≤ 2000) ∧ (1 ≤ a.2.2.2) ∧ (a.2.2.2 ≤ 40)
def post_G_X7_play : Int × Int × Int × Int → Me_t → Int → Me_t → Prop := fun a σ z σ' => (∀ k j : Int, ¬ (42 ≤ k ∧ k ≤ 44) → σ' k j = σ k j)
set_option maxHeartbeats 1500000 in
set_option maxRecDepth 100000 in
theorem ct_G_X7_play (l : Launch) : CT_ l yX7_play cX7_play 8 none 3 69 as_G_X7_play (rmV_) pre_G_X7_play post_G_X7_play := by
  refine ct_of (by decide) (fun _ => Nat.le_of_ble_eq_true rfl) ?_
  intro X G Q ad σ a hl hR E hG R hM hv hp
  obtain ⟨a2, a3, a4, a5⟩ := a
  have r_a2 : -2147483648 ≤ a2 ∧ a2 ≤ 2147483647 := hv (0, a2) (List.mem_of_getElem? (i := 2) rfl)
  have r_a3 : -2147483648 ≤ a3 ∧ a3 ≤ 2147483647 := hv (0, a3) (List.mem_of_getElem? (i := 3) rfl)
  have r_a4 : -2147483648 ≤ a4 ∧ a4 ≤ 2147483647 := hv (0, a4) (List.mem_of_getElem? (i := 4) rfl)
  have r_a5 : -2147483648 ≤ a5 ∧ a5 ≤ 2147483647 := hv (0, a5) (List.mem_of_getElem? (i := 5) rfl)
  have hp0 : DT σ := hp.1
  have hp1 : 0 ≤ a4 := hp.2.1
  have hp2 : a4 ≤ 2000 := hp.2.2.1
  have hp3 : 1 ≤ a5 := hp.2.2.2.1
  have hp4 : a5 ≤ 40 := hp.2.2.2.2
  have B := @bk_ X G Q 0 0 ad SHS_ RX7 cX7_play 8 none flX7 plX7 knX7 [(56, 6, TR_ as_G_X7_listTurns (rmV_) pre_G_X7_listTurns post_G_X7_listTurns), (64, 3, TR_ as_G_X7_bestTake (rmI_) pre_G_X7_bestTake post_G_X7_bestTake), (72, 4, TR_ as_G_X7_winnerOf (rmI_) pre_G_X7_winnerOf post_G_X7_winnerOf)] _ _ none kX7_play [14, 21, 43, 49, 53, 59, 112, 139] flX7_ok plX7_ok knX7_ok eX7_play oX7_play
    (List.forall_mem_cons.mpr ⟨cok_v (t := 27) (c := 7) (N := 5) (n := 5) (idx := 28) E (ct_G_X7_listTurns X.2.1) (by rw [hR]; decide) (Nat.zero_le _) (Nat.zero_le _) hG rfl rfl ⟨rfl, by decide, by decide, by decide⟩ (fun _ => ⟨_, _, rfl, rfl⟩) wl_X7_28 wi_X7_listTurns ws_X7_listTurns wn_X7 wc_X7_listTurns, List.forall_mem_cons.mpr ⟨cok_v (t := 27) (c := 7) (N := 5) (n := 2) (idx := 32) E (ct_G_X7_bestTake X.2.1) (by rw [hR]; decide) (Nat.zero_le _) (Nat.zero_le _) hG rfl rfl ⟨rfl, by decide, by decide, by decide⟩ (fun _ => ⟨_, _, rfl, rfl⟩) wl_X7_32 wi_X7_bestTake ws_X7_bestTake wn_X7 wc_X7_bestTake, List.forall_mem_cons.mpr ⟨cok_v (t := 27) (c := 7) (N := 5) (n := 3) (idx := 36) E (ct_G_X7_winnerOf X.2.1) (by rw [hR]; decide) (Nat.zero_le _) (Nat.zero_le _) hG rfl rfl ⟨rfl, by decide, by decide, by decide⟩ (fun _ => ⟨_, _, rfl, rfl⟩) wl_X7_36 wi_X7_winnerOf ws_X7_winnerOf wn_X7 wc_X7_winnerOf, fun _ h => absurd h List.not_mem_nil⟩⟩⟩) R sok_no E
  show WP_ X G Q 0 0 ad SHS_ σ 0 [(37, 42), (25, 30), (0, a2), (0, a3), (0, a4), (0, a5), (9, 0), (9, 0)] []
  refine B rfl ?_
  refine Exists.intro (a2, a3, a4, a5) (And.intro rfl (And.intro (And.intro hp0 (And.intro (by show 0 ≤ a4; omega) (And.intro (by show a4 ≤ 2000; omega) (And.intro (by show 1 ≤ a5; omega) (by show a5 ≤ 40; omega))))) ?_))
  intro z1 σ3 h2
  have f4 : ∀ k j : Int, ¬ (k = 42 ∨ k = 43) → σ3 k j = σ k j := h2
  show WP_ X G Q 0 0 ad SHS_ σ3 14 [(37, 42), (25, 30), (0, a2), (0, a3), (0, a4), (0, a5), (0, 0), (9, 0)] []
  refine wdrop_ (L' := [(37, 42), (9, 0), (9, 0), (9, 0), (9, 0), (0, a5), (0, 0), (9, 0)]) ⟨Or.inr rfl, ⟨Or.inl rfl, ⟨Or.inl rfl, ⟨Or.inl rfl, ⟨Or.inl rfl, ⟨Or.inr rfl, ⟨Or.inr rfl, ⟨Or.inl rfl, trivial⟩⟩⟩⟩⟩⟩⟩⟩ ?_
  have lp_14 : ∀ (nq_ : Nat) (v6 : Int) (τ14 : Me_t), (∀ k j : Int, ¬ (42 ≤ k ∧ k ≤ 44) → τ14 k j = σ k j) → (0 ≤ v6) → (v6 ≤ a5 + 1) → (a5 + 1 - v6 : Int).toNat < nq_ → WP_ X G Q 0 0 ad SHS_ τ14 14 [(37, 42), (9, 0), (9, 0), (9, 0), (9, 0), (0, a5), (0, v6), (9, 0)] [] := by
    intro nq_
    induction nq_ with
    | zero => intros; omega
    | succ nq_ ih_14 =>
      intro v6 τ14 hf14 hi14_0 hi14_1 hm14
      refine B rfl ?_
      refine And.intro (fun h5 => ?_) (fun h5 => ?_)
      · skip
        refine B rfl ?_
        intro z6 ez6 hz6
        have hz6 : (0 : Int) ≤ z6 ∧ z6 ≤ (40 : Int) := hz6
        try have t7 : τ14 42 1 = σ 42 1 := (hf14 _ _ (by omega))
        refine And.intro (by omega) ?_
        have lp_43 : ∀ (nq_ : Nat) (v6 : Int) (τ43 : Me_t), (∀ k j : Int, ¬ (42 ≤ k ∧ k ≤ 44) → τ43 k j = σ k j) → (-1 ≤ v6) → (v6 ≤ 39) → (v6 + 1 : Int).toNat < nq_ → WP_ X G Q 0 0 ad SHS_ τ43 43 [(37, 42), (9, 0), (9, 0), (9, 0), (9, 0), (0, a5), (0, v6), (9, 0)] [] := by
          intro nq_
          induction nq_ with
          | zero => intros; omega
          | succ nq_ ih_43 =>
            intro v6 τ43 hf43 hi43_0 hi43_1 hm43
            refine B rfl ?_
            refine And.intro (fun h8 => ?_) (fun h8 => ?_)
            · skip
              refine B rfl ?_
              intro z9 ez9 hz9
              have hz9 : (0 : Int) ≤ z9 ∧ z9 ≤ (40 : Int) := hz9
              try have t10 : τ43 42 1 = σ 42 1 := (hf43 _ _ (by omega))
              refine And.intro (fun h11 => ?_) (fun h11 => ?_)
              · skip
                refine B rfl ?_
                refine And.intro (by omega) ?_
                intro z12 ez12 hz12
                have hz12 : ((-2147483648) : Int) ≤ z12 ∧ z12 ≤ (2147483647 : Int) := rgl_ hz12 (by decide +kernel) (by decide +kernel) (by decide +kernel)
                try have t13 : τ43 43 0 = σ 43 0 := (hf43 _ _ (by omega))
                refine Exists.intro (z12, a5) (And.intro rfl (And.intro (And.intro (by show 1 ≤ a5; omega) (by show a5 ≤ 40; omega)) ?_))
                rintro z14 m_ h15
                obtain rfl : τ43 = m_ := h15.2.2
                have h16 : z14 = 1 ∨ z14 = 2 := h15.1
                have h17 : z14 ≤ a5 := h15.2.1
                intro σ18 e19
                intro z20 ez20 hz20
                have hz20 : (0 : Int) ≤ z20 ∧ z20 ≤ (40 : Int) := hz20
                try have t21 : σ18 42 1 = τ43 42 1 := (ups_r e19 (by omega))
                refine And.intro (fun h22 => ?_) (fun h22 => ?_)
                · skip
                  refine B rfl ?_
                  refine And.intro (by omega) ?_
                  intro z23 ez23 hz23
                  have hz23 : ((-2147483648) : Int) ≤ z23 ∧ z23 ≤ (2147483647 : Int) := rgl_ hz23 (by decide +kernel) (by decide +kernel) (by decide +kernel)
                  try have t24 : σ18 43 0 = τ43 43 0 := (ups_r e19 (by omega))
                  intro z25 ez25 hz25
                  have hz25 : ((-2147483648) : Int) ≤ z25 ∧ z25 ≤ (2147483647 : Int) := rgl_ hz25 (by decide +kernel) (by decide +kernel) (by decide +kernel)
                  have t26 : σ18 42 4 = z14 := ups_v e19
                  refine Exists.intro (z23, a5, z25) (And.intro rfl (And.intro (And.intro (by show z25 ≤ a5; omega) (And.intro (by show a5 ≤ 40; omega) (by show 1 ≤ z25; omega))) ?_))
                  rintro z27 m_ h28
                  obtain rfl : σ18 = m_ := h28
                  intro σ29 e30
                  refine Exists.intro 0 (And.intro rfl ?_)
                  exact (fun k j hk => ((ups_r e30 (by omega)).trans ((ups_r e19 (by omega)).trans (hf43 _ _ (by omega)))))
                · skip
                  show WP_ X G Q 0 0 ad SHS_ σ18 139 [(37, 42), (9, 0), (9, 0), (9, 0), (9, 0), (0, a5), (0, v6), (9, 0)] [(37, 42)]
                  refine B rfl ?_
                  refine B rfl ?_
                  intro σ31 e32
                  refine Exists.intro 0 (And.intro rfl ?_)
                  exact (fun k j hk => ((ups_r e32 (by omega)).trans ((ups_r e19 (by omega)).trans (hf43 _ _ (by omega)))))
              · skip
                show WP_ X G Q 0 0 ad SHS_ τ43 112 [(37, 42), (9, 0), (9, 0), (9, 0), (9, 0), (0, a5), (0, v6), (9, 0)] [(37, 42)]
                refine B rfl ?_
                refine B rfl ?_
                intro σ33 e34
                intro z35 ez35 hz35
                have hz35 : (0 : Int) ≤ z35 ∧ z35 ≤ (40 : Int) := hz35
                try have t36 : σ33 42 1 = τ43 42 1 := (ups_r e34 (by omega))
                refine And.intro (fun h37 => ?_) (fun h37 => ?_)
                · skip
                  refine B rfl ?_
                  refine And.intro (by omega) ?_
                  intro z38 ez38 hz38
                  have hz38 : ((-2147483648) : Int) ≤ z38 ∧ z38 ≤ (2147483647 : Int) := rgl_ hz38 (by decide +kernel) (by decide +kernel) (by decide +kernel)
                  try have t39 : σ33 43 0 = σ 43 0 := ((ups_r e34 (by omega)).trans (hf43 _ _ (by omega)))
                  intro z40 ez40 hz40
                  have hz40 : ((-2147483648) : Int) ≤ z40 ∧ z40 ≤ (2147483647 : Int) := rgl_ hz40 (by decide +kernel) (by decide +kernel) (by decide +kernel)
                  have t41 : σ33 42 4 = 0 := ups_v e34
                  refine Exists.intro (z38, a5, z40) (And.intro rfl (And.intro (And.intro (by show z40 ≤ a5; omega) (And.intro (by show a5 ≤ 40; omega) (by show 1 ≤ z40; omega))) ?_))
                  rintro z42 m_ h43
                  obtain rfl : σ33 = m_ := h43
                  intro σ44 e45
                  refine Exists.intro 0 (And.intro rfl ?_)
                  exact (fun k j hk => ((ups_r e45 (by omega)).trans ((ups_r e34 (by omega)).trans (hf43 _ _ (by omega)))))
                · skip
                  show WP_ X G Q 0 0 ad SHS_ σ33 139 [(37, 42), (9, 0), (9, 0), (9, 0), (9, 0), (0, a5), (0, v6), (9, 0)] [(37, 42)]
                  refine B rfl ?_
                  refine B rfl ?_
                  intro σ46 e47
                  refine Exists.intro 0 (And.intro rfl ?_)
                  exact (fun k j hk => ((ups_r e47 (by omega)).trans ((ups_r e34 (by omega)).trans (hf43 _ _ (by omega)))))
            · skip
              show WP_ X G Q 0 0 ad SHS_ τ43 49 [(37, 42), (9, 0), (9, 0), (9, 0), (9, 0), (0, a5), (0, v6), (9, 0)] []
              refine B rfl ?_
              have lp_53 : ∀ (nq_ : Nat) (v7 : Int) (τ53 : Me_t), (∀ k j : Int, ¬ (42 ≤ k ∧ k ≤ 44) → τ53 k j = σ k j) → (0 ≤ v7) → (v7 ≤ a5) → (v7 + 1 : Int).toNat < nq_ → WP_ X G Q 0 0 ad SHS_ τ53 53 [(37, 42), (9, 0), (9, 0), (9, 0), (9, 0), (0, a5), (0, v6), (0, v7)] [] := by
                intro nq_
                induction nq_ with
                | zero => intros; omega
                | succ nq_ ih_53 =>
                  intro v7 τ53 hf53 hi53_0 hi53_1 hm53
                  refine B rfl ?_
                  refine And.intro (fun h48 => ?_) (fun h48 => ?_)
                  · skip
                    refine B rfl ?_
                    refine And.intro (by omega) ?_
                    show WP_ X G Q 0 0 ad SHS_ τ53 43 [(37, 42), (9, 0), (9, 0), (9, 0), (9, 0), (0, a5), (0, v6 + (-1)), (0, v7)] []
                    refine wdrop_ (L' := [(37, 42), (9, 0), (9, 0), (9, 0), (9, 0), (0, a5), (0, v6 + (-1)), (9, 0)]) ⟨Or.inr rfl, ⟨Or.inl rfl, ⟨Or.inl rfl, ⟨Or.inl rfl, ⟨Or.inl rfl, ⟨Or.inr rfl, ⟨Or.inr rfl, ⟨Or.inl rfl, trivial⟩⟩⟩⟩⟩⟩⟩⟩ ?_
                    exact ih_43 (v6 + (-1)) τ53 (fun k j hk => (hf53 _ _ (by omega))) (by show -1 ≤ (v6 + (-1)); omega) (by show (v6 + (-1)) ≤ 39; omega) (by omega)
                  · skip
                    show WP_ X G Q 0 0 ad SHS_ τ53 59 [(37, 42), (9, 0), (9, 0), (9, 0), (9, 0), (0, a5), (0, v6), (0, v7)] []
                    refine B rfl ?_
                    refine And.intro (by omega) ?_
                    intro z49 ez49 hz49
                    have hz49 : ((-2147483648) : Int) ≤ z49 ∧ z49 ≤ (2147483647 : Int) := rgl_ hz49 (by decide +kernel) (by decide +kernel) (by decide +kernel)
                    try have t50 : τ53 43 v6 = σ 43 v6 := (hf53 _ _ (by omega))
                    refine And.intro (by omega) ?_
                    intro z51 ez51 hz51
                    have q52 : z49 = z51 := ez49.trans ez51.symm
                    subst q52
                    refine Exists.intro (z49, v7) (And.intro rfl (And.intro (And.intro (by show 1 ≤ v7; omega) (by show v7 ≤ 40; omega)) ?_))
                    rintro z53 m_ h54
                    obtain rfl : τ53 = m_ := h54.2.2
                    have h55 : z53 = 1 ∨ z53 = 2 := h54.1
                    have h56 : z53 ≤ v7 := h54.2.1
                    refine Exists.intro (z49, v7, z53) (And.intro rfl (And.intro (And.intro (by show z53 ≤ v7; omega) (And.intro (by show v7 ≤ 40; omega) (by show 1 ≤ z53; omega))) ?_))
                    rintro z57 m_ h58
                    obtain rfl : τ53 = m_ := h58
                    refine And.intro (by omega) ?_
                    intro σ59 e60
                    refine And.intro (by omega) ?_
                    exact ih_53 (v7 + (-1)) σ59 (fun k j hk => ((ups_r e60 (by omega)).trans (hf53 _ _ (by omega)))) (by show 0 ≤ (v7 + (-1)); omega) (by show (v7 + (-1)) ≤ a5; omega) (by omega)
              exact lp_53 ((a5 + 1 : Int).toNat + 1) a5 τ43 (fun k j hk => (hf43 _ _ (by omega))) (by show 0 ≤ a5; omega) (by show a5 ≤ a5; omega) (by omega)
        exact lp_43 (((z6 - 1) + 1 : Int).toNat + 1) (z6 - 1) τ14 (fun k j hk => (hf14 _ _ (by omega))) (by show -1 ≤ (z6 - 1); omega) (by show (z6 - 1) ≤ 39; omega) (by omega)
      · skip
        show WP_ X G Q 0 0 ad SHS_ τ14 21 [(37, 42), (9, 0), (9, 0), (9, 0), (9, 0), (0, a5), (0, v6), (9, 0)] []
        refine B rfl ?_
        refine And.intro (by omega) ?_
        intro σ61 e62
        refine And.intro (by omega) ?_
        exact ih_14 (v6 + 1) σ61 (fun k j hk => ((ups_r e62 (by omega)).trans (hf14 _ _ (by omega)))) (by show 0 ≤ (v6 + 1); omega) (by show (v6 + 1) ≤ a5 + 1; omega) (by omega)
  exact lp_14 ((a5 + 1 - 0 : Int).toNat + 1) 0 σ3 (fun k j hk => (f4 _ _ (by omega))) (by show 0 ≤ 0; omega) (by show 0 ≤ a5 + 1; omega) (by omega)
def as_G_X8_append : Int → List Sv_t := fun a => [(11, 1), (0, a)]
def pre_G_X8_append : Int → Me_t → Prop := fun a σ => True
def post_G_X8_append : Int → Me_t → Int → Me_t → Prop := fun a σ z σ' => (∀ k j : Int, ¬ (k = 1 ∨ k = 2) → σ' k j = σ k j)
set_option maxHeartbeats 1500000 in
set_option maxRecDepth 100000 in
theorem ct_G_X8_append (l : Launch) : CT_ l yX8_append cX8_append 3 none 0 0 as_G_X8_append (rmV_) pre_G_X8_append post_G_X8_append := by
  refine ct_of (by decide) (fun _ => Nat.le_of_ble_eq_true rfl) ?_
  intro X G Q ad σ a hl hR E hG R hM hv hp
  obtain ⟨a1, rfl⟩ : ∃ q : Int, q = a := ⟨_, rfl⟩
  have r_a1 : -2147483648 ≤ a1 ∧ a1 ≤ 2147483647 := hv (0, a1) (List.mem_of_getElem? (i := 1) rfl)
  have B := @bk_ X G Q 0 0 ad SHS_ RX8 cX8_append 3 none flX8 plX8 knX8 [] _ _ none kX8_append [3] flX8_ok plX8_ok knX8_ok eX8_append oX8_append
    (fun _ h => absurd h List.not_mem_nil) R sok_no E
  show WP_ X G Q 0 0 ad SHS_ σ 0 [(11, 1), (0, a1), (9, 0)] []
  refine B rfl ?_
  have lp_3 : ∀ (nq_ : Nat) (v2 : Int) (τ3 : Me_t), (∀ k j : Int, ¬ (k = 1 ∨ k = 2) → τ3 k j = σ k j) → (-8 ≤ v2) → (v2 ≤ 24) → (v2 + 8 : Int).toNat < nq_ → WP_ X G Q 0 0 ad SHS_ τ3 3 [(11, 1), (0, a1), (0, v2)] [] := by
    intro nq_
    induction nq_ with
    | zero => intros; omega
    | succ nq_ ih_3 =>
      intro v2 τ3 hf3 hi3_0 hi3_1 hm3
      refine B rfl ?_
      refine And.intro (fun h1 => ?_) (fun h1 => ?_)
      · skip
        refine B rfl ?_
        refine Exists.intro 0 (And.intro rfl ?_)
        exact (fun k j hk => (hf3 _ _ (by omega)))
      · skip
        intro z2 ez2 hz2
        have hz2 : (0 : Int) ≤ z2 ∧ z2 ≤ (1200 : Int) := hz2
        try have t3 : τ3 1 1 = σ 1 1 := (hf3 _ _ (by omega))
        refine And.intro (fun h4 => ?_) (fun h4 => ?_)
        · skip
          refine B rfl ?_
          refine Exists.intro 0 (And.intro rfl ?_)
          exact (fun k j hk => (hf3 _ _ (by omega)))
        · skip
          intro z5 ez5 hz5
          have q6 : z2 = z5 := ez2.trans ez5.symm
          subst q6
          refine And.intro (by omega) ?_
          refine And.intro (i2b_r _) ?_
          intro σ7 e8
          intro z9 ez9 hz9
          have hz9 : (0 : Int) ≤ z9 ∧ z9 ≤ (1200 : Int) := hz9
          try have t10 : σ7 1 1 = τ3 1 1 := (ups_r e8 (by omega))
          refine And.intro (by omega) ?_
          refine And.intro (by omega) ?_
          intro σ11 e12
          refine And.intro (by omega) ?_
          exact ih_3 (v2 + (-8)) σ11 (fun k j hk => ((ups_r e12 (by omega)).trans ((ups_r e8 (by omega)).trans (hf3 _ _ (by omega))))) (by show -8 ≤ (v2 + (-8)); omega) (by show (v2 + (-8)) ≤ 24; omega) (by omega)
  exact lp_3 ((24 + 8 : Int).toNat + 1) 24 σ (fun k j hk => rfl) (by show -8 ≤ 24; omega) (by show 24 ≤ 24; omega) (by omega)
