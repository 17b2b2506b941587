def as_G_X10_isDay : Int → List Sv_t := fun a => [(0, a)]
def pre_G_X10_isDay : Int → Me_t → Prop := fun a σ => True
def post_G_X10_isDay : Int → Me_t → Int → Me_t → Prop := fun a σ z σ' => ((z = 1 ∧ 0 ≤ a ∧ a ≤ 1999) ∨ z = 0) ∧ (σ = σ')
set_option maxHeartbeats 8000000 in
set_option maxRecDepth 100000 in
theorem ct_G_X10_isDay (l : Launch) : CT_ l yX10_isDay cX10_isDay 1 (some .boolean) 0 0 as_G_X10_isDay (rmI_) pre_G_X10_isDay post_G_X10_isDay := by
  refine ct_of (by decide) (fun _ => Nat.le_of_ble_eq_true rfl) ?_
  intro X G Q ad σ a hl hR E hG R hM hv hp
  obtain ⟨a0, rfl⟩ : ∃ q : Int, q = a := ⟨_, rfl⟩
  have r_a0 : -2147483648 ≤ a0 ∧ a0 ≤ 2147483647 := hv (0, a0) (List.mem_of_getElem? (i := 0) rfl)
  have B := @bk_ X G Q 0 0 ad SHS_ RX10 cX10_isDay 1 (some .boolean) flX10 plX10 knX10 [] _ _ none kX10_isDay [] flX10_ok plX10_ok knX10_ok eX10_isDay oX10_isDay
    (fun _ h => absurd h List.not_mem_nil) R sok_no E
  show WP_ X G Q 0 0 ad SHS_ σ 0 [(0, a0)] []
  refine B rfl ?_
  refine And.intro (fun h1 => ?_) (fun h1 => ?_)
  · skip
    refine B rfl ?_
    refine And.intro (by omega) ?_
    refine Exists.intro _ (And.intro rfl ?_)
    exact (And.intro (by show (0 = 1 ∧ 0 ≤ a0 ∧ a0 ≤ 1999) ∨ 0 = 0; omega) rfl)
  · skip
    refine And.intro (fun h2 => ?_) (fun h2 => ?_)
    · skip
      refine B rfl ?_
      refine And.intro (by omega) ?_
      refine Exists.intro _ (And.intro rfl ?_)
      exact (And.intro (by show (0 = 1 ∧ 0 ≤ a0 ∧ a0 ≤ 1999) ∨ 0 = 0; omega) rfl)
    · skip
      refine B rfl ?_
      refine And.intro (by omega) ?_
      refine Exists.intro _ (And.intro rfl ?_)
      exact (And.intro (by show (1 = 1 ∧ 0 ≤ a0 ∧ a0 ≤ 1999) ∨ 1 = 0; omega) rfl)
def as_G_X10_isYear : Int → List Sv_t := fun a => [(0, a)]
def pre_G_X10_isYear : Int → Me_t → Prop := fun a σ => True
def post_G_X10_isYear : Int → Me_t → Int → Me_t → Prop := fun a σ z σ' => ((z = 1 ∧ 0 ≤ a ∧ a ≤ 1999) ∨ z = 0) ∧ (σ = σ')
set_option maxHeartbeats 8000000 in
set_option maxRecDepth 100000 in
theorem ct_G_X10_isYear (l : Launch) : CT_ l yX10_isYear cX10_isYear 1 (some .boolean) 0 0 as_G_X10_isYear (rmI_) pre_G_X10_isYear post_G_X10_isYear := by
  refine ct_of (by decide) (fun _ => Nat.le_of_ble_eq_true rfl) ?_
  intro X G Q ad σ a hl hR E hG R hM hv hp
  obtain ⟨a0, rfl⟩ : ∃ q : Int, q = a := ⟨_, rfl⟩
  have r_a0 : -2147483648 ≤ a0 ∧ a0 ≤ 2147483647 := hv (0, a0) (List.mem_of_getElem? (i := 0) rfl)
  have B := @bk_ X G Q 0 0 ad SHS_ RX10 cX10_isYear 1 (some .boolean) flX10 plX10 knX10 [] _ _ none kX10_isYear [] flX10_ok plX10_ok knX10_ok eX10_isYear oX10_isYear
    (fun _ h => absurd h List.not_mem_nil) R sok_no E
  show WP_ X G Q 0 0 ad SHS_ σ 0 [(0, a0)] []
  refine B rfl ?_
  refine And.intro (fun h1 => ?_) (fun h1 => ?_)
  · skip
    refine B rfl ?_
    refine And.intro (by omega) ?_
    refine Exists.intro _ (And.intro rfl ?_)
    exact (And.intro (by show (0 = 1 ∧ 0 ≤ a0 ∧ a0 ≤ 1999) ∨ 0 = 0; omega) rfl)
  · skip
    refine And.intro (fun h2 => ?_) (fun h2 => ?_)
    · skip
      refine B rfl ?_
      refine And.intro (by omega) ?_
      refine Exists.intro _ (And.intro rfl ?_)
      exact (And.intro (by show (0 = 1 ∧ 0 ≤ a0 ∧ a0 ≤ 1999) ∨ 0 = 0; omega) rfl)
    · skip
      refine B rfl ?_
      refine And.intro (by omega) ?_
      refine Exists.intro _ (And.intro rfl ?_)
      exact (And.intro (by show (1 = 1 ∧ 0 ≤ a0 ∧ a0 ≤ 1999) ∨ 1 = 0; omega) rfl)
def as_G_X9_clear : Int → List Sv_t := fun a => [(15, a)]
def pre_G_X9_clear : Int → Me_t → Prop := fun a σ => True
def post_G_X9_clear : Int → Me_t → Int → Me_t → Prop := fun a σ z σ' => (σ' a 0 = 0) ∧ (σ' a 2 = 0) ∧ (σ' a 3 = 0) ∧ (σ' a 4 = 0) ∧ (σ' a 5 = 0) ∧ (∀ k j : Int, ¬ (k = a) → σ' k j = σ k j)
set_option maxHeartbeats 8000000 in
set_option maxRecDepth 100000 in
theorem ct_G_X9_clear (l : Launch) : CT_ l yX9_clear cX9_clear 1 none 0 0 as_G_X9_clear (rmV_) pre_G_X9_clear post_G_X9_clear := by
  refine ct_of (by decide) (fun _ => Nat.le_of_ble_eq_true rfl) ?_
  intro X G Q ad σ a hl hR E hG R hM hv hp
  obtain ⟨a0, rfl⟩ : ∃ q : Int, q = a := ⟨_, rfl⟩
  have k_a0 : isWar_ a0 := tvWar_ (hv (15, a0) (List.mem_of_getElem? (i := 0) rfl))
  have r_a0 : 5 ≤ a0 ∧ a0 ≤ 67 := by unfold isWar_ at k_a0; omega
  have B := @bk_ X G Q 0 0 ad SHS_ RX9 cX9_clear 1 none flX9 plX9 knX9 [] _ _ none kX9_clear [] flX9_ok plX9_ok knX9_ok eX9_clear oX9_clear
    (fun _ h => absurd h List.not_mem_nil) R sok_no E
  show WP_ X G Q 0 0 ad SHS_ σ 0 [(15, a0)] []
  refine B rfl ?_
  refine And.intro (by omega) ?_
  intro σ1 e2
  refine And.intro (by omega) ?_
  intro σ3 e4
  refine And.intro (by omega) ?_
  intro σ5 e6
  refine And.intro (by omega) ?_
  intro σ7 e8
  refine And.intro (by omega) ?_
  intro σ9 e10
  refine And.intro (by omega) ?_
  intro σ11 e12
  refine Exists.intro 0 (And.intro rfl ?_)
  have t13 : σ11 a0 0 = 0 := (((ups_r e12 (by omega)).trans ((ups_r e10 (by omega)).trans ((ups_r e8 (by omega)).trans ((ups_r e6 (by omega)).trans (ups_r e4 (by omega))))))).trans (ups_v e2)
  have t14 : σ11 a0 2 = 0 := (((ups_r e12 (by omega)).trans ((ups_r e10 (by omega)).trans (ups_r e8 (by omega))))).trans (ups_v e6)
  have t15 : σ11 a0 3 = 0 := (((ups_r e12 (by omega)).trans (ups_r e10 (by omega)))).trans (ups_v e8)
  have t16 : σ11 a0 4 = 0 := ((ups_r e12 (by omega))).trans (ups_v e10)
  have t17 : σ11 a0 5 = 0 := ups_v e12
  exact (And.intro (by show σ11 a0 0 = 0; omega) (And.intro (by show σ11 a0 2 = 0; omega) (And.intro (by show σ11 a0 3 = 0; omega) (And.intro (by show σ11 a0 4 = 0; omega) (And.intro (by show σ11 a0 5 = 0; omega) (fun k j hk => ((ups_r e12 (by omega)).trans ((ups_r e10 (by omega)).trans ((ups_r e8 (by omega)).trans ((ups_r e6 (by omega)).trans ((ups_r e4 (by omega)).trans (ups_r e2 (by omega)))))))))))))
def as_G_X9_hasLand : Int × Int → List Sv_t := fun a => [(15, a.1), (0, a.2)]
def pre_G_X9_hasLand : Int × Int → Me_t → Prop := fun a σ => True
def post_G_X9_hasLand : Int × Int → Me_t → Int → Me_t → Prop := fun a σ z σ' => ((z = 1 ∧ 0 ≤ a.2 ∧ a.2 ≤ 2 ∧ a.2 < σ a.1 2) ∨ z = 0) ∧ (σ = σ')
set_option maxHeartbeats 8000000 in
set_option maxRecDepth 100000 in
theorem ct_G_X9_hasLand (l : Launch) : CT_ l yX9_hasLand cX9_hasLand 2 (some .boolean) 0 0 as_G_X9_hasLand (rmI_) pre_G_X9_hasLand post_G_X9_hasLand := by
  refine ct_of (by decide) (fun _ => Nat.le_of_ble_eq_true rfl) ?_
  intro X G Q ad σ a hl hR E hG R hM hv hp
  obtain ⟨a0, a1⟩ := a
  have k_a0 : isWar_ a0 := tvWar_ (hv (15, a0) (List.mem_of_getElem? (i := 0) rfl))
  have r_a0 : 5 ≤ a0 ∧ a0 ≤ 67 := by unfold isWar_ at k_a0; omega
  have r_a1 : -2147483648 ≤ a1 ∧ a1 ≤ 2147483647 := hv (0, a1) (List.mem_of_getElem? (i := 1) rfl)
  have B := @bk_ X G Q 0 0 ad SHS_ RX9 cX9_hasLand 2 (some .boolean) flX9 plX9 knX9 [] _ _ none kX9_hasLand [] flX9_ok plX9_ok knX9_ok eX9_hasLand oX9_hasLand
    (fun _ h => absurd h List.not_mem_nil) R sok_no E
  show WP_ X G Q 0 0 ad SHS_ σ 0 [(15, a0), (0, a1)] []
  refine B rfl ?_
  refine And.intro (fun h1 => ?_) (fun h1 => ?_)
  · skip
    refine B rfl ?_
    refine And.intro (by omega) ?_
    refine Exists.intro _ (And.intro rfl ?_)
    exact (And.intro (by show (0 = 1 ∧ 0 ≤ a1 ∧ a1 ≤ 2 ∧ a1 < σ a0 2) ∨ 0 = 0; omega) rfl)
  · skip
    intro z2 ez2 hz2
    have hz2 : (0 : Int) ≤ z2 ∧ z2 ≤ (3 : Int) := hz2
    refine And.intro (fun h3 => ?_) (fun h3 => ?_)
    · skip
      refine B rfl ?_
      refine And.intro (by omega) ?_
      refine Exists.intro _ (And.intro rfl ?_)
      exact (And.intro (by show (0 = 1 ∧ 0 ≤ a1 ∧ a1 ≤ 2 ∧ a1 < σ a0 2) ∨ 0 = 0; omega) rfl)
    · skip
      refine B rfl ?_
      refine And.intro (by omega) ?_
      refine Exists.intro _ (And.intro rfl ?_)
      exact (And.intro (by show (1 = 1 ∧ 0 ≤ a1 ∧ a1 ≤ 2 ∧ a1 < σ a0 2) ∨ 1 = 0; omega) rfl)
def as_G_X9_hasMonth : Int × Int × Int → List Sv_t := fun a => [(15, a.1), (0, a.2.1), (0, a.2.2)]
def pre_G_X9_hasMonth : Int × Int × Int → Me_t → Prop := fun a σ => True
def post_G_X9_hasMonth : Int × Int × Int → Me_t → Int → Me_t → Prop := fun a σ z σ' => ((z = 1 ∧ 0 ≤ a.2.1 ∧ a.2.1 ≤ 2 ∧ a.2.1 < σ a.1 2 ∧ 0 ≤ a.2.2 ∧ a.2.2 ≤ 7) ∨ z = 0) ∧ (σ = σ')
set_option maxHeartbeats 8000000 in
set_option maxRecDepth 100000 in
theorem ct_G_X9_hasMonth (l : Launch) : CT_ l yX9_hasMonth cX9_hasMonth 3 (some .boolean) 1 21 as_G_X9_hasMonth (rmI_) pre_G_X9_hasMonth post_G_X9_hasMonth := by
  refine ct_of (by decide) (fun _ => Nat.le_of_ble_eq_true rfl) ?_
  intro X G Q ad σ a hl hR E hG R hM hv hp
  obtain ⟨a0, a1, a2⟩ := a
  have k_a0 : isWar_ a0 := tvWar_ (hv (15, a0) (List.mem_of_getElem? (i := 0) rfl))
  have r_a0 : 5 ≤ a0 ∧ a0 ≤ 67 := by unfold isWar_ at k_a0; omega
  have r_a1 : -2147483648 ≤ a1 ∧ a1 ≤ 2147483647 := hv (0, a1) (List.mem_of_getElem? (i := 1) rfl)
  have r_a2 : -2147483648 ≤ a2 ∧ a2 ≤ 2147483647 := hv (0, a2) (List.mem_of_getElem? (i := 2) rfl)
  have B := @bk_ X G Q 0 0 ad SHS_ RX9 cX9_hasMonth 3 (some .boolean) flX9 plX9 knX9 [(114, 2, TR_ as_G_X9_hasLand (rmI_) pre_G_X9_hasLand post_G_X9_hasLand)] _ _ none kX9_hasMonth [] flX9_ok plX9_ok knX9_ok eX9_hasMonth oX9_hasMonth
    (List.forall_mem_cons.mpr ⟨cok_v (t := 5) (c := 9) (N := 10) (n := 1) (idx := 57) E (ct_G_X9_hasLand X.2.1) (by rw [hR]; decide) (Nat.zero_le _) (Nat.zero_le _) hG rfl rfl ⟨rfl, by decide, by decide, by decide⟩ (fun _ => ⟨_, _, rfl, rfl⟩) wl_X9_57 wi_X9_hasLand ws_X9_hasLand wn_X9 wc_X9_hasLand, fun _ h => absurd h List.not_mem_nil⟩) R sok_no E
  show WP_ X G Q 0 0 ad SHS_ σ 0 [(15, a0), (0, a1), (0, a2)] []
  refine B rfl ?_
  refine Exists.intro (a0, a1) (And.intro rfl (And.intro True.intro ?_))
  rintro z1 m_ h2
  obtain rfl : σ = m_ := h2.2
  have h3 : (z1 = 1 ∧ 0 ≤ a1 ∧ a1 ≤ 2 ∧ a1 < σ a0 2) ∨ z1 = 0 := h2.1
  refine And.intro (fun h4 => ?_) (fun h4 => ?_)
  · skip
    refine B rfl ?_
    refine And.intro (by omega) ?_
    refine Exists.intro _ (And.intro rfl ?_)
    exact (And.intro (by show (0 = 1 ∧ 0 ≤ a1 ∧ a1 ≤ 2 ∧ a1 < σ a0 2 ∧ 0 ≤ a2 ∧ a2 ≤ 7) ∨ 0 = 0; omega) rfl)
  · skip
    refine And.intro (fun h5 => ?_) (fun h5 => ?_)
    · skip
      refine B rfl ?_
      refine And.intro (by omega) ?_
      refine Exists.intro _ (And.intro rfl ?_)
      exact (And.intro (by show (0 = 1 ∧ 0 ≤ a1 ∧ a1 ≤ 2 ∧ a1 < σ a0 2 ∧ 0 ≤ a2 ∧ a2 ≤ 7) ∨ 0 = 0; omega) rfl)
    · skip
      refine And.intro (by omega) ?_
      intro z6 ez6 hz6
      have hz6 : (0 : Int) ≤ z6 ∧ z6 ≤ (8 : Int) := hz6
      refine And.intro (fun h7 => ?_) (fun h7 => ?_)
      · skip
        refine B rfl ?_
        refine And.intro (by omega) ?_
        refine Exists.intro _ (And.intro rfl ?_)
        exact (And.intro (by show (0 = 1 ∧ 0 ≤ a1 ∧ a1 ≤ 2 ∧ a1 < σ a0 2 ∧ 0 ≤ a2 ∧ a2 ≤ 7) ∨ 0 = 0; omega) rfl)
      · skip
        refine B rfl ?_
        refine And.intro (by omega) ?_
        refine Exists.intro _ (And.intro rfl ?_)
        exact (And.intro (by show (1 = 1 ∧ 0 ≤ a1 ∧ a1 ≤ 2 ∧ a1 < σ a0 2 ∧ 0 ≤ a2 ∧ a2 ≤ 7) ∨ 1 = 0; omega) rfl)
def as_G_X9_hasPlainDate : Int × Int × Int × Int → List Sv_t := fun a => [(15, a.1), (0, a.2.1), (0, a.2.2.1), (0, a.2.2.2)]
def pre_G_X9_hasPlainDate : Int × Int × Int × Int → Me_t → Prop := fun a σ => True
def post_G_X9_hasPlainDate : Int × Int × Int × Int → Me_t → Int → Me_t → Prop := fun a σ z σ' => ((z = 1 ∧ 0 ≤ a.2.1 ∧ a.2.1 ≤ 2 ∧ a.2.1 < σ a.1 2 ∧ 0 ≤ a.2.2.1 ∧ a.2.2.1 ≤ 7 ∧ 0 ≤ a.2.2.2 ∧ a.2.2.2 ≤ 59) ∨ z = 0) ∧ (σ = σ')
set_option maxHeartbeats 8000000 in
set_option maxRecDepth 100000 in
theorem ct_G_X9_hasPlainDate (l : Launch) : CT_ l yX9_hasPlainDate cX9_hasPlainDate 4 (some .boolean) 2 43 as_G_X9_hasPlainDate (rmI_) pre_G_X9_hasPlainDate post_G_X9_hasPlainDate := by
  refine ct_of (by decide) (fun _ => Nat.le_of_ble_eq_true rfl) ?_
  intro X G Q ad σ a hl hR E hG R hM hv hp
  obtain ⟨a0, a1, a2, a3⟩ := a
  have k_a0 : isWar_ a0 := tvWar_ (hv (15, a0) (List.mem_of_getElem? (i := 0) rfl))
  have r_a0 : 5 ≤ a0 ∧ a0 ≤ 67 := by unfold isWar_ at k_a0; omega
  have r_a1 : -2147483648 ≤ a1 ∧ a1 ≤ 2147483647 := hv (0, a1) (List.mem_of_getElem? (i := 1) rfl)
  have r_a2 : -2147483648 ≤ a2 ∧ a2 ≤ 2147483647 := hv (0, a2) (List.mem_of_getElem? (i := 2) rfl)
  have r_a3 : -2147483648 ≤ a3 ∧ a3 ≤ 2147483647 := hv (0, a3) (List.mem_of_getElem? (i := 3) rfl)
  have B := @bk_ X G Q 0 0 ad SHS_ RX9 cX9_hasPlainDate 4 (some .boolean) flX9 plX9 knX9 [(128, 3, TR_ as_G_X9_hasMonth (rmI_) pre_G_X9_hasMonth post_G_X9_hasMonth)] _ _ none kX9_hasPlainDate [] flX9_ok plX9_ok knX9_ok eX9_hasPlainDate oX9_hasPlainDate
    (List.forall_mem_cons.mpr ⟨cok_v (t := 5) (c := 9) (N := 10) (n := 2) (idx := 64) E (ct_G_X9_hasMonth X.2.1) (by rw [hR]; decide) (Nat.zero_le _) (Nat.zero_le _) hG rfl rfl ⟨rfl, by decide, by decide, by decide⟩ (fun _ => ⟨_, _, rfl, rfl⟩) wl_X9_64 wi_X9_hasMonth ws_X9_hasMonth wn_X9 wc_X9_hasMonth, fun _ h => absurd h List.not_mem_nil⟩) R sok_no E
  show WP_ X G Q 0 0 ad SHS_ σ 0 [(15, a0), (0, a1), (0, a2), (0, a3)] []
  refine B rfl ?_
  refine Exists.intro (a0, a1, a2) (And.intro rfl (And.intro True.intro ?_))
  rintro z1 m_ h2
  obtain rfl : σ = m_ := h2.2
  have h3 : (z1 = 1 ∧ 0 ≤ a1 ∧ a1 ≤ 2 ∧ a1 < σ a0 2 ∧ 0 ≤ a2 ∧ a2 ≤ 7) ∨ z1 = 0 := h2.1
  refine And.intro (fun h4 => ?_) (fun h4 => ?_)
  · skip
    refine B rfl ?_
    refine And.intro (by omega) ?_
    refine Exists.intro _ (And.intro rfl ?_)
    exact (And.intro (by show (0 = 1 ∧ 0 ≤ a1 ∧ a1 ≤ 2 ∧ a1 < σ a0 2 ∧ 0 ≤ a2 ∧ a2 ≤ 7 ∧ 0 ≤ a3 ∧ a3 ≤ 59) ∨ 0 = 0; omega) rfl)
  · skip
    refine And.intro (fun h5 => ?_) (fun h5 => ?_)
    · skip
      refine B rfl ?_
      refine And.intro (by omega) ?_
      refine Exists.intro _ (And.intro rfl ?_)
      exact (And.intro (by show (0 = 1 ∧ 0 ≤ a1 ∧ a1 ≤ 2 ∧ a1 < σ a0 2 ∧ 0 ≤ a2 ∧ a2 ≤ 7 ∧ 0 ≤ a3 ∧ a3 ≤ 59) ∨ 0 = 0; omega) rfl)
    · skip
      refine And.intro (by omega) ?_
      refine And.intro (by omega) ?_
      intro z6 ez6 hz6
      have hz6 : (0 : Int) ≤ z6 ∧ z6 ≤ (60 : Int) := hz6
      refine And.intro (fun h7 => ?_) (fun h7 => ?_)
      · skip
        refine B rfl ?_
        refine And.intro (by omega) ?_
        refine Exists.intro _ (And.intro rfl ?_)
        exact (And.intro (by show (0 = 1 ∧ 0 ≤ a1 ∧ a1 ≤ 2 ∧ a1 < σ a0 2 ∧ 0 ≤ a2 ∧ a2 ≤ 7 ∧ 0 ≤ a3 ∧ a3 ≤ 59) ∨ 0 = 0; omega) rfl)
      · skip
        refine B rfl ?_
        refine And.intro (by omega) ?_
        refine Exists.intro _ (And.intro rfl ?_)
        exact (And.intro (by show (1 = 1 ∧ 0 ≤ a1 ∧ a1 ≤ 2 ∧ a1 < σ a0 2 ∧ 0 ≤ a2 ∧ a2 ≤ 7 ∧ 0 ≤ a3 ∧ a3 ≤ 59) ∨ 1 = 0; omega) rfl)
def as_G_X9_dayOfDate : Int × Int × Int × Int × Int → List Sv_t := fun a => [(15, a.1), (0, a.2.1), (0, a.2.2.1), (0, a.2.2.2.1), (0, a.2.2.2.2)]
def pre_G_X9_dayOfDate : Int × Int × Int × Int × Int → Me_t → Prop := fun a σ => True
def post_G_X9_dayOfDate : Int × Int × Int × Int × Int → Me_t → Int → Me_t → Prop := fun a σ z σ' => (-2 ≤ z ∧ z ≤ 1999) ∧ (σ = σ')
set_option maxHeartbeats 8000000 in
set_option maxRecDepth 100000 in
theorem ct_G_X9_dayOfDate (l : Launch) : CT_ l yX9_dayOfDate cX9_dayOfDate 6 (some .int) 2 47 as_G_X9_dayOfDate (rmI_) pre_G_X9_dayOfDate post_G_X9_dayOfDate := by
  refine ct_of (by decide) (fun _ => Nat.le_of_ble_eq_true rfl) ?_
  intro X G Q ad σ a hl hR E hG R hM hv hp
  obtain ⟨a0, a1, a2, a3, a4⟩ := a
  have k_a0 : isWar_ a0 := tvWar_ (hv (15, a0) (List.mem_of_getElem? (i := 0) rfl))
  have r_a0 : 5 ≤ a0 ∧ a0 ≤ 67 := by unfold isWar_ at k_a0; omega
  have r_a1 : -2147483648 ≤ a1 ∧ a1 ≤ 2147483647 := hv (0, a1) (List.mem_of_getElem? (i := 1) rfl)
  have r_a2 : -2147483648 ≤ a2 ∧ a2 ≤ 2147483647 := hv (0, a2) (List.mem_of_getElem? (i := 2) rfl)
  have r_a3 : -2147483648 ≤ a3 ∧ a3 ≤ 2147483647 := hv (0, a3) (List.mem_of_getElem? (i := 3) rfl)
  have r_a4 : -2147483648 ≤ a4 ∧ a4 ≤ 2147483647 := hv (0, a4) (List.mem_of_getElem? (i := 4) rfl)
  have B := @bk_ X G Q 0 0 ad SHS_ RX9 cX9_dayOfDate 6 (some .int) flX9 plX9 knX9 [(128, 3, TR_ as_G_X9_hasMonth (rmI_) pre_G_X9_hasMonth post_G_X9_hasMonth), (143, 1, TR_ as_G_X10_isYear (rmI_) pre_G_X10_isYear post_G_X10_isYear), (148, 3, TR_ as_G_X1_lengthIn (rmI_) pre_G_X1_lengthIn post_G_X1_lengthIn), (156, 4, TR_ as_G_X1_dayOn (rmI_) pre_G_X1_dayOn post_G_X1_dayOn), (165, 1, TR_ as_G_X10_isDay (rmI_) pre_G_X10_isDay post_G_X10_isDay)] _ _ none kX9_dayOfDate [] flX9_ok plX9_ok knX9_ok eX9_dayOfDate oX9_dayOfDate
    (List.forall_mem_cons.mpr ⟨cok_v (t := 5) (c := 9) (N := 10) (n := 2) (idx := 64) E (ct_G_X9_hasMonth X.2.1) (by rw [hR]; decide) (Nat.zero_le _) (Nat.zero_le _) hG rfl rfl ⟨rfl, by decide, by decide, by decide⟩ (fun _ => ⟨_, _, rfl, rfl⟩) wl_X9_64 wi_X9_hasMonth ws_X9_hasMonth wn_X9 wc_X9_hasMonth, List.forall_mem_cons.mpr ⟨cok_sn (n := 1) (idx := 71) (host := RX10) E (ct_G_X10_isYear X.2.1) (by rw [hR]; decide) (Nat.zero_le _) (Nat.zero_le _) hG ⟨by decide, by decide, by decide⟩ (fun _ => rfl) wnl_X9_71 wt_X10_isYear wn_X10 wc_X10_isYear, List.forall_mem_cons.mpr ⟨cok_v (t := 10) (c := 1) (N := 9) (n := 2) (idx := 74) E (ct_G_X1_lengthIn X.2.1) (by rw [hR]; decide) (Nat.zero_le _) (Nat.zero_le _) hG rfl rfl ⟨rfl, by decide, by decide, by decide⟩ (fun _ => ⟨_, _, rfl, rfl⟩) wl_X9_74 wi_X1_lengthIn ws_X1_lengthIn wn_X1 wc_X1_lengthIn, List.forall_mem_cons.mpr ⟨cok_v (t := 10) (c := 1) (N := 9) (n := 3) (idx := 78) E (ct_G_X1_dayOn X.2.1) (by rw [hR]; decide) (Nat.zero_le _) (Nat.zero_le _) hG rfl rfl ⟨rfl, by decide, by decide, by decide⟩ (fun _ => ⟨_, _, rfl, rfl⟩) wl_X9_78 wi_X1_dayOn ws_X1_dayOn wn_X1 wc_X1_dayOn, List.forall_mem_cons.mpr ⟨cok_sn (n := 1) (idx := 82) (host := RX10) E (ct_G_X10_isDay X.2.1) (by rw [hR]; decide) (Nat.zero_le _) (Nat.zero_le _) hG ⟨by decide, by decide, by decide⟩ (fun _ => rfl) wnl_X9_82 wt_X10_isDay wn_X10 wc_X10_isDay, fun _ h => absurd h List.not_mem_nil⟩⟩⟩⟩⟩) R sok_no E
  show WP_ X G Q 0 0 ad SHS_ σ 0 [(15, a0), (0, a1), (0, a2), (0, a3), (0, a4), (9, 0)] []
  refine B rfl ?_
  refine Exists.intro (a0, a1, a3) (And.intro rfl (And.intro True.intro ?_))
  rintro z1 m_ h2
  obtain rfl : σ = m_ := h2.2
  have h3 : (z1 = 1 ∧ 0 ≤ a1 ∧ a1 ≤ 2 ∧ a1 < σ a0 2 ∧ 0 ≤ a3 ∧ a3 ≤ 7) ∨ z1 = 0 := h2.1
  refine And.intro (fun h4 => ?_) (fun h4 => ?_)
  · skip
    refine B rfl ?_
    refine Exists.intro _ (And.intro rfl ?_)
    exact (And.intro (by show -2 ≤ (-2) ∧ (-2) ≤ 1999; omega) rfl)
  · skip
    refine Exists.intro a2 (And.intro rfl (And.intro True.intro ?_))
    rintro z5 m_ h6
    obtain rfl : σ = m_ := h6.2
    have h7 : (z5 = 1 ∧ 0 ≤ a2 ∧ a2 ≤ 1999) ∨ z5 = 0 := h6.1
    refine And.intro (fun h8 => ?_) (fun h8 => ?_)
    · skip
      refine B rfl ?_
      refine And.intro (fun h9 => ?_) (fun h9 => ?_)
      · skip
        refine B rfl ?_
        refine Exists.intro _ (And.intro rfl ?_)
        exact (And.intro (by show -2 ≤ (-2) ∧ (-2) ≤ 1999; omega) rfl)
      · skip
        refine And.intro (by omega) ?_
        refine Exists.intro ((a0 + 1) + 4 + 2 * a1, a3, a2) (And.intro rfl (And.intro (And.intro (by show 0 ≤ a3; omega) (And.intro (by show a3 ≤ 7; omega) (by show 0 ≤ a2; omega))) ?_))
        rintro z10 m_ h11
        obtain rfl : σ = m_ := h11.2
        have h12 : 0 ≤ z10 ∧ z10 ≤ 69 := h11.1
        refine And.intro (fun h13 => ?_) (fun h13 => ?_)
        · skip
          refine B rfl ?_
          refine And.intro (by omega) ?_
          refine Exists.intro ((a0 + 1) + 4 + 2 * a1, a2, a3, a4) (And.intro rfl (And.intro (And.intro (by show 0 ≤ a2; omega) (And.intro (by show a2 ≤ 2100; omega) (And.intro (by show 0 ≤ a3; omega) (And.intro (by show a3 ≤ 100; omega) (And.intro (by show 0 ≤ a4; omega) (by show a4 ≤ 100; omega)))))) ?_))
          rintro z14 m_ h15
          obtain rfl : σ = m_ := h15.2
          have h16 : 0 ≤ z14 ∧ z14 ≤ 2000000 := h15.1
          refine Exists.intro z14 (And.intro rfl (And.intro True.intro ?_))
          rintro z17 m_ h18
          obtain rfl : σ = m_ := h18.2
          have h19 : (z17 = 1 ∧ 0 ≤ z14 ∧ z14 ≤ 1999) ∨ z17 = 0 := h18.1
          refine And.intro (fun h20 => ?_) (fun h20 => ?_)
          · skip
            refine B rfl ?_
            refine Exists.intro _ (And.intro rfl ?_)
            exact (And.intro (by show -2 ≤ (-1) ∧ (-1) ≤ 1999; omega) rfl)
          · skip
            refine B rfl ?_
            refine Exists.intro _ (And.intro rfl ?_)
            exact (And.intro (by show -2 ≤ z14 ∧ z14 ≤ 1999; omega) rfl)
        · skip
          refine Exists.intro _ (And.intro rfl ?_)
          exact (And.intro (by show -2 ≤ (-2) ∧ (-2) ≤ 1999; omega) rfl)
    · skip
      refine Exists.intro _ (And.intro rfl ?_)
      exact (And.intro (by show -2 ≤ (-2) ∧ (-2) ≤ 1999; omega) rfl)
def as_G_X9_insertFeast : Int × Int × Int × Int × Int × Int → List Sv_t := fun a => [(15, a.1), (0, a.2.1), (0, a.2.2.1), (0, a.2.2.2.1), (0, a.2.2.2.2.1), (0, a.2.2.2.2.2)]
def pre_G_X9_insertFeast : Int × Int × Int × Int × Int × Int → Me_t → Prop := fun a σ => (0 ≤ a.2.1) ∧ (a.2.1 ≤ σ a.1 3) ∧ (σ a.1 3 ≤ 11) ∧ (0 ≤ a.2.2.1) ∧ (a.2.2.1 ≤ 59) ∧ (0 ≤ a.2.2.2.1) ∧ (a.2.2.2.1 ≤ 59) ∧ (0 ≤ a.2.2.2.2.1) ∧ (a.2.2.2.2.1 ≤ 59) ∧ (0 ≤ a.2.2.2.2.2) ∧ (a.2.2.2.2.2 ≤ 59)
def post_G_X9_insertFeast : Int × Int × Int × Int × Int × Int → Me_t → Int → Me_t → Prop := fun a σ z σ' => (σ' a.1 3 = σ a.1 3 + 1) ∧ (∀ j : Int, j ≠ 3 → σ' a.1 j = σ a.1 j) ∧ (∀ k j : Int, ¬ (k = a.1 ∨ k = a.1 + 2) → σ' k j = σ k j)
set_option maxHeartbeats 8000000 in
set_option maxRecDepth 100000 in
theorem ct_G_X9_insertFeast (l : Launch) : CT_ l yX9_insertFeast cX9_insertFeast 7 none 1 40 as_G_X9_insertFeast (rmV_) pre_G_X9_insertFeast post_G_X9_insertFeast := by
  refine ct_of (by decide) (fun _ => Nat.le_of_ble_eq_true rfl) ?_
  intro X G Q ad σ a hl hR E hG R hM hv hp
  obtain ⟨a0, a1, a2, a3, a4, a5⟩ := a
  have k_a0 : isWar_ a0 := tvWar_ (hv (15, a0) (List.mem_of_getElem? (i := 0) rfl))
  have r_a0 : 5 ≤ a0 ∧ a0 ≤ 67 := by unfold isWar_ at k_a0; omega
  have r_a1 : -2147483648 ≤ a1 ∧ a1 ≤ 2147483647 := hv (0, a1) (List.mem_of_getElem? (i := 1) rfl)
  have r_a2 : -2147483648 ≤ a2 ∧ a2 ≤ 2147483647 := hv (0, a2) (List.mem_of_getElem? (i := 2) rfl)
  have r_a3 : -2147483648 ≤ a3 ∧ a3 ≤ 2147483647 := hv (0, a3) (List.mem_of_getElem? (i := 3) rfl)
  have r_a4 : -2147483648 ≤ a4 ∧ a4 ≤ 2147483647 := hv (0, a4) (List.mem_of_getElem? (i := 4) rfl)
  have r_a5 : -2147483648 ≤ a5 ∧ a5 ≤ 2147483647 := hv (0, a5) (List.mem_of_getElem? (i := 5) rfl)
  have hp0 : 0 ≤ a1 := hp.1
  have hp1 : a1 ≤ σ a0 3 := hp.2.1
  have hp2 : σ a0 3 ≤ 11 := hp.2.2.1
  have hp3 : 0 ≤ a2 := hp.2.2.2.1
  have hp4 : a2 ≤ 59 := hp.2.2.2.2.1
  have hp5 : 0 ≤ a3 := hp.2.2.2.2.2.1
  have hp6 : a3 ≤ 59 := hp.2.2.2.2.2.2.1
  have hp7 : 0 ≤ a4 := hp.2.2.2.2.2.2.2.1
  have hp8 : a4 ≤ 59 := hp.2.2.2.2.2.2.2.2.1
  have hp9 : 0 ≤ a5 := hp.2.2.2.2.2.2.2.2.2.1
  have hp10 : a5 ≤ 59 := hp.2.2.2.2.2.2.2.2.2.2
  have B := @bk_ X G Q 0 0 ad SHS_ RX9 cX9_insertFeast 7 none flX9 plX9 knX9 [(103, 5, TAC_)] _ _ none kX9_insertFeast [] flX9_ok plX9_ok knX9_ok eX9_insertFeast oX9_insertFeast
    (List.forall_mem_cons.mpr ⟨cok_ac (idx := 51) E (by rw [hR]; decide) wa_X9_51, fun _ h => absurd h List.not_mem_nil⟩) R sok_no E
  show WP_ X G Q 0 0 ad SHS_ σ 0 [(15, a0), (0, a1), (0, a2), (0, a3), (0, a4), (0, a5), (9, 0)] []
  refine B rfl ?_
  refine And.intro (by omega) ?_
  refine And.intro (by omega) ?_
  intro z1 ez1 hz1
  have hz1 : (0 : Int) ≤ z1 ∧ z1 ≤ (12 : Int) := hz1
  refine And.intro (by omega) ?_
  refine And.intro (by omega) ?_
  refine Exists.intro 7 (Exists.intro 7 (Exists.intro 1 (Exists.intro 0 (Exists.intro 0 (Exists.intro 48 (Exists.intro 48 (Exists.intro (a0 + 2) (Exists.intro (a0 + 2) (Exists.intro (a1 * 4) (Exists.intro ((a1 * 4) + 4) (Exists.intro ((z1 - a1) * 4) (And.intro rfl (And.intro rfl (And.intro rfl (And.intro rfl (And.intro (by decide) (And.intro (by omega) ?_)))))))))))))))))
  intro σ2 e3
  refine And.intro (by omega) ?_
  refine And.intro (by show (0 : Int) ≤ _ ∧ _ ≤ (59 : Int); omega) ?_
  intro σ4 e5
  refine And.intro (by omega) ?_
  refine And.intro (by omega) ?_
  refine And.intro (by show (0 : Int) ≤ _ ∧ _ ≤ (59 : Int); omega) ?_
  intro σ6 e7
  refine And.intro (by omega) ?_
  refine And.intro (by omega) ?_
  refine And.intro (by show (0 : Int) ≤ _ ∧ _ ≤ (59 : Int); omega) ?_
  intro σ8 e9
  refine And.intro (by omega) ?_
  refine And.intro (by omega) ?_
  refine And.intro (by show (0 : Int) ≤ _ ∧ _ ≤ (59 : Int); omega) ?_
  intro σ10 e11
  intro z12 ez12 hz12
  have hz12 : (0 : Int) ≤ z12 ∧ z12 ≤ (12 : Int) := hz12
  try have t13 : σ10 a0 3 = σ a0 3 := ((ups_r e11 (by omega)).trans ((ups_r e9 (by omega)).trans ((ups_r e7 (by omega)).trans ((ups_r e5 (by omega)).trans (ac_r e3 (by omega))))))
  refine And.intro (by omega) ?_
  refine And.intro (by omega) ?_
  intro σ14 e15
  refine Exists.intro 0 (And.intro rfl ?_)
  have t16 : σ14 a0 3 = z12 + 1 := ups_v e15
  exact (And.intro (by show σ14 a0 3 = σ a0 3 + 1; omega) (And.intro (by show ∀ j : Int, j ≠ 3 → σ14 a0 j = σ a0 j; intro j hj0; exact ((ups_r e15 (by omega)).trans ((ups_r e11 (by omega)).trans ((ups_r e9 (by omega)).trans ((ups_r e7 (by omega)).trans ((ups_r e5 (by omega)).trans (ac_r e3 (by omega)))))))) (fun k j hk => ((ups_r e15 (by omega)).trans ((ups_r e11 (by omega)).trans ((ups_r e9 (by omega)).trans ((ups_r e7 (by omega)).trans ((ups_r e5 (by omega)).trans (ac_r e3 (by omega))))))))))
def as_G_X9_removeFeast : Int × Int → List Sv_t := fun a => [(15, a.1), (0, a.2)]
def pre_G_X9_removeFeast : Int × Int → Me_t → Prop := fun a σ => (0 ≤ a.2) ∧ (a.2 < σ a.1 3)
def post_G_X9_removeFeast : Int × Int → Me_t → Int → Me_t → Prop := fun a σ z σ' => (σ' a.1 3 = σ a.1 3 - 1) ∧ (∀ j : Int, j ≠ 3 → σ' a.1 j = σ a.1 j) ∧ (∀ k j : Int, ¬ (k = a.1 ∨ k = a.1 + 2) → σ' k j = σ k j)
set_option maxHeartbeats 8000000 in
set_option maxRecDepth 100000 in
theorem ct_G_X9_removeFeast (l : Launch) : CT_ l yX9_removeFeast cX9_removeFeast 3 none 1 40 as_G_X9_removeFeast (rmV_) pre_G_X9_removeFeast post_G_X9_removeFeast := by
  refine ct_of (by decide) (fun _ => Nat.le_of_ble_eq_true rfl) ?_
  intro X G Q ad σ a hl hR E hG R hM hv hp
  obtain ⟨a0, a1⟩ := a
  have k_a0 : isWar_ a0 := tvWar_ (hv (15, a0) (List.mem_of_getElem? (i := 0) rfl))
  have r_a0 : 5 ≤ a0 ∧ a0 ≤ 67 := by unfold isWar_ at k_a0; omega
  have r_a1 : -2147483648 ≤ a1 ∧ a1 ≤ 2147483647 := hv (0, a1) (List.mem_of_getElem? (i := 1) rfl)
  have hp0 : 0 ≤ a1 := hp.1
  have hp1 : a1 < σ a0 3 := hp.2
  have B := @bk_ X G Q 0 0 ad SHS_ RX9 cX9_removeFeast 3 none flX9 plX9 knX9 [(103, 5, TAC_)] _ _ none kX9_removeFeast [] flX9_ok plX9_ok knX9_ok eX9_removeFeast oX9_removeFeast
    (List.forall_mem_cons.mpr ⟨cok_ac (idx := 51) E (by rw [hR]; decide) wa_X9_51, fun _ h => absurd h List.not_mem_nil⟩) R sok_no E
  show WP_ X G Q 0 0 ad SHS_ σ 0 [(15, a0), (0, a1), (9, 0)] []
  have r3 := rgf_ (t := 5) (j := 3) hM (hv (15, a0) (List.mem_of_getElem? (i := 0) rfl)) (by decide)
  have r3 : (0 : Int) ≤ σ a0 3 ∧ σ a0 3 ≤ (12 : Int) := r3
  refine B rfl ?_
  refine And.intro (by omega) ?_
  intro z1 ez1 hz1
  have hz1 : (0 : Int) ≤ z1 ∧ z1 ≤ (12 : Int) := hz1
  refine And.intro (by omega) ?_
  refine And.intro (by omega) ?_
  intro σ2 e3
  refine And.intro (by omega) ?_
  intro z4 ez4 hz4
  have hz4 : (0 : Int) ≤ z4 ∧ z4 ≤ (12 : Int) := hz4
  have t5 : σ2 a0 3 = z1 - 1 := ups_v e3
  refine And.intro (by omega) ?_
  refine And.intro (by omega) ?_
  refine Exists.intro 7 (Exists.intro 7 (Exists.intro 1 (Exists.intro 0 (Exists.intro 0 (Exists.intro 48 (Exists.intro 48 (Exists.intro (a0 + 2) (Exists.intro (a0 + 2) (Exists.intro ((a1 * 4) + 4) (Exists.intro (a1 * 4) (Exists.intro ((z4 - a1) * 4) (And.intro rfl (And.intro rfl (And.intro rfl (And.intro rfl (And.intro (by decide) (And.intro (by omega) ?_)))))))))))))))))
  intro σ6 e7
  refine Exists.intro 0 (And.intro rfl ?_)
  try have t8 : σ6 a0 3 = σ2 a0 3 := (ac_r e7 (by omega))
  exact (And.intro (by show σ6 a0 3 = σ a0 3 - 1; omega) (And.intro (by show ∀ j : Int, j ≠ 3 → σ6 a0 j = σ a0 j; intro j hj0; exact ((ac_r e7 (by omega)).trans (ups_r e3 (by omega)))) (fun k j hk => ((ac_r e7 (by omega)).trans (ups_r e3 (by omega))))))
def as_G_X9_latestFeastOf : Int × Int → List Sv_t := fun a => [(15, a.1), (0, a.2)]
def pre_G_X9_latestFeastOf : Int × Int → Me_t → Prop := fun a σ => True
def post_G_X9_latestFeastOf : Int × Int → Me_t → Int → Me_t → Prop := fun a σ z σ' => (z = -1 ∨ (0 ≤ z ∧ z < σ a.1 3)) ∧ (σ = σ')
set_option maxHeartbeats 8000000 in
set_option maxRecDepth 100000 in
theorem ct_G_X9_latestFeastOf (l : Launch) : CT_ l yX9_latestFeastOf cX9_latestFeastOf 3 (some .int) 0 0 as_G_X9_latestFeastOf (rmI_) pre_G_X9_latestFeastOf post_G_X9_latestFeastOf := by
  refine ct_of (by decide) (fun _ => Nat.le_of_ble_eq_true rfl) ?_
  intro X G Q ad σ a hl hR E hG R hM hv hp
  obtain ⟨a0, a1⟩ := a
  have k_a0 : isWar_ a0 := tvWar_ (hv (15, a0) (List.mem_of_getElem? (i := 0) rfl))
  have r_a0 : 5 ≤ a0 ∧ a0 ≤ 67 := by unfold isWar_ at k_a0; omega
  have r_a1 : -2147483648 ≤ a1 ∧ a1 ≤ 2147483647 := hv (0, a1) (List.mem_of_getElem? (i := 1) rfl)
  have B := @bk_ X G Q 0 0 ad SHS_ RX9 cX9_latestFeastOf 3 (some .int) flX9 plX9 knX9 [] _ _ none kX9_latestFeastOf [7] flX9_ok plX9_ok knX9_ok eX9_latestFeastOf oX9_latestFeastOf
    (fun _ h => absurd h List.not_mem_nil) R sok_no E
  show WP_ X G Q 0 0 ad SHS_ σ 0 [(15, a0), (0, a1), (9, 0)] []
  refine B rfl ?_
  intro z1 ez1 hz1
  have hz1 : (0 : Int) ≤ z1 ∧ z1 ≤ (12 : Int) := hz1
  refine And.intro (by omega) ?_
  have lp_7 : ∀ (nq_ : Nat) (v2 : Int), (-1 ≤ v2) → (v2 < σ a0 3) → (σ a0 3 ≤ 12) → (v2 + 1 : Int).toNat < nq_ → WP_ X G Q 0 0 ad SHS_ σ 7 [(15, a0), (0, a1), (0, v2)] [] := by
    intro nq_
    induction nq_ with
    | zero => intros; omega
    | succ nq_ ih_7 =>
      intro v2 hi7_0 hi7_1 hi7_2 hm7
      refine B rfl ?_
      refine And.intro (fun h2 => ?_) (fun h2 => ?_)
      · skip
        refine B rfl ?_
        refine Exists.intro _ (And.intro rfl ?_)
        exact (And.intro (by show (-1) = -1 ∨ (0 ≤ (-1) ∧ (-1) < σ a0 3); omega) rfl)
      · skip
        refine And.intro (by omega) ?_
        refine And.intro (by omega) ?_
        intro z3 ez3 hz3
        have hz3 : (0 : Int) ≤ z3 ∧ z3 ≤ (59 : Int) := hz3
        refine And.intro (fun h4 => ?_) (fun h4 => ?_)
        · skip
          refine B rfl ?_
          refine And.intro (by omega) ?_
          exact ih_7 (v2 + (-1)) (by show -1 ≤ (v2 + (-1)); omega) (by show (v2 + (-1)) < σ a0 3; omega) (by show σ a0 3 ≤ 12; omega) (by omega)
        · skip
          refine Exists.intro _ (And.intro rfl ?_)
          exact (And.intro (by show v2 = -1 ∨ (0 ≤ v2 ∧ v2 < σ a0 3); omega) rfl)
  exact lp_7 (((z1 - 1) + 1 : Int).toNat + 1) (z1 - 1) (by show -1 ≤ (z1 - 1); omega) (by show (z1 - 1) < σ a0 3; omega) (by show σ a0 3 ≤ 12; omega) (by omega)
def as_G_X9_appendTruce : Int × Int × Int × Int → List Sv_t := fun a => [(15, a.1), (0, a.2.1), (0, a.2.2.1), (0, a.2.2.2)]
def pre_G_X9_appendTruce : Int × Int × Int × Int → Me_t → Prop := fun a σ => (σ a.1 4 ≤ 11) ∧ (0 ≤ a.2.1) ∧ (a.2.1 ≤ 1999) ∧ (0 ≤ a.2.2.1) ∧ (a.2.2.1 ≤ 1999) ∧ (0 ≤ a.2.2.2) ∧ (a.2.2.2 ≤ 1999)
def post_G_X9_appendTruce : Int × Int × Int × Int → Me_t → Int → Me_t → Prop := fun a σ z σ' => (σ' a.1 4 = σ a.1 4 + 1) ∧ (∀ j : Int, j ≠ 4 → σ' a.1 j = σ a.1 j) ∧ (∀ k j : Int, ¬ (k = a.1 ∨ k = a.1 + 3) → σ' k j = σ k j)
set_option maxHeartbeats 8000000 in
set_option maxRecDepth 100000 in
theorem ct_G_X9_appendTruce (l : Launch) : CT_ l yX9_appendTruce cX9_appendTruce 5 none 0 0 as_G_X9_appendTruce (rmV_) pre_G_X9_appendTruce post_G_X9_appendTruce := by
  refine ct_of (by decide) (fun _ => Nat.le_of_ble_eq_true rfl) ?_
  intro X G Q ad σ a hl hR E hG R hM hv hp
  obtain ⟨a0, a1, a2, a3⟩ := a
  have k_a0 : isWar_ a0 := tvWar_ (hv (15, a0) (List.mem_of_getElem? (i := 0) rfl))
  have r_a0 : 5 ≤ a0 ∧ a0 ≤ 67 := by unfold isWar_ at k_a0; omega
  have r_a1 : -2147483648 ≤ a1 ∧ a1 ≤ 2147483647 := hv (0, a1) (List.mem_of_getElem? (i := 1) rfl)
  have r_a2 : -2147483648 ≤ a2 ∧ a2 ≤ 2147483647 := hv (0, a2) (List.mem_of_getElem? (i := 2) rfl)
  have r_a3 : -2147483648 ≤ a3 ∧ a3 ≤ 2147483647 := hv (0, a3) (List.mem_of_getElem? (i := 3) rfl)
  have hp0 : σ a0 4 ≤ 11 := hp.1
  have hp1 : 0 ≤ a1 := hp.2.1
  have hp2 : a1 ≤ 1999 := hp.2.2.1
  have hp3 : 0 ≤ a2 := hp.2.2.2.1
  have hp4 : a2 ≤ 1999 := hp.2.2.2.2.1
  have hp5 : 0 ≤ a3 := hp.2.2.2.2.2.1
  have hp6 : a3 ≤ 1999 := hp.2.2.2.2.2.2
  have B := @bk_ X G Q 0 0 ad SHS_ RX9 cX9_appendTruce 5 none flX9 plX9 knX9 [] _ _ none kX9_appendTruce [] flX9_ok plX9_ok knX9_ok eX9_appendTruce oX9_appendTruce
    (fun _ h => absurd h List.not_mem_nil) R sok_no E
  show WP_ X G Q 0 0 ad SHS_ σ 0 [(15, a0), (0, a1), (0, a2), (0, a3), (9, 0)] []
  refine B rfl ?_
  intro z1 ez1 hz1
  have hz1 : (0 : Int) ≤ z1 ∧ z1 ≤ (12 : Int) := hz1
  refine And.intro (by omega) ?_
  refine And.intro (by omega) ?_
  refine And.intro (by show (0 : Int) ≤ _ ∧ _ ≤ (1999 : Int); omega) ?_
  intro σ2 e3
  refine And.intro (by omega) ?_
  refine And.intro (by omega) ?_
  refine And.intro (by show (0 : Int) ≤ _ ∧ _ ≤ (1999 : Int); omega) ?_
  intro σ4 e5
  refine And.intro (by omega) ?_
  refine And.intro (by omega) ?_
  refine And.intro (by show (0 : Int) ≤ _ ∧ _ ≤ (1999 : Int); omega) ?_
  intro σ6 e7
  intro z8 ez8 hz8
  have hz8 : (0 : Int) ≤ z8 ∧ z8 ≤ (12 : Int) := hz8
  try have t9 : σ6 a0 4 = σ a0 4 := ((ups_r e7 (by omega)).trans ((ups_r e5 (by omega)).trans (ups_r e3 (by omega))))
  refine And.intro (by omega) ?_
  refine And.intro (by omega) ?_
  intro σ10 e11
  refine Exists.intro 0 (And.intro rfl ?_)
  have t12 : σ10 a0 4 = z8 + 1 := ups_v e11
  exact (And.intro (by show σ10 a0 4 = σ a0 4 + 1; omega) (And.intro (by show ∀ j : Int, j ≠ 4 → σ10 a0 j = σ a0 j; intro j hj0; exact ((ups_r e11 (by omega)).trans ((ups_r e7 (by omega)).trans ((ups_r e5 (by omega)).trans (ups_r e3 (by omega)))))) (fun k j hk => ((ups_r e11 (by omega)).trans ((ups_r e7 (by omega)).trans ((ups_r e5 (by omega)).trans (ups_r e3 (by omega))))))))
def as_G_X9_trucesOn : Int × Int → List Sv_t := fun a => [(15, a.1), (0, a.2)]
def pre_G_X9_trucesOn : Int × Int → Me_t → Prop := fun a σ => True
def post_G_X9_trucesOn : Int × Int → Me_t → Int → Me_t → Prop := fun a σ z σ' => (0 ≤ z ∧ z ≤ 12) ∧ (σ = σ')
set_option maxHeartbeats 8000000 in
set_option maxRecDepth 100000 in
theorem ct_G_X9_trucesOn (l : Launch) : CT_ l yX9_trucesOn cX9_trucesOn 5 (some .int) 0 0 as_G_X9_trucesOn (rmI_) pre_G_X9_trucesOn post_G_X9_trucesOn := by
  refine ct_of (by decide) (fun _ => Nat.le_of_ble_eq_true rfl) ?_
  intro X G Q ad σ a hl hR E hG R hM hv hp
  obtain ⟨a0, a1⟩ := a
  have k_a0 : isWar_ a0 := tvWar_ (hv (15, a0) (List.mem_of_getElem? (i := 0) rfl))
  have r_a0 : 5 ≤ a0 ∧ a0 ≤ 67 := by unfold isWar_ at k_a0; omega
  have r_a1 : -2147483648 ≤ a1 ∧ a1 ≤ 2147483647 := hv (0, a1) (List.mem_of_getElem? (i := 1) rfl)
  have B := @bk_ X G Q 0 0 ad SHS_ RX9 cX9_trucesOn 5 (some .int) flX9 plX9 knX9 [] _ _ none kX9_trucesOn [4] flX9_ok plX9_ok knX9_ok eX9_trucesOn oX9_trucesOn
    (fun _ h => absurd h List.not_mem_nil) R sok_no E
  show WP_ X G Q 0 0 ad SHS_ σ 0 [(15, a0), (0, a1), (9, 0), (9, 0), (9, 0)] []
  refine B rfl ?_
  have lp_4 : ∀ (nq_ : Nat) (v2 : Int) (v3 : Int), (0 ≤ v3) → (v3 ≤ 12) → (0 ≤ v2) → (v2 ≤ v3) → (12 - v3 : Int).toNat < nq_ → WP_ X G Q 0 0 ad SHS_ σ 4 [(15, a0), (0, a1), (0, v2), (0, v3), (9, 0)] [] := by
    intro nq_
    induction nq_ with
    | zero => intros; omega
    | succ nq_ ih_4 =>
      intro v2 v3 hi4_0 hi4_1 hi4_2 hi4_3 hm4
      refine B rfl ?_
      intro z1 ez1 hz1
      have hz1 : (0 : Int) ≤ z1 ∧ z1 ≤ (12 : Int) := hz1
      refine And.intro (fun h2 => ?_) (fun h2 => ?_)
      · skip
        refine B rfl ?_
        refine Exists.intro _ (And.intro rfl ?_)
        exact (And.intro (by show 0 ≤ v2 ∧ v2 ≤ 12; omega) rfl)
      · skip
        refine And.intro (by omega) ?_
        refine And.intro (by omega) ?_
        refine And.intro (by omega) ?_
        intro z3 ez3 hz3
        have hz3 : (0 : Int) ≤ z3 ∧ z3 ≤ (1999 : Int) := hz3
        refine And.intro (fun h4 => ?_) (fun h4 => ?_)
        · skip
          refine B rfl ?_
          refine And.intro (by omega) ?_
          refine wdrop_ (L' := [(15, a0), (0, a1), (0, v2), (0, v3 + 1), (9, 0)]) ⟨Or.inr rfl, ⟨Or.inr rfl, ⟨Or.inr rfl, ⟨Or.inr rfl, ⟨Or.inl rfl, trivial⟩⟩⟩⟩⟩ ?_
          exact ih_4 v2 (v3 + 1) (by show 0 ≤ (v3 + 1); omega) (by show (v3 + 1) ≤ 12; omega) (by show 0 ≤ v2; omega) (by show v2 ≤ (v3 + 1); omega) (by omega)
        · skip
          refine And.intro (by omega) ?_
          refine And.intro (by omega) ?_
          intro z5 ez5 hz5
          have hz5 : (0 : Int) ≤ z5 ∧ z5 ≤ (1999 : Int) := hz5
          refine And.intro (fun h6 => ?_) (fun h6 => ?_)
          · skip
            refine B rfl ?_
            refine And.intro (by omega) ?_
            refine wdrop_ (L' := [(15, a0), (0, a1), (0, v2), (0, v3 + 1), (9, 0)]) ⟨Or.inr rfl, ⟨Or.inr rfl, ⟨Or.inr rfl, ⟨Or.inr rfl, ⟨Or.inl rfl, trivial⟩⟩⟩⟩⟩ ?_
            exact ih_4 v2 (v3 + 1) (by show 0 ≤ (v3 + 1); omega) (by show (v3 + 1) ≤ 12; omega) (by show 0 ≤ v2; omega) (by show v2 ≤ (v3 + 1); omega) (by omega)
          · skip
            refine And.intro (by omega) ?_
            refine And.intro (by omega) ?_
            refine wdrop_ (L' := [(15, a0), (0, a1), (0, v2 + 1), (0, v3 + 1), (9, 0)]) ⟨Or.inr rfl, ⟨Or.inr rfl, ⟨Or.inr rfl, ⟨Or.inr rfl, ⟨Or.inl rfl, trivial⟩⟩⟩⟩⟩ ?_
            exact ih_4 (v2 + 1) (v3 + 1) (by show 0 ≤ (v3 + 1); omega) (by show (v3 + 1) ≤ 12; omega) (by show 0 ≤ (v2 + 1); omega) (by show (v2 + 1) ≤ (v3 + 1); omega) (by omega)
  exact lp_4 ((12 - 0 : Int).toNat + 1) 0 0 (by show 0 ≤ 0; omega) (by show 0 ≤ 12; omega) (by show 0 ≤ 0; omega) (by show 0 ≤ 0; omega) (by omega)
def as_G_X9_noteChange : Int × Int × Int → List Sv_t := fun a => [(15, a.1), (0, a.2.1), (0, a.2.2)]
def pre_G_X9_noteChange : Int × Int × Int → Me_t → Prop := fun a σ => (σ a.1 5 ≤ 59) ∧ (0 ≤ a.2.1) ∧ (a.2.1 ≤ 59) ∧ (0 ≤ a.2.2) ∧ (a.2.2 ≤ 59)
def post_G_X9_noteChange : Int × Int × Int → Me_t → Int → Me_t → Prop := fun a σ z σ' => (σ' a.1 5 = σ a.1 5 + 1) ∧ (σ' (a.1 + 4) (σ a.1 5 * 6) = a.2.1) ∧ (σ' (a.1 + 4) (σ a.1 5 * 6 + 1) = a.2.2) ∧ (∀ j : Int, j ≠ 5 → σ' a.1 j = σ a.1 j) ∧ (∀ j : Int, j < σ a.1 5 * 6 → σ' (a.1 + 4) j = σ (a.1 + 4) j) ∧ (∀ k j : Int, ¬ (k = a.1 ∨ k = a.1 + 4) → σ' k j = σ k j)
set_option maxHeartbeats 8000000 in
set_option maxRecDepth 100000 in
theorem ct_G_X9_noteChange (l : Launch) : CT_ l yX9_noteChange cX9_noteChange 3 none 0 0 as_G_X9_noteChange (rmV_) pre_G_X9_noteChange post_G_X9_noteChange := by
  refine ct_of (by decide) (fun _ => Nat.le_of_ble_eq_true rfl) ?_
  intro X G Q ad σ a hl hR E hG R hM hv hp
  obtain ⟨a0, a1, a2⟩ := a
  have k_a0 : isWar_ a0 := tvWar_ (hv (15, a0) (List.mem_of_getElem? (i := 0) rfl))
  have r_a0 : 5 ≤ a0 ∧ a0 ≤ 67 := by unfold isWar_ at k_a0; omega
  have r_a1 : -2147483648 ≤ a1 ∧ a1 ≤ 2147483647 := hv (0, a1) (List.mem_of_getElem? (i := 1) rfl)
  have r_a2 : -2147483648 ≤ a2 ∧ a2 ≤ 2147483647 := hv (0, a2) (List.mem_of_getElem? (i := 2) rfl)
  have hp0 : σ a0 5 ≤ 59 := hp.1
  have hp1 : 0 ≤ a1 := hp.2.1
  have hp2 : a1 ≤ 59 := hp.2.2.1
  have hp3 : 0 ≤ a2 := hp.2.2.2.1
  have hp4 : a2 ≤ 59 := hp.2.2.2.2
  have B := @bk_ X G Q 0 0 ad SHS_ RX9 cX9_noteChange 3 none flX9 plX9 knX9 [] _ _ none kX9_noteChange [] flX9_ok plX9_ok knX9_ok eX9_noteChange oX9_noteChange
    (fun _ h => absurd h List.not_mem_nil) R sok_no E
  show WP_ X G Q 0 0 ad SHS_ σ 0 [(15, a0), (0, a1), (0, a2)] []
  refine B rfl ?_
  intro z1 ez1 hz1
  have hz1 : (0 : Int) ≤ z1 ∧ z1 ≤ (60 : Int) := hz1
  refine And.intro (by omega) ?_
  refine And.intro (by omega) ?_
  refine And.intro (by show (0 : Int) ≤ _ ∧ _ ≤ (59 : Int); omega) ?_
  intro σ2 e3
  intro z4 ez4 hz4
  have hz4 : (0 : Int) ≤ z4 ∧ z4 ≤ (60 : Int) := hz4
  try have t5 : σ2 a0 5 = σ a0 5 := (ups_r e3 (by omega))
  refine And.intro (by omega) ?_
  refine And.intro (by omega) ?_
  refine And.intro (by omega) ?_
  refine And.intro (by show (0 : Int) ≤ _ ∧ _ ≤ (59 : Int); omega) ?_
  intro σ6 e7
  intro z8 ez8 hz8
  have hz8 : (0 : Int) ≤ z8 ∧ z8 ≤ (60 : Int) := hz8
  try have t9 : σ6 a0 5 = σ2 a0 5 := (ups_r e7 (by omega))
  refine And.intro (by omega) ?_
  refine And.intro (by omega) ?_
  intro σ10 e11
  refine Exists.intro 0 (And.intro rfl ?_)
  have t12 : σ10 a0 5 = z8 + 1 := ups_v e11
  try have t13 : σ10 (a0 + 4) (σ a0 5 * 6) = σ (a0 + 4) (σ a0 5 * 6) := ((ups_r e11 (by omega)).trans ((ups_r e7 (by omega)).trans (ups_r e3 (by omega))))
  try have t14 : σ10 (a0 + 4) (σ a0 5 * 6 + 1) = σ (a0 + 4) (σ a0 5 * 6 + 1) := ((ups_r e11 (by omega)).trans ((ups_r e7 (by omega)).trans (ups_r e3 (by omega))))
  exact (And.intro (by show σ10 a0 5 = σ a0 5 + 1; omega) (And.intro (by show σ10 (a0 + 4) (σ a0 5 * 6) = a1; rw [show σ a0 5 * 6 = (z1 * 6) by omega]; exact (((ups_r e11 (by omega)).trans (ups_r e7 (by omega)))).trans (ups_v e3)) (And.intro (by show σ10 (a0 + 4) (σ a0 5 * 6 + 1) = a2; rw [show σ a0 5 * 6 + 1 = ((z4 * 6) + 1) by omega]; exact ((ups_r e11 (by omega))).trans (ups_v e7)) (And.intro (by show ∀ j : Int, j ≠ 5 → σ10 a0 j = σ a0 j; intro j hj0; exact ((ups_r e11 (by omega)).trans ((ups_r e7 (by omega)).trans (ups_r e3 (by omega))))) (And.intro (by show ∀ j : Int, j < σ a0 5 * 6 → σ10 (a0 + 4) j = σ (a0 + 4) j; intro j hj0; exact ((ups_r e11 (by omega)).trans ((ups_r e7 (by omega)).trans (ups_r e3 (by omega))))) (fun k j hk => ((ups_r e11 (by omega)).trans ((ups_r e7 (by omega)).trans (ups_r e3 (by omega))))))))))
def as_G_X9_noteFounded : Int → List Sv_t := fun a => [(15, a)]
def pre_G_X9_noteFounded : Int → Me_t → Prop := fun a σ => (σ a 5 ≤ 59) ∧ (1 ≤ σ a 3)
def post_G_X9_noteFounded : Int → Me_t → Int → Me_t → Prop := fun a σ z σ' => (σ' a 5 = σ a 5 + 1) ∧ (σ' (a + 4) (σ a 5 * 6) = 1) ∧ (σ' (a + 4) (σ a 5 * 6 + 1) = σ a 3 - 1) ∧ (∀ j : Int, j ≠ 5 → σ' a j = σ a j) ∧ (∀ j : Int, j < σ a 5 * 6 → σ' (a + 4) j = σ (a + 4) j) ∧ (∀ k j : Int, ¬ (k = a ∨ k = a + 4) → σ' k j = σ k j)
set_option maxHeartbeats 8000000 in
set_option maxRecDepth 100000 in
theorem ct_G_X9_noteFounded (l : Launch) : CT_ l yX9_noteFounded cX9_noteFounded 1 none 1 22 as_G_X9_noteFounded (rmV_) pre_G_X9_noteFounded post_G_X9_noteFounded := by
  refine ct_of (by decide) (fun _ => Nat.le_of_ble_eq_true rfl) ?_
  intro X G Q ad σ a hl hR E hG R hM hv hp
  obtain ⟨a0, rfl⟩ : ∃ q : Int, q = a := ⟨_, rfl⟩
  have k_a0 : isWar_ a0 := tvWar_ (hv (15, a0) (List.mem_of_getElem? (i := 0) rfl))
  have r_a0 : 5 ≤ a0 ∧ a0 ≤ 67 := by unfold isWar_ at k_a0; omega
  have hp0 : σ a0 5 ≤ 59 := hp.1
  have hp1 : 1 ≤ σ a0 3 := hp.2
  have B := @bk_ X G Q 0 0 ad SHS_ RX9 cX9_noteFounded 1 none flX9 plX9 knX9 [(170, 3, TR_ as_G_X9_noteChange (rmV_) pre_G_X9_noteChange post_G_X9_noteChange)] _ _ none kX9_noteFounded [] flX9_ok plX9_ok knX9_ok eX9_noteFounded oX9_noteFounded
    (List.forall_mem_cons.mpr ⟨cok_v (t := 5) (c := 9) (N := 10) (n := 2) (idx := 85) E (ct_G_X9_noteChange X.2.1) (by rw [hR]; decide) (Nat.zero_le _) (Nat.zero_le _) hG rfl rfl ⟨rfl, by decide, by decide, by decide⟩ (fun _ => ⟨_, _, rfl, rfl⟩) wl_X9_85 wi_X9_noteChange ws_X9_noteChange wn_X9 wc_X9_noteChange, fun _ h => absurd h List.not_mem_nil⟩) R sok_no E
  show WP_ X G Q 0 0 ad SHS_ σ 0 [(15, a0)] []
  refine B rfl ?_
  intro z1 ez1 hz1
  have hz1 : (0 : Int) ≤ z1 ∧ z1 ≤ (12 : Int) := hz1
  refine And.intro (by omega) ?_
  refine Exists.intro (a0, 1, z1 - 1) (And.intro rfl (And.intro (And.intro (by show σ a0 5 ≤ 59; omega) (And.intro (by show 0 ≤ 1; omega) (And.intro (by show 1 ≤ 59; omega) (And.intro (by show 0 ≤ (z1 - 1); omega) (by show (z1 - 1) ≤ 59; omega))))) ?_))
  intro z2 σ4 h3
  have f5 : ∀ k j : Int, ¬ (k = a0 ∨ k = a0 + 4) → σ4 k j = σ k j := h3.2.2.2.2.2
  have h6 : σ4 a0 5 = σ a0 5 + 1 := h3.1
  have h7 : σ4 (a0 + 4) (σ a0 5 * 6) = 1 := h3.2.1
  have h8 : σ4 (a0 + 4) (σ a0 5 * 6 + 1) = (z1 - 1) := h3.2.2.1
  have h9 : ∀ j : Int, j ≠ 5 → σ4 a0 j = σ a0 j := h3.2.2.2.1
  have h10 : ∀ j : Int, j < σ a0 5 * 6 → σ4 (a0 + 4) j = σ (a0 + 4) j := h3.2.2.2.2.1
  refine Exists.intro 0 (And.intro rfl ?_)
  exact (And.intro (by show σ4 a0 5 = σ a0 5 + 1; omega) (And.intro (by show σ4 (a0 + 4) (σ a0 5 * 6) = 1; omega) (And.intro (by show σ4 (a0 + 4) (σ a0 5 * 6 + 1) = σ a0 3 - 1; omega) (And.intro (by show ∀ j : Int, j ≠ 5 → σ4 a0 j = σ a0 j; intro j hj0; exact (show σ4 a0 j = σ a0 j from by first | exact f5 _ _ (by omega) | exact h9 _ (by omega) | exact h10 _ (by omega))) (And.intro (by show ∀ j : Int, j < σ a0 5 * 6 → σ4 (a0 + 4) j = σ (a0 + 4) j; intro j hj0; exact (show σ4 (a0 + 4) j = σ (a0 + 4) j from by first | exact f5 _ _ (by omega) | exact h9 _ (by omega) | exact h10 _ (by omega))) (fun k j hk => (show σ4 k j = σ k j from by first | exact f5 _ _ (by omega) | exact h9 _ (by omega) | exact h10 _ (by omega))))))))
def as_G_X9_noteGranted : Int → List Sv_t := fun a => [(15, a)]
def pre_G_X9_noteGranted : Int → Me_t → Prop := fun a σ => (σ a 5 ≤ 59) ∧ (1 ≤ σ a 4)
def post_G_X9_noteGranted : Int → Me_t → Int → Me_t → Prop := fun a σ z σ' => (σ' a 5 = σ a 5 + 1) ∧ (σ' (a + 4) (σ a 5 * 6) = 2) ∧ (σ' (a + 4) (σ a 5 * 6 + 1) = σ a 4 - 1) ∧ (∀ j : Int, j ≠ 5 → σ' a j = σ a j) ∧ (∀ j : Int, j < σ a 5 * 6 → σ' (a + 4) j = σ (a + 4) j) ∧ (∀ k j : Int, ¬ (k = a ∨ k = a + 4) → σ' k j = σ k j)
set_option maxHeartbeats 8000000 in
set_option maxRecDepth 100000 in
theorem ct_G_X9_noteGranted (l : Launch) : CT_ l yX9_noteGranted cX9_noteGranted 1 none 1 22 as_G_X9_noteGranted (rmV_) pre_G_X9_noteGranted post_G_X9_noteGranted := by
  refine ct_of (by decide) (fun _ => Nat.le_of_ble_eq_true rfl) ?_
  intro X G Q ad σ a hl hR E hG R hM hv hp
  obtain ⟨a0, rfl⟩ : ∃ q : Int, q = a := ⟨_, rfl⟩
  have k_a0 : isWar_ a0 := tvWar_ (hv (15, a0) (List.mem_of_getElem? (i := 0) rfl))
  have r_a0 : 5 ≤ a0 ∧ a0 ≤ 67 := by unfold isWar_ at k_a0; omega
  have hp0 : σ a0 5 ≤ 59 := hp.1
  have hp1 : 1 ≤ σ a0 4 := hp.2
  have B := @bk_ X G Q 0 0 ad SHS_ RX9 cX9_noteGranted 1 none flX9 plX9 knX9 [(170, 3, TR_ as_G_X9_noteChange (rmV_) pre_G_X9_noteChange post_G_X9_noteChange)] _ _ none kX9_noteGranted [] flX9_ok plX9_ok knX9_ok eX9_noteGranted oX9_noteGranted
    (List.forall_mem_cons.mpr ⟨cok_v (t := 5) (c := 9) (N := 10) (n := 2) (idx := 85) E (ct_G_X9_noteChange X.2.1) (by rw [hR]; decide) (Nat.zero_le _) (Nat.zero_le _) hG rfl rfl ⟨rfl, by decide, by decide, by decide⟩ (fun _ => ⟨_, _, rfl, rfl⟩) wl_X9_85 wi_X9_noteChange ws_X9_noteChange wn_X9 wc_X9_noteChange, fun _ h => absurd h List.not_mem_nil⟩) R sok_no E
  show WP_ X G Q 0 0 ad SHS_ σ 0 [(15, a0)] []
  refine B rfl ?_
  intro z1 ez1 hz1
  have hz1 : (0 : Int) ≤ z1 ∧ z1 ≤ (12 : Int) := hz1
  refine And.intro (by omega) ?_
  refine Exists.intro (a0, 2, z1 - 1) (And.intro rfl (And.intro (And.intro (by show σ a0 5 ≤ 59; omega) (And.intro (by show 0 ≤ 2; omega) (And.intro (by show 2 ≤ 59; omega) (And.intro (by show 0 ≤ (z1 - 1); omega) (by show (z1 - 1) ≤ 59; omega))))) ?_))
  intro z2 σ4 h3
  have f5 : ∀ k j : Int, ¬ (k = a0 ∨ k = a0 + 4) → σ4 k j = σ k j := h3.2.2.2.2.2
  have h6 : σ4 a0 5 = σ a0 5 + 1 := h3.1
  have h7 : σ4 (a0 + 4) (σ a0 5 * 6) = 2 := h3.2.1
  have h8 : σ4 (a0 + 4) (σ a0 5 * 6 + 1) = (z1 - 1) := h3.2.2.1
  have h9 : ∀ j : Int, j ≠ 5 → σ4 a0 j = σ a0 j := h3.2.2.2.1
  have h10 : ∀ j : Int, j < σ a0 5 * 6 → σ4 (a0 + 4) j = σ (a0 + 4) j := h3.2.2.2.2.1
  refine Exists.intro 0 (And.intro rfl ?_)
  exact (And.intro (by show σ4 a0 5 = σ a0 5 + 1; omega) (And.intro (by show σ4 (a0 + 4) (σ a0 5 * 6) = 2; omega) (And.intro (by show σ4 (a0 + 4) (σ a0 5 * 6 + 1) = σ a0 4 - 1; omega) (And.intro (by show ∀ j : Int, j ≠ 5 → σ4 a0 j = σ a0 j; intro j hj0; exact (show σ4 a0 j = σ a0 j from by first | exact f5 _ _ (by omega) | exact h9 _ (by omega) | exact h10 _ (by omega))) (And.intro (by show ∀ j : Int, j < σ a0 5 * 6 → σ4 (a0 + 4) j = σ (a0 + 4) j; intro j hj0; exact (show σ4 (a0 + 4) j = σ (a0 + 4) j from by first | exact f5 _ _ (by omega) | exact h9 _ (by omega) | exact h10 _ (by omega))) (fun k j hk => (show σ4 k j = σ k j from by first | exact f5 _ _ (by omega) | exact h9 _ (by omega) | exact h10 _ (by omega))))))))
def as_G_X9_noteEnded : Int × Int → List Sv_t := fun a => [(15, a.1), (0, a.2)]
def pre_G_X9_noteEnded : Int × Int → Me_t → Prop := fun a σ => (σ a.1 5 ≤ 59) ∧ (0 ≤ a.2) ∧ (a.2 ≤ 11)
def post_G_X9_noteEnded : Int × Int → Me_t → Int → Me_t → Prop := fun a σ z σ' => (σ' a.1 5 = σ a.1 5 + 1) ∧ (σ' (a.1 + 4) (σ a.1 5 * 6) = 3) ∧ (σ' (a.1 + 4) (σ a.1 5 * 6 + 1) = a.2) ∧ (∀ j : Int, j ≠ 5 → σ' a.1 j = σ a.1 j) ∧ (∀ j : Int, j < σ a.1 5 * 6 → σ' (a.1 + 4) j = σ (a.1 + 4) j) ∧ (∀ k j : Int, ¬ (k = a.1 ∨ k = a.1 + 4) → σ' k j = σ k j)
set_option maxHeartbeats 8000000 in
set_option maxRecDepth 100000 in
theorem ct_G_X9_noteEnded (l : Launch) : CT_ l yX9_noteEnded cX9_noteEnded 2 none 1 40 as_G_X9_noteEnded (rmV_) pre_G_X9_noteEnded post_G_X9_noteEnded := by
  refine ct_of (by decide) (fun _ => Nat.le_of_ble_eq_true rfl) ?_
  intro X G Q ad σ a hl hR E hG R hM hv hp
  obtain ⟨a0, a1⟩ := a
  have k_a0 : isWar_ a0 := tvWar_ (hv (15, a0) (List.mem_of_getElem? (i := 0) rfl))
  have r_a0 : 5 ≤ a0 ∧ a0 ≤ 67 := by unfold isWar_ at k_a0; omega
  have r_a1 : -2147483648 ≤ a1 ∧ a1 ≤ 2147483647 := hv (0, a1) (List.mem_of_getElem? (i := 1) rfl)
  have hp0 : σ a0 5 ≤ 59 := hp.1
  have hp1 : 0 ≤ a1 := hp.2.1
  have hp2 : a1 ≤ 11 := hp.2.2
  have B := @bk_ X G Q 0 0 ad SHS_ RX9 cX9_noteEnded 2 none flX9 plX9 knX9 [(170, 3, TR_ as_G_X9_noteChange (rmV_) pre_G_X9_noteChange post_G_X9_noteChange), (103, 5, TAC_)] _ _ none kX9_noteEnded [] flX9_ok plX9_ok knX9_ok eX9_noteEnded oX9_noteEnded
    (List.forall_mem_cons.mpr ⟨cok_v (t := 5) (c := 9) (N := 10) (n := 2) (idx := 85) E (ct_G_X9_noteChange X.2.1) (by rw [hR]; decide) (Nat.zero_le _) (Nat.zero_le _) hG rfl rfl ⟨rfl, by decide, by decide, by decide⟩ (fun _ => ⟨_, _, rfl, rfl⟩) wl_X9_85 wi_X9_noteChange ws_X9_noteChange wn_X9 wc_X9_noteChange, List.forall_mem_cons.mpr ⟨cok_ac (idx := 51) E (by rw [hR]; decide) wa_X9_51, fun _ h => absurd h List.not_mem_nil⟩⟩) R sok_no E
  show WP_ X G Q 0 0 ad SHS_ σ 0 [(15, a0), (0, a1)] []
  refine B rfl ?_
  refine And.intro (by omega) ?_
  intro z1 ez1 hz1
  have hz1 : (0 : Int) ≤ z1 ∧ z1 ≤ (60 : Int) := hz1
  refine And.intro (by omega) ?_
  refine And.intro (by omega) ?_
  refine Exists.intro 7 (Exists.intro 9 (Exists.intro 1 (Exists.intro 0 (Exists.intro 0 (Exists.intro 48 (Exists.intro 360 (Exists.intro (a0 + 2) (Exists.intro (a0 + 4) (Exists.intro (a1 * 4) (Exists.intro ((z1 * 6) + 2) (Exists.intro 4 (And.intro rfl (And.intro rfl (And.intro rfl (And.intro rfl (And.intro (by decide) (And.intro (by omega) ?_)))))))))))))))))
  intro σ2 e3
  try have t4 : σ2 a0 5 = σ a0 5 := (ac_r e3 (by omega))
  refine Exists.intro (a0, 3, a1) (And.intro rfl (And.intro (And.intro (by show σ2 a0 5 ≤ 59; omega) (And.intro (by show 0 ≤ 3; omega) (And.intro (by show 3 ≤ 59; omega) (And.intro (by show 0 ≤ a1; omega) (by show a1 ≤ 59; omega))))) ?_))
  intro z5 σ7 h6
  have f8 : ∀ k j : Int, ¬ (k = a0 ∨ k = a0 + 4) → σ7 k j = σ2 k j := h6.2.2.2.2.2
  have h9 : σ7 a0 5 = σ2 a0 5 + 1 := h6.1
  have h10 : σ7 (a0 + 4) (σ2 a0 5 * 6) = 3 := h6.2.1
  have h11 : σ7 (a0 + 4) (σ2 a0 5 * 6 + 1) = a1 := h6.2.2.1
  have h12 : ∀ j : Int, j ≠ 5 → σ7 a0 j = σ2 a0 j := h6.2.2.2.1
  have h13 : ∀ j : Int, j < σ2 a0 5 * 6 → σ7 (a0 + 4) j = σ2 (a0 + 4) j := h6.2.2.2.2.1
  refine Exists.intro 0 (And.intro rfl ?_)
  try have t14 : σ7 (a0 + 4) (σ a0 5 * 6) = σ (a0 + 4) (σ a0 5 * 6) := ((show σ7 (a0 + 4) (σ a0 5 * 6) = σ2 (a0 + 4) (σ a0 5 * 6) from by first | exact f8 _ _ (by omega) | exact h12 _ (by omega) | exact h13 _ (by omega)).trans (ac_r e3 (by omega)))
  try have t15 : σ7 (a0 + 4) (σ a0 5 * 6 + 1) = σ (a0 + 4) (σ a0 5 * 6 + 1) := ((show σ7 (a0 + 4) (σ a0 5 * 6 + 1) = σ2 (a0 + 4) (σ a0 5 * 6 + 1) from by first | exact f8 _ _ (by omega) | exact h12 _ (by omega) | exact h13 _ (by omega)).trans (ac_r e3 (by omega)))
  exact (And.intro (by show σ7 a0 5 = σ a0 5 + 1; omega) (And.intro (by show σ7 (a0 + 4) (σ a0 5 * 6) = 3; rw [show σ a0 5 = σ2 a0 5 by omega]; omega) (And.intro (by show σ7 (a0 + 4) (σ a0 5 * 6 + 1) = a1; rw [show σ a0 5 = σ2 a0 5 by omega]; omega) (And.intro (by show ∀ j : Int, j ≠ 5 → σ7 a0 j = σ a0 j; intro j hj0; exact ((show σ7 a0 j = σ2 a0 j from by first | exact f8 _ _ (by omega) | exact h12 _ (by omega) | exact h13 _ (by omega)).trans (ac_r e3 (by omega)))) (And.intro (by show ∀ j : Int, j < σ a0 5 * 6 → σ7 (a0 + 4) j = σ (a0 + 4) j; intro j hj0; exact ((show σ7 (a0 + 4) j = σ2 (a0 + 4) j from by first | exact f8 _ _ (by omega) | exact h12 _ (by omega) | exact h13 _ (by omega)).trans (ac_r e3 (by omega)))) (fun k j hk => ((show σ7 k j = σ2 k j from by first | exact f8 _ _ (by omega) | exact h12 _ (by omega) | exact h13 _ (by omega)).trans (ac_r e3 (by omega)))))))))
