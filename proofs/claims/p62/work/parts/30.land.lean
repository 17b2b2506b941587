def as_G_X1_clear : Int → List Sv_t := fun a => [(20, a)]
def pre_G_X1_clear : Int → Me_t → Prop := fun a σ => True
def post_G_X1_clear : Int → Me_t → Int → Me_t → Prop := fun a σ z σ' => (σ' a 3 = 0) ∧ (σ' a 4 = 0) ∧ (σ' a 5 = -1) ∧ (σ' a 6 = 0) ∧ (σ' a 7 = 0) ∧ (∀ k j : Int, ¬ (k = a) → σ' k j = σ k j)
set_option maxHeartbeats 8000000 in
set_option maxRecDepth 100000 in
theorem ct_G_X1_clear (l : Launch) : CT_ l yX1_clear cX1_clear 1 none 0 0 as_G_X1_clear (rmV_) pre_G_X1_clear post_G_X1_clear := by
  refine ct_of (by decide) (fun _ => Nat.le_of_ble_eq_true rfl) ?_
  intro X G Q ad σ a hl hR E hG R hM hv hp
  obtain ⟨a0, rfl⟩ : ∃ q : Int, q = a := ⟨_, rfl⟩
  have k_a0 : isLand_ a0 := tvLand_ (hv (20, a0) (List.mem_of_getElem? (i := 0) rfl))
  have r_a0 : 10 ≤ a0 ∧ a0 ≤ 76 := by unfold isLand_ at k_a0; omega
  have B := @bk_ X G Q 0 0 ad SHS_ RX1 cX1_clear 1 none flX1 plX1 knX1 [] _ _ none kX1_clear [] flX1_ok plX1_ok knX1_ok eX1_clear oX1_clear
    (fun _ h => absurd h List.not_mem_nil) R sok_no E
  show WP_ X G Q 0 0 ad SHS_ σ 0 [(20, a0)] []
  refine B rfl ?_
  refine And.intro (by omega) ?_
  intro σ1 e2
  refine And.intro (by omega) ?_
  intro σ3 e4
  refine And.intro (by omega) ?_
  intro σ5 e6
  refine And.intro (by omega) ?_
  intro σ7 e8
  refine And.intro (by omega) ?_
  intro σ9 e10
  refine Exists.intro 0 (And.intro rfl ?_)
  have t11 : σ9 a0 3 = 0 := (((ups_r e10 (by omega)).trans ((ups_r e8 (by omega)).trans ((ups_r e6 (by omega)).trans (ups_r e4 (by omega)))))).trans (ups_v e2)
  have t12 : σ9 a0 4 = 0 := (((ups_r e10 (by omega)).trans (ups_r e8 (by omega)))).trans (ups_v e6)
  have t13 : σ9 a0 5 = (-1) := ((ups_r e10 (by omega))).trans (ups_v e8)
  have t14 : σ9 a0 6 = 0 := ups_v e10
  have t15 : σ9 a0 7 = 0 := (((ups_r e10 (by omega)).trans ((ups_r e8 (by omega)).trans (ups_r e6 (by omega))))).trans (ups_v e4)
  exact (And.intro (by show σ9 a0 3 = 0; omega) (And.intro (by show σ9 a0 4 = 0; omega) (And.intro (by show σ9 a0 5 = -1; omega) (And.intro (by show σ9 a0 6 = 0; omega) (And.intro (by show σ9 a0 7 = 0; omega) (fun k j hk => ((ups_r e10 (by omega)).trans ((ups_r e8 (by omega)).trans ((ups_r e6 (by omega)).trans ((ups_r e4 (by omega)).trans (ups_r e2 (by omega))))))))))))
def as_G_X1_copyOf : Int × Int → List Sv_t := fun a => [(20, a.1), (20, a.2)]
def pre_G_X1_copyOf : Int × Int → Me_t → Prop := fun a σ => (a.1 + 1 < a.2 ∨ a.2 + 1 < a.1)
def post_G_X1_copyOf : Int × Int → Me_t → Int → Me_t → Prop := fun a σ z σ' => (σ' a.1 1 = σ a.2 1) ∧ (σ' a.1 3 = σ a.2 3) ∧ (∀ k j : Int, ¬ (k = a.1 ∨ k = a.1 + 1) → σ' k j = σ k j)
set_option maxHeartbeats 8000000 in
set_option maxRecDepth 100000 in
theorem ct_G_X1_copyOf (l : Launch) : CT_ l yX1_copyOf cX1_copyOf 2 none 1 40 as_G_X1_copyOf (rmV_) pre_G_X1_copyOf post_G_X1_copyOf := by
  refine ct_of (by decide) (fun _ => Nat.le_of_ble_eq_true rfl) ?_
  intro X G Q ad σ a hl hR E hG R hM hv hp
  obtain ⟨a0, a1⟩ := a
  have k_a0 : isLand_ a0 := tvLand_ (hv (20, a0) (List.mem_of_getElem? (i := 0) rfl))
  have r_a0 : 10 ≤ a0 ∧ a0 ≤ 76 := by unfold isLand_ at k_a0; omega
  have k_a1 : isLand_ a1 := tvLand_ (hv (20, a1) (List.mem_of_getElem? (i := 1) rfl))
  have r_a1 : 10 ≤ a1 ∧ a1 ≤ 76 := by unfold isLand_ at k_a1; omega
  have hp0 : a0 + 1 < a1 ∨ a1 + 1 < a0 := hp
  have B := @bk_ X G Q 0 0 ad SHS_ RX1 cX1_copyOf 2 none flX1 plX1 knX1 [(81, 5, TAC_)] _ _ none kX1_copyOf [] flX1_ok plX1_ok knX1_ok eX1_copyOf oX1_copyOf
    (List.forall_mem_cons.mpr ⟨cok_ac (idx := 40) E (by rw [hR]; decide) wa_X1_40, fun _ h => absurd h List.not_mem_nil⟩) R sok_no E
  show WP_ X G Q 0 0 ad SHS_ σ 0 [(20, a0), (20, a1)] []
  refine B rfl ?_
  intro z1 ez1 hz1
  have hz1 : (0 : Int) ≤ z1 ∧ z1 ≤ (999 : Int) := hz1
  refine And.intro (by omega) ?_
  intro σ2 e3
  intro z4 ez4 hz4
  have hz4 : (0 : Int) ≤ z4 ∧ z4 ≤ (10 : Int) := hz4
  try have t5 : σ2 a1 1 = σ a1 1 := (ups_r e3 (by omega))
  refine And.intro (by omega) ?_
  intro σ6 e7
  intro z8 ez8 hz8
  have hz8 : (0 : Int) ≤ z8 ∧ z8 ≤ (1022 : Int) := hz8
  try have t9 : σ6 a1 2 = σ a1 2 := ((ups_r e7 (by omega)).trans (ups_r e3 (by omega)))
  refine And.intro (by omega) ?_
  intro σ10 e11
  intro z12 ez12 hz12
  have hz12 : (0 : Int) ≤ z12 ∧ z12 ≤ (8 : Int) := hz12
  try have t13 : σ10 a1 3 = σ a1 3 := ((ups_r e11 (by omega)).trans ((ups_r e7 (by omega)).trans (ups_r e3 (by omega))))
  refine And.intro (by omega) ?_
  intro σ14 e15
  intro z16 ez16 hz16
  have hz16 : (0 : Int) ≤ z16 ∧ z16 ≤ (9 : Int) := hz16
  try have t17 : σ14 a1 4 = σ a1 4 := ((ups_r e15 (by omega)).trans ((ups_r e11 (by omega)).trans ((ups_r e7 (by omega)).trans (ups_r e3 (by omega)))))
  refine And.intro (by omega) ?_
  intro σ18 e19
  intro z20 ez20 hz20
  have hz20 : ((-1) : Int) ≤ z20 ∧ z20 ≤ (7 : Int) := hz20
  try have t21 : σ18 a1 5 = σ a1 5 := ((ups_r e19 (by omega)).trans ((ups_r e15 (by omega)).trans ((ups_r e11 (by omega)).trans ((ups_r e7 (by omega)).trans (ups_r e3 (by omega))))))
  refine And.intro (by omega) ?_
  intro σ22 e23
  intro z24 ez24 hz24
  have hz24 : (0 : Int) ≤ z24 ∧ z24 ≤ (9 : Int) := hz24
  try have t25 : σ22 a1 6 = σ a1 6 := ((ups_r e23 (by omega)).trans ((ups_r e19 (by omega)).trans ((ups_r e15 (by omega)).trans ((ups_r e11 (by omega)).trans ((ups_r e7 (by omega)).trans (ups_r e3 (by omega)))))))
  refine And.intro (by omega) ?_
  intro σ26 e27
  intro z28 ez28 hz28
  have hz28 : (0 : Int) ≤ z28 ∧ z28 ≤ (480 : Int) := hz28
  try have t29 : σ26 a1 7 = σ a1 7 := ((ups_r e27 (by omega)).trans ((ups_r e23 (by omega)).trans ((ups_r e19 (by omega)).trans ((ups_r e15 (by omega)).trans ((ups_r e11 (by omega)).trans ((ups_r e7 (by omega)).trans (ups_r e3 (by omega))))))))
  refine And.intro (by omega) ?_
  intro σ30 e31
  refine Exists.intro 11 (Exists.intro 11 (Exists.intro 1 (Exists.intro 0 (Exists.intro 0 (Exists.intro 8 (Exists.intro 8 (Exists.intro (a1 + 1) (Exists.intro (a0 + 1) (Exists.intro 0 (Exists.intro 0 (Exists.intro 8 (And.intro rfl (And.intro rfl (And.intro rfl (And.intro rfl (And.intro (by decide) (And.intro (by omega) ?_)))))))))))))))))
  intro σ32 e33
  refine Exists.intro 0 (And.intro rfl ?_)
  have t34 : σ32 a0 1 = z4 := (((ac_r e33 (by omega)).trans ((ups_r e31 (by omega)).trans ((ups_r e27 (by omega)).trans ((ups_r e23 (by omega)).trans ((ups_r e19 (by omega)).trans ((ups_r e15 (by omega)).trans (ups_r e11 (by omega))))))))).trans (ups_v e7)
  have t35 : σ32 a0 3 = z12 := (((ac_r e33 (by omega)).trans ((ups_r e31 (by omega)).trans ((ups_r e27 (by omega)).trans ((ups_r e23 (by omega)).trans (ups_r e19 (by omega))))))).trans (ups_v e15)
  exact (And.intro (by show σ32 a0 1 = σ a1 1; omega) (And.intro (by show σ32 a0 3 = σ a1 3; omega) (fun k j hk => ((ac_r e33 (by omega)).trans ((ups_r e31 (by omega)).trans ((ups_r e27 (by omega)).trans ((ups_r e23 (by omega)).trans ((ups_r e19 (by omega)).trans ((ups_r e15 (by omega)).trans ((ups_r e11 (by omega)).trans ((ups_r e7 (by omega)).trans (ups_r e3 (by omega)))))))))))))
def as_G_X1_appendMonth : Int × Int → List Sv_t := fun a => [(20, a.1), (0, a.2)]
def pre_G_X1_appendMonth : Int × Int → Me_t → Prop := fun a σ => (σ a.1 3 ≤ 7) ∧ (0 ≤ a.2) ∧ (a.2 ≤ 60) ∧ (σ a.1 7 + a.2 ≤ 480)
def post_G_X1_appendMonth : Int × Int → Me_t → Int → Me_t → Prop := fun a σ z σ' => (σ' a.1 3 = σ a.1 3 + 1) ∧ (σ' a.1 7 = σ a.1 7 + a.2) ∧ (σ' a.1 1 = σ a.1 1) ∧ (∀ k j : Int, ¬ (k = a.1 ∨ k = a.1 + 1) → σ' k j = σ k j)
set_option maxHeartbeats 8000000 in
set_option maxRecDepth 100000 in
theorem ct_G_X1_appendMonth (l : Launch) : CT_ l yX1_appendMonth cX1_appendMonth 2 none 0 0 as_G_X1_appendMonth (rmV_) pre_G_X1_appendMonth post_G_X1_appendMonth := by
  refine ct_of (by decide) (fun _ => Nat.le_of_ble_eq_true rfl) ?_
  intro X G Q ad σ a hl hR E hG R hM hv hp
  obtain ⟨a0, a1⟩ := a
  have k_a0 : isLand_ a0 := tvLand_ (hv (20, a0) (List.mem_of_getElem? (i := 0) rfl))
  have r_a0 : 10 ≤ a0 ∧ a0 ≤ 76 := by unfold isLand_ at k_a0; omega
  have r_a1 : -2147483648 ≤ a1 ∧ a1 ≤ 2147483647 := hv (0, a1) (List.mem_of_getElem? (i := 1) rfl)
  have hp0 : σ a0 3 ≤ 7 := hp.1
  have hp1 : 0 ≤ a1 := hp.2.1
  have hp2 : a1 ≤ 60 := hp.2.2.1
  have hp3 : σ a0 7 + a1 ≤ 480 := hp.2.2.2
  have B := @bk_ X G Q 0 0 ad SHS_ RX1 cX1_appendMonth 2 none flX1 plX1 knX1 [] _ _ none kX1_appendMonth [] flX1_ok plX1_ok knX1_ok eX1_appendMonth oX1_appendMonth
    (fun _ h => absurd h List.not_mem_nil) R sok_no E
  show WP_ X G Q 0 0 ad SHS_ σ 0 [(20, a0), (0, a1)] []
  refine B rfl ?_
  intro z1 ez1 hz1
  have hz1 : (0 : Int) ≤ z1 ∧ z1 ≤ (8 : Int) := hz1
  refine And.intro (by omega) ?_
  refine And.intro (by show (0 : Int) ≤ _ ∧ _ ≤ (60 : Int); omega) ?_
  intro σ2 e3
  intro z4 ez4 hz4
  have hz4 : (0 : Int) ≤ z4 ∧ z4 ≤ (8 : Int) := hz4
  try have t5 : σ2 a0 3 = σ a0 3 := (ups_r e3 (by omega))
  refine And.intro (by omega) ?_
  refine And.intro (by omega) ?_
  intro σ6 e7
  intro z8 ez8 hz8
  have hz8 : (0 : Int) ≤ z8 ∧ z8 ≤ (480 : Int) := hz8
  try have t9 : σ6 a0 7 = σ a0 7 := ((ups_r e7 (by omega)).trans (ups_r e3 (by omega)))
  refine And.intro (by omega) ?_
  refine And.intro (by omega) ?_
  intro σ10 e11
  refine Exists.intro 0 (And.intro rfl ?_)
  have t12 : σ10 a0 3 = z4 + 1 := ((ups_r e11 (by omega))).trans (ups_v e7)
  have t13 : σ10 a0 7 = z8 + a1 := ups_v e11
  try have t14 : σ10 a0 1 = σ a0 1 := ((ups_r e11 (by omega)).trans ((ups_r e7 (by omega)).trans (ups_r e3 (by omega))))
  exact (And.intro (by show σ10 a0 3 = σ a0 3 + 1; omega) (And.intro (by show σ10 a0 7 = σ a0 7 + a1; omega) (And.intro (by show σ10 a0 1 = σ a0 1; omega) (fun k j hk => ((ups_r e11 (by omega)).trans ((ups_r e7 (by omega)).trans (ups_r e3 (by omega))))))))
def as_G_X1_hasWeekday : Int × Int → List Sv_t := fun a => [(20, a.1), (0, a.2)]
def pre_G_X1_hasWeekday : Int × Int → Me_t → Prop := fun a σ => True
def post_G_X1_hasWeekday : Int × Int → Me_t → Int → Me_t → Prop := fun a σ z σ' => (0 ≤ z ∧ z ≤ 1) ∧ (σ = σ')
set_option maxHeartbeats 8000000 in
set_option maxRecDepth 100000 in
theorem ct_G_X1_hasWeekday (l : Launch) : CT_ l yX1_hasWeekday cX1_hasWeekday 2 (some .boolean) 0 0 as_G_X1_hasWeekday (rmI_) pre_G_X1_hasWeekday post_G_X1_hasWeekday := by
  refine ct_of (by decide) (fun _ => Nat.le_of_ble_eq_true rfl) ?_
  intro X G Q ad σ a hl hR E hG R hM hv hp
  obtain ⟨a0, a1⟩ := a
  have k_a0 : isLand_ a0 := tvLand_ (hv (20, a0) (List.mem_of_getElem? (i := 0) rfl))
  have r_a0 : 10 ≤ a0 ∧ a0 ≤ 76 := by unfold isLand_ at k_a0; omega
  have r_a1 : -2147483648 ≤ a1 ∧ a1 ≤ 2147483647 := hv (0, a1) (List.mem_of_getElem? (i := 1) rfl)
  have B := @bk_ X G Q 0 0 ad SHS_ RX1 cX1_hasWeekday 2 (some .boolean) flX1 plX1 knX1 [] _ _ none kX1_hasWeekday [] flX1_ok plX1_ok knX1_ok eX1_hasWeekday oX1_hasWeekday
    (fun _ h => absurd h List.not_mem_nil) R sok_no E
  show WP_ X G Q 0 0 ad SHS_ σ 0 [(20, a0), (0, a1)] []
  refine B rfl ?_
  refine And.intro (fun h1 => ?_) (fun h1 => ?_)
  · skip
    refine B rfl ?_
    refine And.intro (by omega) ?_
    refine Exists.intro _ (And.intro rfl ?_)
    exact (And.intro (by show 0 ≤ 0 ∧ 0 ≤ 1; omega) rfl)
  · skip
    intro z2 ez2 hz2
    have hz2 : (0 : Int) ≤ z2 ∧ z2 ≤ (10 : Int) := hz2
    refine And.intro (fun h3 => ?_) (fun h3 => ?_)
    · skip
      refine B rfl ?_
      refine And.intro (by omega) ?_
      refine Exists.intro _ (And.intro rfl ?_)
      exact (And.intro (by show 0 ≤ 0 ∧ 0 ≤ 1; omega) rfl)
    · skip
      refine B rfl ?_
      refine And.intro (by omega) ?_
      refine Exists.intro _ (And.intro rfl ?_)
      exact (And.intro (by show 0 ≤ 1 ∧ 1 ≤ 1; omega) rfl)
def as_G_X1_isLeapYear : Int × Int → List Sv_t := fun a => [(20, a.1), (0, a.2)]
def pre_G_X1_isLeapYear : Int × Int → Me_t → Prop := fun a σ => (0 ≤ a.2)
def post_G_X1_isLeapYear : Int × Int → Me_t → Int → Me_t → Prop := fun a σ z σ' => (0 ≤ z ∧ z ≤ 1) ∧ (σ = σ')
set_option maxHeartbeats 8000000 in
set_option maxRecDepth 100000 in
theorem ct_G_X1_isLeapYear (l : Launch) : CT_ l yX1_isLeapYear cX1_isLeapYear 2 (some .boolean) 0 0 as_G_X1_isLeapYear (rmI_) pre_G_X1_isLeapYear post_G_X1_isLeapYear := by
  refine ct_of (by decide) (fun _ => Nat.le_of_ble_eq_true rfl) ?_
  intro X G Q ad σ a hl hR E hG R hM hv hp
  obtain ⟨a0, a1⟩ := a
  have k_a0 : isLand_ a0 := tvLand_ (hv (20, a0) (List.mem_of_getElem? (i := 0) rfl))
  have r_a0 : 10 ≤ a0 ∧ a0 ≤ 76 := by unfold isLand_ at k_a0; omega
  have r_a1 : -2147483648 ≤ a1 ∧ a1 ≤ 2147483647 := hv (0, a1) (List.mem_of_getElem? (i := 1) rfl)
  have hp0 : 0 ≤ a1 := hp
  have B := @bk_ X G Q 0 0 ad SHS_ RX1 cX1_isLeapYear 2 (some .boolean) flX1 plX1 knX1 [] _ _ none kX1_isLeapYear [] flX1_ok plX1_ok knX1_ok eX1_isLeapYear oX1_isLeapYear
    (fun _ h => absurd h List.not_mem_nil) R sok_no E
  show WP_ X G Q 0 0 ad SHS_ σ 0 [(20, a0), (0, a1)] []
  refine B rfl ?_
  intro z1 ez1 hz1
  have hz1 : (0 : Int) ≤ z1 ∧ z1 ≤ (9 : Int) := hz1
  refine And.intro (fun h2 => ?_) (fun h2 => ?_)
  · skip
    refine B rfl ?_
    refine And.intro (by omega) ?_
    refine Exists.intro _ (And.intro rfl ?_)
    exact (And.intro (by show 0 ≤ 0 ∧ 0 ≤ 1; omega) rfl)
  · skip
    intro z3 ez3 hz3
    have q4 : z1 = z3 := ez1.trans ez3.symm
    subst q4
    have q5 := tmod_r (x := a1) (y := z1) (by omega) (by omega)
    refine And.intro (by omega) ?_
    refine And.intro (fun h6 => ?_) (fun h6 => ?_)
    · skip
      refine B rfl ?_
      refine And.intro (by omega) ?_
      refine Exists.intro _ (And.intro rfl ?_)
      exact (And.intro (by show 0 ≤ 0 ∧ 0 ≤ 1; omega) rfl)
    · skip
      refine B rfl ?_
      refine And.intro (by omega) ?_
      refine Exists.intro _ (And.intro rfl ?_)
      exact (And.intro (by show 0 ≤ 1 ∧ 1 ≤ 1; omega) rfl)
def as_G_X1_lengthIn : Int × Int × Int → List Sv_t := fun a => [(20, a.1), (0, a.2.1), (0, a.2.2)]
def pre_G_X1_lengthIn : Int × Int × Int → Me_t → Prop := fun a σ => (0 ≤ a.2.1) ∧ (a.2.1 ≤ 7) ∧ (0 ≤ a.2.2)
def post_G_X1_lengthIn : Int × Int × Int → Me_t → Int → Me_t → Prop := fun a σ z σ' => (0 ≤ z ∧ z ≤ 69) ∧ (σ = σ')
set_option maxHeartbeats 8000000 in
set_option maxRecDepth 100000 in
theorem ct_G_X1_lengthIn (l : Launch) : CT_ l yX1_lengthIn cX1_lengthIn 3 (some .int) 1 21 as_G_X1_lengthIn (rmI_) pre_G_X1_lengthIn post_G_X1_lengthIn := by
  refine ct_of (by decide) (fun _ => Nat.le_of_ble_eq_true rfl) ?_
  intro X G Q ad σ a hl hR E hG R hM hv hp
  obtain ⟨a0, a1, a2⟩ := a
  have k_a0 : isLand_ a0 := tvLand_ (hv (20, a0) (List.mem_of_getElem? (i := 0) rfl))
  have r_a0 : 10 ≤ a0 ∧ a0 ≤ 76 := by unfold isLand_ at k_a0; omega
  have r_a1 : -2147483648 ≤ a1 ∧ a1 ≤ 2147483647 := hv (0, a1) (List.mem_of_getElem? (i := 1) rfl)
  have r_a2 : -2147483648 ≤ a2 ∧ a2 ≤ 2147483647 := hv (0, a2) (List.mem_of_getElem? (i := 2) rfl)
  have hp0 : 0 ≤ a1 := hp.1
  have hp1 : a1 ≤ 7 := hp.2.1
  have hp2 : 0 ≤ a2 := hp.2.2
  have B := @bk_ X G Q 0 0 ad SHS_ RX1 cX1_lengthIn 3 (some .int) flX1 plX1 knX1 [(92, 2, TR_ as_G_X1_isLeapYear (rmI_) pre_G_X1_isLeapYear post_G_X1_isLeapYear)] _ _ none kX1_lengthIn [] flX1_ok plX1_ok knX1_ok eX1_lengthIn oX1_lengthIn
    (List.forall_mem_cons.mpr ⟨cok_v (t := 10) (c := 1) (N := 9) (n := 1) (idx := 46) E (ct_G_X1_isLeapYear X.2.1) (by rw [hR]; decide) (Nat.zero_le _) (Nat.zero_le _) hG rfl rfl ⟨rfl, by decide, by decide, by decide⟩ (fun _ => ⟨_, _, rfl, rfl⟩) wl_X1_46 wi_X1_isLeapYear ws_X1_isLeapYear wn_X1 wc_X1_isLeapYear, fun _ h => absurd h List.not_mem_nil⟩) R sok_no E
  show WP_ X G Q 0 0 ad SHS_ σ 0 [(20, a0), (0, a1), (0, a2)] []
  refine B rfl ?_
  intro z1 ez1 hz1
  have hz1 : ((-1) : Int) ≤ z1 ∧ z1 ≤ (7 : Int) := hz1
  refine And.intro (fun h2 => ?_) (fun h2 => ?_)
  · skip
    refine B rfl ?_
    refine And.intro (by omega) ?_
    intro z3 ez3 hz3
    have hz3 : (0 : Int) ≤ z3 ∧ z3 ≤ (60 : Int) := hz3
    refine Exists.intro _ (And.intro rfl ?_)
    exact (And.intro (by show 0 ≤ z3 ∧ z3 ≤ 69; omega) rfl)
  · skip
    refine Exists.intro (a0, a2) (And.intro rfl (And.intro (by show 0 ≤ a2; omega) ?_))
    rintro z4 m_ h5
    obtain rfl : σ = m_ := h5.2
    have h6 : 0 ≤ z4 ∧ z4 ≤ 1 := h5.1
    refine And.intro (fun h7 => ?_) (fun h7 => ?_)
    · skip
      refine B rfl ?_
      refine And.intro (by omega) ?_
      intro z8 ez8 hz8
      have hz8 : (0 : Int) ≤ z8 ∧ z8 ≤ (60 : Int) := hz8
      refine Exists.intro _ (And.intro rfl ?_)
      exact (And.intro (by show 0 ≤ z8 ∧ z8 ≤ 69; omega) rfl)
    · skip
      refine And.intro (by omega) ?_
      intro z9 ez9 hz9
      have hz9 : (0 : Int) ≤ z9 ∧ z9 ≤ (60 : Int) := hz9
      intro z10 ez10 hz10
      have hz10 : (0 : Int) ≤ z10 ∧ z10 ≤ (9 : Int) := hz10
      refine And.intro (by omega) ?_
      refine B rfl ?_
      refine Exists.intro _ (And.intro rfl ?_)
      exact (And.intro (by show 0 ≤ (z9 + z10) ∧ (z9 + z10) ≤ 69; omega) rfl)
def as_G_X1_leapCycle : Int → List Sv_t := fun a => [(20, a)]
def pre_G_X1_leapCycle : Int → Me_t → Prop := fun a σ => True
def post_G_X1_leapCycle : Int → Me_t → Int → Me_t → Prop := fun a σ z σ' => (0 ≤ z ∧ z ≤ 4329) ∧ (σ = σ')
set_option maxHeartbeats 8000000 in
set_option maxRecDepth 100000 in
theorem ct_G_X1_leapCycle (l : Launch) : CT_ l yX1_leapCycle cX1_leapCycle 1 (some .int) 0 0 as_G_X1_leapCycle (rmI_) pre_G_X1_leapCycle post_G_X1_leapCycle := by
  refine ct_of (by decide) (fun _ => Nat.le_of_ble_eq_true rfl) ?_
  intro X G Q ad σ a hl hR E hG R hM hv hp
  obtain ⟨a0, rfl⟩ : ∃ q : Int, q = a := ⟨_, rfl⟩
  have k_a0 : isLand_ a0 := tvLand_ (hv (20, a0) (List.mem_of_getElem? (i := 0) rfl))
  have r_a0 : 10 ≤ a0 ∧ a0 ≤ 76 := by unfold isLand_ at k_a0; omega
  have B := @bk_ X G Q 0 0 ad SHS_ RX1 cX1_leapCycle 1 (some .int) flX1 plX1 knX1 [] _ _ none kX1_leapCycle [] flX1_ok plX1_ok knX1_ok eX1_leapCycle oX1_leapCycle
    (fun _ h => absurd h List.not_mem_nil) R sok_no E
  show WP_ X G Q 0 0 ad SHS_ σ 0 [(20, a0)] []
  refine B rfl ?_
  intro z1 ez1 hz1
  have hz1 : (0 : Int) ≤ z1 ∧ z1 ≤ (9 : Int) := hz1
  refine And.intro (fun h2 => ?_) (fun h2 => ?_)
  · skip
    refine B rfl ?_
    intro z3 ez3 hz3
    have hz3 : (0 : Int) ≤ z3 ∧ z3 ≤ (480 : Int) := hz3
    refine Exists.intro _ (And.intro rfl ?_)
    exact (And.intro (by show 0 ≤ z3 ∧ z3 ≤ 4329; omega) rfl)
  · skip
    intro z4 ez4 hz4
    have q5 : z1 = z4 := ez1.trans ez4.symm
    subst q5
    intro z6 ez6 hz6
    have hz6 : (0 : Int) ≤ z6 ∧ z6 ≤ (480 : Int) := hz6
    have q7 : 0 ≤ z1 * z6 ∧ z1 * z6 ≤ 4320 := mul_r (A := 9) (B := 480) (by omega) (by omega) (by omega) (by omega)
    refine And.intro (by omega) ?_
    intro z8 ez8 hz8
    have hz8 : (0 : Int) ≤ z8 ∧ z8 ≤ (9 : Int) := hz8
    refine And.intro (by omega) ?_
    refine B rfl ?_
    refine Exists.intro _ (And.intro rfl ?_)
    exact (And.intro (by show 0 ≤ ((z1 * z6) + z8) ∧ ((z1 * z6) + z8) ≤ 4329; omega) rfl)
def as_G_X1_dayOn : Int × Int × Int × Int → List Sv_t := fun a => [(20, a.1), (0, a.2.1), (0, a.2.2.1), (0, a.2.2.2)]
def pre_G_X1_dayOn : Int × Int × Int × Int → Me_t → Prop := fun a σ => (0 ≤ a.2.1) ∧ (a.2.1 ≤ 2100) ∧ (0 ≤ a.2.2.1) ∧ (a.2.2.1 ≤ 100) ∧ (0 ≤ a.2.2.2) ∧ (a.2.2.2 ≤ 100)
def post_G_X1_dayOn : Int × Int × Int × Int → Me_t → Int → Me_t → Prop := fun a σ z σ' => (0 ≤ z ∧ z ≤ 2000000) ∧ (σ = σ')
set_option maxHeartbeats 8000000 in
set_option maxRecDepth 100000 in
theorem ct_G_X1_dayOn (l : Launch) : CT_ l yX1_dayOn cX1_dayOn 7 (some .int) 1 21 as_G_X1_dayOn (rmI_) pre_G_X1_dayOn post_G_X1_dayOn := by
  refine ct_of (by decide) (fun _ => Nat.le_of_ble_eq_true rfl) ?_
  intro X G Q ad σ a hl hR E hG R hM hv hp
  obtain ⟨a0, a1, a2, a3⟩ := a
  have k_a0 : isLand_ a0 := tvLand_ (hv (20, a0) (List.mem_of_getElem? (i := 0) rfl))
  have r_a0 : 10 ≤ a0 ∧ a0 ≤ 76 := by unfold isLand_ at k_a0; omega
  have r_a1 : -2147483648 ≤ a1 ∧ a1 ≤ 2147483647 := hv (0, a1) (List.mem_of_getElem? (i := 1) rfl)
  have r_a2 : -2147483648 ≤ a2 ∧ a2 ≤ 2147483647 := hv (0, a2) (List.mem_of_getElem? (i := 2) rfl)
  have r_a3 : -2147483648 ≤ a3 ∧ a3 ≤ 2147483647 := hv (0, a3) (List.mem_of_getElem? (i := 3) rfl)
  have hp0 : 0 ≤ a1 := hp.1
  have hp1 : a1 ≤ 2100 := hp.2.1
  have hp2 : 0 ≤ a2 := hp.2.2.1
  have hp3 : a2 ≤ 100 := hp.2.2.2.1
  have hp4 : 0 ≤ a3 := hp.2.2.2.2.1
  have hp5 : a3 ≤ 100 := hp.2.2.2.2.2
  have B := @bk_ X G Q 0 0 ad SHS_ RX1 cX1_dayOn 7 (some .int) flX1 plX1 knX1 [(92, 2, TR_ as_G_X1_isLeapYear (rmI_) pre_G_X1_isLeapYear post_G_X1_isLeapYear)] _ _ none kX1_dayOn [52] flX1_ok plX1_ok knX1_ok eX1_dayOn oX1_dayOn
    (List.forall_mem_cons.mpr ⟨cok_v (t := 10) (c := 1) (N := 9) (n := 1) (idx := 46) E (ct_G_X1_isLeapYear X.2.1) (by rw [hR]; decide) (Nat.zero_le _) (Nat.zero_le _) hG rfl rfl ⟨rfl, by decide, by decide, by decide⟩ (fun _ => ⟨_, _, rfl, rfl⟩) wl_X1_46 wi_X1_isLeapYear ws_X1_isLeapYear wn_X1 wc_X1_isLeapYear, fun _ h => absurd h List.not_mem_nil⟩) R sok_no E
  show WP_ X G Q 0 0 ad SHS_ σ 0 [(20, a0), (0, a1), (0, a2), (0, a3), (9, 0), (9, 0), (9, 0)] []
  refine B rfl ?_
  intro z1 ez1 hz1
  have hz1 : (0 : Int) ≤ z1 ∧ z1 ≤ (9 : Int) := hz1
  refine And.intro (fun h2 => ?_) (fun h2 => ?_)
  · skip
    refine B rfl ?_
    intro z3 ez3 hz3
    have hz3 : (0 : Int) ≤ z3 ∧ z3 ≤ (999 : Int) := hz3
    intro z4 ez4 hz4
    have hz4 : (0 : Int) ≤ z4 ∧ z4 ≤ (480 : Int) := hz4
    have q5 : 0 ≤ a1 * z4 ∧ a1 * z4 ≤ 1008000 := mul_r (A := 2100) (B := 480) (by omega) (by omega) (by omega) (by omega)
    refine And.intro (by omega) ?_
    refine And.intro (by omega) ?_
    intro z6 ez6 hz6
    have hz6 : (0 : Int) ≤ z6 ∧ z6 ≤ (9 : Int) := hz6
    refine And.intro (by omega) ?_
    refine And.intro (by omega) ?_
    refine And.intro (by omega) ?_
    refine wdrop_ (L' := [(20, a0), (0, a1), (0, a2), (9, 0), (9, 0), (0, ((z3 + (a1 * z4)) + (0 * z6)) + a3), (0, 0)]) ⟨Or.inr rfl, ⟨Or.inr rfl, ⟨Or.inr rfl, ⟨Or.inl rfl, ⟨Or.inl rfl, ⟨Or.inr rfl, ⟨Or.inr rfl, trivial⟩⟩⟩⟩⟩⟩⟩ ?_
    have lp_52 : ∀ (nq_ : Nat) (v5 : Int) (v6 : Int), (0 ≤ v6) → (v6 ≤ 8) → (0 ≤ v5) → (v5 ≤ 1100000 + 60 * v6) → (8 - v6 : Int).toNat < nq_ → WP_ X G Q 0 0 ad SHS_ σ 52 [(20, a0), (0, a1), (0, a2), (9, 0), (9, 0), (0, v5), (0, v6)] [] := by
      intro nq_
      induction nq_ with
      | zero => intros; omega
      | succ nq_ ih_52 =>
        intro v5 v6 hi52_0 hi52_1 hi52_2 hi52_3 hm52
        refine B rfl ?_
        refine And.intro (fun h7 => ?_) (fun h7 => ?_)
        · skip
          refine B rfl ?_
          intro z8 ez8 hz8
          have hz8 : ((-1) : Int) ≤ z8 ∧ z8 ≤ (7 : Int) := hz8
          refine And.intro (fun h9 => ?_) (fun h9 => ?_)
          · skip
            refine B rfl ?_
            refine Exists.intro _ (And.intro rfl ?_)
            exact (And.intro (by show 0 ≤ v5 ∧ v5 ≤ 2000000; omega) rfl)
          · skip
            refine Exists.intro (a0, a1) (And.intro rfl (And.intro (by show 0 ≤ a1; omega) ?_))
            rintro z10 m_ h11
            obtain rfl : σ = m_ := h11.2
            have h12 : 0 ≤ z10 ∧ z10 ≤ 1 := h11.1
            refine And.intro (fun h13 => ?_) (fun h13 => ?_)
            · skip
              refine B rfl ?_
              refine Exists.intro _ (And.intro rfl ?_)
              exact (And.intro (by show 0 ≤ v5 ∧ v5 ≤ 2000000; omega) rfl)
            · skip
              intro z14 ez14 hz14
              have q15 : z6 = z14 := ez6.trans ez14.symm
              subst q15
              refine And.intro (by omega) ?_
              refine B rfl ?_
              refine Exists.intro _ (And.intro rfl ?_)
              exact (And.intro (by show 0 ≤ (v5 + z6) ∧ (v5 + z6) ≤ 2000000; omega) rfl)
        · skip
          intro z16 ez16 hz16
          have hz16 : (0 : Int) ≤ z16 ∧ z16 ≤ (8 : Int) := hz16
          refine And.intro (fun h17 => ?_) (fun h17 => ?_)
          · skip
            refine B rfl ?_
            intro z18 ez18 hz18
            have hz18 : ((-1) : Int) ≤ z18 ∧ z18 ≤ (7 : Int) := hz18
            refine And.intro (fun h19 => ?_) (fun h19 => ?_)
            · skip
              refine B rfl ?_
              refine Exists.intro _ (And.intro rfl ?_)
              exact (And.intro (by show 0 ≤ v5 ∧ v5 ≤ 2000000; omega) rfl)
            · skip
              refine Exists.intro (a0, a1) (And.intro rfl (And.intro (by show 0 ≤ a1; omega) ?_))
              rintro z20 m_ h21
              obtain rfl : σ = m_ := h21.2
              have h22 : 0 ≤ z20 ∧ z20 ≤ 1 := h21.1
              refine And.intro (fun h23 => ?_) (fun h23 => ?_)
              · skip
                refine B rfl ?_
                refine Exists.intro _ (And.intro rfl ?_)
                exact (And.intro (by show 0 ≤ v5 ∧ v5 ≤ 2000000; omega) rfl)
              · skip
                intro z24 ez24 hz24
                have q25 : z6 = z24 := ez6.trans ez24.symm
                subst q25
                refine And.intro (by omega) ?_
                refine B rfl ?_
                refine Exists.intro _ (And.intro rfl ?_)
                exact (And.intro (by show 0 ≤ (v5 + z6) ∧ (v5 + z6) ≤ 2000000; omega) rfl)
          · skip
            refine And.intro (by omega) ?_
            intro z26 ez26 hz26
            have hz26 : (0 : Int) ≤ z26 ∧ z26 ≤ (60 : Int) := hz26
            refine And.intro (by omega) ?_
            refine And.intro (by omega) ?_
            exact ih_52 (v5 + z26) (v6 + 1) (by show 0 ≤ (v6 + 1); omega) (by show (v6 + 1) ≤ 8; omega) (by show 0 ≤ (v5 + z26); omega) (by show (v5 + z26) ≤ 1100000 + 60 * (v6 + 1); omega) (by omega)
    exact lp_52 ((8 - 0 : Int).toNat + 1) (((z3 + (a1 * z4)) + (0 * z6)) + a3) 0 (by show 0 ≤ 0; omega) (by show 0 ≤ 8; omega) (by show 0 ≤ (((z3 + (a1 * z4)) + (0 * z6)) + a3); omega) (by show (((z3 + (a1 * z4)) + (0 * z6)) + a3) ≤ 1100000 + 60 * 0; omega) (by omega)
  · skip
    intro z27 ez27 hz27
    have q28 : z1 = z27 := ez1.trans ez27.symm
    subst q28
    refine And.intro (by omega) ?_
    refine And.intro (by omega) ?_
    intro z29 ez29 hz29
    have q30 : z1 = z29 := ez1.trans ez29.symm
    subst q30
    have q31 := tdiv_r (x := (a1 + z1) - 1) (y := z1) (by omega) (by omega)
    refine And.intro (by omega) ?_
    refine B rfl ?_
    intro z32 ez32 hz32
    have hz32 : (0 : Int) ≤ z32 ∧ z32 ≤ (999 : Int) := hz32
    intro z33 ez33 hz33
    have hz33 : (0 : Int) ≤ z33 ∧ z33 ≤ (480 : Int) := hz33
    have q34 : 0 ≤ a1 * z33 ∧ a1 * z33 ≤ 1008000 := mul_r (A := 2100) (B := 480) (by omega) (by omega) (by omega) (by omega)
    refine And.intro (by omega) ?_
    refine And.intro (by omega) ?_
    intro z35 ez35 hz35
    have hz35 : (0 : Int) ≤ z35 ∧ z35 ≤ (9 : Int) := hz35
    have q36 : 0 ≤ (Int.tdiv ((a1 + z1) - 1) z1) * z35 ∧ (Int.tdiv ((a1 + z1) - 1) z1) * z35 ≤ 19800 := mul_r (A := 2200) (B := 9) (by omega) (by omega) (by omega) (by omega)
    refine And.intro (by omega) ?_
    refine And.intro (by omega) ?_
    refine And.intro (by omega) ?_
    refine wdrop_ (L' := [(20, a0), (0, a1), (0, a2), (9, 0), (9, 0), (0, ((z32 + (a1 * z33)) + ((Int.tdiv ((a1 + z1) - 1) z1) * z35)) + a3), (0, 0)]) ⟨Or.inr rfl, ⟨Or.inr rfl, ⟨Or.inr rfl, ⟨Or.inl rfl, ⟨Or.inl rfl, ⟨Or.inr rfl, ⟨Or.inr rfl, trivial⟩⟩⟩⟩⟩⟩⟩ ?_
    have lp_52 : ∀ (nq_ : Nat) (v5_1 : Int) (v6_1 : Int), (0 ≤ v6_1) → (v6_1 ≤ 8) → (0 ≤ v5_1) → (v5_1 ≤ 1100000 + 60 * v6_1) → (8 - v6_1 : Int).toNat < nq_ → WP_ X G Q 0 0 ad SHS_ σ 52 [(20, a0), (0, a1), (0, a2), (9, 0), (9, 0), (0, v5_1), (0, v6_1)] [] := by
      intro nq_
      induction nq_ with
      | zero => intros; omega
      | succ nq_ ih_52 =>
        intro v5_1 v6_1 hi52_0 hi52_1 hi52_2 hi52_3 hm52
        refine B rfl ?_
        refine And.intro (fun h37 => ?_) (fun h37 => ?_)
        · skip
          refine B rfl ?_
          intro z38 ez38 hz38
          have hz38 : ((-1) : Int) ≤ z38 ∧ z38 ≤ (7 : Int) := hz38
          refine And.intro (fun h39 => ?_) (fun h39 => ?_)
          · skip
            refine B rfl ?_
            refine Exists.intro _ (And.intro rfl ?_)
            exact (And.intro (by show 0 ≤ v5_1 ∧ v5_1 ≤ 2000000; omega) rfl)
          · skip
            refine Exists.intro (a0, a1) (And.intro rfl (And.intro (by show 0 ≤ a1; omega) ?_))
            rintro z40 m_ h41
            obtain rfl : σ = m_ := h41.2
            have h42 : 0 ≤ z40 ∧ z40 ≤ 1 := h41.1
            refine And.intro (fun h43 => ?_) (fun h43 => ?_)
            · skip
              refine B rfl ?_
              refine Exists.intro _ (And.intro rfl ?_)
              exact (And.intro (by show 0 ≤ v5_1 ∧ v5_1 ≤ 2000000; omega) rfl)
            · skip
              intro z44 ez44 hz44
              have q45 : z35 = z44 := ez35.trans ez44.symm
              subst q45
              refine And.intro (by omega) ?_
              refine B rfl ?_
              refine Exists.intro _ (And.intro rfl ?_)
              exact (And.intro (by show 0 ≤ (v5_1 + z35) ∧ (v5_1 + z35) ≤ 2000000; omega) rfl)
        · skip
          intro z46 ez46 hz46
          have hz46 : (0 : Int) ≤ z46 ∧ z46 ≤ (8 : Int) := hz46
          refine And.intro (fun h47 => ?_) (fun h47 => ?_)
          · skip
            refine B rfl ?_
            intro z48 ez48 hz48
            have hz48 : ((-1) : Int) ≤ z48 ∧ z48 ≤ (7 : Int) := hz48
            refine And.intro (fun h49 => ?_) (fun h49 => ?_)
            · skip
              refine B rfl ?_
              refine Exists.intro _ (And.intro rfl ?_)
              exact (And.intro (by show 0 ≤ v5_1 ∧ v5_1 ≤ 2000000; omega) rfl)
            · skip
              refine Exists.intro (a0, a1) (And.intro rfl (And.intro (by show 0 ≤ a1; omega) ?_))
              rintro z50 m_ h51
              obtain rfl : σ = m_ := h51.2
              have h52 : 0 ≤ z50 ∧ z50 ≤ 1 := h51.1
              refine And.intro (fun h53 => ?_) (fun h53 => ?_)
              · skip
                refine B rfl ?_
                refine Exists.intro _ (And.intro rfl ?_)
                exact (And.intro (by show 0 ≤ v5_1 ∧ v5_1 ≤ 2000000; omega) rfl)
              · skip
                intro z54 ez54 hz54
                have q55 : z35 = z54 := ez35.trans ez54.symm
                subst q55
                refine And.intro (by omega) ?_
                refine B rfl ?_
                refine Exists.intro _ (And.intro rfl ?_)
                exact (And.intro (by show 0 ≤ (v5_1 + z35) ∧ (v5_1 + z35) ≤ 2000000; omega) rfl)
          · skip
            refine And.intro (by omega) ?_
            intro z56 ez56 hz56
            have hz56 : (0 : Int) ≤ z56 ∧ z56 ≤ (60 : Int) := hz56
            refine And.intro (by omega) ?_
            refine And.intro (by omega) ?_
            exact ih_52 (v5_1 + z56) (v6_1 + 1) (by show 0 ≤ (v6_1 + 1); omega) (by show (v6_1 + 1) ≤ 8; omega) (by show 0 ≤ (v5_1 + z56); omega) (by show (v5_1 + z56) ≤ 1100000 + 60 * (v6_1 + 1); omega) (by omega)
    exact lp_52 ((8 - 0 : Int).toNat + 1) (((z32 + (a1 * z33)) + ((Int.tdiv ((a1 + z1) - 1) z1) * z35)) + a3) 0 (by show 0 ≤ 0; omega) (by show 0 ≤ 8; omega) (by show 0 ≤ (((z32 + (a1 * z33)) + ((Int.tdiv ((a1 + z1) - 1) z1) * z35)) + a3); omega) (by show (((z32 + (a1 * z33)) + ((Int.tdiv ((a1 + z1) - 1) z1) * z35)) + a3) ≤ 1100000 + 60 * 0; omega) (by omega)
