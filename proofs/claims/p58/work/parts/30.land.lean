def as_G_X1_clear : Int → List Sv_t := fun a => [(20, a)]
def pre_G_X1_clear : Int → Me_t → Prop := fun a σ => True
def post_G_X1_clear : Int → Me_t → Int → Me_t → Prop := fun a σ z σ' => (σ' a 3 = 0) ∧ (σ' a 4 = 0) ∧ (σ' a 5 = -1) ∧ (σ' a 6 = 0) ∧ (σ' a 7 = 0) ∧ (∀ k j : Int, ¬ (k = a) → σ' k j = σ k j)
set_option maxHeartbeats 8000000 in
set_option maxRecDepth 100000 in
theorem ct_G_X1_clear (l : Launch) : CT_ l yX1_clear cX1_clear 1 none 0 0 as_G_X1_clear (rmV_) pre_G_X1_clear post_G_X1_clear := by
  refine ct_of (by decide) (fun _ => Nat.le_of_ble_eq_true rfl) ?_
  intro X G Q ad σ a hl hR E hG R hM hv hp
  obtain ⟨a0, rfl⟩ : ∃ q : Int, q = a := ⟨_, rfl⟩
  have k_a0 : isLand_ a0 := tvLand_ (hv (20, a0) (List.mem_of_getElem? (i := 0) rfl))
  have r_a0 : 10 ≤ a0 ∧ a0 ≤ 76 := by unfold isLand_ at k_a0; omega
  have B := @bk_ X G Q 0 0 ad SHS_ RX1 cX1_clear 1 none flX1 plX1 knX1 [] _ _ none kX1_clear [] flX1_ok plX1_ok knX1_ok eX1_clear oX1_clear
    (fun _ h => absurd h List.not_mem_nil) R sok_no E
  show WP_ X G Q 0 0 ad SHS_ σ 0 [(20, a0)] []
  refine B rfl ?_
  refine And.intro (by omega) ?_
  intro σ1 e2
  refine And.intro (by omega) ?_
  intro σ3 e4
  refine And.intro (by omega) ?_
  intro σ5 e6
  refine And.intro (by omega) ?_
  intro σ7 e8
  refine And.intro (by omega) ?_
  intro σ9 e10
  refine Exists.intro 0 (And.intro rfl ?_)
  have t11 : σ9 a0 3 = 0 := (((ups_r e10 (by omega)).trans ((ups_r e8 (by omega)).trans ((ups_r e6 (by omega)).trans (ups_r e4 (by omega)))))).trans (ups_v e2)
  have t12 : σ9 a0 4 = 0 := (((ups_r e10 (by omega)).trans (ups_r e8 (by omega)))).trans (ups_v e6)
  have t13 : σ9 a0 5 = (-1) := ((ups_r e10 (by omega))).trans (ups_v e8)
  have t14 : σ9 a0 6 = 0 := ups_v e10
  have t15 : σ9 a0 7 = 0 := (((ups_r e10 (by omega)).trans ((ups_r e8 (by omega)).trans (ups_r e6 (by omega))))).trans (ups_v e4)
  exact (And.intro (by show σ9 a0 3 = 0; omega) (And.intro (by show σ9 a0 4 = 0; omega) (And.intro (by show σ9 a0 5 = -1; omega) (And.intro (by show σ9 a0 6 = 0; omega) (And.intro (by show σ9 a0 7 = 0; omega) (fun k j hk => ((ups_r e10 (by omega)).trans ((ups_r e8 (by omega)).trans ((ups_r e6 (by omega)).trans ((ups_r e4 (by omega)).trans (ups_r e2 (by omega))))))))))))
def as_G_X1_copyOf : Int × Int → List Sv_t := fun a => [(20, a.1), (20, a.2)]
def pre_G_X1_copyOf : Int × Int → Me_t → Prop := fun a σ => (a.1 + 1 < a.2 ∨ a.2 + 1 < a.1)
def post_G_X1_copyOf : Int × Int → Me_t → Int → Me_t → Prop := fun a σ z σ' => (σ' a.1 1 = σ a.2 1) ∧ (σ' a.1 3 = σ a.2 3) ∧ (∀ k j : Int, ¬ (k = a.1 ∨ k = a.1 + 1) → σ' k j = σ k j)
set_option maxHeartbeats 8000000 in
set_option maxRecDepth 100000 in
theorem ct_G_X1_copyOf (l : Launch) : CT_ l yX1_copyOf cX1_copyOf 2 none 1 40 as_G_X1_copyOf (rmV_) pre_G_X1_copyOf post_G_X1_copyOf := by
  refine ct_of (by decide) (fun _ => Nat.le_of_ble_eq_true rfl) ?_
  intro X G Q ad σ a hl hR E hG R hM hv hp
  obtain ⟨a0, a1⟩ := a
  have k_a0 : isLand_ a0 := tvLand_ (hv (20, a0) (List.mem_of_getElem? (i := 0) rfl))
  have r_a0 : 10 ≤ a0 ∧ a0 ≤ 76 := by unfold isLand_ at k_a0; omega
  have k_a1 : isLand_ a1 := tvLand_ (hv (20, a1) (List.mem_of_getElem? (i := 1) rfl))
  have r_a1 : 10 ≤ a1 ∧ a1 ≤ 76 := by unfold isLand_ at k_a1; omega
  have hp0 : a0 + 1 < a1 ∨ a1 + 1 < a0 := hp
  have B := @bk_ X G Q 0 0 ad SHS_ RX1 cX1_copyOf 2 none flX1 plX1 knX1 [(81, 5, TAC_)] _ _ none kX1_copyOf [] flX1_ok plX1_ok knX1_ok eX1_copyOf oX1_copyOf
    (List.forall_mem_cons.mpr ⟨cok_ac (idx := 40) E (by rw [hR]; decide) wa_X1_40, fun _ h => absurd h List.not_mem_nil⟩) R sok_no E
  show WP_ X G Q 0 0 ad SHS_ σ 0 [(20, a0), (20, a1)] []
  refine B rfl ?_
  intro z1 ez1 hz1
  have hz1 : (0 : Int) ≤ z1 ∧ z1 ≤ (999 : Int) := hz1
  refine And.intro (by omega) ?_
  intro σ2 e3
  intro z4 ez4 hz4
  have hz4 : (0 : Int) ≤ z4 ∧ z4 ≤ (10 : Int) := hz4
  try have t5 : σ2 a1 1 = σ a1 1 := (ups_r e3 (by omega))
  refine And.intro (by omega) ?_
  intro σ6 e7
  intro z8 ez8 hz8
  have hz8 : (0 : Int) ≤ z8 ∧ z8 ≤ (1022 : Int) := hz8
  try have t9 : σ6 a1 2 = σ a1 2 := ((ups_r e7 (by omega)).trans (ups_r e3 (by omega)))
  try have t10 : σ6 a1 2 = σ2 a1 2 := (ups_r e7 (by omega))
  refine And.intro (by omega) ?_
  intro σ11 e12
  intro z13 ez13 hz13
  have hz13 : (0 : Int) ≤ z13 ∧ z13 ≤ (8 : Int) := hz13
  try have t14 : σ11 a1 3 = σ a1 3 := ((ups_r e12 (by omega)).trans ((ups_r e7 (by omega)).trans (ups_r e3 (by omega))))
  try have t15 : σ11 a1 3 = σ6 a1 3 := (ups_r e12 (by omega))
  refine And.intro (by omega) ?_
  intro σ16 e17
  intro z18 ez18 hz18
  have hz18 : (0 : Int) ≤ z18 ∧ z18 ≤ (9 : Int) := hz18
  try have t19 : σ16 a1 4 = σ a1 4 := ((ups_r e17 (by omega)).trans ((ups_r e12 (by omega)).trans ((ups_r e7 (by omega)).trans (ups_r e3 (by omega)))))
  try have t20 : σ16 a1 4 = σ11 a1 4 := (ups_r e17 (by omega))
  refine And.intro (by omega) ?_
  intro σ21 e22
  intro z23 ez23 hz23
  have hz23 : ((-1) : Int) ≤ z23 ∧ z23 ≤ (7 : Int) := hz23
  try have t24 : σ21 a1 5 = σ a1 5 := ((ups_r e22 (by omega)).trans ((ups_r e17 (by omega)).trans ((ups_r e12 (by omega)).trans ((ups_r e7 (by omega)).trans (ups_r e3 (by omega))))))
  try have t25 : σ21 a1 5 = σ16 a1 5 := (ups_r e22 (by omega))
  refine And.intro (by omega) ?_
  intro σ26 e27
  intro z28 ez28 hz28
  have hz28 : (0 : Int) ≤ z28 ∧ z28 ≤ (9 : Int) := hz28
  try have t29 : σ26 a1 6 = σ a1 6 := ((ups_r e27 (by omega)).trans ((ups_r e22 (by omega)).trans ((ups_r e17 (by omega)).trans ((ups_r e12 (by omega)).trans ((ups_r e7 (by omega)).trans (ups_r e3 (by omega)))))))
  try have t30 : σ26 a1 6 = σ21 a1 6 := (ups_r e27 (by omega))
  refine And.intro (by omega) ?_
  intro σ31 e32
  intro z33 ez33 hz33
  have hz33 : (0 : Int) ≤ z33 ∧ z33 ≤ (480 : Int) := hz33
  try have t34 : σ31 a1 7 = σ a1 7 := ((ups_r e32 (by omega)).trans ((ups_r e27 (by omega)).trans ((ups_r e22 (by omega)).trans ((ups_r e17 (by omega)).trans ((ups_r e12 (by omega)).trans ((ups_r e7 (by omega)).trans (ups_r e3 (by omega))))))))
  try have t35 : σ31 a1 7 = σ26 a1 7 := (ups_r e32 (by omega))
  refine And.intro (by omega) ?_
  intro σ36 e37
  refine Exists.intro 11 (Exists.intro 11 (Exists.intro 1 (Exists.intro 0 (Exists.intro 0 (Exists.intro 8 (Exists.intro 8 (Exists.intro (a1 + 1) (Exists.intro (a0 + 1) (Exists.intro 0 (Exists.intro 0 (Exists.intro 8 (And.intro rfl (And.intro rfl (And.intro rfl (And.intro rfl (And.intro (by decide) (And.intro (by omega) ?_)))))))))))))))))
  intro σ38 e39
  refine Exists.intro 0 (And.intro rfl ?_)
  have t40 : σ38 a0 1 = z4 := (((ac_r e39 (by omega)).trans ((ups_r e37 (by omega)).trans ((ups_r e32 (by omega)).trans ((ups_r e27 (by omega)).trans ((ups_r e22 (by omega)).trans ((ups_r e17 (by omega)).trans (ups_r e12 (by omega))))))))).trans (ups_v e7)
  have t41 : σ38 a0 3 = z13 := (((ac_r e39 (by omega)).trans ((ups_r e37 (by omega)).trans ((ups_r e32 (by omega)).trans ((ups_r e27 (by omega)).trans (ups_r e22 (by omega))))))).trans (ups_v e17)
  exact (And.intro (by show σ38 a0 1 = σ a1 1; omega) (And.intro (by show σ38 a0 3 = σ a1 3; omega) (fun k j hk => ((ac_r e39 (by omega)).trans ((ups_r e37 (by omega)).trans ((ups_r e32 (by omega)).trans ((ups_r e27 (by omega)).trans ((ups_r e22 (by omega)).trans ((ups_r e17 (by omega)).trans ((ups_r e12 (by omega)).trans ((ups_r e7 (by omega)).trans (ups_r e3 (by omega)))))))))))))
def as_G_X1_appendMonth : Int × Int → List Sv_t := fun a => [(20, a.1), (0, a.2)]
def pre_G_X1_appendMonth : Int × Int → Me_t → Prop := fun a σ => (σ a.1 3 ≤ 7) ∧ (0 ≤ a.2) ∧ (a.2 ≤ 60) ∧ (σ a.1 7 + a.2 ≤ 480)
def post_G_X1_appendMonth : Int × Int → Me_t → Int → Me_t → Prop := fun a σ z σ' => (σ' a.1 3 = σ a.1 3 + 1) ∧ (σ' a.1 7 = σ a.1 7 + a.2) ∧ (σ' a.1 1 = σ a.1 1) ∧ (∀ k j : Int, ¬ (k = a.1 ∨ k = a.1 + 1) → σ' k j = σ k j)
set_option maxHeartbeats 8000000 in
set_option maxRecDepth 100000 in
theorem ct_G_X1_appendMonth (l : Launch) : CT_ l yX1_appendMonth cX1_appendMonth 2 none 0 0 as_G_X1_appendMonth (rmV_) pre_G_X1_appendMonth post_G_X1_appendMonth := by
  refine ct_of (by decide) (fun _ => Nat.le_of_ble_eq_true rfl) ?_
  intro X G Q ad σ a hl hR E hG R hM hv hp
  obtain ⟨a0, a1⟩ := a
  have k_a0 : isLand_ a0 := tvLand_ (hv (20, a0) (List.mem_of_getElem? (i := 0) rfl))
  have r_a0 : 10 ≤ a0 ∧ a0 ≤ 76 := by unfold isLand_ at k_a0; omega
  have r_a1 : -2147483648 ≤ a1 ∧ a1 ≤ 2147483647 := hv (0, a1) (List.mem_of_getElem? (i := 1) rfl)
  have hp0 : σ a0 3 ≤ 7 := hp.1
  have hp1 : 0 ≤ a1 := hp.2.1
  have hp2 : a1 ≤ 60 := hp.2.2.1
  have hp3 : σ a0 7 + a1 ≤ 480 := hp.2.2.2
  have B := @bk_ X G Q 0 0 ad SHS_ RX1 cX1_appendMonth 2 none flX1 plX1 knX1 [] _ _ none kX1_appendMonth [] flX1_ok plX1_ok knX1_ok eX1_appendMonth oX1_appendMonth
    (fun _ h => absurd h List.not_mem_nil) R sok_no E
  show WP_ X G Q 0 0 ad SHS_ σ 0 [(20, a0), (0, a1)] []
  refine B rfl ?_
  intro z1 ez1 hz1
  have hz1 : (0 : Int) ≤ z1 ∧ z1 ≤ (8 : Int) := hz1
  refine And.intro (by omega) ?_
  refine And.intro (by show (0 : Int) ≤ _ ∧ _ ≤ (60 : Int); omega) ?_
  intro σ2 e3
  intro z4 ez4 hz4
  have hz4 : (0 : Int) ≤ z4 ∧ z4 ≤ (8 : Int) := hz4
  try have t5 : σ2 a0 3 = σ a0 3 := (ups_r e3 (by omega))
  refine And.intro (by omega) ?_
  refine And.intro (by omega) ?_
  intro σ6 e7
  intro z8 ez8 hz8
  have hz8 : (0 : Int) ≤ z8 ∧ z8 ≤ (480 : Int) := hz8
  try have t9 : σ6 a0 7 = σ a0 7 := ((ups_r e7 (by omega)).trans (ups_r e3 (by omega)))
  try have t10 : σ6 a0 7 = σ2 a0 7 := (ups_r e7 (by omega))
  refine And.intro (by omega) ?_
  refine And.intro (by omega) ?_
  intro σ11 e12
  refine Exists.intro 0 (And.intro rfl ?_)
  have t13 : σ11 a0 3 = z4 + 1 := ((ups_r e12 (by omega))).trans (ups_v e7)
  have t14 : σ11 a0 7 = z8 + a1 := ups_v e12
  try have t15 : σ11 a0 1 = σ a0 1 := ((ups_r e12 (by omega)).trans ((ups_r e7 (by omega)).trans (ups_r e3 (by omega))))
  try have t16 : σ11 a0 1 = σ6 a0 1 := (ups_r e12 (by omega))
  exact (And.intro (by show σ11 a0 3 = σ a0 3 + 1; omega) (And.intro (by show σ11 a0 7 = σ a0 7 + a1; omega) (And.intro (by show σ11 a0 1 = σ a0 1; omega) (fun k j hk => ((ups_r e12 (by omega)).trans ((ups_r e7 (by omega)).trans (ups_r e3 (by omega))))))))
def as_G_X1_hasWeekday : Int × Int → List Sv_t := fun a => [(20, a.1), (0, a.2)]
def pre_G_X1_hasWeekday : Int × Int → Me_t → Prop := fun a σ => True
def post_G_X1_hasWeekday : Int × Int → Me_t → Int → Me_t → Prop := fun a σ z σ' => (0 ≤ z ∧ z ≤ 1) ∧ (σ = σ')
set_option maxHeartbeats 8000000 in
set_option maxRecDepth 100000 in
theorem ct_G_X1_hasWeekday (l : Launch) : CT_ l yX1_hasWeekday cX1_hasWeekday 2 (some .boolean) 0 0 as_G_X1_hasWeekday (rmI_) pre_G_X1_hasWeekday post_G_X1_hasWeekday := by
  refine ct_of (by decide) (fun _ => Nat.le_of_ble_eq_true rfl) ?_
  intro X G Q ad σ a hl hR E hG R hM hv hp
  obtain ⟨a0, a1⟩ := a
  have k_a0 : isLand_ a0 := tvLand_ (hv (20, a0) (List.mem_of_getElem? (i := 0) rfl))
  have r_a0 : 10 ≤ a0 ∧ a0 ≤ 76 := by unfold isLand_ at k_a0; omega
  have r_a1 : -2147483648 ≤ a1 ∧ a1 ≤ 2147483647 := hv (0, a1) (List.mem_of_getElem? (i := 1) rfl)
  have B := @bk_ X G Q 0 0 ad SHS_ RX1 cX1_hasWeekday 2 (some .boolean) flX1 plX1 knX1 [] _ _ none kX1_hasWeekday [] flX1_ok plX1_ok knX1_ok eX1_hasWeekday oX1_hasWeekday
    (fun _ h => absurd h List.not_mem_nil) R sok_no E
  show WP_ X G Q 0 0 ad SHS_ σ 0 [(20, a0), (0, a1)] []
  refine B rfl ?_
  refine And.intro (fun h1 => ?_) (fun h1 => ?_)
  · skip
    refine B rfl ?_
    refine And.intro (by omega) ?_
    refine Exists.intro _ (And.intro rfl ?_)
    exact (And.intro (by show 0 ≤ 0 ∧ 0 ≤ 1; omega) rfl)
  · skip
    intro z2 ez2 hz2
    have hz2 : (0 : Int) ≤ z2 ∧ z2 ≤ (10 : Int) := hz2
    refine And.intro (fun h3 => ?_) (fun h3 => ?_)
    · skip
      refine B rfl ?_
      refine And.intro (by omega) ?_
      refine Exists.intro _ (And.intro rfl ?_)
      exact (And.intro (by show 0 ≤ 0 ∧ 0 ≤ 1; omega) rfl)
    · skip
      refine B rfl ?_
      refine And.intro (by omega) ?_
      refine Exists.intro _ (And.intro rfl ?_)
      exact (And.intro (by show 0 ≤ 1 ∧ 1 ≤ 1; omega) rfl)
def as_G_X1_isLeapYear : Int × Int → List Sv_t := fun a => [(20, a.1), (0, a.2)]
def pre_G_X1_isLeapYear : Int × Int → Me_t → Prop := fun a σ => (0 ≤ a.2)
def post_G_X1_isLeapYear : Int × Int → Me_t → Int → Me_t → Prop := fun a σ z σ' => (0 ≤ z ∧ z ≤ 1) ∧ (σ = σ')
set_option maxHeartbeats 8000000 in
set_option maxRecDepth 100000 in
theorem ct_G_X1_isLeapYear (l : Launch) : CT_ l yX1_isLeapYear cX1_isLeapYear 2 (some .boolean) 0 0 as_G_X1_isLeapYear (rmI_) pre_G_X1_isLeapYear post_G_X1_isLeapYear := by
  refine ct_of (by decide) (fun _ => Nat.le_of_ble_eq_true rfl) ?_
  intro X G Q ad σ a hl hR E hG R hM hv hp
  obtain ⟨a0, a1⟩ := a
  have k_a0 : isLand_ a0 := tvLand_ (hv (20, a0) (List.mem_of_getElem? (i := 0) rfl))
  have r_a0 : 10 ≤ a0 ∧ a0 ≤ 76 := by unfold isLand_ at k_a0; omega
  have r_a1 : -2147483648 ≤ a1 ∧ a1 ≤ 2147483647 := hv (0, a1) (List.mem_of_getElem? (i := 1) rfl)
  have hp0 : 0 ≤ a1 := hp
  have B := @bk_ X G Q 0 0 ad SHS_ RX1 cX1_isLeapYear 2 (some .boolean) flX1 plX1 knX1 [] _ _ none kX1_isLeapYear [] flX1_ok plX1_ok knX1_ok eX1_isLeapYear oX1_isLeapYear
    (fun _ h => absurd h List.not_mem_nil) R sok_no E
  show WP_ X G Q 0 0 ad SHS_ σ 0 [(20, a0), (0, a1)] []
  refine B rfl ?_
  intro z1 ez1 hz1
  have hz1 : (0 : Int) ≤ z1 ∧ z1 ≤ (9 : Int) := hz1
  refine And.intro (fun h2 => ?_) (fun h2 => ?_)
  · skip
    refine B rfl ?_
    refine And.intro (by omega) ?_
    refine Exists.intro _ (And.intro rfl ?_)
    exact (And.intro (by show 0 ≤ 0 ∧ 0 ≤ 1; omega) rfl)
  · skip
    intro z3 ez3 hz3
    have hz3 : (0 : Int) ≤ z3 ∧ z3 ≤ (9 : Int) := hz3
    have q4 := tmod_r (x := a1) (y := z3) (by omega) (by omega)
    refine And.intro (by omega) ?_
    refine And.intro (fun h5 => ?_) (fun h5 => ?_)
    · skip
      refine B rfl ?_
      refine And.intro (by omega) ?_
      refine Exists.intro _ (And.intro rfl ?_)
      exact (And.intro (by show 0 ≤ 0 ∧ 0 ≤ 1; omega) rfl)
    · skip
      refine B rfl ?_
      refine And.intro (by omega) ?_
      refine Exists.intro _ (And.intro rfl ?_)
      exact (And.intro (by show 0 ≤ 1 ∧ 1 ≤ 1; omega) rfl)
def as_G_X1_lengthIn : Int × Int × Int → List Sv_t := fun a => [(20, a.1), (0, a.2.1), (0, a.2.2)]
def pre_G_X1_lengthIn : Int × Int × Int → Me_t → Prop := fun a σ => (0 ≤ a.2.1) ∧ (a.2.1 ≤ 7) ∧ (0 ≤ a.2.2)
def post_G_X1_lengthIn : Int × Int × Int → Me_t → Int → Me_t → Prop := fun a σ z σ' => (0 ≤ z ∧ z ≤ 69) ∧ (σ = σ')
set_option maxHeartbeats 8000000 in
set_option maxRecDepth 100000 in
theorem ct_G_X1_lengthIn (l : Launch) : CT_ l yX1_lengthIn cX1_lengthIn 3 (some .int) 1 21 as_G_X1_lengthIn (rmI_) pre_G_X1_lengthIn post_G_X1_lengthIn := by
  refine ct_of (by decide) (fun _ => Nat.le_of_ble_eq_true rfl) ?_
  intro X G Q ad σ a hl hR E hG R hM hv hp
  obtain ⟨a0, a1, a2⟩ := a
  have k_a0 : isLand_ a0 := tvLand_ (hv (20, a0) (List.mem_of_getElem? (i := 0) rfl))
  have r_a0 : 10 ≤ a0 ∧ a0 ≤ 76 := by unfold isLand_ at k_a0; omega
  have r_a1 : -2147483648 ≤ a1 ∧ a1 ≤ 2147483647 := hv (0, a1) (List.mem_of_getElem? (i := 1) rfl)
  have r_a2 : -2147483648 ≤ a2 ∧ a2 ≤ 2147483647 := hv (0, a2) (List.mem_of_getElem? (i := 2) rfl)
  have hp0 : 0 ≤ a1 := hp.1
  have hp1 : a1 ≤ 7 := hp.2.1
  have hp2 : 0 ≤ a2 := hp.2.2
  have B := @bk_ X G Q 0 0 ad SHS_ RX1 cX1_lengthIn 3 (some .int) flX1 plX1 knX1 [(92, 2, TR_ as_G_X1_isLeapYear (rmI_) pre_G_X1_isLeapYear post_G_X1_isLeapYear)] _ _ none kX1_lengthIn [] flX1_ok plX1_ok knX1_ok eX1_lengthIn oX1_lengthIn
    (List.forall_mem_cons.mpr ⟨cok_v (t := 10) (c := 1) (N := 9) (n := 1) (idx := 46) E (ct_G_X1_isLeapYear X.2.1) (by rw [hR]; decide) (Nat.zero_le _) (Nat.zero_le _) hG rfl rfl ⟨rfl, by decide, by decide, by decide⟩ (fun _ => ⟨_, _, rfl, rfl⟩) wl_X1_46 wi_X1_isLeapYear ws_X1_isLeapYear wn_X1 wc_X1_isLeapYear, fun _ h => absurd h List.not_mem_nil⟩) R sok_no E
  show WP_ X G Q 0 0 ad SHS_ σ 0 [(20, a0), (0, a1), (0, a2)] []
  refine B rfl ?_
  intro z1 ez1 hz1
  have hz1 : ((-1) : Int) ≤ z1 ∧ z1 ≤ (7 : Int) := hz1
  refine And.intro (fun h2 => ?_) (fun h2 => ?_)
  · skip
    refine B rfl ?_
    refine And.intro (by omega) ?_
    intro z3 ez3 hz3
    have hz3 : (0 : Int) ≤ z3 ∧ z3 ≤ (60 : Int) := hz3
    refine Exists.intro _ (And.intro rfl ?_)
    exact (And.intro (by show 0 ≤ z3 ∧ z3 ≤ 69; omega) rfl)
  · skip
    refine Exists.intro (a0, a2) (And.intro rfl (And.intro (by show 0 ≤ a2; omega) ?_))
    rintro z4 m_ h5
    obtain rfl : σ = m_ := h5.2
    have h6 : 0 ≤ z4 ∧ z4 ≤ 1 := h5.1
    refine And.intro (fun h7 => ?_) (fun h7 => ?_)
    · skip
      refine B rfl ?_
      refine And.intro (by omega) ?_
      intro z8 ez8 hz8
      have hz8 : (0 : Int) ≤ z8 ∧ z8 ≤ (60 : Int) := hz8
      refine Exists.intro _ (And.intro rfl ?_)
      exact (And.intro (by show 0 ≤ z8 ∧ z8 ≤ 69; omega) rfl)
    · skip
      refine And.intro (by omega) ?_
      intro z9 ez9 hz9
      have hz9 : (0 : Int) ≤ z9 ∧ z9 ≤ (60 : Int) := hz9
      intro z10 ez10 hz10
      have hz10 : (0 : Int) ≤ z10 ∧ z10 ≤ (9 : Int) := hz10
      refine And.intro (by omega) ?_
      refine B rfl ?_
      refine Exists.intro _ (And.intro rfl ?_)
      exact (And.intro (by show 0 ≤ (z9 + z10) ∧ (z9 + z10) ≤ 69; omega) rfl)
def as_G_X1_leapCycle : Int → List Sv_t := fun a => [(20, a)]
def pre_G_X1_leapCycle : Int → Me_t → Prop := fun a σ => True
def post_G_X1_leapCycle : Int → Me_t → Int → Me_t → Prop := fun a σ z σ' => (0 ≤ z ∧ z ≤ 4329) ∧ (σ = σ')
set_option maxHeartbeats 8000000 in
set_option maxRecDepth 100000 in
theorem ct_G_X1_leapCycle (l : Launch) : CT_ l yX1_leapCycle cX1_leapCycle 1 (some .int) 0 0 as_G_X1_leapCycle (rmI_) pre_G_X1_leapCycle post_G_X1_leapCycle := by
  refine ct_of (by decide) (fun _ => Nat.le_of_ble_eq_true rfl) ?_
  intro X G Q ad σ a hl hR E hG R hM hv hp
  obtain ⟨a0, rfl⟩ : ∃ q : Int, q = a := ⟨_, rfl⟩
  have k_a0 : isLand_ a0 := tvLand_ (hv (20, a0) (List.mem_of_getElem? (i := 0) rfl))
  have r_a0 : 10 ≤ a0 ∧ a0 ≤ 76 := by unfold isLand_ at k_a0; omega
  have B := @bk_ X G Q 0 0 ad SHS_ RX1 cX1_leapCycle 1 (some .int) flX1 plX1 knX1 [] _ _ none kX1_leapCycle [] flX1_ok plX1_ok knX1_ok eX1_leapCycle oX1_leapCycle
    (fun _ h => absurd h List.not_mem_nil) R sok_no E
  show WP_ X G Q 0 0 ad SHS_ σ 0 [(20, a0)] []
  refine B rfl ?_
  intro z1 ez1 hz1
  have hz1 : (0 : Int) ≤ z1 ∧ z1 ≤ (9 : Int) := hz1
  refine And.intro (fun h2 => ?_) (fun h2 => ?_)
  · skip
    refine B rfl ?_
    intro z3 ez3 hz3
    have hz3 : (0 : Int) ≤ z3 ∧ z3 ≤ (480 : Int) := hz3
    refine Exists.intro _ (And.intro rfl ?_)
    exact (And.intro (by show 0 ≤ z3 ∧ z3 ≤ 4329; omega) rfl)
  · skip
    intro z4 ez4 hz4
    have hz4 : (0 : Int) ≤ z4 ∧ z4 ≤ (9 : Int) := hz4
    intro z5 ez5 hz5
    have hz5 : (0 : Int) ≤ z5 ∧ z5 ≤ (480 : Int) := hz5
    have q6 : 0 ≤ z4 * z5 ∧ z4 * z5 ≤ 4320 := mul_r (A := 9) (B := 480) (by omega) (by omega) (by omega) (by omega)
    refine And.intro (by omega) ?_
    intro z7 ez7 hz7
    have hz7 : (0 : Int) ≤ z7 ∧ z7 ≤ (9 : Int) := hz7
    refine And.intro (by omega) ?_
    refine B rfl ?_
    refine Exists.intro _ (And.intro rfl ?_)
    exact (And.intro (by show 0 ≤ ((z4 * z5) + z7) ∧ ((z4 * z5) + z7) ≤ 4329; omega) rfl)
def as_G_X1_dayOn : Int × Int × Int × Int → List Sv_t := fun a => [(20, a.1), (0, a.2.1), (0, a.2.2.1), (0, a.2.2.2)]
def pre_G_X1_dayOn : Int × Int × Int × Int → Me_t → Prop := fun a σ => (0 ≤ a.2.1) ∧ (a.2.1 ≤ 2100) ∧ (0 ≤ a.2.2.1) ∧ (a.2.2.1 ≤ 100) ∧ (0 ≤ a.2.2.2) ∧ (a.2.2.2 ≤ 100)
def post_G_X1_dayOn : Int × Int × Int × Int → Me_t → Int → Me_t → Prop := fun a σ z σ' => (0 ≤ z ∧ z ≤ 2000000) ∧ (σ = σ')
set_option maxHeartbeats 8000000 in
set_option maxRecDepth 100000 in
theorem ct_G_X1_dayOn (l : Launch) : CT_ l yX1_dayOn cX1_dayOn 7 (some .int) 1 21 as_G_X1_dayOn (rmI_) pre_G_X1_dayOn post_G_X1_dayOn := by
  refine ct_of (by decide) (fun _ => Nat.le_of_ble_eq_true rfl) ?_
  intro X G Q ad σ a hl hR E hG R hM hv hp
  obtain ⟨a0, a1, a2, a3⟩ := a
  have k_a0 : isLand_ a0 := tvLand_ (hv (20, a0) (List.mem_of_getElem? (i := 0) rfl))
  have r_a0 : 10 ≤ a0 ∧ a0 ≤ 76 := by unfold isLand_ at k_a0; omega
  have r_a1 : -2147483648 ≤ a1 ∧ a1 ≤ 2147483647 := hv (0, a1) (List.mem_of_getElem? (i := 1) rfl)
  have r_a2 : -2147483648 ≤ a2 ∧ a2 ≤ 2147483647 := hv (0, a2) (List.mem_of_getElem? (i := 2) rfl)
  have r_a3 : -2147483648 ≤ a3 ∧ a3 ≤ 2147483647 := hv (0, a3) (List.mem_of_getElem? (i := 3) rfl)
  have hp0 : 0 ≤ a1 := hp.1
  have hp1 : a1 ≤ 2100 := hp.2.1
  have hp2 : 0 ≤ a2 := hp.2.2.1
  have hp3 : a2 ≤ 100 := hp.2.2.2.1
  have hp4 : 0 ≤ a3 := hp.2.2.2.2.1
  have hp5 : a3 ≤ 100 := hp.2.2.2.2.2
  have B := @bk_ X G Q 0 0 ad SHS_ RX1 cX1_dayOn 7 (some .int) flX1 plX1 knX1 [(92, 2, TR_ as_G_X1_isLeapYear (rmI_) pre_G_X1_isLeapYear post_G_X1_isLeapYear)] _ _ none kX1_dayOn [52] flX1_ok plX1_ok knX1_ok eX1_dayOn oX1_dayOn
    (List.forall_mem_cons.mpr ⟨cok_v (t := 10) (c := 1) (N := 9) (n := 1) (idx := 46) E (ct_G_X1_isLeapYear X.2.1) (by rw [hR]; decide) (Nat.zero_le _) (Nat.zero_le _) hG rfl rfl ⟨rfl, by decide, by decide, by decide⟩ (fun _ => ⟨_, _, rfl, rfl⟩) wl_X1_46 wi_X1_isLeapYear ws_X1_isLeapYear wn_X1 wc_X1_isLeapYear, fun _ h => absurd h List.not_mem_nil⟩) R sok_no E
  show WP_ X G Q 0 0 ad SHS_ σ 0 [(20, a0), (0, a1), (0, a2), (0, a3), (9, 0), (9, 0), (9, 0)] []
  refine B rfl ?_
  intro z1 ez1 hz1
  have hz1 : (0 : Int) ≤ z1 ∧ z1 ≤ (9 : Int) := hz1
  refine And.intro (fun h2 => ?_) (fun h2 => ?_)
  · skip
    refine B rfl ?_
    intro z3 ez3 hz3
    have hz3 : (0 : Int) ≤ z3 ∧ z3 ≤ (999 : Int) := hz3
    intro z4 ez4 hz4
    have hz4 : (0 : Int) ≤ z4 ∧ z4 ≤ (480 : Int) := hz4
    have q5 : 0 ≤ a1 * z4 ∧ a1 * z4 ≤ 1008000 := mul_r (A := 2100) (B := 480) (by omega) (by omega) (by omega) (by omega)
    refine And.intro (by omega) ?_
    refine And.intro (by omega) ?_
    intro z6 ez6 hz6
    have hz6 : (0 : Int) ≤ z6 ∧ z6 ≤ (9 : Int) := hz6
    refine And.intro (by omega) ?_
    refine And.intro (by omega) ?_
    refine And.intro (by omega) ?_
    refine wdrop_ (L' := [(20, a0), (0, a1), (0, a2), (9, 0), (9, 0), (0, ((z3 + (a1 * z4)) + (0 * z6)) + a3), (0, 0)]) ⟨Or.inr rfl, ⟨Or.inr rfl, ⟨Or.inr rfl, ⟨Or.inl rfl, ⟨Or.inl rfl, ⟨Or.inr rfl, ⟨Or.inr rfl, trivial⟩⟩⟩⟩⟩⟩⟩ ?_
    have lp_52 : ∀ (nq_ : Nat) (v5 : Int) (v6 : Int), (0 ≤ v6) → (v6 ≤ 8) → (0 ≤ v5) → (v5 ≤ 1100000 + 60 * v6) → (8 - v6).toNat < nq_ → WP_ X G Q 0 0 ad SHS_ σ 52 [(20, a0), (0, a1), (0, a2), (9, 0), (9, 0), (0, v5), (0, v6)] [] := by
      intro nq_
      induction nq_ with
      | zero => intros; omega
      | succ nq_ ih_52 =>
        intro v5 v6 hi52_0 hi52_1 hi52_2 hi52_3 hm52
        refine B rfl ?_
        refine And.intro (fun h7 => ?_) (fun h7 => ?_)
        · skip
          refine B rfl ?_
          intro z8 ez8 hz8
          have hz8 : ((-1) : Int) ≤ z8 ∧ z8 ≤ (7 : Int) := hz8
          refine And.intro (fun h9 => ?_) (fun h9 => ?_)
          · skip
            refine B rfl ?_
            refine Exists.intro _ (And.intro rfl ?_)
            exact (And.intro (by show 0 ≤ v5 ∧ v5 ≤ 2000000; omega) rfl)
          · skip
            refine Exists.intro (a0, a1) (And.intro rfl (And.intro (by show 0 ≤ a1; omega) ?_))
            rintro z10 m_ h11
            obtain rfl : σ = m_ := h11.2
            have h12 : 0 ≤ z10 ∧ z10 ≤ 1 := h11.1
            refine And.intro (fun h13 => ?_) (fun h13 => ?_)
            · skip
              refine B rfl ?_
              refine Exists.intro _ (And.intro rfl ?_)
              exact (And.intro (by show 0 ≤ v5 ∧ v5 ≤ 2000000; omega) rfl)
            · skip
              intro z14 ez14 hz14
              have hz14 : (0 : Int) ≤ z14 ∧ z14 ≤ (9 : Int) := hz14
              refine And.intro (by omega) ?_
              refine B rfl ?_
              refine Exists.intro _ (And.intro rfl ?_)
              exact (And.intro (by show 0 ≤ (v5 + z14) ∧ (v5 + z14) ≤ 2000000; omega) rfl)
        · skip
          intro z15 ez15 hz15
          have hz15 : (0 : Int) ≤ z15 ∧ z15 ≤ (8 : Int) := hz15
          refine And.intro (fun h16 => ?_) (fun h16 => ?_)
          · skip
            refine B rfl ?_
            intro z17 ez17 hz17
            have hz17 : ((-1) : Int) ≤ z17 ∧ z17 ≤ (7 : Int) := hz17
            refine And.intro (fun h18 => ?_) (fun h18 => ?_)
            · skip
              refine B rfl ?_
              refine Exists.intro _ (And.intro rfl ?_)
              exact (And.intro (by show 0 ≤ v5 ∧ v5 ≤ 2000000; omega) rfl)
            · skip
              refine Exists.intro (a0, a1) (And.intro rfl (And.intro (by show 0 ≤ a1; omega) ?_))
              rintro z19 m_ h20
              obtain rfl : σ = m_ := h20.2
              have h21 : 0 ≤ z19 ∧ z19 ≤ 1 := h20.1
              refine And.intro (fun h22 => ?_) (fun h22 => ?_)
              · skip
                refine B rfl ?_
                refine Exists.intro _ (And.intro rfl ?_)
                exact (And.intro (by show 0 ≤ v5 ∧ v5 ≤ 2000000; omega) rfl)
              · skip
                intro z23 ez23 hz23
                have hz23 : (0 : Int) ≤ z23 ∧ z23 ≤ (9 : Int) := hz23
                refine And.intro (by omega) ?_
                refine B rfl ?_
                refine Exists.intro _ (And.intro rfl ?_)
                exact (And.intro (by show 0 ≤ (v5 + z23) ∧ (v5 + z23) ≤ 2000000; omega) rfl)
          · skip
            refine And.intro (by omega) ?_
            intro z24 ez24 hz24
            have hz24 : (0 : Int) ≤ z24 ∧ z24 ≤ (60 : Int) := hz24
            refine And.intro (by omega) ?_
            refine And.intro (by omega) ?_
            exact ih_52 (v5 + z24) (v6 + 1) (by show 0 ≤ (v6 + 1); omega) (by show (v6 + 1) ≤ 8; omega) (by show 0 ≤ (v5 + z24); omega) (by show (v5 + z24) ≤ 1100000 + 60 * (v6 + 1); omega) (by omega)
    exact lp_52 (((8 - 0).toNat) + 1) (((z3 + (a1 * z4)) + (0 * z6)) + a3) 0 (by show 0 ≤ 0; omega) (by show 0 ≤ 8; omega) (by show 0 ≤ (((z3 + (a1 * z4)) + (0 * z6)) + a3); omega) (by show (((z3 + (a1 * z4)) + (0 * z6)) + a3) ≤ 1100000 + 60 * 0; omega) (by omega)
  · skip
    intro z25 ez25 hz25
    have hz25 : (0 : Int) ≤ z25 ∧ z25 ≤ (9 : Int) := hz25
    refine And.intro (by omega) ?_
    refine And.intro (by omega) ?_
    intro z26 ez26 hz26
    have hz26 : (0 : Int) ≤ z26 ∧ z26 ≤ (9 : Int) := hz26
    have q27 := tdiv_r (x := (a1 + z25) - 1) (y := z26) (by omega) (by omega)
    refine And.intro (by omega) ?_
    refine B rfl ?_
    intro z28 ez28 hz28
    have hz28 : (0 : Int) ≤ z28 ∧ z28 ≤ (999 : Int) := hz28
    intro z29 ez29 hz29
    have hz29 : (0 : Int) ≤ z29 ∧ z29 ≤ (480 : Int) := hz29
    have q30 : 0 ≤ a1 * z29 ∧ a1 * z29 ≤ 1008000 := mul_r (A := 2100) (B := 480) (by omega) (by omega) (by omega) (by omega)
    refine And.intro (by omega) ?_
    refine And.intro (by omega) ?_
    intro z31 ez31 hz31
    have hz31 : (0 : Int) ≤ z31 ∧ z31 ≤ (9 : Int) := hz31
    have q32 : 0 ≤ (Int.tdiv ((a1 + z25) - 1) z26) * z31 ∧ (Int.tdiv ((a1 + z25) - 1) z26) * z31 ≤ 19800 := mul_r (A := 2200) (B := 9) (by omega) (by omega) (by omega) (by omega)
    refine And.intro (by omega) ?_
    refine And.intro (by omega) ?_
    refine And.intro (by omega) ?_
    refine wdrop_ (L' := [(20, a0), (0, a1), (0, a2), (9, 0), (9, 0), (0, ((z28 + (a1 * z29)) + ((Int.tdiv ((a1 + z25) - 1) z26) * z31)) + a3), (0, 0)]) ⟨Or.inr rfl, ⟨Or.inr rfl, ⟨Or.inr rfl, ⟨Or.inl rfl, ⟨Or.inl rfl, ⟨Or.inr rfl, ⟨Or.inr rfl, trivial⟩⟩⟩⟩⟩⟩⟩ ?_
    have lp_52 : ∀ (nq_ : Nat) (v5_1 : Int) (v6_1 : Int), (0 ≤ v6_1) → (v6_1 ≤ 8) → (0 ≤ v5_1) → (v5_1 ≤ 1100000 + 60 * v6_1) → (8 - v6_1).toNat < nq_ → WP_ X G Q 0 0 ad SHS_ σ 52 [(20, a0), (0, a1), (0, a2), (9, 0), (9, 0), (0, v5_1), (0, v6_1)] [] := by
      intro nq_
      induction nq_ with
      | zero => intros; omega
      | succ nq_ ih_52 =>
        intro v5_1 v6_1 hi52_0 hi52_1 hi52_2 hi52_3 hm52
        refine B rfl ?_
        refine And.intro (fun h33 => ?_) (fun h33 => ?_)
        · skip
          refine B rfl ?_
          intro z34 ez34 hz34
          have hz34 : ((-1) : Int) ≤ z34 ∧ z34 ≤ (7 : Int) := hz34
          refine And.intro (fun h35 => ?_) (fun h35 => ?_)
          · skip
            refine B rfl ?_
            refine Exists.intro _ (And.intro rfl ?_)
            exact (And.intro (by show 0 ≤ v5_1 ∧ v5_1 ≤ 2000000; omega) rfl)
          · skip
            refine Exists.intro (a0, a1) (And.intro rfl (And.intro (by show 0 ≤ a1; omega) ?_))
            rintro z36 m_ h37
            obtain rfl : σ = m_ := h37.2
            have h38 : 0 ≤ z36 ∧ z36 ≤ 1 := h37.1
            refine And.intro (fun h39 => ?_) (fun h39 => ?_)
            · skip
              refine B rfl ?_
              refine Exists.intro _ (And.intro rfl ?_)
              exact (And.intro (by show 0 ≤ v5_1 ∧ v5_1 ≤ 2000000; omega) rfl)
            · skip
              intro z40 ez40 hz40
              have hz40 : (0 : Int) ≤ z40 ∧ z40 ≤ (9 : Int) := hz40
              refine And.intro (by omega) ?_
              refine B rfl ?_
              refine Exists.intro _ (And.intro rfl ?_)
              exact (And.intro (by show 0 ≤ (v5_1 + z40) ∧ (v5_1 + z40) ≤ 2000000; omega) rfl)
        · skip
          intro z41 ez41 hz41
          have hz41 : (0 : Int) ≤ z41 ∧ z41 ≤ (8 : Int) := hz41
          refine And.intro (fun h42 => ?_) (fun h42 => ?_)
          · skip
            refine B rfl ?_
            intro z43 ez43 hz43
            have hz43 : ((-1) : Int) ≤ z43 ∧ z43 ≤ (7 : Int) := hz43
            refine And.intro (fun h44 => ?_) (fun h44 => ?_)
            · skip
              refine B rfl ?_
              refine Exists.intro _ (And.intro rfl ?_)
              exact (And.intro (by show 0 ≤ v5_1 ∧ v5_1 ≤ 2000000; omega) rfl)
            · skip
              refine Exists.intro (a0, a1) (And.intro rfl (And.intro (by show 0 ≤ a1; omega) ?_))
              rintro z45 m_ h46
              obtain rfl : σ = m_ := h46.2
              have h47 : 0 ≤ z45 ∧ z45 ≤ 1 := h46.1
              refine And.intro (fun h48 => ?_) (fun h48 => ?_)
              · skip
                refine B rfl ?_
                refine Exists.intro _ (And.intro rfl ?_)
                exact (And.intro (by show 0 ≤ v5_1 ∧ v5_1 ≤ 2000000; omega) rfl)
              · skip
                intro z49 ez49 hz49
                have hz49 : (0 : Int) ≤ z49 ∧ z49 ≤ (9 : Int) := hz49
                refine And.intro (by omega) ?_
                refine B rfl ?_
                refine Exists.intro _ (And.intro rfl ?_)
                exact (And.intro (by show 0 ≤ (v5_1 + z49) ∧ (v5_1 + z49) ≤ 2000000; omega) rfl)
          · skip
            refine And.intro (by omega) ?_
            intro z50 ez50 hz50
            have hz50 : (0 : Int) ≤ z50 ∧ z50 ≤ (60 : Int) := hz50
            refine And.intro (by omega) ?_
            refine And.intro (by omega) ?_
            exact ih_52 (v5_1 + z50) (v6_1 + 1) (by show 0 ≤ (v6_1 + 1); omega) (by show (v6_1 + 1) ≤ 8; omega) (by show 0 ≤ (v5_1 + z50); omega) (by show (v5_1 + z50) ≤ 1100000 + 60 * (v6_1 + 1); omega) (by omega)
    exact lp_52 (((8 - 0).toNat) + 1) (((z28 + (a1 * z29)) + ((Int.tdiv ((a1 + z25) - 1) z26) * z31)) + a3) 0 (by show 0 ≤ 0; omega) (by show 0 ≤ 8; omega) (by show 0 ≤ (((z28 + (a1 * z29)) + ((Int.tdiv ((a1 + z25) - 1) z26) * z31)) + a3); omega) (by show (((z28 + (a1 * z29)) + ((Int.tdiv ((a1 + z25) - 1) z26) * z31)) + a3) ≤ 1100000 + 60 * 0; omega) (by omega)
