def as_S_X8_append : Int → List Sv_t := fun a => [(11, 1), (0, a)]
def pre_S_X8_append : Int → Me_t → Prop := fun a σ => 0 ≤ σ 1 1 ∧ σ 1 1 ≤ 1196
def post_S_X8_append : Int → Me_t → Int → Me_t → Prop := fun a σ z σ' => (∀ k j, 3 ≤ k → σ' k j = σ k j) ∧ σ' 1 1 = σ 1 1 + 4
set_option maxHeartbeats 4000000 in
set_option maxRecDepth 100000 in
theorem ct_S_X8_append (l : Launch) : CT_ l yX8_append cX8_append 3 none 0 0 as_S_X8_append (rmV_) pre_S_X8_append post_S_X8_append := by
  refine ct_of (by decide) (fun _ => Nat.le_of_ble_eq_true rfl) ?_
  intro X G Q ad σ a hl hR E hG R hM hv hp
  obtain ⟨v, rfl⟩ : ∃ q : Int, q = a := ⟨_, rfl⟩
  have r_v : -2147483648 ≤ v ∧ v ≤ 2147483647 := hv (0, v) (List.mem_of_getElem? (i := 1) rfl)
  have B := @bk_ X G Q 0 0 ad SHS_ RX8 cX8_append 3 none flX8 plX8 knX8 [] _ _ none kX8_append [] flX8_ok plX8_ok knX8_ok eX8_append oX8_append
    (fun _ h => absurd h List.not_mem_nil) R sok_no E
  show WP_ X G Q 0 0 ad SHS_ σ 0 [(11, 1), (0, v), (9, 0)] []
  have hp : 0 ≤ σ 1 1 ∧ σ 1 1 ≤ 1196 := hp
  refine B rfl ?_
  refine And.intro (fun h1 => (by exfalso; omega)) (fun h1 => ?_)
  refine And.intro (fun h2 => (by exfalso; omega)) (fun h2 => ?_)
  refine And.intro (by omega) ?_
  refine And.intro (i2b_r _) ?_
  intro σ3 e4
  have t5 : σ3 1 1 = σ 1 1 := by (rw [e4, ups_n (by omega)]) <;> exact rfl
  refine And.intro (by omega) ?_
  intro σ6 e7
  have t8 : σ6 1 1 = (σ3 1 1) + 1 := by rw [e7, ups_s]
  refine And.intro (by omega) ?_
  refine B rfl ?_
  refine And.intro (fun h9 => (by exfalso; omega)) (fun h9 => ?_)
  refine And.intro (fun h10 => (by exfalso; omega)) (fun h10 => ?_)
  refine And.intro (by omega) ?_
  refine And.intro (i2b_r _) ?_
  intro σ11 e12
  have t13 : σ11 1 1 = (σ3 1 1) + 1 := by (rw [e12, ups_n (by omega)]) <;> exact t8
  refine And.intro (by omega) ?_
  intro σ14 e15
  have t16 : σ14 1 1 = (σ11 1 1) + 1 := by rw [e15, ups_s]
  refine And.intro (by omega) ?_
  refine B rfl ?_
  refine And.intro (fun h17 => (by exfalso; omega)) (fun h17 => ?_)
  refine And.intro (fun h18 => (by exfalso; omega)) (fun h18 => ?_)
  refine And.intro (by omega) ?_
  refine And.intro (i2b_r _) ?_
  intro σ19 e20
  have t21 : σ19 1 1 = (σ11 1 1) + 1 := by (rw [e20, ups_n (by omega)]) <;> exact t16
  refine And.intro (by omega) ?_
  intro σ22 e23
  have t24 : σ22 1 1 = (σ19 1 1) + 1 := by rw [e23, ups_s]
  refine And.intro (by omega) ?_
  refine B rfl ?_
  refine And.intro (fun h25 => (by exfalso; omega)) (fun h25 => ?_)
  refine And.intro (fun h26 => (by exfalso; omega)) (fun h26 => ?_)
  refine And.intro (by omega) ?_
  refine And.intro (i2b_r _) ?_
  intro σ27 e28
  have t29 : σ27 1 1 = (σ19 1 1) + 1 := by (rw [e28, ups_n (by omega)]) <;> exact t24
  refine And.intro (by omega) ?_
  intro σ30 e31
  have t32 : σ30 1 1 = (σ27 1 1) + 1 := by rw [e31, ups_s]
  refine And.intro (by omega) ?_
  refine B rfl ?_
  refine And.intro (fun h33 => ?_) (fun h33 => (by exfalso; omega))
  refine B rfl ?_
  refine Exists.intro 0 (And.intro rfl ?_)
  exact And.intro (fun k j hk => by rw [st_n e31 (by omega), st_n e28 (by omega), st_n e23 (by omega), st_n e20 (by omega), st_n e15 (by omega), st_n e12 (by omega), st_n e7 (by omega), st_n e4 (by omega)]) (by omega)
def as_S_X10_feed : Int × Int × Int × Int × Int → List Sv_t := fun a => [(10, 0), (0, a.1), (0, a.2.1), (0, a.2.2.1), (0, a.2.2.2.1), (0, a.2.2.2.2)]
def pre_S_X10_feed : Int × Int × Int × Int × Int → Me_t → Prop := fun a σ => FX_ σ
def post_S_X10_feed : Int × Int × Int × Int × Int → Me_t → Int → Me_t → Prop := fun a σ z σ' => (∀ k j, 86 ≤ k → σ' k j = σ k j) ∧ z = 20
set_option maxHeartbeats 4000000 in
set_option maxRecDepth 100000 in
theorem ct_S_X10_feed (l : Launch) : CT_ l yX10_feed cX10_feed 6 (some .int) 1 22 as_S_X10_feed (rmI_) pre_S_X10_feed post_S_X10_feed := by
  refine ct_of (by decide) (fun _ => Nat.le_refl _) ?_
  intro X G Q ad σ a hl hR E hG R hM hv hp
  obtain ⟨a1, a2, a3, a4, a5⟩ := a
  have r_a1 : -2147483648 ≤ a1 ∧ a1 ≤ 2147483647 := hv (0, a1) (List.mem_of_getElem? (i := 1) rfl)
  have r_a2 : -2147483648 ≤ a2 ∧ a2 ≤ 2147483647 := hv (0, a2) (List.mem_of_getElem? (i := 2) rfl)
  have r_a3 : -2147483648 ≤ a3 ∧ a3 ≤ 2147483647 := hv (0, a3) (List.mem_of_getElem? (i := 3) rfl)
  have r_a4 : -2147483648 ≤ a4 ∧ a4 ≤ 2147483647 := hv (0, a4) (List.mem_of_getElem? (i := 4) rfl)
  have r_a5 : -2147483648 ≤ a5 ∧ a5 ≤ 2147483647 := hv (0, a5) (List.mem_of_getElem? (i := 5) rfl)
  have B := @bk_ X G Q 0 0 ad SHS_ RX10 cX10_feed 6 (some .int) flX10 plX10 knX10 [(186, 2, TR_ as_S_X8_append (rmV_) pre_S_X8_append post_S_X8_append)] _ _ none kX10_feed [] flX10_ok plX10_ok knX10_ok eX10_feed oX10_feed
    (List.forall_mem_cons.mpr ⟨cok_v (t := 1) (c := 8) (N := 2) (n := 1) (idx := 93) E (ct_S_X8_append X.2.1) (by rw [hR]; decide) (Nat.zero_le _) (Nat.zero_le _) hG rfl rfl ⟨rfl, by decide, by decide, by decide⟩ (fun _ => ⟨_, _, rfl, rfl⟩) wl_X10_93 wi_X8_append ws_X8_append wn_X8 wc_X8_append, fun _ h => absurd h List.not_mem_nil⟩) R sok_no E
  show WP_ X G Q 0 0 ad SHS_ σ 0 [(10, 0), (0, a1), (0, a2), (0, a3), (0, a4), (0, a5)] []
  have hp : FX_ σ := hp
  obtain ⟨hC, hS, hN0, hN1, hN2, hN3, hN4, hN5, hF, hP, hT, hI, hRW⟩ := id hp
  refine B rfl ?_
  refine And.intro (by omega) ?_
  refine And.intro (fun h1 => ?_) (fun h1 => (by exfalso; omega))
  refine B rfl ?_
  refine Exists.intro a1 (And.intro rfl (And.intro (by simp only [pre_S_X8_append]; omega) ?_))
  intro z2 σ3 h4
  have n_h4 := h4.2
  try dsimp only at n_h4
  refine Exists.intro a2 (And.intro rfl (And.intro (by simp only [pre_S_X8_append]; omega) ?_))
  intro z5 σ6 h7
  have n_h7 := h7.2
  try dsimp only at n_h7
  refine Exists.intro a3 (And.intro rfl (And.intro (by simp only [pre_S_X8_append]; omega) ?_))
  intro z8 σ9 h10
  have n_h10 := h10.2
  try dsimp only at n_h10
  refine Exists.intro a4 (And.intro rfl (And.intro (by simp only [pre_S_X8_append]; omega) ?_))
  intro z11 σ12 h13
  have n_h13 := h13.2
  try dsimp only at n_h13
  refine Exists.intro a5 (And.intro rfl (And.intro (by simp only [pre_S_X8_append]; omega) ?_))
  intro z14 σ15 h16
  have n_h16 := h16.2
  try dsimp only at n_h16
  refine Exists.intro _ (And.intro rfl ?_)
  refine And.intro (fun k j hk => by rw [h16.1 k j (by omega), h13.1 k j (by omega), h10.1 k j (by omega), h7.1 k j (by omega), h4.1 k j (by omega)]) ?_
  (try dsimp only)
  omega
def as_S_X9_clear : Int → List Sv_t := fun a => [(15, a)]
def pre_S_X9_clear : Int → Me_t → Prop := fun a σ => True
def post_S_X9_clear : Int → Me_t → Int → Me_t → Prop := fun a σ z σ' => (∀ k j, k ≠ a → σ' k j = σ k j) ∧ σ' a 0 = 0
set_option maxHeartbeats 4000000 in
set_option maxRecDepth 100000 in
theorem ct_S_X9_clear (l : Launch) : CT_ l yX9_clear cX9_clear 1 none 0 0 as_S_X9_clear (rmV_) pre_S_X9_clear post_S_X9_clear := by
  refine ct_of (by decide) (fun _ => Nat.le_refl _) ?_
  intro X G Q ad σ a hl hR E hG R hM hv hp
  obtain ⟨w, rfl⟩ : ∃ q : Int, q = a := ⟨_, rfl⟩
  have B := @bk_ X G Q 0 0 ad SHS_ RX9 cX9_clear 1 none flX9 plX9 knX9 [] _ _ none kX9_clear [] flX9_ok plX9_ok knX9_ok eX9_clear oX9_clear
    (fun _ h => absurd h List.not_mem_nil) R sok_no E
  show WP_ X G Q 0 0 ad SHS_ σ 0 [(15, w)] []
  refine B rfl ?_
  intro σ1 e2
  have t3 : σ1 w 0 = 0 := by rw [e2, ups_s]
  intro σ4 e5
  have t6 : σ4 w 0 = 0 := by (rw [e5, ups_n (by omega)]) <;> exact t3
  intro σ7 e8
  have t9 : σ7 w 0 = 0 := by (rw [e8, ups_n (by omega)]) <;> exact t6
  intro σ10 e11
  have t12 : σ10 w 0 = 0 := by (rw [e11, ups_n (by omega)]) <;> exact t9
  intro σ13 e14
  have t15 : σ13 w 0 = 0 := by (rw [e14, ups_n (by omega)]) <;> exact t12
  intro σ16 e17
  have t18 : σ16 w 0 = 0 := by (rw [e17, ups_n (by omega)]) <;> exact t15
  refine Exists.intro 0 (And.intro rfl ?_)
  exact And.intro (fun k j hk => by rw [st_n e17 (by omega), st_n e14 (by omega), st_n e11 (by omega), st_n e8 (by omega), st_n e5 (by omega), st_n e2 (by omega)]) (by omega)
def as_S_X3_step : Unit → List Sv_t := fun a => [(13, 3)]
def pre_S_X3_step : Unit → Me_t → Prop := fun a σ => σ 3 1 = 0 ∧ σ 3 4 = 0
def post_S_X3_step : Unit → Me_t → Int → Me_t → Prop := fun a σ z σ' => (∀ k j, k ≠ 3 → σ' k j = σ k j) ∧ σ' 3 2 = 0 ∧ σ' 3 6 = σ 3 6 ∧ σ' 3 7 = σ 3 7
set_option maxHeartbeats 4000000 in
set_option maxRecDepth 100000 in
theorem ct_S_X3_step (l : Launch) : CT_ l yX3_step cX3_step 1 none 0 0 as_S_X3_step (rmV_) pre_S_X3_step post_S_X3_step := by
  refine ct_of (by decide) (fun _ => Nat.le_refl _) ?_
  intro X G Q ad σ a hl hR E hG R hM hv hp
  have B := @bk_ X G Q 0 0 ad SHS_ RX3 cX3_step 1 none flX3 plX3 knX3 [] _ _ none kX3_step [] flX3_ok plX3_ok knX3_ok eX3_step oX3_step
    (fun _ h => absurd h List.not_mem_nil) R sok_no E
  show WP_ X G Q 0 0 ad SHS_ σ 0 [(13, 3)] []
  have hp : σ 3 1 = 0 ∧ σ 3 4 = 0 := hp
  refine B rfl ?_
  intro σ1 e2
  have t3 : σ1 3 1 = 0 := by (rw [e2, ups_n (by omega)]) <;> exact hp.1
  have t4 : σ1 3 4 = 0 := by (rw [e2, ups_n (by omega)]) <;> exact hp.2
  have t5 : σ1 3 2 = σ 3 2 := by (rw [e2, ups_n (by omega)]) <;> exact rfl
  have t6 : σ1 3 3 = 0 := by (rw [e2, ups_s]) <;> omega
  have t7 : σ1 3 6 = σ 3 6 := by (rw [e2, ups_n (by omega)]) <;> exact rfl
  have t8 : σ1 3 7 = σ 3 7 := by (rw [e2, ups_n (by omega)]) <;> exact rfl
  refine And.intro (fun h9 => ?_) (fun h9 => (by exfalso; omega))
  refine B rfl ?_
  intro σ10 e11
  have t12 : σ10 3 1 = 0 := by (rw [e11, ups_n (by omega)]) <;> exact t3
  have t13 : σ10 3 4 = 0 := by (rw [e11, ups_s]) <;> omega
  have t14 : σ10 3 2 = σ 3 2 := by (rw [e11, ups_n (by omega)]) <;> exact t5
  have t15 : σ10 3 3 = 0 := by (rw [e11, ups_n (by omega)]) <;> exact t6
  have t16 : σ10 3 6 = σ 3 6 := by (rw [e11, ups_n (by omega)]) <;> exact t7
  have t17 : σ10 3 7 = σ 3 7 := by (rw [e11, ups_n (by omega)]) <;> exact t8
  intro σ18 e19
  have t20 : σ18 3 1 = 0 := by (rw [e19, ups_n (by omega)]) <;> exact t12
  have t21 : σ18 3 4 = 0 := by (rw [e19, ups_n (by omega)]) <;> exact t13
  have t22 : σ18 3 2 = σ 3 2 := by (rw [e19, ups_n (by omega)]) <;> exact t14
  have t23 : σ18 3 3 = 0 := by (rw [e19, ups_n (by omega)]) <;> exact t15
  have t24 : σ18 3 6 = σ 3 6 := by (rw [e19, ups_n (by omega)]) <;> exact t16
  have t25 : σ18 3 7 = σ 3 7 := by (rw [e19, ups_n (by omega)]) <;> exact t17
  refine And.intro (fun h26 => ?_) (fun h26 => (by exfalso; omega))
  refine B rfl ?_
  refine And.intro (fun h27 => ?_) (fun h27 => (by exfalso; omega))
  refine B rfl ?_
  refine And.intro (fun h28 => ?_) (fun h28 => (by exfalso; omega))
  refine B rfl ?_
  refine And.intro (fun h29 => ?_) (fun h29 => (by exfalso; omega))
  refine B rfl ?_
  refine And.intro (fun h30 => (by exfalso; omega)) (fun h30 => ?_)
  intro σ31 e32
  have t33 : σ31 3 1 = 0 := by (rw [e32, ups_n (by omega)]) <;> exact t20
  have t34 : σ31 3 4 = 0 := by (rw [e32, ups_n (by omega)]) <;> exact t21
  have t35 : σ31 3 2 = 0 := by rw [e32, ups_s]
  have t36 : σ31 3 3 = 0 := by (rw [e32, ups_n (by omega)]) <;> exact t23
  have t37 : σ31 3 6 = σ 3 6 := by (rw [e32, ups_n (by omega)]) <;> exact t24
  have t38 : σ31 3 7 = σ 3 7 := by (rw [e32, ups_n (by omega)]) <;> exact t25
  refine B rfl ?_
  refine Exists.intro 0 (And.intro rfl ?_)
  exact And.intro (fun k j hk => by rw [st_n e32 (by omega), st_n e19 (by omega), st_n e11 (by omega), st_n e2 (by omega)]) (by omega)
def as_S_X3_read : Int → List Sv_t := fun a => [(13, 3), (11, 1), (15, a)]
def pre_S_X3_read : Int → Me_t → Prop := fun a σ => σ 1 1 = 0 ∧ 16 ≤ a ∧ a ≤ 75
def post_S_X3_read : Int → Me_t → Int → Me_t → Prop := fun a σ z σ' => (∀ k j, (k ≠ 3 ∧ k ≠ a) → σ' k j = σ k j) ∧ σ' 3 6 = 0 ∧ σ' a 0 = 0
set_option maxHeartbeats 4000000 in
set_option maxRecDepth 100000 in
theorem ct_S_X3_read (l : Launch) : CT_ l yX3_read cX3_read 4 none 9 196 as_S_X3_read (rmV_) pre_S_X3_read post_S_X3_read := by
  refine ct_of (by decide) (fun _ => Nat.le_of_ble_eq_true rfl) ?_
  intro X G Q ad σ a hl hR E hG R hM hv hp
  obtain ⟨w, rfl⟩ : ∃ q : Int, q = a := ⟨_, rfl⟩
  have B := @bk_ X G Q 0 0 ad SHS_ RX3 cX3_read 4 none flX3 plX3 knX3 [(82, 1, TR_ as_S_X9_clear (rmV_) pre_S_X9_clear post_S_X9_clear), (92, 1, TR_ as_S_X3_step (rmV_) pre_S_X3_step post_S_X3_step)] _ _ none kX3_read [] flX3_ok plX3_ok knX3_ok eX3_read oX3_read
    (List.forall_mem_cons.mpr ⟨cok_v (t := 5) (c := 9) (N := 10) (n := 0) (idx := 41) E (ct_S_X9_clear X.2.1) (by rw [hR]; decide) (Nat.zero_le _) (Nat.zero_le _) hG rfl rfl ⟨rfl, by decide, by decide, by decide⟩ (fun _ => ⟨_, _, rfl, rfl⟩) wl_X3_41 wi_X9_clear ws_X9_clear wn_X9 wc_X9_clear, List.forall_mem_cons.mpr ⟨cok_v (t := 3) (c := 3) (N := 8) (n := 0) (idx := 46) E (ct_S_X3_step X.2.1) (by rw [hR]; decide) (Nat.zero_le _) (Nat.zero_le _) hG rfl rfl ⟨rfl, by decide, by decide, by decide⟩ (fun _ => ⟨_, _, rfl, rfl⟩) wl_X3_46 wi_X3_step ws_X3_step wn_X3 wc_X3_step, fun _ h => absurd h List.not_mem_nil⟩⟩) R sok_no E
  show WP_ X G Q 0 0 ad SHS_ σ 0 [(13, 3), (11, 1), (15, w), (9, 0)] []
  have hp : σ 1 1 = 0 ∧ 16 ≤ w ∧ w ≤ 75 := hp
  refine B rfl ?_
  intro σ1 e2
  have t3 : σ1 1 1 = 0 := by (rw [e2, ups_n (by omega)]) <;> exact hp.1
  have t4 : σ1 3 1 = σ 3 1 := by (rw [e2, ups_n (by omega)]) <;> exact rfl
  have t5 : σ1 3 4 = σ 3 4 := by (rw [e2, ups_n (by omega)]) <;> exact rfl
  have t6 : σ1 3 6 = σ 3 6 := by (rw [e2, ups_n (by omega)]) <;> exact rfl
  intro σ7 e8
  have t9 : σ7 1 1 = 0 := by (rw [e8, ups_n (by omega)]) <;> exact t3
  have t10 : σ7 3 1 = 0 := by (rw [e8, ups_s]) <;> omega
  have t11 : σ7 3 4 = σ 3 4 := by (rw [e8, ups_n (by omega)]) <;> exact t5
  have t12 : σ7 3 6 = σ 3 6 := by (rw [e8, ups_n (by omega)]) <;> exact t6
  intro σ13 e14
  have t15 : σ13 1 1 = 0 := by (rw [e14, ups_n (by omega)]) <;> exact t9
  have t16 : σ13 3 1 = 0 := by (rw [e14, ups_n (by omega)]) <;> exact t10
  have t17 : σ13 3 4 = σ 3 4 := by (rw [e14, ups_n (by omega)]) <;> exact t11
  have t18 : σ13 3 6 = 0 := by rw [e14, ups_s]
  intro σ19 e20
  have t21 : σ19 1 1 = 0 := by (rw [e20, ups_n (by omega)]) <;> exact t15
  have t22 : σ19 3 1 = 0 := by (rw [e20, ups_n (by omega)]) <;> exact t16
  have t23 : σ19 3 4 = σ 3 4 := by (rw [e20, ups_n (by omega)]) <;> exact t17
  have t24 : σ19 3 6 = 0 := by (rw [e20, ups_n (by omega)]) <;> exact t18
  intro σ25 e26
  have t27 : σ25 1 1 = 0 := by (rw [e26, ups_n (by omega)]) <;> exact t21
  have t28 : σ25 3 1 = 0 := by (rw [e26, ups_n (by omega)]) <;> exact t22
  have t29 : σ25 3 4 = 0 := by rw [e26, ups_s]
  have t30 : σ25 3 6 = 0 := by (rw [e26, ups_n (by omega)]) <;> exact t24
  refine Exists.intro w (And.intro rfl (And.intro trivial ?_))
  intro z31 σ32 h33
  have c34 : σ32 1 1 = 0 := by (rw [h33.1 1 1 (by omega)]) <;> exact t27
  have c35 : σ32 3 1 = 0 := by (rw [h33.1 3 1 (by omega)]) <;> exact t28
  have c36 : σ32 3 4 = 0 := by (rw [h33.1 3 4 (by omega)]) <;> exact t29
  have c37 : σ32 3 6 = 0 := by (rw [h33.1 3 6 (by omega)]) <;> exact t30
  have c38 : σ32 w 0 = 0 := h33.2
  refine Exists.intro () (And.intro rfl (And.intro (by simp only [pre_S_X3_step]; omega) ?_))
  intro z39 σ40 h41
  have c42 : σ40 3 2 = 0 := h41.2.1
  have c43 : σ40 3 6 = 0 := by rw [h41.2.2.1]; exact c37
  have c44 : σ40 w 0 = 0 := by rw [h41.1 w 0 (by omega)]; exact c38
  refine And.intro (fun h45 => (by exfalso; omega)) (fun h45 => ?_)
  refine And.intro (fun h46 => (by exfalso; omega)) (fun h46 => ?_)
  refine And.intro (fun h47 => ?_) (fun h47 => (by exfalso; omega))
  refine B rfl ?_
  refine Exists.intro 0 (And.intro rfl ?_)
  exact And.intro (fun k j hk => by rw [h41.1 k j (by omega), h33.1 k j (by omega), st_n e26 (by omega), st_n e20 (by omega), st_n e14 (by omega), st_n e8 (by omega), st_n e2 (by omega)]) (And.intro c43 c44)
def as_S_X0_forgetAll : Unit → List Sv_t := fun a => [(25, 30)]
def pre_S_X0_forgetAll : Unit → Me_t → Prop := fun a σ => True
def post_S_X0_forgetAll : Unit → Me_t → Int → Me_t → Prop := fun a σ z σ' => (∀ k j, k ≠ 30 → σ' k j = σ k j) ∧ True
set_option maxHeartbeats 4000000 in
set_option maxRecDepth 100000 in
theorem ct_S_X0_forgetAll (l : Launch) : CT_ l yX0_forgetAll cX0_forgetAll 1 none 0 0 as_S_X0_forgetAll (rmV_) pre_S_X0_forgetAll post_S_X0_forgetAll := by
  refine ct_of (by decide) (fun _ => Nat.le_refl _) ?_
  intro X G Q ad σ a hl hR E hG R hM hv hp
  have B := @bk_ X G Q 0 0 ad SHS_ RX0 cX0_forgetAll 1 none flX0 plX0 knX0 [] _ _ none kX0_forgetAll [] flX0_ok plX0_ok knX0_ok eX0_forgetAll oX0_forgetAll
    (fun _ h => absurd h List.not_mem_nil) R sok_no E
  show WP_ X G Q 0 0 ad SHS_ σ 0 [(25, 30)] []
  refine B rfl ?_
  refine And.intro (by omega) ?_
  intro σ1 e2
  refine Exists.intro 0 (And.intro rfl ?_)
  exact And.intro (fun k j hk => by rw [st_n e2 (by omega)]) trivial
def as_S_X10_war : Unit → List Sv_t := fun a => [(10, 0)]
def pre_S_X10_war : Unit → Me_t → Prop := fun a σ => FX_ σ
def post_S_X10_war : Unit → Me_t → Int → Me_t → Prop := fun a σ z σ' => (∀ k j, 86 ≤ k → σ' k j = σ k j) ∧ z = 0
set_option maxHeartbeats 4000000 in
set_option maxRecDepth 100000 in
theorem ct_S_X10_war (l : Launch) : CT_ l yX10_war cX10_war 2 (some .int) 10 219 as_S_X10_war (rmI_) pre_S_X10_war post_S_X10_war := by
  refine ct_of (by decide) (fun _ => Nat.le_of_ble_eq_true rfl) ?_
  intro X G Q ad σ a hl hR E hG R hM hv hp
  have B := @bk_ X G Q 0 0 ad SHS_ RX10 cX10_war 2 (some .int) flX10 plX10 knX10 [(194, 3, TR_ as_S_X3_read (rmV_) pre_S_X3_read post_S_X3_read), (214, 1, TR_ as_S_X0_forgetAll (rmV_) pre_S_X0_forgetAll post_S_X0_forgetAll)] _ _ none kX10_war [] flX10_ok plX10_ok knX10_ok eX10_war oX10_war
    (List.forall_mem_cons.mpr ⟨cok_v (t := 3) (c := 3) (N := 8) (n := 2) (idx := 97) E (ct_S_X3_read X.2.1) (by rw [hR]; decide) (Nat.zero_le _) (Nat.zero_le _) hG rfl rfl ⟨rfl, by decide, by decide, by decide⟩ (fun _ => ⟨_, _, rfl, rfl⟩) wl_X10_97 wi_X3_read ws_X3_read wn_X3 wc_X3_read, List.forall_mem_cons.mpr ⟨cok_v (t := 15) (c := 0) (N := 9) (n := 0) (idx := 107) E (ct_S_X0_forgetAll X.2.1) (by rw [hR]; decide) (Nat.zero_le _) (Nat.zero_le _) hG rfl rfl ⟨rfl, by decide, by decide, by decide⟩ (fun _ => ⟨_, _, rfl, rfl⟩) wl_X10_107 wi_X0_forgetAll ws_X0_forgetAll wn_X0 wc_X0_forgetAll, fun _ h => absurd h List.not_mem_nil⟩⟩) R sok_no E
  show WP_ X G Q 0 0 ad SHS_ σ 0 [(10, 0), (9, 0)] []
  have hp : FX_ σ := hp
  obtain ⟨hC, hS, hN0, hN1, hN2, hN3, hN4, hN5, hF, hP, hT, hI, hRW⟩ := id hp
  refine B rfl ?_
  refine Exists.intro (σ 0 3) (And.intro rfl (And.intro (by simp only [pre_S_X3_read]; omega) ?_))
  intro z1 σ2 h3
  obtain ⟨rf, rp, rq⟩ := h3
  try dsimp only at rf rp rq
  rw [hS] at rf rq
  have c4 : σ2 0 2 = 5 := by rw [rf 0 2 (by omega)]; first | exact hC | exact hS
  have c5 : σ2 0 3 = 16 := by rw [rf 0 3 (by omega)]; first | exact hC | exact hS
  have c6 : σ2 0 12 = σ2 0 12 := rfl
  have c7 : σ2 0 13 = σ2 0 13 := rfl
  intro σ8 e9
  have t10 : σ8 0 2 = 5 := by (rw [e9, ups_n (by omega)]) <;> exact c4
  have t11 : σ8 0 3 = 16 := by (rw [e9, ups_n (by omega)]) <;> exact c5
  have t12 : σ8 3 6 = 0 := by (rw [e9, ups_n (by omega)]) <;> exact rp
  have t13 : σ8 16 0 = 0 := by (rw [e9, ups_n (by omega)]) <;> exact rq
  have t14 : σ8 0 12 = 0 := by (rw [e9, ups_s]) <;> omega
  have t15 : σ8 0 13 = σ2 0 13 := by (rw [e9, ups_n (by omega)]) <;> exact c7
  intro σ16 e17
  have t18 : σ16 0 2 = 5 := by (rw [e17, ups_n (by omega)]) <;> exact t10
  have t19 : σ16 0 3 = 16 := by (rw [e17, ups_n (by omega)]) <;> exact t11
  have t20 : σ16 3 6 = 0 := by (rw [e17, ups_n (by omega)]) <;> exact t12
  have t21 : σ16 16 0 = 0 := by (rw [e17, ups_n (by omega)]) <;> exact t13
  have t22 : σ16 0 12 = 0 := by (rw [e17, ups_n (by omega)]) <;> exact t14
  have t23 : σ16 0 13 = σ8 3 7 := by rw [e17, ups_s]
  refine And.intro (fun h24 => ?_) (fun h24 => (by exfalso; omega))
  refine B rfl ?_
  intro σ25 e26
  have t27 : σ25 0 2 = 16 := by (rw [e26, ups_s]) <;> omega
  have t28 : σ25 0 3 = 16 := by (rw [e26, ups_n (by omega)]) <;> exact t19
  have t29 : σ25 3 6 = 0 := by (rw [e26, ups_n (by omega)]) <;> exact t20
  have t30 : σ25 16 0 = 0 := by (rw [e26, ups_n (by omega)]) <;> exact t21
  have t31 : σ25 0 12 = 0 := by (rw [e26, ups_n (by omega)]) <;> exact t22
  have t32 : σ25 0 13 = σ8 3 7 := by (rw [e26, ups_n (by omega)]) <;> exact t23
  intro σ33 e34
  have t35 : σ33 0 2 = 16 := by (rw [e34, ups_n (by omega)]) <;> exact t27
  have t36 : σ33 0 3 = σ16 0 2 := by rw [e34, ups_s]
  have t37 : σ33 3 6 = 0 := by (rw [e34, ups_n (by omega)]) <;> exact t29
  have t38 : σ33 16 0 = 0 := by (rw [e34, ups_n (by omega)]) <;> exact t30
  have t39 : σ33 0 12 = 0 := by (rw [e34, ups_n (by omega)]) <;> exact t31
  have t40 : σ33 0 13 = σ8 3 7 := by (rw [e34, ups_n (by omega)]) <;> exact t32
  intro σ41 e42
  have t43 : σ41 0 2 = 16 := by (rw [e42, ups_n (by omega)]) <;> exact t35
  have t44 : σ41 0 3 = σ16 0 2 := by (rw [e42, ups_n (by omega)]) <;> exact t36
  have t45 : σ41 3 6 = 0 := by (rw [e42, ups_n (by omega)]) <;> exact t37
  have t46 : σ41 16 0 = 0 := by (rw [e42, ups_n (by omega)]) <;> exact t38
  have t47 : σ41 0 12 = 0 := by (rw [e42, ups_n (by omega)]) <;> exact t39
  have t48 : σ41 0 13 = σ8 3 7 := by (rw [e42, ups_n (by omega)]) <;> exact t40
  refine Exists.intro () (And.intro rfl (And.intro trivial ?_))
  intro z49 σ50 h51
  have c52 : σ50 0 2 = 16 := by (rw [h51.1 0 2 (by omega)]) <;> exact t43
  have c53 : σ50 0 3 = σ16 0 2 := by (rw [h51.1 0 3 (by omega)]) <;> exact t44
  have c54 : σ50 3 6 = 0 := by (rw [h51.1 3 6 (by omega)]) <;> exact t45
  have c55 : σ50 16 0 = 0 := by (rw [h51.1 16 0 (by omega)]) <;> exact t46
  have c56 : σ50 0 12 = 0 := by (rw [h51.1 0 12 (by omega)]) <;> exact t47
  have c57 : σ50 0 13 = σ8 3 7 := by (rw [h51.1 0 13 (by omega)]) <;> exact t48
  refine Exists.intro _ (And.intro rfl ?_)
  refine And.intro (fun k j hk => by rw [h51.1 k j (by omega), st_n e42 (by omega), st_n e34 (by omega), st_n e26 (by omega), st_n e17 (by omega), st_n e9 (by omega), rf k j (by omega)]) ?_
  show σ50 (σ50 0 2) 0 = 0
  rw [c52]
  exact c55
def as_S_X1_copyOf : Int × Int → List Sv_t := fun a => [(20, a.1), (20, a.2)]
def pre_S_X1_copyOf : Int × Int → Me_t → Prop := fun a σ => True
def post_S_X1_copyOf : Int × Int → Me_t → Int → Me_t → Prop := fun a σ z σ' => (∀ k j, (k ≠ a.1 ∧ k ≠ a.1 + 1) → σ' k j = σ k j) ∧ True
set_option maxHeartbeats 4000000 in
set_option maxRecDepth 100000 in
theorem ct_S_X1_copyOf (l : Launch) : CT_ l yX1_copyOf cX1_copyOf 2 none 1 40 as_S_X1_copyOf (rmV_) pre_S_X1_copyOf post_S_X1_copyOf := by
  refine ct_of (by decide) (fun _ => Nat.le_refl _) ?_
  intro X G Q ad σ a hl hR E hG R hM hv hp
  obtain ⟨o, p⟩ := a
  have B := @bk_ X G Q 0 0 ad SHS_ RX1 cX1_copyOf 2 none flX1 plX1 knX1 [(81, 5, TAC_)] _ _ none kX1_copyOf [] flX1_ok plX1_ok knX1_ok eX1_copyOf oX1_copyOf
    (List.forall_mem_cons.mpr ⟨cok_ac (idx := 40) E (by rw [hR]; decide) wa_X1_40, fun _ h => absurd h List.not_mem_nil⟩) R sok_no E
  show WP_ X G Q 0 0 ad SHS_ σ 0 [(20, o), (20, p)] []
  refine B rfl ?_
  intro σ1 e2
  intro σ3 e4
  intro σ5 e6
  intro σ7 e8
  intro σ9 e10
  intro σ11 e12
  intro σ13 e14
  intro σ15 e16
  refine Exists.intro 11 (Exists.intro 11 (Exists.intro 1 (Exists.intro 0 (Exists.intro 0 (Exists.intro 8 (Exists.intro 8 (Exists.intro (p + 1) (Exists.intro (o + 1) (Exists.intro 0 (Exists.intro 0 (Exists.intro 8 (And.intro rfl (And.intro rfl (And.intro rfl (And.intro rfl (And.intro (by decide) (And.intro (by omega) ?_)))))))))))))))))
  intro σ17 e18
  refine Exists.intro 0 (And.intro rfl ?_)
  exact And.intro (fun k j hk => by rw [ac_n e18 (by omega), st_n e16 (by omega), st_n e14 (by omega), st_n e12 (by omega), st_n e10 (by omega), st_n e8 (by omega), st_n e6 (by omega), st_n e4 (by omega), st_n e2 (by omega)]) trivial
def as_S_X9_copyOf : Int × Int → List Sv_t := fun a => [(15, a.1), (15, a.2)]
def pre_S_X9_copyOf : Int × Int → Me_t → Prop := fun a σ => 0 ≤ a.1 ∧ a.1 ≤ 75
def post_S_X9_copyOf : Int × Int → Me_t → Int → Me_t → Prop := fun a σ z σ' => (∀ k j, 86 ≤ k → σ' k j = σ k j) ∧ True
set_option maxHeartbeats 4000000 in
set_option maxRecDepth 100000 in
theorem ct_S_X9_copyOf (l : Launch) : CT_ l yX9_copyOf cX9_copyOf 3 none 2 61 as_S_X9_copyOf (rmV_) pre_S_X9_copyOf post_S_X9_copyOf := by
  refine ct_of (by decide) (fun _ => Nat.le_of_ble_eq_true rfl) ?_
  intro X G Q ad σ a hl hR E hG R hM hv hp
  obtain ⟨w, v⟩ := a
  have B := @bk_ X G Q 0 0 ad SHS_ RX9 cX9_copyOf 3 none flX9 plX9 knX9 [(94, 2, TR_ as_S_X1_copyOf (rmV_) pre_S_X1_copyOf post_S_X1_copyOf), (103, 5, TAC_)] _ _ none kX9_copyOf [] flX9_ok plX9_ok knX9_ok eX9_copyOf oX9_copyOf
    (List.forall_mem_cons.mpr ⟨cok_v (t := 10) (c := 1) (N := 9) (n := 1) (idx := 47) E (ct_S_X1_copyOf X.2.1) (by rw [hR]; decide) (Nat.zero_le _) (Nat.zero_le _) hG rfl rfl ⟨rfl, by decide, by decide, by decide⟩ (fun _ => ⟨_, _, rfl, rfl⟩) wl_X9_47 wi_X1_copyOf ws_X1_copyOf wn_X1 wc_X1_copyOf, List.forall_mem_cons.mpr ⟨cok_ac (idx := 51) E (by rw [hR]; decide) wa_X9_51, fun _ h => absurd h List.not_mem_nil⟩⟩) R sok_no E
  show WP_ X G Q 0 0 ad SHS_ σ 0 [(15, w), (15, v), (9, 0)] []
  have hp : 0 ≤ w ∧ w ≤ 75 := hp
  refine B rfl ?_
  intro σ1 e2
  intro σ3 e4
  intro σ5 e6
  intro σ7 e8
  intro σ9 e10
  intro σ11 e12
  refine And.intro (fun h13 => (by exfalso; omega)) (fun h13 => ?_)
  refine And.intro (by omega) ?_
  refine And.intro (by omega) ?_
  refine Exists.intro ((w + 1) + 4 + 2 * 0, (v + 1) + 4 + 2 * 0) (And.intro rfl (And.intro trivial ?_))
  intro z14 σ15 h16
  refine And.intro (by omega) ?_
  refine B rfl ?_
  refine And.intro (fun h17 => (by exfalso; omega)) (fun h17 => ?_)
  refine And.intro (by omega) ?_
  refine And.intro (by omega) ?_
  refine Exists.intro ((w + 1) + 4 + 2 * (0 + 1), (v + 1) + 4 + 2 * (0 + 1)) (And.intro rfl (And.intro trivial ?_))
  intro z18 σ19 h20
  refine And.intro (by omega) ?_
  refine B rfl ?_
  refine And.intro (fun h21 => (by exfalso; omega)) (fun h21 => ?_)
  refine And.intro (by omega) ?_
  refine And.intro (by omega) ?_
  refine Exists.intro ((w + 1) + 4 + 2 * ((0 + 1) + 1), (v + 1) + 4 + 2 * ((0 + 1) + 1)) (And.intro rfl (And.intro trivial ?_))
  intro z22 σ23 h24
  refine And.intro (by omega) ?_
  refine B rfl ?_
  refine And.intro (fun h25 => ?_) (fun h25 => (by exfalso; omega))
  refine B rfl ?_
  refine Exists.intro 7 (Exists.intro 7 (Exists.intro 1 (Exists.intro 0 (Exists.intro 0 (Exists.intro 48 (Exists.intro 48 (Exists.intro (v + 2) (Exists.intro (w + 2) (Exists.intro 0 (Exists.intro 0 (Exists.intro 48 (And.intro rfl (And.intro rfl (And.intro rfl (And.intro rfl (And.intro (by decide) (And.intro (by omega) ?_)))))))))))))))))
  intro σ26 e27
  refine Exists.intro 8 (Exists.intro 8 (Exists.intro 1 (Exists.intro 0 (Exists.intro 0 (Exists.intro 36 (Exists.intro 36 (Exists.intro (v + 3) (Exists.intro (w + 3) (Exists.intro 0 (Exists.intro 0 (Exists.intro 36 (And.intro rfl (And.intro rfl (And.intro rfl (And.intro rfl (And.intro (by decide) (And.intro (by omega) ?_)))))))))))))))))
  intro σ28 e29
  refine Exists.intro 9 (Exists.intro 9 (Exists.intro 1 (Exists.intro 0 (Exists.intro 0 (Exists.intro 360 (Exists.intro 360 (Exists.intro (v + 4) (Exists.intro (w + 4) (Exists.intro 0 (Exists.intro 0 (Exists.intro 360 (And.intro rfl (And.intro rfl (And.intro rfl (And.intro rfl (And.intro (by decide) (And.intro (by omega) ?_)))))))))))))))))
  intro σ30 e31
  refine Exists.intro 0 (And.intro rfl ?_)
  exact And.intro (fun k j hk => by rw [ac_n e31 (by omega), ac_n e29 (by omega), ac_n e27 (by omega), h24.1 k j (by omega), h20.1 k j (by omega), h16.1 k j (by omega), st_n e12 (by omega), st_n e10 (by omega), st_n e8 (by omega), st_n e6 (by omega), st_n e4 (by omega), st_n e2 (by omega)]) trivial
def as_S_X10_image : Int → List Sv_t := fun a => [(10, 0), (0, a)]
def pre_S_X10_image : Int → Me_t → Prop := fun a σ => FX_ σ
def post_S_X10_image : Int → Me_t → Int → Me_t → Prop := fun a σ z σ' => (∀ k j, 86 ≤ k → σ' k j = σ k j) ∧ (0 ≤ a ∧ a ≤ 2 → z = 0) ∧ (¬ (0 ≤ a ∧ a ≤ 2) → z = -2)
set_option maxHeartbeats 4000000 in
set_option maxRecDepth 100000 in
theorem ct_S_X10_image (l : Launch) : CT_ l yX10_image cX10_image 2 (some .int) 3 83 as_S_X10_image (rmI_) pre_S_X10_image post_S_X10_image := by
  refine ct_of (by decide) (fun _ => Nat.le_refl _) ?_
  intro X G Q ad σ a hl hR E hG R hM hv hp
  obtain ⟨n, rfl⟩ : ∃ q : Int, q = a := ⟨_, rfl⟩
  have r_n : -2147483648 ≤ n ∧ n ≤ 2147483647 := hv (0, n) (List.mem_of_getElem? (i := 1) rfl)
  have B := @bk_ X G Q 0 0 ad SHS_ RX10 cX10_image 2 (some .int) flX10 plX10 knX10 [(788, 2, TR_ as_S_X9_copyOf (rmV_) pre_S_X9_copyOf post_S_X9_copyOf)] _ _ none kX10_image [] flX10_ok plX10_ok knX10_ok eX10_image oX10_image
    (List.forall_mem_cons.mpr ⟨cok_v (t := 5) (c := 9) (N := 10) (n := 1) (idx := 394) E (ct_S_X9_copyOf X.2.1) (by rw [hR]; decide) (Nat.zero_le _) (Nat.zero_le _) hG rfl rfl ⟨rfl, by decide, by decide, by decide⟩ (fun _ => ⟨_, _, rfl, rfl⟩) wl_X10_394 wi_X9_copyOf ws_X9_copyOf wn_X9 wc_X9_copyOf, fun _ h => absurd h List.not_mem_nil⟩) R sok_no E
  show WP_ X G Q 0 0 ad SHS_ σ 0 [(10, 0), (0, n)] []
  have hp : FX_ σ := hp
  obtain ⟨hC, hS, hN0, hN1, hN2, hN3, hN4, hN5, hF, hP, hT, hI, hRW⟩ := id hp
  refine B rfl ?_
  refine And.intro (fun h1 => ?_) (fun h1 => ?_)
  · skip
    refine B rfl ?_
    refine Exists.intro _ (And.intro rfl ?_)
    refine And.intro (fun k j hk => rfl) ?_
    (try dsimp only)
    omega
  · skip
    refine And.intro (fun h2 => ?_) (fun h2 => ?_)
    · skip
      refine B rfl ?_
      refine And.intro (by omega) ?_
      refine Exists.intro (45 + 11 * n, σ 0 2) (And.intro rfl (And.intro (by simp only [pre_S_X9_copyOf]; omega) ?_))
      intro z3 σ4 h5
      refine And.intro (by omega) ?_
      refine And.intro (by show (0 : Int) ≤ _ ∧ _ ≤ (1 : Int); omega) ?_
      intro σ6 e7
      refine Exists.intro _ (And.intro rfl ?_)
      refine And.intro (fun k j hk => by rw [st_n e7 (by omega), h5.1 k j (by omega)]) ?_
      (try dsimp only)
      omega
    · skip
      refine Exists.intro _ (And.intro rfl ?_)
      refine And.intro (fun k j hk => rfl) ?_
      (try dsimp only)
      omega
